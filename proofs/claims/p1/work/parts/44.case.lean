theorem dL_law_1183 : decode cL_law 1183 = .ok (.aload_n 1, 1) := by decide +kernel
theorem dL_law_1184 : decode cL_law 1184 = .ok (.aload_n 0, 1) := by decide +kernel
theorem dL_law_1185 : decode cL_law 1185 = .ok (.iload 5, 2) := by decide +kernel
theorem dL_law_1187 : decode cL_law 1187 = .ok (.iconst 1, 1) := by decide +kernel
theorem dL_law_1188 : decode cL_law 1188 = .ok (.iadd, 1) := by decide +kernel
theorem dL_law_1189 : decode cL_law 1189 = .ok (.iaload, 1) := by decide +kernel
theorem dL_law_1190 : decode cL_law 1190 = .ok (.aload_n 3, 1) := by decide +kernel
theorem dL_law_1191 : decode cL_law 1191 = .ok (.invokestatic 219, 3) := by decide +kernel
theorem dL_law_1194 : decode cL_law 1194 = .ok (.istore 6, 2) := by decide +kernel
theorem dL_law_1196 : decode cL_law 1196 = .ok (.aload_n 2, 1) := by decide +kernel
theorem dL_law_1197 : decode cL_law 1197 = .ok (.aload_n 0, 1) := by decide +kernel
theorem dL_law_1198 : decode cL_law 1198 = .ok (.iload 5, 2) := by decide +kernel
theorem dL_law_1200 : decode cL_law 1200 = .ok (.iconst 1, 1) := by decide +kernel
theorem dL_law_1201 : decode cL_law 1201 = .ok (.iadd, 1) := by decide +kernel
theorem dL_law_1202 : decode cL_law 1202 = .ok (.iaload, 1) := by decide +kernel
theorem dL_law_1203 : decode cL_law 1203 = .ok (.invokevirtual 221, 3) := by decide +kernel
theorem dL_law_1206 : decode cL_law 1206 = .ok (.istore 7, 2) := by decide +kernel
theorem dL_law_1208 : decode cL_law 1208 = .ok (.aload_n 2, 1) := by decide +kernel
theorem dL_law_1209 : decode cL_law 1209 = .ok (.invokevirtual 177, 3) := by decide +kernel
theorem dL_law_1212 : decode cL_law 1212 = .ok (.iload 6, 2) := by decide +kernel
theorem dL_law_1214 : decode cL_law 1214 = .ok (.if_icmp .eq 5, 3) := by decide +kernel
theorem dL_law_1219 : decode cL_law 1219 = .ok (.iload 6, 2) := by decide +kernel
theorem dL_law_1221 : decode cL_law 1221 = .ok (.ifCond .ne 15, 3) := by decide +kernel
theorem dL_law_1236 : decode cL_law 1236 = .ok (.goto 2000, 3) := by decide +kernel
theorem dL_law_1239 : decode cL_law 1239 = .ok (.aload_n 1, 1) := by decide +kernel
theorem dL_law_1240 : decode cL_law 1240 = .ok (.aload_n 0, 1) := by decide +kernel
theorem dL_law_1241 : decode cL_law 1241 = .ok (.iload 5, 2) := by decide +kernel
theorem dL_law_1243 : decode cL_law 1243 = .ok (.iconst 1, 1) := by decide +kernel
theorem dL_law_1244 : decode cL_law 1244 = .ok (.iadd, 1) := by decide +kernel
theorem dL_law_1245 : decode cL_law 1245 = .ok (.iaload, 1) := by decide +kernel
theorem dL_law_1246 : decode cL_law 1246 = .ok (.aload_n 0, 1) := by decide +kernel
theorem dL_law_1247 : decode cL_law 1247 = .ok (.iload 5, 2) := by decide +kernel
theorem dL_law_1249 : decode cL_law 1249 = .ok (.iconst 2, 1) := by decide +kernel
theorem dL_law_1250 : decode cL_law 1250 = .ok (.iadd, 1) := by decide +kernel
theorem dL_law_1251 : decode cL_law 1251 = .ok (.iaload, 1) := by decide +kernel
theorem dL_law_1252 : decode cL_law 1252 = .ok (.aload_n 0, 1) := by decide +kernel
theorem dL_law_1253 : decode cL_law 1253 = .ok (.iload 5, 2) := by decide +kernel
theorem dL_law_1255 : decode cL_law 1255 = .ok (.iconst 3, 1) := by decide +kernel
theorem dL_law_1256 : decode cL_law 1256 = .ok (.iadd, 1) := by decide +kernel
theorem dL_law_1257 : decode cL_law 1257 = .ok (.iaload, 1) := by decide +kernel
theorem dL_law_1258 : decode cL_law 1258 = .ok (.aload_n 3, 1) := by decide +kernel
theorem dL_law_1259 : decode cL_law 1259 = .ok (.invokestatic 222, 3) := by decide +kernel
theorem dL_law_1262 : decode cL_law 1262 = .ok (.istore 6, 2) := by decide +kernel
theorem dL_law_1264 : decode cL_law 1264 = .ok (.aload_n 2, 1) := by decide +kernel
theorem dL_law_1265 : decode cL_law 1265 = .ok (.aload_n 0, 1) := by decide +kernel
theorem dL_law_1266 : decode cL_law 1266 = .ok (.iload 5, 2) := by decide +kernel
theorem dL_law_1268 : decode cL_law 1268 = .ok (.iconst 1, 1) := by decide +kernel
theorem dL_law_1269 : decode cL_law 1269 = .ok (.iadd, 1) := by decide +kernel
theorem dL_law_1270 : decode cL_law 1270 = .ok (.iaload, 1) := by decide +kernel
theorem dL_law_1271 : decode cL_law 1271 = .ok (.aload_n 0, 1) := by decide +kernel
theorem dL_law_1272 : decode cL_law 1272 = .ok (.iload 5, 2) := by decide +kernel
theorem dL_law_1274 : decode cL_law 1274 = .ok (.iconst 2, 1) := by decide +kernel
theorem dL_law_1275 : decode cL_law 1275 = .ok (.iadd, 1) := by decide +kernel
theorem dL_law_1276 : decode cL_law 1276 = .ok (.iaload, 1) := by decide +kernel
theorem dL_law_1277 : decode cL_law 1277 = .ok (.aload_n 0, 1) := by decide +kernel
theorem dL_law_1278 : decode cL_law 1278 = .ok (.iload 5, 2) := by decide +kernel
theorem dL_law_1280 : decode cL_law 1280 = .ok (.iconst 3, 1) := by decide +kernel
theorem dL_law_1281 : decode cL_law 1281 = .ok (.iadd, 1) := by decide +kernel
theorem dL_law_1282 : decode cL_law 1282 = .ok (.iaload, 1) := by decide +kernel
theorem dL_law_1283 : decode cL_law 1283 = .ok (.invokevirtual 224, 3) := by decide +kernel
theorem dL_law_1286 : decode cL_law 1286 = .ok (.istore 7, 2) := by decide +kernel
theorem dL_law_1288 : decode cL_law 1288 = .ok (.aload_n 2, 1) := by decide +kernel
theorem dL_law_1289 : decode cL_law 1289 = .ok (.invokevirtual 177, 3) := by decide +kernel
theorem dL_law_1292 : decode cL_law 1292 = .ok (.iload 6, 2) := by decide +kernel
theorem dL_law_1294 : decode cL_law 1294 = .ok (.if_icmp .eq 5, 3) := by decide +kernel
theorem dL_law_1299 : decode cL_law 1299 = .ok (.iload 6, 2) := by decide +kernel
theorem dL_law_1301 : decode cL_law 1301 = .ok (.ifCond .ne 15, 3) := by decide +kernel
theorem dL_law_1316 : decode cL_law 1316 = .ok (.goto 1920, 3) := by decide +kernel
theorem dL_law_1319 : decode cL_law 1319 = .ok (.aload_n 1, 1) := by decide +kernel
theorem dL_law_1320 : decode cL_law 1320 = .ok (.aload_n 0, 1) := by decide +kernel
theorem dL_law_1321 : decode cL_law 1321 = .ok (.iload 5, 2) := by decide +kernel
theorem dL_law_1323 : decode cL_law 1323 = .ok (.iconst 1, 1) := by decide +kernel
theorem dL_law_1324 : decode cL_law 1324 = .ok (.iadd, 1) := by decide +kernel
theorem dL_law_1325 : decode cL_law 1325 = .ok (.iaload, 1) := by decide +kernel
theorem dL_law_1326 : decode cL_law 1326 = .ok (.aload_n 3, 1) := by decide +kernel
theorem dL_law_1327 : decode cL_law 1327 = .ok (.invokestatic 225, 3) := by decide +kernel
theorem dL_law_1330 : decode cL_law 1330 = .ok (.istore 6, 2) := by decide +kernel
theorem dL_law_1332 : decode cL_law 1332 = .ok (.aload_n 2, 1) := by decide +kernel
theorem dL_law_1333 : decode cL_law 1333 = .ok (.aload_n 0, 1) := by decide +kernel
theorem dL_law_1334 : decode cL_law 1334 = .ok (.iload 5, 2) := by decide +kernel
theorem dL_law_1336 : decode cL_law 1336 = .ok (.iconst 1, 1) := by decide +kernel
theorem dL_law_1337 : decode cL_law 1337 = .ok (.iadd, 1) := by decide +kernel
theorem dL_law_1338 : decode cL_law 1338 = .ok (.iaload, 1) := by decide +kernel
theorem dL_law_1339 : decode cL_law 1339 = .ok (.invokevirtual 227, 3) := by decide +kernel
theorem dL_law_1342 : decode cL_law 1342 = .ok (.istore 7, 2) := by decide +kernel
theorem dL_law_1344 : decode cL_law 1344 = .ok (.aload_n 2, 1) := by decide +kernel
theorem dL_law_1345 : decode cL_law 1345 = .ok (.invokevirtual 177, 3) := by decide +kernel
theorem dL_law_1348 : decode cL_law 1348 = .ok (.iload 6, 2) := by decide +kernel
theorem dL_law_1350 : decode cL_law 1350 = .ok (.if_icmp .eq 5, 3) := by decide +kernel
theorem dL_law_1355 : decode cL_law 1355 = .ok (.iload 6, 2) := by decide +kernel
theorem dL_law_1357 : decode cL_law 1357 = .ok (.ifCond .ne 15, 3) := by decide +kernel
theorem dL_law_1372 : decode cL_law 1372 = .ok (.goto 1864, 3) := by decide +kernel
theorem dL_law_1375 : decode cL_law 1375 = .ok (.aload_n 1, 1) := by decide +kernel
theorem dL_law_1376 : decode cL_law 1376 = .ok (.aload_n 0, 1) := by decide +kernel
theorem dL_law_1377 : decode cL_law 1377 = .ok (.iload 5, 2) := by decide +kernel
theorem dL_law_1379 : decode cL_law 1379 = .ok (.iconst 1, 1) := by decide +kernel
theorem dL_law_1380 : decode cL_law 1380 = .ok (.iadd, 1) := by decide +kernel
theorem dL_law_1381 : decode cL_law 1381 = .ok (.iaload, 1) := by decide +kernel
theorem dL_law_1382 : decode cL_law 1382 = .ok (.aload_n 0, 1) := by decide +kernel
theorem dL_law_1383 : decode cL_law 1383 = .ok (.iload 5, 2) := by decide +kernel
theorem dL_law_1385 : decode cL_law 1385 = .ok (.iconst 2, 1) := by decide +kernel
theorem dL_law_1386 : decode cL_law 1386 = .ok (.iadd, 1) := by decide +kernel
theorem dL_law_1387 : decode cL_law 1387 = .ok (.iaload, 1) := by decide +kernel
theorem dL_law_1388 : decode cL_law 1388 = .ok (.i2c, 1) := by decide +kernel
theorem dL_law_1389 : decode cL_law 1389 = .ok (.aload_n 3, 1) := by decide +kernel
theorem dL_law_1390 : decode cL_law 1390 = .ok (.invokestatic 228, 3) := by decide +kernel
theorem dL_law_1393 : decode cL_law 1393 = .ok (.istore 6, 2) := by decide +kernel
theorem dL_law_1395 : decode cL_law 1395 = .ok (.aload_n 2, 1) := by decide +kernel
theorem dL_law_1396 : decode cL_law 1396 = .ok (.aload_n 0, 1) := by decide +kernel
theorem dL_law_1397 : decode cL_law 1397 = .ok (.iload 5, 2) := by decide +kernel
theorem dL_law_1399 : decode cL_law 1399 = .ok (.iconst 1, 1) := by decide +kernel
theorem dL_law_1400 : decode cL_law 1400 = .ok (.iadd, 1) := by decide +kernel
theorem dL_law_1401 : decode cL_law 1401 = .ok (.iaload, 1) := by decide +kernel
theorem dL_law_1402 : decode cL_law 1402 = .ok (.aload_n 0, 1) := by decide +kernel
theorem dL_law_1403 : decode cL_law 1403 = .ok (.iload 5, 2) := by decide +kernel
theorem dL_law_1405 : decode cL_law 1405 = .ok (.iconst 2, 1) := by decide +kernel
theorem dL_law_1406 : decode cL_law 1406 = .ok (.iadd, 1) := by decide +kernel
theorem dL_law_1407 : decode cL_law 1407 = .ok (.iaload, 1) := by decide +kernel
theorem dL_law_1408 : decode cL_law 1408 = .ok (.i2c, 1) := by decide +kernel
theorem dL_law_1409 : decode cL_law 1409 = .ok (.invokevirtual 231, 3) := by decide +kernel
theorem dL_law_1412 : decode cL_law 1412 = .ok (.istore 7, 2) := by decide +kernel
theorem dL_law_1414 : decode cL_law 1414 = .ok (.aload_n 2, 1) := by decide +kernel
theorem dL_law_1415 : decode cL_law 1415 = .ok (.invokevirtual 177, 3) := by decide +kernel
theorem dL_law_1418 : decode cL_law 1418 = .ok (.iload 6, 2) := by decide +kernel
theorem dL_law_1420 : decode cL_law 1420 = .ok (.if_icmp .eq 5, 3) := by decide +kernel
theorem dL_law_1425 : decode cL_law 1425 = .ok (.iload 6, 2) := by decide +kernel
theorem dL_law_1427 : decode cL_law 1427 = .ok (.ifCond .ne 15, 3) := by decide +kernel
theorem dL_law_1442 : decode cL_law 1442 = .ok (.goto 1794, 3) := by decide +kernel
set_option maxHeartbeats 4000000 in
set_option maxRecDepth 100000 in
theorem lc_12 {p : Program} {l : Launch} {e : Env} {s : State} {m : MethodId} {below : List Frame} {meth : Method} {c : Code} {b : Nat} {xs : Nat → Int32} {de : Nat} {A : Nat → Prop} (C0 : LX p l s m meth c b xs de A) {dC : Nat → ClassId} {dI : Nat → Nat → Nat} {ox pl ru sh sp sl gr re pr ga rp bo fa gpl gin bbe bdi om mt qu lv mi ml mss rn sw mf msp oq od : Nat} {cP cI cS cF cL cE : ClassId} {H : Heap} {locs : List Loc} {ls : Array Slot} (hl : lv_has ls 9 [(5, .int 0), (4, .ref od), (3, .ref oq), (2, .ref om), (1, .ref ox), (0, .ref b)]) (hK : va_K (dC, dI) vwCl [(cP, .object "Levelsmith$Player"), (cI, .int), (cS, .int), (cF, .int), (cL, .long), (cE, .double)] s) (hP : va_P (dC, dI) vwCl (WLL ox pl ru sh sp sl gr re pr ga rp bo fa gpl gin bbe bdi om mt qu lv mi ml mss rn sw mf msp oq od cP cI cS cF cL cE de) H) (hD : va_D A (WLL ox pl ru sh sp sl gr re pr ga rp bo fa gpl gin bbe bdi om mt qu lv mi ml mss rn sw mf msp oq od cP cI cS cF cL cE de)) (hS : va_S A s.heap H locs) : W p l e room_1 s m #[Value.ref b] below meth c H locs 64 1163523 (lw_Z below #[Value.ref b] s) (F0 m 1183 ls []) := by
  have C1 := C0
  obtain ⟨hlt, hx, hb, hr, hml, hown, ht, hX, hbl, hlocks, hG, hA, hAs, hbA⟩ := C0
  replace hP : va_P (dC, dI) vwCl [(ox, .inr (13, [.ref pl, .ref ru, .ref sh, .ref sp, .ref sl, .ref gr, .ref re, .ref pr, .ref ga, .ref rp, .ref bo, .int 0])), (pl, .inr (1, [.int 0, .ref de, .int 0])), (ru, .inr (1, [.int 0, .ref de, .int 0])), (sh, .inr (1, [.int 0, .ref de, .int 0])), (sp, .inl (cP, 6, .inr (.inr (.inr (.inr (fun _ => none)))))), (ga, .inr (5, [.ref gpl, .ref gin, .int (-1), .int 0, .int 112, .int 0])), (bo, .inr (2, [.ref fa, .ref bbe, .ref bdi, .int 0, .int 0])), (fa, .inl (cI, 96, .inl (fun _ => 0))), (om, .inr (20, [.ref mt, .ref qu, .int 0, .int 0, .ref lv, .int (-1), .int 0, .int 0, .ref mi, .int 0, .int 0, .int 0, .int 0, .ref ml, .ref mss, .ref rn, .ref sw, .ref mf, .null, .int 0, .ref msp, .int 0, .int 0, .int 0])), (lv, .inr (1, [.int 0, .ref de, .int 0])), (rn, .inr (1, [.int 0, .ref de, .int 0])), (sw, .inr (1, [.int 0, .ref de, .int 0])), (ml, .inl (cS, 6, .inl (slotF))), (mf, .inl (cF, 96, .inl (fun _ => 0))), (oq, .inl (cL, 1, .inr (.inl (fun _ => 0)))), (od, .inl (cE, 1, .inr (.inr (.inr (.inl (fun _ => 0))))))] H := hP
  replace hD : va_D A [(ox, .inr (13, [.ref pl, .ref ru, .ref sh, .ref sp, .ref sl, .ref gr, .ref re, .ref pr, .ref ga, .ref rp, .ref bo, .int 0])), (pl, .inr (1, [.int 0, .ref de, .int 0])), (ru, .inr (1, [.int 0, .ref de, .int 0])), (sh, .inr (1, [.int 0, .ref de, .int 0])), (sp, .inl (cP, 6, .inr (.inr (.inr (.inr (fun _ => none)))))), (ga, .inr (5, [.ref gpl, .ref gin, .int (-1), .int 0, .int 112, .int 0])), (bo, .inr (2, [.ref fa, .ref bbe, .ref bdi, .int 0, .int 0])), (fa, .inl (cI, 96, .inl (fun _ => 0))), (om, .inr (20, [.ref mt, .ref qu, .int 0, .int 0, .ref lv, .int (-1), .int 0, .int 0, .ref mi, .int 0, .int 0, .int 0, .int 0, .ref ml, .ref mss, .ref rn, .ref sw, .ref mf, .null, .int 0, .ref msp, .int 0, .int 0, .int 0])), (lv, .inr (1, [.int 0, .ref de, .int 0])), (rn, .inr (1, [.int 0, .ref de, .int 0])), (sw, .inr (1, [.int 0, .ref de, .int 0])), (ml, .inl (cS, 6, .inl (slotF))), (mf, .inl (cF, 96, .inl (fun _ => 0))), (oq, .inl (cL, 1, .inr (.inl (fun _ => 0)))), (od, .inl (cE, 1, .inr (.inr (.inr (.inl (fun _ => 0))))))] := hD
  refine lv_aload_n hx hb dL_law_1183 rfl (lv_at hl 4 rfl) ?_
  refine lv_aload_n hx hb dL_law_1184 rfl (lv_at hl 5 rfl) ?_
  refine lv_iload hx hb dL_law_1185 (lv_at hl 0 rfl) ?_
  refine lv_iconst (v := 1) hx hb dL_law_1187 (by decide) ?_
  refine lv_iadd hx hb dL_law_1188 ?_
  refine va_sld hx hb hX hbl hbA hS (by unfold vp_in; decide) dL_law_1189 ?_
  refine lv_topi (fun y ey => ?_)
  replace ey : y = (xs 1) := ey.trans (congrArg xs (by decide))
  subst ey
  refine lv_aload_n hx hb dL_law_1190 rfl (lv_at hl 2 rfl) ?_
  have hPc := hP.sub (ws' := [(ox, .inr (13, [.ref pl, .ref ru, .ref sh, .ref sp, .ref sl, .ref gr, .ref re, .ref pr, .ref ga, .ref rp, .ref bo, .int 0])), (pl, .inr (1, [.int 0, .ref de, .int 0])), (ru, .inr (1, [.int 0, .ref de, .int 0])), (sh, .inr (1, [.int 0, .ref de, .int 0])), (sp, .inl (cP, 6, .inr (.inr (.inr (.inr (fun _ => none)))))), (ga, .inr (5, [.ref gpl, .ref gin, .int (-1), .int 0, .int 112, .int 0])), (bo, .inr (2, [.ref fa, .ref bbe, .ref bdi, .int 0, .int 0])), (fa, .inl (cI, 96, .inl (fun _ => 0))), (oq, .inl (cL, 1, .inr (.inl (fun _ => 0))))]) [0, 1, 2, 3, 4, 5, 6, 7, 14] rfl
  have hDc := hD.sub (ws' := [(ox, .inr (13, [.ref pl, .ref ru, .ref sh, .ref sp, .ref sl, .ref gr, .ref re, .ref pr, .ref ga, .ref rp, .ref bo, .int 0])), (pl, .inr (1, [.int 0, .ref de, .int 0])), (ru, .inr (1, [.int 0, .ref de, .int 0])), (sh, .inr (1, [.int 0, .ref de, .int 0])), (sp, .inl (cP, 6, .inr (.inr (.inr (.inr (fun _ => none)))))), (ga, .inr (5, [.ref gpl, .ref gin, .int (-1), .int 0, .int 112, .int 0])), (bo, .inr (2, [.ref fa, .ref bbe, .ref bdi, .int 0, .int 0])), (fa, .inl (cI, 96, .inl (fun _ => 0))), (oq, .inl (cL, 1, .inr (.inl (fun _ => 0))))]) [0, 1, 2, 3, 4, 5, 6, 7, 14] (by decide) rfl
  have hKc := hK.sub (tys' := [(cP, .object "Levelsmith$Player"), (cI, .int), (cL, .long)]) [0, 1, 4] rfl
  have hFc := va_free (wc := [(ox, .inr (13, [.ref pl, .ref ru, .ref sh, .ref sp, .ref sl, .ref gr, .ref re, .ref pr, .ref ga, .ref rp, .ref bo, .int 0])), (pl, .inr (1, [.int 0, .ref de, .int 0])), (ru, .inr (1, [.int 0, .ref de, .int 0])), (sh, .inr (1, [.int 0, .ref de, .int 0])), (sp, .inl (cP, 6, .inr (.inr (.inr (.inr (fun _ => none)))))), (ga, .inr (5, [.ref gpl, .ref gin, .int (-1), .int 0, .int 112, .int 0])), (bo, .inr (2, [.ref fa, .ref bbe, .ref bdi, .int 0, .int 0])), (fa, .inl (cI, 96, .inl (fun _ => 0))), (oq, .inl (cL, 1, .inr (.inl (fun _ => 0))))]) hD hS hA [0, 1, 2, 3, 4, 5, 6, 7, 14] rfl
  refine vx_calli (vx_runSX (As := [.ref ox, .int (xs 1), .ref oq]) (rest := []) ⟨hx, hb, hml, hown, ht⟩ (c_L_states l hlt dC dI de (ox) (pl) (ru) (sh) (sp) (sl) (gr) (re) (pr) (ga) (rp) (bo) (fa) (gpl) (gin) (bbe) (bdi) (cP) (cI) (oq) (cL) ((xs 1)) H.size) (vx_cwSW 3 ht (gWX (wr_39 _ (List.mem_of_getElem? (i := 17) rfl)) (wr_39 _ (List.mem_of_getElem? (i := 18) rfl)) (wr_9 _ (List.mem_of_getElem? (i := 13) rfl)) (wr_39 _ (List.mem_of_getElem? (i := 19) rfl))) rfl rfl rfl (by decide +kernel) ⟨Nat.le_of_ble_eq_true rfl, Nat.le_of_ble_eq_true rfl⟩) ⟨PW_blind, PW_call hPc hDc hKc hS hG hFc⟩ rfl rfl hl.1 rfl (lv_room (Nat.le_of_ble_eq_true rfl)) dL_law_1191 ⟨Nat.le_of_ble_eq_true rfl, Nat.le_of_ble_eq_true rfl⟩) hS (fun q _ h => hFc q h) hFc (fun q _ h => hFc q h) (fun E ce q9 u t H1 locs1 ht9 hvm9 _ hR9 hz9 hk9 hS9 hc9 hv9 hcl9 => ?_) (fun r_1191 u t H1 locs ht9 hvm hw hB hz1 hk1 hS => ?_)
  · exact False.elim hR9
  · obtain ⟨hP1, hK1, hD1⟩ := hB
    rw [ht9] at hP1
    have hK1 := va_K.moved hvm.symm hK1
    obtain ⟨hP, hD⟩ := va_join (wr := [(om, .inr (20, [.ref mt, .ref qu, .int 0, .int 0, .ref lv, .int (-1), .int 0, .int 0, .ref mi, .int 0, .int 0, .int 0, .int 0, .ref ml, .ref mss, .ref rn, .ref sw, .ref mf, .null, .int 0, .ref msp, .int 0, .int 0, .int 0])), (lv, .inr (1, [.int 0, .ref de, .int 0])), (rn, .inr (1, [.int 0, .ref de, .int 0])), (sw, .inr (1, [.int 0, .ref de, .int 0])), (ml, .inl (cS, 6, .inl (slotF))), (mf, .inl (cF, 96, .inl (fun _ => 0))), (od, .inl (cE, 1, .inr (.inr (.inr (.inl (fun _ => 0))))))]) (w1 := []) hP hD [0, 1, 2, 3, 4, 5, 6, 7, 14] [8, 9, 10, 11, 12, 13, 15] rfl rfl (by decide) (by decide) hk1 hFc hP1 hD1
    have hK := (hK.sub (tys' := [(cS, .int), (cF, .int), (cE, .double)]) [2, 3, 5] rfl).app hK1
    generalize H1 = H at hP hS ⊢
    replace hP : va_P (dC, dI) vwCl [(om, .inr (20, [.ref mt, .ref qu, .int 0, .int 0, .ref lv, .int (-1), .int 0, .int 0, .ref mi, .int 0, .int 0, .int 0, .int 0, .ref ml, .ref mss, .ref rn, .ref sw, .ref mf, .null, .int 0, .ref msp, .int 0, .int 0, .int 0])), (lv, .inr (1, [.int 0, .ref de, .int 0])), (rn, .inr (1, [.int 0, .ref de, .int 0])), (sw, .inr (1, [.int 0, .ref de, .int 0])), (ml, .inl (cS, 6, .inl (slotF))), (mf, .inl (cF, 96, .inl (fun _ => 0))), (od, .inl (cE, 1, .inr (.inr (.inr (.inl (fun _ => 0))))))] H := hP
    replace hD : va_D A [(om, .inr (20, [.ref mt, .ref qu, .int 0, .int 0, .ref lv, .int (-1), .int 0, .int 0, .ref mi, .int 0, .int 0, .int 0, .int 0, .ref ml, .ref mss, .ref rn, .ref sw, .ref mf, .null, .int 0, .ref msp, .int 0, .int 0, .int 0])), (lv, .inr (1, [.int 0, .ref de, .int 0])), (rn, .inr (1, [.int 0, .ref de, .int 0])), (sw, .inr (1, [.int 0, .ref de, .int 0])), (ml, .inl (cS, 6, .inl (slotF))), (mf, .inl (cF, 96, .inl (fun _ => 0))), (od, .inl (cE, 1, .inr (.inr (.inr (.inl (fun _ => 0))))))] := hD
    have hK : va_K (dC, dI) vwCl [(cS, .int), (cF, .int), (cE, .double)] s := hK
    refine W.widen (k := 65) (n := 1163529) (Nat.le_of_ble_eq_true rfl) (Nat.le_of_ble_eq_true rfl) ?_
    have e_1191 : r_1191 = 1 := hw
    subst e_1191
    refine lv_istore (lv' := [(6, .int 1), (5, .int 0), (4, .ref od), (3, .ref oq), (2, .ref om), (1, .ref ox), (0, .ref b)]) hx hb dL_law_1194 hl (by decide) rfl (fun ls hl => ?_)
    refine lv_aload_n hx hb dL_law_1196 rfl (lv_at hl 4 rfl) ?_
    refine lv_aload_n hx hb dL_law_1197 rfl (lv_at hl 6 rfl) ?_
    refine lv_iload hx hb dL_law_1198 (lv_at hl 1 rfl) ?_
    refine lv_iconst (v := 1) hx hb dL_law_1200 (by decide) ?_
    refine lv_iadd hx hb dL_law_1201 ?_
    refine va_sld hx hb hX hbl hbA hS (by unfold vp_in; decide) dL_law_1202 ?_
    refine lv_topi (fun y ey => ?_)
    replace ey : y = (xs 1) := ey.trans (congrArg xs (by decide))
    subst ey
    have hPc := hP.sub (ws' := [(om, .inr (20, [.ref mt, .ref qu, .int 0, .int 0, .ref lv, .int (-1), .int 0, .int 0, .ref mi, .int 0, .int 0, .int 0, .int 0, .ref ml, .ref mss, .ref rn, .ref sw, .ref mf, .null, .int 0, .ref msp, .int 0, .int 0, .int 0])), (lv, .inr (1, [.int 0, .ref de, .int 0])), (rn, .inr (1, [.int 0, .ref de, .int 0])), (sw, .inr (1, [.int 0, .ref de, .int 0])), (ml, .inl (cS, 6, .inl (slotF))), (mf, .inl (cF, 96, .inl (fun _ => 0)))]) [0, 1, 2, 3, 4, 5] rfl
    have hDc := hD.sub (ws' := [(om, .inr (20, [.ref mt, .ref qu, .int 0, .int 0, .ref lv, .int (-1), .int 0, .int 0, .ref mi, .int 0, .int 0, .int 0, .int 0, .ref ml, .ref mss, .ref rn, .ref sw, .ref mf, .null, .int 0, .ref msp, .int 0, .int 0, .int 0])), (lv, .inr (1, [.int 0, .ref de, .int 0])), (rn, .inr (1, [.int 0, .ref de, .int 0])), (sw, .inr (1, [.int 0, .ref de, .int 0])), (ml, .inl (cS, 6, .inl (slotF))), (mf, .inl (cF, 96, .inl (fun _ => 0)))]) [0, 1, 2, 3, 4, 5] (by decide) rfl
    have hKc := hK.sub (tys' := [(cS, .int), (cF, .int)]) [0, 1] rfl
    have hFc := va_free (wc := [(om, .inr (20, [.ref mt, .ref qu, .int 0, .int 0, .ref lv, .int (-1), .int 0, .int 0, .ref mi, .int 0, .int 0, .int 0, .int 0, .ref ml, .ref mss, .ref rn, .ref sw, .ref mf, .null, .int 0, .ref msp, .int 0, .int 0, .int 0])), (lv, .inr (1, [.int 0, .ref de, .int 0])), (rn, .inr (1, [.int 0, .ref de, .int 0])), (sw, .inr (1, [.int 0, .ref de, .int 0])), (ml, .inl (cS, 6, .inl (slotF))), (mf, .inl (cF, 96, .inl (fun _ => 0)))]) hD hS hA [0, 1, 2, 3, 4, 5] rfl
    refine va_calli (va_runV (As := [.int (xs 1)]) (rest := []) ⟨hx, hb, hml, hown, ht⟩ (c_X18_states l dC dI de (om) (mt) (qu) (lv) (mi) (ml) (mss) (rn) (sw) (mf) (msp) (cS) (cF) (0) ((xs 1)) H.size) (cwV 1 ht (gWV (wr_40 _ (List.mem_of_getElem? (i := 4) rfl)) (wr_40 _ (List.mem_of_getElem? (i := 5) rfl)) (wr_40 _ (List.mem_of_getElem? (i := 6) rfl)) (wr_1 _ (List.mem_of_getElem? (i := 5) rfl)) (wr_40 _ (List.mem_of_getElem? (i := 7) rfl))) rfl rfl rfl (by decide +kernel) ⟨Nat.le_of_ble_eq_true rfl, Nat.le_of_ble_eq_true rfl⟩) ⟨PW_blind, va_recv hKc hPc (ci := 20) (q0 := 0) rfl rfl, PW_call hPc hDc hKc hS hG hFc⟩ rfl rfl hl.1 rfl (lv_room (Nat.le_of_ble_eq_true rfl)) dL_law_1203 ⟨Nat.le_of_ble_eq_true rfl, Nat.le_of_ble_eq_true rfl⟩) hS (fun q _ h => hFc q h) hFc (fun r_1203 u t H1 locs ht9 hvm hw hB hz1 hk1 hS => ?_)
    obtain ⟨hP1, hK1, hD1⟩ := hB
    rw [ht9] at hP1
    have hK1 := va_K.moved hvm.symm hK1
    obtain ⟨hP, hD⟩ := va_join (wr := [(od, .inl (cE, 1, .inr (.inr (.inr (.inl (fun _ => 0))))))]) (w1 := [(om, .inr (20, [.ref mt, .ref qu, .int 0, .int 1, .ref lv, .int (-1), .int 0, .int 0, .ref mi, .int 0, .int 0, .int 0, .int 0, .ref ml, .ref mss, .ref rn, .ref sw, .ref mf, .null, .int 0, .ref msp, .int 0, .int 0, .int 0])), (lv, .inr (1, [.int 0, .ref de, .int 0])), (rn, .inr (1, [.int 0, .ref de, .int 0])), (sw, .inr (1, [.int 0, .ref de, .int 0])), (ml, .inl (cS, 6, .inl (slotF))), (mf, .inl (cF, 96, .inl (fun _ => 0)))]) hP hD [0, 1, 2, 3, 4, 5] [6] rfl rfl (by decide) (by decide) hk1 hFc hP1 hD1
    have hK := (hK.sub (tys' := [(cE, .double)]) [2] rfl).app hK1
    generalize H1 = H at hP hS ⊢
    replace hP : va_P (dC, dI) vwCl [(od, .inl (cE, 1, .inr (.inr (.inr (.inl (fun _ => 0)))))), (om, .inr (20, [.ref mt, .ref qu, .int 0, .int 1, .ref lv, .int (-1), .int 0, .int 0, .ref mi, .int 0, .int 0, .int 0, .int 0, .ref ml, .ref mss, .ref rn, .ref sw, .ref mf, .null, .int 0, .ref msp, .int 0, .int 0, .int 0])), (lv, .inr (1, [.int 0, .ref de, .int 0])), (rn, .inr (1, [.int 0, .ref de, .int 0])), (sw, .inr (1, [.int 0, .ref de, .int 0])), (ml, .inl (cS, 6, .inl (slotF))), (mf, .inl (cF, 96, .inl (fun _ => 0)))] H := hP
    replace hD : va_D A [(od, .inl (cE, 1, .inr (.inr (.inr (.inl (fun _ => 0)))))), (om, .inr (20, [.ref mt, .ref qu, .int 0, .int 1, .ref lv, .int (-1), .int 0, .int 0, .ref mi, .int 0, .int 0, .int 0, .int 0, .ref ml, .ref mss, .ref rn, .ref sw, .ref mf, .null, .int 0, .ref msp, .int 0, .int 0, .int 0])), (lv, .inr (1, [.int 0, .ref de, .int 0])), (rn, .inr (1, [.int 0, .ref de, .int 0])), (sw, .inr (1, [.int 0, .ref de, .int 0])), (ml, .inl (cS, 6, .inl (slotF))), (mf, .inl (cF, 96, .inl (fun _ => 0)))] := hD
    have hK : va_K (dC, dI) vwCl [(cE, .double), (cS, .int), (cF, .int)] s := hK
    have hw_1203 := hw
    refine lv_istore (lv' := [(7, .int r_1203), (6, .int 1), (5, .int 0), (4, .ref od), (3, .ref oq), (2, .ref om), (1, .ref ox), (0, .ref b)]) hx hb dL_law_1206 hl (by decide) rfl (fun ls hl => ?_)
    refine lv_aload_n hx hb dL_law_1208 rfl (lv_at hl 5 rfl) ?_
    have hPc := hP.sub (ws' := [(om, .inr (20, [.ref mt, .ref qu, .int 0, .int 1, .ref lv, .int (-1), .int 0, .int 0, .ref mi, .int 0, .int 0, .int 0, .int 0, .ref ml, .ref mss, .ref rn, .ref sw, .ref mf, .null, .int 0, .ref msp, .int 0, .int 0, .int 0]))]) [1] rfl
    have hDc := hD.sub (ws' := [(om, .inr (20, [.ref mt, .ref qu, .int 0, .int 1, .ref lv, .int (-1), .int 0, .int 0, .ref mi, .int 0, .int 0, .int 0, .int 0, .ref ml, .ref mss, .ref rn, .ref sw, .ref mf, .null, .int 0, .ref msp, .int 0, .int 0, .int 0]))]) [1] (by decide) rfl
    have hKc := hK.sub (tys' := []) [] rfl
    have hFc := va_free (wc := [(om, .inr (20, [.ref mt, .ref qu, .int 0, .int 1, .ref lv, .int (-1), .int 0, .int 0, .ref mi, .int 0, .int 0, .int 0, .int 0, .ref ml, .ref mss, .ref rn, .ref sw, .ref mf, .null, .int 0, .ref msp, .int 0, .int 0, .int 0]))]) hD hS hA [1] rfl
    refine va_calli (va_runV (As := []) (rest := []) ⟨hx, hb, hml, hown, ht⟩ (c_thrown1 l dC dI de (om) (mt) (qu) (lv) (mi) (ml) (mss) (rn) (sw) (mf) (msp) (1) H.size) (cwV 0 ht (gWV (wr_18 _ (List.mem_of_getElem? (i := 5) rfl)) (wr_18 _ (List.mem_of_getElem? (i := 6) rfl)) (wr_18 _ (List.mem_of_getElem? (i := 7) rfl)) (wr_1 _ (List.mem_of_getElem? (i := 5) rfl)) (wr_18 _ (List.mem_of_getElem? (i := 8) rfl))) rfl rfl rfl (by decide +kernel) ⟨Nat.le_of_ble_eq_true rfl, Nat.le_of_ble_eq_true rfl⟩) ⟨PW_blind, va_recv hKc hPc (ci := 20) (q0 := 0) rfl rfl, PW_call hPc hDc hKc hS hG hFc⟩ rfl rfl hl.1 rfl (lv_room (Nat.le_of_ble_eq_true rfl)) dL_law_1209 ⟨Nat.le_of_ble_eq_true rfl, Nat.le_of_ble_eq_true rfl⟩) hS (fun q _ h => hFc q h) hFc (fun r_1209 u t H1 locs ht9 hvm hw hB hz1 hk1 hS => ?_)
    obtain ⟨hP1, hK1, hD1⟩ := hB
    rw [ht9] at hP1
    have hK1 := va_K.moved hvm.symm hK1
    obtain ⟨hP, hD⟩ := va_join (wr := [(od, .inl (cE, 1, .inr (.inr (.inr (.inl (fun _ => 0)))))), (lv, .inr (1, [.int 0, .ref de, .int 0])), (rn, .inr (1, [.int 0, .ref de, .int 0])), (sw, .inr (1, [.int 0, .ref de, .int 0])), (ml, .inl (cS, 6, .inl (slotF))), (mf, .inl (cF, 96, .inl (fun _ => 0)))]) (w1 := [(om, .inr (20, [.ref mt, .ref qu, .int 0, .int 1, .ref lv, .int (-1), .int 0, .int 0, .ref mi, .int 0, .int 0, .int 0, .int 0, .ref ml, .ref mss, .ref rn, .ref sw, .ref mf, .null, .int 0, .ref msp, .int 0, .int 0, .int 0]))]) hP hD [1] [0, 2, 3, 4, 5, 6] rfl rfl (by decide) (by decide) hk1 hFc hP1 hD1
    have hK := (hK.sub (tys' := [(cE, .double), (cS, .int), (cF, .int)]) [0, 1, 2] rfl).app hK1
    generalize H1 = H at hP hS ⊢
    replace hP : va_P (dC, dI) vwCl [(od, .inl (cE, 1, .inr (.inr (.inr (.inl (fun _ => 0)))))), (lv, .inr (1, [.int 0, .ref de, .int 0])), (rn, .inr (1, [.int 0, .ref de, .int 0])), (sw, .inr (1, [.int 0, .ref de, .int 0])), (ml, .inl (cS, 6, .inl (slotF))), (mf, .inl (cF, 96, .inl (fun _ => 0))), (om, .inr (20, [.ref mt, .ref qu, .int 0, .int 1, .ref lv, .int (-1), .int 0, .int 0, .ref mi, .int 0, .int 0, .int 0, .int 0, .ref ml, .ref mss, .ref rn, .ref sw, .ref mf, .null, .int 0, .ref msp, .int 0, .int 0, .int 0]))] H := hP
    replace hD : va_D A [(od, .inl (cE, 1, .inr (.inr (.inr (.inl (fun _ => 0)))))), (lv, .inr (1, [.int 0, .ref de, .int 0])), (rn, .inr (1, [.int 0, .ref de, .int 0])), (sw, .inr (1, [.int 0, .ref de, .int 0])), (ml, .inl (cS, 6, .inl (slotF))), (mf, .inl (cF, 96, .inl (fun _ => 0))), (om, .inr (20, [.ref mt, .ref qu, .int 0, .int 1, .ref lv, .int (-1), .int 0, .int 0, .ref mi, .int 0, .int 0, .int 0, .int 0, .ref ml, .ref mss, .ref rn, .ref sw, .ref mf, .null, .int 0, .ref msp, .int 0, .int 0, .int 0]))] := hD
    have hK : va_K (dC, dI) vwCl [(cE, .double), (cS, .int), (cF, .int)] s := hK
    have e_1209 : r_1209 = 1 := hw
    subst e_1209
    refine lv_iload hx hb dL_law_1212 (lv_at hl 1 rfl) ?_
    refine lv_icmp_eq (tgt := 1219) hx hb dL_law_1214 (by decide) (fun c_1214 => ?_) (fun c_1214 => absurd c_1214 (by decide))
    refine lv_iload hx hb dL_law_1219 (lv_at hl 1 rfl) ?_
    refine lv_if_ne (tgt := 1236) hx hb dL_law_1221 (by decide) (fun c_1221 => ?_) (fun c_1221 => absurd c_1221 (by decide))
    refine lv_goto (tgt := 3236) hx hb dL_law_1236 (by decide) ?_
    exact law_end C1 (lv_sub hl [2, 7] rfl) hS (Nat.le_of_ble_eq_true rfl) (Nat.le_of_ble_eq_true rfl)
set_option maxHeartbeats 4000000 in
set_option maxRecDepth 100000 in
theorem lc_13 {p : Program} {l : Launch} {e : Env} {s : State} {m : MethodId} {below : List Frame} {meth : Method} {c : Code} {b : Nat} {xs : Nat → Int32} {de : Nat} {A : Nat → Prop} (C0 : LX p l s m meth c b xs de A) {dC : Nat → ClassId} {dI : Nat → Nat → Nat} {ox pl ru sh sp sl gr re pr ga rp bo fa gpl gin bbe bdi om mt qu lv mi ml mss rn sw mf msp oq od : Nat} {cP cI cS cF cL cE : ClassId} {H : Heap} {locs : List Loc} {ls : Array Slot} (hl : lv_has ls 9 [(5, .int 0), (4, .ref od), (3, .ref oq), (2, .ref om), (1, .ref ox), (0, .ref b)]) (hK : va_K (dC, dI) vwCl [(cP, .object "Levelsmith$Player"), (cI, .int), (cS, .int), (cF, .int), (cL, .long), (cE, .double)] s) (hP : va_P (dC, dI) vwCl (WLL ox pl ru sh sp sl gr re pr ga rp bo fa gpl gin bbe bdi om mt qu lv mi ml mss rn sw mf msp oq od cP cI cS cF cL cE de) H) (hD : va_D A (WLL ox pl ru sh sp sl gr re pr ga rp bo fa gpl gin bbe bdi om mt qu lv mi ml mss rn sw mf msp oq od cP cI cS cF cL cE de)) (hS : va_S A s.heap H locs) : W p l e room_1 s m #[Value.ref b] below meth c H locs 64 1163523 (lw_Z below #[Value.ref b] s) (F0 m 1239 ls []) := by
  have C1 := C0
  obtain ⟨hlt, hx, hb, hr, hml, hown, ht, hX, hbl, hlocks, hG, hA, hAs, hbA⟩ := C0
  replace hP : va_P (dC, dI) vwCl [(ox, .inr (13, [.ref pl, .ref ru, .ref sh, .ref sp, .ref sl, .ref gr, .ref re, .ref pr, .ref ga, .ref rp, .ref bo, .int 0])), (pl, .inr (1, [.int 0, .ref de, .int 0])), (ru, .inr (1, [.int 0, .ref de, .int 0])), (sh, .inr (1, [.int 0, .ref de, .int 0])), (sp, .inl (cP, 6, .inr (.inr (.inr (.inr (fun _ => none)))))), (ga, .inr (5, [.ref gpl, .ref gin, .int (-1), .int 0, .int 112, .int 0])), (bo, .inr (2, [.ref fa, .ref bbe, .ref bdi, .int 0, .int 0])), (fa, .inl (cI, 96, .inl (fun _ => 0))), (om, .inr (20, [.ref mt, .ref qu, .int 0, .int 0, .ref lv, .int (-1), .int 0, .int 0, .ref mi, .int 0, .int 0, .int 0, .int 0, .ref ml, .ref mss, .ref rn, .ref sw, .ref mf, .null, .int 0, .ref msp, .int 0, .int 0, .int 0])), (lv, .inr (1, [.int 0, .ref de, .int 0])), (rn, .inr (1, [.int 0, .ref de, .int 0])), (sw, .inr (1, [.int 0, .ref de, .int 0])), (ml, .inl (cS, 6, .inl (slotF))), (mf, .inl (cF, 96, .inl (fun _ => 0))), (oq, .inl (cL, 1, .inr (.inl (fun _ => 0)))), (od, .inl (cE, 1, .inr (.inr (.inr (.inl (fun _ => 0))))))] H := hP
  replace hD : va_D A [(ox, .inr (13, [.ref pl, .ref ru, .ref sh, .ref sp, .ref sl, .ref gr, .ref re, .ref pr, .ref ga, .ref rp, .ref bo, .int 0])), (pl, .inr (1, [.int 0, .ref de, .int 0])), (ru, .inr (1, [.int 0, .ref de, .int 0])), (sh, .inr (1, [.int 0, .ref de, .int 0])), (sp, .inl (cP, 6, .inr (.inr (.inr (.inr (fun _ => none)))))), (ga, .inr (5, [.ref gpl, .ref gin, .int (-1), .int 0, .int 112, .int 0])), (bo, .inr (2, [.ref fa, .ref bbe, .ref bdi, .int 0, .int 0])), (fa, .inl (cI, 96, .inl (fun _ => 0))), (om, .inr (20, [.ref mt, .ref qu, .int 0, .int 0, .ref lv, .int (-1), .int 0, .int 0, .ref mi, .int 0, .int 0, .int 0, .int 0, .ref ml, .ref mss, .ref rn, .ref sw, .ref mf, .null, .int 0, .ref msp, .int 0, .int 0, .int 0])), (lv, .inr (1, [.int 0, .ref de, .int 0])), (rn, .inr (1, [.int 0, .ref de, .int 0])), (sw, .inr (1, [.int 0, .ref de, .int 0])), (ml, .inl (cS, 6, .inl (slotF))), (mf, .inl (cF, 96, .inl (fun _ => 0))), (oq, .inl (cL, 1, .inr (.inl (fun _ => 0)))), (od, .inl (cE, 1, .inr (.inr (.inr (.inl (fun _ => 0))))))] := hD
  refine lv_aload_n hx hb dL_law_1239 rfl (lv_at hl 4 rfl) ?_
  refine lv_aload_n hx hb dL_law_1240 rfl (lv_at hl 5 rfl) ?_
  refine lv_iload hx hb dL_law_1241 (lv_at hl 0 rfl) ?_
  refine lv_iconst (v := 1) hx hb dL_law_1243 (by decide) ?_
  refine lv_iadd hx hb dL_law_1244 ?_
  refine va_sld hx hb hX hbl hbA hS (by unfold vp_in; decide) dL_law_1245 ?_
  refine lv_topi (fun y ey => ?_)
  replace ey : y = (xs 1) := ey.trans (congrArg xs (by decide))
  subst ey
  refine lv_aload_n hx hb dL_law_1246 rfl (lv_at hl 5 rfl) ?_
  refine lv_iload hx hb dL_law_1247 (lv_at hl 0 rfl) ?_
  refine lv_iconst (v := 2) hx hb dL_law_1249 (by decide) ?_
  refine lv_iadd hx hb dL_law_1250 ?_
  refine va_sld hx hb hX hbl hbA hS (by unfold vp_in; decide) dL_law_1251 ?_
  refine lv_topi (fun y ey => ?_)
  replace ey : y = (xs 2) := ey.trans (congrArg xs (by decide))
  subst ey
  refine lv_aload_n hx hb dL_law_1252 rfl (lv_at hl 5 rfl) ?_
  refine lv_iload hx hb dL_law_1253 (lv_at hl 0 rfl) ?_
  refine lv_iconst (v := 3) hx hb dL_law_1255 (by decide) ?_
  refine lv_iadd hx hb dL_law_1256 ?_
  refine va_sld hx hb hX hbl hbA hS (by unfold vp_in; decide) dL_law_1257 ?_
  refine lv_topi (fun y ey => ?_)
  replace ey : y = (xs 3) := ey.trans (congrArg xs (by decide))
  subst ey
  refine lv_aload_n hx hb dL_law_1258 rfl (lv_at hl 2 rfl) ?_
  have hPc := hP.sub (ws' := [(ox, .inr (13, [.ref pl, .ref ru, .ref sh, .ref sp, .ref sl, .ref gr, .ref re, .ref pr, .ref ga, .ref rp, .ref bo, .int 0])), (pl, .inr (1, [.int 0, .ref de, .int 0])), (ru, .inr (1, [.int 0, .ref de, .int 0])), (sh, .inr (1, [.int 0, .ref de, .int 0])), (sp, .inl (cP, 6, .inr (.inr (.inr (.inr (fun _ => none)))))), (ga, .inr (5, [.ref gpl, .ref gin, .int (-1), .int 0, .int 112, .int 0])), (bo, .inr (2, [.ref fa, .ref bbe, .ref bdi, .int 0, .int 0])), (fa, .inl (cI, 96, .inl (fun _ => 0))), (oq, .inl (cL, 1, .inr (.inl (fun _ => 0))))]) [0, 1, 2, 3, 4, 5, 6, 7, 14] rfl
  have hDc := hD.sub (ws' := [(ox, .inr (13, [.ref pl, .ref ru, .ref sh, .ref sp, .ref sl, .ref gr, .ref re, .ref pr, .ref ga, .ref rp, .ref bo, .int 0])), (pl, .inr (1, [.int 0, .ref de, .int 0])), (ru, .inr (1, [.int 0, .ref de, .int 0])), (sh, .inr (1, [.int 0, .ref de, .int 0])), (sp, .inl (cP, 6, .inr (.inr (.inr (.inr (fun _ => none)))))), (ga, .inr (5, [.ref gpl, .ref gin, .int (-1), .int 0, .int 112, .int 0])), (bo, .inr (2, [.ref fa, .ref bbe, .ref bdi, .int 0, .int 0])), (fa, .inl (cI, 96, .inl (fun _ => 0))), (oq, .inl (cL, 1, .inr (.inl (fun _ => 0))))]) [0, 1, 2, 3, 4, 5, 6, 7, 14] (by decide) rfl
  have hKc := hK.sub (tys' := [(cP, .object "Levelsmith$Player"), (cI, .int), (cL, .long)]) [0, 1, 4] rfl
  have hFc := va_free (wc := [(ox, .inr (13, [.ref pl, .ref ru, .ref sh, .ref sp, .ref sl, .ref gr, .ref re, .ref pr, .ref ga, .ref rp, .ref bo, .int 0])), (pl, .inr (1, [.int 0, .ref de, .int 0])), (ru, .inr (1, [.int 0, .ref de, .int 0])), (sh, .inr (1, [.int 0, .ref de, .int 0])), (sp, .inl (cP, 6, .inr (.inr (.inr (.inr (fun _ => none)))))), (ga, .inr (5, [.ref gpl, .ref gin, .int (-1), .int 0, .int 112, .int 0])), (bo, .inr (2, [.ref fa, .ref bbe, .ref bdi, .int 0, .int 0])), (fa, .inl (cI, 96, .inl (fun _ => 0))), (oq, .inl (cL, 1, .inr (.inl (fun _ => 0))))]) hD hS hA [0, 1, 2, 3, 4, 5, 6, 7, 14] rfl
  refine vx_calli (vx_runSX (As := [.ref ox, .int (xs 1), .int (xs 2), .int (xs 3), .ref oq]) (rest := []) ⟨hx, hb, hml, hown, ht⟩ (c_L_framesTo l hlt dC dI de (ox) (pl) (ru) (sh) (sp) (sl) (gr) (re) (pr) (ga) (rp) (bo) (fa) (gpl) (gin) (bbe) (bdi) (cP) (cI) (oq) (cL) ((xs 1)) ((xs 2)) ((xs 3)) H.size) (vx_cwSW 5 ht (gWX (wr_40 _ (List.mem_of_getElem? (i := 8) rfl)) (wr_40 _ (List.mem_of_getElem? (i := 9) rfl)) (wr_9 _ (List.mem_of_getElem? (i := 13) rfl)) (wr_40 _ (List.mem_of_getElem? (i := 10) rfl))) rfl rfl rfl (by decide +kernel) ⟨Nat.le_of_ble_eq_true rfl, Nat.le_of_ble_eq_true rfl⟩) ⟨PW_blind, PW_call hPc hDc hKc hS hG hFc⟩ rfl rfl hl.1 rfl (lv_room (Nat.le_of_ble_eq_true rfl)) dL_law_1259 ⟨Nat.le_of_ble_eq_true rfl, Nat.le_of_ble_eq_true rfl⟩) hS (fun q _ h => hFc q h) hFc (fun q _ h => hFc q h) (fun E ce q9 u t H1 locs1 ht9 hvm9 _ hR9 hz9 hk9 hS9 hc9 hv9 hcl9 => ?_) (fun r_1259 u t H1 locs ht9 hvm hw hB hz1 hk1 hS => ?_)
  · exact False.elim hR9
  · obtain ⟨hP1, hK1, hD1⟩ := hB
    rw [ht9] at hP1
    have hK1 := va_K.moved hvm.symm hK1
    obtain ⟨hP, hD⟩ := va_join (wr := [(om, .inr (20, [.ref mt, .ref qu, .int 0, .int 0, .ref lv, .int (-1), .int 0, .int 0, .ref mi, .int 0, .int 0, .int 0, .int 0, .ref ml, .ref mss, .ref rn, .ref sw, .ref mf, .null, .int 0, .ref msp, .int 0, .int 0, .int 0])), (lv, .inr (1, [.int 0, .ref de, .int 0])), (rn, .inr (1, [.int 0, .ref de, .int 0])), (sw, .inr (1, [.int 0, .ref de, .int 0])), (ml, .inl (cS, 6, .inl (slotF))), (mf, .inl (cF, 96, .inl (fun _ => 0))), (od, .inl (cE, 1, .inr (.inr (.inr (.inl (fun _ => 0))))))]) (w1 := []) hP hD [0, 1, 2, 3, 4, 5, 6, 7, 14] [8, 9, 10, 11, 12, 13, 15] rfl rfl (by decide) (by decide) hk1 hFc hP1 hD1
    have hK := (hK.sub (tys' := [(cS, .int), (cF, .int), (cE, .double)]) [2, 3, 5] rfl).app hK1
    generalize H1 = H at hP hS ⊢
    replace hP : va_P (dC, dI) vwCl [(om, .inr (20, [.ref mt, .ref qu, .int 0, .int 0, .ref lv, .int (-1), .int 0, .int 0, .ref mi, .int 0, .int 0, .int 0, .int 0, .ref ml, .ref mss, .ref rn, .ref sw, .ref mf, .null, .int 0, .ref msp, .int 0, .int 0, .int 0])), (lv, .inr (1, [.int 0, .ref de, .int 0])), (rn, .inr (1, [.int 0, .ref de, .int 0])), (sw, .inr (1, [.int 0, .ref de, .int 0])), (ml, .inl (cS, 6, .inl (slotF))), (mf, .inl (cF, 96, .inl (fun _ => 0))), (od, .inl (cE, 1, .inr (.inr (.inr (.inl (fun _ => 0))))))] H := hP
    replace hD : va_D A [(om, .inr (20, [.ref mt, .ref qu, .int 0, .int 0, .ref lv, .int (-1), .int 0, .int 0, .ref mi, .int 0, .int 0, .int 0, .int 0, .ref ml, .ref mss, .ref rn, .ref sw, .ref mf, .null, .int 0, .ref msp, .int 0, .int 0, .int 0])), (lv, .inr (1, [.int 0, .ref de, .int 0])), (rn, .inr (1, [.int 0, .ref de, .int 0])), (sw, .inr (1, [.int 0, .ref de, .int 0])), (ml, .inl (cS, 6, .inl (slotF))), (mf, .inl (cF, 96, .inl (fun _ => 0))), (od, .inl (cE, 1, .inr (.inr (.inr (.inl (fun _ => 0))))))] := hD
    have hK : va_K (dC, dI) vwCl [(cS, .int), (cF, .int), (cE, .double)] s := hK
    refine W.widen (k := 65) (n := 1163529) (Nat.le_of_ble_eq_true rfl) (Nat.le_of_ble_eq_true rfl) ?_
    have e_1259 : r_1259 = 1 := hw
    subst e_1259
    refine lv_istore (lv' := [(6, .int 1), (5, .int 0), (4, .ref od), (3, .ref oq), (2, .ref om), (1, .ref ox), (0, .ref b)]) hx hb dL_law_1262 hl (by decide) rfl (fun ls hl => ?_)
    refine lv_aload_n hx hb dL_law_1264 rfl (lv_at hl 4 rfl) ?_
    refine lv_aload_n hx hb dL_law_1265 rfl (lv_at hl 6 rfl) ?_
    refine lv_iload hx hb dL_law_1266 (lv_at hl 1 rfl) ?_
    refine lv_iconst (v := 1) hx hb dL_law_1268 (by decide) ?_
    refine lv_iadd hx hb dL_law_1269 ?_
    refine va_sld hx hb hX hbl hbA hS (by unfold vp_in; decide) dL_law_1270 ?_
    refine lv_topi (fun y ey => ?_)
    replace ey : y = (xs 1) := ey.trans (congrArg xs (by decide))
    subst ey
    refine lv_aload_n hx hb dL_law_1271 rfl (lv_at hl 6 rfl) ?_
    refine lv_iload hx hb dL_law_1272 (lv_at hl 1 rfl) ?_
    refine lv_iconst (v := 2) hx hb dL_law_1274 (by decide) ?_
    refine lv_iadd hx hb dL_law_1275 ?_
    refine va_sld hx hb hX hbl hbA hS (by unfold vp_in; decide) dL_law_1276 ?_
    refine lv_topi (fun y ey => ?_)
    replace ey : y = (xs 2) := ey.trans (congrArg xs (by decide))
    subst ey
    refine lv_aload_n hx hb dL_law_1277 rfl (lv_at hl 6 rfl) ?_
    refine lv_iload hx hb dL_law_1278 (lv_at hl 1 rfl) ?_
    refine lv_iconst (v := 3) hx hb dL_law_1280 (by decide) ?_
    refine lv_iadd hx hb dL_law_1281 ?_
    refine va_sld hx hb hX hbl hbA hS (by unfold vp_in; decide) dL_law_1282 ?_
    refine lv_topi (fun y ey => ?_)
    replace ey : y = (xs 3) := ey.trans (congrArg xs (by decide))
    subst ey
    have hPc := hP.sub (ws' := [(om, .inr (20, [.ref mt, .ref qu, .int 0, .int 0, .ref lv, .int (-1), .int 0, .int 0, .ref mi, .int 0, .int 0, .int 0, .int 0, .ref ml, .ref mss, .ref rn, .ref sw, .ref mf, .null, .int 0, .ref msp, .int 0, .int 0, .int 0])), (lv, .inr (1, [.int 0, .ref de, .int 0])), (rn, .inr (1, [.int 0, .ref de, .int 0])), (sw, .inr (1, [.int 0, .ref de, .int 0])), (ml, .inl (cS, 6, .inl (slotF))), (mf, .inl (cF, 96, .inl (fun _ => 0)))]) [0, 1, 2, 3, 4, 5] rfl
    have hDc := hD.sub (ws' := [(om, .inr (20, [.ref mt, .ref qu, .int 0, .int 0, .ref lv, .int (-1), .int 0, .int 0, .ref mi, .int 0, .int 0, .int 0, .int 0, .ref ml, .ref mss, .ref rn, .ref sw, .ref mf, .null, .int 0, .ref msp, .int 0, .int 0, .int 0])), (lv, .inr (1, [.int 0, .ref de, .int 0])), (rn, .inr (1, [.int 0, .ref de, .int 0])), (sw, .inr (1, [.int 0, .ref de, .int 0])), (ml, .inl (cS, 6, .inl (slotF))), (mf, .inl (cF, 96, .inl (fun _ => 0)))]) [0, 1, 2, 3, 4, 5] (by decide) rfl
    have hKc := hK.sub (tys' := [(cS, .int), (cF, .int)]) [0, 1] rfl
    have hFc := va_free (wc := [(om, .inr (20, [.ref mt, .ref qu, .int 0, .int 0, .ref lv, .int (-1), .int 0, .int 0, .ref mi, .int 0, .int 0, .int 0, .int 0, .ref ml, .ref mss, .ref rn, .ref sw, .ref mf, .null, .int 0, .ref msp, .int 0, .int 0, .int 0])), (lv, .inr (1, [.int 0, .ref de, .int 0])), (rn, .inr (1, [.int 0, .ref de, .int 0])), (sw, .inr (1, [.int 0, .ref de, .int 0])), (ml, .inl (cS, 6, .inl (slotF))), (mf, .inl (cF, 96, .inl (fun _ => 0)))]) hD hS hA [0, 1, 2, 3, 4, 5] rfl
    refine va_calli (va_runV (As := [.int (xs 1), .int (xs 2), .int (xs 3)]) (rest := []) ⟨hx, hb, hml, hown, ht⟩ (c_X18_framesTo l dC dI de (om) (mt) (qu) (lv) (mi) (ml) (mss) (rn) (sw) (mf) (msp) (cS) (cF) (0) ((xs 1)) ((xs 2)) ((xs 3)) H.size) (cwV 3 ht (gWV (wr_40 _ (List.mem_of_getElem? (i := 20) rfl)) (wr_40 _ (List.mem_of_getElem? (i := 21) rfl)) (wr_40 _ (List.mem_of_getElem? (i := 22) rfl)) (wr_1 _ (List.mem_of_getElem? (i := 5) rfl)) (wr_40 _ (List.mem_of_getElem? (i := 23) rfl))) rfl rfl rfl (by decide +kernel) ⟨Nat.le_of_ble_eq_true rfl, Nat.le_of_ble_eq_true rfl⟩) ⟨PW_blind, va_recv hKc hPc (ci := 20) (q0 := 0) rfl rfl, PW_call hPc hDc hKc hS hG hFc⟩ rfl rfl hl.1 rfl (lv_room (Nat.le_of_ble_eq_true rfl)) dL_law_1283 ⟨Nat.le_of_ble_eq_true rfl, Nat.le_of_ble_eq_true rfl⟩) hS (fun q _ h => hFc q h) hFc (fun r_1283 u t H1 locs ht9 hvm hw hB hz1 hk1 hS => ?_)
    obtain ⟨hP1, hK1, hD1⟩ := hB
    rw [ht9] at hP1
    have hK1 := va_K.moved hvm.symm hK1
    obtain ⟨hP, hD⟩ := va_join (wr := [(od, .inl (cE, 1, .inr (.inr (.inr (.inl (fun _ => 0))))))]) (w1 := [(om, .inr (20, [.ref mt, .ref qu, .int 0, .int 1, .ref lv, .int (-1), .int 0, .int 0, .ref mi, .int 0, .int 0, .int 0, .int 0, .ref ml, .ref mss, .ref rn, .ref sw, .ref mf, .null, .int 0, .ref msp, .int 0, .int 0, .int 0])), (lv, .inr (1, [.int 0, .ref de, .int 0])), (rn, .inr (1, [.int 0, .ref de, .int 0])), (sw, .inr (1, [.int 0, .ref de, .int 0])), (ml, .inl (cS, 6, .inl (slotF))), (mf, .inl (cF, 96, .inl (fun _ => 0)))]) hP hD [0, 1, 2, 3, 4, 5] [6] rfl rfl (by decide) (by decide) hk1 hFc hP1 hD1
    have hK := (hK.sub (tys' := [(cE, .double)]) [2] rfl).app hK1
    generalize H1 = H at hP hS ⊢
    replace hP : va_P (dC, dI) vwCl [(od, .inl (cE, 1, .inr (.inr (.inr (.inl (fun _ => 0)))))), (om, .inr (20, [.ref mt, .ref qu, .int 0, .int 1, .ref lv, .int (-1), .int 0, .int 0, .ref mi, .int 0, .int 0, .int 0, .int 0, .ref ml, .ref mss, .ref rn, .ref sw, .ref mf, .null, .int 0, .ref msp, .int 0, .int 0, .int 0])), (lv, .inr (1, [.int 0, .ref de, .int 0])), (rn, .inr (1, [.int 0, .ref de, .int 0])), (sw, .inr (1, [.int 0, .ref de, .int 0])), (ml, .inl (cS, 6, .inl (slotF))), (mf, .inl (cF, 96, .inl (fun _ => 0)))] H := hP
    replace hD : va_D A [(od, .inl (cE, 1, .inr (.inr (.inr (.inl (fun _ => 0)))))), (om, .inr (20, [.ref mt, .ref qu, .int 0, .int 1, .ref lv, .int (-1), .int 0, .int 0, .ref mi, .int 0, .int 0, .int 0, .int 0, .ref ml, .ref mss, .ref rn, .ref sw, .ref mf, .null, .int 0, .ref msp, .int 0, .int 0, .int 0])), (lv, .inr (1, [.int 0, .ref de, .int 0])), (rn, .inr (1, [.int 0, .ref de, .int 0])), (sw, .inr (1, [.int 0, .ref de, .int 0])), (ml, .inl (cS, 6, .inl (slotF))), (mf, .inl (cF, 96, .inl (fun _ => 0)))] := hD
    have hK : va_K (dC, dI) vwCl [(cE, .double), (cS, .int), (cF, .int)] s := hK
    have hw_1283 := hw
    refine lv_istore (lv' := [(7, .int r_1283), (6, .int 1), (5, .int 0), (4, .ref od), (3, .ref oq), (2, .ref om), (1, .ref ox), (0, .ref b)]) hx hb dL_law_1286 hl (by decide) rfl (fun ls hl => ?_)
    refine lv_aload_n hx hb dL_law_1288 rfl (lv_at hl 5 rfl) ?_
    have hPc := hP.sub (ws' := [(om, .inr (20, [.ref mt, .ref qu, .int 0, .int 1, .ref lv, .int (-1), .int 0, .int 0, .ref mi, .int 0, .int 0, .int 0, .int 0, .ref ml, .ref mss, .ref rn, .ref sw, .ref mf, .null, .int 0, .ref msp, .int 0, .int 0, .int 0]))]) [1] rfl
    have hDc := hD.sub (ws' := [(om, .inr (20, [.ref mt, .ref qu, .int 0, .int 1, .ref lv, .int (-1), .int 0, .int 0, .ref mi, .int 0, .int 0, .int 0, .int 0, .ref ml, .ref mss, .ref rn, .ref sw, .ref mf, .null, .int 0, .ref msp, .int 0, .int 0, .int 0]))]) [1] (by decide) rfl
    have hKc := hK.sub (tys' := []) [] rfl
    have hFc := va_free (wc := [(om, .inr (20, [.ref mt, .ref qu, .int 0, .int 1, .ref lv, .int (-1), .int 0, .int 0, .ref mi, .int 0, .int 0, .int 0, .int 0, .ref ml, .ref mss, .ref rn, .ref sw, .ref mf, .null, .int 0, .ref msp, .int 0, .int 0, .int 0]))]) hD hS hA [1] rfl
    refine va_calli (va_runV (As := []) (rest := []) ⟨hx, hb, hml, hown, ht⟩ (c_thrown1 l dC dI de (om) (mt) (qu) (lv) (mi) (ml) (mss) (rn) (sw) (mf) (msp) (1) H.size) (cwV 0 ht (gWV (wr_18 _ (List.mem_of_getElem? (i := 5) rfl)) (wr_18 _ (List.mem_of_getElem? (i := 6) rfl)) (wr_18 _ (List.mem_of_getElem? (i := 7) rfl)) (wr_1 _ (List.mem_of_getElem? (i := 5) rfl)) (wr_18 _ (List.mem_of_getElem? (i := 8) rfl))) rfl rfl rfl (by decide +kernel) ⟨Nat.le_of_ble_eq_true rfl, Nat.le_of_ble_eq_true rfl⟩) ⟨PW_blind, va_recv hKc hPc (ci := 20) (q0 := 0) rfl rfl, PW_call hPc hDc hKc hS hG hFc⟩ rfl rfl hl.1 rfl (lv_room (Nat.le_of_ble_eq_true rfl)) dL_law_1289 ⟨Nat.le_of_ble_eq_true rfl, Nat.le_of_ble_eq_true rfl⟩) hS (fun q _ h => hFc q h) hFc (fun r_1289 u t H1 locs ht9 hvm hw hB hz1 hk1 hS => ?_)
    obtain ⟨hP1, hK1, hD1⟩ := hB
    rw [ht9] at hP1
    have hK1 := va_K.moved hvm.symm hK1
    obtain ⟨hP, hD⟩ := va_join (wr := [(od, .inl (cE, 1, .inr (.inr (.inr (.inl (fun _ => 0)))))), (lv, .inr (1, [.int 0, .ref de, .int 0])), (rn, .inr (1, [.int 0, .ref de, .int 0])), (sw, .inr (1, [.int 0, .ref de, .int 0])), (ml, .inl (cS, 6, .inl (slotF))), (mf, .inl (cF, 96, .inl (fun _ => 0)))]) (w1 := [(om, .inr (20, [.ref mt, .ref qu, .int 0, .int 1, .ref lv, .int (-1), .int 0, .int 0, .ref mi, .int 0, .int 0, .int 0, .int 0, .ref ml, .ref mss, .ref rn, .ref sw, .ref mf, .null, .int 0, .ref msp, .int 0, .int 0, .int 0]))]) hP hD [1] [0, 2, 3, 4, 5, 6] rfl rfl (by decide) (by decide) hk1 hFc hP1 hD1
    have hK := (hK.sub (tys' := [(cE, .double), (cS, .int), (cF, .int)]) [0, 1, 2] rfl).app hK1
    generalize H1 = H at hP hS ⊢
    replace hP : va_P (dC, dI) vwCl [(od, .inl (cE, 1, .inr (.inr (.inr (.inl (fun _ => 0)))))), (lv, .inr (1, [.int 0, .ref de, .int 0])), (rn, .inr (1, [.int 0, .ref de, .int 0])), (sw, .inr (1, [.int 0, .ref de, .int 0])), (ml, .inl (cS, 6, .inl (slotF))), (mf, .inl (cF, 96, .inl (fun _ => 0))), (om, .inr (20, [.ref mt, .ref qu, .int 0, .int 1, .ref lv, .int (-1), .int 0, .int 0, .ref mi, .int 0, .int 0, .int 0, .int 0, .ref ml, .ref mss, .ref rn, .ref sw, .ref mf, .null, .int 0, .ref msp, .int 0, .int 0, .int 0]))] H := hP
    replace hD : va_D A [(od, .inl (cE, 1, .inr (.inr (.inr (.inl (fun _ => 0)))))), (lv, .inr (1, [.int 0, .ref de, .int 0])), (rn, .inr (1, [.int 0, .ref de, .int 0])), (sw, .inr (1, [.int 0, .ref de, .int 0])), (ml, .inl (cS, 6, .inl (slotF))), (mf, .inl (cF, 96, .inl (fun _ => 0))), (om, .inr (20, [.ref mt, .ref qu, .int 0, .int 1, .ref lv, .int (-1), .int 0, .int 0, .ref mi, .int 0, .int 0, .int 0, .int 0, .ref ml, .ref mss, .ref rn, .ref sw, .ref mf, .null, .int 0, .ref msp, .int 0, .int 0, .int 0]))] := hD
    have hK : va_K (dC, dI) vwCl [(cE, .double), (cS, .int), (cF, .int)] s := hK
    have e_1289 : r_1289 = 1 := hw
    subst e_1289
    refine lv_iload hx hb dL_law_1292 (lv_at hl 1 rfl) ?_
    refine lv_icmp_eq (tgt := 1299) hx hb dL_law_1294 (by decide) (fun c_1294 => ?_) (fun c_1294 => absurd c_1294 (by decide))
    refine lv_iload hx hb dL_law_1299 (lv_at hl 1 rfl) ?_
    refine lv_if_ne (tgt := 1316) hx hb dL_law_1301 (by decide) (fun c_1301 => ?_) (fun c_1301 => absurd c_1301 (by decide))
    refine lv_goto (tgt := 3236) hx hb dL_law_1316 (by decide) ?_
    exact law_end C1 (lv_sub hl [2, 7] rfl) hS (Nat.le_of_ble_eq_true rfl) (Nat.le_of_ble_eq_true rfl)
set_option maxHeartbeats 4000000 in
set_option maxRecDepth 100000 in
theorem lc_14 {p : Program} {l : Launch} {e : Env} {s : State} {m : MethodId} {below : List Frame} {meth : Method} {c : Code} {b : Nat} {xs : Nat → Int32} {de : Nat} {A : Nat → Prop} (C0 : LX p l s m meth c b xs de A) {dC : Nat → ClassId} {dI : Nat → Nat → Nat} {ox pl ru sh sp sl gr re pr ga rp bo fa gpl gin bbe bdi om mt qu lv mi ml mss rn sw mf msp oq od : Nat} {cP cI cS cF cL cE : ClassId} {H : Heap} {locs : List Loc} {ls : Array Slot} (hl : lv_has ls 9 [(5, .int 0), (4, .ref od), (3, .ref oq), (2, .ref om), (1, .ref ox), (0, .ref b)]) (hK : va_K (dC, dI) vwCl [(cP, .object "Levelsmith$Player"), (cI, .int), (cS, .int), (cF, .int), (cL, .long), (cE, .double)] s) (hP : va_P (dC, dI) vwCl (WLL ox pl ru sh sp sl gr re pr ga rp bo fa gpl gin bbe bdi om mt qu lv mi ml mss rn sw mf msp oq od cP cI cS cF cL cE de) H) (hD : va_D A (WLL ox pl ru sh sp sl gr re pr ga rp bo fa gpl gin bbe bdi om mt qu lv mi ml mss rn sw mf msp oq od cP cI cS cF cL cE de)) (hS : va_S A s.heap H locs) : W p l e room_1 s m #[Value.ref b] below meth c H locs 64 1163523 (lw_Z below #[Value.ref b] s) (F0 m 1319 ls []) := by
  have C1 := C0
  obtain ⟨hlt, hx, hb, hr, hml, hown, ht, hX, hbl, hlocks, hG, hA, hAs, hbA⟩ := C0
  replace hP : va_P (dC, dI) vwCl [(ox, .inr (13, [.ref pl, .ref ru, .ref sh, .ref sp, .ref sl, .ref gr, .ref re, .ref pr, .ref ga, .ref rp, .ref bo, .int 0])), (pl, .inr (1, [.int 0, .ref de, .int 0])), (ru, .inr (1, [.int 0, .ref de, .int 0])), (sh, .inr (1, [.int 0, .ref de, .int 0])), (sp, .inl (cP, 6, .inr (.inr (.inr (.inr (fun _ => none)))))), (ga, .inr (5, [.ref gpl, .ref gin, .int (-1), .int 0, .int 112, .int 0])), (bo, .inr (2, [.ref fa, .ref bbe, .ref bdi, .int 0, .int 0])), (fa, .inl (cI, 96, .inl (fun _ => 0))), (om, .inr (20, [.ref mt, .ref qu, .int 0, .int 0, .ref lv, .int (-1), .int 0, .int 0, .ref mi, .int 0, .int 0, .int 0, .int 0, .ref ml, .ref mss, .ref rn, .ref sw, .ref mf, .null, .int 0, .ref msp, .int 0, .int 0, .int 0])), (lv, .inr (1, [.int 0, .ref de, .int 0])), (rn, .inr (1, [.int 0, .ref de, .int 0])), (sw, .inr (1, [.int 0, .ref de, .int 0])), (ml, .inl (cS, 6, .inl (slotF))), (mf, .inl (cF, 96, .inl (fun _ => 0))), (oq, .inl (cL, 1, .inr (.inl (fun _ => 0)))), (od, .inl (cE, 1, .inr (.inr (.inr (.inl (fun _ => 0))))))] H := hP
  replace hD : va_D A [(ox, .inr (13, [.ref pl, .ref ru, .ref sh, .ref sp, .ref sl, .ref gr, .ref re, .ref pr, .ref ga, .ref rp, .ref bo, .int 0])), (pl, .inr (1, [.int 0, .ref de, .int 0])), (ru, .inr (1, [.int 0, .ref de, .int 0])), (sh, .inr (1, [.int 0, .ref de, .int 0])), (sp, .inl (cP, 6, .inr (.inr (.inr (.inr (fun _ => none)))))), (ga, .inr (5, [.ref gpl, .ref gin, .int (-1), .int 0, .int 112, .int 0])), (bo, .inr (2, [.ref fa, .ref bbe, .ref bdi, .int 0, .int 0])), (fa, .inl (cI, 96, .inl (fun _ => 0))), (om, .inr (20, [.ref mt, .ref qu, .int 0, .int 0, .ref lv, .int (-1), .int 0, .int 0, .ref mi, .int 0, .int 0, .int 0, .int 0, .ref ml, .ref mss, .ref rn, .ref sw, .ref mf, .null, .int 0, .ref msp, .int 0, .int 0, .int 0])), (lv, .inr (1, [.int 0, .ref de, .int 0])), (rn, .inr (1, [.int 0, .ref de, .int 0])), (sw, .inr (1, [.int 0, .ref de, .int 0])), (ml, .inl (cS, 6, .inl (slotF))), (mf, .inl (cF, 96, .inl (fun _ => 0))), (oq, .inl (cL, 1, .inr (.inl (fun _ => 0)))), (od, .inl (cE, 1, .inr (.inr (.inr (.inl (fun _ => 0))))))] := hD
  refine lv_aload_n hx hb dL_law_1319 rfl (lv_at hl 4 rfl) ?_
  refine lv_aload_n hx hb dL_law_1320 rfl (lv_at hl 5 rfl) ?_
  refine lv_iload hx hb dL_law_1321 (lv_at hl 0 rfl) ?_
  refine lv_iconst (v := 1) hx hb dL_law_1323 (by decide) ?_
  refine lv_iadd hx hb dL_law_1324 ?_
  refine va_sld hx hb hX hbl hbA hS (by unfold vp_in; decide) dL_law_1325 ?_
  refine lv_topi (fun y ey => ?_)
  replace ey : y = (xs 1) := ey.trans (congrArg xs (by decide))
  subst ey
  refine lv_aload_n hx hb dL_law_1326 rfl (lv_at hl 2 rfl) ?_
  have hPc := hP.sub (ws' := [(ox, .inr (13, [.ref pl, .ref ru, .ref sh, .ref sp, .ref sl, .ref gr, .ref re, .ref pr, .ref ga, .ref rp, .ref bo, .int 0])), (pl, .inr (1, [.int 0, .ref de, .int 0])), (ru, .inr (1, [.int 0, .ref de, .int 0])), (sh, .inr (1, [.int 0, .ref de, .int 0])), (sp, .inl (cP, 6, .inr (.inr (.inr (.inr (fun _ => none)))))), (ga, .inr (5, [.ref gpl, .ref gin, .int (-1), .int 0, .int 112, .int 0])), (bo, .inr (2, [.ref fa, .ref bbe, .ref bdi, .int 0, .int 0])), (fa, .inl (cI, 96, .inl (fun _ => 0))), (oq, .inl (cL, 1, .inr (.inl (fun _ => 0))))]) [0, 1, 2, 3, 4, 5, 6, 7, 14] rfl
  have hDc := hD.sub (ws' := [(ox, .inr (13, [.ref pl, .ref ru, .ref sh, .ref sp, .ref sl, .ref gr, .ref re, .ref pr, .ref ga, .ref rp, .ref bo, .int 0])), (pl, .inr (1, [.int 0, .ref de, .int 0])), (ru, .inr (1, [.int 0, .ref de, .int 0])), (sh, .inr (1, [.int 0, .ref de, .int 0])), (sp, .inl (cP, 6, .inr (.inr (.inr (.inr (fun _ => none)))))), (ga, .inr (5, [.ref gpl, .ref gin, .int (-1), .int 0, .int 112, .int 0])), (bo, .inr (2, [.ref fa, .ref bbe, .ref bdi, .int 0, .int 0])), (fa, .inl (cI, 96, .inl (fun _ => 0))), (oq, .inl (cL, 1, .inr (.inl (fun _ => 0))))]) [0, 1, 2, 3, 4, 5, 6, 7, 14] (by decide) rfl
  have hKc := hK.sub (tys' := [(cP, .object "Levelsmith$Player"), (cI, .int), (cL, .long)]) [0, 1, 4] rfl
  have hFc := va_free (wc := [(ox, .inr (13, [.ref pl, .ref ru, .ref sh, .ref sp, .ref sl, .ref gr, .ref re, .ref pr, .ref ga, .ref rp, .ref bo, .int 0])), (pl, .inr (1, [.int 0, .ref de, .int 0])), (ru, .inr (1, [.int 0, .ref de, .int 0])), (sh, .inr (1, [.int 0, .ref de, .int 0])), (sp, .inl (cP, 6, .inr (.inr (.inr (.inr (fun _ => none)))))), (ga, .inr (5, [.ref gpl, .ref gin, .int (-1), .int 0, .int 112, .int 0])), (bo, .inr (2, [.ref fa, .ref bbe, .ref bdi, .int 0, .int 0])), (fa, .inl (cI, 96, .inl (fun _ => 0))), (oq, .inl (cL, 1, .inr (.inl (fun _ => 0))))]) hD hS hA [0, 1, 2, 3, 4, 5, 6, 7, 14] rfl
  refine vx_calli (vx_runSX (As := [.ref ox, .int (xs 1), .ref oq]) (rest := []) ⟨hx, hb, hml, hown, ht⟩ (c_L_softLocks l hlt dC dI de (ox) (pl) (ru) (sh) (sp) (sl) (gr) (re) (pr) (ga) (rp) (bo) (fa) (gpl) (gin) (bbe) (bdi) (cP) (cI) (oq) (cL) ((xs 1)) H.size) (vx_cwSW 3 ht (gWX (wr_41 _ (List.mem_of_getElem? (i := 0) rfl)) (wr_41 _ (List.mem_of_getElem? (i := 1) rfl)) (wr_9 _ (List.mem_of_getElem? (i := 13) rfl)) (wr_41 _ (List.mem_of_getElem? (i := 2) rfl))) rfl rfl rfl (by decide +kernel) ⟨Nat.le_of_ble_eq_true rfl, Nat.le_of_ble_eq_true rfl⟩) ⟨PW_blind, PW_call hPc hDc hKc hS hG hFc⟩ rfl rfl hl.1 rfl (lv_room (Nat.le_of_ble_eq_true rfl)) dL_law_1327 ⟨Nat.le_of_ble_eq_true rfl, Nat.le_of_ble_eq_true rfl⟩) hS (fun q _ h => hFc q h) hFc (fun q _ h => hFc q h) (fun E ce q9 u t H1 locs1 ht9 hvm9 _ hR9 hz9 hk9 hS9 hc9 hv9 hcl9 => ?_) (fun r_1327 u t H1 locs ht9 hvm hw hB hz1 hk1 hS => ?_)
  · exact False.elim hR9
  · obtain ⟨hP1, hK1, hD1⟩ := hB
    rw [ht9] at hP1
    have hK1 := va_K.moved hvm.symm hK1
    obtain ⟨hP, hD⟩ := va_join (wr := [(om, .inr (20, [.ref mt, .ref qu, .int 0, .int 0, .ref lv, .int (-1), .int 0, .int 0, .ref mi, .int 0, .int 0, .int 0, .int 0, .ref ml, .ref mss, .ref rn, .ref sw, .ref mf, .null, .int 0, .ref msp, .int 0, .int 0, .int 0])), (lv, .inr (1, [.int 0, .ref de, .int 0])), (rn, .inr (1, [.int 0, .ref de, .int 0])), (sw, .inr (1, [.int 0, .ref de, .int 0])), (ml, .inl (cS, 6, .inl (slotF))), (mf, .inl (cF, 96, .inl (fun _ => 0))), (od, .inl (cE, 1, .inr (.inr (.inr (.inl (fun _ => 0))))))]) (w1 := []) hP hD [0, 1, 2, 3, 4, 5, 6, 7, 14] [8, 9, 10, 11, 12, 13, 15] rfl rfl (by decide) (by decide) hk1 hFc hP1 hD1
    have hK := (hK.sub (tys' := [(cS, .int), (cF, .int), (cE, .double)]) [2, 3, 5] rfl).app hK1
    generalize H1 = H at hP hS ⊢
    replace hP : va_P (dC, dI) vwCl [(om, .inr (20, [.ref mt, .ref qu, .int 0, .int 0, .ref lv, .int (-1), .int 0, .int 0, .ref mi, .int 0, .int 0, .int 0, .int 0, .ref ml, .ref mss, .ref rn, .ref sw, .ref mf, .null, .int 0, .ref msp, .int 0, .int 0, .int 0])), (lv, .inr (1, [.int 0, .ref de, .int 0])), (rn, .inr (1, [.int 0, .ref de, .int 0])), (sw, .inr (1, [.int 0, .ref de, .int 0])), (ml, .inl (cS, 6, .inl (slotF))), (mf, .inl (cF, 96, .inl (fun _ => 0))), (od, .inl (cE, 1, .inr (.inr (.inr (.inl (fun _ => 0))))))] H := hP
    replace hD : va_D A [(om, .inr (20, [.ref mt, .ref qu, .int 0, .int 0, .ref lv, .int (-1), .int 0, .int 0, .ref mi, .int 0, .int 0, .int 0, .int 0, .ref ml, .ref mss, .ref rn, .ref sw, .ref mf, .null, .int 0, .ref msp, .int 0, .int 0, .int 0])), (lv, .inr (1, [.int 0, .ref de, .int 0])), (rn, .inr (1, [.int 0, .ref de, .int 0])), (sw, .inr (1, [.int 0, .ref de, .int 0])), (ml, .inl (cS, 6, .inl (slotF))), (mf, .inl (cF, 96, .inl (fun _ => 0))), (od, .inl (cE, 1, .inr (.inr (.inr (.inl (fun _ => 0))))))] := hD
    have hK : va_K (dC, dI) vwCl [(cS, .int), (cF, .int), (cE, .double)] s := hK
    refine W.widen (k := 65) (n := 1163529) (Nat.le_of_ble_eq_true rfl) (Nat.le_of_ble_eq_true rfl) ?_
    have e_1327 : r_1327 = 1 := hw
    subst e_1327
    refine lv_istore (lv' := [(6, .int 1), (5, .int 0), (4, .ref od), (3, .ref oq), (2, .ref om), (1, .ref ox), (0, .ref b)]) hx hb dL_law_1330 hl (by decide) rfl (fun ls hl => ?_)
    refine lv_aload_n hx hb dL_law_1332 rfl (lv_at hl 4 rfl) ?_
    refine lv_aload_n hx hb dL_law_1333 rfl (lv_at hl 6 rfl) ?_
    refine lv_iload hx hb dL_law_1334 (lv_at hl 1 rfl) ?_
    refine lv_iconst (v := 1) hx hb dL_law_1336 (by decide) ?_
    refine lv_iadd hx hb dL_law_1337 ?_
    refine va_sld hx hb hX hbl hbA hS (by unfold vp_in; decide) dL_law_1338 ?_
    refine lv_topi (fun y ey => ?_)
    replace ey : y = (xs 1) := ey.trans (congrArg xs (by decide))
    subst ey
    have hPc := hP.sub (ws' := [(om, .inr (20, [.ref mt, .ref qu, .int 0, .int 0, .ref lv, .int (-1), .int 0, .int 0, .ref mi, .int 0, .int 0, .int 0, .int 0, .ref ml, .ref mss, .ref rn, .ref sw, .ref mf, .null, .int 0, .ref msp, .int 0, .int 0, .int 0])), (lv, .inr (1, [.int 0, .ref de, .int 0])), (rn, .inr (1, [.int 0, .ref de, .int 0])), (sw, .inr (1, [.int 0, .ref de, .int 0])), (ml, .inl (cS, 6, .inl (slotF))), (mf, .inl (cF, 96, .inl (fun _ => 0)))]) [0, 1, 2, 3, 4, 5] rfl
    have hDc := hD.sub (ws' := [(om, .inr (20, [.ref mt, .ref qu, .int 0, .int 0, .ref lv, .int (-1), .int 0, .int 0, .ref mi, .int 0, .int 0, .int 0, .int 0, .ref ml, .ref mss, .ref rn, .ref sw, .ref mf, .null, .int 0, .ref msp, .int 0, .int 0, .int 0])), (lv, .inr (1, [.int 0, .ref de, .int 0])), (rn, .inr (1, [.int 0, .ref de, .int 0])), (sw, .inr (1, [.int 0, .ref de, .int 0])), (ml, .inl (cS, 6, .inl (slotF))), (mf, .inl (cF, 96, .inl (fun _ => 0)))]) [0, 1, 2, 3, 4, 5] (by decide) rfl
    have hKc := hK.sub (tys' := [(cS, .int), (cF, .int)]) [0, 1] rfl
    have hFc := va_free (wc := [(om, .inr (20, [.ref mt, .ref qu, .int 0, .int 0, .ref lv, .int (-1), .int 0, .int 0, .ref mi, .int 0, .int 0, .int 0, .int 0, .ref ml, .ref mss, .ref rn, .ref sw, .ref mf, .null, .int 0, .ref msp, .int 0, .int 0, .int 0])), (lv, .inr (1, [.int 0, .ref de, .int 0])), (rn, .inr (1, [.int 0, .ref de, .int 0])), (sw, .inr (1, [.int 0, .ref de, .int 0])), (ml, .inl (cS, 6, .inl (slotF))), (mf, .inl (cF, 96, .inl (fun _ => 0)))]) hD hS hA [0, 1, 2, 3, 4, 5] rfl
    refine va_calli (va_runV (As := [.int (xs 1)]) (rest := []) ⟨hx, hb, hml, hown, ht⟩ (c_X18_softLocks l dC dI de (om) (mt) (qu) (lv) (mi) (ml) (mss) (rn) (sw) (mf) (msp) (cS) (cF) (0) ((xs 1)) H.size) (cwV 1 ht (gWV (wr_42 _ (List.mem_of_getElem? (i := 12) rfl)) (wr_42 _ (List.mem_of_getElem? (i := 13) rfl)) (wr_42 _ (List.mem_of_getElem? (i := 14) rfl)) (wr_1 _ (List.mem_of_getElem? (i := 5) rfl)) (wr_42 _ (List.mem_of_getElem? (i := 15) rfl))) rfl rfl rfl (by decide +kernel) ⟨Nat.le_of_ble_eq_true rfl, Nat.le_of_ble_eq_true rfl⟩) ⟨PW_blind, va_recv hKc hPc (ci := 20) (q0 := 0) rfl rfl, PW_call hPc hDc hKc hS hG hFc⟩ rfl rfl hl.1 rfl (lv_room (Nat.le_of_ble_eq_true rfl)) dL_law_1339 ⟨Nat.le_of_ble_eq_true rfl, Nat.le_of_ble_eq_true rfl⟩) hS (fun q _ h => hFc q h) hFc (fun r_1339 u t H1 locs ht9 hvm hw hB hz1 hk1 hS => ?_)
    obtain ⟨hP1, hK1, hD1⟩ := hB
    rw [ht9] at hP1
    have hK1 := va_K.moved hvm.symm hK1
    obtain ⟨hP, hD⟩ := va_join (wr := [(od, .inl (cE, 1, .inr (.inr (.inr (.inl (fun _ => 0))))))]) (w1 := [(om, .inr (20, [.ref mt, .ref qu, .int 0, .int 1, .ref lv, .int (-1), .int 0, .int 0, .ref mi, .int 0, .int 0, .int 0, .int 0, .ref ml, .ref mss, .ref rn, .ref sw, .ref mf, .null, .int 0, .ref msp, .int 0, .int 0, .int 0])), (lv, .inr (1, [.int 0, .ref de, .int 0])), (rn, .inr (1, [.int 0, .ref de, .int 0])), (sw, .inr (1, [.int 0, .ref de, .int 0])), (ml, .inl (cS, 6, .inl (slotF))), (mf, .inl (cF, 96, .inl (fun _ => 0)))]) hP hD [0, 1, 2, 3, 4, 5] [6] rfl rfl (by decide) (by decide) hk1 hFc hP1 hD1
    have hK := (hK.sub (tys' := [(cE, .double)]) [2] rfl).app hK1
    generalize H1 = H at hP hS ⊢
    replace hP : va_P (dC, dI) vwCl [(od, .inl (cE, 1, .inr (.inr (.inr (.inl (fun _ => 0)))))), (om, .inr (20, [.ref mt, .ref qu, .int 0, .int 1, .ref lv, .int (-1), .int 0, .int 0, .ref mi, .int 0, .int 0, .int 0, .int 0, .ref ml, .ref mss, .ref rn, .ref sw, .ref mf, .null, .int 0, .ref msp, .int 0, .int 0, .int 0])), (lv, .inr (1, [.int 0, .ref de, .int 0])), (rn, .inr (1, [.int 0, .ref de, .int 0])), (sw, .inr (1, [.int 0, .ref de, .int 0])), (ml, .inl (cS, 6, .inl (slotF))), (mf, .inl (cF, 96, .inl (fun _ => 0)))] H := hP
    replace hD : va_D A [(od, .inl (cE, 1, .inr (.inr (.inr (.inl (fun _ => 0)))))), (om, .inr (20, [.ref mt, .ref qu, .int 0, .int 1, .ref lv, .int (-1), .int 0, .int 0, .ref mi, .int 0, .int 0, .int 0, .int 0, .ref ml, .ref mss, .ref rn, .ref sw, .ref mf, .null, .int 0, .ref msp, .int 0, .int 0, .int 0])), (lv, .inr (1, [.int 0, .ref de, .int 0])), (rn, .inr (1, [.int 0, .ref de, .int 0])), (sw, .inr (1, [.int 0, .ref de, .int 0])), (ml, .inl (cS, 6, .inl (slotF))), (mf, .inl (cF, 96, .inl (fun _ => 0)))] := hD
    have hK : va_K (dC, dI) vwCl [(cE, .double), (cS, .int), (cF, .int)] s := hK
    have hw_1339 := hw
    refine lv_istore (lv' := [(7, .int r_1339), (6, .int 1), (5, .int 0), (4, .ref od), (3, .ref oq), (2, .ref om), (1, .ref ox), (0, .ref b)]) hx hb dL_law_1342 hl (by decide) rfl (fun ls hl => ?_)
    refine lv_aload_n hx hb dL_law_1344 rfl (lv_at hl 5 rfl) ?_
    have hPc := hP.sub (ws' := [(om, .inr (20, [.ref mt, .ref qu, .int 0, .int 1, .ref lv, .int (-1), .int 0, .int 0, .ref mi, .int 0, .int 0, .int 0, .int 0, .ref ml, .ref mss, .ref rn, .ref sw, .ref mf, .null, .int 0, .ref msp, .int 0, .int 0, .int 0]))]) [1] rfl
    have hDc := hD.sub (ws' := [(om, .inr (20, [.ref mt, .ref qu, .int 0, .int 1, .ref lv, .int (-1), .int 0, .int 0, .ref mi, .int 0, .int 0, .int 0, .int 0, .ref ml, .ref mss, .ref rn, .ref sw, .ref mf, .null, .int 0, .ref msp, .int 0, .int 0, .int 0]))]) [1] (by decide) rfl
    have hKc := hK.sub (tys' := []) [] rfl
    have hFc := va_free (wc := [(om, .inr (20, [.ref mt, .ref qu, .int 0, .int 1, .ref lv, .int (-1), .int 0, .int 0, .ref mi, .int 0, .int 0, .int 0, .int 0, .ref ml, .ref mss, .ref rn, .ref sw, .ref mf, .null, .int 0, .ref msp, .int 0, .int 0, .int 0]))]) hD hS hA [1] rfl
    refine va_calli (va_runV (As := []) (rest := []) ⟨hx, hb, hml, hown, ht⟩ (c_thrown1 l dC dI de (om) (mt) (qu) (lv) (mi) (ml) (mss) (rn) (sw) (mf) (msp) (1) H.size) (cwV 0 ht (gWV (wr_18 _ (List.mem_of_getElem? (i := 5) rfl)) (wr_18 _ (List.mem_of_getElem? (i := 6) rfl)) (wr_18 _ (List.mem_of_getElem? (i := 7) rfl)) (wr_1 _ (List.mem_of_getElem? (i := 5) rfl)) (wr_18 _ (List.mem_of_getElem? (i := 8) rfl))) rfl rfl rfl (by decide +kernel) ⟨Nat.le_of_ble_eq_true rfl, Nat.le_of_ble_eq_true rfl⟩) ⟨PW_blind, va_recv hKc hPc (ci := 20) (q0 := 0) rfl rfl, PW_call hPc hDc hKc hS hG hFc⟩ rfl rfl hl.1 rfl (lv_room (Nat.le_of_ble_eq_true rfl)) dL_law_1345 ⟨Nat.le_of_ble_eq_true rfl, Nat.le_of_ble_eq_true rfl⟩) hS (fun q _ h => hFc q h) hFc (fun r_1345 u t H1 locs ht9 hvm hw hB hz1 hk1 hS => ?_)
    obtain ⟨hP1, hK1, hD1⟩ := hB
    rw [ht9] at hP1
    have hK1 := va_K.moved hvm.symm hK1
    obtain ⟨hP, hD⟩ := va_join (wr := [(od, .inl (cE, 1, .inr (.inr (.inr (.inl (fun _ => 0)))))), (lv, .inr (1, [.int 0, .ref de, .int 0])), (rn, .inr (1, [.int 0, .ref de, .int 0])), (sw, .inr (1, [.int 0, .ref de, .int 0])), (ml, .inl (cS, 6, .inl (slotF))), (mf, .inl (cF, 96, .inl (fun _ => 0)))]) (w1 := [(om, .inr (20, [.ref mt, .ref qu, .int 0, .int 1, .ref lv, .int (-1), .int 0, .int 0, .ref mi, .int 0, .int 0, .int 0, .int 0, .ref ml, .ref mss, .ref rn, .ref sw, .ref mf, .null, .int 0, .ref msp, .int 0, .int 0, .int 0]))]) hP hD [1] [0, 2, 3, 4, 5, 6] rfl rfl (by decide) (by decide) hk1 hFc hP1 hD1
    have hK := (hK.sub (tys' := [(cE, .double), (cS, .int), (cF, .int)]) [0, 1, 2] rfl).app hK1
    generalize H1 = H at hP hS ⊢
    replace hP : va_P (dC, dI) vwCl [(od, .inl (cE, 1, .inr (.inr (.inr (.inl (fun _ => 0)))))), (lv, .inr (1, [.int 0, .ref de, .int 0])), (rn, .inr (1, [.int 0, .ref de, .int 0])), (sw, .inr (1, [.int 0, .ref de, .int 0])), (ml, .inl (cS, 6, .inl (slotF))), (mf, .inl (cF, 96, .inl (fun _ => 0))), (om, .inr (20, [.ref mt, .ref qu, .int 0, .int 1, .ref lv, .int (-1), .int 0, .int 0, .ref mi, .int 0, .int 0, .int 0, .int 0, .ref ml, .ref mss, .ref rn, .ref sw, .ref mf, .null, .int 0, .ref msp, .int 0, .int 0, .int 0]))] H := hP
    replace hD : va_D A [(od, .inl (cE, 1, .inr (.inr (.inr (.inl (fun _ => 0)))))), (lv, .inr (1, [.int 0, .ref de, .int 0])), (rn, .inr (1, [.int 0, .ref de, .int 0])), (sw, .inr (1, [.int 0, .ref de, .int 0])), (ml, .inl (cS, 6, .inl (slotF))), (mf, .inl (cF, 96, .inl (fun _ => 0))), (om, .inr (20, [.ref mt, .ref qu, .int 0, .int 1, .ref lv, .int (-1), .int 0, .int 0, .ref mi, .int 0, .int 0, .int 0, .int 0, .ref ml, .ref mss, .ref rn, .ref sw, .ref mf, .null, .int 0, .ref msp, .int 0, .int 0, .int 0]))] := hD
    have hK : va_K (dC, dI) vwCl [(cE, .double), (cS, .int), (cF, .int)] s := hK
    have e_1345 : r_1345 = 1 := hw
    subst e_1345
    refine lv_iload hx hb dL_law_1348 (lv_at hl 1 rfl) ?_
    refine lv_icmp_eq (tgt := 1355) hx hb dL_law_1350 (by decide) (fun c_1350 => ?_) (fun c_1350 => absurd c_1350 (by decide))
    refine lv_iload hx hb dL_law_1355 (lv_at hl 1 rfl) ?_
    refine lv_if_ne (tgt := 1372) hx hb dL_law_1357 (by decide) (fun c_1357 => ?_) (fun c_1357 => absurd c_1357 (by decide))
    refine lv_goto (tgt := 3236) hx hb dL_law_1372 (by decide) ?_
    exact law_end C1 (lv_sub hl [2, 7] rfl) hS (Nat.le_of_ble_eq_true rfl) (Nat.le_of_ble_eq_true rfl)
set_option maxHeartbeats 4000000 in
set_option maxRecDepth 100000 in
theorem lc_15 {p : Program} {l : Launch} {e : Env} {s : State} {m : MethodId} {below : List Frame} {meth : Method} {c : Code} {b : Nat} {xs : Nat → Int32} {de : Nat} {A : Nat → Prop} (C0 : LX p l s m meth c b xs de A) {dC : Nat → ClassId} {dI : Nat → Nat → Nat} {ox pl ru sh sp sl gr re pr ga rp bo fa gpl gin bbe bdi om mt qu lv mi ml mss rn sw mf msp oq od : Nat} {cP cI cS cF cL cE : ClassId} {H : Heap} {locs : List Loc} {ls : Array Slot} (hl : lv_has ls 9 [(5, .int 0), (4, .ref od), (3, .ref oq), (2, .ref om), (1, .ref ox), (0, .ref b)]) (hK : va_K (dC, dI) vwCl [(cP, .object "Levelsmith$Player"), (cI, .int), (cS, .int), (cF, .int), (cL, .long), (cE, .double)] s) (hP : va_P (dC, dI) vwCl (WLL ox pl ru sh sp sl gr re pr ga rp bo fa gpl gin bbe bdi om mt qu lv mi ml mss rn sw mf msp oq od cP cI cS cF cL cE de) H) (hD : va_D A (WLL ox pl ru sh sp sl gr re pr ga rp bo fa gpl gin bbe bdi om mt qu lv mi ml mss rn sw mf msp oq od cP cI cS cF cL cE de)) (hS : va_S A s.heap H locs) : W p l e room_1 s m #[Value.ref b] below meth c H locs 64 1163523 (lw_Z below #[Value.ref b] s) (F0 m 1375 ls []) := by
  have C1 := C0
  obtain ⟨hlt, hx, hb, hr, hml, hown, ht, hX, hbl, hlocks, hG, hA, hAs, hbA⟩ := C0
  replace hP : va_P (dC, dI) vwCl [(ox, .inr (13, [.ref pl, .ref ru, .ref sh, .ref sp, .ref sl, .ref gr, .ref re, .ref pr, .ref ga, .ref rp, .ref bo, .int 0])), (pl, .inr (1, [.int 0, .ref de, .int 0])), (ru, .inr (1, [.int 0, .ref de, .int 0])), (sh, .inr (1, [.int 0, .ref de, .int 0])), (sp, .inl (cP, 6, .inr (.inr (.inr (.inr (fun _ => none)))))), (ga, .inr (5, [.ref gpl, .ref gin, .int (-1), .int 0, .int 112, .int 0])), (bo, .inr (2, [.ref fa, .ref bbe, .ref bdi, .int 0, .int 0])), (fa, .inl (cI, 96, .inl (fun _ => 0))), (om, .inr (20, [.ref mt, .ref qu, .int 0, .int 0, .ref lv, .int (-1), .int 0, .int 0, .ref mi, .int 0, .int 0, .int 0, .int 0, .ref ml, .ref mss, .ref rn, .ref sw, .ref mf, .null, .int 0, .ref msp, .int 0, .int 0, .int 0])), (lv, .inr (1, [.int 0, .ref de, .int 0])), (rn, .inr (1, [.int 0, .ref de, .int 0])), (sw, .inr (1, [.int 0, .ref de, .int 0])), (ml, .inl (cS, 6, .inl (slotF))), (mf, .inl (cF, 96, .inl (fun _ => 0))), (oq, .inl (cL, 1, .inr (.inl (fun _ => 0)))), (od, .inl (cE, 1, .inr (.inr (.inr (.inl (fun _ => 0))))))] H := hP
  replace hD : va_D A [(ox, .inr (13, [.ref pl, .ref ru, .ref sh, .ref sp, .ref sl, .ref gr, .ref re, .ref pr, .ref ga, .ref rp, .ref bo, .int 0])), (pl, .inr (1, [.int 0, .ref de, .int 0])), (ru, .inr (1, [.int 0, .ref de, .int 0])), (sh, .inr (1, [.int 0, .ref de, .int 0])), (sp, .inl (cP, 6, .inr (.inr (.inr (.inr (fun _ => none)))))), (ga, .inr (5, [.ref gpl, .ref gin, .int (-1), .int 0, .int 112, .int 0])), (bo, .inr (2, [.ref fa, .ref bbe, .ref bdi, .int 0, .int 0])), (fa, .inl (cI, 96, .inl (fun _ => 0))), (om, .inr (20, [.ref mt, .ref qu, .int 0, .int 0, .ref lv, .int (-1), .int 0, .int 0, .ref mi, .int 0, .int 0, .int 0, .int 0, .ref ml, .ref mss, .ref rn, .ref sw, .ref mf, .null, .int 0, .ref msp, .int 0, .int 0, .int 0])), (lv, .inr (1, [.int 0, .ref de, .int 0])), (rn, .inr (1, [.int 0, .ref de, .int 0])), (sw, .inr (1, [.int 0, .ref de, .int 0])), (ml, .inl (cS, 6, .inl (slotF))), (mf, .inl (cF, 96, .inl (fun _ => 0))), (oq, .inl (cL, 1, .inr (.inl (fun _ => 0)))), (od, .inl (cE, 1, .inr (.inr (.inr (.inl (fun _ => 0))))))] := hD
  refine lv_aload_n hx hb dL_law_1375 rfl (lv_at hl 4 rfl) ?_
  refine lv_aload_n hx hb dL_law_1376 rfl (lv_at hl 5 rfl) ?_
  refine lv_iload hx hb dL_law_1377 (lv_at hl 0 rfl) ?_
  refine lv_iconst (v := 1) hx hb dL_law_1379 (by decide) ?_
  refine lv_iadd hx hb dL_law_1380 ?_
  refine va_sld hx hb hX hbl hbA hS (by unfold vp_in; decide) dL_law_1381 ?_
  refine lv_topi (fun y ey => ?_)
  replace ey : y = (xs 1) := ey.trans (congrArg xs (by decide))
  subst ey
  refine lv_aload_n hx hb dL_law_1382 rfl (lv_at hl 5 rfl) ?_
  refine lv_iload hx hb dL_law_1383 (lv_at hl 0 rfl) ?_
  refine lv_iconst (v := 2) hx hb dL_law_1385 (by decide) ?_
  refine lv_iadd hx hb dL_law_1386 ?_
  refine va_sld hx hb hX hbl hbA hS (by unfold vp_in; decide) dL_law_1387 ?_
  refine lv_topi (fun y ey => ?_)
  replace ey : y = (xs 2) := ey.trans (congrArg xs (by decide))
  subst ey
  refine lv_i2c (v := (((xs 2)).toUInt32 % 65536).toInt32) hx hb dL_law_1388 rfl ?_
  refine lv_aload_n hx hb dL_law_1389 rfl (lv_at hl 2 rfl) ?_
  have hPc := hP.sub (ws' := [(ox, .inr (13, [.ref pl, .ref ru, .ref sh, .ref sp, .ref sl, .ref gr, .ref re, .ref pr, .ref ga, .ref rp, .ref bo, .int 0])), (pl, .inr (1, [.int 0, .ref de, .int 0])), (ru, .inr (1, [.int 0, .ref de, .int 0])), (sh, .inr (1, [.int 0, .ref de, .int 0])), (sp, .inl (cP, 6, .inr (.inr (.inr (.inr (fun _ => none)))))), (ga, .inr (5, [.ref gpl, .ref gin, .int (-1), .int 0, .int 112, .int 0])), (bo, .inr (2, [.ref fa, .ref bbe, .ref bdi, .int 0, .int 0])), (fa, .inl (cI, 96, .inl (fun _ => 0))), (oq, .inl (cL, 1, .inr (.inl (fun _ => 0))))]) [0, 1, 2, 3, 4, 5, 6, 7, 14] rfl
  have hDc := hD.sub (ws' := [(ox, .inr (13, [.ref pl, .ref ru, .ref sh, .ref sp, .ref sl, .ref gr, .ref re, .ref pr, .ref ga, .ref rp, .ref bo, .int 0])), (pl, .inr (1, [.int 0, .ref de, .int 0])), (ru, .inr (1, [.int 0, .ref de, .int 0])), (sh, .inr (1, [.int 0, .ref de, .int 0])), (sp, .inl (cP, 6, .inr (.inr (.inr (.inr (fun _ => none)))))), (ga, .inr (5, [.ref gpl, .ref gin, .int (-1), .int 0, .int 112, .int 0])), (bo, .inr (2, [.ref fa, .ref bbe, .ref bdi, .int 0, .int 0])), (fa, .inl (cI, 96, .inl (fun _ => 0))), (oq, .inl (cL, 1, .inr (.inl (fun _ => 0))))]) [0, 1, 2, 3, 4, 5, 6, 7, 14] (by decide) rfl
  have hKc := hK.sub (tys' := [(cP, .object "Levelsmith$Player"), (cI, .int), (cL, .long)]) [0, 1, 4] rfl
  have hFc := va_free (wc := [(ox, .inr (13, [.ref pl, .ref ru, .ref sh, .ref sp, .ref sl, .ref gr, .ref re, .ref pr, .ref ga, .ref rp, .ref bo, .int 0])), (pl, .inr (1, [.int 0, .ref de, .int 0])), (ru, .inr (1, [.int 0, .ref de, .int 0])), (sh, .inr (1, [.int 0, .ref de, .int 0])), (sp, .inl (cP, 6, .inr (.inr (.inr (.inr (fun _ => none)))))), (ga, .inr (5, [.ref gpl, .ref gin, .int (-1), .int 0, .int 112, .int 0])), (bo, .inr (2, [.ref fa, .ref bbe, .ref bdi, .int 0, .int 0])), (fa, .inl (cI, 96, .inl (fun _ => 0))), (oq, .inl (cL, 1, .inr (.inl (fun _ => 0))))]) hD hS hA [0, 1, 2, 3, 4, 5, 6, 7, 14] rfl
  refine vx_calli (vx_runSX (As := [.ref ox, .int (xs 1), .int ((((xs 2)).toUInt32 % 65536).toInt32), .ref oq]) (rest := []) ⟨hx, hb, hml, hown, ht⟩ (c_L_softLockAt l hlt dC dI de (ox) (pl) (ru) (sh) (sp) (sl) (gr) (re) (pr) (ga) (rp) (bo) (fa) (gpl) (gin) (bbe) (bdi) (cP) (cI) (oq) (cL) ((xs 1)) (((((xs 2)).toUInt32 % 65536).toInt32)) H.size) (vx_cwSW 4 ht (gWX (wr_43 _ (List.mem_of_getElem? (i := 4) rfl)) (wr_43 _ (List.mem_of_getElem? (i := 5) rfl)) (wr_9 _ (List.mem_of_getElem? (i := 13) rfl)) (wr_43 _ (List.mem_of_getElem? (i := 6) rfl))) rfl rfl rfl (by decide +kernel) ⟨Nat.le_of_ble_eq_true rfl, Nat.le_of_ble_eq_true rfl⟩) ⟨PW_blind, PW_call hPc hDc hKc hS hG hFc⟩ rfl rfl hl.1 rfl (lv_room (Nat.le_of_ble_eq_true rfl)) dL_law_1390 ⟨Nat.le_of_ble_eq_true rfl, Nat.le_of_ble_eq_true rfl⟩) hS (fun q _ h => hFc q h) hFc (fun q _ h => hFc q h) (fun E ce q9 u t H1 locs1 ht9 hvm9 _ hR9 hz9 hk9 hS9 hc9 hv9 hcl9 => ?_) (fun r_1390 u t H1 locs ht9 hvm hw hB hz1 hk1 hS => ?_)
  · exact False.elim hR9
  · obtain ⟨hP1, hK1, hD1⟩ := hB
    rw [ht9] at hP1
    have hK1 := va_K.moved hvm.symm hK1
    obtain ⟨hP, hD⟩ := va_join (wr := [(om, .inr (20, [.ref mt, .ref qu, .int 0, .int 0, .ref lv, .int (-1), .int 0, .int 0, .ref mi, .int 0, .int 0, .int 0, .int 0, .ref ml, .ref mss, .ref rn, .ref sw, .ref mf, .null, .int 0, .ref msp, .int 0, .int 0, .int 0])), (lv, .inr (1, [.int 0, .ref de, .int 0])), (rn, .inr (1, [.int 0, .ref de, .int 0])), (sw, .inr (1, [.int 0, .ref de, .int 0])), (ml, .inl (cS, 6, .inl (slotF))), (mf, .inl (cF, 96, .inl (fun _ => 0))), (od, .inl (cE, 1, .inr (.inr (.inr (.inl (fun _ => 0))))))]) (w1 := []) hP hD [0, 1, 2, 3, 4, 5, 6, 7, 14] [8, 9, 10, 11, 12, 13, 15] rfl rfl (by decide) (by decide) hk1 hFc hP1 hD1
    have hK := (hK.sub (tys' := [(cS, .int), (cF, .int), (cE, .double)]) [2, 3, 5] rfl).app hK1
    generalize H1 = H at hP hS ⊢
    replace hP : va_P (dC, dI) vwCl [(om, .inr (20, [.ref mt, .ref qu, .int 0, .int 0, .ref lv, .int (-1), .int 0, .int 0, .ref mi, .int 0, .int 0, .int 0, .int 0, .ref ml, .ref mss, .ref rn, .ref sw, .ref mf, .null, .int 0, .ref msp, .int 0, .int 0, .int 0])), (lv, .inr (1, [.int 0, .ref de, .int 0])), (rn, .inr (1, [.int 0, .ref de, .int 0])), (sw, .inr (1, [.int 0, .ref de, .int 0])), (ml, .inl (cS, 6, .inl (slotF))), (mf, .inl (cF, 96, .inl (fun _ => 0))), (od, .inl (cE, 1, .inr (.inr (.inr (.inl (fun _ => 0))))))] H := hP
    replace hD : va_D A [(om, .inr (20, [.ref mt, .ref qu, .int 0, .int 0, .ref lv, .int (-1), .int 0, .int 0, .ref mi, .int 0, .int 0, .int 0, .int 0, .ref ml, .ref mss, .ref rn, .ref sw, .ref mf, .null, .int 0, .ref msp, .int 0, .int 0, .int 0])), (lv, .inr (1, [.int 0, .ref de, .int 0])), (rn, .inr (1, [.int 0, .ref de, .int 0])), (sw, .inr (1, [.int 0, .ref de, .int 0])), (ml, .inl (cS, 6, .inl (slotF))), (mf, .inl (cF, 96, .inl (fun _ => 0))), (od, .inl (cE, 1, .inr (.inr (.inr (.inl (fun _ => 0))))))] := hD
    have hK : va_K (dC, dI) vwCl [(cS, .int), (cF, .int), (cE, .double)] s := hK
    refine W.widen (k := 65) (n := 1163529) (Nat.le_of_ble_eq_true rfl) (Nat.le_of_ble_eq_true rfl) ?_
    have e_1390 : r_1390 = 1 := hw
    subst e_1390
    refine lv_istore (lv' := [(6, .int 1), (5, .int 0), (4, .ref od), (3, .ref oq), (2, .ref om), (1, .ref ox), (0, .ref b)]) hx hb dL_law_1393 hl (by decide) rfl (fun ls hl => ?_)
    refine lv_aload_n hx hb dL_law_1395 rfl (lv_at hl 4 rfl) ?_
    refine lv_aload_n hx hb dL_law_1396 rfl (lv_at hl 6 rfl) ?_
    refine lv_iload hx hb dL_law_1397 (lv_at hl 1 rfl) ?_
    refine lv_iconst (v := 1) hx hb dL_law_1399 (by decide) ?_
    refine lv_iadd hx hb dL_law_1400 ?_
    refine va_sld hx hb hX hbl hbA hS (by unfold vp_in; decide) dL_law_1401 ?_
    refine lv_topi (fun y ey => ?_)
    replace ey : y = (xs 1) := ey.trans (congrArg xs (by decide))
    subst ey
    refine lv_aload_n hx hb dL_law_1402 rfl (lv_at hl 6 rfl) ?_
    refine lv_iload hx hb dL_law_1403 (lv_at hl 1 rfl) ?_
    refine lv_iconst (v := 2) hx hb dL_law_1405 (by decide) ?_
    refine lv_iadd hx hb dL_law_1406 ?_
    refine va_sld hx hb hX hbl hbA hS (by unfold vp_in; decide) dL_law_1407 ?_
    refine lv_topi (fun y ey => ?_)
    replace ey : y = (xs 2) := ey.trans (congrArg xs (by decide))
    subst ey
    refine lv_i2c (v := (((xs 2)).toUInt32 % 65536).toInt32) hx hb dL_law_1408 rfl ?_
    have hPc := hP.sub (ws' := [(om, .inr (20, [.ref mt, .ref qu, .int 0, .int 0, .ref lv, .int (-1), .int 0, .int 0, .ref mi, .int 0, .int 0, .int 0, .int 0, .ref ml, .ref mss, .ref rn, .ref sw, .ref mf, .null, .int 0, .ref msp, .int 0, .int 0, .int 0])), (lv, .inr (1, [.int 0, .ref de, .int 0])), (rn, .inr (1, [.int 0, .ref de, .int 0])), (sw, .inr (1, [.int 0, .ref de, .int 0])), (ml, .inl (cS, 6, .inl (slotF))), (mf, .inl (cF, 96, .inl (fun _ => 0)))]) [0, 1, 2, 3, 4, 5] rfl
    have hDc := hD.sub (ws' := [(om, .inr (20, [.ref mt, .ref qu, .int 0, .int 0, .ref lv, .int (-1), .int 0, .int 0, .ref mi, .int 0, .int 0, .int 0, .int 0, .ref ml, .ref mss, .ref rn, .ref sw, .ref mf, .null, .int 0, .ref msp, .int 0, .int 0, .int 0])), (lv, .inr (1, [.int 0, .ref de, .int 0])), (rn, .inr (1, [.int 0, .ref de, .int 0])), (sw, .inr (1, [.int 0, .ref de, .int 0])), (ml, .inl (cS, 6, .inl (slotF))), (mf, .inl (cF, 96, .inl (fun _ => 0)))]) [0, 1, 2, 3, 4, 5] (by decide) rfl
    have hKc := hK.sub (tys' := [(cS, .int), (cF, .int)]) [0, 1] rfl
    have hFc := va_free (wc := [(om, .inr (20, [.ref mt, .ref qu, .int 0, .int 0, .ref lv, .int (-1), .int 0, .int 0, .ref mi, .int 0, .int 0, .int 0, .int 0, .ref ml, .ref mss, .ref rn, .ref sw, .ref mf, .null, .int 0, .ref msp, .int 0, .int 0, .int 0])), (lv, .inr (1, [.int 0, .ref de, .int 0])), (rn, .inr (1, [.int 0, .ref de, .int 0])), (sw, .inr (1, [.int 0, .ref de, .int 0])), (ml, .inl (cS, 6, .inl (slotF))), (mf, .inl (cF, 96, .inl (fun _ => 0)))]) hD hS hA [0, 1, 2, 3, 4, 5] rfl
    refine va_calli (va_runV (As := [.int (xs 1), .int ((((xs 2)).toUInt32 % 65536).toInt32)]) (rest := []) ⟨hx, hb, hml, hown, ht⟩ (c_X18_softLockAt l dC dI de (om) (mt) (qu) (lv) (mi) (ml) (mss) (rn) (sw) (mf) (msp) (cS) (cF) (0) ((xs 1)) (((((xs 2)).toUInt32 % 65536).toInt32)) H.size) (cwV 2 ht (gWV (wr_44 _ (List.mem_of_getElem? (i := 1) rfl)) (wr_44 _ (List.mem_of_getElem? (i := 2) rfl)) (wr_44 _ (List.mem_of_getElem? (i := 3) rfl)) (wr_1 _ (List.mem_of_getElem? (i := 5) rfl)) (wr_44 _ (List.mem_of_getElem? (i := 4) rfl))) rfl rfl rfl (by decide +kernel) ⟨Nat.le_of_ble_eq_true rfl, Nat.le_of_ble_eq_true rfl⟩) ⟨PW_blind, va_recv hKc hPc (ci := 20) (q0 := 0) rfl rfl, PW_call hPc hDc hKc hS hG hFc⟩ rfl rfl hl.1 rfl (lv_room (Nat.le_of_ble_eq_true rfl)) dL_law_1409 ⟨Nat.le_of_ble_eq_true rfl, Nat.le_of_ble_eq_true rfl⟩) hS (fun q _ h => hFc q h) hFc (fun r_1409 u t H1 locs ht9 hvm hw hB hz1 hk1 hS => ?_)
    obtain ⟨hP1, hK1, hD1⟩ := hB
    rw [ht9] at hP1
    have hK1 := va_K.moved hvm.symm hK1
    obtain ⟨hP, hD⟩ := va_join (wr := [(od, .inl (cE, 1, .inr (.inr (.inr (.inl (fun _ => 0))))))]) (w1 := [(om, .inr (20, [.ref mt, .ref qu, .int 0, .int 1, .ref lv, .int (-1), .int 0, .int 0, .ref mi, .int 0, .int 0, .int 0, .int 0, .ref ml, .ref mss, .ref rn, .ref sw, .ref mf, .null, .int 0, .ref msp, .int 0, .int 0, .int 0])), (lv, .inr (1, [.int 0, .ref de, .int 0])), (rn, .inr (1, [.int 0, .ref de, .int 0])), (sw, .inr (1, [.int 0, .ref de, .int 0])), (ml, .inl (cS, 6, .inl (slotF))), (mf, .inl (cF, 96, .inl (fun _ => 0)))]) hP hD [0, 1, 2, 3, 4, 5] [6] rfl rfl (by decide) (by decide) hk1 hFc hP1 hD1
    have hK := (hK.sub (tys' := [(cE, .double)]) [2] rfl).app hK1
    generalize H1 = H at hP hS ⊢
    replace hP : va_P (dC, dI) vwCl [(od, .inl (cE, 1, .inr (.inr (.inr (.inl (fun _ => 0)))))), (om, .inr (20, [.ref mt, .ref qu, .int 0, .int 1, .ref lv, .int (-1), .int 0, .int 0, .ref mi, .int 0, .int 0, .int 0, .int 0, .ref ml, .ref mss, .ref rn, .ref sw, .ref mf, .null, .int 0, .ref msp, .int 0, .int 0, .int 0])), (lv, .inr (1, [.int 0, .ref de, .int 0])), (rn, .inr (1, [.int 0, .ref de, .int 0])), (sw, .inr (1, [.int 0, .ref de, .int 0])), (ml, .inl (cS, 6, .inl (slotF))), (mf, .inl (cF, 96, .inl (fun _ => 0)))] H := hP
    replace hD : va_D A [(od, .inl (cE, 1, .inr (.inr (.inr (.inl (fun _ => 0)))))), (om, .inr (20, [.ref mt, .ref qu, .int 0, .int 1, .ref lv, .int (-1), .int 0, .int 0, .ref mi, .int 0, .int 0, .int 0, .int 0, .ref ml, .ref mss, .ref rn, .ref sw, .ref mf, .null, .int 0, .ref msp, .int 0, .int 0, .int 0])), (lv, .inr (1, [.int 0, .ref de, .int 0])), (rn, .inr (1, [.int 0, .ref de, .int 0])), (sw, .inr (1, [.int 0, .ref de, .int 0])), (ml, .inl (cS, 6, .inl (slotF))), (mf, .inl (cF, 96, .inl (fun _ => 0)))] := hD
    have hK : va_K (dC, dI) vwCl [(cE, .double), (cS, .int), (cF, .int)] s := hK
    have hw_1409 := hw
    refine lv_istore (lv' := [(7, .int r_1409), (6, .int 1), (5, .int 0), (4, .ref od), (3, .ref oq), (2, .ref om), (1, .ref ox), (0, .ref b)]) hx hb dL_law_1412 hl (by decide) rfl (fun ls hl => ?_)
    refine lv_aload_n hx hb dL_law_1414 rfl (lv_at hl 5 rfl) ?_
    have hPc := hP.sub (ws' := [(om, .inr (20, [.ref mt, .ref qu, .int 0, .int 1, .ref lv, .int (-1), .int 0, .int 0, .ref mi, .int 0, .int 0, .int 0, .int 0, .ref ml, .ref mss, .ref rn, .ref sw, .ref mf, .null, .int 0, .ref msp, .int 0, .int 0, .int 0]))]) [1] rfl
    have hDc := hD.sub (ws' := [(om, .inr (20, [.ref mt, .ref qu, .int 0, .int 1, .ref lv, .int (-1), .int 0, .int 0, .ref mi, .int 0, .int 0, .int 0, .int 0, .ref ml, .ref mss, .ref rn, .ref sw, .ref mf, .null, .int 0, .ref msp, .int 0, .int 0, .int 0]))]) [1] (by decide) rfl
    have hKc := hK.sub (tys' := []) [] rfl
    have hFc := va_free (wc := [(om, .inr (20, [.ref mt, .ref qu, .int 0, .int 1, .ref lv, .int (-1), .int 0, .int 0, .ref mi, .int 0, .int 0, .int 0, .int 0, .ref ml, .ref mss, .ref rn, .ref sw, .ref mf, .null, .int 0, .ref msp, .int 0, .int 0, .int 0]))]) hD hS hA [1] rfl
    refine va_calli (va_runV (As := []) (rest := []) ⟨hx, hb, hml, hown, ht⟩ (c_thrown1 l dC dI de (om) (mt) (qu) (lv) (mi) (ml) (mss) (rn) (sw) (mf) (msp) (1) H.size) (cwV 0 ht (gWV (wr_18 _ (List.mem_of_getElem? (i := 5) rfl)) (wr_18 _ (List.mem_of_getElem? (i := 6) rfl)) (wr_18 _ (List.mem_of_getElem? (i := 7) rfl)) (wr_1 _ (List.mem_of_getElem? (i := 5) rfl)) (wr_18 _ (List.mem_of_getElem? (i := 8) rfl))) rfl rfl rfl (by decide +kernel) ⟨Nat.le_of_ble_eq_true rfl, Nat.le_of_ble_eq_true rfl⟩) ⟨PW_blind, va_recv hKc hPc (ci := 20) (q0 := 0) rfl rfl, PW_call hPc hDc hKc hS hG hFc⟩ rfl rfl hl.1 rfl (lv_room (Nat.le_of_ble_eq_true rfl)) dL_law_1415 ⟨Nat.le_of_ble_eq_true rfl, Nat.le_of_ble_eq_true rfl⟩) hS (fun q _ h => hFc q h) hFc (fun r_1415 u t H1 locs ht9 hvm hw hB hz1 hk1 hS => ?_)
    obtain ⟨hP1, hK1, hD1⟩ := hB
    rw [ht9] at hP1
    have hK1 := va_K.moved hvm.symm hK1
    obtain ⟨hP, hD⟩ := va_join (wr := [(od, .inl (cE, 1, .inr (.inr (.inr (.inl (fun _ => 0)))))), (lv, .inr (1, [.int 0, .ref de, .int 0])), (rn, .inr (1, [.int 0, .ref de, .int 0])), (sw, .inr (1, [.int 0, .ref de, .int 0])), (ml, .inl (cS, 6, .inl (slotF))), (mf, .inl (cF, 96, .inl (fun _ => 0)))]) (w1 := [(om, .inr (20, [.ref mt, .ref qu, .int 0, .int 1, .ref lv, .int (-1), .int 0, .int 0, .ref mi, .int 0, .int 0, .int 0, .int 0, .ref ml, .ref mss, .ref rn, .ref sw, .ref mf, .null, .int 0, .ref msp, .int 0, .int 0, .int 0]))]) hP hD [1] [0, 2, 3, 4, 5, 6] rfl rfl (by decide) (by decide) hk1 hFc hP1 hD1
    have hK := (hK.sub (tys' := [(cE, .double), (cS, .int), (cF, .int)]) [0, 1, 2] rfl).app hK1
    generalize H1 = H at hP hS ⊢
    replace hP : va_P (dC, dI) vwCl [(od, .inl (cE, 1, .inr (.inr (.inr (.inl (fun _ => 0)))))), (lv, .inr (1, [.int 0, .ref de, .int 0])), (rn, .inr (1, [.int 0, .ref de, .int 0])), (sw, .inr (1, [.int 0, .ref de, .int 0])), (ml, .inl (cS, 6, .inl (slotF))), (mf, .inl (cF, 96, .inl (fun _ => 0))), (om, .inr (20, [.ref mt, .ref qu, .int 0, .int 1, .ref lv, .int (-1), .int 0, .int 0, .ref mi, .int 0, .int 0, .int 0, .int 0, .ref ml, .ref mss, .ref rn, .ref sw, .ref mf, .null, .int 0, .ref msp, .int 0, .int 0, .int 0]))] H := hP
    replace hD : va_D A [(od, .inl (cE, 1, .inr (.inr (.inr (.inl (fun _ => 0)))))), (lv, .inr (1, [.int 0, .ref de, .int 0])), (rn, .inr (1, [.int 0, .ref de, .int 0])), (sw, .inr (1, [.int 0, .ref de, .int 0])), (ml, .inl (cS, 6, .inl (slotF))), (mf, .inl (cF, 96, .inl (fun _ => 0))), (om, .inr (20, [.ref mt, .ref qu, .int 0, .int 1, .ref lv, .int (-1), .int 0, .int 0, .ref mi, .int 0, .int 0, .int 0, .int 0, .ref ml, .ref mss, .ref rn, .ref sw, .ref mf, .null, .int 0, .ref msp, .int 0, .int 0, .int 0]))] := hD
    have hK : va_K (dC, dI) vwCl [(cE, .double), (cS, .int), (cF, .int)] s := hK
    have e_1415 : r_1415 = 1 := hw
    subst e_1415
    refine lv_iload hx hb dL_law_1418 (lv_at hl 1 rfl) ?_
    refine lv_icmp_eq (tgt := 1425) hx hb dL_law_1420 (by decide) (fun c_1420 => ?_) (fun c_1420 => absurd c_1420 (by decide))
    refine lv_iload hx hb dL_law_1425 (lv_at hl 1 rfl) ?_
    refine lv_if_ne (tgt := 1442) hx hb dL_law_1427 (by decide) (fun c_1427 => ?_) (fun c_1427 => absurd c_1427 (by decide))
    refine lv_goto (tgt := 3236) hx hb dL_law_1442 (by decide) ?_
    exact law_end C1 (lv_sub hl [2, 7] rfl) hS (Nat.le_of_ble_eq_true rfl) (Nat.le_of_ble_eq_true rfl)
