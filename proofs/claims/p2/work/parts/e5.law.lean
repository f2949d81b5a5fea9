theorem dL_law_1306 : decode cL_law 1306 = .ok (.aload_n 1, 1) := by decide +kernel
theorem dL_law_1307 : decode cL_law 1307 = .ok (.aload_n 0, 1) := by decide +kernel
theorem dL_law_1308 : decode cL_law 1308 = .ok (.iload 4, 2) := by decide +kernel
theorem dL_law_1310 : decode cL_law 1310 = .ok (.iconst 1, 1) := by decide +kernel
theorem dL_law_1311 : decode cL_law 1311 = .ok (.iadd, 1) := by decide +kernel
theorem dL_law_1312 : decode cL_law 1312 = .ok (.iaload, 1) := by decide +kernel
theorem dL_law_1313 : decode cL_law 1313 = .ok (.aload_n 0, 1) := by decide +kernel
theorem dL_law_1314 : decode cL_law 1314 = .ok (.iload 4, 2) := by decide +kernel
theorem dL_law_1316 : decode cL_law 1316 = .ok (.iconst 2, 1) := by decide +kernel
theorem dL_law_1317 : decode cL_law 1317 = .ok (.iadd, 1) := by decide +kernel
theorem dL_law_1318 : decode cL_law 1318 = .ok (.iaload, 1) := by decide +kernel
theorem dL_law_1319 : decode cL_law 1319 = .ok (.aload_n 0, 1) := by decide +kernel
theorem dL_law_1320 : decode cL_law 1320 = .ok (.iload 4, 2) := by decide +kernel
theorem dL_law_1322 : decode cL_law 1322 = .ok (.iconst 3, 1) := by decide +kernel
theorem dL_law_1323 : decode cL_law 1323 = .ok (.iadd, 1) := by decide +kernel
theorem dL_law_1324 : decode cL_law 1324 = .ok (.iaload, 1) := by decide +kernel
theorem dL_law_1325 : decode cL_law 1325 = .ok (.i2l, 1) := by decide +kernel
theorem dL_law_1326 : decode cL_law 1326 = .ok (.bipush 32, 2) := by decide +kernel
theorem dL_law_1328 : decode cL_law 1328 = .ok (.lshl, 1) := by decide +kernel
theorem dL_law_1329 : decode cL_law 1329 = .ok (.aload_n 0, 1) := by decide +kernel
theorem dL_law_1330 : decode cL_law 1330 = .ok (.iload 4, 2) := by decide +kernel
theorem dL_law_1332 : decode cL_law 1332 = .ok (.iconst 4, 1) := by decide +kernel
theorem dL_law_1333 : decode cL_law 1333 = .ok (.iadd, 1) := by decide +kernel
theorem dL_law_1334 : decode cL_law 1334 = .ok (.iaload, 1) := by decide +kernel
theorem dL_law_1335 : decode cL_law 1335 = .ok (.i2l, 1) := by decide +kernel
theorem dL_law_1336 : decode cL_law 1336 = .ok (.ldc2_w 50, 3) := by decide +kernel
theorem dL_law_1339 : decode cL_law 1339 = .ok (.land, 1) := by decide +kernel
theorem dL_law_1340 : decode cL_law 1340 = .ok (.lor, 1) := by decide +kernel
theorem dL_law_1341 : decode cL_law 1341 = .ok (.aload_n 0, 1) := by decide +kernel
theorem dL_law_1342 : decode cL_law 1342 = .ok (.iload 4, 2) := by decide +kernel
theorem dL_law_1344 : decode cL_law 1344 = .ok (.iconst 5, 1) := by decide +kernel
theorem dL_law_1345 : decode cL_law 1345 = .ok (.iadd, 1) := by decide +kernel
theorem dL_law_1346 : decode cL_law 1346 = .ok (.iaload, 1) := by decide +kernel
theorem dL_law_1347 : decode cL_law 1347 = .ok (.ifCond .eq 7, 3) := by decide +kernel
theorem dL_law_1354 : decode cL_law 1354 = .ok (.iconst 0, 1) := by decide +kernel
theorem dL_law_1355 : decode cL_law 1355 = .ok (.invokevirtual 112, 3) := by decide +kernel
theorem dL_law_1358 : decode cL_law 1358 = .ok (.pop2, 1) := by decide +kernel
theorem dL_law_1359 : decode cL_law 1359 = .ok (.aload_n 2, 1) := by decide +kernel
theorem dL_law_1360 : decode cL_law 1360 = .ok (.aload_n 0, 1) := by decide +kernel
theorem dL_law_1361 : decode cL_law 1361 = .ok (.iload 4, 2) := by decide +kernel
theorem dL_law_1363 : decode cL_law 1363 = .ok (.iconst 1, 1) := by decide +kernel
theorem dL_law_1364 : decode cL_law 1364 = .ok (.iadd, 1) := by decide +kernel
theorem dL_law_1365 : decode cL_law 1365 = .ok (.iaload, 1) := by decide +kernel
theorem dL_law_1366 : decode cL_law 1366 = .ok (.aload_n 0, 1) := by decide +kernel
theorem dL_law_1367 : decode cL_law 1367 = .ok (.iload 4, 2) := by decide +kernel
theorem dL_law_1369 : decode cL_law 1369 = .ok (.iconst 2, 1) := by decide +kernel
theorem dL_law_1370 : decode cL_law 1370 = .ok (.iadd, 1) := by decide +kernel
theorem dL_law_1371 : decode cL_law 1371 = .ok (.iaload, 1) := by decide +kernel
theorem dL_law_1372 : decode cL_law 1372 = .ok (.aload_n 0, 1) := by decide +kernel
theorem dL_law_1373 : decode cL_law 1373 = .ok (.iload 4, 2) := by decide +kernel
theorem dL_law_1375 : decode cL_law 1375 = .ok (.iconst 3, 1) := by decide +kernel
theorem dL_law_1376 : decode cL_law 1376 = .ok (.iadd, 1) := by decide +kernel
theorem dL_law_1377 : decode cL_law 1377 = .ok (.iaload, 1) := by decide +kernel
theorem dL_law_1378 : decode cL_law 1378 = .ok (.i2l, 1) := by decide +kernel
theorem dL_law_1379 : decode cL_law 1379 = .ok (.bipush 32, 2) := by decide +kernel
theorem dL_law_1381 : decode cL_law 1381 = .ok (.lshl, 1) := by decide +kernel
theorem dL_law_1382 : decode cL_law 1382 = .ok (.aload_n 0, 1) := by decide +kernel
theorem dL_law_1383 : decode cL_law 1383 = .ok (.iload 4, 2) := by decide +kernel
theorem dL_law_1385 : decode cL_law 1385 = .ok (.iconst 4, 1) := by decide +kernel
theorem dL_law_1386 : decode cL_law 1386 = .ok (.iadd, 1) := by decide +kernel
theorem dL_law_1387 : decode cL_law 1387 = .ok (.iaload, 1) := by decide +kernel
theorem dL_law_1388 : decode cL_law 1388 = .ok (.i2l, 1) := by decide +kernel
theorem dL_law_1389 : decode cL_law 1389 = .ok (.ldc2_w 50, 3) := by decide +kernel
theorem dL_law_1392 : decode cL_law 1392 = .ok (.land, 1) := by decide +kernel
theorem dL_law_1393 : decode cL_law 1393 = .ok (.lor, 1) := by decide +kernel
theorem dL_law_1394 : decode cL_law 1394 = .ok (.aload_n 0, 1) := by decide +kernel
theorem dL_law_1395 : decode cL_law 1395 = .ok (.iload 4, 2) := by decide +kernel
theorem dL_law_1397 : decode cL_law 1397 = .ok (.iconst 5, 1) := by decide +kernel
theorem dL_law_1398 : decode cL_law 1398 = .ok (.iadd, 1) := by decide +kernel
theorem dL_law_1399 : decode cL_law 1399 = .ok (.iaload, 1) := by decide +kernel
theorem dL_law_1400 : decode cL_law 1400 = .ok (.ifCond .eq 7, 3) := by decide +kernel
theorem dL_law_1407 : decode cL_law 1407 = .ok (.iconst 0, 1) := by decide +kernel
theorem dL_law_1408 : decode cL_law 1408 = .ok (.invokevirtual 116, 3) := by decide +kernel
theorem dL_law_1411 : decode cL_law 1411 = .ok (.pop2, 1) := by decide +kernel
theorem dL_law_1412 : decode cL_law 1412 = .ok (.goto 600, 3) := by decide +kernel
theorem dL_law_1403 : decode cL_law 1403 = .ok (.iconst 1, 1) := by decide +kernel
theorem dL_law_1404 : decode cL_law 1404 = .ok (.goto 4, 3) := by decide +kernel
theorem dL_law_1350 : decode cL_law 1350 = .ok (.iconst 1, 1) := by decide +kernel
theorem dL_law_1351 : decode cL_law 1351 = .ok (.goto 4, 3) := by decide +kernel
set_option maxHeartbeats 4000000 in
set_option maxRecDepth 100000 in
theorem law_alike (l : Launch) (hst : l.stackTraces = false) {p : Program} {e : Env} {s : State} {m : MethodId} {below : List Frame} {meth : Method} {c : Code} {bs L : Nat} {xs : Nat → Int32} (C0 : lw_At p s m meth c bs L xs) (dC : Nat → ClassId) (dI : Nat → Nat → Nat) (A : Nat → Prop) (hAe : ∀ q, A q ↔ s.heap.size ≤ q) (x : Nat) (pa : Nat) (bk : Nat) (xsp : Nat) (xdy : Nat) (le : Nat) (xst : Nat) (xsc : Int32) (xim : Nat) (xil : Nat) (xik : Int32) (xmo : Nat) (xom : Nat) (wi : Nat) (mla : Value) (mct : Int64) (myr : Int64) (mdy : Int64) (mlg : Int64) (ola : Value) (oct : Int64) (oyr : Int64) (ody : Int64) (olg : Int64) (bto : Nat) (bnm : Nat) (bla : Nat) (bsk : Nat) (bru : Nat) (bbo : Nat) (bdi : Nat) (bda : Nat) (bdk : Nat) (bdt : Nat) (bdp : Nat) (bno : Nat) (cTo : ClassId) (fTo : Nat → Int32) (cLa : ClassId) (La : Nat → Nat) (FI : Nat → Int32) (GR : Nat → Int32) (FR : Nat → Int32) (mq : Nat) (g : Nat → Int32) (gl : Nat → Int64) (rf : Nat → Nat) (ck : Nat → ClassId) (f_landHas : Nat → Int32) (o3 : Nat) (hln0 : ¬ (g 12) < 0) (hln4 : (g 12) ≤ 4) (hLZ : ∀ k : Int32, ¬ k < 0 → k < (g 12) → ¬ (f_landHas ((3 * k).toNatClampNeg)) = 0) (sL : Nat → Nat) (hNx : xN s) (i y1 y2 y3 y4 y5 : Int32) (hi1 : vp_in (i + 1) L) (hy1 : xs (i + 1).toNatClampNeg = y1) (hi2 : vp_in (i + 2) L) (hy2 : xs (i + 2).toNatClampNeg = y2) (hi3 : vp_in (i + 3) L) (hy3 : xs (i + 3).toNatClampNeg = y3) (hi4 : vp_in (i + 4) L) (hy4 : xs (i + 4).toNatClampNeg = y4) (hi5 : vp_in (i + 5) L) (hy5 : xs (i + 5).toNatClampNeg = y5)  (Bp : Nat → Prop) (H0 : Heap) (locs : List Loc) (ls : Array Slot) (ce sl : Nat) (hce : ce + 1 ≤ 601024) (hsl : sl + 6 ≤ 7293034) (hK : va_K (dC, dI) vwCl [(cTo, .int), (cLa, .object RX1), ((ck 29), .int)] s) (hP : va_P (dC, dI) vwCl [(x, .inr (11, [.ref pa, .ref bk, .ref xsp, .ref xdy, .ref le, .ref xst, .int xsc, .ref xim, .ref xil, .int xik, .ref xmo, .ref xom, .ref wi])), (xmo, .inr (4, [mla, .long mct, .long myr, .long mdy, .long mlg])), (xom, .inr (4, [ola, .long oct, .long oyr, .long ody, .long olg])), (bk, .inr (0, [.ref bto, .ref bnm, .ref bla, .ref bsk, .ref bru, .ref bbo, .ref bdi, .ref bda, .ref bdk, .ref bdt, .ref bdp, .ref bno])), (bto, .inl (cTo, 5, .inl fTo)), (bla, .inl (cLa, 4, .inr (.inr (.inr (.inr (fun k => some (La k))))))), ((La 0), .inr (1, [.int (FI 0), .int (GR 0), .int (FR 0)])), ((La 1), .inr (1, [.int (FI 1), .int (GR 1), .int (FR 1)])), ((La 2), .inr (1, [.int (FI 2), .int (GR 2), .int (FR 2)])), ((La 3), .inr (1, [.int (FI 3), .int (GR 3), .int (FR 3)])), (mq, .inr (12, mF g gl rf)), ((rf 29), .inl ((ck 29), 24, .inl f_landHas))] H0) (hD : va_D A [(x, .inr (11, [.ref pa, .ref bk, .ref xsp, .ref xdy, .ref le, .ref xst, .int xsc, .ref xim, .ref xil, .int xik, .ref xmo, .ref xom, .ref wi])), (xmo, .inr (4, [mla, .long mct, .long myr, .long mdy, .long mlg])), (xom, .inr (4, [ola, .long oct, .long oyr, .long ody, .long olg])), (bk, .inr (0, [.ref bto, .ref bnm, .ref bla, .ref bsk, .ref bru, .ref bbo, .ref bdi, .ref bda, .ref bdk, .ref bdt, .ref bdp, .ref bno])), (bto, .inl (cTo, 5, .inl fTo)), (bla, .inl (cLa, 4, .inr (.inr (.inr (.inr (fun k => some (La k))))))), ((La 0), .inr (1, [.int (FI 0), .int (GR 0), .int (FR 0)])), ((La 1), .inr (1, [.int (FI 1), .int (GR 1), .int (FR 1)])), ((La 2), .inr (1, [.int (FI 2), .int (GR 2), .int (FR 2)])), ((La 3), .inr (1, [.int (FI 3), .int (GR 3), .int (FR 3)])), (mq, .inr (12, mF g gl rf)), ((rf 29), .inl ((ck 29), 24, .inl f_landHas))]) (hBs : yB Bp [(x, .inr (11, [.ref pa, .ref bk, .ref xsp, .ref xdy, .ref le, .ref xst, .int xsc, .ref xim, .ref xil, .int xik, .ref xmo, .ref xom, .ref wi])), (xmo, .inr (4, [mla, .long mct, .long myr, .long mdy, .long mlg])), (xom, .inr (4, [ola, .long oct, .long oyr, .long ody, .long olg])), (bk, .inr (0, [.ref bto, .ref bnm, .ref bla, .ref bsk, .ref bru, .ref bbo, .ref bdi, .ref bda, .ref bdk, .ref bdt, .ref bdp, .ref bno])), (bto, .inl (cTo, 5, .inl fTo)), (bla, .inl (cLa, 4, .inr (.inr (.inr (.inr (fun k => some (La k))))))), ((La 0), .inr (1, [.int (FI 0), .int (GR 0), .int (FR 0)])), ((La 1), .inr (1, [.int (FI 1), .int (GR 1), .int (FR 1)])), ((La 2), .inr (1, [.int (FI 2), .int (GR 2), .int (FR 2)])), ((La 3), .inr (1, [.int (FI 3), .int (GR 3), .int (FR 3)])), (mq, .inr (12, mF g gl rf)), ((rf 29), .inl ((ck 29), 24, .inl f_landHas))]) (hS : va_S A s.heap H0 locs) (hl : lv_has ls 7 [(4, .int i), (3, .ref o3), (2, .ref mq), (1, .ref x), (0, .ref bs)]) (kk1 : ∀ (X_19 : Int64 × (Value) × (Int64) × (Int64) × (Int64) × (Int64) × (Value) × (Int64) × (Int64) × (Int64) × (Int64)), X_19 = (fx_alike mla mct myr mdy mlg ola oct oyr ody olg fTo La FI GR FR y1 y2 ((y3.toInt64 <<< ((32 : Int32).toInt64 &&& 63)) ||| (y4.toInt64 &&& 4294967295)) (0 : Int32)) → ∀ (r_7 : Int64), r_7 = X_19.1 → ∀ (u_8 : (Value) × (Int64) × (Int64) × (Int64) × (Int64) × (Value) × (Int64) × (Int64) × (Int64) × (Int64)), u_8 = X_19.2 → ∀ (X_31 : Int64 × (Int32) × (Int64) × (Int64)), X_31 = (fq_alike f_landHas y1 y2 ((y3.toInt64 <<< ((32 : Int32).toInt64 &&& 63)) ||| (y4.toInt64 &&& 4294967295)) (0 : Int32) (g 12) (gl 53) (gl 54)) → ∀ (r_26 : Int64), r_26 = X_31.1 → ∀ (u_27 : (Int32) × (Int64) × (Int64)), u_27 = X_31.2 → ∀ (H : Heap) (locs : List Loc) (ls : Array Slot), va_P (dC, dI) vwCl [(x, .inr (11, [.ref pa, .ref bk, .ref xsp, .ref xdy, .ref le, .ref xst, .int xsc, .ref xim, .ref xil, .int xik, .ref xmo, .ref xom, .ref wi])), (xmo, .inr (4, [u_8.1, .long u_8.2.1, .long u_8.2.2.1, .long u_8.2.2.2.1, .long u_8.2.2.2.2.1])), (xom, .inr (4, [u_8.2.2.2.2.2.1, .long u_8.2.2.2.2.2.2.1, .long u_8.2.2.2.2.2.2.2.1, .long u_8.2.2.2.2.2.2.2.2.1, .long u_8.2.2.2.2.2.2.2.2.2])), (bk, .inr (0, [.ref bto, .ref bnm, .ref bla, .ref bsk, .ref bru, .ref bbo, .ref bdi, .ref bda, .ref bdk, .ref bdt, .ref bdp, .ref bno])), (bto, .inl (cTo, 5, .inl fTo)), (bla, .inl (cLa, 4, .inr (.inr (.inr (.inr (fun k => some (La k))))))), ((La 0), .inr (1, [.int (FI 0), .int (GR 0), .int (FR 0)])), ((La 1), .inr (1, [.int (FI 1), .int (GR 1), .int (FR 1)])), ((La 2), .inr (1, [.int (FI 2), .int (GR 2), .int (FR 2)])), ((La 3), .inr (1, [.int (FI 3), .int (GR 3), .int (FR 3)])), (mq, .inr (12, mF (upd g 2 u_27.1) (vp_updL (vp_updL gl 53 u_27.2.1) 54 u_27.2.2) rf)), ((rf 29), .inl ((ck 29), 24, .inl f_landHas))] H → va_S A s.heap H locs → lv_has ls 7 [(4, .int i), (3, .ref o3), (2, .ref mq), (1, .ref x), (0, .ref bs)] → H0.size ≤ H.size → (∀ q : Nat, q < H0.size → ¬ Bp q → H[q]? = H0[q]?) → W p l e room_1 s m #[Value.ref bs] below meth c H locs (ce + 1) (sl + 6) (lw_Z below #[Value.ref bs] s) (F0 m 2012 ls [])) (kk2 : ∀ (X_19 : Int64 × (Value) × (Int64) × (Int64) × (Int64) × (Int64) × (Value) × (Int64) × (Int64) × (Int64) × (Int64)), X_19 = (fx_alike mla mct myr mdy mlg ola oct oyr ody olg fTo La FI GR FR y1 y2 ((y3.toInt64 <<< ((32 : Int32).toInt64 &&& 63)) ||| (y4.toInt64 &&& 4294967295)) (0 : Int32)) → ∀ (r_7 : Int64), r_7 = X_19.1 → ∀ (u_8 : (Value) × (Int64) × (Int64) × (Int64) × (Int64) × (Value) × (Int64) × (Int64) × (Int64) × (Int64)), u_8 = X_19.2 → ∀ (X_37 : Int64 × (Int32) × (Int64) × (Int64)), X_37 = (fq_alike f_landHas y1 y2 ((y3.toInt64 <<< ((32 : Int32).toInt64 &&& 63)) ||| (y4.toInt64 &&& 4294967295)) (1 : Int32) (g 12) (gl 53) (gl 54)) → ∀ (r_32 : Int64), r_32 = X_37.1 → ∀ (u_33 : (Int32) × (Int64) × (Int64)), u_33 = X_37.2 → ∀ (H : Heap) (locs : List Loc) (ls : Array Slot), va_P (dC, dI) vwCl [(x, .inr (11, [.ref pa, .ref bk, .ref xsp, .ref xdy, .ref le, .ref xst, .int xsc, .ref xim, .ref xil, .int xik, .ref xmo, .ref xom, .ref wi])), (xmo, .inr (4, [u_8.1, .long u_8.2.1, .long u_8.2.2.1, .long u_8.2.2.2.1, .long u_8.2.2.2.2.1])), (xom, .inr (4, [u_8.2.2.2.2.2.1, .long u_8.2.2.2.2.2.2.1, .long u_8.2.2.2.2.2.2.2.1, .long u_8.2.2.2.2.2.2.2.2.1, .long u_8.2.2.2.2.2.2.2.2.2])), (bk, .inr (0, [.ref bto, .ref bnm, .ref bla, .ref bsk, .ref bru, .ref bbo, .ref bdi, .ref bda, .ref bdk, .ref bdt, .ref bdp, .ref bno])), (bto, .inl (cTo, 5, .inl fTo)), (bla, .inl (cLa, 4, .inr (.inr (.inr (.inr (fun k => some (La k))))))), ((La 0), .inr (1, [.int (FI 0), .int (GR 0), .int (FR 0)])), ((La 1), .inr (1, [.int (FI 1), .int (GR 1), .int (FR 1)])), ((La 2), .inr (1, [.int (FI 2), .int (GR 2), .int (FR 2)])), ((La 3), .inr (1, [.int (FI 3), .int (GR 3), .int (FR 3)])), (mq, .inr (12, mF (upd g 2 u_33.1) (vp_updL (vp_updL gl 53 u_33.2.1) 54 u_33.2.2) rf)), ((rf 29), .inl ((ck 29), 24, .inl f_landHas))] H → va_S A s.heap H locs → lv_has ls 7 [(4, .int i), (3, .ref o3), (2, .ref mq), (1, .ref x), (0, .ref bs)] → H0.size ≤ H.size → (∀ q : Nat, q < H0.size → ¬ Bp q → H[q]? = H0[q]?) → W p l e room_1 s m #[Value.ref bs] below meth c H locs (ce + 1) (sl + 6) (lw_Z below #[Value.ref bs] s) (F0 m 2012 ls [])) (kk3 : ∀ (X_50 : Int64 × (Value) × (Int64) × (Int64) × (Int64) × (Int64) × (Value) × (Int64) × (Int64) × (Int64) × (Int64)), X_50 = (fx_alike mla mct myr mdy mlg ola oct oyr ody olg fTo La FI GR FR y1 y2 ((y3.toInt64 <<< ((32 : Int32).toInt64 &&& 63)) ||| (y4.toInt64 &&& 4294967295)) (1 : Int32)) → ∀ (r_38 : Int64), r_38 = X_50.1 → ∀ (u_39 : (Value) × (Int64) × (Int64) × (Int64) × (Int64) × (Value) × (Int64) × (Int64) × (Int64) × (Int64)), u_39 = X_50.2 → ∀ (X_62 : Int64 × (Int32) × (Int64) × (Int64)), X_62 = (fq_alike f_landHas y1 y2 ((y3.toInt64 <<< ((32 : Int32).toInt64 &&& 63)) ||| (y4.toInt64 &&& 4294967295)) (0 : Int32) (g 12) (gl 53) (gl 54)) → ∀ (r_57 : Int64), r_57 = X_62.1 → ∀ (u_58 : (Int32) × (Int64) × (Int64)), u_58 = X_62.2 → ∀ (H : Heap) (locs : List Loc) (ls : Array Slot), va_P (dC, dI) vwCl [(x, .inr (11, [.ref pa, .ref bk, .ref xsp, .ref xdy, .ref le, .ref xst, .int xsc, .ref xim, .ref xil, .int xik, .ref xmo, .ref xom, .ref wi])), (xmo, .inr (4, [u_39.1, .long u_39.2.1, .long u_39.2.2.1, .long u_39.2.2.2.1, .long u_39.2.2.2.2.1])), (xom, .inr (4, [u_39.2.2.2.2.2.1, .long u_39.2.2.2.2.2.2.1, .long u_39.2.2.2.2.2.2.2.1, .long u_39.2.2.2.2.2.2.2.2.1, .long u_39.2.2.2.2.2.2.2.2.2])), (bk, .inr (0, [.ref bto, .ref bnm, .ref bla, .ref bsk, .ref bru, .ref bbo, .ref bdi, .ref bda, .ref bdk, .ref bdt, .ref bdp, .ref bno])), (bto, .inl (cTo, 5, .inl fTo)), (bla, .inl (cLa, 4, .inr (.inr (.inr (.inr (fun k => some (La k))))))), ((La 0), .inr (1, [.int (FI 0), .int (GR 0), .int (FR 0)])), ((La 1), .inr (1, [.int (FI 1), .int (GR 1), .int (FR 1)])), ((La 2), .inr (1, [.int (FI 2), .int (GR 2), .int (FR 2)])), ((La 3), .inr (1, [.int (FI 3), .int (GR 3), .int (FR 3)])), (mq, .inr (12, mF (upd g 2 u_58.1) (vp_updL (vp_updL gl 53 u_58.2.1) 54 u_58.2.2) rf)), ((rf 29), .inl ((ck 29), 24, .inl f_landHas))] H → va_S A s.heap H locs → lv_has ls 7 [(4, .int i), (3, .ref o3), (2, .ref mq), (1, .ref x), (0, .ref bs)] → H0.size ≤ H.size → (∀ q : Nat, q < H0.size → ¬ Bp q → H[q]? = H0[q]?) → W p l e room_1 s m #[Value.ref bs] below meth c H locs (ce + 1) (sl + 6) (lw_Z below #[Value.ref bs] s) (F0 m 2012 ls [])) (kk4 : ∀ (X_50 : Int64 × (Value) × (Int64) × (Int64) × (Int64) × (Int64) × (Value) × (Int64) × (Int64) × (Int64) × (Int64)), X_50 = (fx_alike mla mct myr mdy mlg ola oct oyr ody olg fTo La FI GR FR y1 y2 ((y3.toInt64 <<< ((32 : Int32).toInt64 &&& 63)) ||| (y4.toInt64 &&& 4294967295)) (1 : Int32)) → ∀ (r_38 : Int64), r_38 = X_50.1 → ∀ (u_39 : (Value) × (Int64) × (Int64) × (Int64) × (Int64) × (Value) × (Int64) × (Int64) × (Int64) × (Int64)), u_39 = X_50.2 → ∀ (X_68 : Int64 × (Int32) × (Int64) × (Int64)), X_68 = (fq_alike f_landHas y1 y2 ((y3.toInt64 <<< ((32 : Int32).toInt64 &&& 63)) ||| (y4.toInt64 &&& 4294967295)) (1 : Int32) (g 12) (gl 53) (gl 54)) → ∀ (r_63 : Int64), r_63 = X_68.1 → ∀ (u_64 : (Int32) × (Int64) × (Int64)), u_64 = X_68.2 → ∀ (H : Heap) (locs : List Loc) (ls : Array Slot), va_P (dC, dI) vwCl [(x, .inr (11, [.ref pa, .ref bk, .ref xsp, .ref xdy, .ref le, .ref xst, .int xsc, .ref xim, .ref xil, .int xik, .ref xmo, .ref xom, .ref wi])), (xmo, .inr (4, [u_39.1, .long u_39.2.1, .long u_39.2.2.1, .long u_39.2.2.2.1, .long u_39.2.2.2.2.1])), (xom, .inr (4, [u_39.2.2.2.2.2.1, .long u_39.2.2.2.2.2.2.1, .long u_39.2.2.2.2.2.2.2.1, .long u_39.2.2.2.2.2.2.2.2.1, .long u_39.2.2.2.2.2.2.2.2.2])), (bk, .inr (0, [.ref bto, .ref bnm, .ref bla, .ref bsk, .ref bru, .ref bbo, .ref bdi, .ref bda, .ref bdk, .ref bdt, .ref bdp, .ref bno])), (bto, .inl (cTo, 5, .inl fTo)), (bla, .inl (cLa, 4, .inr (.inr (.inr (.inr (fun k => some (La k))))))), ((La 0), .inr (1, [.int (FI 0), .int (GR 0), .int (FR 0)])), ((La 1), .inr (1, [.int (FI 1), .int (GR 1), .int (FR 1)])), ((La 2), .inr (1, [.int (FI 2), .int (GR 2), .int (FR 2)])), ((La 3), .inr (1, [.int (FI 3), .int (GR 3), .int (FR 3)])), (mq, .inr (12, mF (upd g 2 u_64.1) (vp_updL (vp_updL gl 53 u_64.2.1) 54 u_64.2.2) rf)), ((rf 29), .inl ((ck 29), 24, .inl f_landHas))] H → va_S A s.heap H locs → lv_has ls 7 [(4, .int i), (3, .ref o3), (2, .ref mq), (1, .ref x), (0, .ref bs)] → H0.size ≤ H.size → (∀ q : Nat, q < H0.size → ¬ Bp q → H[q]? = H0[q]?) → W p l e room_1 s m #[Value.ref bs] below meth c H locs (ce + 1) (sl + 6) (lw_Z below #[Value.ref bs] s) (F0 m 2012 ls [])) : W p l e room_1 s m #[Value.ref bs] below meth c H0 locs ce sl (lw_Z below #[Value.ref bs] s) (F0 m 1306 ls []) := by
  obtain ⟨hx, hb, hr, hml, hown, hts, hX, hbl, hlocks, hgv⟩ := id C0
  have htw : ∀ w ∈ wsL_law, w.before _ s = true := fun w h => hts w (wsL_law_in w h)
  have hown : s.vm.findClass RL = some m.cls := hown
  have hA : ∀ q : Nat, s.heap.size ≤ q → A q := fun q h => (hAe q).mpr h
  have hbA : ¬ A bs := fun h => absurd ((hAe bs).mp h) (Nat.not_le.mpr hbl)
  obtain ⟨H, rH⟩ : ∃ z : Heap, z = H0 := ⟨_, rfl⟩
  have hfr : ∀ q : Nat, q < H0.size → ¬ Bp q → H[q]? = H0[q]? := fun q _ _ => by rw [rH]
  have hz0 : H0.size ≤ H.size := by rw [rH]; exact Nat.le_refl _
  rw [← rH] at hP hS ⊢
  refine lv_aload_n hx hb dL_law_1306 rfl (lv_at hl 3 rfl) ?_
  refine lv_aload_n hx hb dL_law_1307 rfl (lv_at hl 4 rfl) ?_
  refine lv_iload hx hb dL_law_1308 (lv_at hl 0 rfl) ?_
  refine lv_iconst (v := 1) hx hb dL_law_1310 (by decide) ?_
  refine lv_iadd hx hb dL_law_1311 ?_
  refine va_sld hx hb hX hbl hbA hS hi1 dL_law_1312 ?_
  rw [hy1]
  refine lv_aload_n hx hb dL_law_1313 rfl (lv_at hl 4 rfl) ?_
  refine lv_iload hx hb dL_law_1314 (lv_at hl 0 rfl) ?_
  refine lv_iconst (v := 2) hx hb dL_law_1316 (by decide) ?_
  refine lv_iadd hx hb dL_law_1317 ?_
  refine va_sld hx hb hX hbl hbA hS hi2 dL_law_1318 ?_
  rw [hy2]
  refine lv_aload_n hx hb dL_law_1319 rfl (lv_at hl 4 rfl) ?_
  refine lv_iload hx hb dL_law_1320 (lv_at hl 0 rfl) ?_
  refine lv_iconst (v := 3) hx hb dL_law_1322 (by decide) ?_
  refine lv_iadd hx hb dL_law_1323 ?_
  refine va_sld hx hb hX hbl hbA hS hi3 dL_law_1324 ?_
  rw [hy3]
  refine lv_i2l (v := y3.toInt64) hx hb dL_law_1325 rfl ?_
  refine lv_bipush (v := 32) hx hb dL_law_1326 (by decide) ?_
  refine lv_lshl (v := (y3.toInt64 <<< ((32 : Int32).toInt64 &&& 63))) hx hb dL_law_1328 rfl ?_
  refine lv_aload_n hx hb dL_law_1329 rfl (lv_at hl 4 rfl) ?_
  refine lv_iload hx hb dL_law_1330 (lv_at hl 0 rfl) ?_
  refine lv_iconst (v := 4) hx hb dL_law_1332 (by decide) ?_
  refine lv_iadd hx hb dL_law_1333 ?_
  refine va_sld hx hb hX hbl hbA hS hi4 dL_law_1334 ?_
  rw [hy4]
  refine lv_i2l (v := y4.toInt64) hx hb dL_law_1335 rfl ?_
  refine lv_ldc2 (v := 4294967295) hx hb hown (htw _ (ck_1 _ (List.mem_of_getElem? (i := 7) rfl))) dL_law_1336 ?_
  refine lv_land hx hb dL_law_1339 ?_
  refine lv_lor hx hb dL_law_1340 ?_
  refine lv_aload_n hx hb dL_law_1341 rfl (lv_at hl 4 rfl) ?_
  refine lv_iload hx hb dL_law_1342 (lv_at hl 0 rfl) ?_
  refine lv_iconst (v := 5) hx hb dL_law_1344 (by decide) ?_
  refine lv_iadd hx hb dL_law_1345 ?_
  refine va_sld hx hb hX hbl hbA hS hi5 dL_law_1346 ?_
  rw [hy5]
  refine lv_if_eq (tgt := 1354) hx hb dL_law_1347 (by decide) (fun c_6 => ?_) (fun c_6 => ?_)
  · refine lv_iconst (v := 0) hx hb dL_law_1354 (by decide) ?_
    have hPc := hP.sub (ws' := [(x, .inr (11, [.ref pa, .ref bk, .ref xsp, .ref xdy, .ref le, .ref xst, .int xsc, .ref xim, .ref xil, .int xik, .ref xmo, .ref xom, .ref wi])), (xmo, .inr (4, [mla, .long mct, .long myr, .long mdy, .long mlg])), (xom, .inr (4, [ola, .long oct, .long oyr, .long ody, .long olg])), (bk, .inr (0, [.ref bto, .ref bnm, .ref bla, .ref bsk, .ref bru, .ref bbo, .ref bdi, .ref bda, .ref bdk, .ref bdt, .ref bdp, .ref bno])), (bto, .inl (cTo, 5, .inl fTo)), (bla, .inl (cLa, 4, .inr (.inr (.inr (.inr (fun k => some (La k))))))), ((La 0), .inr (1, [.int (FI 0), .int (GR 0), .int (FR 0)])), ((La 1), .inr (1, [.int (FI 1), .int (GR 1), .int (FR 1)])), ((La 2), .inr (1, [.int (FI 2), .int (GR 2), .int (FR 2)])), ((La 3), .inr (1, [.int (FI 3), .int (GR 3), .int (FR 3)]))]) [0, 1, 2, 3, 4, 5, 6, 7, 8, 9] rfl
    have hKc := hK.sub (tys' := [(cTo, .int), (cLa, .object RX1)]) [0, 1] rfl
    have hDc := hD.sub (ws' := [(x, .inr (11, [.ref pa, .ref bk, .ref xsp, .ref xdy, .ref le, .ref xst, .int xsc, .ref xim, .ref xil, .int xik, .ref xmo, .ref xom, .ref wi])), (xmo, .inr (4, [mla, .long mct, .long myr, .long mdy, .long mlg])), (xom, .inr (4, [ola, .long oct, .long oyr, .long ody, .long olg])), (bk, .inr (0, [.ref bto, .ref bnm, .ref bla, .ref bsk, .ref bru, .ref bbo, .ref bdi, .ref bda, .ref bdk, .ref bdt, .ref bdp, .ref bno])), (bto, .inl (cTo, 5, .inl fTo)), (bla, .inl (cLa, 4, .inr (.inr (.inr (.inr (fun k => some (La k))))))), ((La 0), .inr (1, [.int (FI 0), .int (GR 0), .int (FR 0)])), ((La 1), .inr (1, [.int (FI 1), .int (GR 1), .int (FR 1)])), ((La 2), .inr (1, [.int (FI 2), .int (GR 2), .int (FR 2)])), ((La 3), .inr (1, [.int (FI 3), .int (GR 3), .int (FR 3)]))]) [0, 1, 2, 3, 4, 5, 6, 7, 8, 9] (by decide) rfl
    have hFc := va_free (wc := [(x, .inr (11, [.ref pa, .ref bk, .ref xsp, .ref xdy, .ref le, .ref xst, .int xsc, .ref xim, .ref xil, .int xik, .ref xmo, .ref xom, .ref wi])), (xmo, .inr (4, [mla, .long mct, .long myr, .long mdy, .long mlg])), (xom, .inr (4, [ola, .long oct, .long oyr, .long ody, .long olg])), (bk, .inr (0, [.ref bto, .ref bnm, .ref bla, .ref bsk, .ref bru, .ref bbo, .ref bdi, .ref bda, .ref bdk, .ref bdt, .ref bdp, .ref bno])), (bto, .inl (cTo, 5, .inl fTo)), (bla, .inl (cLa, 4, .inr (.inr (.inr (.inr (fun k => some (La k))))))), ((La 0), .inr (1, [.int (FI 0), .int (GR 0), .int (FR 0)])), ((La 1), .inr (1, [.int (FI 1), .int (GR 1), .int (FR 1)])), ((La 2), .inr (1, [.int (FI 2), .int (GR 2), .int (FR 2)])), ((La 3), .inr (1, [.int (FI 3), .int (GR 3), .int (FR 3)]))]) hD hS hA [0, 1, 2, 3, 4, 5, 6, 7, 8, 9] rfl
    refine va_calll (va_runV (As := [.int y1, .int y2, .long ((y3.toInt64 <<< ((32 : Int32).toInt64 &&& 63)) ||| (y4.toInt64 &&& 4294967295)), .int 0]) (rest := []) ⟨hx, hb, hml, hown, htw⟩ (gx_alike l dC dI x pa bk xsp xdy le xst xsc xim xil xik xmo xom wi mla mct myr mdy mlg ola oct oyr ody olg bto bnm bla bsk bru bbo bdi bda bdk bdt bdp bno cTo fTo cLa La FI GR FR y1 y2 ((y3.toInt64 <<< ((32 : Int32).toInt64 &&& 63)) ||| (y4.toInt64 &&& 4294967295)) (0 : Int32) H.size) (cwV 4 htw (xg_V (ck_48 _ (List.mem_of_getElem? (i := 17) rfl)) (ck_48 _ (List.mem_of_getElem? (i := 18) rfl)) (ck_48 _ (List.mem_of_getElem? (i := 19) rfl)) (ck_1 _ (List.mem_of_getElem? (i := 2) rfl)) (ck_48 _ (List.mem_of_getElem? (i := 20) rfl))) rfl rfl rfl (by decide +kernel) ⟨Nat.le_of_ble_eq_true rfl, Nat.le_of_ble_eq_true rfl⟩) ⟨fun a U g mk q => by obtain ⟨q0, q1, qP, qK, qD, qx0⟩ := q; exact ⟨q0, q1, qP, va_K.moved (u := U) (U := U.calling g mk a) (Vm.Alike.refl U.vm) qK, qD, xN.calling qx0⟩, va_recv hKc hPc (ci := 11) (q0 := 0) rfl rfl, fun U hU hW => ⟨rfl, by rw [hU], by rw [hU]; exact hPc, va_K.moved hW.alike hKc, hDc.weaken (fun _ _ _ _ => trivial), xN.warm hW hNx⟩⟩ rfl rfl hl.1 rfl (lv_room (Nat.le_of_ble_eq_true rfl)) dL_law_1355 ⟨by first | exact Nat.le_of_ble_eq_true rfl | exact yR (n := 0) (by omega) rfl, by first | exact Nat.le_of_ble_eq_true rfl | exact yR2 (n := 0) (by omega) rfl⟩) hS (fun q _ h => hFc q h) hFc (fun r_7 u_8 t H1 locs ht hvm hw hB hz1 hk1 hS => ?_)
    try dsimp only at hw
    obtain ⟨hP1, hK1, hD1⟩ := hB
    rw [ht] at hP1
    have hK1 := va_K.moved hvm.symm hK1
    have hP1 : va_P (dC, dI) vwCl [(x, .inr (11, [.ref pa, .ref bk, .ref xsp, .ref xdy, .ref le, .ref xst, .int xsc, .ref xim, .ref xil, .int xik, .ref xmo, .ref xom, .ref wi])), (xmo, .inr (4, [u_8.1, .long u_8.2.1, .long u_8.2.2.1, .long u_8.2.2.2.1, .long u_8.2.2.2.2.1])), (xom, .inr (4, [u_8.2.2.2.2.2.1, .long u_8.2.2.2.2.2.2.1, .long u_8.2.2.2.2.2.2.2.1, .long u_8.2.2.2.2.2.2.2.2.1, .long u_8.2.2.2.2.2.2.2.2.2])), (bk, .inr (0, [.ref bto, .ref bnm, .ref bla, .ref bsk, .ref bru, .ref bbo, .ref bdi, .ref bda, .ref bdk, .ref bdt, .ref bdp, .ref bno])), (bto, .inl (cTo, 5, .inl fTo)), (bla, .inl (cLa, 4, .inr (.inr (.inr (.inr (fun k => some (La k))))))), ((La 0), .inr (1, [.int (FI 0), .int (GR 0), .int (FR 0)])), ((La 1), .inr (1, [.int (FI 1), .int (GR 1), .int (FR 1)])), ((La 2), .inr (1, [.int (FI 2), .int (GR 2), .int (FR 2)])), ((La 3), .inr (1, [.int (FI 3), .int (GR 3), .int (FR 3)]))] H1 := hP1
    have hD1 : va_D (va_A [(x, .inr (11, [.ref pa, .ref bk, .ref xsp, .ref xdy, .ref le, .ref xst, .int xsc, .ref xim, .ref xil, .int xik, .ref xmo, .ref xom, .ref wi])), (xmo, .inr (4, [mla, .long mct, .long myr, .long mdy, .long mlg])), (xom, .inr (4, [ola, .long oct, .long oyr, .long ody, .long olg])), (bk, .inr (0, [.ref bto, .ref bnm, .ref bla, .ref bsk, .ref bru, .ref bbo, .ref bdi, .ref bda, .ref bdk, .ref bdt, .ref bdp, .ref bno])), (bto, .inl (cTo, 5, .inl fTo)), (bla, .inl (cLa, 4, .inr (.inr (.inr (.inr (fun k => some (La k))))))), ((La 0), .inr (1, [.int (FI 0), .int (GR 0), .int (FR 0)])), ((La 1), .inr (1, [.int (FI 1), .int (GR 1), .int (FR 1)])), ((La 2), .inr (1, [.int (FI 2), .int (GR 2), .int (FR 2)])), ((La 3), .inr (1, [.int (FI 3), .int (GR 3), .int (FR 3)]))] H.size) [(x, .inr (11, [.ref pa, .ref bk, .ref xsp, .ref xdy, .ref le, .ref xst, .int xsc, .ref xim, .ref xil, .int xik, .ref xmo, .ref xom, .ref wi])), (xmo, .inr (4, [u_8.1, .long u_8.2.1, .long u_8.2.2.1, .long u_8.2.2.2.1, .long u_8.2.2.2.2.1])), (xom, .inr (4, [u_8.2.2.2.2.2.1, .long u_8.2.2.2.2.2.2.1, .long u_8.2.2.2.2.2.2.2.1, .long u_8.2.2.2.2.2.2.2.2.1, .long u_8.2.2.2.2.2.2.2.2.2])), (bk, .inr (0, [.ref bto, .ref bnm, .ref bla, .ref bsk, .ref bru, .ref bbo, .ref bdi, .ref bda, .ref bdk, .ref bdt, .ref bdp, .ref bno])), (bto, .inl (cTo, 5, .inl fTo)), (bla, .inl (cLa, 4, .inr (.inr (.inr (.inr (fun k => some (La k))))))), ((La 0), .inr (1, [.int (FI 0), .int (GR 0), .int (FR 0)])), ((La 1), .inr (1, [.int (FI 1), .int (GR 1), .int (FR 1)])), ((La 2), .inr (1, [.int (FI 2), .int (GR 2), .int (FR 2)])), ((La 3), .inr (1, [.int (FI 3), .int (GR 3), .int (FR 3)]))] := hD1
    have hK1 : va_K (dC, dI) vwCl [] s := hK1
    obtain ⟨hP, hD⟩ := va_join (wr := [(mq, .inr (12, mF g gl rf)), ((rf 29), .inl ((ck 29), 24, .inl f_landHas))]) (w1 := [(x, .inr (11, [.ref pa, .ref bk, .ref xsp, .ref xdy, .ref le, .ref xst, .int xsc, .ref xim, .ref xil, .int xik, .ref xmo, .ref xom, .ref wi])), (xmo, .inr (4, [u_8.1, .long u_8.2.1, .long u_8.2.2.1, .long u_8.2.2.2.1, .long u_8.2.2.2.2.1])), (xom, .inr (4, [u_8.2.2.2.2.2.1, .long u_8.2.2.2.2.2.2.1, .long u_8.2.2.2.2.2.2.2.1, .long u_8.2.2.2.2.2.2.2.2.1, .long u_8.2.2.2.2.2.2.2.2.2])), (bk, .inr (0, [.ref bto, .ref bnm, .ref bla, .ref bsk, .ref bru, .ref bbo, .ref bdi, .ref bda, .ref bdk, .ref bdt, .ref bdp, .ref bno])), (bto, .inl (cTo, 5, .inl fTo)), (bla, .inl (cLa, 4, .inr (.inr (.inr (.inr (fun k => some (La k))))))), ((La 0), .inr (1, [.int (FI 0), .int (GR 0), .int (FR 0)])), ((La 1), .inr (1, [.int (FI 1), .int (GR 1), .int (FR 1)])), ((La 2), .inr (1, [.int (FI 2), .int (GR 2), .int (FR 2)])), ((La 3), .inr (1, [.int (FI 3), .int (GR 3), .int (FR 3)]))]) hP hD [0, 1, 2, 3, 4, 5, 6, 7, 8, 9] [10, 11] rfl rfl (by decide) (by decide) hk1 hFc hP1 hD1
    have hfr := yF (wc := [(x, .inr (11, [.ref pa, .ref bk, .ref xsp, .ref xdy, .ref le, .ref xst, .int xsc, .ref xim, .ref xil, .int xik, .ref xmo, .ref xom, .ref wi])), (xmo, .inr (4, [mla, .long mct, .long myr, .long mdy, .long mlg])), (xom, .inr (4, [ola, .long oct, .long oyr, .long ody, .long olg])), (bk, .inr (0, [.ref bto, .ref bnm, .ref bla, .ref bsk, .ref bru, .ref bbo, .ref bdi, .ref bda, .ref bdk, .ref bdt, .ref bdp, .ref bno])), (bto, .inl (cTo, 5, .inl fTo)), (bla, .inl (cLa, 4, .inr (.inr (.inr (.inr (fun k => some (La k))))))), ((La 0), .inr (1, [.int (FI 0), .int (GR 0), .int (FR 0)])), ((La 1), .inr (1, [.int (FI 1), .int (GR 1), .int (FR 1)])), ((La 2), .inr (1, [.int (FI 2), .int (GR 2), .int (FR 2)])), ((La 3), .inr (1, [.int (FI 3), .int (GR 3), .int (FR 3)]))]) hBs [0, 1, 2, 3, 4, 5, 6, 7, 8, 9] rfl hz0 hfr hk1
    have hz0 := Nat.le_trans hz0 hz1
    generalize H1 = H at hP hS hfr hz0 ⊢
    have hP : va_P (dC, dI) vwCl [(mq, .inr (12, mF g gl rf)), ((rf 29), .inl ((ck 29), 24, .inl f_landHas)), (x, .inr (11, [.ref pa, .ref bk, .ref xsp, .ref xdy, .ref le, .ref xst, .int xsc, .ref xim, .ref xil, .int xik, .ref xmo, .ref xom, .ref wi])), (xmo, .inr (4, [u_8.1, .long u_8.2.1, .long u_8.2.2.1, .long u_8.2.2.2.1, .long u_8.2.2.2.2.1])), (xom, .inr (4, [u_8.2.2.2.2.2.1, .long u_8.2.2.2.2.2.2.1, .long u_8.2.2.2.2.2.2.2.1, .long u_8.2.2.2.2.2.2.2.2.1, .long u_8.2.2.2.2.2.2.2.2.2])), (bk, .inr (0, [.ref bto, .ref bnm, .ref bla, .ref bsk, .ref bru, .ref bbo, .ref bdi, .ref bda, .ref bdk, .ref bdt, .ref bdp, .ref bno])), (bto, .inl (cTo, 5, .inl fTo)), (bla, .inl (cLa, 4, .inr (.inr (.inr (.inr (fun k => some (La k))))))), ((La 0), .inr (1, [.int (FI 0), .int (GR 0), .int (FR 0)])), ((La 1), .inr (1, [.int (FI 1), .int (GR 1), .int (FR 1)])), ((La 2), .inr (1, [.int (FI 2), .int (GR 2), .int (FR 2)])), ((La 3), .inr (1, [.int (FI 3), .int (GR 3), .int (FR 3)]))] H := hP
    have hD : va_D A [(mq, .inr (12, mF g gl rf)), ((rf 29), .inl ((ck 29), 24, .inl f_landHas)), (x, .inr (11, [.ref pa, .ref bk, .ref xsp, .ref xdy, .ref le, .ref xst, .int xsc, .ref xim, .ref xil, .int xik, .ref xmo, .ref xom, .ref wi])), (xmo, .inr (4, [u_8.1, .long u_8.2.1, .long u_8.2.2.1, .long u_8.2.2.2.1, .long u_8.2.2.2.2.1])), (xom, .inr (4, [u_8.2.2.2.2.2.1, .long u_8.2.2.2.2.2.2.1, .long u_8.2.2.2.2.2.2.2.1, .long u_8.2.2.2.2.2.2.2.2.1, .long u_8.2.2.2.2.2.2.2.2.2])), (bk, .inr (0, [.ref bto, .ref bnm, .ref bla, .ref bsk, .ref bru, .ref bbo, .ref bdi, .ref bda, .ref bdk, .ref bdt, .ref bdp, .ref bno])), (bto, .inl (cTo, 5, .inl fTo)), (bla, .inl (cLa, 4, .inr (.inr (.inr (.inr (fun k => some (La k))))))), ((La 0), .inr (1, [.int (FI 0), .int (GR 0), .int (FR 0)])), ((La 1), .inr (1, [.int (FI 1), .int (GR 1), .int (FR 1)])), ((La 2), .inr (1, [.int (FI 2), .int (GR 2), .int (FR 2)])), ((La 3), .inr (1, [.int (FI 3), .int (GR 3), .int (FR 3)]))] := hD
    refine W.widen (k := ce + 0) (n := sl + 0) (by omega) (by omega) ?_
    obtain ⟨X_19, hX_19⟩ : ∃ X9 : Int64 × (Value) × (Int64) × (Int64) × (Int64) × (Int64) × (Value) × (Int64) × (Int64) × (Int64) × (Int64), X9 = (fx_alike mla mct myr mdy mlg ola oct oyr ody olg fTo La FI GR FR y1 y2 ((y3.toInt64 <<< ((32 : Int32).toInt64 &&& 63)) ||| (y4.toInt64 &&& 4294967295)) (0 : Int32)) := ⟨_, rfl⟩
    have hq_r_7 : r_7 = X_19.1 := by rw [hX_19]; exact hw.1
    have hq_u_8 : u_8 = X_19.2 := by rw [hX_19]; exact hw.2
    refine lv_pop2_2 hx hb dL_law_1358 rfl ?_
    refine lv_aload_n hx hb dL_law_1359 rfl (lv_at hl 2 rfl) ?_
    refine lv_aload_n hx hb dL_law_1360 rfl (lv_at hl 4 rfl) ?_
    refine lv_iload hx hb dL_law_1361 (lv_at hl 0 rfl) ?_
    refine lv_iconst (v := 1) hx hb dL_law_1363 (by decide) ?_
    refine lv_iadd hx hb dL_law_1364 ?_
    refine va_sld hx hb hX hbl hbA hS hi1 dL_law_1365 ?_
    rw [hy1]
    refine lv_aload_n hx hb dL_law_1366 rfl (lv_at hl 4 rfl) ?_
    refine lv_iload hx hb dL_law_1367 (lv_at hl 0 rfl) ?_
    refine lv_iconst (v := 2) hx hb dL_law_1369 (by decide) ?_
    refine lv_iadd hx hb dL_law_1370 ?_
    refine va_sld hx hb hX hbl hbA hS hi2 dL_law_1371 ?_
    rw [hy2]
    refine lv_aload_n hx hb dL_law_1372 rfl (lv_at hl 4 rfl) ?_
    refine lv_iload hx hb dL_law_1373 (lv_at hl 0 rfl) ?_
    refine lv_iconst (v := 3) hx hb dL_law_1375 (by decide) ?_
    refine lv_iadd hx hb dL_law_1376 ?_
    refine va_sld hx hb hX hbl hbA hS hi3 dL_law_1377 ?_
    rw [hy3]
    refine lv_i2l (v := y3.toInt64) hx hb dL_law_1378 rfl ?_
    refine lv_bipush (v := 32) hx hb dL_law_1379 (by decide) ?_
    refine lv_lshl (v := (y3.toInt64 <<< ((32 : Int32).toInt64 &&& 63))) hx hb dL_law_1381 rfl ?_
    refine lv_aload_n hx hb dL_law_1382 rfl (lv_at hl 4 rfl) ?_
    refine lv_iload hx hb dL_law_1383 (lv_at hl 0 rfl) ?_
    refine lv_iconst (v := 4) hx hb dL_law_1385 (by decide) ?_
    refine lv_iadd hx hb dL_law_1386 ?_
    refine va_sld hx hb hX hbl hbA hS hi4 dL_law_1387 ?_
    rw [hy4]
    refine lv_i2l (v := y4.toInt64) hx hb dL_law_1388 rfl ?_
    refine lv_ldc2 (v := 4294967295) hx hb hown (htw _ (ck_1 _ (List.mem_of_getElem? (i := 7) rfl))) dL_law_1389 ?_
    refine lv_land hx hb dL_law_1392 ?_
    refine lv_lor hx hb dL_law_1393 ?_
    refine lv_aload_n hx hb dL_law_1394 rfl (lv_at hl 4 rfl) ?_
    refine lv_iload hx hb dL_law_1395 (lv_at hl 0 rfl) ?_
    refine lv_iconst (v := 5) hx hb dL_law_1397 (by decide) ?_
    refine lv_iadd hx hb dL_law_1398 ?_
    refine va_sld hx hb hX hbl hbA hS hi5 dL_law_1399 ?_
    rw [hy5]
    refine lv_if_eq (tgt := 1407) hx hb dL_law_1400 (by decide) (fun c_25 => ?_) (fun c_25 => ?_)
    · refine lv_iconst (v := 0) hx hb dL_law_1407 (by decide) ?_
      have hPc := hP.sub (ws' := [(mq, .inr (12, mF g gl rf)), ((rf 29), .inl ((ck 29), 24, .inl f_landHas))]) [0, 1] rfl
      have hKc := hK.sub (tys' := [((ck 29), .int)]) [2] rfl
      have hDc := hD.sub (ws' := [(mq, .inr (12, mF g gl rf)), ((rf 29), .inl ((ck 29), 24, .inl f_landHas))]) [0, 1] (by decide) rfl
      have hFc := va_free (wc := [(mq, .inr (12, mF g gl rf)), ((rf 29), .inl ((ck 29), 24, .inl f_landHas))]) hD hS hA [0, 1] rfl
      refine va_calll (va_runV (As := [.int y1, .int y2, .long ((y3.toInt64 <<< ((32 : Int32).toInt64 &&& 63)) ||| (y4.toInt64 &&& 4294967295)), .int 0]) (rest := []) ⟨hx, hb, hml, hown, htw⟩ (gq_alike l dC dI mq g gl rf ck f_landHas y1 y2 ((y3.toInt64 <<< ((32 : Int32).toInt64 &&& 63)) ||| (y4.toInt64 &&& 4294967295)) (0 : Int32) H.size hln0 hln4 hLZ) (cwV 4 htw (xg_V (ck_48 _ (List.mem_of_getElem? (i := 23) rfl)) (ck_49 _ (List.mem_of_getElem? (i := 0) rfl)) (ck_49 _ (List.mem_of_getElem? (i := 1) rfl)) (ck_1 _ (List.mem_of_getElem? (i := 5) rfl)) (ck_49 _ (List.mem_of_getElem? (i := 2) rfl))) rfl rfl rfl (by decide +kernel) ⟨Nat.le_of_ble_eq_true rfl, Nat.le_of_ble_eq_true rfl⟩) ⟨fun a U g mk q => by obtain ⟨q0, q1, qP, qK, qD⟩ := q; exact ⟨q0, q1, qP, va_K.moved (u := U) (U := U.calling g mk a) (Vm.Alike.refl U.vm) qK, qD⟩, va_recv hKc hPc (ci := 12) (q0 := 0) rfl rfl, fun U hU hW => ⟨rfl, by rw [hU], by rw [hU]; exact hPc, va_K.moved hW.alike hKc, hDc.weaken (fun _ _ _ _ => trivial)⟩⟩ rfl rfl hl.1 rfl (lv_room (Nat.le_of_ble_eq_true rfl)) dL_law_1408 ⟨by first | exact Nat.le_of_ble_eq_true rfl | exact yR (n := 0) (by omega) rfl, by first | exact Nat.le_of_ble_eq_true rfl | exact yR2 (n := 0) (by omega) rfl⟩) hS (fun q _ h => hFc q h) hFc (fun r_26 u_27 t H1 locs ht hvm hw hB hz1 hk1 hS => ?_)
      try dsimp only at hw
      obtain ⟨hP1, hK1, hD1⟩ := hB
      rw [ht] at hP1
      have hK1 := va_K.moved hvm.symm hK1
      have hP1 : va_P (dC, dI) vwCl [(mq, .inr (12, mF (upd g 2 u_27.1) (vp_updL (vp_updL gl 53 u_27.2.1) 54 u_27.2.2) rf)), ((rf 29), .inl ((ck 29), 24, .inl f_landHas))] H1 := hP1
      have hD1 : va_D (va_A [(mq, .inr (12, mF g gl rf)), ((rf 29), .inl ((ck 29), 24, .inl f_landHas))] H.size) [(mq, .inr (12, mF (upd g 2 u_27.1) (vp_updL (vp_updL gl 53 u_27.2.1) 54 u_27.2.2) rf)), ((rf 29), .inl ((ck 29), 24, .inl f_landHas))] := hD1
      have hK1 : va_K (dC, dI) vwCl [] s := hK1
      obtain ⟨hP, hD⟩ := va_join (wr := [(x, .inr (11, [.ref pa, .ref bk, .ref xsp, .ref xdy, .ref le, .ref xst, .int xsc, .ref xim, .ref xil, .int xik, .ref xmo, .ref xom, .ref wi])), (xmo, .inr (4, [u_8.1, .long u_8.2.1, .long u_8.2.2.1, .long u_8.2.2.2.1, .long u_8.2.2.2.2.1])), (xom, .inr (4, [u_8.2.2.2.2.2.1, .long u_8.2.2.2.2.2.2.1, .long u_8.2.2.2.2.2.2.2.1, .long u_8.2.2.2.2.2.2.2.2.1, .long u_8.2.2.2.2.2.2.2.2.2])), (bk, .inr (0, [.ref bto, .ref bnm, .ref bla, .ref bsk, .ref bru, .ref bbo, .ref bdi, .ref bda, .ref bdk, .ref bdt, .ref bdp, .ref bno])), (bto, .inl (cTo, 5, .inl fTo)), (bla, .inl (cLa, 4, .inr (.inr (.inr (.inr (fun k => some (La k))))))), ((La 0), .inr (1, [.int (FI 0), .int (GR 0), .int (FR 0)])), ((La 1), .inr (1, [.int (FI 1), .int (GR 1), .int (FR 1)])), ((La 2), .inr (1, [.int (FI 2), .int (GR 2), .int (FR 2)])), ((La 3), .inr (1, [.int (FI 3), .int (GR 3), .int (FR 3)]))]) (w1 := [(mq, .inr (12, mF (upd g 2 u_27.1) (vp_updL (vp_updL gl 53 u_27.2.1) 54 u_27.2.2) rf)), ((rf 29), .inl ((ck 29), 24, .inl f_landHas))]) hP hD [0, 1] [2, 3, 4, 5, 6, 7, 8, 9, 10, 11] rfl rfl (by decide) (by decide) hk1 hFc hP1 hD1
      have hfr := yF (wc := [(mq, .inr (12, mF g gl rf)), ((rf 29), .inl ((ck 29), 24, .inl f_landHas))]) hBs [10, 11] rfl hz0 hfr hk1
      have hz0 := Nat.le_trans hz0 hz1
      generalize H1 = H at hP hS hfr hz0 ⊢
      have hP : va_P (dC, dI) vwCl [(x, .inr (11, [.ref pa, .ref bk, .ref xsp, .ref xdy, .ref le, .ref xst, .int xsc, .ref xim, .ref xil, .int xik, .ref xmo, .ref xom, .ref wi])), (xmo, .inr (4, [u_8.1, .long u_8.2.1, .long u_8.2.2.1, .long u_8.2.2.2.1, .long u_8.2.2.2.2.1])), (xom, .inr (4, [u_8.2.2.2.2.2.1, .long u_8.2.2.2.2.2.2.1, .long u_8.2.2.2.2.2.2.2.1, .long u_8.2.2.2.2.2.2.2.2.1, .long u_8.2.2.2.2.2.2.2.2.2])), (bk, .inr (0, [.ref bto, .ref bnm, .ref bla, .ref bsk, .ref bru, .ref bbo, .ref bdi, .ref bda, .ref bdk, .ref bdt, .ref bdp, .ref bno])), (bto, .inl (cTo, 5, .inl fTo)), (bla, .inl (cLa, 4, .inr (.inr (.inr (.inr (fun k => some (La k))))))), ((La 0), .inr (1, [.int (FI 0), .int (GR 0), .int (FR 0)])), ((La 1), .inr (1, [.int (FI 1), .int (GR 1), .int (FR 1)])), ((La 2), .inr (1, [.int (FI 2), .int (GR 2), .int (FR 2)])), ((La 3), .inr (1, [.int (FI 3), .int (GR 3), .int (FR 3)])), (mq, .inr (12, mF (upd g 2 u_27.1) (vp_updL (vp_updL gl 53 u_27.2.1) 54 u_27.2.2) rf)), ((rf 29), .inl ((ck 29), 24, .inl f_landHas))] H := hP
      have hD : va_D A [(x, .inr (11, [.ref pa, .ref bk, .ref xsp, .ref xdy, .ref le, .ref xst, .int xsc, .ref xim, .ref xil, .int xik, .ref xmo, .ref xom, .ref wi])), (xmo, .inr (4, [u_8.1, .long u_8.2.1, .long u_8.2.2.1, .long u_8.2.2.2.1, .long u_8.2.2.2.2.1])), (xom, .inr (4, [u_8.2.2.2.2.2.1, .long u_8.2.2.2.2.2.2.1, .long u_8.2.2.2.2.2.2.2.1, .long u_8.2.2.2.2.2.2.2.2.1, .long u_8.2.2.2.2.2.2.2.2.2])), (bk, .inr (0, [.ref bto, .ref bnm, .ref bla, .ref bsk, .ref bru, .ref bbo, .ref bdi, .ref bda, .ref bdk, .ref bdt, .ref bdp, .ref bno])), (bto, .inl (cTo, 5, .inl fTo)), (bla, .inl (cLa, 4, .inr (.inr (.inr (.inr (fun k => some (La k))))))), ((La 0), .inr (1, [.int (FI 0), .int (GR 0), .int (FR 0)])), ((La 1), .inr (1, [.int (FI 1), .int (GR 1), .int (FR 1)])), ((La 2), .inr (1, [.int (FI 2), .int (GR 2), .int (FR 2)])), ((La 3), .inr (1, [.int (FI 3), .int (GR 3), .int (FR 3)])), (mq, .inr (12, mF (upd g 2 u_27.1) (vp_updL (vp_updL gl 53 u_27.2.1) 54 u_27.2.2) rf)), ((rf 29), .inl ((ck 29), 24, .inl f_landHas))] := hD
      refine W.widen (k := ce + 0) (n := sl + 0) (by omega) (by omega) ?_
      obtain ⟨X_31, hX_31⟩ : ∃ X9 : Int64 × (Int32) × (Int64) × (Int64), X9 = (fq_alike f_landHas y1 y2 ((y3.toInt64 <<< ((32 : Int32).toInt64 &&& 63)) ||| (y4.toInt64 &&& 4294967295)) (0 : Int32) (g 12) (gl 53) (gl 54)) := ⟨_, rfl⟩
      have hq_r_26 : r_26 = X_31.1 := by rw [hX_31]; exact hw.1
      have hq_u_27 : u_27 = X_31.2 := by rw [hX_31]; exact hw.2
      refine lv_pop2_2 hx hb dL_law_1411 rfl ?_
      refine lv_goto (tgt := 2012) hx hb dL_law_1412 (by decide) ?_
      refine W.widen (k := ce + 1) (n := sl + 6) (by omega) (by omega) ?_
      exact kk1 X_19 hX_19 r_7 hq_r_7 u_8 hq_u_8 X_31 hX_31 r_26 hq_r_26 u_27 hq_u_27 H locs ls (hP.sub (ws' := [(x, .inr (11, [.ref pa, .ref bk, .ref xsp, .ref xdy, .ref le, .ref xst, .int xsc, .ref xim, .ref xil, .int xik, .ref xmo, .ref xom, .ref wi])), (xmo, .inr (4, [u_8.1, .long u_8.2.1, .long u_8.2.2.1, .long u_8.2.2.2.1, .long u_8.2.2.2.2.1])), (xom, .inr (4, [u_8.2.2.2.2.2.1, .long u_8.2.2.2.2.2.2.1, .long u_8.2.2.2.2.2.2.2.1, .long u_8.2.2.2.2.2.2.2.2.1, .long u_8.2.2.2.2.2.2.2.2.2])), (bk, .inr (0, [.ref bto, .ref bnm, .ref bla, .ref bsk, .ref bru, .ref bbo, .ref bdi, .ref bda, .ref bdk, .ref bdt, .ref bdp, .ref bno])), (bto, .inl (cTo, 5, .inl fTo)), (bla, .inl (cLa, 4, .inr (.inr (.inr (.inr (fun k => some (La k))))))), ((La 0), .inr (1, [.int (FI 0), .int (GR 0), .int (FR 0)])), ((La 1), .inr (1, [.int (FI 1), .int (GR 1), .int (FR 1)])), ((La 2), .inr (1, [.int (FI 2), .int (GR 2), .int (FR 2)])), ((La 3), .inr (1, [.int (FI 3), .int (GR 3), .int (FR 3)])), (mq, .inr (12, mF (upd g 2 u_27.1) (vp_updL (vp_updL gl 53 u_27.2.1) 54 u_27.2.2) rf)), ((rf 29), .inl ((ck 29), 24, .inl f_landHas))]) [0, 1, 2, 3, 4, 5, 6, 7, 8, 9, 10, 11] rfl) hS (lv_sub hl [0, 1, 2, 3, 4] rfl) hz0 hfr
    · refine lv_iconst (v := 1) hx hb dL_law_1403 (by decide) ?_
      refine lv_goto (tgt := 1408) hx hb dL_law_1404 (by decide) ?_
      have hPc := hP.sub (ws' := [(mq, .inr (12, mF g gl rf)), ((rf 29), .inl ((ck 29), 24, .inl f_landHas))]) [0, 1] rfl
      have hKc := hK.sub (tys' := [((ck 29), .int)]) [2] rfl
      have hDc := hD.sub (ws' := [(mq, .inr (12, mF g gl rf)), ((rf 29), .inl ((ck 29), 24, .inl f_landHas))]) [0, 1] (by decide) rfl
      have hFc := va_free (wc := [(mq, .inr (12, mF g gl rf)), ((rf 29), .inl ((ck 29), 24, .inl f_landHas))]) hD hS hA [0, 1] rfl
      refine va_calll (va_runV (As := [.int y1, .int y2, .long ((y3.toInt64 <<< ((32 : Int32).toInt64 &&& 63)) ||| (y4.toInt64 &&& 4294967295)), .int 1]) (rest := []) ⟨hx, hb, hml, hown, htw⟩ (gq_alike l dC dI mq g gl rf ck f_landHas y1 y2 ((y3.toInt64 <<< ((32 : Int32).toInt64 &&& 63)) ||| (y4.toInt64 &&& 4294967295)) (1 : Int32) H.size hln0 hln4 hLZ) (cwV 4 htw (xg_V (ck_48 _ (List.mem_of_getElem? (i := 23) rfl)) (ck_49 _ (List.mem_of_getElem? (i := 0) rfl)) (ck_49 _ (List.mem_of_getElem? (i := 1) rfl)) (ck_1 _ (List.mem_of_getElem? (i := 5) rfl)) (ck_49 _ (List.mem_of_getElem? (i := 2) rfl))) rfl rfl rfl (by decide +kernel) ⟨Nat.le_of_ble_eq_true rfl, Nat.le_of_ble_eq_true rfl⟩) ⟨fun a U g mk q => by obtain ⟨q0, q1, qP, qK, qD⟩ := q; exact ⟨q0, q1, qP, va_K.moved (u := U) (U := U.calling g mk a) (Vm.Alike.refl U.vm) qK, qD⟩, va_recv hKc hPc (ci := 12) (q0 := 0) rfl rfl, fun U hU hW => ⟨rfl, by rw [hU], by rw [hU]; exact hPc, va_K.moved hW.alike hKc, hDc.weaken (fun _ _ _ _ => trivial)⟩⟩ rfl rfl hl.1 rfl (lv_room (Nat.le_of_ble_eq_true rfl)) dL_law_1408 ⟨by first | exact Nat.le_of_ble_eq_true rfl | exact yR (n := 0) (by omega) rfl, by first | exact Nat.le_of_ble_eq_true rfl | exact yR2 (n := 0) (by omega) rfl⟩) hS (fun q _ h => hFc q h) hFc (fun r_32 u_33 t H1 locs ht hvm hw hB hz1 hk1 hS => ?_)
      try dsimp only at hw
      obtain ⟨hP1, hK1, hD1⟩ := hB
      rw [ht] at hP1
      have hK1 := va_K.moved hvm.symm hK1
      have hP1 : va_P (dC, dI) vwCl [(mq, .inr (12, mF (upd g 2 u_33.1) (vp_updL (vp_updL gl 53 u_33.2.1) 54 u_33.2.2) rf)), ((rf 29), .inl ((ck 29), 24, .inl f_landHas))] H1 := hP1
      have hD1 : va_D (va_A [(mq, .inr (12, mF g gl rf)), ((rf 29), .inl ((ck 29), 24, .inl f_landHas))] H.size) [(mq, .inr (12, mF (upd g 2 u_33.1) (vp_updL (vp_updL gl 53 u_33.2.1) 54 u_33.2.2) rf)), ((rf 29), .inl ((ck 29), 24, .inl f_landHas))] := hD1
      have hK1 : va_K (dC, dI) vwCl [] s := hK1
      obtain ⟨hP, hD⟩ := va_join (wr := [(x, .inr (11, [.ref pa, .ref bk, .ref xsp, .ref xdy, .ref le, .ref xst, .int xsc, .ref xim, .ref xil, .int xik, .ref xmo, .ref xom, .ref wi])), (xmo, .inr (4, [u_8.1, .long u_8.2.1, .long u_8.2.2.1, .long u_8.2.2.2.1, .long u_8.2.2.2.2.1])), (xom, .inr (4, [u_8.2.2.2.2.2.1, .long u_8.2.2.2.2.2.2.1, .long u_8.2.2.2.2.2.2.2.1, .long u_8.2.2.2.2.2.2.2.2.1, .long u_8.2.2.2.2.2.2.2.2.2])), (bk, .inr (0, [.ref bto, .ref bnm, .ref bla, .ref bsk, .ref bru, .ref bbo, .ref bdi, .ref bda, .ref bdk, .ref bdt, .ref bdp, .ref bno])), (bto, .inl (cTo, 5, .inl fTo)), (bla, .inl (cLa, 4, .inr (.inr (.inr (.inr (fun k => some (La k))))))), ((La 0), .inr (1, [.int (FI 0), .int (GR 0), .int (FR 0)])), ((La 1), .inr (1, [.int (FI 1), .int (GR 1), .int (FR 1)])), ((La 2), .inr (1, [.int (FI 2), .int (GR 2), .int (FR 2)])), ((La 3), .inr (1, [.int (FI 3), .int (GR 3), .int (FR 3)]))]) (w1 := [(mq, .inr (12, mF (upd g 2 u_33.1) (vp_updL (vp_updL gl 53 u_33.2.1) 54 u_33.2.2) rf)), ((rf 29), .inl ((ck 29), 24, .inl f_landHas))]) hP hD [0, 1] [2, 3, 4, 5, 6, 7, 8, 9, 10, 11] rfl rfl (by decide) (by decide) hk1 hFc hP1 hD1
      have hfr := yF (wc := [(mq, .inr (12, mF g gl rf)), ((rf 29), .inl ((ck 29), 24, .inl f_landHas))]) hBs [10, 11] rfl hz0 hfr hk1
      have hz0 := Nat.le_trans hz0 hz1
      generalize H1 = H at hP hS hfr hz0 ⊢
      have hP : va_P (dC, dI) vwCl [(x, .inr (11, [.ref pa, .ref bk, .ref xsp, .ref xdy, .ref le, .ref xst, .int xsc, .ref xim, .ref xil, .int xik, .ref xmo, .ref xom, .ref wi])), (xmo, .inr (4, [u_8.1, .long u_8.2.1, .long u_8.2.2.1, .long u_8.2.2.2.1, .long u_8.2.2.2.2.1])), (xom, .inr (4, [u_8.2.2.2.2.2.1, .long u_8.2.2.2.2.2.2.1, .long u_8.2.2.2.2.2.2.2.1, .long u_8.2.2.2.2.2.2.2.2.1, .long u_8.2.2.2.2.2.2.2.2.2])), (bk, .inr (0, [.ref bto, .ref bnm, .ref bla, .ref bsk, .ref bru, .ref bbo, .ref bdi, .ref bda, .ref bdk, .ref bdt, .ref bdp, .ref bno])), (bto, .inl (cTo, 5, .inl fTo)), (bla, .inl (cLa, 4, .inr (.inr (.inr (.inr (fun k => some (La k))))))), ((La 0), .inr (1, [.int (FI 0), .int (GR 0), .int (FR 0)])), ((La 1), .inr (1, [.int (FI 1), .int (GR 1), .int (FR 1)])), ((La 2), .inr (1, [.int (FI 2), .int (GR 2), .int (FR 2)])), ((La 3), .inr (1, [.int (FI 3), .int (GR 3), .int (FR 3)])), (mq, .inr (12, mF (upd g 2 u_33.1) (vp_updL (vp_updL gl 53 u_33.2.1) 54 u_33.2.2) rf)), ((rf 29), .inl ((ck 29), 24, .inl f_landHas))] H := hP
      have hD : va_D A [(x, .inr (11, [.ref pa, .ref bk, .ref xsp, .ref xdy, .ref le, .ref xst, .int xsc, .ref xim, .ref xil, .int xik, .ref xmo, .ref xom, .ref wi])), (xmo, .inr (4, [u_8.1, .long u_8.2.1, .long u_8.2.2.1, .long u_8.2.2.2.1, .long u_8.2.2.2.2.1])), (xom, .inr (4, [u_8.2.2.2.2.2.1, .long u_8.2.2.2.2.2.2.1, .long u_8.2.2.2.2.2.2.2.1, .long u_8.2.2.2.2.2.2.2.2.1, .long u_8.2.2.2.2.2.2.2.2.2])), (bk, .inr (0, [.ref bto, .ref bnm, .ref bla, .ref bsk, .ref bru, .ref bbo, .ref bdi, .ref bda, .ref bdk, .ref bdt, .ref bdp, .ref bno])), (bto, .inl (cTo, 5, .inl fTo)), (bla, .inl (cLa, 4, .inr (.inr (.inr (.inr (fun k => some (La k))))))), ((La 0), .inr (1, [.int (FI 0), .int (GR 0), .int (FR 0)])), ((La 1), .inr (1, [.int (FI 1), .int (GR 1), .int (FR 1)])), ((La 2), .inr (1, [.int (FI 2), .int (GR 2), .int (FR 2)])), ((La 3), .inr (1, [.int (FI 3), .int (GR 3), .int (FR 3)])), (mq, .inr (12, mF (upd g 2 u_33.1) (vp_updL (vp_updL gl 53 u_33.2.1) 54 u_33.2.2) rf)), ((rf 29), .inl ((ck 29), 24, .inl f_landHas))] := hD
      refine W.widen (k := ce + 0) (n := sl + 0) (by omega) (by omega) ?_
      obtain ⟨X_37, hX_37⟩ : ∃ X9 : Int64 × (Int32) × (Int64) × (Int64), X9 = (fq_alike f_landHas y1 y2 ((y3.toInt64 <<< ((32 : Int32).toInt64 &&& 63)) ||| (y4.toInt64 &&& 4294967295)) (1 : Int32) (g 12) (gl 53) (gl 54)) := ⟨_, rfl⟩
      have hq_r_32 : r_32 = X_37.1 := by rw [hX_37]; exact hw.1
      have hq_u_33 : u_33 = X_37.2 := by rw [hX_37]; exact hw.2
      refine lv_pop2_2 hx hb dL_law_1411 rfl ?_
      refine lv_goto (tgt := 2012) hx hb dL_law_1412 (by decide) ?_
      refine W.widen (k := ce + 1) (n := sl + 6) (by omega) (by omega) ?_
      exact kk2 X_19 hX_19 r_7 hq_r_7 u_8 hq_u_8 X_37 hX_37 r_32 hq_r_32 u_33 hq_u_33 H locs ls (hP.sub (ws' := [(x, .inr (11, [.ref pa, .ref bk, .ref xsp, .ref xdy, .ref le, .ref xst, .int xsc, .ref xim, .ref xil, .int xik, .ref xmo, .ref xom, .ref wi])), (xmo, .inr (4, [u_8.1, .long u_8.2.1, .long u_8.2.2.1, .long u_8.2.2.2.1, .long u_8.2.2.2.2.1])), (xom, .inr (4, [u_8.2.2.2.2.2.1, .long u_8.2.2.2.2.2.2.1, .long u_8.2.2.2.2.2.2.2.1, .long u_8.2.2.2.2.2.2.2.2.1, .long u_8.2.2.2.2.2.2.2.2.2])), (bk, .inr (0, [.ref bto, .ref bnm, .ref bla, .ref bsk, .ref bru, .ref bbo, .ref bdi, .ref bda, .ref bdk, .ref bdt, .ref bdp, .ref bno])), (bto, .inl (cTo, 5, .inl fTo)), (bla, .inl (cLa, 4, .inr (.inr (.inr (.inr (fun k => some (La k))))))), ((La 0), .inr (1, [.int (FI 0), .int (GR 0), .int (FR 0)])), ((La 1), .inr (1, [.int (FI 1), .int (GR 1), .int (FR 1)])), ((La 2), .inr (1, [.int (FI 2), .int (GR 2), .int (FR 2)])), ((La 3), .inr (1, [.int (FI 3), .int (GR 3), .int (FR 3)])), (mq, .inr (12, mF (upd g 2 u_33.1) (vp_updL (vp_updL gl 53 u_33.2.1) 54 u_33.2.2) rf)), ((rf 29), .inl ((ck 29), 24, .inl f_landHas))]) [0, 1, 2, 3, 4, 5, 6, 7, 8, 9, 10, 11] rfl) hS (lv_sub hl [0, 1, 2, 3, 4] rfl) hz0 hfr
  · refine lv_iconst (v := 1) hx hb dL_law_1350 (by decide) ?_
    refine lv_goto (tgt := 1355) hx hb dL_law_1351 (by decide) ?_
    have hPc := hP.sub (ws' := [(x, .inr (11, [.ref pa, .ref bk, .ref xsp, .ref xdy, .ref le, .ref xst, .int xsc, .ref xim, .ref xil, .int xik, .ref xmo, .ref xom, .ref wi])), (xmo, .inr (4, [mla, .long mct, .long myr, .long mdy, .long mlg])), (xom, .inr (4, [ola, .long oct, .long oyr, .long ody, .long olg])), (bk, .inr (0, [.ref bto, .ref bnm, .ref bla, .ref bsk, .ref bru, .ref bbo, .ref bdi, .ref bda, .ref bdk, .ref bdt, .ref bdp, .ref bno])), (bto, .inl (cTo, 5, .inl fTo)), (bla, .inl (cLa, 4, .inr (.inr (.inr (.inr (fun k => some (La k))))))), ((La 0), .inr (1, [.int (FI 0), .int (GR 0), .int (FR 0)])), ((La 1), .inr (1, [.int (FI 1), .int (GR 1), .int (FR 1)])), ((La 2), .inr (1, [.int (FI 2), .int (GR 2), .int (FR 2)])), ((La 3), .inr (1, [.int (FI 3), .int (GR 3), .int (FR 3)]))]) [0, 1, 2, 3, 4, 5, 6, 7, 8, 9] rfl
    have hKc := hK.sub (tys' := [(cTo, .int), (cLa, .object RX1)]) [0, 1] rfl
    have hDc := hD.sub (ws' := [(x, .inr (11, [.ref pa, .ref bk, .ref xsp, .ref xdy, .ref le, .ref xst, .int xsc, .ref xim, .ref xil, .int xik, .ref xmo, .ref xom, .ref wi])), (xmo, .inr (4, [mla, .long mct, .long myr, .long mdy, .long mlg])), (xom, .inr (4, [ola, .long oct, .long oyr, .long ody, .long olg])), (bk, .inr (0, [.ref bto, .ref bnm, .ref bla, .ref bsk, .ref bru, .ref bbo, .ref bdi, .ref bda, .ref bdk, .ref bdt, .ref bdp, .ref bno])), (bto, .inl (cTo, 5, .inl fTo)), (bla, .inl (cLa, 4, .inr (.inr (.inr (.inr (fun k => some (La k))))))), ((La 0), .inr (1, [.int (FI 0), .int (GR 0), .int (FR 0)])), ((La 1), .inr (1, [.int (FI 1), .int (GR 1), .int (FR 1)])), ((La 2), .inr (1, [.int (FI 2), .int (GR 2), .int (FR 2)])), ((La 3), .inr (1, [.int (FI 3), .int (GR 3), .int (FR 3)]))]) [0, 1, 2, 3, 4, 5, 6, 7, 8, 9] (by decide) rfl
    have hFc := va_free (wc := [(x, .inr (11, [.ref pa, .ref bk, .ref xsp, .ref xdy, .ref le, .ref xst, .int xsc, .ref xim, .ref xil, .int xik, .ref xmo, .ref xom, .ref wi])), (xmo, .inr (4, [mla, .long mct, .long myr, .long mdy, .long mlg])), (xom, .inr (4, [ola, .long oct, .long oyr, .long ody, .long olg])), (bk, .inr (0, [.ref bto, .ref bnm, .ref bla, .ref bsk, .ref bru, .ref bbo, .ref bdi, .ref bda, .ref bdk, .ref bdt, .ref bdp, .ref bno])), (bto, .inl (cTo, 5, .inl fTo)), (bla, .inl (cLa, 4, .inr (.inr (.inr (.inr (fun k => some (La k))))))), ((La 0), .inr (1, [.int (FI 0), .int (GR 0), .int (FR 0)])), ((La 1), .inr (1, [.int (FI 1), .int (GR 1), .int (FR 1)])), ((La 2), .inr (1, [.int (FI 2), .int (GR 2), .int (FR 2)])), ((La 3), .inr (1, [.int (FI 3), .int (GR 3), .int (FR 3)]))]) hD hS hA [0, 1, 2, 3, 4, 5, 6, 7, 8, 9] rfl
    refine va_calll (va_runV (As := [.int y1, .int y2, .long ((y3.toInt64 <<< ((32 : Int32).toInt64 &&& 63)) ||| (y4.toInt64 &&& 4294967295)), .int 1]) (rest := []) ⟨hx, hb, hml, hown, htw⟩ (gx_alike l dC dI x pa bk xsp xdy le xst xsc xim xil xik xmo xom wi mla mct myr mdy mlg ola oct oyr ody olg bto bnm bla bsk bru bbo bdi bda bdk bdt bdp bno cTo fTo cLa La FI GR FR y1 y2 ((y3.toInt64 <<< ((32 : Int32).toInt64 &&& 63)) ||| (y4.toInt64 &&& 4294967295)) (1 : Int32) H.size) (cwV 4 htw (xg_V (ck_48 _ (List.mem_of_getElem? (i := 17) rfl)) (ck_48 _ (List.mem_of_getElem? (i := 18) rfl)) (ck_48 _ (List.mem_of_getElem? (i := 19) rfl)) (ck_1 _ (List.mem_of_getElem? (i := 2) rfl)) (ck_48 _ (List.mem_of_getElem? (i := 20) rfl))) rfl rfl rfl (by decide +kernel) ⟨Nat.le_of_ble_eq_true rfl, Nat.le_of_ble_eq_true rfl⟩) ⟨fun a U g mk q => by obtain ⟨q0, q1, qP, qK, qD, qx0⟩ := q; exact ⟨q0, q1, qP, va_K.moved (u := U) (U := U.calling g mk a) (Vm.Alike.refl U.vm) qK, qD, xN.calling qx0⟩, va_recv hKc hPc (ci := 11) (q0 := 0) rfl rfl, fun U hU hW => ⟨rfl, by rw [hU], by rw [hU]; exact hPc, va_K.moved hW.alike hKc, hDc.weaken (fun _ _ _ _ => trivial), xN.warm hW hNx⟩⟩ rfl rfl hl.1 rfl (lv_room (Nat.le_of_ble_eq_true rfl)) dL_law_1355 ⟨by first | exact Nat.le_of_ble_eq_true rfl | exact yR (n := 0) (by omega) rfl, by first | exact Nat.le_of_ble_eq_true rfl | exact yR2 (n := 0) (by omega) rfl⟩) hS (fun q _ h => hFc q h) hFc (fun r_38 u_39 t H1 locs ht hvm hw hB hz1 hk1 hS => ?_)
    try dsimp only at hw
    obtain ⟨hP1, hK1, hD1⟩ := hB
    rw [ht] at hP1
    have hK1 := va_K.moved hvm.symm hK1
    have hP1 : va_P (dC, dI) vwCl [(x, .inr (11, [.ref pa, .ref bk, .ref xsp, .ref xdy, .ref le, .ref xst, .int xsc, .ref xim, .ref xil, .int xik, .ref xmo, .ref xom, .ref wi])), (xmo, .inr (4, [u_39.1, .long u_39.2.1, .long u_39.2.2.1, .long u_39.2.2.2.1, .long u_39.2.2.2.2.1])), (xom, .inr (4, [u_39.2.2.2.2.2.1, .long u_39.2.2.2.2.2.2.1, .long u_39.2.2.2.2.2.2.2.1, .long u_39.2.2.2.2.2.2.2.2.1, .long u_39.2.2.2.2.2.2.2.2.2])), (bk, .inr (0, [.ref bto, .ref bnm, .ref bla, .ref bsk, .ref bru, .ref bbo, .ref bdi, .ref bda, .ref bdk, .ref bdt, .ref bdp, .ref bno])), (bto, .inl (cTo, 5, .inl fTo)), (bla, .inl (cLa, 4, .inr (.inr (.inr (.inr (fun k => some (La k))))))), ((La 0), .inr (1, [.int (FI 0), .int (GR 0), .int (FR 0)])), ((La 1), .inr (1, [.int (FI 1), .int (GR 1), .int (FR 1)])), ((La 2), .inr (1, [.int (FI 2), .int (GR 2), .int (FR 2)])), ((La 3), .inr (1, [.int (FI 3), .int (GR 3), .int (FR 3)]))] H1 := hP1
    have hD1 : va_D (va_A [(x, .inr (11, [.ref pa, .ref bk, .ref xsp, .ref xdy, .ref le, .ref xst, .int xsc, .ref xim, .ref xil, .int xik, .ref xmo, .ref xom, .ref wi])), (xmo, .inr (4, [mla, .long mct, .long myr, .long mdy, .long mlg])), (xom, .inr (4, [ola, .long oct, .long oyr, .long ody, .long olg])), (bk, .inr (0, [.ref bto, .ref bnm, .ref bla, .ref bsk, .ref bru, .ref bbo, .ref bdi, .ref bda, .ref bdk, .ref bdt, .ref bdp, .ref bno])), (bto, .inl (cTo, 5, .inl fTo)), (bla, .inl (cLa, 4, .inr (.inr (.inr (.inr (fun k => some (La k))))))), ((La 0), .inr (1, [.int (FI 0), .int (GR 0), .int (FR 0)])), ((La 1), .inr (1, [.int (FI 1), .int (GR 1), .int (FR 1)])), ((La 2), .inr (1, [.int (FI 2), .int (GR 2), .int (FR 2)])), ((La 3), .inr (1, [.int (FI 3), .int (GR 3), .int (FR 3)]))] H.size) [(x, .inr (11, [.ref pa, .ref bk, .ref xsp, .ref xdy, .ref le, .ref xst, .int xsc, .ref xim, .ref xil, .int xik, .ref xmo, .ref xom, .ref wi])), (xmo, .inr (4, [u_39.1, .long u_39.2.1, .long u_39.2.2.1, .long u_39.2.2.2.1, .long u_39.2.2.2.2.1])), (xom, .inr (4, [u_39.2.2.2.2.2.1, .long u_39.2.2.2.2.2.2.1, .long u_39.2.2.2.2.2.2.2.1, .long u_39.2.2.2.2.2.2.2.2.1, .long u_39.2.2.2.2.2.2.2.2.2])), (bk, .inr (0, [.ref bto, .ref bnm, .ref bla, .ref bsk, .ref bru, .ref bbo, .ref bdi, .ref bda, .ref bdk, .ref bdt, .ref bdp, .ref bno])), (bto, .inl (cTo, 5, .inl fTo)), (bla, .inl (cLa, 4, .inr (.inr (.inr (.inr (fun k => some (La k))))))), ((La 0), .inr (1, [.int (FI 0), .int (GR 0), .int (FR 0)])), ((La 1), .inr (1, [.int (FI 1), .int (GR 1), .int (FR 1)])), ((La 2), .inr (1, [.int (FI 2), .int (GR 2), .int (FR 2)])), ((La 3), .inr (1, [.int (FI 3), .int (GR 3), .int (FR 3)]))] := hD1
    have hK1 : va_K (dC, dI) vwCl [] s := hK1
    obtain ⟨hP, hD⟩ := va_join (wr := [(mq, .inr (12, mF g gl rf)), ((rf 29), .inl ((ck 29), 24, .inl f_landHas))]) (w1 := [(x, .inr (11, [.ref pa, .ref bk, .ref xsp, .ref xdy, .ref le, .ref xst, .int xsc, .ref xim, .ref xil, .int xik, .ref xmo, .ref xom, .ref wi])), (xmo, .inr (4, [u_39.1, .long u_39.2.1, .long u_39.2.2.1, .long u_39.2.2.2.1, .long u_39.2.2.2.2.1])), (xom, .inr (4, [u_39.2.2.2.2.2.1, .long u_39.2.2.2.2.2.2.1, .long u_39.2.2.2.2.2.2.2.1, .long u_39.2.2.2.2.2.2.2.2.1, .long u_39.2.2.2.2.2.2.2.2.2])), (bk, .inr (0, [.ref bto, .ref bnm, .ref bla, .ref bsk, .ref bru, .ref bbo, .ref bdi, .ref bda, .ref bdk, .ref bdt, .ref bdp, .ref bno])), (bto, .inl (cTo, 5, .inl fTo)), (bla, .inl (cLa, 4, .inr (.inr (.inr (.inr (fun k => some (La k))))))), ((La 0), .inr (1, [.int (FI 0), .int (GR 0), .int (FR 0)])), ((La 1), .inr (1, [.int (FI 1), .int (GR 1), .int (FR 1)])), ((La 2), .inr (1, [.int (FI 2), .int (GR 2), .int (FR 2)])), ((La 3), .inr (1, [.int (FI 3), .int (GR 3), .int (FR 3)]))]) hP hD [0, 1, 2, 3, 4, 5, 6, 7, 8, 9] [10, 11] rfl rfl (by decide) (by decide) hk1 hFc hP1 hD1
    have hfr := yF (wc := [(x, .inr (11, [.ref pa, .ref bk, .ref xsp, .ref xdy, .ref le, .ref xst, .int xsc, .ref xim, .ref xil, .int xik, .ref xmo, .ref xom, .ref wi])), (xmo, .inr (4, [mla, .long mct, .long myr, .long mdy, .long mlg])), (xom, .inr (4, [ola, .long oct, .long oyr, .long ody, .long olg])), (bk, .inr (0, [.ref bto, .ref bnm, .ref bla, .ref bsk, .ref bru, .ref bbo, .ref bdi, .ref bda, .ref bdk, .ref bdt, .ref bdp, .ref bno])), (bto, .inl (cTo, 5, .inl fTo)), (bla, .inl (cLa, 4, .inr (.inr (.inr (.inr (fun k => some (La k))))))), ((La 0), .inr (1, [.int (FI 0), .int (GR 0), .int (FR 0)])), ((La 1), .inr (1, [.int (FI 1), .int (GR 1), .int (FR 1)])), ((La 2), .inr (1, [.int (FI 2), .int (GR 2), .int (FR 2)])), ((La 3), .inr (1, [.int (FI 3), .int (GR 3), .int (FR 3)]))]) hBs [0, 1, 2, 3, 4, 5, 6, 7, 8, 9] rfl hz0 hfr hk1
    have hz0 := Nat.le_trans hz0 hz1
    generalize H1 = H at hP hS hfr hz0 ⊢
    have hP : va_P (dC, dI) vwCl [(mq, .inr (12, mF g gl rf)), ((rf 29), .inl ((ck 29), 24, .inl f_landHas)), (x, .inr (11, [.ref pa, .ref bk, .ref xsp, .ref xdy, .ref le, .ref xst, .int xsc, .ref xim, .ref xil, .int xik, .ref xmo, .ref xom, .ref wi])), (xmo, .inr (4, [u_39.1, .long u_39.2.1, .long u_39.2.2.1, .long u_39.2.2.2.1, .long u_39.2.2.2.2.1])), (xom, .inr (4, [u_39.2.2.2.2.2.1, .long u_39.2.2.2.2.2.2.1, .long u_39.2.2.2.2.2.2.2.1, .long u_39.2.2.2.2.2.2.2.2.1, .long u_39.2.2.2.2.2.2.2.2.2])), (bk, .inr (0, [.ref bto, .ref bnm, .ref bla, .ref bsk, .ref bru, .ref bbo, .ref bdi, .ref bda, .ref bdk, .ref bdt, .ref bdp, .ref bno])), (bto, .inl (cTo, 5, .inl fTo)), (bla, .inl (cLa, 4, .inr (.inr (.inr (.inr (fun k => some (La k))))))), ((La 0), .inr (1, [.int (FI 0), .int (GR 0), .int (FR 0)])), ((La 1), .inr (1, [.int (FI 1), .int (GR 1), .int (FR 1)])), ((La 2), .inr (1, [.int (FI 2), .int (GR 2), .int (FR 2)])), ((La 3), .inr (1, [.int (FI 3), .int (GR 3), .int (FR 3)]))] H := hP
    have hD : va_D A [(mq, .inr (12, mF g gl rf)), ((rf 29), .inl ((ck 29), 24, .inl f_landHas)), (x, .inr (11, [.ref pa, .ref bk, .ref xsp, .ref xdy, .ref le, .ref xst, .int xsc, .ref xim, .ref xil, .int xik, .ref xmo, .ref xom, .ref wi])), (xmo, .inr (4, [u_39.1, .long u_39.2.1, .long u_39.2.2.1, .long u_39.2.2.2.1, .long u_39.2.2.2.2.1])), (xom, .inr (4, [u_39.2.2.2.2.2.1, .long u_39.2.2.2.2.2.2.1, .long u_39.2.2.2.2.2.2.2.1, .long u_39.2.2.2.2.2.2.2.2.1, .long u_39.2.2.2.2.2.2.2.2.2])), (bk, .inr (0, [.ref bto, .ref bnm, .ref bla, .ref bsk, .ref bru, .ref bbo, .ref bdi, .ref bda, .ref bdk, .ref bdt, .ref bdp, .ref bno])), (bto, .inl (cTo, 5, .inl fTo)), (bla, .inl (cLa, 4, .inr (.inr (.inr (.inr (fun k => some (La k))))))), ((La 0), .inr (1, [.int (FI 0), .int (GR 0), .int (FR 0)])), ((La 1), .inr (1, [.int (FI 1), .int (GR 1), .int (FR 1)])), ((La 2), .inr (1, [.int (FI 2), .int (GR 2), .int (FR 2)])), ((La 3), .inr (1, [.int (FI 3), .int (GR 3), .int (FR 3)]))] := hD
    refine W.widen (k := ce + 0) (n := sl + 0) (by omega) (by omega) ?_
    obtain ⟨X_50, hX_50⟩ : ∃ X9 : Int64 × (Value) × (Int64) × (Int64) × (Int64) × (Int64) × (Value) × (Int64) × (Int64) × (Int64) × (Int64), X9 = (fx_alike mla mct myr mdy mlg ola oct oyr ody olg fTo La FI GR FR y1 y2 ((y3.toInt64 <<< ((32 : Int32).toInt64 &&& 63)) ||| (y4.toInt64 &&& 4294967295)) (1 : Int32)) := ⟨_, rfl⟩
    have hq_r_38 : r_38 = X_50.1 := by rw [hX_50]; exact hw.1
    have hq_u_39 : u_39 = X_50.2 := by rw [hX_50]; exact hw.2
    refine lv_pop2_2 hx hb dL_law_1358 rfl ?_
    refine lv_aload_n hx hb dL_law_1359 rfl (lv_at hl 2 rfl) ?_
    refine lv_aload_n hx hb dL_law_1360 rfl (lv_at hl 4 rfl) ?_
    refine lv_iload hx hb dL_law_1361 (lv_at hl 0 rfl) ?_
    refine lv_iconst (v := 1) hx hb dL_law_1363 (by decide) ?_
    refine lv_iadd hx hb dL_law_1364 ?_
    refine va_sld hx hb hX hbl hbA hS hi1 dL_law_1365 ?_
    rw [hy1]
    refine lv_aload_n hx hb dL_law_1366 rfl (lv_at hl 4 rfl) ?_
    refine lv_iload hx hb dL_law_1367 (lv_at hl 0 rfl) ?_
    refine lv_iconst (v := 2) hx hb dL_law_1369 (by decide) ?_
    refine lv_iadd hx hb dL_law_1370 ?_
    refine va_sld hx hb hX hbl hbA hS hi2 dL_law_1371 ?_
    rw [hy2]
    refine lv_aload_n hx hb dL_law_1372 rfl (lv_at hl 4 rfl) ?_
    refine lv_iload hx hb dL_law_1373 (lv_at hl 0 rfl) ?_
    refine lv_iconst (v := 3) hx hb dL_law_1375 (by decide) ?_
    refine lv_iadd hx hb dL_law_1376 ?_
    refine va_sld hx hb hX hbl hbA hS hi3 dL_law_1377 ?_
    rw [hy3]
    refine lv_i2l (v := y3.toInt64) hx hb dL_law_1378 rfl ?_
    refine lv_bipush (v := 32) hx hb dL_law_1379 (by decide) ?_
    refine lv_lshl (v := (y3.toInt64 <<< ((32 : Int32).toInt64 &&& 63))) hx hb dL_law_1381 rfl ?_
    refine lv_aload_n hx hb dL_law_1382 rfl (lv_at hl 4 rfl) ?_
    refine lv_iload hx hb dL_law_1383 (lv_at hl 0 rfl) ?_
    refine lv_iconst (v := 4) hx hb dL_law_1385 (by decide) ?_
    refine lv_iadd hx hb dL_law_1386 ?_
    refine va_sld hx hb hX hbl hbA hS hi4 dL_law_1387 ?_
    rw [hy4]
    refine lv_i2l (v := y4.toInt64) hx hb dL_law_1388 rfl ?_
    refine lv_ldc2 (v := 4294967295) hx hb hown (htw _ (ck_1 _ (List.mem_of_getElem? (i := 7) rfl))) dL_law_1389 ?_
    refine lv_land hx hb dL_law_1392 ?_
    refine lv_lor hx hb dL_law_1393 ?_
    refine lv_aload_n hx hb dL_law_1394 rfl (lv_at hl 4 rfl) ?_
    refine lv_iload hx hb dL_law_1395 (lv_at hl 0 rfl) ?_
    refine lv_iconst (v := 5) hx hb dL_law_1397 (by decide) ?_
    refine lv_iadd hx hb dL_law_1398 ?_
    refine va_sld hx hb hX hbl hbA hS hi5 dL_law_1399 ?_
    rw [hy5]
    refine lv_if_eq (tgt := 1407) hx hb dL_law_1400 (by decide) (fun c_56 => ?_) (fun c_56 => ?_)
    · refine lv_iconst (v := 0) hx hb dL_law_1407 (by decide) ?_
      have hPc := hP.sub (ws' := [(mq, .inr (12, mF g gl rf)), ((rf 29), .inl ((ck 29), 24, .inl f_landHas))]) [0, 1] rfl
      have hKc := hK.sub (tys' := [((ck 29), .int)]) [2] rfl
      have hDc := hD.sub (ws' := [(mq, .inr (12, mF g gl rf)), ((rf 29), .inl ((ck 29), 24, .inl f_landHas))]) [0, 1] (by decide) rfl
      have hFc := va_free (wc := [(mq, .inr (12, mF g gl rf)), ((rf 29), .inl ((ck 29), 24, .inl f_landHas))]) hD hS hA [0, 1] rfl
      refine va_calll (va_runV (As := [.int y1, .int y2, .long ((y3.toInt64 <<< ((32 : Int32).toInt64 &&& 63)) ||| (y4.toInt64 &&& 4294967295)), .int 0]) (rest := []) ⟨hx, hb, hml, hown, htw⟩ (gq_alike l dC dI mq g gl rf ck f_landHas y1 y2 ((y3.toInt64 <<< ((32 : Int32).toInt64 &&& 63)) ||| (y4.toInt64 &&& 4294967295)) (0 : Int32) H.size hln0 hln4 hLZ) (cwV 4 htw (xg_V (ck_48 _ (List.mem_of_getElem? (i := 23) rfl)) (ck_49 _ (List.mem_of_getElem? (i := 0) rfl)) (ck_49 _ (List.mem_of_getElem? (i := 1) rfl)) (ck_1 _ (List.mem_of_getElem? (i := 5) rfl)) (ck_49 _ (List.mem_of_getElem? (i := 2) rfl))) rfl rfl rfl (by decide +kernel) ⟨Nat.le_of_ble_eq_true rfl, Nat.le_of_ble_eq_true rfl⟩) ⟨fun a U g mk q => by obtain ⟨q0, q1, qP, qK, qD⟩ := q; exact ⟨q0, q1, qP, va_K.moved (u := U) (U := U.calling g mk a) (Vm.Alike.refl U.vm) qK, qD⟩, va_recv hKc hPc (ci := 12) (q0 := 0) rfl rfl, fun U hU hW => ⟨rfl, by rw [hU], by rw [hU]; exact hPc, va_K.moved hW.alike hKc, hDc.weaken (fun _ _ _ _ => trivial)⟩⟩ rfl rfl hl.1 rfl (lv_room (Nat.le_of_ble_eq_true rfl)) dL_law_1408 ⟨by first | exact Nat.le_of_ble_eq_true rfl | exact yR (n := 0) (by omega) rfl, by first | exact Nat.le_of_ble_eq_true rfl | exact yR2 (n := 0) (by omega) rfl⟩) hS (fun q _ h => hFc q h) hFc (fun r_57 u_58 t H1 locs ht hvm hw hB hz1 hk1 hS => ?_)
      try dsimp only at hw
      obtain ⟨hP1, hK1, hD1⟩ := hB
      rw [ht] at hP1
      have hK1 := va_K.moved hvm.symm hK1
      have hP1 : va_P (dC, dI) vwCl [(mq, .inr (12, mF (upd g 2 u_58.1) (vp_updL (vp_updL gl 53 u_58.2.1) 54 u_58.2.2) rf)), ((rf 29), .inl ((ck 29), 24, .inl f_landHas))] H1 := hP1
      have hD1 : va_D (va_A [(mq, .inr (12, mF g gl rf)), ((rf 29), .inl ((ck 29), 24, .inl f_landHas))] H.size) [(mq, .inr (12, mF (upd g 2 u_58.1) (vp_updL (vp_updL gl 53 u_58.2.1) 54 u_58.2.2) rf)), ((rf 29), .inl ((ck 29), 24, .inl f_landHas))] := hD1
      have hK1 : va_K (dC, dI) vwCl [] s := hK1
      obtain ⟨hP, hD⟩ := va_join (wr := [(x, .inr (11, [.ref pa, .ref bk, .ref xsp, .ref xdy, .ref le, .ref xst, .int xsc, .ref xim, .ref xil, .int xik, .ref xmo, .ref xom, .ref wi])), (xmo, .inr (4, [u_39.1, .long u_39.2.1, .long u_39.2.2.1, .long u_39.2.2.2.1, .long u_39.2.2.2.2.1])), (xom, .inr (4, [u_39.2.2.2.2.2.1, .long u_39.2.2.2.2.2.2.1, .long u_39.2.2.2.2.2.2.2.1, .long u_39.2.2.2.2.2.2.2.2.1, .long u_39.2.2.2.2.2.2.2.2.2])), (bk, .inr (0, [.ref bto, .ref bnm, .ref bla, .ref bsk, .ref bru, .ref bbo, .ref bdi, .ref bda, .ref bdk, .ref bdt, .ref bdp, .ref bno])), (bto, .inl (cTo, 5, .inl fTo)), (bla, .inl (cLa, 4, .inr (.inr (.inr (.inr (fun k => some (La k))))))), ((La 0), .inr (1, [.int (FI 0), .int (GR 0), .int (FR 0)])), ((La 1), .inr (1, [.int (FI 1), .int (GR 1), .int (FR 1)])), ((La 2), .inr (1, [.int (FI 2), .int (GR 2), .int (FR 2)])), ((La 3), .inr (1, [.int (FI 3), .int (GR 3), .int (FR 3)]))]) (w1 := [(mq, .inr (12, mF (upd g 2 u_58.1) (vp_updL (vp_updL gl 53 u_58.2.1) 54 u_58.2.2) rf)), ((rf 29), .inl ((ck 29), 24, .inl f_landHas))]) hP hD [0, 1] [2, 3, 4, 5, 6, 7, 8, 9, 10, 11] rfl rfl (by decide) (by decide) hk1 hFc hP1 hD1
      have hfr := yF (wc := [(mq, .inr (12, mF g gl rf)), ((rf 29), .inl ((ck 29), 24, .inl f_landHas))]) hBs [10, 11] rfl hz0 hfr hk1
      have hz0 := Nat.le_trans hz0 hz1
      generalize H1 = H at hP hS hfr hz0 ⊢
      have hP : va_P (dC, dI) vwCl [(x, .inr (11, [.ref pa, .ref bk, .ref xsp, .ref xdy, .ref le, .ref xst, .int xsc, .ref xim, .ref xil, .int xik, .ref xmo, .ref xom, .ref wi])), (xmo, .inr (4, [u_39.1, .long u_39.2.1, .long u_39.2.2.1, .long u_39.2.2.2.1, .long u_39.2.2.2.2.1])), (xom, .inr (4, [u_39.2.2.2.2.2.1, .long u_39.2.2.2.2.2.2.1, .long u_39.2.2.2.2.2.2.2.1, .long u_39.2.2.2.2.2.2.2.2.1, .long u_39.2.2.2.2.2.2.2.2.2])), (bk, .inr (0, [.ref bto, .ref bnm, .ref bla, .ref bsk, .ref bru, .ref bbo, .ref bdi, .ref bda, .ref bdk, .ref bdt, .ref bdp, .ref bno])), (bto, .inl (cTo, 5, .inl fTo)), (bla, .inl (cLa, 4, .inr (.inr (.inr (.inr (fun k => some (La k))))))), ((La 0), .inr (1, [.int (FI 0), .int (GR 0), .int (FR 0)])), ((La 1), .inr (1, [.int (FI 1), .int (GR 1), .int (FR 1)])), ((La 2), .inr (1, [.int (FI 2), .int (GR 2), .int (FR 2)])), ((La 3), .inr (1, [.int (FI 3), .int (GR 3), .int (FR 3)])), (mq, .inr (12, mF (upd g 2 u_58.1) (vp_updL (vp_updL gl 53 u_58.2.1) 54 u_58.2.2) rf)), ((rf 29), .inl ((ck 29), 24, .inl f_landHas))] H := hP
      have hD : va_D A [(x, .inr (11, [.ref pa, .ref bk, .ref xsp, .ref xdy, .ref le, .ref xst, .int xsc, .ref xim, .ref xil, .int xik, .ref xmo, .ref xom, .ref wi])), (xmo, .inr (4, [u_39.1, .long u_39.2.1, .long u_39.2.2.1, .long u_39.2.2.2.1, .long u_39.2.2.2.2.1])), (xom, .inr (4, [u_39.2.2.2.2.2.1, .long u_39.2.2.2.2.2.2.1, .long u_39.2.2.2.2.2.2.2.1, .long u_39.2.2.2.2.2.2.2.2.1, .long u_39.2.2.2.2.2.2.2.2.2])), (bk, .inr (0, [.ref bto, .ref bnm, .ref bla, .ref bsk, .ref bru, .ref bbo, .ref bdi, .ref bda, .ref bdk, .ref bdt, .ref bdp, .ref bno])), (bto, .inl (cTo, 5, .inl fTo)), (bla, .inl (cLa, 4, .inr (.inr (.inr (.inr (fun k => some (La k))))))), ((La 0), .inr (1, [.int (FI 0), .int (GR 0), .int (FR 0)])), ((La 1), .inr (1, [.int (FI 1), .int (GR 1), .int (FR 1)])), ((La 2), .inr (1, [.int (FI 2), .int (GR 2), .int (FR 2)])), ((La 3), .inr (1, [.int (FI 3), .int (GR 3), .int (FR 3)])), (mq, .inr (12, mF (upd g 2 u_58.1) (vp_updL (vp_updL gl 53 u_58.2.1) 54 u_58.2.2) rf)), ((rf 29), .inl ((ck 29), 24, .inl f_landHas))] := hD
      refine W.widen (k := ce + 0) (n := sl + 0) (by omega) (by omega) ?_
      obtain ⟨X_62, hX_62⟩ : ∃ X9 : Int64 × (Int32) × (Int64) × (Int64), X9 = (fq_alike f_landHas y1 y2 ((y3.toInt64 <<< ((32 : Int32).toInt64 &&& 63)) ||| (y4.toInt64 &&& 4294967295)) (0 : Int32) (g 12) (gl 53) (gl 54)) := ⟨_, rfl⟩
      have hq_r_57 : r_57 = X_62.1 := by rw [hX_62]; exact hw.1
      have hq_u_58 : u_58 = X_62.2 := by rw [hX_62]; exact hw.2
      refine lv_pop2_2 hx hb dL_law_1411 rfl ?_
      refine lv_goto (tgt := 2012) hx hb dL_law_1412 (by decide) ?_
      refine W.widen (k := ce + 1) (n := sl + 6) (by omega) (by omega) ?_
      exact kk3 X_50 hX_50 r_38 hq_r_38 u_39 hq_u_39 X_62 hX_62 r_57 hq_r_57 u_58 hq_u_58 H locs ls (hP.sub (ws' := [(x, .inr (11, [.ref pa, .ref bk, .ref xsp, .ref xdy, .ref le, .ref xst, .int xsc, .ref xim, .ref xil, .int xik, .ref xmo, .ref xom, .ref wi])), (xmo, .inr (4, [u_39.1, .long u_39.2.1, .long u_39.2.2.1, .long u_39.2.2.2.1, .long u_39.2.2.2.2.1])), (xom, .inr (4, [u_39.2.2.2.2.2.1, .long u_39.2.2.2.2.2.2.1, .long u_39.2.2.2.2.2.2.2.1, .long u_39.2.2.2.2.2.2.2.2.1, .long u_39.2.2.2.2.2.2.2.2.2])), (bk, .inr (0, [.ref bto, .ref bnm, .ref bla, .ref bsk, .ref bru, .ref bbo, .ref bdi, .ref bda, .ref bdk, .ref bdt, .ref bdp, .ref bno])), (bto, .inl (cTo, 5, .inl fTo)), (bla, .inl (cLa, 4, .inr (.inr (.inr (.inr (fun k => some (La k))))))), ((La 0), .inr (1, [.int (FI 0), .int (GR 0), .int (FR 0)])), ((La 1), .inr (1, [.int (FI 1), .int (GR 1), .int (FR 1)])), ((La 2), .inr (1, [.int (FI 2), .int (GR 2), .int (FR 2)])), ((La 3), .inr (1, [.int (FI 3), .int (GR 3), .int (FR 3)])), (mq, .inr (12, mF (upd g 2 u_58.1) (vp_updL (vp_updL gl 53 u_58.2.1) 54 u_58.2.2) rf)), ((rf 29), .inl ((ck 29), 24, .inl f_landHas))]) [0, 1, 2, 3, 4, 5, 6, 7, 8, 9, 10, 11] rfl) hS (lv_sub hl [0, 1, 2, 3, 4] rfl) hz0 hfr
    · refine lv_iconst (v := 1) hx hb dL_law_1403 (by decide) ?_
      refine lv_goto (tgt := 1408) hx hb dL_law_1404 (by decide) ?_
      have hPc := hP.sub (ws' := [(mq, .inr (12, mF g gl rf)), ((rf 29), .inl ((ck 29), 24, .inl f_landHas))]) [0, 1] rfl
      have hKc := hK.sub (tys' := [((ck 29), .int)]) [2] rfl
      have hDc := hD.sub (ws' := [(mq, .inr (12, mF g gl rf)), ((rf 29), .inl ((ck 29), 24, .inl f_landHas))]) [0, 1] (by decide) rfl
      have hFc := va_free (wc := [(mq, .inr (12, mF g gl rf)), ((rf 29), .inl ((ck 29), 24, .inl f_landHas))]) hD hS hA [0, 1] rfl
      refine va_calll (va_runV (As := [.int y1, .int y2, .long ((y3.toInt64 <<< ((32 : Int32).toInt64 &&& 63)) ||| (y4.toInt64 &&& 4294967295)), .int 1]) (rest := []) ⟨hx, hb, hml, hown, htw⟩ (gq_alike l dC dI mq g gl rf ck f_landHas y1 y2 ((y3.toInt64 <<< ((32 : Int32).toInt64 &&& 63)) ||| (y4.toInt64 &&& 4294967295)) (1 : Int32) H.size hln0 hln4 hLZ) (cwV 4 htw (xg_V (ck_48 _ (List.mem_of_getElem? (i := 23) rfl)) (ck_49 _ (List.mem_of_getElem? (i := 0) rfl)) (ck_49 _ (List.mem_of_getElem? (i := 1) rfl)) (ck_1 _ (List.mem_of_getElem? (i := 5) rfl)) (ck_49 _ (List.mem_of_getElem? (i := 2) rfl))) rfl rfl rfl (by decide +kernel) ⟨Nat.le_of_ble_eq_true rfl, Nat.le_of_ble_eq_true rfl⟩) ⟨fun a U g mk q => by obtain ⟨q0, q1, qP, qK, qD⟩ := q; exact ⟨q0, q1, qP, va_K.moved (u := U) (U := U.calling g mk a) (Vm.Alike.refl U.vm) qK, qD⟩, va_recv hKc hPc (ci := 12) (q0 := 0) rfl rfl, fun U hU hW => ⟨rfl, by rw [hU], by rw [hU]; exact hPc, va_K.moved hW.alike hKc, hDc.weaken (fun _ _ _ _ => trivial)⟩⟩ rfl rfl hl.1 rfl (lv_room (Nat.le_of_ble_eq_true rfl)) dL_law_1408 ⟨by first | exact Nat.le_of_ble_eq_true rfl | exact yR (n := 0) (by omega) rfl, by first | exact Nat.le_of_ble_eq_true rfl | exact yR2 (n := 0) (by omega) rfl⟩) hS (fun q _ h => hFc q h) hFc (fun r_63 u_64 t H1 locs ht hvm hw hB hz1 hk1 hS => ?_)
      try dsimp only at hw
      obtain ⟨hP1, hK1, hD1⟩ := hB
      rw [ht] at hP1
      have hK1 := va_K.moved hvm.symm hK1
      have hP1 : va_P (dC, dI) vwCl [(mq, .inr (12, mF (upd g 2 u_64.1) (vp_updL (vp_updL gl 53 u_64.2.1) 54 u_64.2.2) rf)), ((rf 29), .inl ((ck 29), 24, .inl f_landHas))] H1 := hP1
      have hD1 : va_D (va_A [(mq, .inr (12, mF g gl rf)), ((rf 29), .inl ((ck 29), 24, .inl f_landHas))] H.size) [(mq, .inr (12, mF (upd g 2 u_64.1) (vp_updL (vp_updL gl 53 u_64.2.1) 54 u_64.2.2) rf)), ((rf 29), .inl ((ck 29), 24, .inl f_landHas))] := hD1
      have hK1 : va_K (dC, dI) vwCl [] s := hK1
      obtain ⟨hP, hD⟩ := va_join (wr := [(x, .inr (11, [.ref pa, .ref bk, .ref xsp, .ref xdy, .ref le, .ref xst, .int xsc, .ref xim, .ref xil, .int xik, .ref xmo, .ref xom, .ref wi])), (xmo, .inr (4, [u_39.1, .long u_39.2.1, .long u_39.2.2.1, .long u_39.2.2.2.1, .long u_39.2.2.2.2.1])), (xom, .inr (4, [u_39.2.2.2.2.2.1, .long u_39.2.2.2.2.2.2.1, .long u_39.2.2.2.2.2.2.2.1, .long u_39.2.2.2.2.2.2.2.2.1, .long u_39.2.2.2.2.2.2.2.2.2])), (bk, .inr (0, [.ref bto, .ref bnm, .ref bla, .ref bsk, .ref bru, .ref bbo, .ref bdi, .ref bda, .ref bdk, .ref bdt, .ref bdp, .ref bno])), (bto, .inl (cTo, 5, .inl fTo)), (bla, .inl (cLa, 4, .inr (.inr (.inr (.inr (fun k => some (La k))))))), ((La 0), .inr (1, [.int (FI 0), .int (GR 0), .int (FR 0)])), ((La 1), .inr (1, [.int (FI 1), .int (GR 1), .int (FR 1)])), ((La 2), .inr (1, [.int (FI 2), .int (GR 2), .int (FR 2)])), ((La 3), .inr (1, [.int (FI 3), .int (GR 3), .int (FR 3)]))]) (w1 := [(mq, .inr (12, mF (upd g 2 u_64.1) (vp_updL (vp_updL gl 53 u_64.2.1) 54 u_64.2.2) rf)), ((rf 29), .inl ((ck 29), 24, .inl f_landHas))]) hP hD [0, 1] [2, 3, 4, 5, 6, 7, 8, 9, 10, 11] rfl rfl (by decide) (by decide) hk1 hFc hP1 hD1
      have hfr := yF (wc := [(mq, .inr (12, mF g gl rf)), ((rf 29), .inl ((ck 29), 24, .inl f_landHas))]) hBs [10, 11] rfl hz0 hfr hk1
      have hz0 := Nat.le_trans hz0 hz1
      generalize H1 = H at hP hS hfr hz0 ⊢
      have hP : va_P (dC, dI) vwCl [(x, .inr (11, [.ref pa, .ref bk, .ref xsp, .ref xdy, .ref le, .ref xst, .int xsc, .ref xim, .ref xil, .int xik, .ref xmo, .ref xom, .ref wi])), (xmo, .inr (4, [u_39.1, .long u_39.2.1, .long u_39.2.2.1, .long u_39.2.2.2.1, .long u_39.2.2.2.2.1])), (xom, .inr (4, [u_39.2.2.2.2.2.1, .long u_39.2.2.2.2.2.2.1, .long u_39.2.2.2.2.2.2.2.1, .long u_39.2.2.2.2.2.2.2.2.1, .long u_39.2.2.2.2.2.2.2.2.2])), (bk, .inr (0, [.ref bto, .ref bnm, .ref bla, .ref bsk, .ref bru, .ref bbo, .ref bdi, .ref bda, .ref bdk, .ref bdt, .ref bdp, .ref bno])), (bto, .inl (cTo, 5, .inl fTo)), (bla, .inl (cLa, 4, .inr (.inr (.inr (.inr (fun k => some (La k))))))), ((La 0), .inr (1, [.int (FI 0), .int (GR 0), .int (FR 0)])), ((La 1), .inr (1, [.int (FI 1), .int (GR 1), .int (FR 1)])), ((La 2), .inr (1, [.int (FI 2), .int (GR 2), .int (FR 2)])), ((La 3), .inr (1, [.int (FI 3), .int (GR 3), .int (FR 3)])), (mq, .inr (12, mF (upd g 2 u_64.1) (vp_updL (vp_updL gl 53 u_64.2.1) 54 u_64.2.2) rf)), ((rf 29), .inl ((ck 29), 24, .inl f_landHas))] H := hP
      have hD : va_D A [(x, .inr (11, [.ref pa, .ref bk, .ref xsp, .ref xdy, .ref le, .ref xst, .int xsc, .ref xim, .ref xil, .int xik, .ref xmo, .ref xom, .ref wi])), (xmo, .inr (4, [u_39.1, .long u_39.2.1, .long u_39.2.2.1, .long u_39.2.2.2.1, .long u_39.2.2.2.2.1])), (xom, .inr (4, [u_39.2.2.2.2.2.1, .long u_39.2.2.2.2.2.2.1, .long u_39.2.2.2.2.2.2.2.1, .long u_39.2.2.2.2.2.2.2.2.1, .long u_39.2.2.2.2.2.2.2.2.2])), (bk, .inr (0, [.ref bto, .ref bnm, .ref bla, .ref bsk, .ref bru, .ref bbo, .ref bdi, .ref bda, .ref bdk, .ref bdt, .ref bdp, .ref bno])), (bto, .inl (cTo, 5, .inl fTo)), (bla, .inl (cLa, 4, .inr (.inr (.inr (.inr (fun k => some (La k))))))), ((La 0), .inr (1, [.int (FI 0), .int (GR 0), .int (FR 0)])), ((La 1), .inr (1, [.int (FI 1), .int (GR 1), .int (FR 1)])), ((La 2), .inr (1, [.int (FI 2), .int (GR 2), .int (FR 2)])), ((La 3), .inr (1, [.int (FI 3), .int (GR 3), .int (FR 3)])), (mq, .inr (12, mF (upd g 2 u_64.1) (vp_updL (vp_updL gl 53 u_64.2.1) 54 u_64.2.2) rf)), ((rf 29), .inl ((ck 29), 24, .inl f_landHas))] := hD
      refine W.widen (k := ce + 0) (n := sl + 0) (by omega) (by omega) ?_
      obtain ⟨X_68, hX_68⟩ : ∃ X9 : Int64 × (Int32) × (Int64) × (Int64), X9 = (fq_alike f_landHas y1 y2 ((y3.toInt64 <<< ((32 : Int32).toInt64 &&& 63)) ||| (y4.toInt64 &&& 4294967295)) (1 : Int32) (g 12) (gl 53) (gl 54)) := ⟨_, rfl⟩
      have hq_r_63 : r_63 = X_68.1 := by rw [hX_68]; exact hw.1
      have hq_u_64 : u_64 = X_68.2 := by rw [hX_68]; exact hw.2
      refine lv_pop2_2 hx hb dL_law_1411 rfl ?_
      refine lv_goto (tgt := 2012) hx hb dL_law_1412 (by decide) ?_
      refine W.widen (k := ce + 1) (n := sl + 6) (by omega) (by omega) ?_
      exact kk4 X_50 hX_50 r_38 hq_r_38 u_39 hq_u_39 X_68 hX_68 r_63 hq_r_63 u_64 hq_u_64 H locs ls (hP.sub (ws' := [(x, .inr (11, [.ref pa, .ref bk, .ref xsp, .ref xdy, .ref le, .ref xst, .int xsc, .ref xim, .ref xil, .int xik, .ref xmo, .ref xom, .ref wi])), (xmo, .inr (4, [u_39.1, .long u_39.2.1, .long u_39.2.2.1, .long u_39.2.2.2.1, .long u_39.2.2.2.2.1])), (xom, .inr (4, [u_39.2.2.2.2.2.1, .long u_39.2.2.2.2.2.2.1, .long u_39.2.2.2.2.2.2.2.1, .long u_39.2.2.2.2.2.2.2.2.1, .long u_39.2.2.2.2.2.2.2.2.2])), (bk, .inr (0, [.ref bto, .ref bnm, .ref bla, .ref bsk, .ref bru, .ref bbo, .ref bdi, .ref bda, .ref bdk, .ref bdt, .ref bdp, .ref bno])), (bto, .inl (cTo, 5, .inl fTo)), (bla, .inl (cLa, 4, .inr (.inr (.inr (.inr (fun k => some (La k))))))), ((La 0), .inr (1, [.int (FI 0), .int (GR 0), .int (FR 0)])), ((La 1), .inr (1, [.int (FI 1), .int (GR 1), .int (FR 1)])), ((La 2), .inr (1, [.int (FI 2), .int (GR 2), .int (FR 2)])), ((La 3), .inr (1, [.int (FI 3), .int (GR 3), .int (FR 3)])), (mq, .inr (12, mF (upd g 2 u_64.1) (vp_updL (vp_updL gl 53 u_64.2.1) 54 u_64.2.2) rf)), ((rf 29), .inl ((ck 29), 24, .inl f_landHas))]) [0, 1, 2, 3, 4, 5, 6, 7, 8, 9, 10, 11] rfl) hS (lv_sub hl [0, 1, 2, 3, 4] rfl) hz0 hfr

theorem dL_law_1415 : decode cL_law 1415 = .ok (.aload_n 1, 1) := by decide +kernel
theorem dL_law_1416 : decode cL_law 1416 = .ok (.aload_n 0, 1) := by decide +kernel
theorem dL_law_1417 : decode cL_law 1417 = .ok (.iload 4, 2) := by decide +kernel
theorem dL_law_1419 : decode cL_law 1419 = .ok (.iconst 1, 1) := by decide +kernel
theorem dL_law_1420 : decode cL_law 1420 = .ok (.iadd, 1) := by decide +kernel
theorem dL_law_1421 : decode cL_law 1421 = .ok (.iaload, 1) := by decide +kernel
theorem dL_law_1422 : decode cL_law 1422 = .ok (.aload_n 0, 1) := by decide +kernel
theorem dL_law_1423 : decode cL_law 1423 = .ok (.iload 4, 2) := by decide +kernel
theorem dL_law_1425 : decode cL_law 1425 = .ok (.iconst 2, 1) := by decide +kernel
theorem dL_law_1426 : decode cL_law 1426 = .ok (.iadd, 1) := by decide +kernel
theorem dL_law_1427 : decode cL_law 1427 = .ok (.iaload, 1) := by decide +kernel
theorem dL_law_1428 : decode cL_law 1428 = .ok (.aload_n 0, 1) := by decide +kernel
theorem dL_law_1429 : decode cL_law 1429 = .ok (.iload 4, 2) := by decide +kernel
theorem dL_law_1431 : decode cL_law 1431 = .ok (.iconst 3, 1) := by decide +kernel
theorem dL_law_1432 : decode cL_law 1432 = .ok (.iadd, 1) := by decide +kernel
theorem dL_law_1433 : decode cL_law 1433 = .ok (.iaload, 1) := by decide +kernel
theorem dL_law_1434 : decode cL_law 1434 = .ok (.invokevirtual 117, 3) := by decide +kernel
theorem dL_law_1437 : decode cL_law 1437 = .ok (.pop2, 1) := by decide +kernel
theorem dL_law_1438 : decode cL_law 1438 = .ok (.aload_n 2, 1) := by decide +kernel
theorem dL_law_1439 : decode cL_law 1439 = .ok (.aload_n 0, 1) := by decide +kernel
theorem dL_law_1440 : decode cL_law 1440 = .ok (.iload 4, 2) := by decide +kernel
theorem dL_law_1442 : decode cL_law 1442 = .ok (.iconst 1, 1) := by decide +kernel
theorem dL_law_1443 : decode cL_law 1443 = .ok (.iadd, 1) := by decide +kernel
theorem dL_law_1444 : decode cL_law 1444 = .ok (.iaload, 1) := by decide +kernel
theorem dL_law_1445 : decode cL_law 1445 = .ok (.aload_n 0, 1) := by decide +kernel
theorem dL_law_1446 : decode cL_law 1446 = .ok (.iload 4, 2) := by decide +kernel
theorem dL_law_1448 : decode cL_law 1448 = .ok (.iconst 2, 1) := by decide +kernel
theorem dL_law_1449 : decode cL_law 1449 = .ok (.iadd, 1) := by decide +kernel
theorem dL_law_1450 : decode cL_law 1450 = .ok (.iaload, 1) := by decide +kernel
theorem dL_law_1451 : decode cL_law 1451 = .ok (.aload_n 0, 1) := by decide +kernel
theorem dL_law_1452 : decode cL_law 1452 = .ok (.iload 4, 2) := by decide +kernel
theorem dL_law_1454 : decode cL_law 1454 = .ok (.iconst 3, 1) := by decide +kernel
theorem dL_law_1455 : decode cL_law 1455 = .ok (.iadd, 1) := by decide +kernel
theorem dL_law_1456 : decode cL_law 1456 = .ok (.iaload, 1) := by decide +kernel
theorem dL_law_1457 : decode cL_law 1457 = .ok (.invokevirtual 121, 3) := by decide +kernel
theorem dL_law_1460 : decode cL_law 1460 = .ok (.pop2, 1) := by decide +kernel
theorem dL_law_1461 : decode cL_law 1461 = .ok (.goto 551, 3) := by decide +kernel
set_option maxHeartbeats 4000000 in
set_option maxRecDepth 100000 in
theorem law_deed (l : Launch) (hst : l.stackTraces = false) {p : Program} {e : Env} {s : State} {m : MethodId} {below : List Frame} {meth : Method} {c : Code} {bs L : Nat} {xs : Nat → Int32} (C0 : lw_At p s m meth c bs L xs) (dC : Nat → ClassId) (dI : Nat → Nat → Nat) (A : Nat → Prop) (hAe : ∀ q, A q ↔ s.heap.size ≤ q) (x : Nat) (pa : Nat) (bk : Nat) (xsp : Nat) (xdy : Nat) (le : Nat) (xst : Nat) (xsc : Int32) (xim : Nat) (xil : Nat) (xik : Int32) (xmo : Nat) (xom : Nat) (wi : Nat) (mla : Value) (mct : Int64) (myr : Int64) (mdy : Int64) (mlg : Int64) (w0 : Int32) (w1 : Int32) (w2 : Int32) (w3 : Int32) (w4 : Int32) (bto : Nat) (bnm : Nat) (bla : Nat) (bsk : Nat) (bru : Nat) (bbo : Nat) (bdi : Nat) (bda : Nat) (bdk : Nat) (bdt : Nat) (bdp : Nat) (bno : Nat) (cTo : ClassId) (fTo : Nat → Int32) (cLa : ClassId) (La : Nat → Nat) (FI : Nat → Int32) (GR : Nat → Int32) (FR : Nat → Int32) (wd : Int32) (wf : Int32) (mp : Int32) (mb : Int32) (mo : Int32) (sp : Int32) (sb : Int32) (rco : Nat) (rsz : Int32) (ren : Nat) (rst : Nat) (rkn : Int32) (cRc : ClassId) (fRc : Nat → Int32) (cRe : ClassId) (fRe : Nat → Int32) (cRs : ClassId) (fRs : Nat → Int64) (cDa : ClassId) (fDa : Nat → Int64) (cDk : ClassId) (fDk : Nat → Int32) (cDt : ClassId) (fDt : Nat → Int32) (cDp : ClassId) (fDp : Nat → Int32) (mq : Nat) (g : Nat → Int32) (gl : Nat → Int64) (rf : Nat → Nat) (ck : Nat → ClassId) (f_sky : Nat → Int32) (f_landHas : Nat → Int32) (f_first : Nat → Int32) (f_last : Nat → Int32) (f_deedOn : Nat → Int64) (f_deedHas : Nat → Int32) (f_knot : Nat → Int32) (f_part : Nat → Int32) (f_other : Nat → Int32) (f_names : Nat → Int64) (f_value : Nat → Int64) (o3 : Nat) (hE : ∀ k, ¬ fRe k < 0) (ht3 : (fTo 3) ≤ 4) (hfe0 : ¬ (g 13) < 0) (hfe4 : (g 13) ≤ 4) (hFA : ∀ k : Int32, ¬ k < 0 → k < (g 13) → ¬ (f_first k.toNatClampNeg) < 0 ∧ (f_last k.toNatClampNeg) ≤ 64 ∧ ¬ (f_last k.toNatClampNeg) < 1) (hKA : ∀ k : Nat, k < 64 → xKV f_knot f_part f_other k) (hln0 : ¬ (g 12) < 0) (hln4 : (g 12) ≤ 4) (hLZ : ∀ k : Int32, ¬ k < 0 → k < (g 12) → ¬ (f_landHas ((3 * k).toNatClampNeg)) = 0) (hs0 : ¬ (f_sky 0) < 1) (hs2 : ¬ (f_sky 2) < 1) (hs5 : ¬ (f_sky 5) < 1) (hde0 : ¬ (g 15) < 0) (hde4 : (g 15) ≤ 4) (hLZ1 : ∀ k : Int32, ¬ k < 0 → k < (g 12) → ¬ (f_landHas ((3 * k).toNatClampNeg)) < 1) (hDE : ∀ k : Int32, ¬ k < 0 → k < (g 15) → ¬ (f_deedOn k.toNatClampNeg) < 0 ∧ (f_deedOn k.toNatClampNeg) ≤ 1000000000000 ∧ ((f_deedHas ((3 * k).toNatClampNeg)) = 2 → ¬ (f_deedHas (((3 * k) + 1).toNatClampNeg)) < 0 ∧ (f_deedHas (((3 * k) + 1).toNatClampNeg)) < (g 13))) (sL : Nat → Nat) (hNx : xN s) (i y1 y2 y3 : Int32) (hi1 : vp_in (i + 1) L) (hy1 : xs (i + 1).toNatClampNeg = y1) (hi2 : vp_in (i + 2) L) (hy2 : xs (i + 2).toNatClampNeg = y2) (hi3 : vp_in (i + 3) L) (hy3 : xs (i + 3).toNatClampNeg = y3)  (Bp : Nat → Prop) (H0 : Heap) (locs : List Loc) (ls : Array Slot) (ce sl : Nat) (hce : ce + 1 ≤ 601024) (hsl : sl + 6 ≤ 7293034) (hK : va_K (dC, dI) vwCl [(cTo, .int), (cLa, .object RX1), (cRc, .int), (cRe, .int), (cRs, .long), (cDa, .long), (cDk, .int), (cDt, .int), (cDp, .int), ((ck 24), .int), ((ck 29), .int), ((ck 31), .int), ((ck 32), .int), ((ck 37), .long), ((ck 38), .int), ((ck 41), .int), ((ck 42), .int), ((ck 43), .int), ((ck 55), .long), ((ck 56), .long)] s) (hP : va_P (dC, dI) vwCl [(x, .inr (11, [.ref pa, .ref bk, .ref xsp, .ref xdy, .ref le, .ref xst, .int xsc, .ref xim, .ref xil, .int xik, .ref xmo, .ref xom, .ref wi])), (xmo, .inr (4, [mla, .long mct, .long myr, .long mdy, .long mlg])), (wi, .inr (10, [.int w0, .int w1, .int w2, .int w3, .int w4])), (bk, .inr (0, [.ref bto, .ref bnm, .ref bla, .ref bsk, .ref bru, .ref bbo, .ref bdi, .ref bda, .ref bdk, .ref bdt, .ref bdp, .ref bno])), (bto, .inl (cTo, 5, .inl fTo)), (bla, .inl (cLa, 4, .inr (.inr (.inr (.inr (fun k => some (La k))))))), ((La 0), .inr (1, [.int (FI 0), .int (GR 0), .int (FR 0)])), ((La 1), .inr (1, [.int (FI 1), .int (GR 1), .int (FR 1)])), ((La 2), .inr (1, [.int (FI 2), .int (GR 2), .int (FR 2)])), ((La 3), .inr (1, [.int (FI 3), .int (GR 3), .int (FR 3)])), (bsk, .inr (9, [.int wd, .int wf, .int mp, .int mb, .int mo, .int sp, .int sb])), (bru, .inr (8, [.ref rco, .int rsz, .ref ren, .ref rst, .int rkn])), (rco, .inl (cRc, 64, .inl fRc)), (ren, .inl (cRe, 4, .inl fRe)), (rst, .inl (cRs, 64, .inr (.inl fRs))), (bda, .inl (cDa, 4, .inr (.inl fDa))), (bdk, .inl (cDk, 4, .inl fDk)), (bdt, .inl (cDt, 4, .inl fDt)), (bdp, .inl (cDp, 4, .inl fDp)), (mq, .inr (12, mF g gl rf)), ((rf 24), .inl ((ck 24), 14, .inl f_sky)), ((rf 29), .inl ((ck 29), 24, .inl f_landHas)), ((rf 31), .inl ((ck 31), 8, .inl f_first)), ((rf 32), .inl ((ck 32), 8, .inl f_last)), ((rf 37), .inl ((ck 37), 8, .inr (.inl f_deedOn))), ((rf 38), .inl ((ck 38), 24, .inl f_deedHas)), ((rf 41), .inl ((ck 41), 128, .inl f_knot)), ((rf 42), .inl ((ck 42), 128, .inl f_part)), ((rf 43), .inl ((ck 43), 128, .inl f_other)), ((rf 55), .inl ((ck 55), 6, .inr (.inl f_names))), ((rf 56), .inl ((ck 56), 64, .inr (.inl f_value)))] H0) (hD : va_D A [(x, .inr (11, [.ref pa, .ref bk, .ref xsp, .ref xdy, .ref le, .ref xst, .int xsc, .ref xim, .ref xil, .int xik, .ref xmo, .ref xom, .ref wi])), (xmo, .inr (4, [mla, .long mct, .long myr, .long mdy, .long mlg])), (wi, .inr (10, [.int w0, .int w1, .int w2, .int w3, .int w4])), (bk, .inr (0, [.ref bto, .ref bnm, .ref bla, .ref bsk, .ref bru, .ref bbo, .ref bdi, .ref bda, .ref bdk, .ref bdt, .ref bdp, .ref bno])), (bto, .inl (cTo, 5, .inl fTo)), (bla, .inl (cLa, 4, .inr (.inr (.inr (.inr (fun k => some (La k))))))), ((La 0), .inr (1, [.int (FI 0), .int (GR 0), .int (FR 0)])), ((La 1), .inr (1, [.int (FI 1), .int (GR 1), .int (FR 1)])), ((La 2), .inr (1, [.int (FI 2), .int (GR 2), .int (FR 2)])), ((La 3), .inr (1, [.int (FI 3), .int (GR 3), .int (FR 3)])), (bsk, .inr (9, [.int wd, .int wf, .int mp, .int mb, .int mo, .int sp, .int sb])), (bru, .inr (8, [.ref rco, .int rsz, .ref ren, .ref rst, .int rkn])), (rco, .inl (cRc, 64, .inl fRc)), (ren, .inl (cRe, 4, .inl fRe)), (rst, .inl (cRs, 64, .inr (.inl fRs))), (bda, .inl (cDa, 4, .inr (.inl fDa))), (bdk, .inl (cDk, 4, .inl fDk)), (bdt, .inl (cDt, 4, .inl fDt)), (bdp, .inl (cDp, 4, .inl fDp)), (mq, .inr (12, mF g gl rf)), ((rf 24), .inl ((ck 24), 14, .inl f_sky)), ((rf 29), .inl ((ck 29), 24, .inl f_landHas)), ((rf 31), .inl ((ck 31), 8, .inl f_first)), ((rf 32), .inl ((ck 32), 8, .inl f_last)), ((rf 37), .inl ((ck 37), 8, .inr (.inl f_deedOn))), ((rf 38), .inl ((ck 38), 24, .inl f_deedHas)), ((rf 41), .inl ((ck 41), 128, .inl f_knot)), ((rf 42), .inl ((ck 42), 128, .inl f_part)), ((rf 43), .inl ((ck 43), 128, .inl f_other)), ((rf 55), .inl ((ck 55), 6, .inr (.inl f_names))), ((rf 56), .inl ((ck 56), 64, .inr (.inl f_value)))]) (hBs : yB Bp [(x, .inr (11, [.ref pa, .ref bk, .ref xsp, .ref xdy, .ref le, .ref xst, .int xsc, .ref xim, .ref xil, .int xik, .ref xmo, .ref xom, .ref wi])), (xmo, .inr (4, [mla, .long mct, .long myr, .long mdy, .long mlg])), (wi, .inr (10, [.int w0, .int w1, .int w2, .int w3, .int w4])), (bk, .inr (0, [.ref bto, .ref bnm, .ref bla, .ref bsk, .ref bru, .ref bbo, .ref bdi, .ref bda, .ref bdk, .ref bdt, .ref bdp, .ref bno])), (bto, .inl (cTo, 5, .inl fTo)), (bla, .inl (cLa, 4, .inr (.inr (.inr (.inr (fun k => some (La k))))))), ((La 0), .inr (1, [.int (FI 0), .int (GR 0), .int (FR 0)])), ((La 1), .inr (1, [.int (FI 1), .int (GR 1), .int (FR 1)])), ((La 2), .inr (1, [.int (FI 2), .int (GR 2), .int (FR 2)])), ((La 3), .inr (1, [.int (FI 3), .int (GR 3), .int (FR 3)])), (bsk, .inr (9, [.int wd, .int wf, .int mp, .int mb, .int mo, .int sp, .int sb])), (bru, .inr (8, [.ref rco, .int rsz, .ref ren, .ref rst, .int rkn])), (rco, .inl (cRc, 64, .inl fRc)), (ren, .inl (cRe, 4, .inl fRe)), (rst, .inl (cRs, 64, .inr (.inl fRs))), (bda, .inl (cDa, 4, .inr (.inl fDa))), (bdk, .inl (cDk, 4, .inl fDk)), (bdt, .inl (cDt, 4, .inl fDt)), (bdp, .inl (cDp, 4, .inl fDp)), (mq, .inr (12, mF g gl rf)), ((rf 24), .inl ((ck 24), 14, .inl f_sky)), ((rf 29), .inl ((ck 29), 24, .inl f_landHas)), ((rf 31), .inl ((ck 31), 8, .inl f_first)), ((rf 32), .inl ((ck 32), 8, .inl f_last)), ((rf 37), .inl ((ck 37), 8, .inr (.inl f_deedOn))), ((rf 38), .inl ((ck 38), 24, .inl f_deedHas)), ((rf 41), .inl ((ck 41), 128, .inl f_knot)), ((rf 42), .inl ((ck 42), 128, .inl f_part)), ((rf 43), .inl ((ck 43), 128, .inl f_other)), ((rf 55), .inl ((ck 55), 6, .inr (.inl f_names))), ((rf 56), .inl ((ck 56), 64, .inr (.inl f_value)))]) (hS : va_S A s.heap H0 locs) (hl : lv_has ls 7 [(4, .int i), (3, .ref o3), (2, .ref mq), (1, .ref x), (0, .ref bs)]) (kk1 : ∀ (X_17 : Int64 × (Value) × (Int64) × (Int64) × (Int64) × (Int64) × (Int32) × (Int32) × (Int32) × (Int32) × (Int32) × (Nat → Int64)), X_17 = (fx_deed mla mct myr mdy mlg w0 w1 w2 w3 w4 fTo La FI GR FR wd wf mp mb mo sp sb fRc fRe fRs fDa fDk fDt fDp y1 y2 y3) → ∀ (r_4 : Int64), r_4 = X_17.1 → ∀ (u_5 : (Value) × (Int64) × (Int64) × (Int64) × (Int64) × (Int32) × (Int32) × (Int32) × (Int32) × (Int32) × (Nat → Int64)), u_5 = X_17.2 → ∀ (X_29 : Int64 × (Int32) × (Int64) × (Int64) × (Int32) × (Nat → Int64) × (Nat → Int64)), X_29 = (fq_deed f_sky f_landHas f_first f_last f_deedOn f_deedHas f_knot f_part f_other f_names f_value y1 y2 y3 (g 12) (g 15) (gl 53) (gl 54) (g 57)) → ∀ (r_21 : Int64), r_21 = X_29.1 → ∀ (u_22 : (Int32) × (Int64) × (Int64) × (Int32) × (Nat → Int64) × (Nat → Int64)), u_22 = X_29.2 → ∀ (H : Heap) (locs : List Loc) (ls : Array Slot), va_P (dC, dI) vwCl [(x, .inr (11, [.ref pa, .ref bk, .ref xsp, .ref xdy, .ref le, .ref xst, .int xsc, .ref xim, .ref xil, .int xik, .ref xmo, .ref xom, .ref wi])), (xmo, .inr (4, [u_5.1, .long u_5.2.1, .long u_5.2.2.1, .long u_5.2.2.2.1, .long u_5.2.2.2.2.1])), (wi, .inr (10, [.int u_5.2.2.2.2.2.1, .int u_5.2.2.2.2.2.2.1, .int u_5.2.2.2.2.2.2.2.1, .int u_5.2.2.2.2.2.2.2.2.1, .int u_5.2.2.2.2.2.2.2.2.2.1])), (bk, .inr (0, [.ref bto, .ref bnm, .ref bla, .ref bsk, .ref bru, .ref bbo, .ref bdi, .ref bda, .ref bdk, .ref bdt, .ref bdp, .ref bno])), (bto, .inl (cTo, 5, .inl fTo)), (bla, .inl (cLa, 4, .inr (.inr (.inr (.inr (fun k => some (La k))))))), ((La 0), .inr (1, [.int (FI 0), .int (GR 0), .int (FR 0)])), ((La 1), .inr (1, [.int (FI 1), .int (GR 1), .int (FR 1)])), ((La 2), .inr (1, [.int (FI 2), .int (GR 2), .int (FR 2)])), ((La 3), .inr (1, [.int (FI 3), .int (GR 3), .int (FR 3)])), (bsk, .inr (9, [.int wd, .int wf, .int mp, .int mb, .int mo, .int sp, .int sb])), (bru, .inr (8, [.ref rco, .int rsz, .ref ren, .ref rst, .int rkn])), (rco, .inl (cRc, 64, .inl fRc)), (ren, .inl (cRe, 4, .inl fRe)), (rst, .inl (cRs, 64, .inr (.inl u_5.2.2.2.2.2.2.2.2.2.2))), (bda, .inl (cDa, 4, .inr (.inl fDa))), (bdk, .inl (cDk, 4, .inl fDk)), (bdt, .inl (cDt, 4, .inl fDt)), (bdp, .inl (cDp, 4, .inl fDp)), (mq, .inr (12, mF (upd (upd g 2 u_22.1) 57 u_22.2.2.2.1) (vp_updL (vp_updL gl 53 u_22.2.1) 54 u_22.2.2.1) rf)), ((rf 24), .inl ((ck 24), 14, .inl f_sky)), ((rf 29), .inl ((ck 29), 24, .inl f_landHas)), ((rf 31), .inl ((ck 31), 8, .inl f_first)), ((rf 32), .inl ((ck 32), 8, .inl f_last)), ((rf 37), .inl ((ck 37), 8, .inr (.inl f_deedOn))), ((rf 38), .inl ((ck 38), 24, .inl f_deedHas)), ((rf 41), .inl ((ck 41), 128, .inl f_knot)), ((rf 42), .inl ((ck 42), 128, .inl f_part)), ((rf 43), .inl ((ck 43), 128, .inl f_other)), ((rf 55), .inl ((ck 55), 6, .inr (.inl u_22.2.2.2.2.1))), ((rf 56), .inl ((ck 56), 64, .inr (.inl u_22.2.2.2.2.2)))] H → va_S A s.heap H locs → lv_has ls 7 [(4, .int i), (3, .ref o3), (2, .ref mq), (1, .ref x), (0, .ref bs)] → H0.size ≤ H.size → (∀ q : Nat, q < H0.size → ¬ Bp q → H[q]? = H0[q]?) → W p l e room_1 s m #[Value.ref bs] below meth c H locs (ce + 1) (sl + 6) (lw_Z below #[Value.ref bs] s) (F0 m 2012 ls [])) : W p l e room_1 s m #[Value.ref bs] below meth c H0 locs ce sl (lw_Z below #[Value.ref bs] s) (F0 m 1415 ls []) := by
  obtain ⟨hx, hb, hr, hml, hown, hts, hX, hbl, hlocks, hgv⟩ := id C0
  have htw : ∀ w ∈ wsL_law, w.before _ s = true := fun w h => hts w (wsL_law_in w h)
  have hown : s.vm.findClass RL = some m.cls := hown
  have hA : ∀ q : Nat, s.heap.size ≤ q → A q := fun q h => (hAe q).mpr h
  have hbA : ¬ A bs := fun h => absurd ((hAe bs).mp h) (Nat.not_le.mpr hbl)
  obtain ⟨H, rH⟩ : ∃ z : Heap, z = H0 := ⟨_, rfl⟩
  have hfr : ∀ q : Nat, q < H0.size → ¬ Bp q → H[q]? = H0[q]? := fun q _ _ => by rw [rH]
  have hz0 : H0.size ≤ H.size := by rw [rH]; exact Nat.le_refl _
  rw [← rH] at hP hS ⊢
  refine lv_aload_n hx hb dL_law_1415 rfl (lv_at hl 3 rfl) ?_
  refine lv_aload_n hx hb dL_law_1416 rfl (lv_at hl 4 rfl) ?_
  refine lv_iload hx hb dL_law_1417 (lv_at hl 0 rfl) ?_
  refine lv_iconst (v := 1) hx hb dL_law_1419 (by decide) ?_
  refine lv_iadd hx hb dL_law_1420 ?_
  refine va_sld hx hb hX hbl hbA hS hi1 dL_law_1421 ?_
  rw [hy1]
  refine lv_aload_n hx hb dL_law_1422 rfl (lv_at hl 4 rfl) ?_
  refine lv_iload hx hb dL_law_1423 (lv_at hl 0 rfl) ?_
  refine lv_iconst (v := 2) hx hb dL_law_1425 (by decide) ?_
  refine lv_iadd hx hb dL_law_1426 ?_
  refine va_sld hx hb hX hbl hbA hS hi2 dL_law_1427 ?_
  rw [hy2]
  refine lv_aload_n hx hb dL_law_1428 rfl (lv_at hl 4 rfl) ?_
  refine lv_iload hx hb dL_law_1429 (lv_at hl 0 rfl) ?_
  refine lv_iconst (v := 3) hx hb dL_law_1431 (by decide) ?_
  refine lv_iadd hx hb dL_law_1432 ?_
  refine va_sld hx hb hX hbl hbA hS hi3 dL_law_1433 ?_
  rw [hy3]
  have hPc := hP.sub (ws' := [(x, .inr (11, [.ref pa, .ref bk, .ref xsp, .ref xdy, .ref le, .ref xst, .int xsc, .ref xim, .ref xil, .int xik, .ref xmo, .ref xom, .ref wi])), (xmo, .inr (4, [mla, .long mct, .long myr, .long mdy, .long mlg])), (wi, .inr (10, [.int w0, .int w1, .int w2, .int w3, .int w4])), (bk, .inr (0, [.ref bto, .ref bnm, .ref bla, .ref bsk, .ref bru, .ref bbo, .ref bdi, .ref bda, .ref bdk, .ref bdt, .ref bdp, .ref bno])), (bto, .inl (cTo, 5, .inl fTo)), (bla, .inl (cLa, 4, .inr (.inr (.inr (.inr (fun k => some (La k))))))), ((La 0), .inr (1, [.int (FI 0), .int (GR 0), .int (FR 0)])), ((La 1), .inr (1, [.int (FI 1), .int (GR 1), .int (FR 1)])), ((La 2), .inr (1, [.int (FI 2), .int (GR 2), .int (FR 2)])), ((La 3), .inr (1, [.int (FI 3), .int (GR 3), .int (FR 3)])), (bsk, .inr (9, [.int wd, .int wf, .int mp, .int mb, .int mo, .int sp, .int sb])), (bru, .inr (8, [.ref rco, .int rsz, .ref ren, .ref rst, .int rkn])), (rco, .inl (cRc, 64, .inl fRc)), (ren, .inl (cRe, 4, .inl fRe)), (rst, .inl (cRs, 64, .inr (.inl fRs))), (bda, .inl (cDa, 4, .inr (.inl fDa))), (bdk, .inl (cDk, 4, .inl fDk)), (bdt, .inl (cDt, 4, .inl fDt)), (bdp, .inl (cDp, 4, .inl fDp))]) [0, 1, 2, 3, 4, 5, 6, 7, 8, 9, 10, 11, 12, 13, 14, 15, 16, 17, 18] rfl
  have hKc := hK.sub (tys' := [(cTo, .int), (cLa, .object RX1), (cRc, .int), (cRe, .int), (cRs, .long), (cDa, .long), (cDk, .int), (cDt, .int), (cDp, .int)]) [0, 1, 2, 3, 4, 5, 6, 7, 8] rfl
  have hDc := hD.sub (ws' := [(x, .inr (11, [.ref pa, .ref bk, .ref xsp, .ref xdy, .ref le, .ref xst, .int xsc, .ref xim, .ref xil, .int xik, .ref xmo, .ref xom, .ref wi])), (xmo, .inr (4, [mla, .long mct, .long myr, .long mdy, .long mlg])), (wi, .inr (10, [.int w0, .int w1, .int w2, .int w3, .int w4])), (bk, .inr (0, [.ref bto, .ref bnm, .ref bla, .ref bsk, .ref bru, .ref bbo, .ref bdi, .ref bda, .ref bdk, .ref bdt, .ref bdp, .ref bno])), (bto, .inl (cTo, 5, .inl fTo)), (bla, .inl (cLa, 4, .inr (.inr (.inr (.inr (fun k => some (La k))))))), ((La 0), .inr (1, [.int (FI 0), .int (GR 0), .int (FR 0)])), ((La 1), .inr (1, [.int (FI 1), .int (GR 1), .int (FR 1)])), ((La 2), .inr (1, [.int (FI 2), .int (GR 2), .int (FR 2)])), ((La 3), .inr (1, [.int (FI 3), .int (GR 3), .int (FR 3)])), (bsk, .inr (9, [.int wd, .int wf, .int mp, .int mb, .int mo, .int sp, .int sb])), (bru, .inr (8, [.ref rco, .int rsz, .ref ren, .ref rst, .int rkn])), (rco, .inl (cRc, 64, .inl fRc)), (ren, .inl (cRe, 4, .inl fRe)), (rst, .inl (cRs, 64, .inr (.inl fRs))), (bda, .inl (cDa, 4, .inr (.inl fDa))), (bdk, .inl (cDk, 4, .inl fDk)), (bdt, .inl (cDt, 4, .inl fDt)), (bdp, .inl (cDp, 4, .inl fDp))]) [0, 1, 2, 3, 4, 5, 6, 7, 8, 9, 10, 11, 12, 13, 14, 15, 16, 17, 18] (by decide) rfl
  have hFc := va_free (wc := [(x, .inr (11, [.ref pa, .ref bk, .ref xsp, .ref xdy, .ref le, .ref xst, .int xsc, .ref xim, .ref xil, .int xik, .ref xmo, .ref xom, .ref wi])), (xmo, .inr (4, [mla, .long mct, .long myr, .long mdy, .long mlg])), (wi, .inr (10, [.int w0, .int w1, .int w2, .int w3, .int w4])), (bk, .inr (0, [.ref bto, .ref bnm, .ref bla, .ref bsk, .ref bru, .ref bbo, .ref bdi, .ref bda, .ref bdk, .ref bdt, .ref bdp, .ref bno])), (bto, .inl (cTo, 5, .inl fTo)), (bla, .inl (cLa, 4, .inr (.inr (.inr (.inr (fun k => some (La k))))))), ((La 0), .inr (1, [.int (FI 0), .int (GR 0), .int (FR 0)])), ((La 1), .inr (1, [.int (FI 1), .int (GR 1), .int (FR 1)])), ((La 2), .inr (1, [.int (FI 2), .int (GR 2), .int (FR 2)])), ((La 3), .inr (1, [.int (FI 3), .int (GR 3), .int (FR 3)])), (bsk, .inr (9, [.int wd, .int wf, .int mp, .int mb, .int mo, .int sp, .int sb])), (bru, .inr (8, [.ref rco, .int rsz, .ref ren, .ref rst, .int rkn])), (rco, .inl (cRc, 64, .inl fRc)), (ren, .inl (cRe, 4, .inl fRe)), (rst, .inl (cRs, 64, .inr (.inl fRs))), (bda, .inl (cDa, 4, .inr (.inl fDa))), (bdk, .inl (cDk, 4, .inl fDk)), (bdt, .inl (cDt, 4, .inl fDt)), (bdp, .inl (cDp, 4, .inl fDp))]) hD hS hA [0, 1, 2, 3, 4, 5, 6, 7, 8, 9, 10, 11, 12, 13, 14, 15, 16, 17, 18] rfl
  refine va_calll (va_runV (As := [.int y1, .int y2, .int y3]) (rest := []) ⟨hx, hb, hml, hown, htw⟩ (gx_deed l dC dI x pa bk xsp xdy le xst xsc xim xil xik xmo xom wi mla mct myr mdy mlg w0 w1 w2 w3 w4 bto bnm bla bsk bru bbo bdi bda bdk bdt bdp bno cTo fTo cLa La FI GR FR wd wf mp mb mo sp sb rco rsz ren rst rkn cRc fRc cRe fRe cRs fRs cDa fDa cDk fDk cDt fDt cDp fDp y1 y2 y3 H.size hE ht3) (cwV 3 htw (xg_V (ck_49 _ (List.mem_of_getElem? (i := 3) rfl)) (ck_49 _ (List.mem_of_getElem? (i := 4) rfl)) (ck_49 _ (List.mem_of_getElem? (i := 5) rfl)) (ck_1 _ (List.mem_of_getElem? (i := 2) rfl)) (ck_49 _ (List.mem_of_getElem? (i := 6) rfl))) rfl rfl rfl (by decide +kernel) ⟨Nat.le_of_ble_eq_true rfl, Nat.le_of_ble_eq_true rfl⟩) ⟨fun a U g mk q => by obtain ⟨q0, q1, qP, qK, qD, qx0⟩ := q; exact ⟨q0, q1, qP, va_K.moved (u := U) (U := U.calling g mk a) (Vm.Alike.refl U.vm) qK, qD, xN.calling qx0⟩, va_recv hKc hPc (ci := 11) (q0 := 0) rfl rfl, fun U hU hW => ⟨rfl, by rw [hU], by rw [hU]; exact hPc, va_K.moved hW.alike hKc, hDc.weaken (fun _ _ _ _ => trivial), xN.warm hW hNx⟩⟩ rfl rfl hl.1 rfl (lv_room (Nat.le_of_ble_eq_true rfl)) dL_law_1434 ⟨by first | exact Nat.le_of_ble_eq_true rfl | exact yR (n := 0) (by omega) rfl, by first | exact Nat.le_of_ble_eq_true rfl | exact yR2 (n := 0) (by omega) rfl⟩) hS (fun q _ h => hFc q h) hFc (fun r_4 u_5 t H1 locs ht hvm hw hB hz1 hk1 hS => ?_)
  try dsimp only at hw
  obtain ⟨hP1, hK1, hD1⟩ := hB
  rw [ht] at hP1
  have hK1 := va_K.moved hvm.symm hK1
  have hP1 : va_P (dC, dI) vwCl [(x, .inr (11, [.ref pa, .ref bk, .ref xsp, .ref xdy, .ref le, .ref xst, .int xsc, .ref xim, .ref xil, .int xik, .ref xmo, .ref xom, .ref wi])), (xmo, .inr (4, [u_5.1, .long u_5.2.1, .long u_5.2.2.1, .long u_5.2.2.2.1, .long u_5.2.2.2.2.1])), (wi, .inr (10, [.int u_5.2.2.2.2.2.1, .int u_5.2.2.2.2.2.2.1, .int u_5.2.2.2.2.2.2.2.1, .int u_5.2.2.2.2.2.2.2.2.1, .int u_5.2.2.2.2.2.2.2.2.2.1])), (bk, .inr (0, [.ref bto, .ref bnm, .ref bla, .ref bsk, .ref bru, .ref bbo, .ref bdi, .ref bda, .ref bdk, .ref bdt, .ref bdp, .ref bno])), (bto, .inl (cTo, 5, .inl fTo)), (bla, .inl (cLa, 4, .inr (.inr (.inr (.inr (fun k => some (La k))))))), ((La 0), .inr (1, [.int (FI 0), .int (GR 0), .int (FR 0)])), ((La 1), .inr (1, [.int (FI 1), .int (GR 1), .int (FR 1)])), ((La 2), .inr (1, [.int (FI 2), .int (GR 2), .int (FR 2)])), ((La 3), .inr (1, [.int (FI 3), .int (GR 3), .int (FR 3)])), (bsk, .inr (9, [.int wd, .int wf, .int mp, .int mb, .int mo, .int sp, .int sb])), (bru, .inr (8, [.ref rco, .int rsz, .ref ren, .ref rst, .int rkn])), (rco, .inl (cRc, 64, .inl fRc)), (ren, .inl (cRe, 4, .inl fRe)), (rst, .inl (cRs, 64, .inr (.inl u_5.2.2.2.2.2.2.2.2.2.2))), (bda, .inl (cDa, 4, .inr (.inl fDa))), (bdk, .inl (cDk, 4, .inl fDk)), (bdt, .inl (cDt, 4, .inl fDt)), (bdp, .inl (cDp, 4, .inl fDp))] H1 := hP1
  have hD1 : va_D (va_A [(x, .inr (11, [.ref pa, .ref bk, .ref xsp, .ref xdy, .ref le, .ref xst, .int xsc, .ref xim, .ref xil, .int xik, .ref xmo, .ref xom, .ref wi])), (xmo, .inr (4, [mla, .long mct, .long myr, .long mdy, .long mlg])), (wi, .inr (10, [.int w0, .int w1, .int w2, .int w3, .int w4])), (bk, .inr (0, [.ref bto, .ref bnm, .ref bla, .ref bsk, .ref bru, .ref bbo, .ref bdi, .ref bda, .ref bdk, .ref bdt, .ref bdp, .ref bno])), (bto, .inl (cTo, 5, .inl fTo)), (bla, .inl (cLa, 4, .inr (.inr (.inr (.inr (fun k => some (La k))))))), ((La 0), .inr (1, [.int (FI 0), .int (GR 0), .int (FR 0)])), ((La 1), .inr (1, [.int (FI 1), .int (GR 1), .int (FR 1)])), ((La 2), .inr (1, [.int (FI 2), .int (GR 2), .int (FR 2)])), ((La 3), .inr (1, [.int (FI 3), .int (GR 3), .int (FR 3)])), (bsk, .inr (9, [.int wd, .int wf, .int mp, .int mb, .int mo, .int sp, .int sb])), (bru, .inr (8, [.ref rco, .int rsz, .ref ren, .ref rst, .int rkn])), (rco, .inl (cRc, 64, .inl fRc)), (ren, .inl (cRe, 4, .inl fRe)), (rst, .inl (cRs, 64, .inr (.inl fRs))), (bda, .inl (cDa, 4, .inr (.inl fDa))), (bdk, .inl (cDk, 4, .inl fDk)), (bdt, .inl (cDt, 4, .inl fDt)), (bdp, .inl (cDp, 4, .inl fDp))] H.size) [(x, .inr (11, [.ref pa, .ref bk, .ref xsp, .ref xdy, .ref le, .ref xst, .int xsc, .ref xim, .ref xil, .int xik, .ref xmo, .ref xom, .ref wi])), (xmo, .inr (4, [u_5.1, .long u_5.2.1, .long u_5.2.2.1, .long u_5.2.2.2.1, .long u_5.2.2.2.2.1])), (wi, .inr (10, [.int u_5.2.2.2.2.2.1, .int u_5.2.2.2.2.2.2.1, .int u_5.2.2.2.2.2.2.2.1, .int u_5.2.2.2.2.2.2.2.2.1, .int u_5.2.2.2.2.2.2.2.2.2.1])), (bk, .inr (0, [.ref bto, .ref bnm, .ref bla, .ref bsk, .ref bru, .ref bbo, .ref bdi, .ref bda, .ref bdk, .ref bdt, .ref bdp, .ref bno])), (bto, .inl (cTo, 5, .inl fTo)), (bla, .inl (cLa, 4, .inr (.inr (.inr (.inr (fun k => some (La k))))))), ((La 0), .inr (1, [.int (FI 0), .int (GR 0), .int (FR 0)])), ((La 1), .inr (1, [.int (FI 1), .int (GR 1), .int (FR 1)])), ((La 2), .inr (1, [.int (FI 2), .int (GR 2), .int (FR 2)])), ((La 3), .inr (1, [.int (FI 3), .int (GR 3), .int (FR 3)])), (bsk, .inr (9, [.int wd, .int wf, .int mp, .int mb, .int mo, .int sp, .int sb])), (bru, .inr (8, [.ref rco, .int rsz, .ref ren, .ref rst, .int rkn])), (rco, .inl (cRc, 64, .inl fRc)), (ren, .inl (cRe, 4, .inl fRe)), (rst, .inl (cRs, 64, .inr (.inl u_5.2.2.2.2.2.2.2.2.2.2))), (bda, .inl (cDa, 4, .inr (.inl fDa))), (bdk, .inl (cDk, 4, .inl fDk)), (bdt, .inl (cDt, 4, .inl fDt)), (bdp, .inl (cDp, 4, .inl fDp))] := hD1
  have hK1 : va_K (dC, dI) vwCl [] s := hK1
  obtain ⟨hP, hD⟩ := va_join (wr := [(mq, .inr (12, mF g gl rf)), ((rf 24), .inl ((ck 24), 14, .inl f_sky)), ((rf 29), .inl ((ck 29), 24, .inl f_landHas)), ((rf 31), .inl ((ck 31), 8, .inl f_first)), ((rf 32), .inl ((ck 32), 8, .inl f_last)), ((rf 37), .inl ((ck 37), 8, .inr (.inl f_deedOn))), ((rf 38), .inl ((ck 38), 24, .inl f_deedHas)), ((rf 41), .inl ((ck 41), 128, .inl f_knot)), ((rf 42), .inl ((ck 42), 128, .inl f_part)), ((rf 43), .inl ((ck 43), 128, .inl f_other)), ((rf 55), .inl ((ck 55), 6, .inr (.inl f_names))), ((rf 56), .inl ((ck 56), 64, .inr (.inl f_value)))]) (w1 := [(x, .inr (11, [.ref pa, .ref bk, .ref xsp, .ref xdy, .ref le, .ref xst, .int xsc, .ref xim, .ref xil, .int xik, .ref xmo, .ref xom, .ref wi])), (xmo, .inr (4, [u_5.1, .long u_5.2.1, .long u_5.2.2.1, .long u_5.2.2.2.1, .long u_5.2.2.2.2.1])), (wi, .inr (10, [.int u_5.2.2.2.2.2.1, .int u_5.2.2.2.2.2.2.1, .int u_5.2.2.2.2.2.2.2.1, .int u_5.2.2.2.2.2.2.2.2.1, .int u_5.2.2.2.2.2.2.2.2.2.1])), (bk, .inr (0, [.ref bto, .ref bnm, .ref bla, .ref bsk, .ref bru, .ref bbo, .ref bdi, .ref bda, .ref bdk, .ref bdt, .ref bdp, .ref bno])), (bto, .inl (cTo, 5, .inl fTo)), (bla, .inl (cLa, 4, .inr (.inr (.inr (.inr (fun k => some (La k))))))), ((La 0), .inr (1, [.int (FI 0), .int (GR 0), .int (FR 0)])), ((La 1), .inr (1, [.int (FI 1), .int (GR 1), .int (FR 1)])), ((La 2), .inr (1, [.int (FI 2), .int (GR 2), .int (FR 2)])), ((La 3), .inr (1, [.int (FI 3), .int (GR 3), .int (FR 3)])), (bsk, .inr (9, [.int wd, .int wf, .int mp, .int mb, .int mo, .int sp, .int sb])), (bru, .inr (8, [.ref rco, .int rsz, .ref ren, .ref rst, .int rkn])), (rco, .inl (cRc, 64, .inl fRc)), (ren, .inl (cRe, 4, .inl fRe)), (rst, .inl (cRs, 64, .inr (.inl u_5.2.2.2.2.2.2.2.2.2.2))), (bda, .inl (cDa, 4, .inr (.inl fDa))), (bdk, .inl (cDk, 4, .inl fDk)), (bdt, .inl (cDt, 4, .inl fDt)), (bdp, .inl (cDp, 4, .inl fDp))]) hP hD [0, 1, 2, 3, 4, 5, 6, 7, 8, 9, 10, 11, 12, 13, 14, 15, 16, 17, 18] [19, 20, 21, 22, 23, 24, 25, 26, 27, 28, 29, 30] rfl rfl (by decide) (by decide) hk1 hFc hP1 hD1
  have hfr := yF (wc := [(x, .inr (11, [.ref pa, .ref bk, .ref xsp, .ref xdy, .ref le, .ref xst, .int xsc, .ref xim, .ref xil, .int xik, .ref xmo, .ref xom, .ref wi])), (xmo, .inr (4, [mla, .long mct, .long myr, .long mdy, .long mlg])), (wi, .inr (10, [.int w0, .int w1, .int w2, .int w3, .int w4])), (bk, .inr (0, [.ref bto, .ref bnm, .ref bla, .ref bsk, .ref bru, .ref bbo, .ref bdi, .ref bda, .ref bdk, .ref bdt, .ref bdp, .ref bno])), (bto, .inl (cTo, 5, .inl fTo)), (bla, .inl (cLa, 4, .inr (.inr (.inr (.inr (fun k => some (La k))))))), ((La 0), .inr (1, [.int (FI 0), .int (GR 0), .int (FR 0)])), ((La 1), .inr (1, [.int (FI 1), .int (GR 1), .int (FR 1)])), ((La 2), .inr (1, [.int (FI 2), .int (GR 2), .int (FR 2)])), ((La 3), .inr (1, [.int (FI 3), .int (GR 3), .int (FR 3)])), (bsk, .inr (9, [.int wd, .int wf, .int mp, .int mb, .int mo, .int sp, .int sb])), (bru, .inr (8, [.ref rco, .int rsz, .ref ren, .ref rst, .int rkn])), (rco, .inl (cRc, 64, .inl fRc)), (ren, .inl (cRe, 4, .inl fRe)), (rst, .inl (cRs, 64, .inr (.inl fRs))), (bda, .inl (cDa, 4, .inr (.inl fDa))), (bdk, .inl (cDk, 4, .inl fDk)), (bdt, .inl (cDt, 4, .inl fDt)), (bdp, .inl (cDp, 4, .inl fDp))]) hBs [0, 1, 2, 3, 4, 5, 6, 7, 8, 9, 10, 11, 12, 13, 14, 15, 16, 17, 18] rfl hz0 hfr hk1
  have hz0 := Nat.le_trans hz0 hz1
  generalize H1 = H at hP hS hfr hz0 ⊢
  have hP : va_P (dC, dI) vwCl [(mq, .inr (12, mF g gl rf)), ((rf 24), .inl ((ck 24), 14, .inl f_sky)), ((rf 29), .inl ((ck 29), 24, .inl f_landHas)), ((rf 31), .inl ((ck 31), 8, .inl f_first)), ((rf 32), .inl ((ck 32), 8, .inl f_last)), ((rf 37), .inl ((ck 37), 8, .inr (.inl f_deedOn))), ((rf 38), .inl ((ck 38), 24, .inl f_deedHas)), ((rf 41), .inl ((ck 41), 128, .inl f_knot)), ((rf 42), .inl ((ck 42), 128, .inl f_part)), ((rf 43), .inl ((ck 43), 128, .inl f_other)), ((rf 55), .inl ((ck 55), 6, .inr (.inl f_names))), ((rf 56), .inl ((ck 56), 64, .inr (.inl f_value))), (x, .inr (11, [.ref pa, .ref bk, .ref xsp, .ref xdy, .ref le, .ref xst, .int xsc, .ref xim, .ref xil, .int xik, .ref xmo, .ref xom, .ref wi])), (xmo, .inr (4, [u_5.1, .long u_5.2.1, .long u_5.2.2.1, .long u_5.2.2.2.1, .long u_5.2.2.2.2.1])), (wi, .inr (10, [.int u_5.2.2.2.2.2.1, .int u_5.2.2.2.2.2.2.1, .int u_5.2.2.2.2.2.2.2.1, .int u_5.2.2.2.2.2.2.2.2.1, .int u_5.2.2.2.2.2.2.2.2.2.1])), (bk, .inr (0, [.ref bto, .ref bnm, .ref bla, .ref bsk, .ref bru, .ref bbo, .ref bdi, .ref bda, .ref bdk, .ref bdt, .ref bdp, .ref bno])), (bto, .inl (cTo, 5, .inl fTo)), (bla, .inl (cLa, 4, .inr (.inr (.inr (.inr (fun k => some (La k))))))), ((La 0), .inr (1, [.int (FI 0), .int (GR 0), .int (FR 0)])), ((La 1), .inr (1, [.int (FI 1), .int (GR 1), .int (FR 1)])), ((La 2), .inr (1, [.int (FI 2), .int (GR 2), .int (FR 2)])), ((La 3), .inr (1, [.int (FI 3), .int (GR 3), .int (FR 3)])), (bsk, .inr (9, [.int wd, .int wf, .int mp, .int mb, .int mo, .int sp, .int sb])), (bru, .inr (8, [.ref rco, .int rsz, .ref ren, .ref rst, .int rkn])), (rco, .inl (cRc, 64, .inl fRc)), (ren, .inl (cRe, 4, .inl fRe)), (rst, .inl (cRs, 64, .inr (.inl u_5.2.2.2.2.2.2.2.2.2.2))), (bda, .inl (cDa, 4, .inr (.inl fDa))), (bdk, .inl (cDk, 4, .inl fDk)), (bdt, .inl (cDt, 4, .inl fDt)), (bdp, .inl (cDp, 4, .inl fDp))] H := hP
  have hD : va_D A [(mq, .inr (12, mF g gl rf)), ((rf 24), .inl ((ck 24), 14, .inl f_sky)), ((rf 29), .inl ((ck 29), 24, .inl f_landHas)), ((rf 31), .inl ((ck 31), 8, .inl f_first)), ((rf 32), .inl ((ck 32), 8, .inl f_last)), ((rf 37), .inl ((ck 37), 8, .inr (.inl f_deedOn))), ((rf 38), .inl ((ck 38), 24, .inl f_deedHas)), ((rf 41), .inl ((ck 41), 128, .inl f_knot)), ((rf 42), .inl ((ck 42), 128, .inl f_part)), ((rf 43), .inl ((ck 43), 128, .inl f_other)), ((rf 55), .inl ((ck 55), 6, .inr (.inl f_names))), ((rf 56), .inl ((ck 56), 64, .inr (.inl f_value))), (x, .inr (11, [.ref pa, .ref bk, .ref xsp, .ref xdy, .ref le, .ref xst, .int xsc, .ref xim, .ref xil, .int xik, .ref xmo, .ref xom, .ref wi])), (xmo, .inr (4, [u_5.1, .long u_5.2.1, .long u_5.2.2.1, .long u_5.2.2.2.1, .long u_5.2.2.2.2.1])), (wi, .inr (10, [.int u_5.2.2.2.2.2.1, .int u_5.2.2.2.2.2.2.1, .int u_5.2.2.2.2.2.2.2.1, .int u_5.2.2.2.2.2.2.2.2.1, .int u_5.2.2.2.2.2.2.2.2.2.1])), (bk, .inr (0, [.ref bto, .ref bnm, .ref bla, .ref bsk, .ref bru, .ref bbo, .ref bdi, .ref bda, .ref bdk, .ref bdt, .ref bdp, .ref bno])), (bto, .inl (cTo, 5, .inl fTo)), (bla, .inl (cLa, 4, .inr (.inr (.inr (.inr (fun k => some (La k))))))), ((La 0), .inr (1, [.int (FI 0), .int (GR 0), .int (FR 0)])), ((La 1), .inr (1, [.int (FI 1), .int (GR 1), .int (FR 1)])), ((La 2), .inr (1, [.int (FI 2), .int (GR 2), .int (FR 2)])), ((La 3), .inr (1, [.int (FI 3), .int (GR 3), .int (FR 3)])), (bsk, .inr (9, [.int wd, .int wf, .int mp, .int mb, .int mo, .int sp, .int sb])), (bru, .inr (8, [.ref rco, .int rsz, .ref ren, .ref rst, .int rkn])), (rco, .inl (cRc, 64, .inl fRc)), (ren, .inl (cRe, 4, .inl fRe)), (rst, .inl (cRs, 64, .inr (.inl u_5.2.2.2.2.2.2.2.2.2.2))), (bda, .inl (cDa, 4, .inr (.inl fDa))), (bdk, .inl (cDk, 4, .inl fDk)), (bdt, .inl (cDt, 4, .inl fDt)), (bdp, .inl (cDp, 4, .inl fDp))] := hD
  refine W.widen (k := ce + 0) (n := sl + 0) (by omega) (by omega) ?_
  obtain ⟨X_17, hX_17⟩ : ∃ X9 : Int64 × (Value) × (Int64) × (Int64) × (Int64) × (Int64) × (Int32) × (Int32) × (Int32) × (Int32) × (Int32) × (Nat → Int64), X9 = (fx_deed mla mct myr mdy mlg w0 w1 w2 w3 w4 fTo La FI GR FR wd wf mp mb mo sp sb fRc fRe fRs fDa fDk fDt fDp y1 y2 y3) := ⟨_, rfl⟩
  have hq_r_4 : r_4 = X_17.1 := by rw [hX_17]; exact hw.1
  have hq_u_5 : u_5 = X_17.2 := by rw [hX_17]; exact hw.2
  refine lv_pop2_2 hx hb dL_law_1437 rfl ?_
  refine lv_aload_n hx hb dL_law_1438 rfl (lv_at hl 2 rfl) ?_
  refine lv_aload_n hx hb dL_law_1439 rfl (lv_at hl 4 rfl) ?_
  refine lv_iload hx hb dL_law_1440 (lv_at hl 0 rfl) ?_
  refine lv_iconst (v := 1) hx hb dL_law_1442 (by decide) ?_
  refine lv_iadd hx hb dL_law_1443 ?_
  refine va_sld hx hb hX hbl hbA hS hi1 dL_law_1444 ?_
  rw [hy1]
  refine lv_aload_n hx hb dL_law_1445 rfl (lv_at hl 4 rfl) ?_
  refine lv_iload hx hb dL_law_1446 (lv_at hl 0 rfl) ?_
  refine lv_iconst (v := 2) hx hb dL_law_1448 (by decide) ?_
  refine lv_iadd hx hb dL_law_1449 ?_
  refine va_sld hx hb hX hbl hbA hS hi2 dL_law_1450 ?_
  rw [hy2]
  refine lv_aload_n hx hb dL_law_1451 rfl (lv_at hl 4 rfl) ?_
  refine lv_iload hx hb dL_law_1452 (lv_at hl 0 rfl) ?_
  refine lv_iconst (v := 3) hx hb dL_law_1454 (by decide) ?_
  refine lv_iadd hx hb dL_law_1455 ?_
  refine va_sld hx hb hX hbl hbA hS hi3 dL_law_1456 ?_
  rw [hy3]
  have hPc := hP.sub (ws' := [(mq, .inr (12, mF g gl rf)), ((rf 24), .inl ((ck 24), 14, .inl f_sky)), ((rf 29), .inl ((ck 29), 24, .inl f_landHas)), ((rf 31), .inl ((ck 31), 8, .inl f_first)), ((rf 32), .inl ((ck 32), 8, .inl f_last)), ((rf 37), .inl ((ck 37), 8, .inr (.inl f_deedOn))), ((rf 38), .inl ((ck 38), 24, .inl f_deedHas)), ((rf 41), .inl ((ck 41), 128, .inl f_knot)), ((rf 42), .inl ((ck 42), 128, .inl f_part)), ((rf 43), .inl ((ck 43), 128, .inl f_other)), ((rf 55), .inl ((ck 55), 6, .inr (.inl f_names))), ((rf 56), .inl ((ck 56), 64, .inr (.inl f_value)))]) [0, 1, 2, 3, 4, 5, 6, 7, 8, 9, 10, 11] rfl
  have hKc := hK.sub (tys' := [((ck 24), .int), ((ck 29), .int), ((ck 31), .int), ((ck 32), .int), ((ck 37), .long), ((ck 38), .int), ((ck 41), .int), ((ck 42), .int), ((ck 43), .int), ((ck 55), .long), ((ck 56), .long)]) [9, 10, 11, 12, 13, 14, 15, 16, 17, 18, 19] rfl
  have hDc := hD.sub (ws' := [(mq, .inr (12, mF g gl rf)), ((rf 24), .inl ((ck 24), 14, .inl f_sky)), ((rf 29), .inl ((ck 29), 24, .inl f_landHas)), ((rf 31), .inl ((ck 31), 8, .inl f_first)), ((rf 32), .inl ((ck 32), 8, .inl f_last)), ((rf 37), .inl ((ck 37), 8, .inr (.inl f_deedOn))), ((rf 38), .inl ((ck 38), 24, .inl f_deedHas)), ((rf 41), .inl ((ck 41), 128, .inl f_knot)), ((rf 42), .inl ((ck 42), 128, .inl f_part)), ((rf 43), .inl ((ck 43), 128, .inl f_other)), ((rf 55), .inl ((ck 55), 6, .inr (.inl f_names))), ((rf 56), .inl ((ck 56), 64, .inr (.inl f_value)))]) [0, 1, 2, 3, 4, 5, 6, 7, 8, 9, 10, 11] (by decide) rfl
  have hFc := va_free (wc := [(mq, .inr (12, mF g gl rf)), ((rf 24), .inl ((ck 24), 14, .inl f_sky)), ((rf 29), .inl ((ck 29), 24, .inl f_landHas)), ((rf 31), .inl ((ck 31), 8, .inl f_first)), ((rf 32), .inl ((ck 32), 8, .inl f_last)), ((rf 37), .inl ((ck 37), 8, .inr (.inl f_deedOn))), ((rf 38), .inl ((ck 38), 24, .inl f_deedHas)), ((rf 41), .inl ((ck 41), 128, .inl f_knot)), ((rf 42), .inl ((ck 42), 128, .inl f_part)), ((rf 43), .inl ((ck 43), 128, .inl f_other)), ((rf 55), .inl ((ck 55), 6, .inr (.inl f_names))), ((rf 56), .inl ((ck 56), 64, .inr (.inl f_value)))]) hD hS hA [0, 1, 2, 3, 4, 5, 6, 7, 8, 9, 10, 11] rfl
  refine va_calll (va_runV (As := [.int y1, .int y2, .int y3]) (rest := []) ⟨hx, hb, hml, hown, htw⟩ (gq_deed l dC dI mq g gl rf ck f_sky f_landHas f_first f_last f_deedOn f_deedHas f_knot f_part f_other f_names f_value y1 y2 y3 H.size hfe0 hfe4 hFA hKA hln0 hln4 hLZ hs0 hs2 hs5 hde0 hde4 hLZ1 hDE) (cwV 3 htw (xg_V (ck_50 _ (List.mem_of_getElem? (i := 0) rfl)) (ck_50 _ (List.mem_of_getElem? (i := 1) rfl)) (ck_50 _ (List.mem_of_getElem? (i := 2) rfl)) (ck_1 _ (List.mem_of_getElem? (i := 5) rfl)) (ck_50 _ (List.mem_of_getElem? (i := 3) rfl))) rfl rfl rfl (by decide +kernel) ⟨Nat.le_of_ble_eq_true rfl, Nat.le_of_ble_eq_true rfl⟩) ⟨fun a U g mk q => by obtain ⟨q0, q1, qP, qK, qD⟩ := q; exact ⟨q0, q1, qP, va_K.moved (u := U) (U := U.calling g mk a) (Vm.Alike.refl U.vm) qK, qD⟩, va_recv hKc hPc (ci := 12) (q0 := 0) rfl rfl, fun U hU hW => ⟨rfl, by rw [hU], by rw [hU]; exact hPc, va_K.moved hW.alike hKc, hDc.weaken (fun _ _ _ _ => trivial)⟩⟩ rfl rfl hl.1 rfl (lv_room (Nat.le_of_ble_eq_true rfl)) dL_law_1457 ⟨by first | exact Nat.le_of_ble_eq_true rfl | exact yR (n := 0) (by omega) rfl, by first | exact Nat.le_of_ble_eq_true rfl | exact yR2 (n := 0) (by omega) rfl⟩) hS (fun q _ h => hFc q h) hFc (fun r_21 u_22 t H1 locs ht hvm hw hB hz1 hk1 hS => ?_)
  try dsimp only at hw
  obtain ⟨hP1, hK1, hD1⟩ := hB
  rw [ht] at hP1
  have hK1 := va_K.moved hvm.symm hK1
  have hP1 : va_P (dC, dI) vwCl [(mq, .inr (12, mF (upd (upd g 2 u_22.1) 57 u_22.2.2.2.1) (vp_updL (vp_updL gl 53 u_22.2.1) 54 u_22.2.2.1) rf)), ((rf 24), .inl ((ck 24), 14, .inl f_sky)), ((rf 29), .inl ((ck 29), 24, .inl f_landHas)), ((rf 31), .inl ((ck 31), 8, .inl f_first)), ((rf 32), .inl ((ck 32), 8, .inl f_last)), ((rf 37), .inl ((ck 37), 8, .inr (.inl f_deedOn))), ((rf 38), .inl ((ck 38), 24, .inl f_deedHas)), ((rf 41), .inl ((ck 41), 128, .inl f_knot)), ((rf 42), .inl ((ck 42), 128, .inl f_part)), ((rf 43), .inl ((ck 43), 128, .inl f_other)), ((rf 55), .inl ((ck 55), 6, .inr (.inl u_22.2.2.2.2.1))), ((rf 56), .inl ((ck 56), 64, .inr (.inl u_22.2.2.2.2.2)))] H1 := hP1
  have hD1 : va_D (va_A [(mq, .inr (12, mF g gl rf)), ((rf 24), .inl ((ck 24), 14, .inl f_sky)), ((rf 29), .inl ((ck 29), 24, .inl f_landHas)), ((rf 31), .inl ((ck 31), 8, .inl f_first)), ((rf 32), .inl ((ck 32), 8, .inl f_last)), ((rf 37), .inl ((ck 37), 8, .inr (.inl f_deedOn))), ((rf 38), .inl ((ck 38), 24, .inl f_deedHas)), ((rf 41), .inl ((ck 41), 128, .inl f_knot)), ((rf 42), .inl ((ck 42), 128, .inl f_part)), ((rf 43), .inl ((ck 43), 128, .inl f_other)), ((rf 55), .inl ((ck 55), 6, .inr (.inl f_names))), ((rf 56), .inl ((ck 56), 64, .inr (.inl f_value)))] H.size) [(mq, .inr (12, mF (upd (upd g 2 u_22.1) 57 u_22.2.2.2.1) (vp_updL (vp_updL gl 53 u_22.2.1) 54 u_22.2.2.1) rf)), ((rf 24), .inl ((ck 24), 14, .inl f_sky)), ((rf 29), .inl ((ck 29), 24, .inl f_landHas)), ((rf 31), .inl ((ck 31), 8, .inl f_first)), ((rf 32), .inl ((ck 32), 8, .inl f_last)), ((rf 37), .inl ((ck 37), 8, .inr (.inl f_deedOn))), ((rf 38), .inl ((ck 38), 24, .inl f_deedHas)), ((rf 41), .inl ((ck 41), 128, .inl f_knot)), ((rf 42), .inl ((ck 42), 128, .inl f_part)), ((rf 43), .inl ((ck 43), 128, .inl f_other)), ((rf 55), .inl ((ck 55), 6, .inr (.inl u_22.2.2.2.2.1))), ((rf 56), .inl ((ck 56), 64, .inr (.inl u_22.2.2.2.2.2)))] := hD1
  have hK1 : va_K (dC, dI) vwCl [] s := hK1
  obtain ⟨hP, hD⟩ := va_join (wr := [(x, .inr (11, [.ref pa, .ref bk, .ref xsp, .ref xdy, .ref le, .ref xst, .int xsc, .ref xim, .ref xil, .int xik, .ref xmo, .ref xom, .ref wi])), (xmo, .inr (4, [u_5.1, .long u_5.2.1, .long u_5.2.2.1, .long u_5.2.2.2.1, .long u_5.2.2.2.2.1])), (wi, .inr (10, [.int u_5.2.2.2.2.2.1, .int u_5.2.2.2.2.2.2.1, .int u_5.2.2.2.2.2.2.2.1, .int u_5.2.2.2.2.2.2.2.2.1, .int u_5.2.2.2.2.2.2.2.2.2.1])), (bk, .inr (0, [.ref bto, .ref bnm, .ref bla, .ref bsk, .ref bru, .ref bbo, .ref bdi, .ref bda, .ref bdk, .ref bdt, .ref bdp, .ref bno])), (bto, .inl (cTo, 5, .inl fTo)), (bla, .inl (cLa, 4, .inr (.inr (.inr (.inr (fun k => some (La k))))))), ((La 0), .inr (1, [.int (FI 0), .int (GR 0), .int (FR 0)])), ((La 1), .inr (1, [.int (FI 1), .int (GR 1), .int (FR 1)])), ((La 2), .inr (1, [.int (FI 2), .int (GR 2), .int (FR 2)])), ((La 3), .inr (1, [.int (FI 3), .int (GR 3), .int (FR 3)])), (bsk, .inr (9, [.int wd, .int wf, .int mp, .int mb, .int mo, .int sp, .int sb])), (bru, .inr (8, [.ref rco, .int rsz, .ref ren, .ref rst, .int rkn])), (rco, .inl (cRc, 64, .inl fRc)), (ren, .inl (cRe, 4, .inl fRe)), (rst, .inl (cRs, 64, .inr (.inl u_5.2.2.2.2.2.2.2.2.2.2))), (bda, .inl (cDa, 4, .inr (.inl fDa))), (bdk, .inl (cDk, 4, .inl fDk)), (bdt, .inl (cDt, 4, .inl fDt)), (bdp, .inl (cDp, 4, .inl fDp))]) (w1 := [(mq, .inr (12, mF (upd (upd g 2 u_22.1) 57 u_22.2.2.2.1) (vp_updL (vp_updL gl 53 u_22.2.1) 54 u_22.2.2.1) rf)), ((rf 24), .inl ((ck 24), 14, .inl f_sky)), ((rf 29), .inl ((ck 29), 24, .inl f_landHas)), ((rf 31), .inl ((ck 31), 8, .inl f_first)), ((rf 32), .inl ((ck 32), 8, .inl f_last)), ((rf 37), .inl ((ck 37), 8, .inr (.inl f_deedOn))), ((rf 38), .inl ((ck 38), 24, .inl f_deedHas)), ((rf 41), .inl ((ck 41), 128, .inl f_knot)), ((rf 42), .inl ((ck 42), 128, .inl f_part)), ((rf 43), .inl ((ck 43), 128, .inl f_other)), ((rf 55), .inl ((ck 55), 6, .inr (.inl u_22.2.2.2.2.1))), ((rf 56), .inl ((ck 56), 64, .inr (.inl u_22.2.2.2.2.2)))]) hP hD [0, 1, 2, 3, 4, 5, 6, 7, 8, 9, 10, 11] [12, 13, 14, 15, 16, 17, 18, 19, 20, 21, 22, 23, 24, 25, 26, 27, 28, 29, 30] rfl rfl (by decide) (by decide) hk1 hFc hP1 hD1
  have hfr := yF (wc := [(mq, .inr (12, mF g gl rf)), ((rf 24), .inl ((ck 24), 14, .inl f_sky)), ((rf 29), .inl ((ck 29), 24, .inl f_landHas)), ((rf 31), .inl ((ck 31), 8, .inl f_first)), ((rf 32), .inl ((ck 32), 8, .inl f_last)), ((rf 37), .inl ((ck 37), 8, .inr (.inl f_deedOn))), ((rf 38), .inl ((ck 38), 24, .inl f_deedHas)), ((rf 41), .inl ((ck 41), 128, .inl f_knot)), ((rf 42), .inl ((ck 42), 128, .inl f_part)), ((rf 43), .inl ((ck 43), 128, .inl f_other)), ((rf 55), .inl ((ck 55), 6, .inr (.inl f_names))), ((rf 56), .inl ((ck 56), 64, .inr (.inl f_value)))]) hBs [19, 20, 21, 22, 23, 24, 25, 26, 27, 28, 29, 30] rfl hz0 hfr hk1
  have hz0 := Nat.le_trans hz0 hz1
  generalize H1 = H at hP hS hfr hz0 ⊢
  have hP : va_P (dC, dI) vwCl [(x, .inr (11, [.ref pa, .ref bk, .ref xsp, .ref xdy, .ref le, .ref xst, .int xsc, .ref xim, .ref xil, .int xik, .ref xmo, .ref xom, .ref wi])), (xmo, .inr (4, [u_5.1, .long u_5.2.1, .long u_5.2.2.1, .long u_5.2.2.2.1, .long u_5.2.2.2.2.1])), (wi, .inr (10, [.int u_5.2.2.2.2.2.1, .int u_5.2.2.2.2.2.2.1, .int u_5.2.2.2.2.2.2.2.1, .int u_5.2.2.2.2.2.2.2.2.1, .int u_5.2.2.2.2.2.2.2.2.2.1])), (bk, .inr (0, [.ref bto, .ref bnm, .ref bla, .ref bsk, .ref bru, .ref bbo, .ref bdi, .ref bda, .ref bdk, .ref bdt, .ref bdp, .ref bno])), (bto, .inl (cTo, 5, .inl fTo)), (bla, .inl (cLa, 4, .inr (.inr (.inr (.inr (fun k => some (La k))))))), ((La 0), .inr (1, [.int (FI 0), .int (GR 0), .int (FR 0)])), ((La 1), .inr (1, [.int (FI 1), .int (GR 1), .int (FR 1)])), ((La 2), .inr (1, [.int (FI 2), .int (GR 2), .int (FR 2)])), ((La 3), .inr (1, [.int (FI 3), .int (GR 3), .int (FR 3)])), (bsk, .inr (9, [.int wd, .int wf, .int mp, .int mb, .int mo, .int sp, .int sb])), (bru, .inr (8, [.ref rco, .int rsz, .ref ren, .ref rst, .int rkn])), (rco, .inl (cRc, 64, .inl fRc)), (ren, .inl (cRe, 4, .inl fRe)), (rst, .inl (cRs, 64, .inr (.inl u_5.2.2.2.2.2.2.2.2.2.2))), (bda, .inl (cDa, 4, .inr (.inl fDa))), (bdk, .inl (cDk, 4, .inl fDk)), (bdt, .inl (cDt, 4, .inl fDt)), (bdp, .inl (cDp, 4, .inl fDp)), (mq, .inr (12, mF (upd (upd g 2 u_22.1) 57 u_22.2.2.2.1) (vp_updL (vp_updL gl 53 u_22.2.1) 54 u_22.2.2.1) rf)), ((rf 24), .inl ((ck 24), 14, .inl f_sky)), ((rf 29), .inl ((ck 29), 24, .inl f_landHas)), ((rf 31), .inl ((ck 31), 8, .inl f_first)), ((rf 32), .inl ((ck 32), 8, .inl f_last)), ((rf 37), .inl ((ck 37), 8, .inr (.inl f_deedOn))), ((rf 38), .inl ((ck 38), 24, .inl f_deedHas)), ((rf 41), .inl ((ck 41), 128, .inl f_knot)), ((rf 42), .inl ((ck 42), 128, .inl f_part)), ((rf 43), .inl ((ck 43), 128, .inl f_other)), ((rf 55), .inl ((ck 55), 6, .inr (.inl u_22.2.2.2.2.1))), ((rf 56), .inl ((ck 56), 64, .inr (.inl u_22.2.2.2.2.2)))] H := hP
  have hD : va_D A [(x, .inr (11, [.ref pa, .ref bk, .ref xsp, .ref xdy, .ref le, .ref xst, .int xsc, .ref xim, .ref xil, .int xik, .ref xmo, .ref xom, .ref wi])), (xmo, .inr (4, [u_5.1, .long u_5.2.1, .long u_5.2.2.1, .long u_5.2.2.2.1, .long u_5.2.2.2.2.1])), (wi, .inr (10, [.int u_5.2.2.2.2.2.1, .int u_5.2.2.2.2.2.2.1, .int u_5.2.2.2.2.2.2.2.1, .int u_5.2.2.2.2.2.2.2.2.1, .int u_5.2.2.2.2.2.2.2.2.2.1])), (bk, .inr (0, [.ref bto, .ref bnm, .ref bla, .ref bsk, .ref bru, .ref bbo, .ref bdi, .ref bda, .ref bdk, .ref bdt, .ref bdp, .ref bno])), (bto, .inl (cTo, 5, .inl fTo)), (bla, .inl (cLa, 4, .inr (.inr (.inr (.inr (fun k => some (La k))))))), ((La 0), .inr (1, [.int (FI 0), .int (GR 0), .int (FR 0)])), ((La 1), .inr (1, [.int (FI 1), .int (GR 1), .int (FR 1)])), ((La 2), .inr (1, [.int (FI 2), .int (GR 2), .int (FR 2)])), ((La 3), .inr (1, [.int (FI 3), .int (GR 3), .int (FR 3)])), (bsk, .inr (9, [.int wd, .int wf, .int mp, .int mb, .int mo, .int sp, .int sb])), (bru, .inr (8, [.ref rco, .int rsz, .ref ren, .ref rst, .int rkn])), (rco, .inl (cRc, 64, .inl fRc)), (ren, .inl (cRe, 4, .inl fRe)), (rst, .inl (cRs, 64, .inr (.inl u_5.2.2.2.2.2.2.2.2.2.2))), (bda, .inl (cDa, 4, .inr (.inl fDa))), (bdk, .inl (cDk, 4, .inl fDk)), (bdt, .inl (cDt, 4, .inl fDt)), (bdp, .inl (cDp, 4, .inl fDp)), (mq, .inr (12, mF (upd (upd g 2 u_22.1) 57 u_22.2.2.2.1) (vp_updL (vp_updL gl 53 u_22.2.1) 54 u_22.2.2.1) rf)), ((rf 24), .inl ((ck 24), 14, .inl f_sky)), ((rf 29), .inl ((ck 29), 24, .inl f_landHas)), ((rf 31), .inl ((ck 31), 8, .inl f_first)), ((rf 32), .inl ((ck 32), 8, .inl f_last)), ((rf 37), .inl ((ck 37), 8, .inr (.inl f_deedOn))), ((rf 38), .inl ((ck 38), 24, .inl f_deedHas)), ((rf 41), .inl ((ck 41), 128, .inl f_knot)), ((rf 42), .inl ((ck 42), 128, .inl f_part)), ((rf 43), .inl ((ck 43), 128, .inl f_other)), ((rf 55), .inl ((ck 55), 6, .inr (.inl u_22.2.2.2.2.1))), ((rf 56), .inl ((ck 56), 64, .inr (.inl u_22.2.2.2.2.2)))] := hD
  refine W.widen (k := ce + 0) (n := sl + 0) (by omega) (by omega) ?_
  obtain ⟨X_29, hX_29⟩ : ∃ X9 : Int64 × (Int32) × (Int64) × (Int64) × (Int32) × (Nat → Int64) × (Nat → Int64), X9 = (fq_deed f_sky f_landHas f_first f_last f_deedOn f_deedHas f_knot f_part f_other f_names f_value y1 y2 y3 (g 12) (g 15) (gl 53) (gl 54) (g 57)) := ⟨_, rfl⟩
  have hq_r_21 : r_21 = X_29.1 := by rw [hX_29]; exact hw.1
  have hq_u_22 : u_22 = X_29.2 := by rw [hX_29]; exact hw.2
  refine lv_pop2_2 hx hb dL_law_1460 rfl ?_
  refine lv_goto (tgt := 2012) hx hb dL_law_1461 (by decide) ?_
  refine W.widen (k := ce + 1) (n := sl + 6) (by omega) (by omega) ?_
  exact kk1 X_17 hX_17 r_4 hq_r_4 u_5 hq_u_5 X_29 hX_29 r_21 hq_r_21 u_22 hq_u_22 H locs ls (hP.sub (ws' := [(x, .inr (11, [.ref pa, .ref bk, .ref xsp, .ref xdy, .ref le, .ref xst, .int xsc, .ref xim, .ref xil, .int xik, .ref xmo, .ref xom, .ref wi])), (xmo, .inr (4, [u_5.1, .long u_5.2.1, .long u_5.2.2.1, .long u_5.2.2.2.1, .long u_5.2.2.2.2.1])), (wi, .inr (10, [.int u_5.2.2.2.2.2.1, .int u_5.2.2.2.2.2.2.1, .int u_5.2.2.2.2.2.2.2.1, .int u_5.2.2.2.2.2.2.2.2.1, .int u_5.2.2.2.2.2.2.2.2.2.1])), (bk, .inr (0, [.ref bto, .ref bnm, .ref bla, .ref bsk, .ref bru, .ref bbo, .ref bdi, .ref bda, .ref bdk, .ref bdt, .ref bdp, .ref bno])), (bto, .inl (cTo, 5, .inl fTo)), (bla, .inl (cLa, 4, .inr (.inr (.inr (.inr (fun k => some (La k))))))), ((La 0), .inr (1, [.int (FI 0), .int (GR 0), .int (FR 0)])), ((La 1), .inr (1, [.int (FI 1), .int (GR 1), .int (FR 1)])), ((La 2), .inr (1, [.int (FI 2), .int (GR 2), .int (FR 2)])), ((La 3), .inr (1, [.int (FI 3), .int (GR 3), .int (FR 3)])), (bsk, .inr (9, [.int wd, .int wf, .int mp, .int mb, .int mo, .int sp, .int sb])), (bru, .inr (8, [.ref rco, .int rsz, .ref ren, .ref rst, .int rkn])), (rco, .inl (cRc, 64, .inl fRc)), (ren, .inl (cRe, 4, .inl fRe)), (rst, .inl (cRs, 64, .inr (.inl u_5.2.2.2.2.2.2.2.2.2.2))), (bda, .inl (cDa, 4, .inr (.inl fDa))), (bdk, .inl (cDk, 4, .inl fDk)), (bdt, .inl (cDt, 4, .inl fDt)), (bdp, .inl (cDp, 4, .inl fDp)), (mq, .inr (12, mF (upd (upd g 2 u_22.1) 57 u_22.2.2.2.1) (vp_updL (vp_updL gl 53 u_22.2.1) 54 u_22.2.2.1) rf)), ((rf 24), .inl ((ck 24), 14, .inl f_sky)), ((rf 29), .inl ((ck 29), 24, .inl f_landHas)), ((rf 31), .inl ((ck 31), 8, .inl f_first)), ((rf 32), .inl ((ck 32), 8, .inl f_last)), ((rf 37), .inl ((ck 37), 8, .inr (.inl f_deedOn))), ((rf 38), .inl ((ck 38), 24, .inl f_deedHas)), ((rf 41), .inl ((ck 41), 128, .inl f_knot)), ((rf 42), .inl ((ck 42), 128, .inl f_part)), ((rf 43), .inl ((ck 43), 128, .inl f_other)), ((rf 55), .inl ((ck 55), 6, .inr (.inl u_22.2.2.2.2.1))), ((rf 56), .inl ((ck 56), 64, .inr (.inl u_22.2.2.2.2.2)))]) [0, 1, 2, 3, 4, 5, 6, 7, 8, 9, 10, 11, 12, 13, 14, 15, 16, 17, 18, 19, 20, 21, 22, 23, 24, 25, 26, 27, 28, 29, 30] rfl) hS (lv_sub hl [0, 1, 2, 3, 4] rfl) hz0 hfr

theorem dL_law_1464 : decode cL_law 1464 = .ok (.aload_n 1, 1) := by decide +kernel
theorem dL_law_1465 : decode cL_law 1465 = .ok (.aload_n 0, 1) := by decide +kernel
theorem dL_law_1466 : decode cL_law 1466 = .ok (.iload 4, 2) := by decide +kernel
theorem dL_law_1468 : decode cL_law 1468 = .ok (.iconst 1, 1) := by decide +kernel
theorem dL_law_1469 : decode cL_law 1469 = .ok (.iadd, 1) := by decide +kernel
theorem dL_law_1470 : decode cL_law 1470 = .ok (.iaload, 1) := by decide +kernel
theorem dL_law_1471 : decode cL_law 1471 = .ok (.aload_n 0, 1) := by decide +kernel
theorem dL_law_1472 : decode cL_law 1472 = .ok (.iload 4, 2) := by decide +kernel
theorem dL_law_1474 : decode cL_law 1474 = .ok (.iconst 2, 1) := by decide +kernel
theorem dL_law_1475 : decode cL_law 1475 = .ok (.iadd, 1) := by decide +kernel
theorem dL_law_1476 : decode cL_law 1476 = .ok (.iaload, 1) := by decide +kernel
theorem dL_law_1477 : decode cL_law 1477 = .ok (.i2l, 1) := by decide +kernel
theorem dL_law_1478 : decode cL_law 1478 = .ok (.bipush 32, 2) := by decide +kernel
theorem dL_law_1480 : decode cL_law 1480 = .ok (.lshl, 1) := by decide +kernel
theorem dL_law_1481 : decode cL_law 1481 = .ok (.aload_n 0, 1) := by decide +kernel
theorem dL_law_1482 : decode cL_law 1482 = .ok (.iload 4, 2) := by decide +kernel
theorem dL_law_1484 : decode cL_law 1484 = .ok (.iconst 3, 1) := by decide +kernel
theorem dL_law_1485 : decode cL_law 1485 = .ok (.iadd, 1) := by decide +kernel
theorem dL_law_1486 : decode cL_law 1486 = .ok (.iaload, 1) := by decide +kernel
theorem dL_law_1487 : decode cL_law 1487 = .ok (.i2l, 1) := by decide +kernel
theorem dL_law_1488 : decode cL_law 1488 = .ok (.ldc2_w 50, 3) := by decide +kernel
theorem dL_law_1491 : decode cL_law 1491 = .ok (.land, 1) := by decide +kernel
theorem dL_law_1492 : decode cL_law 1492 = .ok (.lor, 1) := by decide +kernel
theorem dL_law_1493 : decode cL_law 1493 = .ok (.aload_n 0, 1) := by decide +kernel
theorem dL_law_1494 : decode cL_law 1494 = .ok (.iload 4, 2) := by decide +kernel
theorem dL_law_1496 : decode cL_law 1496 = .ok (.iconst 4, 1) := by decide +kernel
theorem dL_law_1497 : decode cL_law 1497 = .ok (.iadd, 1) := by decide +kernel
theorem dL_law_1498 : decode cL_law 1498 = .ok (.iaload, 1) := by decide +kernel
theorem dL_law_1499 : decode cL_law 1499 = .ok (.invokevirtual 122, 3) := by decide +kernel
theorem dL_law_1502 : decode cL_law 1502 = .ok (.pop, 1) := by decide +kernel
theorem dL_law_1503 : decode cL_law 1503 = .ok (.aload_n 2, 1) := by decide +kernel
theorem dL_law_1504 : decode cL_law 1504 = .ok (.aload_n 0, 1) := by decide +kernel
theorem dL_law_1505 : decode cL_law 1505 = .ok (.iload 4, 2) := by decide +kernel
theorem dL_law_1507 : decode cL_law 1507 = .ok (.iconst 1, 1) := by decide +kernel
theorem dL_law_1508 : decode cL_law 1508 = .ok (.iadd, 1) := by decide +kernel
theorem dL_law_1509 : decode cL_law 1509 = .ok (.iaload, 1) := by decide +kernel
theorem dL_law_1510 : decode cL_law 1510 = .ok (.aload_n 0, 1) := by decide +kernel
theorem dL_law_1511 : decode cL_law 1511 = .ok (.iload 4, 2) := by decide +kernel
theorem dL_law_1513 : decode cL_law 1513 = .ok (.iconst 2, 1) := by decide +kernel
theorem dL_law_1514 : decode cL_law 1514 = .ok (.iadd, 1) := by decide +kernel
theorem dL_law_1515 : decode cL_law 1515 = .ok (.iaload, 1) := by decide +kernel
theorem dL_law_1516 : decode cL_law 1516 = .ok (.i2l, 1) := by decide +kernel
theorem dL_law_1517 : decode cL_law 1517 = .ok (.bipush 32, 2) := by decide +kernel
theorem dL_law_1519 : decode cL_law 1519 = .ok (.lshl, 1) := by decide +kernel
theorem dL_law_1520 : decode cL_law 1520 = .ok (.aload_n 0, 1) := by decide +kernel
theorem dL_law_1521 : decode cL_law 1521 = .ok (.iload 4, 2) := by decide +kernel
theorem dL_law_1523 : decode cL_law 1523 = .ok (.iconst 3, 1) := by decide +kernel
theorem dL_law_1524 : decode cL_law 1524 = .ok (.iadd, 1) := by decide +kernel
theorem dL_law_1525 : decode cL_law 1525 = .ok (.iaload, 1) := by decide +kernel
theorem dL_law_1526 : decode cL_law 1526 = .ok (.i2l, 1) := by decide +kernel
theorem dL_law_1527 : decode cL_law 1527 = .ok (.ldc2_w 50, 3) := by decide +kernel
theorem dL_law_1530 : decode cL_law 1530 = .ok (.land, 1) := by decide +kernel
theorem dL_law_1531 : decode cL_law 1531 = .ok (.lor, 1) := by decide +kernel
theorem dL_law_1532 : decode cL_law 1532 = .ok (.aload_n 0, 1) := by decide +kernel
theorem dL_law_1533 : decode cL_law 1533 = .ok (.iload 4, 2) := by decide +kernel
theorem dL_law_1535 : decode cL_law 1535 = .ok (.iconst 4, 1) := by decide +kernel
theorem dL_law_1536 : decode cL_law 1536 = .ok (.iadd, 1) := by decide +kernel
theorem dL_law_1537 : decode cL_law 1537 = .ok (.iaload, 1) := by decide +kernel
theorem dL_law_1538 : decode cL_law 1538 = .ok (.invokevirtual 126, 3) := by decide +kernel
theorem dL_law_1541 : decode cL_law 1541 = .ok (.pop, 1) := by decide +kernel
theorem dL_law_1542 : decode cL_law 1542 = .ok (.goto 470, 3) := by decide +kernel
set_option maxHeartbeats 4000000 in
set_option maxRecDepth 100000 in
theorem law_ends (l : Launch) (hst : l.stackTraces = false) {p : Program} {e : Env} {s : State} {m : MethodId} {below : List Frame} {meth : Method} {c : Code} {bs L : Nat} {xs : Nat → Int32} (C0 : lw_At p s m meth c bs L xs) (dC : Nat → ClassId) (dI : Nat → Nat → Nat) (A : Nat → Prop) (hAe : ∀ q, A q ↔ s.heap.size ≤ q) (x : Nat) (pa : Nat) (bk : Nat) (xsp : Nat) (xdy : Nat) (le : Nat) (xst : Nat) (xsc : Int32) (xim : Nat) (xil : Nat) (xik : Int32) (xmo : Nat) (xom : Nat) (wi : Nat) (bto : Nat) (bnm : Nat) (bla : Nat) (bsk : Nat) (bru : Nat) (bbo : Nat) (bdi : Nat) (bda : Nat) (bdk : Nat) (bdt : Nat) (bdp : Nat) (bno : Nat) (cTo : ClassId) (fTo : Nat → Int32) (cLa : ClassId) (La : Nat → Nat) (FI : Nat → Int32) (GR : Nat → Int32) (FR : Nat → Int32) (mq : Nat) (g : Nat → Int32) (gl : Nat → Int64) (rf : Nat → Nat) (ck : Nat → ClassId) (f_landHas : Nat → Int32) (o3 : Nat) (hln0 : ¬ (g 12) < 0) (hln4 : (g 12) ≤ 4) (hLZ1 : ∀ k : Int32, ¬ k < 0 → k < (g 12) → ¬ (f_landHas ((3 * k).toNatClampNeg)) < 1) (sL : Nat → Nat) (hNx : xN s) (i y1 y2 y3 y4 : Int32) (hi1 : vp_in (i + 1) L) (hy1 : xs (i + 1).toNatClampNeg = y1) (hi2 : vp_in (i + 2) L) (hy2 : xs (i + 2).toNatClampNeg = y2) (hi3 : vp_in (i + 3) L) (hy3 : xs (i + 3).toNatClampNeg = y3) (hi4 : vp_in (i + 4) L) (hy4 : xs (i + 4).toNatClampNeg = y4)  (Bp : Nat → Prop) (H0 : Heap) (locs : List Loc) (ls : Array Slot) (ce sl : Nat) (hce : ce + 1 ≤ 601024) (hsl : sl + 6 ≤ 7293034) (hK : va_K (dC, dI) vwCl [(cTo, .int), (cLa, .object RX1), ((ck 29), .int)] s) (hP : va_P (dC, dI) vwCl [(x, .inr (11, [.ref pa, .ref bk, .ref xsp, .ref xdy, .ref le, .ref xst, .int xsc, .ref xim, .ref xil, .int xik, .ref xmo, .ref xom, .ref wi])), (bk, .inr (0, [.ref bto, .ref bnm, .ref bla, .ref bsk, .ref bru, .ref bbo, .ref bdi, .ref bda, .ref bdk, .ref bdt, .ref bdp, .ref bno])), (bto, .inl (cTo, 5, .inl fTo)), (bla, .inl (cLa, 4, .inr (.inr (.inr (.inr (fun k => some (La k))))))), ((La 0), .inr (1, [.int (FI 0), .int (GR 0), .int (FR 0)])), ((La 1), .inr (1, [.int (FI 1), .int (GR 1), .int (FR 1)])), ((La 2), .inr (1, [.int (FI 2), .int (GR 2), .int (FR 2)])), ((La 3), .inr (1, [.int (FI 3), .int (GR 3), .int (FR 3)])), (mq, .inr (12, mF g gl rf)), ((rf 29), .inl ((ck 29), 24, .inl f_landHas))] H0) (hD : va_D A [(x, .inr (11, [.ref pa, .ref bk, .ref xsp, .ref xdy, .ref le, .ref xst, .int xsc, .ref xim, .ref xil, .int xik, .ref xmo, .ref xom, .ref wi])), (bk, .inr (0, [.ref bto, .ref bnm, .ref bla, .ref bsk, .ref bru, .ref bbo, .ref bdi, .ref bda, .ref bdk, .ref bdt, .ref bdp, .ref bno])), (bto, .inl (cTo, 5, .inl fTo)), (bla, .inl (cLa, 4, .inr (.inr (.inr (.inr (fun k => some (La k))))))), ((La 0), .inr (1, [.int (FI 0), .int (GR 0), .int (FR 0)])), ((La 1), .inr (1, [.int (FI 1), .int (GR 1), .int (FR 1)])), ((La 2), .inr (1, [.int (FI 2), .int (GR 2), .int (FR 2)])), ((La 3), .inr (1, [.int (FI 3), .int (GR 3), .int (FR 3)])), (mq, .inr (12, mF g gl rf)), ((rf 29), .inl ((ck 29), 24, .inl f_landHas))]) (hBs : yB Bp [(x, .inr (11, [.ref pa, .ref bk, .ref xsp, .ref xdy, .ref le, .ref xst, .int xsc, .ref xim, .ref xil, .int xik, .ref xmo, .ref xom, .ref wi])), (bk, .inr (0, [.ref bto, .ref bnm, .ref bla, .ref bsk, .ref bru, .ref bbo, .ref bdi, .ref bda, .ref bdk, .ref bdt, .ref bdp, .ref bno])), (bto, .inl (cTo, 5, .inl fTo)), (bla, .inl (cLa, 4, .inr (.inr (.inr (.inr (fun k => some (La k))))))), ((La 0), .inr (1, [.int (FI 0), .int (GR 0), .int (FR 0)])), ((La 1), .inr (1, [.int (FI 1), .int (GR 1), .int (FR 1)])), ((La 2), .inr (1, [.int (FI 2), .int (GR 2), .int (FR 2)])), ((La 3), .inr (1, [.int (FI 3), .int (GR 3), .int (FR 3)])), (mq, .inr (12, mF g gl rf)), ((rf 29), .inl ((ck 29), 24, .inl f_landHas))]) (hS : va_S A s.heap H0 locs) (hl : lv_has ls 7 [(4, .int i), (3, .ref o3), (2, .ref mq), (1, .ref x), (0, .ref bs)]) (kk1 : ∀ (r_5 : Int32), r_5 = (fx_ends fTo FI GR FR y1 ((y2.toInt64 <<< ((32 : Int32).toInt64 &&& 63)) ||| (y3.toInt64 &&& 4294967295)) y4) → ∀ (X_15 : Int32 × (Int32) × (Int64) × (Int64)), X_15 = (fq_ends f_landHas y1 ((y2.toInt64 <<< ((32 : Int32).toInt64 &&& 63)) ||| (y3.toInt64 &&& 4294967295)) y4 (g 12) (gl 53) (gl 54)) → ∀ (r_10 : Int32), r_10 = X_15.1 → ∀ (u_11 : (Int32) × (Int64) × (Int64)), u_11 = X_15.2 → ∀ (H : Heap) (locs : List Loc) (ls : Array Slot), va_P (dC, dI) vwCl [(x, .inr (11, [.ref pa, .ref bk, .ref xsp, .ref xdy, .ref le, .ref xst, .int xsc, .ref xim, .ref xil, .int xik, .ref xmo, .ref xom, .ref wi])), (bk, .inr (0, [.ref bto, .ref bnm, .ref bla, .ref bsk, .ref bru, .ref bbo, .ref bdi, .ref bda, .ref bdk, .ref bdt, .ref bdp, .ref bno])), (bto, .inl (cTo, 5, .inl fTo)), (bla, .inl (cLa, 4, .inr (.inr (.inr (.inr (fun k => some (La k))))))), ((La 0), .inr (1, [.int (FI 0), .int (GR 0), .int (FR 0)])), ((La 1), .inr (1, [.int (FI 1), .int (GR 1), .int (FR 1)])), ((La 2), .inr (1, [.int (FI 2), .int (GR 2), .int (FR 2)])), ((La 3), .inr (1, [.int (FI 3), .int (GR 3), .int (FR 3)])), (mq, .inr (12, mF (upd g 2 u_11.1) (vp_updL (vp_updL gl 53 u_11.2.1) 54 u_11.2.2) rf)), ((rf 29), .inl ((ck 29), 24, .inl f_landHas))] H → va_S A s.heap H locs → lv_has ls 7 [(4, .int i), (3, .ref o3), (2, .ref mq), (1, .ref x), (0, .ref bs)] → H0.size ≤ H.size → (∀ q : Nat, q < H0.size → ¬ Bp q → H[q]? = H0[q]?) → W p l e room_1 s m #[Value.ref bs] below meth c H locs (ce + 1) (sl + 6) (lw_Z below #[Value.ref bs] s) (F0 m 2012 ls [])) : W p l e room_1 s m #[Value.ref bs] below meth c H0 locs ce sl (lw_Z below #[Value.ref bs] s) (F0 m 1464 ls []) := by
  obtain ⟨hx, hb, hr, hml, hown, hts, hX, hbl, hlocks, hgv⟩ := id C0
  have htw : ∀ w ∈ wsL_law, w.before _ s = true := fun w h => hts w (wsL_law_in w h)
  have hown : s.vm.findClass RL = some m.cls := hown
  have hA : ∀ q : Nat, s.heap.size ≤ q → A q := fun q h => (hAe q).mpr h
  have hbA : ¬ A bs := fun h => absurd ((hAe bs).mp h) (Nat.not_le.mpr hbl)
  obtain ⟨H, rH⟩ : ∃ z : Heap, z = H0 := ⟨_, rfl⟩
  have hfr : ∀ q : Nat, q < H0.size → ¬ Bp q → H[q]? = H0[q]? := fun q _ _ => by rw [rH]
  have hz0 : H0.size ≤ H.size := by rw [rH]; exact Nat.le_refl _
  rw [← rH] at hP hS ⊢
  refine lv_aload_n hx hb dL_law_1464 rfl (lv_at hl 3 rfl) ?_
  refine lv_aload_n hx hb dL_law_1465 rfl (lv_at hl 4 rfl) ?_
  refine lv_iload hx hb dL_law_1466 (lv_at hl 0 rfl) ?_
  refine lv_iconst (v := 1) hx hb dL_law_1468 (by decide) ?_
  refine lv_iadd hx hb dL_law_1469 ?_
  refine va_sld hx hb hX hbl hbA hS hi1 dL_law_1470 ?_
  rw [hy1]
  refine lv_aload_n hx hb dL_law_1471 rfl (lv_at hl 4 rfl) ?_
  refine lv_iload hx hb dL_law_1472 (lv_at hl 0 rfl) ?_
  refine lv_iconst (v := 2) hx hb dL_law_1474 (by decide) ?_
  refine lv_iadd hx hb dL_law_1475 ?_
  refine va_sld hx hb hX hbl hbA hS hi2 dL_law_1476 ?_
  rw [hy2]
  refine lv_i2l (v := y2.toInt64) hx hb dL_law_1477 rfl ?_
  refine lv_bipush (v := 32) hx hb dL_law_1478 (by decide) ?_
  refine lv_lshl (v := (y2.toInt64 <<< ((32 : Int32).toInt64 &&& 63))) hx hb dL_law_1480 rfl ?_
  refine lv_aload_n hx hb dL_law_1481 rfl (lv_at hl 4 rfl) ?_
  refine lv_iload hx hb dL_law_1482 (lv_at hl 0 rfl) ?_
  refine lv_iconst (v := 3) hx hb dL_law_1484 (by decide) ?_
  refine lv_iadd hx hb dL_law_1485 ?_
  refine va_sld hx hb hX hbl hbA hS hi3 dL_law_1486 ?_
  rw [hy3]
  refine lv_i2l (v := y3.toInt64) hx hb dL_law_1487 rfl ?_
  refine lv_ldc2 (v := 4294967295) hx hb hown (htw _ (ck_1 _ (List.mem_of_getElem? (i := 7) rfl))) dL_law_1488 ?_
  refine lv_land hx hb dL_law_1491 ?_
  refine lv_lor hx hb dL_law_1492 ?_
  refine lv_aload_n hx hb dL_law_1493 rfl (lv_at hl 4 rfl) ?_
  refine lv_iload hx hb dL_law_1494 (lv_at hl 0 rfl) ?_
  refine lv_iconst (v := 4) hx hb dL_law_1496 (by decide) ?_
  refine lv_iadd hx hb dL_law_1497 ?_
  refine va_sld hx hb hX hbl hbA hS hi4 dL_law_1498 ?_
  rw [hy4]
  have hPc := hP.sub (ws' := [(x, .inr (11, [.ref pa, .ref bk, .ref xsp, .ref xdy, .ref le, .ref xst, .int xsc, .ref xim, .ref xil, .int xik, .ref xmo, .ref xom, .ref wi])), (bk, .inr (0, [.ref bto, .ref bnm, .ref bla, .ref bsk, .ref bru, .ref bbo, .ref bdi, .ref bda, .ref bdk, .ref bdt, .ref bdp, .ref bno])), (bto, .inl (cTo, 5, .inl fTo)), (bla, .inl (cLa, 4, .inr (.inr (.inr (.inr (fun k => some (La k))))))), ((La 0), .inr (1, [.int (FI 0), .int (GR 0), .int (FR 0)])), ((La 1), .inr (1, [.int (FI 1), .int (GR 1), .int (FR 1)])), ((La 2), .inr (1, [.int (FI 2), .int (GR 2), .int (FR 2)])), ((La 3), .inr (1, [.int (FI 3), .int (GR 3), .int (FR 3)]))]) [0, 1, 2, 3, 4, 5, 6, 7] rfl
  have hKc := hK.sub (tys' := [(cTo, .int), (cLa, .object RX1)]) [0, 1] rfl
  refine vp_callSi (W.runV (As := [.int y1, .long ((y2.toInt64 <<< ((32 : Int32).toInt64 &&& 63)) ||| (y3.toInt64 &&& 4294967295)), .int y4]) (rest := []) ⟨hx, hb, hml, hown, htw⟩ (gx_ends l dC dI x pa bk xsp xdy le xst xsc xim xil xik xmo xom wi bto bnm bla bsk bru bbo bdi bda bdk bdt bdp bno cTo fTo cLa La FI GR FR y1 ((y2.toInt64 <<< ((32 : Int32).toInt64 &&& 63)) ||| (y3.toInt64 &&& 4294967295)) y4) (cwV 3 htw (xg_V (ck_50 _ (List.mem_of_getElem? (i := 16) rfl)) (ck_50 _ (List.mem_of_getElem? (i := 17) rfl)) (ck_50 _ (List.mem_of_getElem? (i := 18) rfl)) (ck_1 _ (List.mem_of_getElem? (i := 2) rfl)) (ck_50 _ (List.mem_of_getElem? (i := 19) rfl))) rfl rfl rfl (by decide +kernel) ⟨Nat.le_of_ble_eq_true rfl, Nat.le_of_ble_eq_true rfl⟩) ⟨fun a U g mk q => by obtain ⟨q0, qP, qK, qx⟩ := q; exact ⟨q0, qP, va_K.moved (u := U) (U := U.calling g mk a) (Vm.Alike.refl U.vm) qK, xN.calling qx⟩, va_recv hKc hPc (ci := 11) (q0 := 0) rfl rfl, fun U hU hW => ⟨rfl, by rw [hU]; exact hPc, va_K.moved hW.alike hKc, xN.warm hW hNx⟩⟩ rfl rfl hl.1 rfl (lv_room (Nat.le_of_ble_eq_true rfl)) dL_law_1499 ⟨by first | exact Nat.le_of_ble_eq_true rfl | exact yR (n := 0) (by omega) rfl, by first | exact Nat.le_of_ble_eq_true rfl | exact yR2 (n := 0) (by omega) rfl⟩) (fun r_5 hw => ?_)
  try dsimp only at hw
  have hq_r_5 : r_5 = (fx_ends fTo FI GR FR y1 ((y2.toInt64 <<< ((32 : Int32).toInt64 &&& 63)) ||| (y3.toInt64 &&& 4294967295)) y4) := hw
  refine lv_pop hx hb dL_law_1502 rfl ?_
  refine lv_aload_n hx hb dL_law_1503 rfl (lv_at hl 2 rfl) ?_
  refine lv_aload_n hx hb dL_law_1504 rfl (lv_at hl 4 rfl) ?_
  refine lv_iload hx hb dL_law_1505 (lv_at hl 0 rfl) ?_
  refine lv_iconst (v := 1) hx hb dL_law_1507 (by decide) ?_
  refine lv_iadd hx hb dL_law_1508 ?_
  refine va_sld hx hb hX hbl hbA hS hi1 dL_law_1509 ?_
  rw [hy1]
  refine lv_aload_n hx hb dL_law_1510 rfl (lv_at hl 4 rfl) ?_
  refine lv_iload hx hb dL_law_1511 (lv_at hl 0 rfl) ?_
  refine lv_iconst (v := 2) hx hb dL_law_1513 (by decide) ?_
  refine lv_iadd hx hb dL_law_1514 ?_
  refine va_sld hx hb hX hbl hbA hS hi2 dL_law_1515 ?_
  rw [hy2]
  refine lv_i2l (v := y2.toInt64) hx hb dL_law_1516 rfl ?_
  refine lv_bipush (v := 32) hx hb dL_law_1517 (by decide) ?_
  refine lv_lshl (v := (y2.toInt64 <<< ((32 : Int32).toInt64 &&& 63))) hx hb dL_law_1519 rfl ?_
  refine lv_aload_n hx hb dL_law_1520 rfl (lv_at hl 4 rfl) ?_
  refine lv_iload hx hb dL_law_1521 (lv_at hl 0 rfl) ?_
  refine lv_iconst (v := 3) hx hb dL_law_1523 (by decide) ?_
  refine lv_iadd hx hb dL_law_1524 ?_
  refine va_sld hx hb hX hbl hbA hS hi3 dL_law_1525 ?_
  rw [hy3]
  refine lv_i2l (v := y3.toInt64) hx hb dL_law_1526 rfl ?_
  refine lv_ldc2 (v := 4294967295) hx hb hown (htw _ (ck_1 _ (List.mem_of_getElem? (i := 7) rfl))) dL_law_1527 ?_
  refine lv_land hx hb dL_law_1530 ?_
  refine lv_lor hx hb dL_law_1531 ?_
  refine lv_aload_n hx hb dL_law_1532 rfl (lv_at hl 4 rfl) ?_
  refine lv_iload hx hb dL_law_1533 (lv_at hl 0 rfl) ?_
  refine lv_iconst (v := 4) hx hb dL_law_1535 (by decide) ?_
  refine lv_iadd hx hb dL_law_1536 ?_
  refine va_sld hx hb hX hbl hbA hS hi4 dL_law_1537 ?_
  rw [hy4]
  have hPc := hP.sub (ws' := [(mq, .inr (12, mF g gl rf)), ((rf 29), .inl ((ck 29), 24, .inl f_landHas))]) [8, 9] rfl
  have hKc := hK.sub (tys' := [((ck 29), .int)]) [2] rfl
  have hDc := hD.sub (ws' := [(mq, .inr (12, mF g gl rf)), ((rf 29), .inl ((ck 29), 24, .inl f_landHas))]) [8, 9] (by decide) rfl
  have hFc := va_free (wc := [(mq, .inr (12, mF g gl rf)), ((rf 29), .inl ((ck 29), 24, .inl f_landHas))]) hD hS hA [8, 9] rfl
  refine va_calli (va_runV (As := [.int y1, .long ((y2.toInt64 <<< ((32 : Int32).toInt64 &&& 63)) ||| (y3.toInt64 &&& 4294967295)), .int y4]) (rest := []) ⟨hx, hb, hml, hown, htw⟩ (gq_ends l dC dI mq g gl rf ck f_landHas y1 ((y2.toInt64 <<< ((32 : Int32).toInt64 &&& 63)) ||| (y3.toInt64 &&& 4294967295)) y4 H.size hln0 hln4 hLZ1) (cwV 3 htw (xg_V (ck_50 _ (List.mem_of_getElem? (i := 20) rfl)) (ck_50 _ (List.mem_of_getElem? (i := 21) rfl)) (ck_50 _ (List.mem_of_getElem? (i := 22) rfl)) (ck_1 _ (List.mem_of_getElem? (i := 5) rfl)) (ck_50 _ (List.mem_of_getElem? (i := 23) rfl))) rfl rfl rfl (by decide +kernel) ⟨Nat.le_of_ble_eq_true rfl, Nat.le_of_ble_eq_true rfl⟩) ⟨fun a U g mk q => by obtain ⟨q0, q1, qP, qK, qD⟩ := q; exact ⟨q0, q1, qP, va_K.moved (u := U) (U := U.calling g mk a) (Vm.Alike.refl U.vm) qK, qD⟩, va_recv hKc hPc (ci := 12) (q0 := 0) rfl rfl, fun U hU hW => ⟨rfl, by rw [hU], by rw [hU]; exact hPc, va_K.moved hW.alike hKc, hDc.weaken (fun _ _ _ _ => trivial)⟩⟩ rfl rfl hl.1 rfl (lv_room (Nat.le_of_ble_eq_true rfl)) dL_law_1538 ⟨by first | exact Nat.le_of_ble_eq_true rfl | exact yR (n := 0) (by omega) rfl, by first | exact Nat.le_of_ble_eq_true rfl | exact yR2 (n := 0) (by omega) rfl⟩) hS (fun q _ h => hFc q h) hFc (fun r_10 u_11 t H1 locs ht hvm hw hB hz1 hk1 hS => ?_)
  try dsimp only at hw
  obtain ⟨hP1, hK1, hD1⟩ := hB
  rw [ht] at hP1
  have hK1 := va_K.moved hvm.symm hK1
  have hP1 : va_P (dC, dI) vwCl [(mq, .inr (12, mF (upd g 2 u_11.1) (vp_updL (vp_updL gl 53 u_11.2.1) 54 u_11.2.2) rf)), ((rf 29), .inl ((ck 29), 24, .inl f_landHas))] H1 := hP1
  have hD1 : va_D (va_A [(mq, .inr (12, mF g gl rf)), ((rf 29), .inl ((ck 29), 24, .inl f_landHas))] H.size) [(mq, .inr (12, mF (upd g 2 u_11.1) (vp_updL (vp_updL gl 53 u_11.2.1) 54 u_11.2.2) rf)), ((rf 29), .inl ((ck 29), 24, .inl f_landHas))] := hD1
  have hK1 : va_K (dC, dI) vwCl [] s := hK1
  obtain ⟨hP, hD⟩ := va_join (wr := [(x, .inr (11, [.ref pa, .ref bk, .ref xsp, .ref xdy, .ref le, .ref xst, .int xsc, .ref xim, .ref xil, .int xik, .ref xmo, .ref xom, .ref wi])), (bk, .inr (0, [.ref bto, .ref bnm, .ref bla, .ref bsk, .ref bru, .ref bbo, .ref bdi, .ref bda, .ref bdk, .ref bdt, .ref bdp, .ref bno])), (bto, .inl (cTo, 5, .inl fTo)), (bla, .inl (cLa, 4, .inr (.inr (.inr (.inr (fun k => some (La k))))))), ((La 0), .inr (1, [.int (FI 0), .int (GR 0), .int (FR 0)])), ((La 1), .inr (1, [.int (FI 1), .int (GR 1), .int (FR 1)])), ((La 2), .inr (1, [.int (FI 2), .int (GR 2), .int (FR 2)])), ((La 3), .inr (1, [.int (FI 3), .int (GR 3), .int (FR 3)]))]) (w1 := [(mq, .inr (12, mF (upd g 2 u_11.1) (vp_updL (vp_updL gl 53 u_11.2.1) 54 u_11.2.2) rf)), ((rf 29), .inl ((ck 29), 24, .inl f_landHas))]) hP hD [8, 9] [0, 1, 2, 3, 4, 5, 6, 7] rfl rfl (by decide) (by decide) hk1 hFc hP1 hD1
  have hfr := yF (wc := [(mq, .inr (12, mF g gl rf)), ((rf 29), .inl ((ck 29), 24, .inl f_landHas))]) hBs [8, 9] rfl hz0 hfr hk1
  have hz0 := Nat.le_trans hz0 hz1
  generalize H1 = H at hP hS hfr hz0 ⊢
  have hP : va_P (dC, dI) vwCl [(x, .inr (11, [.ref pa, .ref bk, .ref xsp, .ref xdy, .ref le, .ref xst, .int xsc, .ref xim, .ref xil, .int xik, .ref xmo, .ref xom, .ref wi])), (bk, .inr (0, [.ref bto, .ref bnm, .ref bla, .ref bsk, .ref bru, .ref bbo, .ref bdi, .ref bda, .ref bdk, .ref bdt, .ref bdp, .ref bno])), (bto, .inl (cTo, 5, .inl fTo)), (bla, .inl (cLa, 4, .inr (.inr (.inr (.inr (fun k => some (La k))))))), ((La 0), .inr (1, [.int (FI 0), .int (GR 0), .int (FR 0)])), ((La 1), .inr (1, [.int (FI 1), .int (GR 1), .int (FR 1)])), ((La 2), .inr (1, [.int (FI 2), .int (GR 2), .int (FR 2)])), ((La 3), .inr (1, [.int (FI 3), .int (GR 3), .int (FR 3)])), (mq, .inr (12, mF (upd g 2 u_11.1) (vp_updL (vp_updL gl 53 u_11.2.1) 54 u_11.2.2) rf)), ((rf 29), .inl ((ck 29), 24, .inl f_landHas))] H := hP
  have hD : va_D A [(x, .inr (11, [.ref pa, .ref bk, .ref xsp, .ref xdy, .ref le, .ref xst, .int xsc, .ref xim, .ref xil, .int xik, .ref xmo, .ref xom, .ref wi])), (bk, .inr (0, [.ref bto, .ref bnm, .ref bla, .ref bsk, .ref bru, .ref bbo, .ref bdi, .ref bda, .ref bdk, .ref bdt, .ref bdp, .ref bno])), (bto, .inl (cTo, 5, .inl fTo)), (bla, .inl (cLa, 4, .inr (.inr (.inr (.inr (fun k => some (La k))))))), ((La 0), .inr (1, [.int (FI 0), .int (GR 0), .int (FR 0)])), ((La 1), .inr (1, [.int (FI 1), .int (GR 1), .int (FR 1)])), ((La 2), .inr (1, [.int (FI 2), .int (GR 2), .int (FR 2)])), ((La 3), .inr (1, [.int (FI 3), .int (GR 3), .int (FR 3)])), (mq, .inr (12, mF (upd g 2 u_11.1) (vp_updL (vp_updL gl 53 u_11.2.1) 54 u_11.2.2) rf)), ((rf 29), .inl ((ck 29), 24, .inl f_landHas))] := hD
  refine W.widen (k := ce + 0) (n := sl + 0) (by omega) (by omega) ?_
  obtain ⟨X_15, hX_15⟩ : ∃ X9 : Int32 × (Int32) × (Int64) × (Int64), X9 = (fq_ends f_landHas y1 ((y2.toInt64 <<< ((32 : Int32).toInt64 &&& 63)) ||| (y3.toInt64 &&& 4294967295)) y4 (g 12) (gl 53) (gl 54)) := ⟨_, rfl⟩
  have hq_r_10 : r_10 = X_15.1 := by rw [hX_15]; exact hw.1
  have hq_u_11 : u_11 = X_15.2 := by rw [hX_15]; exact hw.2
  refine lv_pop hx hb dL_law_1541 rfl ?_
  refine lv_goto (tgt := 2012) hx hb dL_law_1542 (by decide) ?_
  refine W.widen (k := ce + 1) (n := sl + 6) (by omega) (by omega) ?_
  exact kk1 r_5 hq_r_5 X_15 hX_15 r_10 hq_r_10 u_11 hq_u_11 H locs ls (hP.sub (ws' := [(x, .inr (11, [.ref pa, .ref bk, .ref xsp, .ref xdy, .ref le, .ref xst, .int xsc, .ref xim, .ref xil, .int xik, .ref xmo, .ref xom, .ref wi])), (bk, .inr (0, [.ref bto, .ref bnm, .ref bla, .ref bsk, .ref bru, .ref bbo, .ref bdi, .ref bda, .ref bdk, .ref bdt, .ref bdp, .ref bno])), (bto, .inl (cTo, 5, .inl fTo)), (bla, .inl (cLa, 4, .inr (.inr (.inr (.inr (fun k => some (La k))))))), ((La 0), .inr (1, [.int (FI 0), .int (GR 0), .int (FR 0)])), ((La 1), .inr (1, [.int (FI 1), .int (GR 1), .int (FR 1)])), ((La 2), .inr (1, [.int (FI 2), .int (GR 2), .int (FR 2)])), ((La 3), .inr (1, [.int (FI 3), .int (GR 3), .int (FR 3)])), (mq, .inr (12, mF (upd g 2 u_11.1) (vp_updL (vp_updL gl 53 u_11.2.1) 54 u_11.2.2) rf)), ((rf 29), .inl ((ck 29), 24, .inl f_landHas))]) [0, 1, 2, 3, 4, 5, 6, 7, 8, 9] rfl) hS (lv_sub hl [0, 1, 2, 3, 4] rfl) hz0 hfr

theorem dL_law_1545 : decode cL_law 1545 = .ok (.aload_n 1, 1) := by decide +kernel
theorem dL_law_1546 : decode cL_law 1546 = .ok (.aload_n 0, 1) := by decide +kernel
theorem dL_law_1547 : decode cL_law 1547 = .ok (.iload 4, 2) := by decide +kernel
theorem dL_law_1549 : decode cL_law 1549 = .ok (.iconst 1, 1) := by decide +kernel
theorem dL_law_1550 : decode cL_law 1550 = .ok (.iadd, 1) := by decide +kernel
theorem dL_law_1551 : decode cL_law 1551 = .ok (.iaload, 1) := by decide +kernel
theorem dL_law_1552 : decode cL_law 1552 = .ok (.aload_n 0, 1) := by decide +kernel
theorem dL_law_1553 : decode cL_law 1553 = .ok (.iload 4, 2) := by decide +kernel
theorem dL_law_1555 : decode cL_law 1555 = .ok (.iconst 2, 1) := by decide +kernel
theorem dL_law_1556 : decode cL_law 1556 = .ok (.iadd, 1) := by decide +kernel
theorem dL_law_1557 : decode cL_law 1557 = .ok (.iaload, 1) := by decide +kernel
theorem dL_law_1558 : decode cL_law 1558 = .ok (.i2l, 1) := by decide +kernel
theorem dL_law_1559 : decode cL_law 1559 = .ok (.bipush 32, 2) := by decide +kernel
theorem dL_law_1561 : decode cL_law 1561 = .ok (.lshl, 1) := by decide +kernel
theorem dL_law_1562 : decode cL_law 1562 = .ok (.aload_n 0, 1) := by decide +kernel
theorem dL_law_1563 : decode cL_law 1563 = .ok (.iload 4, 2) := by decide +kernel
theorem dL_law_1565 : decode cL_law 1565 = .ok (.iconst 3, 1) := by decide +kernel
theorem dL_law_1566 : decode cL_law 1566 = .ok (.iadd, 1) := by decide +kernel
theorem dL_law_1567 : decode cL_law 1567 = .ok (.iaload, 1) := by decide +kernel
theorem dL_law_1568 : decode cL_law 1568 = .ok (.i2l, 1) := by decide +kernel
theorem dL_law_1569 : decode cL_law 1569 = .ok (.ldc2_w 50, 3) := by decide +kernel
theorem dL_law_1572 : decode cL_law 1572 = .ok (.land, 1) := by decide +kernel
theorem dL_law_1573 : decode cL_law 1573 = .ok (.lor, 1) := by decide +kernel
theorem dL_law_1574 : decode cL_law 1574 = .ok (.aload_n 0, 1) := by decide +kernel
theorem dL_law_1575 : decode cL_law 1575 = .ok (.iload 4, 2) := by decide +kernel
theorem dL_law_1577 : decode cL_law 1577 = .ok (.iconst 4, 1) := by decide +kernel
theorem dL_law_1578 : decode cL_law 1578 = .ok (.iadd, 1) := by decide +kernel
theorem dL_law_1579 : decode cL_law 1579 = .ok (.iaload, 1) := by decide +kernel
theorem dL_law_1580 : decode cL_law 1580 = .ok (.aload_n 0, 1) := by decide +kernel
theorem dL_law_1581 : decode cL_law 1581 = .ok (.iload 4, 2) := by decide +kernel
theorem dL_law_1583 : decode cL_law 1583 = .ok (.iconst 5, 1) := by decide +kernel
theorem dL_law_1584 : decode cL_law 1584 = .ok (.iadd, 1) := by decide +kernel
theorem dL_law_1585 : decode cL_law 1585 = .ok (.iaload, 1) := by decide +kernel
theorem dL_law_1586 : decode cL_law 1586 = .ok (.invokevirtual 127, 3) := by decide +kernel
theorem dL_law_1589 : decode cL_law 1589 = .ok (.pop2, 1) := by decide +kernel
theorem dL_law_1590 : decode cL_law 1590 = .ok (.aload_n 2, 1) := by decide +kernel
theorem dL_law_1591 : decode cL_law 1591 = .ok (.aload_n 0, 1) := by decide +kernel
theorem dL_law_1592 : decode cL_law 1592 = .ok (.iload 4, 2) := by decide +kernel
theorem dL_law_1594 : decode cL_law 1594 = .ok (.iconst 1, 1) := by decide +kernel
theorem dL_law_1595 : decode cL_law 1595 = .ok (.iadd, 1) := by decide +kernel
theorem dL_law_1596 : decode cL_law 1596 = .ok (.iaload, 1) := by decide +kernel
theorem dL_law_1597 : decode cL_law 1597 = .ok (.aload_n 0, 1) := by decide +kernel
theorem dL_law_1598 : decode cL_law 1598 = .ok (.iload 4, 2) := by decide +kernel
theorem dL_law_1600 : decode cL_law 1600 = .ok (.iconst 2, 1) := by decide +kernel
theorem dL_law_1601 : decode cL_law 1601 = .ok (.iadd, 1) := by decide +kernel
theorem dL_law_1602 : decode cL_law 1602 = .ok (.iaload, 1) := by decide +kernel
theorem dL_law_1603 : decode cL_law 1603 = .ok (.i2l, 1) := by decide +kernel
theorem dL_law_1604 : decode cL_law 1604 = .ok (.bipush 32, 2) := by decide +kernel
theorem dL_law_1606 : decode cL_law 1606 = .ok (.lshl, 1) := by decide +kernel
theorem dL_law_1607 : decode cL_law 1607 = .ok (.aload_n 0, 1) := by decide +kernel
theorem dL_law_1608 : decode cL_law 1608 = .ok (.iload 4, 2) := by decide +kernel
theorem dL_law_1610 : decode cL_law 1610 = .ok (.iconst 3, 1) := by decide +kernel
theorem dL_law_1611 : decode cL_law 1611 = .ok (.iadd, 1) := by decide +kernel
theorem dL_law_1612 : decode cL_law 1612 = .ok (.iaload, 1) := by decide +kernel
theorem dL_law_1613 : decode cL_law 1613 = .ok (.i2l, 1) := by decide +kernel
theorem dL_law_1614 : decode cL_law 1614 = .ok (.ldc2_w 50, 3) := by decide +kernel
theorem dL_law_1617 : decode cL_law 1617 = .ok (.land, 1) := by decide +kernel
theorem dL_law_1618 : decode cL_law 1618 = .ok (.lor, 1) := by decide +kernel
theorem dL_law_1619 : decode cL_law 1619 = .ok (.aload_n 0, 1) := by decide +kernel
theorem dL_law_1620 : decode cL_law 1620 = .ok (.iload 4, 2) := by decide +kernel
theorem dL_law_1622 : decode cL_law 1622 = .ok (.iconst 4, 1) := by decide +kernel
theorem dL_law_1623 : decode cL_law 1623 = .ok (.iadd, 1) := by decide +kernel
theorem dL_law_1624 : decode cL_law 1624 = .ok (.iaload, 1) := by decide +kernel
theorem dL_law_1625 : decode cL_law 1625 = .ok (.aload_n 0, 1) := by decide +kernel
theorem dL_law_1626 : decode cL_law 1626 = .ok (.iload 4, 2) := by decide +kernel
theorem dL_law_1628 : decode cL_law 1628 = .ok (.iconst 5, 1) := by decide +kernel
theorem dL_law_1629 : decode cL_law 1629 = .ok (.iadd, 1) := by decide +kernel
theorem dL_law_1630 : decode cL_law 1630 = .ok (.iaload, 1) := by decide +kernel
theorem dL_law_1631 : decode cL_law 1631 = .ok (.invokevirtual 131, 3) := by decide +kernel
theorem dL_law_1634 : decode cL_law 1634 = .ok (.pop2, 1) := by decide +kernel
theorem dL_law_1635 : decode cL_law 1635 = .ok (.goto 377, 3) := by decide +kernel
set_option maxHeartbeats 4000000 in
set_option maxRecDepth 100000 in
theorem law_hire (l : Launch) (hst : l.stackTraces = false) {p : Program} {e : Env} {s : State} {m : MethodId} {below : List Frame} {meth : Method} {c : Code} {bs L : Nat} {xs : Nat → Int32} (C0 : lw_At p s m meth c bs L xs) (dC : Nat → ClassId) (dI : Nat → Nat → Nat) (A : Nat → Prop) (hAe : ∀ q, A q ↔ s.heap.size ≤ q) (x : Nat) (pa : Nat) (bk : Nat) (xsp : Nat) (xdy : Nat) (le : Nat) (xst : Nat) (xsc : Int32) (xim : Nat) (xil : Nat) (xik : Int32) (xmo : Nat) (xom : Nat) (wi : Nat) (bto : Nat) (bnm : Nat) (bla : Nat) (bsk : Nat) (bru : Nat) (bbo : Nat) (bdi : Nat) (bda : Nat) (bdk : Nat) (bdt : Nat) (bdp : Nat) (bno : Nat) (cTo : ClassId) (fTo : Nat → Int32) (cLa : ClassId) (La : Nat → Nat) (FI : Nat → Int32) (GR : Nat → Int32) (FR : Nat → Int32) (mq : Nat) (g : Nat → Int32) (gl : Nat → Int64) (rf : Nat → Nat) (ck : Nat → ClassId) (f_landHas : Nat → Int32) (o3 : Nat) (hln0 : ¬ (g 12) < 0) (hln4 : (g 12) ≤ 4) (hLZ1 : ∀ k : Int32, ¬ k < 0 → k < (g 12) → ¬ (f_landHas ((3 * k).toNatClampNeg)) < 1) (sL : Nat → Nat) (hNx : xN s) (i y1 y2 y3 y4 y5 : Int32) (hi1 : vp_in (i + 1) L) (hy1 : xs (i + 1).toNatClampNeg = y1) (hi2 : vp_in (i + 2) L) (hy2 : xs (i + 2).toNatClampNeg = y2) (hi3 : vp_in (i + 3) L) (hy3 : xs (i + 3).toNatClampNeg = y3) (hi4 : vp_in (i + 4) L) (hy4 : xs (i + 4).toNatClampNeg = y4) (hi5 : vp_in (i + 5) L) (hy5 : xs (i + 5).toNatClampNeg = y5)  (Bp : Nat → Prop) (H0 : Heap) (locs : List Loc) (ls : Array Slot) (ce sl : Nat) (hce : ce + 1 ≤ 601024) (hsl : sl + 6 ≤ 7293034) (hK : va_K (dC, dI) vwCl [(cTo, .int), (cLa, .object RX1), ((ck 29), .int)] s) (hP : va_P (dC, dI) vwCl [(x, .inr (11, [.ref pa, .ref bk, .ref xsp, .ref xdy, .ref le, .ref xst, .int xsc, .ref xim, .ref xil, .int xik, .ref xmo, .ref xom, .ref wi])), (bk, .inr (0, [.ref bto, .ref bnm, .ref bla, .ref bsk, .ref bru, .ref bbo, .ref bdi, .ref bda, .ref bdk, .ref bdt, .ref bdp, .ref bno])), (bto, .inl (cTo, 5, .inl fTo)), (bla, .inl (cLa, 4, .inr (.inr (.inr (.inr (fun k => some (La k))))))), ((La 0), .inr (1, [.int (FI 0), .int (GR 0), .int (FR 0)])), ((La 1), .inr (1, [.int (FI 1), .int (GR 1), .int (FR 1)])), ((La 2), .inr (1, [.int (FI 2), .int (GR 2), .int (FR 2)])), ((La 3), .inr (1, [.int (FI 3), .int (GR 3), .int (FR 3)])), (mq, .inr (12, mF g gl rf)), ((rf 29), .inl ((ck 29), 24, .inl f_landHas))] H0) (hD : va_D A [(x, .inr (11, [.ref pa, .ref bk, .ref xsp, .ref xdy, .ref le, .ref xst, .int xsc, .ref xim, .ref xil, .int xik, .ref xmo, .ref xom, .ref wi])), (bk, .inr (0, [.ref bto, .ref bnm, .ref bla, .ref bsk, .ref bru, .ref bbo, .ref bdi, .ref bda, .ref bdk, .ref bdt, .ref bdp, .ref bno])), (bto, .inl (cTo, 5, .inl fTo)), (bla, .inl (cLa, 4, .inr (.inr (.inr (.inr (fun k => some (La k))))))), ((La 0), .inr (1, [.int (FI 0), .int (GR 0), .int (FR 0)])), ((La 1), .inr (1, [.int (FI 1), .int (GR 1), .int (FR 1)])), ((La 2), .inr (1, [.int (FI 2), .int (GR 2), .int (FR 2)])), ((La 3), .inr (1, [.int (FI 3), .int (GR 3), .int (FR 3)])), (mq, .inr (12, mF g gl rf)), ((rf 29), .inl ((ck 29), 24, .inl f_landHas))]) (hBs : yB Bp [(x, .inr (11, [.ref pa, .ref bk, .ref xsp, .ref xdy, .ref le, .ref xst, .int xsc, .ref xim, .ref xil, .int xik, .ref xmo, .ref xom, .ref wi])), (bk, .inr (0, [.ref bto, .ref bnm, .ref bla, .ref bsk, .ref bru, .ref bbo, .ref bdi, .ref bda, .ref bdk, .ref bdt, .ref bdp, .ref bno])), (bto, .inl (cTo, 5, .inl fTo)), (bla, .inl (cLa, 4, .inr (.inr (.inr (.inr (fun k => some (La k))))))), ((La 0), .inr (1, [.int (FI 0), .int (GR 0), .int (FR 0)])), ((La 1), .inr (1, [.int (FI 1), .int (GR 1), .int (FR 1)])), ((La 2), .inr (1, [.int (FI 2), .int (GR 2), .int (FR 2)])), ((La 3), .inr (1, [.int (FI 3), .int (GR 3), .int (FR 3)])), (mq, .inr (12, mF g gl rf)), ((rf 29), .inl ((ck 29), 24, .inl f_landHas))]) (hS : va_S A s.heap H0 locs) (hl : lv_has ls 7 [(4, .int i), (3, .ref o3), (2, .ref mq), (1, .ref x), (0, .ref bs)]) (kk1 : ∀ (r_6 : Int64), r_6 = (fx_hire fTo FI GR FR y1 ((y2.toInt64 <<< ((32 : Int32).toInt64 &&& 63)) ||| (y3.toInt64 &&& 4294967295)) y4 y5) → ∀ (X_17 : Int64 × (Int32) × (Int64) × (Int64)), X_17 = (fq_hire f_landHas y1 ((y2.toInt64 <<< ((32 : Int32).toInt64 &&& 63)) ||| (y3.toInt64 &&& 4294967295)) y4 y5 (g 12) (gl 53) (gl 54)) → ∀ (r_12 : Int64), r_12 = X_17.1 → ∀ (u_13 : (Int32) × (Int64) × (Int64)), u_13 = X_17.2 → ∀ (H : Heap) (locs : List Loc) (ls : Array Slot), va_P (dC, dI) vwCl [(x, .inr (11, [.ref pa, .ref bk, .ref xsp, .ref xdy, .ref le, .ref xst, .int xsc, .ref xim, .ref xil, .int xik, .ref xmo, .ref xom, .ref wi])), (bk, .inr (0, [.ref bto, .ref bnm, .ref bla, .ref bsk, .ref bru, .ref bbo, .ref bdi, .ref bda, .ref bdk, .ref bdt, .ref bdp, .ref bno])), (bto, .inl (cTo, 5, .inl fTo)), (bla, .inl (cLa, 4, .inr (.inr (.inr (.inr (fun k => some (La k))))))), ((La 0), .inr (1, [.int (FI 0), .int (GR 0), .int (FR 0)])), ((La 1), .inr (1, [.int (FI 1), .int (GR 1), .int (FR 1)])), ((La 2), .inr (1, [.int (FI 2), .int (GR 2), .int (FR 2)])), ((La 3), .inr (1, [.int (FI 3), .int (GR 3), .int (FR 3)])), (mq, .inr (12, mF (upd g 2 u_13.1) (vp_updL (vp_updL gl 53 u_13.2.1) 54 u_13.2.2) rf)), ((rf 29), .inl ((ck 29), 24, .inl f_landHas))] H → va_S A s.heap H locs → lv_has ls 7 [(4, .int i), (3, .ref o3), (2, .ref mq), (1, .ref x), (0, .ref bs)] → H0.size ≤ H.size → (∀ q : Nat, q < H0.size → ¬ Bp q → H[q]? = H0[q]?) → W p l e room_1 s m #[Value.ref bs] below meth c H locs (ce + 1) (sl + 6) (lw_Z below #[Value.ref bs] s) (F0 m 2012 ls [])) : W p l e room_1 s m #[Value.ref bs] below meth c H0 locs ce sl (lw_Z below #[Value.ref bs] s) (F0 m 1545 ls []) := by
  obtain ⟨hx, hb, hr, hml, hown, hts, hX, hbl, hlocks, hgv⟩ := id C0
  have htw : ∀ w ∈ wsL_law, w.before _ s = true := fun w h => hts w (wsL_law_in w h)
  have hown : s.vm.findClass RL = some m.cls := hown
  have hA : ∀ q : Nat, s.heap.size ≤ q → A q := fun q h => (hAe q).mpr h
  have hbA : ¬ A bs := fun h => absurd ((hAe bs).mp h) (Nat.not_le.mpr hbl)
  obtain ⟨H, rH⟩ : ∃ z : Heap, z = H0 := ⟨_, rfl⟩
  have hfr : ∀ q : Nat, q < H0.size → ¬ Bp q → H[q]? = H0[q]? := fun q _ _ => by rw [rH]
  have hz0 : H0.size ≤ H.size := by rw [rH]; exact Nat.le_refl _
  rw [← rH] at hP hS ⊢
  refine lv_aload_n hx hb dL_law_1545 rfl (lv_at hl 3 rfl) ?_
  refine lv_aload_n hx hb dL_law_1546 rfl (lv_at hl 4 rfl) ?_
  refine lv_iload hx hb dL_law_1547 (lv_at hl 0 rfl) ?_
  refine lv_iconst (v := 1) hx hb dL_law_1549 (by decide) ?_
  refine lv_iadd hx hb dL_law_1550 ?_
  refine va_sld hx hb hX hbl hbA hS hi1 dL_law_1551 ?_
  rw [hy1]
  refine lv_aload_n hx hb dL_law_1552 rfl (lv_at hl 4 rfl) ?_
  refine lv_iload hx hb dL_law_1553 (lv_at hl 0 rfl) ?_
  refine lv_iconst (v := 2) hx hb dL_law_1555 (by decide) ?_
  refine lv_iadd hx hb dL_law_1556 ?_
  refine va_sld hx hb hX hbl hbA hS hi2 dL_law_1557 ?_
  rw [hy2]
  refine lv_i2l (v := y2.toInt64) hx hb dL_law_1558 rfl ?_
  refine lv_bipush (v := 32) hx hb dL_law_1559 (by decide) ?_
  refine lv_lshl (v := (y2.toInt64 <<< ((32 : Int32).toInt64 &&& 63))) hx hb dL_law_1561 rfl ?_
  refine lv_aload_n hx hb dL_law_1562 rfl (lv_at hl 4 rfl) ?_
  refine lv_iload hx hb dL_law_1563 (lv_at hl 0 rfl) ?_
  refine lv_iconst (v := 3) hx hb dL_law_1565 (by decide) ?_
  refine lv_iadd hx hb dL_law_1566 ?_
  refine va_sld hx hb hX hbl hbA hS hi3 dL_law_1567 ?_
  rw [hy3]
  refine lv_i2l (v := y3.toInt64) hx hb dL_law_1568 rfl ?_
  refine lv_ldc2 (v := 4294967295) hx hb hown (htw _ (ck_1 _ (List.mem_of_getElem? (i := 7) rfl))) dL_law_1569 ?_
  refine lv_land hx hb dL_law_1572 ?_
  refine lv_lor hx hb dL_law_1573 ?_
  refine lv_aload_n hx hb dL_law_1574 rfl (lv_at hl 4 rfl) ?_
  refine lv_iload hx hb dL_law_1575 (lv_at hl 0 rfl) ?_
  refine lv_iconst (v := 4) hx hb dL_law_1577 (by decide) ?_
  refine lv_iadd hx hb dL_law_1578 ?_
  refine va_sld hx hb hX hbl hbA hS hi4 dL_law_1579 ?_
  rw [hy4]
  refine lv_aload_n hx hb dL_law_1580 rfl (lv_at hl 4 rfl) ?_
  refine lv_iload hx hb dL_law_1581 (lv_at hl 0 rfl) ?_
  refine lv_iconst (v := 5) hx hb dL_law_1583 (by decide) ?_
  refine lv_iadd hx hb dL_law_1584 ?_
  refine va_sld hx hb hX hbl hbA hS hi5 dL_law_1585 ?_
  rw [hy5]
  have hPc := hP.sub (ws' := [(x, .inr (11, [.ref pa, .ref bk, .ref xsp, .ref xdy, .ref le, .ref xst, .int xsc, .ref xim, .ref xil, .int xik, .ref xmo, .ref xom, .ref wi])), (bk, .inr (0, [.ref bto, .ref bnm, .ref bla, .ref bsk, .ref bru, .ref bbo, .ref bdi, .ref bda, .ref bdk, .ref bdt, .ref bdp, .ref bno])), (bto, .inl (cTo, 5, .inl fTo)), (bla, .inl (cLa, 4, .inr (.inr (.inr (.inr (fun k => some (La k))))))), ((La 0), .inr (1, [.int (FI 0), .int (GR 0), .int (FR 0)])), ((La 1), .inr (1, [.int (FI 1), .int (GR 1), .int (FR 1)])), ((La 2), .inr (1, [.int (FI 2), .int (GR 2), .int (FR 2)])), ((La 3), .inr (1, [.int (FI 3), .int (GR 3), .int (FR 3)]))]) [0, 1, 2, 3, 4, 5, 6, 7] rfl
  have hKc := hK.sub (tys' := [(cTo, .int), (cLa, .object RX1)]) [0, 1] rfl
  refine vp_callSl (W.runV (As := [.int y1, .long ((y2.toInt64 <<< ((32 : Int32).toInt64 &&& 63)) ||| (y3.toInt64 &&& 4294967295)), .int y4, .int y5]) (rest := []) ⟨hx, hb, hml, hown, htw⟩ (gx_hire l dC dI x pa bk xsp xdy le xst xsc xim xil xik xmo xom wi bto bnm bla bsk bru bbo bdi bda bdk bdt bdp bno cTo fTo cLa La FI GR FR y1 ((y2.toInt64 <<< ((32 : Int32).toInt64 &&& 63)) ||| (y3.toInt64 &&& 4294967295)) y4 y5) (cwV 4 htw (xg_V (ck_51 _ (List.mem_of_getElem? (i := 3) rfl)) (ck_51 _ (List.mem_of_getElem? (i := 4) rfl)) (ck_51 _ (List.mem_of_getElem? (i := 5) rfl)) (ck_1 _ (List.mem_of_getElem? (i := 2) rfl)) (ck_51 _ (List.mem_of_getElem? (i := 6) rfl))) rfl rfl rfl (by decide +kernel) ⟨Nat.le_of_ble_eq_true rfl, Nat.le_of_ble_eq_true rfl⟩) ⟨fun a U g mk q => by obtain ⟨q0, qP, qK, qx⟩ := q; exact ⟨q0, qP, va_K.moved (u := U) (U := U.calling g mk a) (Vm.Alike.refl U.vm) qK, xN.calling qx⟩, va_recv hKc hPc (ci := 11) (q0 := 0) rfl rfl, fun U hU hW => ⟨rfl, by rw [hU]; exact hPc, va_K.moved hW.alike hKc, xN.warm hW hNx⟩⟩ rfl rfl hl.1 rfl (lv_room (Nat.le_of_ble_eq_true rfl)) dL_law_1586 ⟨by first | exact Nat.le_of_ble_eq_true rfl | exact yR (n := 0) (by omega) rfl, by first | exact Nat.le_of_ble_eq_true rfl | exact yR2 (n := 0) (by omega) rfl⟩) (fun r_6 hw => ?_)
  try dsimp only at hw
  have hq_r_6 : r_6 = (fx_hire fTo FI GR FR y1 ((y2.toInt64 <<< ((32 : Int32).toInt64 &&& 63)) ||| (y3.toInt64 &&& 4294967295)) y4 y5) := hw
  refine lv_pop2_2 hx hb dL_law_1589 rfl ?_
  refine lv_aload_n hx hb dL_law_1590 rfl (lv_at hl 2 rfl) ?_
  refine lv_aload_n hx hb dL_law_1591 rfl (lv_at hl 4 rfl) ?_
  refine lv_iload hx hb dL_law_1592 (lv_at hl 0 rfl) ?_
  refine lv_iconst (v := 1) hx hb dL_law_1594 (by decide) ?_
  refine lv_iadd hx hb dL_law_1595 ?_
  refine va_sld hx hb hX hbl hbA hS hi1 dL_law_1596 ?_
  rw [hy1]
  refine lv_aload_n hx hb dL_law_1597 rfl (lv_at hl 4 rfl) ?_
  refine lv_iload hx hb dL_law_1598 (lv_at hl 0 rfl) ?_
  refine lv_iconst (v := 2) hx hb dL_law_1600 (by decide) ?_
  refine lv_iadd hx hb dL_law_1601 ?_
  refine va_sld hx hb hX hbl hbA hS hi2 dL_law_1602 ?_
  rw [hy2]
  refine lv_i2l (v := y2.toInt64) hx hb dL_law_1603 rfl ?_
  refine lv_bipush (v := 32) hx hb dL_law_1604 (by decide) ?_
  refine lv_lshl (v := (y2.toInt64 <<< ((32 : Int32).toInt64 &&& 63))) hx hb dL_law_1606 rfl ?_
  refine lv_aload_n hx hb dL_law_1607 rfl (lv_at hl 4 rfl) ?_
  refine lv_iload hx hb dL_law_1608 (lv_at hl 0 rfl) ?_
  refine lv_iconst (v := 3) hx hb dL_law_1610 (by decide) ?_
  refine lv_iadd hx hb dL_law_1611 ?_
  refine va_sld hx hb hX hbl hbA hS hi3 dL_law_1612 ?_
  rw [hy3]
  refine lv_i2l (v := y3.toInt64) hx hb dL_law_1613 rfl ?_
  refine lv_ldc2 (v := 4294967295) hx hb hown (htw _ (ck_1 _ (List.mem_of_getElem? (i := 7) rfl))) dL_law_1614 ?_
  refine lv_land hx hb dL_law_1617 ?_
  refine lv_lor hx hb dL_law_1618 ?_
  refine lv_aload_n hx hb dL_law_1619 rfl (lv_at hl 4 rfl) ?_
  refine lv_iload hx hb dL_law_1620 (lv_at hl 0 rfl) ?_
  refine lv_iconst (v := 4) hx hb dL_law_1622 (by decide) ?_
  refine lv_iadd hx hb dL_law_1623 ?_
  refine va_sld hx hb hX hbl hbA hS hi4 dL_law_1624 ?_
  rw [hy4]
  refine lv_aload_n hx hb dL_law_1625 rfl (lv_at hl 4 rfl) ?_
  refine lv_iload hx hb dL_law_1626 (lv_at hl 0 rfl) ?_
  refine lv_iconst (v := 5) hx hb dL_law_1628 (by decide) ?_
  refine lv_iadd hx hb dL_law_1629 ?_
  refine va_sld hx hb hX hbl hbA hS hi5 dL_law_1630 ?_
  rw [hy5]
  have hPc := hP.sub (ws' := [(mq, .inr (12, mF g gl rf)), ((rf 29), .inl ((ck 29), 24, .inl f_landHas))]) [8, 9] rfl
  have hKc := hK.sub (tys' := [((ck 29), .int)]) [2] rfl
  have hDc := hD.sub (ws' := [(mq, .inr (12, mF g gl rf)), ((rf 29), .inl ((ck 29), 24, .inl f_landHas))]) [8, 9] (by decide) rfl
  have hFc := va_free (wc := [(mq, .inr (12, mF g gl rf)), ((rf 29), .inl ((ck 29), 24, .inl f_landHas))]) hD hS hA [8, 9] rfl
  refine va_calll (va_runV (As := [.int y1, .long ((y2.toInt64 <<< ((32 : Int32).toInt64 &&& 63)) ||| (y3.toInt64 &&& 4294967295)), .int y4, .int y5]) (rest := []) ⟨hx, hb, hml, hown, htw⟩ (gq_hire l dC dI mq g gl rf ck f_landHas y1 ((y2.toInt64 <<< ((32 : Int32).toInt64 &&& 63)) ||| (y3.toInt64 &&& 4294967295)) y4 y5 H.size hln0 hln4 hLZ1) (cwV 4 htw (xg_V (ck_51 _ (List.mem_of_getElem? (i := 7) rfl)) (ck_51 _ (List.mem_of_getElem? (i := 8) rfl)) (ck_51 _ (List.mem_of_getElem? (i := 9) rfl)) (ck_1 _ (List.mem_of_getElem? (i := 5) rfl)) (ck_51 _ (List.mem_of_getElem? (i := 10) rfl))) rfl rfl rfl (by decide +kernel) ⟨Nat.le_of_ble_eq_true rfl, Nat.le_of_ble_eq_true rfl⟩) ⟨fun a U g mk q => by obtain ⟨q0, q1, qP, qK, qD⟩ := q; exact ⟨q0, q1, qP, va_K.moved (u := U) (U := U.calling g mk a) (Vm.Alike.refl U.vm) qK, qD⟩, va_recv hKc hPc (ci := 12) (q0 := 0) rfl rfl, fun U hU hW => ⟨rfl, by rw [hU], by rw [hU]; exact hPc, va_K.moved hW.alike hKc, hDc.weaken (fun _ _ _ _ => trivial)⟩⟩ rfl rfl hl.1 rfl (lv_room (Nat.le_of_ble_eq_true rfl)) dL_law_1631 ⟨by first | exact Nat.le_of_ble_eq_true rfl | exact yR (n := 0) (by omega) rfl, by first | exact Nat.le_of_ble_eq_true rfl | exact yR2 (n := 0) (by omega) rfl⟩) hS (fun q _ h => hFc q h) hFc (fun r_12 u_13 t H1 locs ht hvm hw hB hz1 hk1 hS => ?_)
  try dsimp only at hw
  obtain ⟨hP1, hK1, hD1⟩ := hB
  rw [ht] at hP1
  have hK1 := va_K.moved hvm.symm hK1
  have hP1 : va_P (dC, dI) vwCl [(mq, .inr (12, mF (upd g 2 u_13.1) (vp_updL (vp_updL gl 53 u_13.2.1) 54 u_13.2.2) rf)), ((rf 29), .inl ((ck 29), 24, .inl f_landHas))] H1 := hP1
  have hD1 : va_D (va_A [(mq, .inr (12, mF g gl rf)), ((rf 29), .inl ((ck 29), 24, .inl f_landHas))] H.size) [(mq, .inr (12, mF (upd g 2 u_13.1) (vp_updL (vp_updL gl 53 u_13.2.1) 54 u_13.2.2) rf)), ((rf 29), .inl ((ck 29), 24, .inl f_landHas))] := hD1
  have hK1 : va_K (dC, dI) vwCl [] s := hK1
  obtain ⟨hP, hD⟩ := va_join (wr := [(x, .inr (11, [.ref pa, .ref bk, .ref xsp, .ref xdy, .ref le, .ref xst, .int xsc, .ref xim, .ref xil, .int xik, .ref xmo, .ref xom, .ref wi])), (bk, .inr (0, [.ref bto, .ref bnm, .ref bla, .ref bsk, .ref bru, .ref bbo, .ref bdi, .ref bda, .ref bdk, .ref bdt, .ref bdp, .ref bno])), (bto, .inl (cTo, 5, .inl fTo)), (bla, .inl (cLa, 4, .inr (.inr (.inr (.inr (fun k => some (La k))))))), ((La 0), .inr (1, [.int (FI 0), .int (GR 0), .int (FR 0)])), ((La 1), .inr (1, [.int (FI 1), .int (GR 1), .int (FR 1)])), ((La 2), .inr (1, [.int (FI 2), .int (GR 2), .int (FR 2)])), ((La 3), .inr (1, [.int (FI 3), .int (GR 3), .int (FR 3)]))]) (w1 := [(mq, .inr (12, mF (upd g 2 u_13.1) (vp_updL (vp_updL gl 53 u_13.2.1) 54 u_13.2.2) rf)), ((rf 29), .inl ((ck 29), 24, .inl f_landHas))]) hP hD [8, 9] [0, 1, 2, 3, 4, 5, 6, 7] rfl rfl (by decide) (by decide) hk1 hFc hP1 hD1
  have hfr := yF (wc := [(mq, .inr (12, mF g gl rf)), ((rf 29), .inl ((ck 29), 24, .inl f_landHas))]) hBs [8, 9] rfl hz0 hfr hk1
  have hz0 := Nat.le_trans hz0 hz1
  generalize H1 = H at hP hS hfr hz0 ⊢
  have hP : va_P (dC, dI) vwCl [(x, .inr (11, [.ref pa, .ref bk, .ref xsp, .ref xdy, .ref le, .ref xst, .int xsc, .ref xim, .ref xil, .int xik, .ref xmo, .ref xom, .ref wi])), (bk, .inr (0, [.ref bto, .ref bnm, .ref bla, .ref bsk, .ref bru, .ref bbo, .ref bdi, .ref bda, .ref bdk, .ref bdt, .ref bdp, .ref bno])), (bto, .inl (cTo, 5, .inl fTo)), (bla, .inl (cLa, 4, .inr (.inr (.inr (.inr (fun k => some (La k))))))), ((La 0), .inr (1, [.int (FI 0), .int (GR 0), .int (FR 0)])), ((La 1), .inr (1, [.int (FI 1), .int (GR 1), .int (FR 1)])), ((La 2), .inr (1, [.int (FI 2), .int (GR 2), .int (FR 2)])), ((La 3), .inr (1, [.int (FI 3), .int (GR 3), .int (FR 3)])), (mq, .inr (12, mF (upd g 2 u_13.1) (vp_updL (vp_updL gl 53 u_13.2.1) 54 u_13.2.2) rf)), ((rf 29), .inl ((ck 29), 24, .inl f_landHas))] H := hP
  have hD : va_D A [(x, .inr (11, [.ref pa, .ref bk, .ref xsp, .ref xdy, .ref le, .ref xst, .int xsc, .ref xim, .ref xil, .int xik, .ref xmo, .ref xom, .ref wi])), (bk, .inr (0, [.ref bto, .ref bnm, .ref bla, .ref bsk, .ref bru, .ref bbo, .ref bdi, .ref bda, .ref bdk, .ref bdt, .ref bdp, .ref bno])), (bto, .inl (cTo, 5, .inl fTo)), (bla, .inl (cLa, 4, .inr (.inr (.inr (.inr (fun k => some (La k))))))), ((La 0), .inr (1, [.int (FI 0), .int (GR 0), .int (FR 0)])), ((La 1), .inr (1, [.int (FI 1), .int (GR 1), .int (FR 1)])), ((La 2), .inr (1, [.int (FI 2), .int (GR 2), .int (FR 2)])), ((La 3), .inr (1, [.int (FI 3), .int (GR 3), .int (FR 3)])), (mq, .inr (12, mF (upd g 2 u_13.1) (vp_updL (vp_updL gl 53 u_13.2.1) 54 u_13.2.2) rf)), ((rf 29), .inl ((ck 29), 24, .inl f_landHas))] := hD
  refine W.widen (k := ce + 0) (n := sl + 0) (by omega) (by omega) ?_
  obtain ⟨X_17, hX_17⟩ : ∃ X9 : Int64 × (Int32) × (Int64) × (Int64), X9 = (fq_hire f_landHas y1 ((y2.toInt64 <<< ((32 : Int32).toInt64 &&& 63)) ||| (y3.toInt64 &&& 4294967295)) y4 y5 (g 12) (gl 53) (gl 54)) := ⟨_, rfl⟩
  have hq_r_12 : r_12 = X_17.1 := by rw [hX_17]; exact hw.1
  have hq_u_13 : u_13 = X_17.2 := by rw [hX_17]; exact hw.2
  refine lv_pop2_2 hx hb dL_law_1634 rfl ?_
  refine lv_goto (tgt := 2012) hx hb dL_law_1635 (by decide) ?_
  refine W.widen (k := ce + 1) (n := sl + 6) (by omega) (by omega) ?_
  exact kk1 r_6 hq_r_6 X_17 hX_17 r_12 hq_r_12 u_13 hq_u_13 H locs ls (hP.sub (ws' := [(x, .inr (11, [.ref pa, .ref bk, .ref xsp, .ref xdy, .ref le, .ref xst, .int xsc, .ref xim, .ref xil, .int xik, .ref xmo, .ref xom, .ref wi])), (bk, .inr (0, [.ref bto, .ref bnm, .ref bla, .ref bsk, .ref bru, .ref bbo, .ref bdi, .ref bda, .ref bdk, .ref bdt, .ref bdp, .ref bno])), (bto, .inl (cTo, 5, .inl fTo)), (bla, .inl (cLa, 4, .inr (.inr (.inr (.inr (fun k => some (La k))))))), ((La 0), .inr (1, [.int (FI 0), .int (GR 0), .int (FR 0)])), ((La 1), .inr (1, [.int (FI 1), .int (GR 1), .int (FR 1)])), ((La 2), .inr (1, [.int (FI 2), .int (GR 2), .int (FR 2)])), ((La 3), .inr (1, [.int (FI 3), .int (GR 3), .int (FR 3)])), (mq, .inr (12, mF (upd g 2 u_13.1) (vp_updL (vp_updL gl 53 u_13.2.1) 54 u_13.2.2) rf)), ((rf 29), .inl ((ck 29), 24, .inl f_landHas))]) [0, 1, 2, 3, 4, 5, 6, 7, 8, 9] rfl) hS (lv_sub hl [0, 1, 2, 3, 4] rfl) hz0 hfr

theorem dL_law_1638 : decode cL_law 1638 = .ok (.aload_n 1, 1) := by decide +kernel
theorem dL_law_1639 : decode cL_law 1639 = .ok (.aload_n 0, 1) := by decide +kernel
theorem dL_law_1640 : decode cL_law 1640 = .ok (.iload 4, 2) := by decide +kernel
theorem dL_law_1642 : decode cL_law 1642 = .ok (.iconst 1, 1) := by decide +kernel
theorem dL_law_1643 : decode cL_law 1643 = .ok (.iadd, 1) := by decide +kernel
theorem dL_law_1644 : decode cL_law 1644 = .ok (.iaload, 1) := by decide +kernel
theorem dL_law_1645 : decode cL_law 1645 = .ok (.aload_n 0, 1) := by decide +kernel
theorem dL_law_1646 : decode cL_law 1646 = .ok (.iload 4, 2) := by decide +kernel
theorem dL_law_1648 : decode cL_law 1648 = .ok (.iconst 2, 1) := by decide +kernel
theorem dL_law_1649 : decode cL_law 1649 = .ok (.iadd, 1) := by decide +kernel
theorem dL_law_1650 : decode cL_law 1650 = .ok (.iaload, 1) := by decide +kernel
theorem dL_law_1651 : decode cL_law 1651 = .ok (.aload_n 0, 1) := by decide +kernel
theorem dL_law_1652 : decode cL_law 1652 = .ok (.iload 4, 2) := by decide +kernel
theorem dL_law_1654 : decode cL_law 1654 = .ok (.iconst 3, 1) := by decide +kernel
theorem dL_law_1655 : decode cL_law 1655 = .ok (.iadd, 1) := by decide +kernel
theorem dL_law_1656 : decode cL_law 1656 = .ok (.iaload, 1) := by decide +kernel
theorem dL_law_1657 : decode cL_law 1657 = .ok (.invokevirtual 132, 3) := by decide +kernel
theorem dL_law_1660 : decode cL_law 1660 = .ok (.pop, 1) := by decide +kernel
theorem dL_law_1661 : decode cL_law 1661 = .ok (.aload_n 2, 1) := by decide +kernel
theorem dL_law_1662 : decode cL_law 1662 = .ok (.aload_n 0, 1) := by decide +kernel
theorem dL_law_1663 : decode cL_law 1663 = .ok (.iload 4, 2) := by decide +kernel
theorem dL_law_1665 : decode cL_law 1665 = .ok (.iconst 1, 1) := by decide +kernel
theorem dL_law_1666 : decode cL_law 1666 = .ok (.iadd, 1) := by decide +kernel
theorem dL_law_1667 : decode cL_law 1667 = .ok (.iaload, 1) := by decide +kernel
theorem dL_law_1668 : decode cL_law 1668 = .ok (.aload_n 0, 1) := by decide +kernel
theorem dL_law_1669 : decode cL_law 1669 = .ok (.iload 4, 2) := by decide +kernel
theorem dL_law_1671 : decode cL_law 1671 = .ok (.iconst 2, 1) := by decide +kernel
theorem dL_law_1672 : decode cL_law 1672 = .ok (.iadd, 1) := by decide +kernel
theorem dL_law_1673 : decode cL_law 1673 = .ok (.iaload, 1) := by decide +kernel
theorem dL_law_1674 : decode cL_law 1674 = .ok (.aload_n 0, 1) := by decide +kernel
theorem dL_law_1675 : decode cL_law 1675 = .ok (.iload 4, 2) := by decide +kernel
theorem dL_law_1677 : decode cL_law 1677 = .ok (.iconst 3, 1) := by decide +kernel
theorem dL_law_1678 : decode cL_law 1678 = .ok (.iadd, 1) := by decide +kernel
theorem dL_law_1679 : decode cL_law 1679 = .ok (.iaload, 1) := by decide +kernel
theorem dL_law_1680 : decode cL_law 1680 = .ok (.invokevirtual 135, 3) := by decide +kernel
theorem dL_law_1683 : decode cL_law 1683 = .ok (.pop, 1) := by decide +kernel
theorem dL_law_1684 : decode cL_law 1684 = .ok (.goto 328, 3) := by decide +kernel
set_option maxHeartbeats 4000000 in
set_option maxRecDepth 100000 in
theorem law_parts (l : Launch) (hst : l.stackTraces = false) {p : Program} {e : Env} {s : State} {m : MethodId} {below : List Frame} {meth : Method} {c : Code} {bs L : Nat} {xs : Nat → Int32} (C0 : lw_At p s m meth c bs L xs) (dC : Nat → ClassId) (dI : Nat → Nat → Nat) (A : Nat → Prop) (hAe : ∀ q, A q ↔ s.heap.size ≤ q) (x : Nat) (pa : Nat) (bk : Nat) (xsp : Nat) (xdy : Nat) (le : Nat) (xst : Nat) (xsc : Int32) (xim : Nat) (xil : Nat) (xik : Int32) (xmo : Nat) (xom : Nat) (wi : Nat) (bto : Nat) (bnm : Nat) (bla : Nat) (bsk : Nat) (bru : Nat) (bbo : Nat) (bdi : Nat) (bda : Nat) (bdk : Nat) (bdt : Nat) (bdp : Nat) (bno : Nat) (cTo : ClassId) (fTo : Nat → Int32) (cLa : ClassId) (La : Nat → Nat) (FI : Nat → Int32) (GR : Nat → Int32) (FR : Nat → Int32) (mq : Nat) (g : Nat → Int32) (gl : Nat → Int64) (rf : Nat → Nat) (ck : Nat → ClassId) (f_landHas : Nat → Int32) (o3 : Nat) (hln0 : ¬ (g 12) < 0) (hln4 : (g 12) ≤ 4) (sL : Nat → Nat)  (i y1 y2 y3 : Int32) (hi1 : vp_in (i + 1) L) (hy1 : xs (i + 1).toNatClampNeg = y1) (hi2 : vp_in (i + 2) L) (hy2 : xs (i + 2).toNatClampNeg = y2) (hi3 : vp_in (i + 3) L) (hy3 : xs (i + 3).toNatClampNeg = y3)  (Bp : Nat → Prop) (H0 : Heap) (locs : List Loc) (ls : Array Slot) (ce sl : Nat) (hce : ce + 1 ≤ 601024) (hsl : sl + 6 ≤ 7293034) (hK : va_K (dC, dI) vwCl [(cTo, .int), (cLa, .object RX1), ((ck 29), .int)] s) (hP : va_P (dC, dI) vwCl [(x, .inr (11, [.ref pa, .ref bk, .ref xsp, .ref xdy, .ref le, .ref xst, .int xsc, .ref xim, .ref xil, .int xik, .ref xmo, .ref xom, .ref wi])), (bk, .inr (0, [.ref bto, .ref bnm, .ref bla, .ref bsk, .ref bru, .ref bbo, .ref bdi, .ref bda, .ref bdk, .ref bdt, .ref bdp, .ref bno])), (bto, .inl (cTo, 5, .inl fTo)), (bla, .inl (cLa, 4, .inr (.inr (.inr (.inr (fun k => some (La k))))))), ((La 0), .inr (1, [.int (FI 0), .int (GR 0), .int (FR 0)])), ((La 1), .inr (1, [.int (FI 1), .int (GR 1), .int (FR 1)])), ((La 2), .inr (1, [.int (FI 2), .int (GR 2), .int (FR 2)])), ((La 3), .inr (1, [.int (FI 3), .int (GR 3), .int (FR 3)])), (mq, .inr (12, mF g gl rf)), ((rf 29), .inl ((ck 29), 24, .inl f_landHas))] H0) (hD : va_D A [(x, .inr (11, [.ref pa, .ref bk, .ref xsp, .ref xdy, .ref le, .ref xst, .int xsc, .ref xim, .ref xil, .int xik, .ref xmo, .ref xom, .ref wi])), (bk, .inr (0, [.ref bto, .ref bnm, .ref bla, .ref bsk, .ref bru, .ref bbo, .ref bdi, .ref bda, .ref bdk, .ref bdt, .ref bdp, .ref bno])), (bto, .inl (cTo, 5, .inl fTo)), (bla, .inl (cLa, 4, .inr (.inr (.inr (.inr (fun k => some (La k))))))), ((La 0), .inr (1, [.int (FI 0), .int (GR 0), .int (FR 0)])), ((La 1), .inr (1, [.int (FI 1), .int (GR 1), .int (FR 1)])), ((La 2), .inr (1, [.int (FI 2), .int (GR 2), .int (FR 2)])), ((La 3), .inr (1, [.int (FI 3), .int (GR 3), .int (FR 3)])), (mq, .inr (12, mF g gl rf)), ((rf 29), .inl ((ck 29), 24, .inl f_landHas))]) (hBs : yB Bp [(x, .inr (11, [.ref pa, .ref bk, .ref xsp, .ref xdy, .ref le, .ref xst, .int xsc, .ref xim, .ref xil, .int xik, .ref xmo, .ref xom, .ref wi])), (bk, .inr (0, [.ref bto, .ref bnm, .ref bla, .ref bsk, .ref bru, .ref bbo, .ref bdi, .ref bda, .ref bdk, .ref bdt, .ref bdp, .ref bno])), (bto, .inl (cTo, 5, .inl fTo)), (bla, .inl (cLa, 4, .inr (.inr (.inr (.inr (fun k => some (La k))))))), ((La 0), .inr (1, [.int (FI 0), .int (GR 0), .int (FR 0)])), ((La 1), .inr (1, [.int (FI 1), .int (GR 1), .int (FR 1)])), ((La 2), .inr (1, [.int (FI 2), .int (GR 2), .int (FR 2)])), ((La 3), .inr (1, [.int (FI 3), .int (GR 3), .int (FR 3)])), (mq, .inr (12, mF g gl rf)), ((rf 29), .inl ((ck 29), 24, .inl f_landHas))]) (hS : va_S A s.heap H0 locs) (hl : lv_has ls 7 [(4, .int i), (3, .ref o3), (2, .ref mq), (1, .ref x), (0, .ref bs)]) (kk1 : ∀ (r_4 : Int32), r_4 = (fx_parts fTo FI GR FR y1 y2 y3) → ∀ (X_11 : Int32 × (Int32)), X_11 = (fq_parts f_landHas y1 y2 y3 (g 12)) → ∀ (r_8 : Int32), r_8 = X_11.1 → ∀ (u_9 : (Int32)), u_9 = X_11.2 → ∀ (H : Heap) (locs : List Loc) (ls : Array Slot), va_P (dC, dI) vwCl [(x, .inr (11, [.ref pa, .ref bk, .ref xsp, .ref xdy, .ref le, .ref xst, .int xsc, .ref xim, .ref xil, .int xik, .ref xmo, .ref xom, .ref wi])), (bk, .inr (0, [.ref bto, .ref bnm, .ref bla, .ref bsk, .ref bru, .ref bbo, .ref bdi, .ref bda, .ref bdk, .ref bdt, .ref bdp, .ref bno])), (bto, .inl (cTo, 5, .inl fTo)), (bla, .inl (cLa, 4, .inr (.inr (.inr (.inr (fun k => some (La k))))))), ((La 0), .inr (1, [.int (FI 0), .int (GR 0), .int (FR 0)])), ((La 1), .inr (1, [.int (FI 1), .int (GR 1), .int (FR 1)])), ((La 2), .inr (1, [.int (FI 2), .int (GR 2), .int (FR 2)])), ((La 3), .inr (1, [.int (FI 3), .int (GR 3), .int (FR 3)])), (mq, .inr (12, mF (upd g 2 u_9) gl rf)), ((rf 29), .inl ((ck 29), 24, .inl f_landHas))] H → va_S A s.heap H locs → lv_has ls 7 [(4, .int i), (3, .ref o3), (2, .ref mq), (1, .ref x), (0, .ref bs)] → H0.size ≤ H.size → (∀ q : Nat, q < H0.size → ¬ Bp q → H[q]? = H0[q]?) → W p l e room_1 s m #[Value.ref bs] below meth c H locs (ce + 1) (sl + 6) (lw_Z below #[Value.ref bs] s) (F0 m 2012 ls [])) : W p l e room_1 s m #[Value.ref bs] below meth c H0 locs ce sl (lw_Z below #[Value.ref bs] s) (F0 m 1638 ls []) := by
  obtain ⟨hx, hb, hr, hml, hown, hts, hX, hbl, hlocks, hgv⟩ := id C0
  have htw : ∀ w ∈ wsL_law, w.before _ s = true := fun w h => hts w (wsL_law_in w h)
  have hown : s.vm.findClass RL = some m.cls := hown
  have hA : ∀ q : Nat, s.heap.size ≤ q → A q := fun q h => (hAe q).mpr h
  have hbA : ¬ A bs := fun h => absurd ((hAe bs).mp h) (Nat.not_le.mpr hbl)
  obtain ⟨H, rH⟩ : ∃ z : Heap, z = H0 := ⟨_, rfl⟩
  have hfr : ∀ q : Nat, q < H0.size → ¬ Bp q → H[q]? = H0[q]? := fun q _ _ => by rw [rH]
  have hz0 : H0.size ≤ H.size := by rw [rH]; exact Nat.le_refl _
  rw [← rH] at hP hS ⊢
  refine lv_aload_n hx hb dL_law_1638 rfl (lv_at hl 3 rfl) ?_
  refine lv_aload_n hx hb dL_law_1639 rfl (lv_at hl 4 rfl) ?_
  refine lv_iload hx hb dL_law_1640 (lv_at hl 0 rfl) ?_
  refine lv_iconst (v := 1) hx hb dL_law_1642 (by decide) ?_
  refine lv_iadd hx hb dL_law_1643 ?_
  refine va_sld hx hb hX hbl hbA hS hi1 dL_law_1644 ?_
  rw [hy1]
  refine lv_aload_n hx hb dL_law_1645 rfl (lv_at hl 4 rfl) ?_
  refine lv_iload hx hb dL_law_1646 (lv_at hl 0 rfl) ?_
  refine lv_iconst (v := 2) hx hb dL_law_1648 (by decide) ?_
  refine lv_iadd hx hb dL_law_1649 ?_
  refine va_sld hx hb hX hbl hbA hS hi2 dL_law_1650 ?_
  rw [hy2]
  refine lv_aload_n hx hb dL_law_1651 rfl (lv_at hl 4 rfl) ?_
  refine lv_iload hx hb dL_law_1652 (lv_at hl 0 rfl) ?_
  refine lv_iconst (v := 3) hx hb dL_law_1654 (by decide) ?_
  refine lv_iadd hx hb dL_law_1655 ?_
  refine va_sld hx hb hX hbl hbA hS hi3 dL_law_1656 ?_
  rw [hy3]
  have hPc := hP.sub (ws' := [(x, .inr (11, [.ref pa, .ref bk, .ref xsp, .ref xdy, .ref le, .ref xst, .int xsc, .ref xim, .ref xil, .int xik, .ref xmo, .ref xom, .ref wi])), (bk, .inr (0, [.ref bto, .ref bnm, .ref bla, .ref bsk, .ref bru, .ref bbo, .ref bdi, .ref bda, .ref bdk, .ref bdt, .ref bdp, .ref bno])), (bto, .inl (cTo, 5, .inl fTo)), (bla, .inl (cLa, 4, .inr (.inr (.inr (.inr (fun k => some (La k))))))), ((La 0), .inr (1, [.int (FI 0), .int (GR 0), .int (FR 0)])), ((La 1), .inr (1, [.int (FI 1), .int (GR 1), .int (FR 1)])), ((La 2), .inr (1, [.int (FI 2), .int (GR 2), .int (FR 2)])), ((La 3), .inr (1, [.int (FI 3), .int (GR 3), .int (FR 3)]))]) [0, 1, 2, 3, 4, 5, 6, 7] rfl
  have hKc := hK.sub (tys' := [(cTo, .int), (cLa, .object RX1)]) [0, 1] rfl
  refine vp_callSi (W.runV (As := [.int y1, .int y2, .int y3]) (rest := []) ⟨hx, hb, hml, hown, htw⟩ (gx_parts l dC dI x pa bk xsp xdy le xst xsc xim xil xik xmo xom wi bto bnm bla bsk bru bbo bdi bda bdk bdt bdp bno cTo fTo cLa La FI GR FR y1 y2 y3) (cwV 3 htw (xg_V (ck_51 _ (List.mem_of_getElem? (i := 11) rfl)) (ck_51 _ (List.mem_of_getElem? (i := 12) rfl)) (ck_51 _ (List.mem_of_getElem? (i := 13) rfl)) (ck_1 _ (List.mem_of_getElem? (i := 2) rfl)) (ck_51 _ (List.mem_of_getElem? (i := 14) rfl))) rfl rfl rfl (by decide +kernel) ⟨Nat.le_of_ble_eq_true rfl, Nat.le_of_ble_eq_true rfl⟩) ⟨fun a U g mk q => by obtain ⟨q0, qP, qK⟩ := q; exact ⟨q0, qP, va_K.moved (u := U) (U := U.calling g mk a) (Vm.Alike.refl U.vm) qK⟩, va_recv hKc hPc (ci := 11) (q0 := 0) rfl rfl, fun U hU hW => ⟨rfl, by rw [hU]; exact hPc, va_K.moved hW.alike hKc⟩⟩ rfl rfl hl.1 rfl (lv_room (Nat.le_of_ble_eq_true rfl)) dL_law_1657 ⟨by first | exact Nat.le_of_ble_eq_true rfl | exact yR (n := 0) (by omega) rfl, by first | exact Nat.le_of_ble_eq_true rfl | exact yR2 (n := 0) (by omega) rfl⟩) (fun r_4 hw => ?_)
  try dsimp only at hw
  have hq_r_4 : r_4 = (fx_parts fTo FI GR FR y1 y2 y3) := hw
  refine lv_pop hx hb dL_law_1660 rfl ?_
  refine lv_aload_n hx hb dL_law_1661 rfl (lv_at hl 2 rfl) ?_
  refine lv_aload_n hx hb dL_law_1662 rfl (lv_at hl 4 rfl) ?_
  refine lv_iload hx hb dL_law_1663 (lv_at hl 0 rfl) ?_
  refine lv_iconst (v := 1) hx hb dL_law_1665 (by decide) ?_
  refine lv_iadd hx hb dL_law_1666 ?_
  refine va_sld hx hb hX hbl hbA hS hi1 dL_law_1667 ?_
  rw [hy1]
  refine lv_aload_n hx hb dL_law_1668 rfl (lv_at hl 4 rfl) ?_
  refine lv_iload hx hb dL_law_1669 (lv_at hl 0 rfl) ?_
  refine lv_iconst (v := 2) hx hb dL_law_1671 (by decide) ?_
  refine lv_iadd hx hb dL_law_1672 ?_
  refine va_sld hx hb hX hbl hbA hS hi2 dL_law_1673 ?_
  rw [hy2]
  refine lv_aload_n hx hb dL_law_1674 rfl (lv_at hl 4 rfl) ?_
  refine lv_iload hx hb dL_law_1675 (lv_at hl 0 rfl) ?_
  refine lv_iconst (v := 3) hx hb dL_law_1677 (by decide) ?_
  refine lv_iadd hx hb dL_law_1678 ?_
  refine va_sld hx hb hX hbl hbA hS hi3 dL_law_1679 ?_
  rw [hy3]
  have hPc := hP.sub (ws' := [(mq, .inr (12, mF g gl rf)), ((rf 29), .inl ((ck 29), 24, .inl f_landHas))]) [8, 9] rfl
  have hKc := hK.sub (tys' := [((ck 29), .int)]) [2] rfl
  have hDc := hD.sub (ws' := [(mq, .inr (12, mF g gl rf)), ((rf 29), .inl ((ck 29), 24, .inl f_landHas))]) [8, 9] (by decide) rfl
  have hFc := va_free (wc := [(mq, .inr (12, mF g gl rf)), ((rf 29), .inl ((ck 29), 24, .inl f_landHas))]) hD hS hA [8, 9] rfl
  refine va_calli (va_runV (As := [.int y1, .int y2, .int y3]) (rest := []) ⟨hx, hb, hml, hown, htw⟩ (gq_parts l dC dI mq g gl rf ck f_landHas y1 y2 y3 H.size hln0 hln4) (cwV 3 htw (xg_V (ck_51 _ (List.mem_of_getElem? (i := 15) rfl)) (ck_51 _ (List.mem_of_getElem? (i := 16) rfl)) (ck_51 _ (List.mem_of_getElem? (i := 17) rfl)) (ck_1 _ (List.mem_of_getElem? (i := 5) rfl)) (ck_51 _ (List.mem_of_getElem? (i := 18) rfl))) rfl rfl rfl (by decide +kernel) ⟨Nat.le_of_ble_eq_true rfl, Nat.le_of_ble_eq_true rfl⟩) ⟨fun a U g mk q => by obtain ⟨q0, q1, qP, qK, qD⟩ := q; exact ⟨q0, q1, qP, va_K.moved (u := U) (U := U.calling g mk a) (Vm.Alike.refl U.vm) qK, qD⟩, va_recv hKc hPc (ci := 12) (q0 := 0) rfl rfl, fun U hU hW => ⟨rfl, by rw [hU], by rw [hU]; exact hPc, va_K.moved hW.alike hKc, hDc.weaken (fun _ _ _ _ => trivial)⟩⟩ rfl rfl hl.1 rfl (lv_room (Nat.le_of_ble_eq_true rfl)) dL_law_1680 ⟨by first | exact Nat.le_of_ble_eq_true rfl | exact yR (n := 0) (by omega) rfl, by first | exact Nat.le_of_ble_eq_true rfl | exact yR2 (n := 0) (by omega) rfl⟩) hS (fun q _ h => hFc q h) hFc (fun r_8 u_9 t H1 locs ht hvm hw hB hz1 hk1 hS => ?_)
  try dsimp only at hw
  obtain ⟨hP1, hK1, hD1⟩ := hB
  rw [ht] at hP1
  have hK1 := va_K.moved hvm.symm hK1
  have hP1 : va_P (dC, dI) vwCl [(mq, .inr (12, mF (upd g 2 u_9) gl rf)), ((rf 29), .inl ((ck 29), 24, .inl f_landHas))] H1 := hP1
  have hD1 : va_D (va_A [(mq, .inr (12, mF g gl rf)), ((rf 29), .inl ((ck 29), 24, .inl f_landHas))] H.size) [(mq, .inr (12, mF (upd g 2 u_9) gl rf)), ((rf 29), .inl ((ck 29), 24, .inl f_landHas))] := hD1
  have hK1 : va_K (dC, dI) vwCl [] s := hK1
  obtain ⟨hP, hD⟩ := va_join (wr := [(x, .inr (11, [.ref pa, .ref bk, .ref xsp, .ref xdy, .ref le, .ref xst, .int xsc, .ref xim, .ref xil, .int xik, .ref xmo, .ref xom, .ref wi])), (bk, .inr (0, [.ref bto, .ref bnm, .ref bla, .ref bsk, .ref bru, .ref bbo, .ref bdi, .ref bda, .ref bdk, .ref bdt, .ref bdp, .ref bno])), (bto, .inl (cTo, 5, .inl fTo)), (bla, .inl (cLa, 4, .inr (.inr (.inr (.inr (fun k => some (La k))))))), ((La 0), .inr (1, [.int (FI 0), .int (GR 0), .int (FR 0)])), ((La 1), .inr (1, [.int (FI 1), .int (GR 1), .int (FR 1)])), ((La 2), .inr (1, [.int (FI 2), .int (GR 2), .int (FR 2)])), ((La 3), .inr (1, [.int (FI 3), .int (GR 3), .int (FR 3)]))]) (w1 := [(mq, .inr (12, mF (upd g 2 u_9) gl rf)), ((rf 29), .inl ((ck 29), 24, .inl f_landHas))]) hP hD [8, 9] [0, 1, 2, 3, 4, 5, 6, 7] rfl rfl (by decide) (by decide) hk1 hFc hP1 hD1
  have hfr := yF (wc := [(mq, .inr (12, mF g gl rf)), ((rf 29), .inl ((ck 29), 24, .inl f_landHas))]) hBs [8, 9] rfl hz0 hfr hk1
  have hz0 := Nat.le_trans hz0 hz1
  generalize H1 = H at hP hS hfr hz0 ⊢
  have hP : va_P (dC, dI) vwCl [(x, .inr (11, [.ref pa, .ref bk, .ref xsp, .ref xdy, .ref le, .ref xst, .int xsc, .ref xim, .ref xil, .int xik, .ref xmo, .ref xom, .ref wi])), (bk, .inr (0, [.ref bto, .ref bnm, .ref bla, .ref bsk, .ref bru, .ref bbo, .ref bdi, .ref bda, .ref bdk, .ref bdt, .ref bdp, .ref bno])), (bto, .inl (cTo, 5, .inl fTo)), (bla, .inl (cLa, 4, .inr (.inr (.inr (.inr (fun k => some (La k))))))), ((La 0), .inr (1, [.int (FI 0), .int (GR 0), .int (FR 0)])), ((La 1), .inr (1, [.int (FI 1), .int (GR 1), .int (FR 1)])), ((La 2), .inr (1, [.int (FI 2), .int (GR 2), .int (FR 2)])), ((La 3), .inr (1, [.int (FI 3), .int (GR 3), .int (FR 3)])), (mq, .inr (12, mF (upd g 2 u_9) gl rf)), ((rf 29), .inl ((ck 29), 24, .inl f_landHas))] H := hP
  have hD : va_D A [(x, .inr (11, [.ref pa, .ref bk, .ref xsp, .ref xdy, .ref le, .ref xst, .int xsc, .ref xim, .ref xil, .int xik, .ref xmo, .ref xom, .ref wi])), (bk, .inr (0, [.ref bto, .ref bnm, .ref bla, .ref bsk, .ref bru, .ref bbo, .ref bdi, .ref bda, .ref bdk, .ref bdt, .ref bdp, .ref bno])), (bto, .inl (cTo, 5, .inl fTo)), (bla, .inl (cLa, 4, .inr (.inr (.inr (.inr (fun k => some (La k))))))), ((La 0), .inr (1, [.int (FI 0), .int (GR 0), .int (FR 0)])), ((La 1), .inr (1, [.int (FI 1), .int (GR 1), .int (FR 1)])), ((La 2), .inr (1, [.int (FI 2), .int (GR 2), .int (FR 2)])), ((La 3), .inr (1, [.int (FI 3), .int (GR 3), .int (FR 3)])), (mq, .inr (12, mF (upd g 2 u_9) gl rf)), ((rf 29), .inl ((ck 29), 24, .inl f_landHas))] := hD
  refine W.widen (k := ce + 0) (n := sl + 0) (by omega) (by omega) ?_
  obtain ⟨X_11, hX_11⟩ : ∃ X9 : Int32 × (Int32), X9 = (fq_parts f_landHas y1 y2 y3 (g 12)) := ⟨_, rfl⟩
  have hq_r_8 : r_8 = X_11.1 := by rw [hX_11]; exact hw.1
  have hq_u_9 : u_9 = X_11.2 := by rw [hX_11]; exact hw.2
  refine lv_pop hx hb dL_law_1683 rfl ?_
  refine lv_goto (tgt := 2012) hx hb dL_law_1684 (by decide) ?_
  refine W.widen (k := ce + 1) (n := sl + 6) (by omega) (by omega) ?_
  exact kk1 r_4 hq_r_4 X_11 hX_11 r_8 hq_r_8 u_9 hq_u_9 H locs ls (hP.sub (ws' := [(x, .inr (11, [.ref pa, .ref bk, .ref xsp, .ref xdy, .ref le, .ref xst, .int xsc, .ref xim, .ref xil, .int xik, .ref xmo, .ref xom, .ref wi])), (bk, .inr (0, [.ref bto, .ref bnm, .ref bla, .ref bsk, .ref bru, .ref bbo, .ref bdi, .ref bda, .ref bdk, .ref bdt, .ref bdp, .ref bno])), (bto, .inl (cTo, 5, .inl fTo)), (bla, .inl (cLa, 4, .inr (.inr (.inr (.inr (fun k => some (La k))))))), ((La 0), .inr (1, [.int (FI 0), .int (GR 0), .int (FR 0)])), ((La 1), .inr (1, [.int (FI 1), .int (GR 1), .int (FR 1)])), ((La 2), .inr (1, [.int (FI 2), .int (GR 2), .int (FR 2)])), ((La 3), .inr (1, [.int (FI 3), .int (GR 3), .int (FR 3)])), (mq, .inr (12, mF (upd g 2 u_9) gl rf)), ((rf 29), .inl ((ck 29), 24, .inl f_landHas))]) [0, 1, 2, 3, 4, 5, 6, 7, 8, 9] rfl) hS (lv_sub hl [0, 1, 2, 3, 4] rfl) hz0 hfr

theorem dL_law_1687 : decode cL_law 1687 = .ok (.aload_n 1, 1) := by decide +kernel
theorem dL_law_1688 : decode cL_law 1688 = .ok (.aload_n 0, 1) := by decide +kernel
theorem dL_law_1689 : decode cL_law 1689 = .ok (.iload 4, 2) := by decide +kernel
theorem dL_law_1691 : decode cL_law 1691 = .ok (.iconst 1, 1) := by decide +kernel
theorem dL_law_1692 : decode cL_law 1692 = .ok (.iadd, 1) := by decide +kernel
theorem dL_law_1693 : decode cL_law 1693 = .ok (.iaload, 1) := by decide +kernel
theorem dL_law_1694 : decode cL_law 1694 = .ok (.aload_n 0, 1) := by decide +kernel
theorem dL_law_1695 : decode cL_law 1695 = .ok (.iload 4, 2) := by decide +kernel
theorem dL_law_1697 : decode cL_law 1697 = .ok (.iconst 2, 1) := by decide +kernel
theorem dL_law_1698 : decode cL_law 1698 = .ok (.iadd, 1) := by decide +kernel
theorem dL_law_1699 : decode cL_law 1699 = .ok (.iaload, 1) := by decide +kernel
theorem dL_law_1700 : decode cL_law 1700 = .ok (.aload_n 0, 1) := by decide +kernel
theorem dL_law_1701 : decode cL_law 1701 = .ok (.iload 4, 2) := by decide +kernel
theorem dL_law_1703 : decode cL_law 1703 = .ok (.iconst 3, 1) := by decide +kernel
theorem dL_law_1704 : decode cL_law 1704 = .ok (.iadd, 1) := by decide +kernel
theorem dL_law_1705 : decode cL_law 1705 = .ok (.iaload, 1) := by decide +kernel
theorem dL_law_1706 : decode cL_law 1706 = .ok (.invokevirtual 136, 3) := by decide +kernel
theorem dL_law_1709 : decode cL_law 1709 = .ok (.pop, 1) := by decide +kernel
theorem dL_law_1710 : decode cL_law 1710 = .ok (.aload_n 2, 1) := by decide +kernel
theorem dL_law_1711 : decode cL_law 1711 = .ok (.aload_n 0, 1) := by decide +kernel
theorem dL_law_1712 : decode cL_law 1712 = .ok (.iload 4, 2) := by decide +kernel
theorem dL_law_1714 : decode cL_law 1714 = .ok (.iconst 1, 1) := by decide +kernel
theorem dL_law_1715 : decode cL_law 1715 = .ok (.iadd, 1) := by decide +kernel
theorem dL_law_1716 : decode cL_law 1716 = .ok (.iaload, 1) := by decide +kernel
theorem dL_law_1717 : decode cL_law 1717 = .ok (.aload_n 0, 1) := by decide +kernel
theorem dL_law_1718 : decode cL_law 1718 = .ok (.iload 4, 2) := by decide +kernel
theorem dL_law_1720 : decode cL_law 1720 = .ok (.iconst 2, 1) := by decide +kernel
theorem dL_law_1721 : decode cL_law 1721 = .ok (.iadd, 1) := by decide +kernel
theorem dL_law_1722 : decode cL_law 1722 = .ok (.iaload, 1) := by decide +kernel
theorem dL_law_1723 : decode cL_law 1723 = .ok (.aload_n 0, 1) := by decide +kernel
theorem dL_law_1724 : decode cL_law 1724 = .ok (.iload 4, 2) := by decide +kernel
theorem dL_law_1726 : decode cL_law 1726 = .ok (.iconst 3, 1) := by decide +kernel
theorem dL_law_1727 : decode cL_law 1727 = .ok (.iadd, 1) := by decide +kernel
theorem dL_law_1728 : decode cL_law 1728 = .ok (.iaload, 1) := by decide +kernel
theorem dL_law_1729 : decode cL_law 1729 = .ok (.invokevirtual 139, 3) := by decide +kernel
theorem dL_law_1732 : decode cL_law 1732 = .ok (.pop, 1) := by decide +kernel
theorem dL_law_1733 : decode cL_law 1733 = .ok (.goto 279, 3) := by decide +kernel
set_option maxHeartbeats 4000000 in
set_option maxRecDepth 100000 in
theorem law_months (l : Launch) (hst : l.stackTraces = false) {p : Program} {e : Env} {s : State} {m : MethodId} {below : List Frame} {meth : Method} {c : Code} {bs L : Nat} {xs : Nat → Int32} (C0 : lw_At p s m meth c bs L xs) (dC : Nat → ClassId) (dI : Nat → Nat → Nat) (A : Nat → Prop) (hAe : ∀ q, A q ↔ s.heap.size ≤ q) (x : Nat) (pa : Nat) (bk : Nat) (xsp : Nat) (xdy : Nat) (le : Nat) (xst : Nat) (xsc : Int32) (xim : Nat) (xil : Nat) (xik : Int32) (xmo : Nat) (xom : Nat) (wi : Nat) (bto : Nat) (bnm : Nat) (bla : Nat) (bsk : Nat) (bru : Nat) (bbo : Nat) (bdi : Nat) (bda : Nat) (bdk : Nat) (bdt : Nat) (bdp : Nat) (bno : Nat) (cTo : ClassId) (fTo : Nat → Int32) (cLa : ClassId) (La : Nat → Nat) (FI : Nat → Int32) (GR : Nat → Int32) (FR : Nat → Int32) (mq : Nat) (g : Nat → Int32) (gl : Nat → Int64) (rf : Nat → Nat) (ck : Nat → ClassId) (f_landHas : Nat → Int32) (o3 : Nat) (hln0 : ¬ (g 12) < 0) (hln4 : (g 12) ≤ 4) (sL : Nat → Nat)  (i y1 y2 y3 : Int32) (hi1 : vp_in (i + 1) L) (hy1 : xs (i + 1).toNatClampNeg = y1) (hi2 : vp_in (i + 2) L) (hy2 : xs (i + 2).toNatClampNeg = y2) (hi3 : vp_in (i + 3) L) (hy3 : xs (i + 3).toNatClampNeg = y3)  (Bp : Nat → Prop) (H0 : Heap) (locs : List Loc) (ls : Array Slot) (ce sl : Nat) (hce : ce + 1 ≤ 601024) (hsl : sl + 6 ≤ 7293034) (hK : va_K (dC, dI) vwCl [(cTo, .int), (cLa, .object RX1), ((ck 29), .int)] s) (hP : va_P (dC, dI) vwCl [(x, .inr (11, [.ref pa, .ref bk, .ref xsp, .ref xdy, .ref le, .ref xst, .int xsc, .ref xim, .ref xil, .int xik, .ref xmo, .ref xom, .ref wi])), (bk, .inr (0, [.ref bto, .ref bnm, .ref bla, .ref bsk, .ref bru, .ref bbo, .ref bdi, .ref bda, .ref bdk, .ref bdt, .ref bdp, .ref bno])), (bto, .inl (cTo, 5, .inl fTo)), (bla, .inl (cLa, 4, .inr (.inr (.inr (.inr (fun k => some (La k))))))), ((La 0), .inr (1, [.int (FI 0), .int (GR 0), .int (FR 0)])), ((La 1), .inr (1, [.int (FI 1), .int (GR 1), .int (FR 1)])), ((La 2), .inr (1, [.int (FI 2), .int (GR 2), .int (FR 2)])), ((La 3), .inr (1, [.int (FI 3), .int (GR 3), .int (FR 3)])), (mq, .inr (12, mF g gl rf)), ((rf 29), .inl ((ck 29), 24, .inl f_landHas))] H0) (hD : va_D A [(x, .inr (11, [.ref pa, .ref bk, .ref xsp, .ref xdy, .ref le, .ref xst, .int xsc, .ref xim, .ref xil, .int xik, .ref xmo, .ref xom, .ref wi])), (bk, .inr (0, [.ref bto, .ref bnm, .ref bla, .ref bsk, .ref bru, .ref bbo, .ref bdi, .ref bda, .ref bdk, .ref bdt, .ref bdp, .ref bno])), (bto, .inl (cTo, 5, .inl fTo)), (bla, .inl (cLa, 4, .inr (.inr (.inr (.inr (fun k => some (La k))))))), ((La 0), .inr (1, [.int (FI 0), .int (GR 0), .int (FR 0)])), ((La 1), .inr (1, [.int (FI 1), .int (GR 1), .int (FR 1)])), ((La 2), .inr (1, [.int (FI 2), .int (GR 2), .int (FR 2)])), ((La 3), .inr (1, [.int (FI 3), .int (GR 3), .int (FR 3)])), (mq, .inr (12, mF g gl rf)), ((rf 29), .inl ((ck 29), 24, .inl f_landHas))]) (hBs : yB Bp [(x, .inr (11, [.ref pa, .ref bk, .ref xsp, .ref xdy, .ref le, .ref xst, .int xsc, .ref xim, .ref xil, .int xik, .ref xmo, .ref xom, .ref wi])), (bk, .inr (0, [.ref bto, .ref bnm, .ref bla, .ref bsk, .ref bru, .ref bbo, .ref bdi, .ref bda, .ref bdk, .ref bdt, .ref bdp, .ref bno])), (bto, .inl (cTo, 5, .inl fTo)), (bla, .inl (cLa, 4, .inr (.inr (.inr (.inr (fun k => some (La k))))))), ((La 0), .inr (1, [.int (FI 0), .int (GR 0), .int (FR 0)])), ((La 1), .inr (1, [.int (FI 1), .int (GR 1), .int (FR 1)])), ((La 2), .inr (1, [.int (FI 2), .int (GR 2), .int (FR 2)])), ((La 3), .inr (1, [.int (FI 3), .int (GR 3), .int (FR 3)])), (mq, .inr (12, mF g gl rf)), ((rf 29), .inl ((ck 29), 24, .inl f_landHas))]) (hS : va_S A s.heap H0 locs) (hl : lv_has ls 7 [(4, .int i), (3, .ref o3), (2, .ref mq), (1, .ref x), (0, .ref bs)]) (kk1 : ∀ (r_4 : Int32), r_4 = (fx_months fTo FI GR FR y1 y2 y3) → ∀ (X_11 : Int32 × (Int32)), X_11 = (fq_months f_landHas y1 y2 y3 (g 12)) → ∀ (r_8 : Int32), r_8 = X_11.1 → ∀ (u_9 : (Int32)), u_9 = X_11.2 → ∀ (H : Heap) (locs : List Loc) (ls : Array Slot), va_P (dC, dI) vwCl [(x, .inr (11, [.ref pa, .ref bk, .ref xsp, .ref xdy, .ref le, .ref xst, .int xsc, .ref xim, .ref xil, .int xik, .ref xmo, .ref xom, .ref wi])), (bk, .inr (0, [.ref bto, .ref bnm, .ref bla, .ref bsk, .ref bru, .ref bbo, .ref bdi, .ref bda, .ref bdk, .ref bdt, .ref bdp, .ref bno])), (bto, .inl (cTo, 5, .inl fTo)), (bla, .inl (cLa, 4, .inr (.inr (.inr (.inr (fun k => some (La k))))))), ((La 0), .inr (1, [.int (FI 0), .int (GR 0), .int (FR 0)])), ((La 1), .inr (1, [.int (FI 1), .int (GR 1), .int (FR 1)])), ((La 2), .inr (1, [.int (FI 2), .int (GR 2), .int (FR 2)])), ((La 3), .inr (1, [.int (FI 3), .int (GR 3), .int (FR 3)])), (mq, .inr (12, mF (upd g 2 u_9) gl rf)), ((rf 29), .inl ((ck 29), 24, .inl f_landHas))] H → va_S A s.heap H locs → lv_has ls 7 [(4, .int i), (3, .ref o3), (2, .ref mq), (1, .ref x), (0, .ref bs)] → H0.size ≤ H.size → (∀ q : Nat, q < H0.size → ¬ Bp q → H[q]? = H0[q]?) → W p l e room_1 s m #[Value.ref bs] below meth c H locs (ce + 1) (sl + 6) (lw_Z below #[Value.ref bs] s) (F0 m 2012 ls [])) : W p l e room_1 s m #[Value.ref bs] below meth c H0 locs ce sl (lw_Z below #[Value.ref bs] s) (F0 m 1687 ls []) := by
  obtain ⟨hx, hb, hr, hml, hown, hts, hX, hbl, hlocks, hgv⟩ := id C0
  have htw : ∀ w ∈ wsL_law, w.before _ s = true := fun w h => hts w (wsL_law_in w h)
  have hown : s.vm.findClass RL = some m.cls := hown
  have hA : ∀ q : Nat, s.heap.size ≤ q → A q := fun q h => (hAe q).mpr h
  have hbA : ¬ A bs := fun h => absurd ((hAe bs).mp h) (Nat.not_le.mpr hbl)
  obtain ⟨H, rH⟩ : ∃ z : Heap, z = H0 := ⟨_, rfl⟩
  have hfr : ∀ q : Nat, q < H0.size → ¬ Bp q → H[q]? = H0[q]? := fun q _ _ => by rw [rH]
  have hz0 : H0.size ≤ H.size := by rw [rH]; exact Nat.le_refl _
  rw [← rH] at hP hS ⊢
  refine lv_aload_n hx hb dL_law_1687 rfl (lv_at hl 3 rfl) ?_
  refine lv_aload_n hx hb dL_law_1688 rfl (lv_at hl 4 rfl) ?_
  refine lv_iload hx hb dL_law_1689 (lv_at hl 0 rfl) ?_
  refine lv_iconst (v := 1) hx hb dL_law_1691 (by decide) ?_
  refine lv_iadd hx hb dL_law_1692 ?_
  refine va_sld hx hb hX hbl hbA hS hi1 dL_law_1693 ?_
  rw [hy1]
  refine lv_aload_n hx hb dL_law_1694 rfl (lv_at hl 4 rfl) ?_
  refine lv_iload hx hb dL_law_1695 (lv_at hl 0 rfl) ?_
  refine lv_iconst (v := 2) hx hb dL_law_1697 (by decide) ?_
  refine lv_iadd hx hb dL_law_1698 ?_
  refine va_sld hx hb hX hbl hbA hS hi2 dL_law_1699 ?_
  rw [hy2]
  refine lv_aload_n hx hb dL_law_1700 rfl (lv_at hl 4 rfl) ?_
  refine lv_iload hx hb dL_law_1701 (lv_at hl 0 rfl) ?_
  refine lv_iconst (v := 3) hx hb dL_law_1703 (by decide) ?_
  refine lv_iadd hx hb dL_law_1704 ?_
  refine va_sld hx hb hX hbl hbA hS hi3 dL_law_1705 ?_
  rw [hy3]
  have hPc := hP.sub (ws' := [(x, .inr (11, [.ref pa, .ref bk, .ref xsp, .ref xdy, .ref le, .ref xst, .int xsc, .ref xim, .ref xil, .int xik, .ref xmo, .ref xom, .ref wi])), (bk, .inr (0, [.ref bto, .ref bnm, .ref bla, .ref bsk, .ref bru, .ref bbo, .ref bdi, .ref bda, .ref bdk, .ref bdt, .ref bdp, .ref bno])), (bto, .inl (cTo, 5, .inl fTo)), (bla, .inl (cLa, 4, .inr (.inr (.inr (.inr (fun k => some (La k))))))), ((La 0), .inr (1, [.int (FI 0), .int (GR 0), .int (FR 0)])), ((La 1), .inr (1, [.int (FI 1), .int (GR 1), .int (FR 1)])), ((La 2), .inr (1, [.int (FI 2), .int (GR 2), .int (FR 2)])), ((La 3), .inr (1, [.int (FI 3), .int (GR 3), .int (FR 3)]))]) [0, 1, 2, 3, 4, 5, 6, 7] rfl
  have hKc := hK.sub (tys' := [(cTo, .int), (cLa, .object RX1)]) [0, 1] rfl
  refine vp_callSi (W.runV (As := [.int y1, .int y2, .int y3]) (rest := []) ⟨hx, hb, hml, hown, htw⟩ (gx_months l dC dI x pa bk xsp xdy le xst xsc xim xil xik xmo xom wi bto bnm bla bsk bru bbo bdi bda bdk bdt bdp bno cTo fTo cLa La FI GR FR y1 y2 y3) (cwV 3 htw (xg_V (ck_51 _ (List.mem_of_getElem? (i := 19) rfl)) (ck_51 _ (List.mem_of_getElem? (i := 20) rfl)) (ck_51 _ (List.mem_of_getElem? (i := 21) rfl)) (ck_1 _ (List.mem_of_getElem? (i := 2) rfl)) (ck_51 _ (List.mem_of_getElem? (i := 22) rfl))) rfl rfl rfl (by decide +kernel) ⟨Nat.le_of_ble_eq_true rfl, Nat.le_of_ble_eq_true rfl⟩) ⟨fun a U g mk q => by obtain ⟨q0, qP, qK⟩ := q; exact ⟨q0, qP, va_K.moved (u := U) (U := U.calling g mk a) (Vm.Alike.refl U.vm) qK⟩, va_recv hKc hPc (ci := 11) (q0 := 0) rfl rfl, fun U hU hW => ⟨rfl, by rw [hU]; exact hPc, va_K.moved hW.alike hKc⟩⟩ rfl rfl hl.1 rfl (lv_room (Nat.le_of_ble_eq_true rfl)) dL_law_1706 ⟨by first | exact Nat.le_of_ble_eq_true rfl | exact yR (n := 0) (by omega) rfl, by first | exact Nat.le_of_ble_eq_true rfl | exact yR2 (n := 0) (by omega) rfl⟩) (fun r_4 hw => ?_)
  try dsimp only at hw
  have hq_r_4 : r_4 = (fx_months fTo FI GR FR y1 y2 y3) := hw
  refine lv_pop hx hb dL_law_1709 rfl ?_
  refine lv_aload_n hx hb dL_law_1710 rfl (lv_at hl 2 rfl) ?_
  refine lv_aload_n hx hb dL_law_1711 rfl (lv_at hl 4 rfl) ?_
  refine lv_iload hx hb dL_law_1712 (lv_at hl 0 rfl) ?_
  refine lv_iconst (v := 1) hx hb dL_law_1714 (by decide) ?_
  refine lv_iadd hx hb dL_law_1715 ?_
  refine va_sld hx hb hX hbl hbA hS hi1 dL_law_1716 ?_
  rw [hy1]
  refine lv_aload_n hx hb dL_law_1717 rfl (lv_at hl 4 rfl) ?_
  refine lv_iload hx hb dL_law_1718 (lv_at hl 0 rfl) ?_
  refine lv_iconst (v := 2) hx hb dL_law_1720 (by decide) ?_
  refine lv_iadd hx hb dL_law_1721 ?_
  refine va_sld hx hb hX hbl hbA hS hi2 dL_law_1722 ?_
  rw [hy2]
  refine lv_aload_n hx hb dL_law_1723 rfl (lv_at hl 4 rfl) ?_
  refine lv_iload hx hb dL_law_1724 (lv_at hl 0 rfl) ?_
  refine lv_iconst (v := 3) hx hb dL_law_1726 (by decide) ?_
  refine lv_iadd hx hb dL_law_1727 ?_
  refine va_sld hx hb hX hbl hbA hS hi3 dL_law_1728 ?_
  rw [hy3]
  have hPc := hP.sub (ws' := [(mq, .inr (12, mF g gl rf)), ((rf 29), .inl ((ck 29), 24, .inl f_landHas))]) [8, 9] rfl
  have hKc := hK.sub (tys' := [((ck 29), .int)]) [2] rfl
  have hDc := hD.sub (ws' := [(mq, .inr (12, mF g gl rf)), ((rf 29), .inl ((ck 29), 24, .inl f_landHas))]) [8, 9] (by decide) rfl
  have hFc := va_free (wc := [(mq, .inr (12, mF g gl rf)), ((rf 29), .inl ((ck 29), 24, .inl f_landHas))]) hD hS hA [8, 9] rfl
  refine va_calli (va_runV (As := [.int y1, .int y2, .int y3]) (rest := []) ⟨hx, hb, hml, hown, htw⟩ (gq_months l dC dI mq g gl rf ck f_landHas y1 y2 y3 H.size hln0 hln4) (cwV 3 htw (xg_V (ck_51 _ (List.mem_of_getElem? (i := 23) rfl)) (ck_52 _ (List.mem_of_getElem? (i := 0) rfl)) (ck_52 _ (List.mem_of_getElem? (i := 1) rfl)) (ck_1 _ (List.mem_of_getElem? (i := 5) rfl)) (ck_52 _ (List.mem_of_getElem? (i := 2) rfl))) rfl rfl rfl (by decide +kernel) ⟨Nat.le_of_ble_eq_true rfl, Nat.le_of_ble_eq_true rfl⟩) ⟨fun a U g mk q => by obtain ⟨q0, q1, qP, qK, qD⟩ := q; exact ⟨q0, q1, qP, va_K.moved (u := U) (U := U.calling g mk a) (Vm.Alike.refl U.vm) qK, qD⟩, va_recv hKc hPc (ci := 12) (q0 := 0) rfl rfl, fun U hU hW => ⟨rfl, by rw [hU], by rw [hU]; exact hPc, va_K.moved hW.alike hKc, hDc.weaken (fun _ _ _ _ => trivial)⟩⟩ rfl rfl hl.1 rfl (lv_room (Nat.le_of_ble_eq_true rfl)) dL_law_1729 ⟨by first | exact Nat.le_of_ble_eq_true rfl | exact yR (n := 0) (by omega) rfl, by first | exact Nat.le_of_ble_eq_true rfl | exact yR2 (n := 0) (by omega) rfl⟩) hS (fun q _ h => hFc q h) hFc (fun r_8 u_9 t H1 locs ht hvm hw hB hz1 hk1 hS => ?_)
  try dsimp only at hw
  obtain ⟨hP1, hK1, hD1⟩ := hB
  rw [ht] at hP1
  have hK1 := va_K.moved hvm.symm hK1
  have hP1 : va_P (dC, dI) vwCl [(mq, .inr (12, mF (upd g 2 u_9) gl rf)), ((rf 29), .inl ((ck 29), 24, .inl f_landHas))] H1 := hP1
  have hD1 : va_D (va_A [(mq, .inr (12, mF g gl rf)), ((rf 29), .inl ((ck 29), 24, .inl f_landHas))] H.size) [(mq, .inr (12, mF (upd g 2 u_9) gl rf)), ((rf 29), .inl ((ck 29), 24, .inl f_landHas))] := hD1
  have hK1 : va_K (dC, dI) vwCl [] s := hK1
  obtain ⟨hP, hD⟩ := va_join (wr := [(x, .inr (11, [.ref pa, .ref bk, .ref xsp, .ref xdy, .ref le, .ref xst, .int xsc, .ref xim, .ref xil, .int xik, .ref xmo, .ref xom, .ref wi])), (bk, .inr (0, [.ref bto, .ref bnm, .ref bla, .ref bsk, .ref bru, .ref bbo, .ref bdi, .ref bda, .ref bdk, .ref bdt, .ref bdp, .ref bno])), (bto, .inl (cTo, 5, .inl fTo)), (bla, .inl (cLa, 4, .inr (.inr (.inr (.inr (fun k => some (La k))))))), ((La 0), .inr (1, [.int (FI 0), .int (GR 0), .int (FR 0)])), ((La 1), .inr (1, [.int (FI 1), .int (GR 1), .int (FR 1)])), ((La 2), .inr (1, [.int (FI 2), .int (GR 2), .int (FR 2)])), ((La 3), .inr (1, [.int (FI 3), .int (GR 3), .int (FR 3)]))]) (w1 := [(mq, .inr (12, mF (upd g 2 u_9) gl rf)), ((rf 29), .inl ((ck 29), 24, .inl f_landHas))]) hP hD [8, 9] [0, 1, 2, 3, 4, 5, 6, 7] rfl rfl (by decide) (by decide) hk1 hFc hP1 hD1
  have hfr := yF (wc := [(mq, .inr (12, mF g gl rf)), ((rf 29), .inl ((ck 29), 24, .inl f_landHas))]) hBs [8, 9] rfl hz0 hfr hk1
  have hz0 := Nat.le_trans hz0 hz1
  generalize H1 = H at hP hS hfr hz0 ⊢
  have hP : va_P (dC, dI) vwCl [(x, .inr (11, [.ref pa, .ref bk, .ref xsp, .ref xdy, .ref le, .ref xst, .int xsc, .ref xim, .ref xil, .int xik, .ref xmo, .ref xom, .ref wi])), (bk, .inr (0, [.ref bto, .ref bnm, .ref bla, .ref bsk, .ref bru, .ref bbo, .ref bdi, .ref bda, .ref bdk, .ref bdt, .ref bdp, .ref bno])), (bto, .inl (cTo, 5, .inl fTo)), (bla, .inl (cLa, 4, .inr (.inr (.inr (.inr (fun k => some (La k))))))), ((La 0), .inr (1, [.int (FI 0), .int (GR 0), .int (FR 0)])), ((La 1), .inr (1, [.int (FI 1), .int (GR 1), .int (FR 1)])), ((La 2), .inr (1, [.int (FI 2), .int (GR 2), .int (FR 2)])), ((La 3), .inr (1, [.int (FI 3), .int (GR 3), .int (FR 3)])), (mq, .inr (12, mF (upd g 2 u_9) gl rf)), ((rf 29), .inl ((ck 29), 24, .inl f_landHas))] H := hP
  have hD : va_D A [(x, .inr (11, [.ref pa, .ref bk, .ref xsp, .ref xdy, .ref le, .ref xst, .int xsc, .ref xim, .ref xil, .int xik, .ref xmo, .ref xom, .ref wi])), (bk, .inr (0, [.ref bto, .ref bnm, .ref bla, .ref bsk, .ref bru, .ref bbo, .ref bdi, .ref bda, .ref bdk, .ref bdt, .ref bdp, .ref bno])), (bto, .inl (cTo, 5, .inl fTo)), (bla, .inl (cLa, 4, .inr (.inr (.inr (.inr (fun k => some (La k))))))), ((La 0), .inr (1, [.int (FI 0), .int (GR 0), .int (FR 0)])), ((La 1), .inr (1, [.int (FI 1), .int (GR 1), .int (FR 1)])), ((La 2), .inr (1, [.int (FI 2), .int (GR 2), .int (FR 2)])), ((La 3), .inr (1, [.int (FI 3), .int (GR 3), .int (FR 3)])), (mq, .inr (12, mF (upd g 2 u_9) gl rf)), ((rf 29), .inl ((ck 29), 24, .inl f_landHas))] := hD
  refine W.widen (k := ce + 0) (n := sl + 0) (by omega) (by omega) ?_
  obtain ⟨X_11, hX_11⟩ : ∃ X9 : Int32 × (Int32), X9 = (fq_months f_landHas y1 y2 y3 (g 12)) := ⟨_, rfl⟩
  have hq_r_8 : r_8 = X_11.1 := by rw [hX_11]; exact hw.1
  have hq_u_9 : u_9 = X_11.2 := by rw [hX_11]; exact hw.2
  refine lv_pop hx hb dL_law_1732 rfl ?_
  refine lv_goto (tgt := 2012) hx hb dL_law_1733 (by decide) ?_
  refine W.widen (k := ce + 1) (n := sl + 6) (by omega) (by omega) ?_
  exact kk1 r_4 hq_r_4 X_11 hX_11 r_8 hq_r_8 u_9 hq_u_9 H locs ls (hP.sub (ws' := [(x, .inr (11, [.ref pa, .ref bk, .ref xsp, .ref xdy, .ref le, .ref xst, .int xsc, .ref xim, .ref xil, .int xik, .ref xmo, .ref xom, .ref wi])), (bk, .inr (0, [.ref bto, .ref bnm, .ref bla, .ref bsk, .ref bru, .ref bbo, .ref bdi, .ref bda, .ref bdk, .ref bdt, .ref bdp, .ref bno])), (bto, .inl (cTo, 5, .inl fTo)), (bla, .inl (cLa, 4, .inr (.inr (.inr (.inr (fun k => some (La k))))))), ((La 0), .inr (1, [.int (FI 0), .int (GR 0), .int (FR 0)])), ((La 1), .inr (1, [.int (FI 1), .int (GR 1), .int (FR 1)])), ((La 2), .inr (1, [.int (FI 2), .int (GR 2), .int (FR 2)])), ((La 3), .inr (1, [.int (FI 3), .int (GR 3), .int (FR 3)])), (mq, .inr (12, mF (upd g 2 u_9) gl rf)), ((rf 29), .inl ((ck 29), 24, .inl f_landHas))]) [0, 1, 2, 3, 4, 5, 6, 7, 8, 9] rfl) hS (lv_sub hl [0, 1, 2, 3, 4] rfl) hz0 hfr
