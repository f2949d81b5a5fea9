theorem dL_law_1306 : decode cL_law 1306 = .ok (.aload_n 1, 1) := zk_43 (by decide +kernel)
theorem dL_law_1307 : decode cL_law 1307 = .ok (.aload_n 0, 1) := zk_42 (by decide +kernel)
theorem dL_law_1308 : decode cL_law 1308 = .ok (.iload 4, 2) := zk_21 (by decide +kernel)
theorem dL_law_1310 : decode cL_law 1310 = .ok (.iconst 1, 1) := zk_4 (by decide +kernel)
theorem dL_law_1311 : decode cL_law 1311 = .ok (.iadd, 1) := zk_96 (by decide +kernel)
theorem dL_law_1312 : decode cL_law 1312 = .ok (.iaload, 1) := zk_46 (by decide +kernel)
theorem dL_law_1313 : decode cL_law 1313 = .ok (.aload_n 0, 1) := zk_42 (by decide +kernel)
theorem dL_law_1314 : decode cL_law 1314 = .ok (.iload 4, 2) := zk_21 (by decide +kernel)
theorem dL_law_1316 : decode cL_law 1316 = .ok (.iconst 2, 1) := zk_5 (by decide +kernel)
theorem dL_law_1317 : decode cL_law 1317 = .ok (.iadd, 1) := zk_96 (by decide +kernel)
theorem dL_law_1318 : decode cL_law 1318 = .ok (.iaload, 1) := zk_46 (by decide +kernel)
theorem dL_law_1319 : decode cL_law 1319 = .ok (.aload_n 0, 1) := zk_42 (by decide +kernel)
theorem dL_law_1320 : decode cL_law 1320 = .ok (.iload 4, 2) := zk_21 (by decide +kernel)
theorem dL_law_1322 : decode cL_law 1322 = .ok (.iconst 3, 1) := zk_6 (by decide +kernel)
theorem dL_law_1323 : decode cL_law 1323 = .ok (.iadd, 1) := zk_96 (by decide +kernel)
theorem dL_law_1324 : decode cL_law 1324 = .ok (.iaload, 1) := zk_46 (by decide +kernel)
theorem dL_law_1325 : decode cL_law 1325 = .ok (.i2l, 1) := zk_133 (by decide +kernel)
theorem dL_law_1326 : decode cL_law 1326 = .ok (.bipush 32, 2) := zk_16 (by decide +kernel)
theorem dL_law_1328 : decode cL_law 1328 = .ok (.lshl, 1) := zk_121 (by decide +kernel)
theorem dL_law_1329 : decode cL_law 1329 = .ok (.aload_n 0, 1) := zk_42 (by decide +kernel)
theorem dL_law_1330 : decode cL_law 1330 = .ok (.iload 4, 2) := zk_21 (by decide +kernel)
theorem dL_law_1332 : decode cL_law 1332 = .ok (.iconst 4, 1) := zk_7 (by decide +kernel)
theorem dL_law_1333 : decode cL_law 1333 = .ok (.iadd, 1) := zk_96 (by decide +kernel)
theorem dL_law_1334 : decode cL_law 1334 = .ok (.iaload, 1) := zk_46 (by decide +kernel)
theorem dL_law_1335 : decode cL_law 1335 = .ok (.i2l, 1) := zk_133 (by decide +kernel)
theorem dL_law_1336 : decode cL_law 1336 = .ok (.ldc2_w 50, 3) := zk_20 (by decide +kernel)
theorem dL_law_1339 : decode cL_law 1339 = .ok (.land, 1) := zk_127 (by decide +kernel)
theorem dL_law_1340 : decode cL_law 1340 = .ok (.lor, 1) := zk_129 (by decide +kernel)
theorem dL_law_1341 : decode cL_law 1341 = .ok (.aload_n 0, 1) := zk_42 (by decide +kernel)
theorem dL_law_1342 : decode cL_law 1342 = .ok (.iload 4, 2) := zk_21 (by decide +kernel)
theorem dL_law_1344 : decode cL_law 1344 = .ok (.iconst 5, 1) := zk_8 (by decide +kernel)
theorem dL_law_1345 : decode cL_law 1345 = .ok (.iadd, 1) := zk_96 (by decide +kernel)
theorem dL_law_1346 : decode cL_law 1346 = .ok (.iaload, 1) := zk_46 (by decide +kernel)
theorem dL_law_1347 : decode cL_law 1347 = .ok (.ifCond .eq 7, 3) := zk_153 (by decide +kernel)
theorem dL_law_1354 : decode cL_law 1354 = .ok (.iconst 0, 1) := zk_3 (by decide +kernel)
theorem dL_law_1355 : decode cL_law 1355 = .ok (.invokevirtual 112, 3) := zk_182 (by decide +kernel)
theorem dL_law_1358 : decode cL_law 1358 = .ok (.pop2, 1) := zk_88 (by decide +kernel)
theorem dL_law_1359 : decode cL_law 1359 = .ok (.aload_n 2, 1) := zk_44 (by decide +kernel)
theorem dL_law_1360 : decode cL_law 1360 = .ok (.aload_n 0, 1) := zk_42 (by decide +kernel)
theorem dL_law_1361 : decode cL_law 1361 = .ok (.iload 4, 2) := zk_21 (by decide +kernel)
theorem dL_law_1363 : decode cL_law 1363 = .ok (.iconst 1, 1) := zk_4 (by decide +kernel)
theorem dL_law_1364 : decode cL_law 1364 = .ok (.iadd, 1) := zk_96 (by decide +kernel)
theorem dL_law_1365 : decode cL_law 1365 = .ok (.iaload, 1) := zk_46 (by decide +kernel)
theorem dL_law_1366 : decode cL_law 1366 = .ok (.aload_n 0, 1) := zk_42 (by decide +kernel)
theorem dL_law_1367 : decode cL_law 1367 = .ok (.iload 4, 2) := zk_21 (by decide +kernel)
theorem dL_law_1369 : decode cL_law 1369 = .ok (.iconst 2, 1) := zk_5 (by decide +kernel)
theorem dL_law_1370 : decode cL_law 1370 = .ok (.iadd, 1) := zk_96 (by decide +kernel)
theorem dL_law_1371 : decode cL_law 1371 = .ok (.iaload, 1) := zk_46 (by decide +kernel)
theorem dL_law_1372 : decode cL_law 1372 = .ok (.aload_n 0, 1) := zk_42 (by decide +kernel)
theorem dL_law_1373 : decode cL_law 1373 = .ok (.iload 4, 2) := zk_21 (by decide +kernel)
theorem dL_law_1375 : decode cL_law 1375 = .ok (.iconst 3, 1) := zk_6 (by decide +kernel)
theorem dL_law_1376 : decode cL_law 1376 = .ok (.iadd, 1) := zk_96 (by decide +kernel)
theorem dL_law_1377 : decode cL_law 1377 = .ok (.iaload, 1) := zk_46 (by decide +kernel)
theorem dL_law_1378 : decode cL_law 1378 = .ok (.i2l, 1) := zk_133 (by decide +kernel)
theorem dL_law_1379 : decode cL_law 1379 = .ok (.bipush 32, 2) := zk_16 (by decide +kernel)
theorem dL_law_1381 : decode cL_law 1381 = .ok (.lshl, 1) := zk_121 (by decide +kernel)
theorem dL_law_1382 : decode cL_law 1382 = .ok (.aload_n 0, 1) := zk_42 (by decide +kernel)
theorem dL_law_1383 : decode cL_law 1383 = .ok (.iload 4, 2) := zk_21 (by decide +kernel)
theorem dL_law_1385 : decode cL_law 1385 = .ok (.iconst 4, 1) := zk_7 (by decide +kernel)
theorem dL_law_1386 : decode cL_law 1386 = .ok (.iadd, 1) := zk_96 (by decide +kernel)
theorem dL_law_1387 : decode cL_law 1387 = .ok (.iaload, 1) := zk_46 (by decide +kernel)
theorem dL_law_1388 : decode cL_law 1388 = .ok (.i2l, 1) := zk_133 (by decide +kernel)
theorem dL_law_1389 : decode cL_law 1389 = .ok (.ldc2_w 50, 3) := zk_20 (by decide +kernel)
theorem dL_law_1392 : decode cL_law 1392 = .ok (.land, 1) := zk_127 (by decide +kernel)
theorem dL_law_1393 : decode cL_law 1393 = .ok (.lor, 1) := zk_129 (by decide +kernel)
theorem dL_law_1394 : decode cL_law 1394 = .ok (.aload_n 0, 1) := zk_42 (by decide +kernel)
theorem dL_law_1395 : decode cL_law 1395 = .ok (.iload 4, 2) := zk_21 (by decide +kernel)
theorem dL_law_1397 : decode cL_law 1397 = .ok (.iconst 5, 1) := zk_8 (by decide +kernel)
theorem dL_law_1398 : decode cL_law 1398 = .ok (.iadd, 1) := zk_96 (by decide +kernel)
theorem dL_law_1399 : decode cL_law 1399 = .ok (.iaload, 1) := zk_46 (by decide +kernel)
theorem dL_law_1400 : decode cL_law 1400 = .ok (.ifCond .eq 7, 3) := zk_153 (by decide +kernel)
theorem dL_law_1407 : decode cL_law 1407 = .ok (.iconst 0, 1) := zk_3 (by decide +kernel)
theorem dL_law_1408 : decode cL_law 1408 = .ok (.invokevirtual 116, 3) := zk_182 (by decide +kernel)
theorem dL_law_1411 : decode cL_law 1411 = .ok (.pop2, 1) := zk_88 (by decide +kernel)
theorem dL_law_1412 : decode cL_law 1412 = .ok (.goto 600, 3) := zk_167 (by decide +kernel)
theorem dL_law_1403 : decode cL_law 1403 = .ok (.iconst 1, 1) := zk_4 (by decide +kernel)
theorem dL_law_1404 : decode cL_law 1404 = .ok (.goto 4, 3) := zk_167 (by decide +kernel)
theorem dL_law_1350 : decode cL_law 1350 = .ok (.iconst 1, 1) := zk_4 (by decide +kernel)
theorem dL_law_1351 : decode cL_law 1351 = .ok (.goto 4, 3) := zk_167 (by decide +kernel)
def wl_alike (x : Nat) (pa : Nat) (bk : Nat) (xsp : Nat) (xdy : Nat) (le : Nat) (xst : Nat) (xsc : Int32) (xim : Nat) (xil : Nat) (xik : Int32) (xmo : Nat) (xom : Nat) (wi : Nat) (mla : Value) (mct : Int64) (myr : Int64) (mdy : Int64) (mlg : Int64) (ola : Value) (oct : Int64) (oyr : Int64) (ody : Int64) (olg : Int64) (bto : Nat) (bnm : Nat) (bla : Nat) (bsk : Nat) (bru : Nat) (bbo : Nat) (bdi : Nat) (bda : Nat) (bdk : Nat) (bdt : Nat) (bdp : Nat) (bno : Nat) (cTo : ClassId) (fTo : Nat → Int32) (cLa : ClassId) (La : Nat → Nat) (FI : Nat → Int32) (GR : Nat → Int32) (FR : Nat → Int32) (mq : Nat) (g : Nat → Int32) (gl : Nat → Int64) (rf : Nat → Nat) (ck : Nat → ClassId) (f_landHas : Nat → Int32) : va_W := [(eO11a x pa bk xsp xdy le xst xsc xim xil xik xmo xom wi), (xmo, .inr (4, [mla, .long mct, .long myr, .long mdy, .long mlg])), (xom, .inr (4, [ola, .long oct, .long oyr, .long ody, .long olg])), (eO0a bk bto bnm bla bsk bru bbo bdi bda bdk bdt bdp bno), (eA0 bto cTo 5 fTo), (eA4 bla cLa 4 (fun k => some (La k))), (eO1a (La 0) (FI 0) (GR 0) (FR 0)), (eO1a (La 1) (FI 1) (GR 1) (FR 1)), (eO1a (La 2) (FI 2) (GR 2) (FR 2)), (eO1a (La 3) (FI 3) (GR 3) (FR 3)), (mq, .inr (12, mF g gl rf)), (eA0 (rf 29) (ck 29) 24 f_landHas)]
def we_alike_1 (x : Nat) (pa : Nat) (bk : Nat) (xsp : Nat) (xdy : Nat) (le : Nat) (xst : Nat) (xsc : Int32) (xim : Nat) (xil : Nat) (xik : Int32) (xmo : Nat) (xom : Nat) (wi : Nat) (mla : Value) (mct : Int64) (myr : Int64) (mdy : Int64) (mlg : Int64) (ola : Value) (oct : Int64) (oyr : Int64) (ody : Int64) (olg : Int64) (bto : Nat) (bnm : Nat) (bla : Nat) (bsk : Nat) (bru : Nat) (bbo : Nat) (bdi : Nat) (bda : Nat) (bdk : Nat) (bdt : Nat) (bdp : Nat) (bno : Nat) (cTo : ClassId) (fTo : Nat → Int32) (cLa : ClassId) (La : Nat → Nat) (FI : Nat → Int32) (GR : Nat → Int32) (FR : Nat → Int32) (mq : Nat) (g : Nat → Int32) (gl : Nat → Int64) (rf : Nat → Nat) (ck : Nat → ClassId) (f_landHas : Nat → Int32) (u_8 : (Value) × (Int64) × (Int64) × (Int64) × (Int64) × (Value) × (Int64) × (Int64) × (Int64) × (Int64)) (u_27 : (Int32) × (Int64) × (Int64)) : va_W := [(eO11a x pa bk xsp xdy le xst xsc xim xil xik xmo xom wi), (xmo, .inr (4, [u_8.1, .long u_8.2.1, .long u_8.2.2.1, .long u_8.2.2.2.1, .long u_8.2.2.2.2.1])), (xom, .inr (4, [u_8.2.2.2.2.2.1, .long u_8.2.2.2.2.2.2.1, .long u_8.2.2.2.2.2.2.2.1, .long u_8.2.2.2.2.2.2.2.2.1, .long u_8.2.2.2.2.2.2.2.2.2])), (eO0a bk bto bnm bla bsk bru bbo bdi bda bdk bdt bdp bno), (eA0 bto cTo 5 fTo), (eA4 bla cLa 4 (fun k => some (La k))), (eO1a (La 0) (FI 0) (GR 0) (FR 0)), (eO1a (La 1) (FI 1) (GR 1) (FR 1)), (eO1a (La 2) (FI 2) (GR 2) (FR 2)), (eO1a (La 3) (FI 3) (GR 3) (FR 3)), (mq, .inr (12, mF (upd g 2 u_27.1) (vp_updL (vp_updL gl 53 u_27.2.1) 54 u_27.2.2) rf)), (eA0 (rf 29) (ck 29) 24 f_landHas)]
def we_alike_2 (x : Nat) (pa : Nat) (bk : Nat) (xsp : Nat) (xdy : Nat) (le : Nat) (xst : Nat) (xsc : Int32) (xim : Nat) (xil : Nat) (xik : Int32) (xmo : Nat) (xom : Nat) (wi : Nat) (mla : Value) (mct : Int64) (myr : Int64) (mdy : Int64) (mlg : Int64) (ola : Value) (oct : Int64) (oyr : Int64) (ody : Int64) (olg : Int64) (bto : Nat) (bnm : Nat) (bla : Nat) (bsk : Nat) (bru : Nat) (bbo : Nat) (bdi : Nat) (bda : Nat) (bdk : Nat) (bdt : Nat) (bdp : Nat) (bno : Nat) (cTo : ClassId) (fTo : Nat → Int32) (cLa : ClassId) (La : Nat → Nat) (FI : Nat → Int32) (GR : Nat → Int32) (FR : Nat → Int32) (mq : Nat) (g : Nat → Int32) (gl : Nat → Int64) (rf : Nat → Nat) (ck : Nat → ClassId) (f_landHas : Nat → Int32) (u_8 : (Value) × (Int64) × (Int64) × (Int64) × (Int64) × (Value) × (Int64) × (Int64) × (Int64) × (Int64)) (u_33 : (Int32) × (Int64) × (Int64)) : va_W := [(eO11a x pa bk xsp xdy le xst xsc xim xil xik xmo xom wi), (xmo, .inr (4, [u_8.1, .long u_8.2.1, .long u_8.2.2.1, .long u_8.2.2.2.1, .long u_8.2.2.2.2.1])), (xom, .inr (4, [u_8.2.2.2.2.2.1, .long u_8.2.2.2.2.2.2.1, .long u_8.2.2.2.2.2.2.2.1, .long u_8.2.2.2.2.2.2.2.2.1, .long u_8.2.2.2.2.2.2.2.2.2])), (eO0a bk bto bnm bla bsk bru bbo bdi bda bdk bdt bdp bno), (eA0 bto cTo 5 fTo), (eA4 bla cLa 4 (fun k => some (La k))), (eO1a (La 0) (FI 0) (GR 0) (FR 0)), (eO1a (La 1) (FI 1) (GR 1) (FR 1)), (eO1a (La 2) (FI 2) (GR 2) (FR 2)), (eO1a (La 3) (FI 3) (GR 3) (FR 3)), (mq, .inr (12, mF (upd g 2 u_33.1) (vp_updL (vp_updL gl 53 u_33.2.1) 54 u_33.2.2) rf)), (eA0 (rf 29) (ck 29) 24 f_landHas)]
def we_alike_3 (x : Nat) (pa : Nat) (bk : Nat) (xsp : Nat) (xdy : Nat) (le : Nat) (xst : Nat) (xsc : Int32) (xim : Nat) (xil : Nat) (xik : Int32) (xmo : Nat) (xom : Nat) (wi : Nat) (mla : Value) (mct : Int64) (myr : Int64) (mdy : Int64) (mlg : Int64) (ola : Value) (oct : Int64) (oyr : Int64) (ody : Int64) (olg : Int64) (bto : Nat) (bnm : Nat) (bla : Nat) (bsk : Nat) (bru : Nat) (bbo : Nat) (bdi : Nat) (bda : Nat) (bdk : Nat) (bdt : Nat) (bdp : Nat) (bno : Nat) (cTo : ClassId) (fTo : Nat → Int32) (cLa : ClassId) (La : Nat → Nat) (FI : Nat → Int32) (GR : Nat → Int32) (FR : Nat → Int32) (mq : Nat) (g : Nat → Int32) (gl : Nat → Int64) (rf : Nat → Nat) (ck : Nat → ClassId) (f_landHas : Nat → Int32) (u_39 : (Value) × (Int64) × (Int64) × (Int64) × (Int64) × (Value) × (Int64) × (Int64) × (Int64) × (Int64)) (u_58 : (Int32) × (Int64) × (Int64)) : va_W := [(eO11a x pa bk xsp xdy le xst xsc xim xil xik xmo xom wi), (xmo, .inr (4, [u_39.1, .long u_39.2.1, .long u_39.2.2.1, .long u_39.2.2.2.1, .long u_39.2.2.2.2.1])), (xom, .inr (4, [u_39.2.2.2.2.2.1, .long u_39.2.2.2.2.2.2.1, .long u_39.2.2.2.2.2.2.2.1, .long u_39.2.2.2.2.2.2.2.2.1, .long u_39.2.2.2.2.2.2.2.2.2])), (eO0a bk bto bnm bla bsk bru bbo bdi bda bdk bdt bdp bno), (eA0 bto cTo 5 fTo), (eA4 bla cLa 4 (fun k => some (La k))), (eO1a (La 0) (FI 0) (GR 0) (FR 0)), (eO1a (La 1) (FI 1) (GR 1) (FR 1)), (eO1a (La 2) (FI 2) (GR 2) (FR 2)), (eO1a (La 3) (FI 3) (GR 3) (FR 3)), (mq, .inr (12, mF (upd g 2 u_58.1) (vp_updL (vp_updL gl 53 u_58.2.1) 54 u_58.2.2) rf)), (eA0 (rf 29) (ck 29) 24 f_landHas)]
def we_alike_4 (x : Nat) (pa : Nat) (bk : Nat) (xsp : Nat) (xdy : Nat) (le : Nat) (xst : Nat) (xsc : Int32) (xim : Nat) (xil : Nat) (xik : Int32) (xmo : Nat) (xom : Nat) (wi : Nat) (mla : Value) (mct : Int64) (myr : Int64) (mdy : Int64) (mlg : Int64) (ola : Value) (oct : Int64) (oyr : Int64) (ody : Int64) (olg : Int64) (bto : Nat) (bnm : Nat) (bla : Nat) (bsk : Nat) (bru : Nat) (bbo : Nat) (bdi : Nat) (bda : Nat) (bdk : Nat) (bdt : Nat) (bdp : Nat) (bno : Nat) (cTo : ClassId) (fTo : Nat → Int32) (cLa : ClassId) (La : Nat → Nat) (FI : Nat → Int32) (GR : Nat → Int32) (FR : Nat → Int32) (mq : Nat) (g : Nat → Int32) (gl : Nat → Int64) (rf : Nat → Nat) (ck : Nat → ClassId) (f_landHas : Nat → Int32) (u_39 : (Value) × (Int64) × (Int64) × (Int64) × (Int64) × (Value) × (Int64) × (Int64) × (Int64) × (Int64)) (u_64 : (Int32) × (Int64) × (Int64)) : va_W := [(eO11a x pa bk xsp xdy le xst xsc xim xil xik xmo xom wi), (xmo, .inr (4, [u_39.1, .long u_39.2.1, .long u_39.2.2.1, .long u_39.2.2.2.1, .long u_39.2.2.2.2.1])), (xom, .inr (4, [u_39.2.2.2.2.2.1, .long u_39.2.2.2.2.2.2.1, .long u_39.2.2.2.2.2.2.2.1, .long u_39.2.2.2.2.2.2.2.2.1, .long u_39.2.2.2.2.2.2.2.2.2])), (eO0a bk bto bnm bla bsk bru bbo bdi bda bdk bdt bdp bno), (eA0 bto cTo 5 fTo), (eA4 bla cLa 4 (fun k => some (La k))), (eO1a (La 0) (FI 0) (GR 0) (FR 0)), (eO1a (La 1) (FI 1) (GR 1) (FR 1)), (eO1a (La 2) (FI 2) (GR 2) (FR 2)), (eO1a (La 3) (FI 3) (GR 3) (FR 3)), (mq, .inr (12, mF (upd g 2 u_64.1) (vp_updL (vp_updL gl 53 u_64.2.1) 54 u_64.2.2) rf)), (eA0 (rf 29) (ck 29) 24 f_landHas)]
set_option maxHeartbeats 4000000 in
set_option maxRecDepth 100000 in
theorem law_alike (l : Launch) (hst : l.stackTraces = false) {p : Program} {e : Env} {s : State} {m : MethodId} {below : List Frame} {meth : Method} {c : Code} {bs L : Nat} {xs : Nat → Int32} (C0 : lw_At p s m meth c bs L xs) (dC : Nat → ClassId) (dI : Nat → Nat → Nat) (A : Nat → Prop) (hAe : ∀ q, A q ↔ s.heap.size ≤ q) (x : Nat) (pa : Nat) (bk : Nat) (xsp : Nat) (xdy : Nat) (le : Nat) (xst : Nat) (xsc : Int32) (xim : Nat) (xil : Nat) (xik : Int32) (xmo : Nat) (xom : Nat) (wi : Nat) (mla : Value) (mct : Int64) (myr : Int64) (mdy : Int64) (mlg : Int64) (ola : Value) (oct : Int64) (oyr : Int64) (ody : Int64) (olg : Int64) (bto : Nat) (bnm : Nat) (bla : Nat) (bsk : Nat) (bru : Nat) (bbo : Nat) (bdi : Nat) (bda : Nat) (bdk : Nat) (bdt : Nat) (bdp : Nat) (bno : Nat) (cTo : ClassId) (fTo : Nat → Int32) (cLa : ClassId) (La : Nat → Nat) (FI : Nat → Int32) (GR : Nat → Int32) (FR : Nat → Int32) (mq : Nat) (g : Nat → Int32) (gl : Nat → Int64) (rf : Nat → Nat) (ck : Nat → ClassId) (f_landHas : Nat → Int32) (o3 : Nat) (hln0 : ¬ (g 12) < 0) (hln4 : (g 12) ≤ 4) (hLZ : ∀ k : Int32, ¬ k < 0 → k < (g 12) → ¬ (f_landHas ((3 * k).toNatClampNeg)) = 0) (sL : Nat → Nat) (hNx : xN s) (i y1 y2 y3 y4 y5 : Int32) (hi1 : vp_in (i + 1) L) (hy1 : xs (i + 1).toNatClampNeg = y1) (hi2 : vp_in (i + 2) L) (hy2 : xs (i + 2).toNatClampNeg = y2) (hi3 : vp_in (i + 3) L) (hy3 : xs (i + 3).toNatClampNeg = y3) (hi4 : vp_in (i + 4) L) (hy4 : xs (i + 4).toNatClampNeg = y4) (hi5 : vp_in (i + 5) L) (hy5 : xs (i + 5).toNatClampNeg = y5)  (Bp : Nat → Prop) (H0 : Heap) (locs : List Loc) (ls : Array Slot) (ce sl : Nat) (hce : ce + 1 ≤ 601024) (hsl : sl + 6 ≤ 7293034) (hK : va_K (dC, dI) vwCl [(cTo, .int), (cLa, .object RX1), ((ck 29), .int)] s) (hP : va_P (dC, dI) vwCl (wl_alike x pa bk xsp xdy le xst xsc xim xil xik xmo xom wi mla mct myr mdy mlg ola oct oyr ody olg bto bnm bla bsk bru bbo bdi bda bdk bdt bdp bno cTo fTo cLa La FI GR FR mq g gl rf ck f_landHas) H0) (hD : va_D A (wl_alike x pa bk xsp xdy le xst xsc xim xil xik xmo xom wi mla mct myr mdy mlg ola oct oyr ody olg bto bnm bla bsk bru bbo bdi bda bdk bdt bdp bno cTo fTo cLa La FI GR FR mq g gl rf ck f_landHas)) (hBs : yB Bp (wl_alike x pa bk xsp xdy le xst xsc xim xil xik xmo xom wi mla mct myr mdy mlg ola oct oyr ody olg bto bnm bla bsk bru bbo bdi bda bdk bdt bdp bno cTo fTo cLa La FI GR FR mq g gl rf ck f_landHas)) (hS : va_S A s.heap H0 locs) (hl : lv_has ls 7 [(4, .int i), (3, .ref o3), (2, .ref mq), (1, .ref x), (0, .ref bs)]) (kk1 : ∀ (X_19 : Int64 × (Value) × (Int64) × (Int64) × (Int64) × (Int64) × (Value) × (Int64) × (Int64) × (Int64) × (Int64)), X_19 = (fx_alike mla mct myr mdy mlg ola oct oyr ody olg fTo La FI GR FR y1 y2 ((y3.toInt64 <<< ((32 : Int32).toInt64 &&& 63)) ||| (y4.toInt64 &&& 4294967295)) (0 : Int32)) → ∀ (r_7 : Int64), r_7 = X_19.1 → ∀ (u_8 : (Value) × (Int64) × (Int64) × (Int64) × (Int64) × (Value) × (Int64) × (Int64) × (Int64) × (Int64)), u_8 = X_19.2 → ∀ (X_31 : Int64 × (Int32) × (Int64) × (Int64)), X_31 = (fq_alike f_landHas y1 y2 ((y3.toInt64 <<< ((32 : Int32).toInt64 &&& 63)) ||| (y4.toInt64 &&& 4294967295)) (0 : Int32) (g 12) (gl 53) (gl 54)) → ∀ (r_26 : Int64), r_26 = X_31.1 → ∀ (u_27 : (Int32) × (Int64) × (Int64)), u_27 = X_31.2 → ∀ (H : Heap) (locs : List Loc) (ls : Array Slot), va_P (dC, dI) vwCl (we_alike_1 x pa bk xsp xdy le xst xsc xim xil xik xmo xom wi mla mct myr mdy mlg ola oct oyr ody olg bto bnm bla bsk bru bbo bdi bda bdk bdt bdp bno cTo fTo cLa La FI GR FR mq g gl rf ck f_landHas u_8 u_27) H → va_S A s.heap H locs → lv_has ls 7 [(4, .int i), (3, .ref o3), (2, .ref mq), (1, .ref x), (0, .ref bs)] → H0.size ≤ H.size → (∀ q : Nat, q < H0.size → ¬ Bp q → H[q]? = H0[q]?) → W p l e room_1 s m #[Value.ref bs] below meth c H locs (ce + 1) (sl + 6) (lw_Z below #[Value.ref bs] s) (F0 m 2012 ls [])) (kk2 : ∀ (X_19 : Int64 × (Value) × (Int64) × (Int64) × (Int64) × (Int64) × (Value) × (Int64) × (Int64) × (Int64) × (Int64)), X_19 = (fx_alike mla mct myr mdy mlg ola oct oyr ody olg fTo La FI GR FR y1 y2 ((y3.toInt64 <<< ((32 : Int32).toInt64 &&& 63)) ||| (y4.toInt64 &&& 4294967295)) (0 : Int32)) → ∀ (r_7 : Int64), r_7 = X_19.1 → ∀ (u_8 : (Value) × (Int64) × (Int64) × (Int64) × (Int64) × (Value) × (Int64) × (Int64) × (Int64) × (Int64)), u_8 = X_19.2 → ∀ (X_37 : Int64 × (Int32) × (Int64) × (Int64)), X_37 = (fq_alike f_landHas y1 y2 ((y3.toInt64 <<< ((32 : Int32).toInt64 &&& 63)) ||| (y4.toInt64 &&& 4294967295)) (1 : Int32) (g 12) (gl 53) (gl 54)) → ∀ (r_32 : Int64), r_32 = X_37.1 → ∀ (u_33 : (Int32) × (Int64) × (Int64)), u_33 = X_37.2 → ∀ (H : Heap) (locs : List Loc) (ls : Array Slot), va_P (dC, dI) vwCl (we_alike_2 x pa bk xsp xdy le xst xsc xim xil xik xmo xom wi mla mct myr mdy mlg ola oct oyr ody olg bto bnm bla bsk bru bbo bdi bda bdk bdt bdp bno cTo fTo cLa La FI GR FR mq g gl rf ck f_landHas u_8 u_33) H → va_S A s.heap H locs → lv_has ls 7 [(4, .int i), (3, .ref o3), (2, .ref mq), (1, .ref x), (0, .ref bs)] → H0.size ≤ H.size → (∀ q : Nat, q < H0.size → ¬ Bp q → H[q]? = H0[q]?) → W p l e room_1 s m #[Value.ref bs] below meth c H locs (ce + 1) (sl + 6) (lw_Z below #[Value.ref bs] s) (F0 m 2012 ls [])) (kk3 : ∀ (X_50 : Int64 × (Value) × (Int64) × (Int64) × (Int64) × (Int64) × (Value) × (Int64) × (Int64) × (Int64) × (Int64)), X_50 = (fx_alike mla mct myr mdy mlg ola oct oyr ody olg fTo La FI GR FR y1 y2 ((y3.toInt64 <<< ((32 : Int32).toInt64 &&& 63)) ||| (y4.toInt64 &&& 4294967295)) (1 : Int32)) → ∀ (r_38 : Int64), r_38 = X_50.1 → ∀ (u_39 : (Value) × (Int64) × (Int64) × (Int64) × (Int64) × (Value) × (Int64) × (Int64) × (Int64) × (Int64)), u_39 = X_50.2 → ∀ (X_62 : Int64 × (Int32) × (Int64) × (Int64)), X_62 = (fq_alike f_landHas y1 y2 ((y3.toInt64 <<< ((32 : Int32).toInt64 &&& 63)) ||| (y4.toInt64 &&& 4294967295)) (0 : Int32) (g 12) (gl 53) (gl 54)) → ∀ (r_57 : Int64), r_57 = X_62.1 → ∀ (u_58 : (Int32) × (Int64) × (Int64)), u_58 = X_62.2 → ∀ (H : Heap) (locs : List Loc) (ls : Array Slot), va_P (dC, dI) vwCl (we_alike_3 x pa bk xsp xdy le xst xsc xim xil xik xmo xom wi mla mct myr mdy mlg ola oct oyr ody olg bto bnm bla bsk bru bbo bdi bda bdk bdt bdp bno cTo fTo cLa La FI GR FR mq g gl rf ck f_landHas u_39 u_58) H → va_S A s.heap H locs → lv_has ls 7 [(4, .int i), (3, .ref o3), (2, .ref mq), (1, .ref x), (0, .ref bs)] → H0.size ≤ H.size → (∀ q : Nat, q < H0.size → ¬ Bp q → H[q]? = H0[q]?) → W p l e room_1 s m #[Value.ref bs] below meth c H locs (ce + 1) (sl + 6) (lw_Z below #[Value.ref bs] s) (F0 m 2012 ls [])) (kk4 : ∀ (X_50 : Int64 × (Value) × (Int64) × (Int64) × (Int64) × (Int64) × (Value) × (Int64) × (Int64) × (Int64) × (Int64)), X_50 = (fx_alike mla mct myr mdy mlg ola oct oyr ody olg fTo La FI GR FR y1 y2 ((y3.toInt64 <<< ((32 : Int32).toInt64 &&& 63)) ||| (y4.toInt64 &&& 4294967295)) (1 : Int32)) → ∀ (r_38 : Int64), r_38 = X_50.1 → ∀ (u_39 : (Value) × (Int64) × (Int64) × (Int64) × (Int64) × (Value) × (Int64) × (Int64) × (Int64) × (Int64)), u_39 = X_50.2 → ∀ (X_68 : Int64 × (Int32) × (Int64) × (Int64)), X_68 = (fq_alike f_landHas y1 y2 ((y3.toInt64 <<< ((32 : Int32).toInt64 &&& 63)) ||| (y4.toInt64 &&& 4294967295)) (1 : Int32) (g 12) (gl 53) (gl 54)) → ∀ (r_63 : Int64), r_63 = X_68.1 → ∀ (u_64 : (Int32) × (Int64) × (Int64)), u_64 = X_68.2 → ∀ (H : Heap) (locs : List Loc) (ls : Array Slot), va_P (dC, dI) vwCl (we_alike_4 x pa bk xsp xdy le xst xsc xim xil xik xmo xom wi mla mct myr mdy mlg ola oct oyr ody olg bto bnm bla bsk bru bbo bdi bda bdk bdt bdp bno cTo fTo cLa La FI GR FR mq g gl rf ck f_landHas u_39 u_64) H → va_S A s.heap H locs → lv_has ls 7 [(4, .int i), (3, .ref o3), (2, .ref mq), (1, .ref x), (0, .ref bs)] → H0.size ≤ H.size → (∀ q : Nat, q < H0.size → ¬ Bp q → H[q]? = H0[q]?) → W p l e room_1 s m #[Value.ref bs] below meth c H locs (ce + 1) (sl + 6) (lw_Z below #[Value.ref bs] s) (F0 m 2012 ls [])) : W p l e room_1 s m #[Value.ref bs] below meth c H0 locs ce sl (lw_Z below #[Value.ref bs] s) (F0 m 1306 ls []) := by
  have hP : va_P (dC, dI) vwCl [(eO11a x pa bk xsp xdy le xst xsc xim xil xik xmo xom wi), (xmo, .inr (4, [mla, .long mct, .long myr, .long mdy, .long mlg])), (xom, .inr (4, [ola, .long oct, .long oyr, .long ody, .long olg])), (eO0a bk bto bnm bla bsk bru bbo bdi bda bdk bdt bdp bno), (eA0 bto cTo 5 fTo), (eA4 bla cLa 4 (fun k => some (La k))), (eO1a (La 0) (FI 0) (GR 0) (FR 0)), (eO1a (La 1) (FI 1) (GR 1) (FR 1)), (eO1a (La 2) (FI 2) (GR 2) (FR 2)), (eO1a (La 3) (FI 3) (GR 3) (FR 3)), (mq, .inr (12, mF g gl rf)), (eA0 (rf 29) (ck 29) 24 f_landHas)] H0 := hP
  have hD : va_D A [(eO11a x pa bk xsp xdy le xst xsc xim xil xik xmo xom wi), (xmo, .inr (4, [mla, .long mct, .long myr, .long mdy, .long mlg])), (xom, .inr (4, [ola, .long oct, .long oyr, .long ody, .long olg])), (eO0a bk bto bnm bla bsk bru bbo bdi bda bdk bdt bdp bno), (eA0 bto cTo 5 fTo), (eA4 bla cLa 4 (fun k => some (La k))), (eO1a (La 0) (FI 0) (GR 0) (FR 0)), (eO1a (La 1) (FI 1) (GR 1) (FR 1)), (eO1a (La 2) (FI 2) (GR 2) (FR 2)), (eO1a (La 3) (FI 3) (GR 3) (FR 3)), (mq, .inr (12, mF g gl rf)), (eA0 (rf 29) (ck 29) 24 f_landHas)] := hD
  have hBs : yB Bp [(eO11a x pa bk xsp xdy le xst xsc xim xil xik xmo xom wi), (xmo, .inr (4, [mla, .long mct, .long myr, .long mdy, .long mlg])), (xom, .inr (4, [ola, .long oct, .long oyr, .long ody, .long olg])), (eO0a bk bto bnm bla bsk bru bbo bdi bda bdk bdt bdp bno), (eA0 bto cTo 5 fTo), (eA4 bla cLa 4 (fun k => some (La k))), (eO1a (La 0) (FI 0) (GR 0) (FR 0)), (eO1a (La 1) (FI 1) (GR 1) (FR 1)), (eO1a (La 2) (FI 2) (GR 2) (FR 2)), (eO1a (La 3) (FI 3) (GR 3) (FR 3)), (mq, .inr (12, mF g gl rf)), (eA0 (rf 29) (ck 29) 24 f_landHas)] := hBs
  obtain ⟨hx, hb, hr, hml, hown, hts, hX, hbl, hlocks, hgv⟩ := id C0
  have htw : ∀ w ∈ wsL_law, w.before _ s = true := fun w h => hts w (wsL_law_in w h)
  have hown : s.vm.findClass RL = some m.cls := hown
  have hA : ∀ q : Nat, s.heap.size ≤ q → A q := fun q h => (hAe q).mpr h
  have hbA : ¬ A bs := fun h => absurd ((hAe bs).mp h) (Nat.not_le.mpr hbl)
  obtain ⟨H, rH⟩ : ∃ z : Heap, z = H0 := ⟨_, rfl⟩
  have hfr : ∀ q : Nat, q < H0.size → ¬ Bp q → H[q]? = H0[q]? := fun q _ _ => by rw [rH]
  have hz0 : H0.size ≤ H.size := by rw [rH]; exact Nat.le_refl _
  rw [← rH] at hP hS ⊢
  refine lv_aload_n hx hb dL_law_1306 rfl (lv_at hl 3 rfl) ?_
  refine lv_aload_n hx hb dL_law_1307 rfl (lv_at hl 4 rfl) ?_
  refine lv_iload hx hb dL_law_1308 (lv_at hl 0 rfl) ?_
  refine lv_iconst (v := 1) hx hb dL_law_1310 (by decide) ?_
  refine lv_iadd hx hb dL_law_1311 ?_
  refine va_sld hx hb hX hbl hbA hS hi1 dL_law_1312 ?_
  rw [hy1]
  refine lv_aload_n hx hb dL_law_1313 rfl (lv_at hl 4 rfl) ?_
  refine lv_iload hx hb dL_law_1314 (lv_at hl 0 rfl) ?_
  refine lv_iconst (v := 2) hx hb dL_law_1316 (by decide) ?_
  refine lv_iadd hx hb dL_law_1317 ?_
  refine va_sld hx hb hX hbl hbA hS hi2 dL_law_1318 ?_
  rw [hy2]
  refine lv_aload_n hx hb dL_law_1319 rfl (lv_at hl 4 rfl) ?_
  refine lv_iload hx hb dL_law_1320 (lv_at hl 0 rfl) ?_
  refine lv_iconst (v := 3) hx hb dL_law_1322 (by decide) ?_
  refine lv_iadd hx hb dL_law_1323 ?_
  refine va_sld hx hb hX hbl hbA hS hi3 dL_law_1324 ?_
  rw [hy3]
  refine lv_i2l (v := y3.toInt64) hx hb dL_law_1325 rfl ?_
  refine lv_bipush (v := 32) hx hb dL_law_1326 (by decide) ?_
  refine lv_lshl (v := (y3.toInt64 <<< ((32 : Int32).toInt64 &&& 63))) hx hb dL_law_1328 rfl ?_
  refine lv_aload_n hx hb dL_law_1329 rfl (lv_at hl 4 rfl) ?_
  refine lv_iload hx hb dL_law_1330 (lv_at hl 0 rfl) ?_
  refine lv_iconst (v := 4) hx hb dL_law_1332 (by decide) ?_
  refine lv_iadd hx hb dL_law_1333 ?_
  refine va_sld hx hb hX hbl hbA hS hi4 dL_law_1334 ?_
  rw [hy4]
  refine lv_i2l (v := y4.toInt64) hx hb dL_law_1335 rfl ?_
  refine lv_ldc2 (v := 4294967295) hx hb hown (htw _ (ck_1 _ (List.mem_of_getElem? (i := 7) rfl))) dL_law_1336 ?_
  refine lv_land hx hb dL_law_1339 ?_
  refine lv_lor hx hb dL_law_1340 ?_
  refine lv_aload_n hx hb dL_law_1341 rfl (lv_at hl 4 rfl) ?_
  refine lv_iload hx hb dL_law_1342 (lv_at hl 0 rfl) ?_
  refine lv_iconst (v := 5) hx hb dL_law_1344 (by decide) ?_
  refine lv_iadd hx hb dL_law_1345 ?_
  refine va_sld hx hb hX hbl hbA hS hi5 dL_law_1346 ?_
  rw [hy5]
  refine lv_if_eq (tgt := 1354) hx hb dL_law_1347 (by decide) (fun c_6 => ?_) (fun c_6 => ?_)
  · refine lv_iconst (v := 0) hx hb dL_law_1354 (by decide) ?_
    obtain ⟨hPc, hDc, hFc, hCc⟩ := zsub3 (ws' := [(eO11a x pa bk xsp xdy le xst xsc xim xil xik xmo xom wi), (xmo, .inr (4, [mla, .long mct, .long myr, .long mdy, .long mlg])), (xom, .inr (4, [ola, .long oct, .long oyr, .long ody, .long olg])), (eO0a bk bto bnm bla bsk bru bbo bdi bda bdk bdt bdp bno), (eA0 bto cTo 5 fTo), (eA4 bla cLa 4 (fun k => some (La k))), (eO1a (La 0) (FI 0) (GR 0) (FR 0)), (eO1a (La 1) (FI 1) (GR 1) (FR 1)), (eO1a (La 2) (FI 2) (GR 2) (FR 2)), (eO1a (La 3) (FI 3) (GR 3) (FR 3))]) hP hD hS hA [0, 1, 2, 3, 4, 5, 6, 7, 8, 9] (by decide +kernel) rfl
    have hKc := hK.sub (tys' := [(cTo, .int), (cLa, .object RX1)]) [0, 1] rfl
    refine va_calll (va_runV (As := [.int y1, .int y2, .long ((y3.toInt64 <<< ((32 : Int32).toInt64 &&& 63)) ||| (y4.toInt64 &&& 4294967295)), .int 0]) (rest := []) ⟨hx, hb, hml, hown, htw⟩ (gx_alike l dC dI x pa bk xsp xdy le xst xsc xim xil xik xmo xom wi mla mct myr mdy mlg ola oct oyr ody olg bto bnm bla bsk bru bbo bdi bda bdk bdt bdp bno cTo fTo cLa La FI GR FR y1 y2 ((y3.toInt64 <<< ((32 : Int32).toInt64 &&& 63)) ||| (y4.toInt64 &&& 4294967295)) (0 : Int32) H.size) (cwV 4 htw (xg_V (ck_48 _ (List.mem_of_getElem? (i := 17) rfl)) (ck_48 _ (List.mem_of_getElem? (i := 18) rfl)) (ck_48 _ (List.mem_of_getElem? (i := 19) rfl)) (ck_1 _ (List.mem_of_getElem? (i := 2) rfl)) (ck_48 _ (List.mem_of_getElem? (i := 20) rfl))) rfl rfl rfl (by exact ⟨rfl, hdc_8.1, hdc_8.2, hdd_66⟩) ⟨Nat.le_of_ble_eq_true rfl, Nat.le_of_ble_eq_true rfl⟩) ⟨fun a U g mk q => by obtain ⟨q0, q1, qP, qK, qD, qx0⟩ := q; exact ⟨q0, q1, qP, va_K.moved (u := U) (U := U.calling g mk a) (Vm.Alike.refl U.vm) qK, qD, xN.calling qx0⟩, va_recv hKc hPc (ci := 11) (q0 := 0) rfl rfl, fun U hU hW => ⟨rfl, by rw [hU], by rw [hU]; exact hPc, va_K.moved hW.alike hKc, hDc.weaken (fun _ _ _ _ => trivial), xN.warm hW hNx⟩⟩ rfl rfl hl.1 rfl (lv_room (Nat.le_of_ble_eq_true rfl)) dL_law_1355 ⟨by first | exact Nat.le_of_ble_eq_true rfl | exact yR (n := 0) (by omega) rfl, by first | exact Nat.le_of_ble_eq_true rfl | exact yR2 (n := 0) (by omega) rfl⟩) hS (fun q _ h => hFc q h) hFc (fun r_7 u_8 t H1 locs ht hvm hw hB hz1 hk1 hS => ?_)
    try dsimp only at hw
    obtain ⟨hP1, hK1, hD1⟩ := hB
    rw [ht] at hP1
    have hK1 := va_K.moved hvm.symm hK1
    have hK1 : va_K (dC, dI) vwCl [] s := hK1
    obtain ⟨hP, hD⟩ := va_join (wr := [(mq, .inr (12, mF g gl rf)), (eA0 (rf 29) (ck 29) 24 f_landHas)]) (w1 := [(eO11a x pa bk xsp xdy le xst xsc xim xil xik xmo xom wi), (xmo, .inr (4, [u_8.1, .long u_8.2.1, .long u_8.2.2.1, .long u_8.2.2.2.1, .long u_8.2.2.2.2.1])), (xom, .inr (4, [u_8.2.2.2.2.2.1, .long u_8.2.2.2.2.2.2.1, .long u_8.2.2.2.2.2.2.2.1, .long u_8.2.2.2.2.2.2.2.2.1, .long u_8.2.2.2.2.2.2.2.2.2])), (eO0a bk bto bnm bla bsk bru bbo bdi bda bdk bdt bdp bno), (eA0 bto cTo 5 fTo), (eA4 bla cLa 4 (fun k => some (La k))), (eO1a (La 0) (FI 0) (GR 0) (FR 0)), (eO1a (La 1) (FI 1) (GR 1) (FR 1)), (eO1a (La 2) (FI 2) (GR 2) (FR 2)), (eO1a (La 3) (FI 3) (GR 3) (FR 3))]) hP hD [0, 1, 2, 3, 4, 5, 6, 7, 8, 9] [10, 11] hCc rfl (by decide +kernel) (by decide +kernel) hk1 hFc hP1 hD1
    have hfr := yF (wc := [(eO11a x pa bk xsp xdy le xst xsc xim xil xik xmo xom wi), (xmo, .inr (4, [mla, .long mct, .long myr, .long mdy, .long mlg])), (xom, .inr (4, [ola, .long oct, .long oyr, .long ody, .long olg])), (eO0a bk bto bnm bla bsk bru bbo bdi bda bdk bdt bdp bno), (eA0 bto cTo 5 fTo), (eA4 bla cLa 4 (fun k => some (La k))), (eO1a (La 0) (FI 0) (GR 0) (FR 0)), (eO1a (La 1) (FI 1) (GR 1) (FR 1)), (eO1a (La 2) (FI 2) (GR 2) (FR 2)), (eO1a (La 3) (FI 3) (GR 3) (FR 3))]) hBs [0, 1, 2, 3, 4, 5, 6, 7, 8, 9] rfl hz0 hfr hk1
    have hz0 := Nat.le_trans hz0 hz1
    generalize H1 = H at hP hS hfr hz0 ⊢
    obtain ⟨hP, hD⟩ := zre [(mq, .inr (12, mF g gl rf)), (eA0 (rf 29) (ck 29) 24 f_landHas), (eO11a x pa bk xsp xdy le xst xsc xim xil xik xmo xom wi), (xmo, .inr (4, [u_8.1, .long u_8.2.1, .long u_8.2.2.1, .long u_8.2.2.2.1, .long u_8.2.2.2.2.1])), (xom, .inr (4, [u_8.2.2.2.2.2.1, .long u_8.2.2.2.2.2.2.1, .long u_8.2.2.2.2.2.2.2.1, .long u_8.2.2.2.2.2.2.2.2.1, .long u_8.2.2.2.2.2.2.2.2.2])), (eO0a bk bto bnm bla bsk bru bbo bdi bda bdk bdt bdp bno), (eA0 bto cTo 5 fTo), (eA4 bla cLa 4 (fun k => some (La k))), (eO1a (La 0) (FI 0) (GR 0) (FR 0)), (eO1a (La 1) (FI 1) (GR 1) (FR 1)), (eO1a (La 2) (FI 2) (GR 2) (FR 2)), (eO1a (La 3) (FI 3) (GR 3) (FR 3))] hP hD rfl
    refine W.widen (k := ce + 0) (n := sl + 0) (by omega) (by omega) ?_
    obtain ⟨X_19, hX_19⟩ : ∃ X9 : Int64 × (Value) × (Int64) × (Int64) × (Int64) × (Int64) × (Value) × (Int64) × (Int64) × (Int64) × (Int64), X9 = (fx_alike mla mct myr mdy mlg ola oct oyr ody olg fTo La FI GR FR y1 y2 ((y3.toInt64 <<< ((32 : Int32).toInt64 &&& 63)) ||| (y4.toInt64 &&& 4294967295)) (0 : Int32)) := ⟨_, rfl⟩
    have hq_r_7 : r_7 = X_19.1 := by rw [hX_19]; exact hw.1
    have hq_u_8 : u_8 = X_19.2 := by rw [hX_19]; exact hw.2
    refine lv_pop2_2 hx hb dL_law_1358 rfl ?_
    refine lv_aload_n hx hb dL_law_1359 rfl (lv_at hl 2 rfl) ?_
    refine lv_aload_n hx hb dL_law_1360 rfl (lv_at hl 4 rfl) ?_
    refine lv_iload hx hb dL_law_1361 (lv_at hl 0 rfl) ?_
    refine lv_iconst (v := 1) hx hb dL_law_1363 (by decide) ?_
    refine lv_iadd hx hb dL_law_1364 ?_
    refine va_sld hx hb hX hbl hbA hS hi1 dL_law_1365 ?_
    rw [hy1]
    refine lv_aload_n hx hb dL_law_1366 rfl (lv_at hl 4 rfl) ?_
    refine lv_iload hx hb dL_law_1367 (lv_at hl 0 rfl) ?_
    refine lv_iconst (v := 2) hx hb dL_law_1369 (by decide) ?_
    refine lv_iadd hx hb dL_law_1370 ?_
    refine va_sld hx hb hX hbl hbA hS hi2 dL_law_1371 ?_
    rw [hy2]
    refine lv_aload_n hx hb dL_law_1372 rfl (lv_at hl 4 rfl) ?_
    refine lv_iload hx hb dL_law_1373 (lv_at hl 0 rfl) ?_
    refine lv_iconst (v := 3) hx hb dL_law_1375 (by decide) ?_
    refine lv_iadd hx hb dL_law_1376 ?_
    refine va_sld hx hb hX hbl hbA hS hi3 dL_law_1377 ?_
    rw [hy3]
    refine lv_i2l (v := y3.toInt64) hx hb dL_law_1378 rfl ?_
    refine lv_bipush (v := 32) hx hb dL_law_1379 (by decide) ?_
    refine lv_lshl (v := (y3.toInt64 <<< ((32 : Int32).toInt64 &&& 63))) hx hb dL_law_1381 rfl ?_
    refine lv_aload_n hx hb dL_law_1382 rfl (lv_at hl 4 rfl) ?_
    refine lv_iload hx hb dL_law_1383 (lv_at hl 0 rfl) ?_
    refine lv_iconst (v := 4) hx hb dL_law_1385 (by decide) ?_
    refine lv_iadd hx hb dL_law_1386 ?_
    refine va_sld hx hb hX hbl hbA hS hi4 dL_law_1387 ?_
    rw [hy4]
    refine lv_i2l (v := y4.toInt64) hx hb dL_law_1388 rfl ?_
    refine lv_ldc2 (v := 4294967295) hx hb hown (htw _ (ck_1 _ (List.mem_of_getElem? (i := 7) rfl))) dL_law_1389 ?_
    refine lv_land hx hb dL_law_1392 ?_
    refine lv_lor hx hb dL_law_1393 ?_
    refine lv_aload_n hx hb dL_law_1394 rfl (lv_at hl 4 rfl) ?_
    refine lv_iload hx hb dL_law_1395 (lv_at hl 0 rfl) ?_
    refine lv_iconst (v := 5) hx hb dL_law_1397 (by decide) ?_
    refine lv_iadd hx hb dL_law_1398 ?_
    refine va_sld hx hb hX hbl hbA hS hi5 dL_law_1399 ?_
    rw [hy5]
    refine lv_if_eq (tgt := 1407) hx hb dL_law_1400 (by decide) (fun c_25 => ?_) (fun c_25 => ?_)
    · refine lv_iconst (v := 0) hx hb dL_law_1407 (by decide) ?_
      obtain ⟨hPc, hDc, hFc, hCc⟩ := zsub3 (ws' := [(mq, .inr (12, mF g gl rf)), (eA0 (rf 29) (ck 29) 24 f_landHas)]) hP hD hS hA [0, 1] (by decide) rfl
      have hKc := hK.sub (tys' := [((ck 29), .int)]) [2] rfl
      refine va_calll (va_runV (As := [.int y1, .int y2, .long ((y3.toInt64 <<< ((32 : Int32).toInt64 &&& 63)) ||| (y4.toInt64 &&& 4294967295)), .int 0]) (rest := []) ⟨hx, hb, hml, hown, htw⟩ (gq_alike l dC dI mq g gl rf ck f_landHas y1 y2 ((y3.toInt64 <<< ((32 : Int32).toInt64 &&& 63)) ||| (y4.toInt64 &&& 4294967295)) (0 : Int32) H.size hln0 hln4 hLZ) (cwV 4 htw (xg_V (ck_48 _ (List.mem_of_getElem? (i := 23) rfl)) (ck_49 _ (List.mem_of_getElem? (i := 0) rfl)) (ck_49 _ (List.mem_of_getElem? (i := 1) rfl)) (ck_1 _ (List.mem_of_getElem? (i := 5) rfl)) (ck_49 _ (List.mem_of_getElem? (i := 2) rfl))) rfl rfl rfl (by exact ⟨rfl, hdc_14.1, hdc_14.2, hdd_66⟩) ⟨Nat.le_of_ble_eq_true rfl, Nat.le_of_ble_eq_true rfl⟩) ⟨fun a U g mk q => by obtain ⟨q0, q1, qP, qK, qD⟩ := q; exact ⟨q0, q1, qP, va_K.moved (u := U) (U := U.calling g mk a) (Vm.Alike.refl U.vm) qK, qD⟩, va_recv hKc hPc (ci := 12) (q0 := 0) rfl rfl, fun U hU hW => ⟨rfl, by rw [hU], by rw [hU]; exact hPc, va_K.moved hW.alike hKc, hDc.weaken (fun _ _ _ _ => trivial)⟩⟩ rfl rfl hl.1 rfl (lv_room (Nat.le_of_ble_eq_true rfl)) dL_law_1408 ⟨by first | exact Nat.le_of_ble_eq_true rfl | exact yR (n := 0) (by omega) rfl, by first | exact Nat.le_of_ble_eq_true rfl | exact yR2 (n := 0) (by omega) rfl⟩) hS (fun q _ h => hFc q h) hFc (fun r_26 u_27 t H1 locs ht hvm hw hB hz1 hk1 hS => ?_)
      try dsimp only at hw
      obtain ⟨hP1, hK1, hD1⟩ := hB
      rw [ht] at hP1
      have hK1 := va_K.moved hvm.symm hK1
      have hK1 : va_K (dC, dI) vwCl [] s := hK1
      obtain ⟨hP, hD⟩ := va_join (wr := [(eO11a x pa bk xsp xdy le xst xsc xim xil xik xmo xom wi), (xmo, .inr (4, [u_8.1, .long u_8.2.1, .long u_8.2.2.1, .long u_8.2.2.2.1, .long u_8.2.2.2.2.1])), (xom, .inr (4, [u_8.2.2.2.2.2.1, .long u_8.2.2.2.2.2.2.1, .long u_8.2.2.2.2.2.2.2.1, .long u_8.2.2.2.2.2.2.2.2.1, .long u_8.2.2.2.2.2.2.2.2.2])), (eO0a bk bto bnm bla bsk bru bbo bdi bda bdk bdt bdp bno), (eA0 bto cTo 5 fTo), (eA4 bla cLa 4 (fun k => some (La k))), (eO1a (La 0) (FI 0) (GR 0) (FR 0)), (eO1a (La 1) (FI 1) (GR 1) (FR 1)), (eO1a (La 2) (FI 2) (GR 2) (FR 2)), (eO1a (La 3) (FI 3) (GR 3) (FR 3))]) (w1 := [(mq, .inr (12, mF (upd g 2 u_27.1) (vp_updL (vp_updL gl 53 u_27.2.1) 54 u_27.2.2) rf)), (eA0 (rf 29) (ck 29) 24 f_landHas)]) hP hD [0, 1] [2, 3, 4, 5, 6, 7, 8, 9, 10, 11] hCc rfl (by decide +kernel) (by decide +kernel) hk1 hFc hP1 hD1
      have hfr := yF (wc := [(mq, .inr (12, mF g gl rf)), (eA0 (rf 29) (ck 29) 24 f_landHas)]) hBs [10, 11] rfl hz0 hfr hk1
      have hz0 := Nat.le_trans hz0 hz1
      generalize H1 = H at hP hS hfr hz0 ⊢
      obtain ⟨hP, hD⟩ := zre [(eO11a x pa bk xsp xdy le xst xsc xim xil xik xmo xom wi), (xmo, .inr (4, [u_8.1, .long u_8.2.1, .long u_8.2.2.1, .long u_8.2.2.2.1, .long u_8.2.2.2.2.1])), (xom, .inr (4, [u_8.2.2.2.2.2.1, .long u_8.2.2.2.2.2.2.1, .long u_8.2.2.2.2.2.2.2.1, .long u_8.2.2.2.2.2.2.2.2.1, .long u_8.2.2.2.2.2.2.2.2.2])), (eO0a bk bto bnm bla bsk bru bbo bdi bda bdk bdt bdp bno), (eA0 bto cTo 5 fTo), (eA4 bla cLa 4 (fun k => some (La k))), (eO1a (La 0) (FI 0) (GR 0) (FR 0)), (eO1a (La 1) (FI 1) (GR 1) (FR 1)), (eO1a (La 2) (FI 2) (GR 2) (FR 2)), (eO1a (La 3) (FI 3) (GR 3) (FR 3)), (mq, .inr (12, mF (upd g 2 u_27.1) (vp_updL (vp_updL gl 53 u_27.2.1) 54 u_27.2.2) rf)), (eA0 (rf 29) (ck 29) 24 f_landHas)] hP hD rfl
      refine W.widen (k := ce + 0) (n := sl + 0) (by omega) (by omega) ?_
      obtain ⟨X_31, hX_31⟩ : ∃ X9 : Int64 × (Int32) × (Int64) × (Int64), X9 = (fq_alike f_landHas y1 y2 ((y3.toInt64 <<< ((32 : Int32).toInt64 &&& 63)) ||| (y4.toInt64 &&& 4294967295)) (0 : Int32) (g 12) (gl 53) (gl 54)) := ⟨_, rfl⟩
      have hq_r_26 : r_26 = X_31.1 := by rw [hX_31]; exact hw.1
      have hq_u_27 : u_27 = X_31.2 := by rw [hX_31]; exact hw.2
      refine lv_pop2_2 hx hb dL_law_1411 rfl ?_
      refine lv_goto (tgt := 2012) hx hb dL_law_1412 (by decide) ?_
      refine W.widen (k := ce + 1) (n := sl + 6) (by omega) (by omega) ?_
      have hP8 : va_P (dC, dI) vwCl [(eO11a x pa bk xsp xdy le xst xsc xim xil xik xmo xom wi), (xmo, .inr (4, [u_8.1, .long u_8.2.1, .long u_8.2.2.1, .long u_8.2.2.2.1, .long u_8.2.2.2.2.1])), (xom, .inr (4, [u_8.2.2.2.2.2.1, .long u_8.2.2.2.2.2.2.1, .long u_8.2.2.2.2.2.2.2.1, .long u_8.2.2.2.2.2.2.2.2.1, .long u_8.2.2.2.2.2.2.2.2.2])), (eO0a bk bto bnm bla bsk bru bbo bdi bda bdk bdt bdp bno), (eA0 bto cTo 5 fTo), (eA4 bla cLa 4 (fun k => some (La k))), (eO1a (La 0) (FI 0) (GR 0) (FR 0)), (eO1a (La 1) (FI 1) (GR 1) (FR 1)), (eO1a (La 2) (FI 2) (GR 2) (FR 2)), (eO1a (La 3) (FI 3) (GR 3) (FR 3)), (mq, .inr (12, mF (upd g 2 u_27.1) (vp_updL (vp_updL gl 53 u_27.2.1) 54 u_27.2.2) rf)), (eA0 (rf 29) (ck 29) 24 f_landHas)] H := hP.sub [0, 1, 2, 3, 4, 5, 6, 7, 8, 9, 10, 11] rfl
      exact kk1 X_19 hX_19 r_7 hq_r_7 u_8 hq_u_8 X_31 hX_31 r_26 hq_r_26 u_27 hq_u_27 H locs ls hP8 hS (lv_sub hl [0, 1, 2, 3, 4] rfl) hz0 hfr
    · refine lv_iconst (v := 1) hx hb dL_law_1403 (by decide) ?_
      refine lv_goto (tgt := 1408) hx hb dL_law_1404 (by decide) ?_
      obtain ⟨hPc, hDc, hFc, hCc⟩ := zsub3 (ws' := [(mq, .inr (12, mF g gl rf)), (eA0 (rf 29) (ck 29) 24 f_landHas)]) hP hD hS hA [0, 1] (by decide) rfl
      have hKc := hK.sub (tys' := [((ck 29), .int)]) [2] rfl
      refine va_calll (va_runV (As := [.int y1, .int y2, .long ((y3.toInt64 <<< ((32 : Int32).toInt64 &&& 63)) ||| (y4.toInt64 &&& 4294967295)), .int 1]) (rest := []) ⟨hx, hb, hml, hown, htw⟩ (gq_alike l dC dI mq g gl rf ck f_landHas y1 y2 ((y3.toInt64 <<< ((32 : Int32).toInt64 &&& 63)) ||| (y4.toInt64 &&& 4294967295)) (1 : Int32) H.size hln0 hln4 hLZ) (cwV 4 htw (xg_V (ck_48 _ (List.mem_of_getElem? (i := 23) rfl)) (ck_49 _ (List.mem_of_getElem? (i := 0) rfl)) (ck_49 _ (List.mem_of_getElem? (i := 1) rfl)) (ck_1 _ (List.mem_of_getElem? (i := 5) rfl)) (ck_49 _ (List.mem_of_getElem? (i := 2) rfl))) rfl rfl rfl (by exact ⟨rfl, hdc_14.1, hdc_14.2, hdd_66⟩) ⟨Nat.le_of_ble_eq_true rfl, Nat.le_of_ble_eq_true rfl⟩) ⟨fun a U g mk q => by obtain ⟨q0, q1, qP, qK, qD⟩ := q; exact ⟨q0, q1, qP, va_K.moved (u := U) (U := U.calling g mk a) (Vm.Alike.refl U.vm) qK, qD⟩, va_recv hKc hPc (ci := 12) (q0 := 0) rfl rfl, fun U hU hW => ⟨rfl, by rw [hU], by rw [hU]; exact hPc, va_K.moved hW.alike hKc, hDc.weaken (fun _ _ _ _ => trivial)⟩⟩ rfl rfl hl.1 rfl (lv_room (Nat.le_of_ble_eq_true rfl)) dL_law_1408 ⟨by first | exact Nat.le_of_ble_eq_true rfl | exact yR (n := 0) (by omega) rfl, by first | exact Nat.le_of_ble_eq_true rfl | exact yR2 (n := 0) (by omega) rfl⟩) hS (fun q _ h => hFc q h) hFc (fun r_32 u_33 t H1 locs ht hvm hw hB hz1 hk1 hS => ?_)
      try dsimp only at hw
      obtain ⟨hP1, hK1, hD1⟩ := hB
      rw [ht] at hP1
      have hK1 := va_K.moved hvm.symm hK1
      have hK1 : va_K (dC, dI) vwCl [] s := hK1
      obtain ⟨hP, hD⟩ := va_join (wr := [(eO11a x pa bk xsp xdy le xst xsc xim xil xik xmo xom wi), (xmo, .inr (4, [u_8.1, .long u_8.2.1, .long u_8.2.2.1, .long u_8.2.2.2.1, .long u_8.2.2.2.2.1])), (xom, .inr (4, [u_8.2.2.2.2.2.1, .long u_8.2.2.2.2.2.2.1, .long u_8.2.2.2.2.2.2.2.1, .long u_8.2.2.2.2.2.2.2.2.1, .long u_8.2.2.2.2.2.2.2.2.2])), (eO0a bk bto bnm bla bsk bru bbo bdi bda bdk bdt bdp bno), (eA0 bto cTo 5 fTo), (eA4 bla cLa 4 (fun k => some (La k))), (eO1a (La 0) (FI 0) (GR 0) (FR 0)), (eO1a (La 1) (FI 1) (GR 1) (FR 1)), (eO1a (La 2) (FI 2) (GR 2) (FR 2)), (eO1a (La 3) (FI 3) (GR 3) (FR 3))]) (w1 := [(mq, .inr (12, mF (upd g 2 u_33.1) (vp_updL (vp_updL gl 53 u_33.2.1) 54 u_33.2.2) rf)), (eA0 (rf 29) (ck 29) 24 f_landHas)]) hP hD [0, 1] [2, 3, 4, 5, 6, 7, 8, 9, 10, 11] hCc rfl (by decide +kernel) (by decide +kernel) hk1 hFc hP1 hD1
      have hfr := yF (wc := [(mq, .inr (12, mF g gl rf)), (eA0 (rf 29) (ck 29) 24 f_landHas)]) hBs [10, 11] rfl hz0 hfr hk1
      have hz0 := Nat.le_trans hz0 hz1
      generalize H1 = H at hP hS hfr hz0 ⊢
      obtain ⟨hP, hD⟩ := zre [(eO11a x pa bk xsp xdy le xst xsc xim xil xik xmo xom wi), (xmo, .inr (4, [u_8.1, .long u_8.2.1, .long u_8.2.2.1, .long u_8.2.2.2.1, .long u_8.2.2.2.2.1])), (xom, .inr (4, [u_8.2.2.2.2.2.1, .long u_8.2.2.2.2.2.2.1, .long u_8.2.2.2.2.2.2.2.1, .long u_8.2.2.2.2.2.2.2.2.1, .long u_8.2.2.2.2.2.2.2.2.2])), (eO0a bk bto bnm bla bsk bru bbo bdi bda bdk bdt bdp bno), (eA0 bto cTo 5 fTo), (eA4 bla cLa 4 (fun k => some (La k))), (eO1a (La 0) (FI 0) (GR 0) (FR 0)), (eO1a (La 1) (FI 1) (GR 1) (FR 1)), (eO1a (La 2) (FI 2) (GR 2) (FR 2)), (eO1a (La 3) (FI 3) (GR 3) (FR 3)), (mq, .inr (12, mF (upd g 2 u_33.1) (vp_updL (vp_updL gl 53 u_33.2.1) 54 u_33.2.2) rf)), (eA0 (rf 29) (ck 29) 24 f_landHas)] hP hD rfl
      refine W.widen (k := ce + 0) (n := sl + 0) (by omega) (by omega) ?_
      obtain ⟨X_37, hX_37⟩ : ∃ X9 : Int64 × (Int32) × (Int64) × (Int64), X9 = (fq_alike f_landHas y1 y2 ((y3.toInt64 <<< ((32 : Int32).toInt64 &&& 63)) ||| (y4.toInt64 &&& 4294967295)) (1 : Int32) (g 12) (gl 53) (gl 54)) := ⟨_, rfl⟩
      have hq_r_32 : r_32 = X_37.1 := by rw [hX_37]; exact hw.1
      have hq_u_33 : u_33 = X_37.2 := by rw [hX_37]; exact hw.2
      refine lv_pop2_2 hx hb dL_law_1411 rfl ?_
      refine lv_goto (tgt := 2012) hx hb dL_law_1412 (by decide) ?_
      refine W.widen (k := ce + 1) (n := sl + 6) (by omega) (by omega) ?_
      have hP8 : va_P (dC, dI) vwCl [(eO11a x pa bk xsp xdy le xst xsc xim xil xik xmo xom wi), (xmo, .inr (4, [u_8.1, .long u_8.2.1, .long u_8.2.2.1, .long u_8.2.2.2.1, .long u_8.2.2.2.2.1])), (xom, .inr (4, [u_8.2.2.2.2.2.1, .long u_8.2.2.2.2.2.2.1, .long u_8.2.2.2.2.2.2.2.1, .long u_8.2.2.2.2.2.2.2.2.1, .long u_8.2.2.2.2.2.2.2.2.2])), (eO0a bk bto bnm bla bsk bru bbo bdi bda bdk bdt bdp bno), (eA0 bto cTo 5 fTo), (eA4 bla cLa 4 (fun k => some (La k))), (eO1a (La 0) (FI 0) (GR 0) (FR 0)), (eO1a (La 1) (FI 1) (GR 1) (FR 1)), (eO1a (La 2) (FI 2) (GR 2) (FR 2)), (eO1a (La 3) (FI 3) (GR 3) (FR 3)), (mq, .inr (12, mF (upd g 2 u_33.1) (vp_updL (vp_updL gl 53 u_33.2.1) 54 u_33.2.2) rf)), (eA0 (rf 29) (ck 29) 24 f_landHas)] H := hP.sub [0, 1, 2, 3, 4, 5, 6, 7, 8, 9, 10, 11] rfl
      exact kk2 X_19 hX_19 r_7 hq_r_7 u_8 hq_u_8 X_37 hX_37 r_32 hq_r_32 u_33 hq_u_33 H locs ls hP8 hS (lv_sub hl [0, 1, 2, 3, 4] rfl) hz0 hfr
  · refine lv_iconst (v := 1) hx hb dL_law_1350 (by decide) ?_
    refine lv_goto (tgt := 1355) hx hb dL_law_1351 (by decide) ?_
    obtain ⟨hPc, hDc, hFc, hCc⟩ := zsub3 (ws' := [(eO11a x pa bk xsp xdy le xst xsc xim xil xik xmo xom wi), (xmo, .inr (4, [mla, .long mct, .long myr, .long mdy, .long mlg])), (xom, .inr (4, [ola, .long oct, .long oyr, .long ody, .long olg])), (eO0a bk bto bnm bla bsk bru bbo bdi bda bdk bdt bdp bno), (eA0 bto cTo 5 fTo), (eA4 bla cLa 4 (fun k => some (La k))), (eO1a (La 0) (FI 0) (GR 0) (FR 0)), (eO1a (La 1) (FI 1) (GR 1) (FR 1)), (eO1a (La 2) (FI 2) (GR 2) (FR 2)), (eO1a (La 3) (FI 3) (GR 3) (FR 3))]) hP hD hS hA [0, 1, 2, 3, 4, 5, 6, 7, 8, 9] (by decide +kernel) rfl
    have hKc := hK.sub (tys' := [(cTo, .int), (cLa, .object RX1)]) [0, 1] rfl
    refine va_calll (va_runV (As := [.int y1, .int y2, .long ((y3.toInt64 <<< ((32 : Int32).toInt64 &&& 63)) ||| (y4.toInt64 &&& 4294967295)), .int 1]) (rest := []) ⟨hx, hb, hml, hown, htw⟩ (gx_alike l dC dI x pa bk xsp xdy le xst xsc xim xil xik xmo xom wi mla mct myr mdy mlg ola oct oyr ody olg bto bnm bla bsk bru bbo bdi bda bdk bdt bdp bno cTo fTo cLa La FI GR FR y1 y2 ((y3.toInt64 <<< ((32 : Int32).toInt64 &&& 63)) ||| (y4.toInt64 &&& 4294967295)) (1 : Int32) H.size) (cwV 4 htw (xg_V (ck_48 _ (List.mem_of_getElem? (i := 17) rfl)) (ck_48 _ (List.mem_of_getElem? (i := 18) rfl)) (ck_48 _ (List.mem_of_getElem? (i := 19) rfl)) (ck_1 _ (List.mem_of_getElem? (i := 2) rfl)) (ck_48 _ (List.mem_of_getElem? (i := 20) rfl))) rfl rfl rfl (by exact ⟨rfl, hdc_8.1, hdc_8.2, hdd_66⟩) ⟨Nat.le_of_ble_eq_true rfl, Nat.le_of_ble_eq_true rfl⟩) ⟨fun a U g mk q => by obtain ⟨q0, q1, qP, qK, qD, qx0⟩ := q; exact ⟨q0, q1, qP, va_K.moved (u := U) (U := U.calling g mk a) (Vm.Alike.refl U.vm) qK, qD, xN.calling qx0⟩, va_recv hKc hPc (ci := 11) (q0 := 0) rfl rfl, fun U hU hW => ⟨rfl, by rw [hU], by rw [hU]; exact hPc, va_K.moved hW.alike hKc, hDc.weaken (fun _ _ _ _ => trivial), xN.warm hW hNx⟩⟩ rfl rfl hl.1 rfl (lv_room (Nat.le_of_ble_eq_true rfl)) dL_law_1355 ⟨by first | exact Nat.le_of_ble_eq_true rfl | exact yR (n := 0) (by omega) rfl, by first | exact Nat.le_of_ble_eq_true rfl | exact yR2 (n := 0) (by omega) rfl⟩) hS (fun q _ h => hFc q h) hFc (fun r_38 u_39 t H1 locs ht hvm hw hB hz1 hk1 hS => ?_)
    try dsimp only at hw
    obtain ⟨hP1, hK1, hD1⟩ := hB
    rw [ht] at hP1
    have hK1 := va_K.moved hvm.symm hK1
    have hK1 : va_K (dC, dI) vwCl [] s := hK1
    obtain ⟨hP, hD⟩ := va_join (wr := [(mq, .inr (12, mF g gl rf)), (eA0 (rf 29) (ck 29) 24 f_landHas)]) (w1 := [(eO11a x pa bk xsp xdy le xst xsc xim xil xik xmo xom wi), (xmo, .inr (4, [u_39.1, .long u_39.2.1, .long u_39.2.2.1, .long u_39.2.2.2.1, .long u_39.2.2.2.2.1])), (xom, .inr (4, [u_39.2.2.2.2.2.1, .long u_39.2.2.2.2.2.2.1, .long u_39.2.2.2.2.2.2.2.1, .long u_39.2.2.2.2.2.2.2.2.1, .long u_39.2.2.2.2.2.2.2.2.2])), (eO0a bk bto bnm bla bsk bru bbo bdi bda bdk bdt bdp bno), (eA0 bto cTo 5 fTo), (eA4 bla cLa 4 (fun k => some (La k))), (eO1a (La 0) (FI 0) (GR 0) (FR 0)), (eO1a (La 1) (FI 1) (GR 1) (FR 1)), (eO1a (La 2) (FI 2) (GR 2) (FR 2)), (eO1a (La 3) (FI 3) (GR 3) (FR 3))]) hP hD [0, 1, 2, 3, 4, 5, 6, 7, 8, 9] [10, 11] hCc rfl (by decide +kernel) (by decide +kernel) hk1 hFc hP1 hD1
    have hfr := yF (wc := [(eO11a x pa bk xsp xdy le xst xsc xim xil xik xmo xom wi), (xmo, .inr (4, [mla, .long mct, .long myr, .long mdy, .long mlg])), (xom, .inr (4, [ola, .long oct, .long oyr, .long ody, .long olg])), (eO0a bk bto bnm bla bsk bru bbo bdi bda bdk bdt bdp bno), (eA0 bto cTo 5 fTo), (eA4 bla cLa 4 (fun k => some (La k))), (eO1a (La 0) (FI 0) (GR 0) (FR 0)), (eO1a (La 1) (FI 1) (GR 1) (FR 1)), (eO1a (La 2) (FI 2) (GR 2) (FR 2)), (eO1a (La 3) (FI 3) (GR 3) (FR 3))]) hBs [0, 1, 2, 3, 4, 5, 6, 7, 8, 9] rfl hz0 hfr hk1
    have hz0 := Nat.le_trans hz0 hz1
    generalize H1 = H at hP hS hfr hz0 ⊢
    obtain ⟨hP, hD⟩ := zre [(mq, .inr (12, mF g gl rf)), (eA0 (rf 29) (ck 29) 24 f_landHas), (eO11a x pa bk xsp xdy le xst xsc xim xil xik xmo xom wi), (xmo, .inr (4, [u_39.1, .long u_39.2.1, .long u_39.2.2.1, .long u_39.2.2.2.1, .long u_39.2.2.2.2.1])), (xom, .inr (4, [u_39.2.2.2.2.2.1, .long u_39.2.2.2.2.2.2.1, .long u_39.2.2.2.2.2.2.2.1, .long u_39.2.2.2.2.2.2.2.2.1, .long u_39.2.2.2.2.2.2.2.2.2])), (eO0a bk bto bnm bla bsk bru bbo bdi bda bdk bdt bdp bno), (eA0 bto cTo 5 fTo), (eA4 bla cLa 4 (fun k => some (La k))), (eO1a (La 0) (FI 0) (GR 0) (FR 0)), (eO1a (La 1) (FI 1) (GR 1) (FR 1)), (eO1a (La 2) (FI 2) (GR 2) (FR 2)), (eO1a (La 3) (FI 3) (GR 3) (FR 3))] hP hD rfl
    refine W.widen (k := ce + 0) (n := sl + 0) (by omega) (by omega) ?_
    obtain ⟨X_50, hX_50⟩ : ∃ X9 : Int64 × (Value) × (Int64) × (Int64) × (Int64) × (Int64) × (Value) × (Int64) × (Int64) × (Int64) × (Int64), X9 = (fx_alike mla mct myr mdy mlg ola oct oyr ody olg fTo La FI GR FR y1 y2 ((y3.toInt64 <<< ((32 : Int32).toInt64 &&& 63)) ||| (y4.toInt64 &&& 4294967295)) (1 : Int32)) := ⟨_, rfl⟩
    have hq_r_38 : r_38 = X_50.1 := by rw [hX_50]; exact hw.1
    have hq_u_39 : u_39 = X_50.2 := by rw [hX_50]; exact hw.2
    refine lv_pop2_2 hx hb dL_law_1358 rfl ?_
    refine lv_aload_n hx hb dL_law_1359 rfl (lv_at hl 2 rfl) ?_
    refine lv_aload_n hx hb dL_law_1360 rfl (lv_at hl 4 rfl) ?_
    refine lv_iload hx hb dL_law_1361 (lv_at hl 0 rfl) ?_
    refine lv_iconst (v := 1) hx hb dL_law_1363 (by decide) ?_
    refine lv_iadd hx hb dL_law_1364 ?_
    refine va_sld hx hb hX hbl hbA hS hi1 dL_law_1365 ?_
    rw [hy1]
    refine lv_aload_n hx hb dL_law_1366 rfl (lv_at hl 4 rfl) ?_
    refine lv_iload hx hb dL_law_1367 (lv_at hl 0 rfl) ?_
    refine lv_iconst (v := 2) hx hb dL_law_1369 (by decide) ?_
    refine lv_iadd hx hb dL_law_1370 ?_
    refine va_sld hx hb hX hbl hbA hS hi2 dL_law_1371 ?_
    rw [hy2]
    refine lv_aload_n hx hb dL_law_1372 rfl (lv_at hl 4 rfl) ?_
    refine lv_iload hx hb dL_law_1373 (lv_at hl 0 rfl) ?_
    refine lv_iconst (v := 3) hx hb dL_law_1375 (by decide) ?_
    refine lv_iadd hx hb dL_law_1376 ?_
    refine va_sld hx hb hX hbl hbA hS hi3 dL_law_1377 ?_
    rw [hy3]
    refine lv_i2l (v := y3.toInt64) hx hb dL_law_1378 rfl ?_
    refine lv_bipush (v := 32) hx hb dL_law_1379 (by decide) ?_
    refine lv_lshl (v := (y3.toInt64 <<< ((32 : Int32).toInt64 &&& 63))) hx hb dL_law_1381 rfl ?_
    refine lv_aload_n hx hb dL_law_1382 rfl (lv_at hl 4 rfl) ?_
    refine lv_iload hx hb dL_law_1383 (lv_at hl 0 rfl) ?_
    refine lv_iconst (v := 4) hx hb dL_law_1385 (by decide) ?_
    refine lv_iadd hx hb dL_law_1386 ?_
    refine va_sld hx hb hX hbl hbA hS hi4 dL_law_1387 ?_
    rw [hy4]
    refine lv_i2l (v := y4.toInt64) hx hb dL_law_1388 rfl ?_
    refine lv_ldc2 (v := 4294967295) hx hb hown (htw _ (ck_1 _ (List.mem_of_getElem? (i := 7) rfl))) dL_law_1389 ?_
    refine lv_land hx hb dL_law_1392 ?_
    refine lv_lor hx hb dL_law_1393 ?_
    refine lv_aload_n hx hb dL_law_1394 rfl (lv_at hl 4 rfl) ?_
    refine lv_iload hx hb dL_law_1395 (lv_at hl 0 rfl) ?_
    refine lv_iconst (v := 5) hx hb dL_law_1397 (by decide) ?_
    refine lv_iadd hx hb dL_law_1398 ?_
    refine va_sld hx hb hX hbl hbA hS hi5 dL_law_1399 ?_
    rw [hy5]
    refine lv_if_eq (tgt := 1407) hx hb dL_law_1400 (by decide) (fun c_56 => ?_) (fun c_56 => ?_)
    · refine lv_iconst (v := 0) hx hb dL_law_1407 (by decide) ?_
      obtain ⟨hPc, hDc, hFc, hCc⟩ := zsub3 (ws' := [(mq, .inr (12, mF g gl rf)), (eA0 (rf 29) (ck 29) 24 f_landHas)]) hP hD hS hA [0, 1] (by decide) rfl
      have hKc := hK.sub (tys' := [((ck 29), .int)]) [2] rfl
      refine va_calll (va_runV (As := [.int y1, .int y2, .long ((y3.toInt64 <<< ((32 : Int32).toInt64 &&& 63)) ||| (y4.toInt64 &&& 4294967295)), .int 0]) (rest := []) ⟨hx, hb, hml, hown, htw⟩ (gq_alike l dC dI mq g gl rf ck f_landHas y1 y2 ((y3.toInt64 <<< ((32 : Int32).toInt64 &&& 63)) ||| (y4.toInt64 &&& 4294967295)) (0 : Int32) H.size hln0 hln4 hLZ) (cwV 4 htw (xg_V (ck_48 _ (List.mem_of_getElem? (i := 23) rfl)) (ck_49 _ (List.mem_of_getElem? (i := 0) rfl)) (ck_49 _ (List.mem_of_getElem? (i := 1) rfl)) (ck_1 _ (List.mem_of_getElem? (i := 5) rfl)) (ck_49 _ (List.mem_of_getElem? (i := 2) rfl))) rfl rfl rfl (by exact ⟨rfl, hdc_14.1, hdc_14.2, hdd_66⟩) ⟨Nat.le_of_ble_eq_true rfl, Nat.le_of_ble_eq_true rfl⟩) ⟨fun a U g mk q => by obtain ⟨q0, q1, qP, qK, qD⟩ := q; exact ⟨q0, q1, qP, va_K.moved (u := U) (U := U.calling g mk a) (Vm.Alike.refl U.vm) qK, qD⟩, va_recv hKc hPc (ci := 12) (q0 := 0) rfl rfl, fun U hU hW => ⟨rfl, by rw [hU], by rw [hU]; exact hPc, va_K.moved hW.alike hKc, hDc.weaken (fun _ _ _ _ => trivial)⟩⟩ rfl rfl hl.1 rfl (lv_room (Nat.le_of_ble_eq_true rfl)) dL_law_1408 ⟨by first | exact Nat.le_of_ble_eq_true rfl | exact yR (n := 0) (by omega) rfl, by first | exact Nat.le_of_ble_eq_true rfl | exact yR2 (n := 0) (by omega) rfl⟩) hS (fun q _ h => hFc q h) hFc (fun r_57 u_58 t H1 locs ht hvm hw hB hz1 hk1 hS => ?_)
      try dsimp only at hw
      obtain ⟨hP1, hK1, hD1⟩ := hB
      rw [ht] at hP1
      have hK1 := va_K.moved hvm.symm hK1
      have hK1 : va_K (dC, dI) vwCl [] s := hK1
      obtain ⟨hP, hD⟩ := va_join (wr := [(eO11a x pa bk xsp xdy le xst xsc xim xil xik xmo xom wi), (xmo, .inr (4, [u_39.1, .long u_39.2.1, .long u_39.2.2.1, .long u_39.2.2.2.1, .long u_39.2.2.2.2.1])), (xom, .inr (4, [u_39.2.2.2.2.2.1, .long u_39.2.2.2.2.2.2.1, .long u_39.2.2.2.2.2.2.2.1, .long u_39.2.2.2.2.2.2.2.2.1, .long u_39.2.2.2.2.2.2.2.2.2])), (eO0a bk bto bnm bla bsk bru bbo bdi bda bdk bdt bdp bno), (eA0 bto cTo 5 fTo), (eA4 bla cLa 4 (fun k => some (La k))), (eO1a (La 0) (FI 0) (GR 0) (FR 0)), (eO1a (La 1) (FI 1) (GR 1) (FR 1)), (eO1a (La 2) (FI 2) (GR 2) (FR 2)), (eO1a (La 3) (FI 3) (GR 3) (FR 3))]) (w1 := [(mq, .inr (12, mF (upd g 2 u_58.1) (vp_updL (vp_updL gl 53 u_58.2.1) 54 u_58.2.2) rf)), (eA0 (rf 29) (ck 29) 24 f_landHas)]) hP hD [0, 1] [2, 3, 4, 5, 6, 7, 8, 9, 10, 11] hCc rfl (by decide +kernel) (by decide +kernel) hk1 hFc hP1 hD1
      have hfr := yF (wc := [(mq, .inr (12, mF g gl rf)), (eA0 (rf 29) (ck 29) 24 f_landHas)]) hBs [10, 11] rfl hz0 hfr hk1
      have hz0 := Nat.le_trans hz0 hz1
      generalize H1 = H at hP hS hfr hz0 ⊢
      obtain ⟨hP, hD⟩ := zre [(eO11a x pa bk xsp xdy le xst xsc xim xil xik xmo xom wi), (xmo, .inr (4, [u_39.1, .long u_39.2.1, .long u_39.2.2.1, .long u_39.2.2.2.1, .long u_39.2.2.2.2.1])), (xom, .inr (4, [u_39.2.2.2.2.2.1, .long u_39.2.2.2.2.2.2.1, .long u_39.2.2.2.2.2.2.2.1, .long u_39.2.2.2.2.2.2.2.2.1, .long u_39.2.2.2.2.2.2.2.2.2])), (eO0a bk bto bnm bla bsk bru bbo bdi bda bdk bdt bdp bno), (eA0 bto cTo 5 fTo), (eA4 bla cLa 4 (fun k => some (La k))), (eO1a (La 0) (FI 0) (GR 0) (FR 0)), (eO1a (La 1) (FI 1) (GR 1) (FR 1)), (eO1a (La 2) (FI 2) (GR 2) (FR 2)), (eO1a (La 3) (FI 3) (GR 3) (FR 3)), (mq, .inr (12, mF (upd g 2 u_58.1) (vp_updL (vp_updL gl 53 u_58.2.1) 54 u_58.2.2) rf)), (eA0 (rf 29) (ck 29) 24 f_landHas)] hP hD rfl
      refine W.widen (k := ce + 0) (n := sl + 0) (by omega) (by omega) ?_
      obtain ⟨X_62, hX_62⟩ : ∃ X9 : Int64 × (Int32) × (Int64) × (Int64), X9 = (fq_alike f_landHas y1 y2 ((y3.toInt64 <<< ((32 : Int32).toInt64 &&& 63)) ||| (y4.toInt64 &&& 4294967295)) (0 : Int32) (g 12) (gl 53) (gl 54)) := ⟨_, rfl⟩
      have hq_r_57 : r_57 = X_62.1 := by rw [hX_62]; exact hw.1
      have hq_u_58 : u_58 = X_62.2 := by rw [hX_62]; exact hw.2
      refine lv_pop2_2 hx hb dL_law_1411 rfl ?_
      refine lv_goto (tgt := 2012) hx hb dL_law_1412 (by decide) ?_
      refine W.widen (k := ce + 1) (n := sl + 6) (by omega) (by omega) ?_
      have hP8 : va_P (dC, dI) vwCl [(eO11a x pa bk xsp xdy le xst xsc xim xil xik xmo xom wi), (xmo, .inr (4, [u_39.1, .long u_39.2.1, .long u_39.2.2.1, .long u_39.2.2.2.1, .long u_39.2.2.2.2.1])), (xom, .inr (4, [u_39.2.2.2.2.2.1, .long u_39.2.2.2.2.2.2.1, .long u_39.2.2.2.2.2.2.2.1, .long u_39.2.2.2.2.2.2.2.2.1, .long u_39.2.2.2.2.2.2.2.2.2])), (eO0a bk bto bnm bla bsk bru bbo bdi bda bdk bdt bdp bno), (eA0 bto cTo 5 fTo), (eA4 bla cLa 4 (fun k => some (La k))), (eO1a (La 0) (FI 0) (GR 0) (FR 0)), (eO1a (La 1) (FI 1) (GR 1) (FR 1)), (eO1a (La 2) (FI 2) (GR 2) (FR 2)), (eO1a (La 3) (FI 3) (GR 3) (FR 3)), (mq, .inr (12, mF (upd g 2 u_58.1) (vp_updL (vp_updL gl 53 u_58.2.1) 54 u_58.2.2) rf)), (eA0 (rf 29) (ck 29) 24 f_landHas)] H := hP.sub [0, 1, 2, 3, 4, 5, 6, 7, 8, 9, 10, 11] rfl
      exact kk3 X_50 hX_50 r_38 hq_r_38 u_39 hq_u_39 X_62 hX_62 r_57 hq_r_57 u_58 hq_u_58 H locs ls hP8 hS (lv_sub hl [0, 1, 2, 3, 4] rfl) hz0 hfr
    · refine lv_iconst (v := 1) hx hb dL_law_1403 (by decide) ?_
      refine lv_goto (tgt := 1408) hx hb dL_law_1404 (by decide) ?_
      obtain ⟨hPc, hDc, hFc, hCc⟩ := zsub3 (ws' := [(mq, .inr (12, mF g gl rf)), (eA0 (rf 29) (ck 29) 24 f_landHas)]) hP hD hS hA [0, 1] (by decide) rfl
      have hKc := hK.sub (tys' := [((ck 29), .int)]) [2] rfl
      refine va_calll (va_runV (As := [.int y1, .int y2, .long ((y3.toInt64 <<< ((32 : Int32).toInt64 &&& 63)) ||| (y4.toInt64 &&& 4294967295)), .int 1]) (rest := []) ⟨hx, hb, hml, hown, htw⟩ (gq_alike l dC dI mq g gl rf ck f_landHas y1 y2 ((y3.toInt64 <<< ((32 : Int32).toInt64 &&& 63)) ||| (y4.toInt64 &&& 4294967295)) (1 : Int32) H.size hln0 hln4 hLZ) (cwV 4 htw (xg_V (ck_48 _ (List.mem_of_getElem? (i := 23) rfl)) (ck_49 _ (List.mem_of_getElem? (i := 0) rfl)) (ck_49 _ (List.mem_of_getElem? (i := 1) rfl)) (ck_1 _ (List.mem_of_getElem? (i := 5) rfl)) (ck_49 _ (List.mem_of_getElem? (i := 2) rfl))) rfl rfl rfl (by exact ⟨rfl, hdc_14.1, hdc_14.2, hdd_66⟩) ⟨Nat.le_of_ble_eq_true rfl, Nat.le_of_ble_eq_true rfl⟩) ⟨fun a U g mk q => by obtain ⟨q0, q1, qP, qK, qD⟩ := q; exact ⟨q0, q1, qP, va_K.moved (u := U) (U := U.calling g mk a) (Vm.Alike.refl U.vm) qK, qD⟩, va_recv hKc hPc (ci := 12) (q0 := 0) rfl rfl, fun U hU hW => ⟨rfl, by rw [hU], by rw [hU]; exact hPc, va_K.moved hW.alike hKc, hDc.weaken (fun _ _ _ _ => trivial)⟩⟩ rfl rfl hl.1 rfl (lv_room (Nat.le_of_ble_eq_true rfl)) dL_law_1408 ⟨by first | exact Nat.le_of_ble_eq_true rfl | exact yR (n := 0) (by omega) rfl, by first | exact Nat.le_of_ble_eq_true rfl | exact yR2 (n := 0) (by omega) rfl⟩) hS (fun q _ h => hFc q h) hFc (fun r_63 u_64 t H1 locs ht hvm hw hB hz1 hk1 hS => ?_)
      try dsimp only at hw
      obtain ⟨hP1, hK1, hD1⟩ := hB
      rw [ht] at hP1
      have hK1 := va_K.moved hvm.symm hK1
      have hK1 : va_K (dC, dI) vwCl [] s := hK1
      obtain ⟨hP, hD⟩ := va_join (wr := [(eO11a x pa bk xsp xdy le xst xsc xim xil xik xmo xom wi), (xmo, .inr (4, [u_39.1, .long u_39.2.1, .long u_39.2.2.1, .long u_39.2.2.2.1, .long u_39.2.2.2.2.1])), (xom, .inr (4, [u_39.2.2.2.2.2.1, .long u_39.2.2.2.2.2.2.1, .long u_39.2.2.2.2.2.2.2.1, .long u_39.2.2.2.2.2.2.2.2.1, .long u_39.2.2.2.2.2.2.2.2.2])), (eO0a bk bto bnm bla bsk bru bbo bdi bda bdk bdt bdp bno), (eA0 bto cTo 5 fTo), (eA4 bla cLa 4 (fun k => some (La k))), (eO1a (La 0) (FI 0) (GR 0) (FR 0)), (eO1a (La 1) (FI 1) (GR 1) (FR 1)), (eO1a (La 2) (FI 2) (GR 2) (FR 2)), (eO1a (La 3) (FI 3) (GR 3) (FR 3))]) (w1 := [(mq, .inr (12, mF (upd g 2 u_64.1) (vp_updL (vp_updL gl 53 u_64.2.1) 54 u_64.2.2) rf)), (eA0 (rf 29) (ck 29) 24 f_landHas)]) hP hD [0, 1] [2, 3, 4, 5, 6, 7, 8, 9, 10, 11] hCc rfl (by decide +kernel) (by decide +kernel) hk1 hFc hP1 hD1
      have hfr := yF (wc := [(mq, .inr (12, mF g gl rf)), (eA0 (rf 29) (ck 29) 24 f_landHas)]) hBs [10, 11] rfl hz0 hfr hk1
      have hz0 := Nat.le_trans hz0 hz1
      generalize H1 = H at hP hS hfr hz0 ⊢
      obtain ⟨hP, hD⟩ := zre [(eO11a x pa bk xsp xdy le xst xsc xim xil xik xmo xom wi), (xmo, .inr (4, [u_39.1, .long u_39.2.1, .long u_39.2.2.1, .long u_39.2.2.2.1, .long u_39.2.2.2.2.1])), (xom, .inr (4, [u_39.2.2.2.2.2.1, .long u_39.2.2.2.2.2.2.1, .long u_39.2.2.2.2.2.2.2.1, .long u_39.2.2.2.2.2.2.2.2.1, .long u_39.2.2.2.2.2.2.2.2.2])), (eO0a bk bto bnm bla bsk bru bbo bdi bda bdk bdt bdp bno), (eA0 bto cTo 5 fTo), (eA4 bla cLa 4 (fun k => some (La k))), (eO1a (La 0) (FI 0) (GR 0) (FR 0)), (eO1a (La 1) (FI 1) (GR 1) (FR 1)), (eO1a (La 2) (FI 2) (GR 2) (FR 2)), (eO1a (La 3) (FI 3) (GR 3) (FR 3)), (mq, .inr (12, mF (upd g 2 u_64.1) (vp_updL (vp_updL gl 53 u_64.2.1) 54 u_64.2.2) rf)), (eA0 (rf 29) (ck 29) 24 f_landHas)] hP hD rfl
      refine W.widen (k := ce + 0) (n := sl + 0) (by omega) (by omega) ?_
      obtain ⟨X_68, hX_68⟩ : ∃ X9 : Int64 × (Int32) × (Int64) × (Int64), X9 = (fq_alike f_landHas y1 y2 ((y3.toInt64 <<< ((32 : Int32).toInt64 &&& 63)) ||| (y4.toInt64 &&& 4294967295)) (1 : Int32) (g 12) (gl 53) (gl 54)) := ⟨_, rfl⟩
      have hq_r_63 : r_63 = X_68.1 := by rw [hX_68]; exact hw.1
      have hq_u_64 : u_64 = X_68.2 := by rw [hX_68]; exact hw.2
      refine lv_pop2_2 hx hb dL_law_1411 rfl ?_
      refine lv_goto (tgt := 2012) hx hb dL_law_1412 (by decide) ?_
      refine W.widen (k := ce + 1) (n := sl + 6) (by omega) (by omega) ?_
      have hP8 : va_P (dC, dI) vwCl [(eO11a x pa bk xsp xdy le xst xsc xim xil xik xmo xom wi), (xmo, .inr (4, [u_39.1, .long u_39.2.1, .long u_39.2.2.1, .long u_39.2.2.2.1, .long u_39.2.2.2.2.1])), (xom, .inr (4, [u_39.2.2.2.2.2.1, .long u_39.2.2.2.2.2.2.1, .long u_39.2.2.2.2.2.2.2.1, .long u_39.2.2.2.2.2.2.2.2.1, .long u_39.2.2.2.2.2.2.2.2.2])), (eO0a bk bto bnm bla bsk bru bbo bdi bda bdk bdt bdp bno), (eA0 bto cTo 5 fTo), (eA4 bla cLa 4 (fun k => some (La k))), (eO1a (La 0) (FI 0) (GR 0) (FR 0)), (eO1a (La 1) (FI 1) (GR 1) (FR 1)), (eO1a (La 2) (FI 2) (GR 2) (FR 2)), (eO1a (La 3) (FI 3) (GR 3) (FR 3)), (mq, .inr (12, mF (upd g 2 u_64.1) (vp_updL (vp_updL gl 53 u_64.2.1) 54 u_64.2.2) rf)), (eA0 (rf 29) (ck 29) 24 f_landHas)] H := hP.sub [0, 1, 2, 3, 4, 5, 6, 7, 8, 9, 10, 11] rfl
      exact kk4 X_50 hX_50 r_38 hq_r_38 u_39 hq_u_39 X_68 hX_68 r_63 hq_r_63 u_64 hq_u_64 H locs ls hP8 hS (lv_sub hl [0, 1, 2, 3, 4] rfl) hz0 hfr
