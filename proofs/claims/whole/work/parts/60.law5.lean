/-! .. more of them -/
section LAW5
variable {G : z_G} {A : z_TA} {I : z_TI} {N : z_TN} {O : z_TO} {B : z_TB} {A6 : z_TA} {M : z_TM} {qo qd : Nat} {vo : Nat → Int64} {vd : Nat → UInt64} {w : z_W} {i k n : Nat} {Z : z_Gq}
theorem kL_pointsOfGames (h : z_LW G A I N O B A6 M qo qd vo vd w) (hJ : z_J I N O B M) (hL : G.2.2.2.2.2.1 ≤ 2048) (hi : i + 4 ≤ G.2.2.2.2.2.1) (hk : 24 ≤ k) (hn : 84 ≤ n) (nx : z_nxt G A A6 qo qd i Z (k - 24) (n - 84)) (x6 x7 : Option Value) : z_E G zL_law 9 Z 1192 [some (.ref G.2.2.2.2.1), some (.ref (A 0 0 0)), some (.ref (A6 22 0 0)), some (.ref qo), some (.ref qd), some (.int (nI i)), x6, x7] [] w k n := by
  have v1 : vp_in (nI i + 1) G.2.2.2.2.2.1 := by rw [show (1 : Int32) = nI 1 from rfl, nI_add]; exact vp_in_nI (by omega) (by omega)
  have v2 : vp_in (nI i + 2) G.2.2.2.2.2.1 := by rw [show (2 : Int32) = nI 2 from rfl, nI_add]; exact vp_in_nI (by omega) (by omega)
  refine z_aload_n (pc := 1192) dL_law_1192 rfl (by first | rfl | exact z_isr_rf _) ?_
  refine z_aload_n (pc := 1193) dL_law_1193 rfl (by first | rfl | exact z_isr_rf _) ?_
  refine z_iload (pc := 1194) dL_law_1194 rfl ?_
  refine z_iconst_1 (pc := 1196) dL_law_1196 ?_
  refine z_iadd (pc := 1197) dL_law_1197 ?_
  refine z_sld (pc := 1198) dL_law_1198 (v1) ?_
  refine z_aload_n (pc := 1199) dL_law_1199 rfl (by first | rfl | exact z_isr_rf _) ?_
  refine z_iload (pc := 1200) dL_law_1200 rfl ?_
  refine z_iconst_2 (pc := 1202) dL_law_1202 ?_
  refine z_iadd (pc := 1203) dL_law_1203 ?_
  refine z_sld (pc := 1204) dL_law_1204 (v2) ?_
  refine z_aload_n (pc := 1205) dL_law_1205 rfl (by first | rfl | exact z_isr_rf _) ?_
  refine z_callSX (pc := 1206) (wL_pointsOfGames h hJ (G.2.2.2.2.2.2 (nI i + 1).toNatClampNeg) (G.2.2.2.2.2.2 (nI i + 2).toNatClampNeg)) dL_law_1206 cwL_155 okL_pointsOfGames rfl (by omega) rfl (Nat.le_of_ble_eq_true rfl) (by omega) (by omega) (fun v wN hN => ?_)
  obtain ⟨kk, r, A', I', N', O', B', vo', rfl, hq, hvo, hA, hW⟩ := hN
  refine z_istore6 (pc := 1209) dL_law_1209 ?_
  refine z_aload_n (pc := 1211) dL_law_1211 rfl (by first | rfl | exact z_isr_rf _) ?_
  refine z_aload_n (pc := 1212) dL_law_1212 rfl (by first | rfl | exact z_isr_rf _) ?_
  refine z_iload (pc := 1213) dL_law_1213 rfl ?_
  refine z_iconst_1 (pc := 1215) dL_law_1215 ?_
  refine z_iadd (pc := 1216) dL_law_1216 ?_
  refine z_sld (pc := 1217) dL_law_1217 (v1) ?_
  refine z_aload_n (pc := 1218) dL_law_1218 rfl (by first | rfl | exact z_isr_rf _) ?_
  refine z_iload (pc := 1219) dL_law_1219 rfl ?_
  refine z_iconst_2 (pc := 1221) dL_law_1221 ?_
  refine z_iadd (pc := 1222) dL_law_1222 ?_
  refine z_sld (pc := 1223) dL_law_1223 (v2) ?_
  refine z_callV (pc := 1224) (rL_pointsOfGames hW.2.1 hJ (G.2.2.2.2.2.2 (nI i + 1).toNatClampNeg) (G.2.2.2.2.2.2 (nI i + 2).toNatClampNeg) hq) dL_law_1224 cwL_157 okX6_pointsOfGames rfl (hW.2.1.k22) rfl rfl (by omega) rfl (Nat.le_of_ble_eq_true rfl) (by omega) (by omega) (fun _ _ h => h.elim) (fun v wN hN => ?_)
  obtain ⟨b, M', rfl, hJ', h21, hbr, hM', hf'⟩ := hN
  have hW' := hW.ref hM' hf'
  refine z_istore7 (pc := 1227) dL_law_1227 ?_
  refine z_aload_n (pc := 1229) dL_law_1229 rfl (by first | rfl | exact z_isr_rf _) ?_
  refine z_callVp (pc := 1230) (mX6_thrown hM') dL_law_1230 cwL_92 okX6_thrown rfl (hM'.k22) rfl rfl (by omega) rfl (Nat.le_of_ble_eq_true rfl) ?_
  rw [h21]
  refine z_iload (pc := 1233) dL_law_1233 rfl ?_
  refine z_icmp_eq (pc := 1235) (tgt := 1240) dL_law_1235 (by decide) (fun _ => ?_) (fun hn => absurd (rfl) hn)
  refine z_iload (pc := 1240) dL_law_1240 rfl ?_
  refine z_if_ne (pc := 1242) (tgt := 1257) dL_law_1242 (by decide) (fun hz => ?_) (fun hz => ?_)
  · refine z_goto (pc := 1257) (tgt := 1469) dL_law_1257 (by decide) ?_
    exact z_E.le (by omega) (by omega) (nx A' I' N' O' B' M' vo' vd _ _ _ hA hW' hJ')
  · refine z_aload_n (pc := 1245) dL_law_1245 rfl (by first | rfl | exact z_isr_rf _) ?_
    refine z_iconst_0 (pc := 1246) dL_law_1246 ?_
    refine z_lald (pc := 1247) dL_law_1247 (hW'.2.2.1) (z_v01) ?_
    refine z_iload (pc := 1248) dL_law_1248 rfl ?_
    refine z_i2l (pc := 1250) dL_law_1250 ?_
    refine z_lcmp (pc := 1251) dL_law_1251 ?_
    refine z_if_eq (pc := 1252) (tgt := 1257) dL_law_1252 (by decide) (fun _ => ?_) (fun hn => absurd ((lg_cmp_eq _ _).2 ((hvo hz).trans (by rw [hbr hz]))) hn)
    refine z_goto (pc := 1257) (tgt := 1469) dL_law_1257 (by decide) ?_
    exact z_E.le (by omega) (by omega) (nx A' I' N' O' B' M' vo' vd _ _ _ hA hW' hJ')
theorem kL_mean (h : z_LW G A I N O B A6 M qo qd vo vd w) (hJ : z_J I N O B M) (hL : G.2.2.2.2.2.1 ≤ 2048) (hi : i + 4 ≤ G.2.2.2.2.2.1) (hk : 24 ≤ k) (hn : 84 ≤ n) (nx : z_nxt G A A6 qo qd i Z (k - 24) (n - 84)) (x6 x7 : Option Value) : z_E G zL_law 9 Z 1260 [some (.ref G.2.2.2.2.1), some (.ref (A 0 0 0)), some (.ref (A6 22 0 0)), some (.ref qo), some (.ref qd), some (.int (nI i)), x6, x7] [] w k n := by
  have v1 : vp_in (nI i + 1) G.2.2.2.2.2.1 := by rw [show (1 : Int32) = nI 1 from rfl, nI_add]; exact vp_in_nI (by omega) (by omega)
  have v2 : vp_in (nI i + 2) G.2.2.2.2.2.1 := by rw [show (2 : Int32) = nI 2 from rfl, nI_add]; exact vp_in_nI (by omega) (by omega)
  refine z_aload_n (pc := 1260) dL_law_1260 rfl (by first | rfl | exact z_isr_rf _) ?_
  refine z_aload_n (pc := 1261) dL_law_1261 rfl (by first | rfl | exact z_isr_rf _) ?_
  refine z_iload (pc := 1262) dL_law_1262 rfl ?_
  refine z_iconst_1 (pc := 1264) dL_law_1264 ?_
  refine z_iadd (pc := 1265) dL_law_1265 ?_
  refine z_sld (pc := 1266) dL_law_1266 (v1) ?_
  refine z_aload_n (pc := 1267) dL_law_1267 rfl (by first | rfl | exact z_isr_rf _) ?_
  refine z_iload (pc := 1268) dL_law_1268 rfl ?_
  refine z_iconst_2 (pc := 1270) dL_law_1270 ?_
  refine z_iadd (pc := 1271) dL_law_1271 ?_
  refine z_sld (pc := 1272) dL_law_1272 (v2) ?_
  refine z_aload (pc := 1273) dL_law_1273 rfl (by first | rfl | exact z_isr_rf _) ?_
  refine z_callSX (pc := 1275) (wL_mean h hJ (G.2.2.2.2.2.2 (nI i + 1).toNatClampNeg) (G.2.2.2.2.2.2 (nI i + 2).toNatClampNeg)) dL_law_1275 cwL_158 okL_mean rfl (by omega) rfl (Nat.le_of_ble_eq_true rfl) (by omega) (by omega) (fun v wN hN => ?_)
  obtain ⟨kk, r, vd', rfl, hq, hvd, hW⟩ := hN
  refine z_istore6 (pc := 1278) dL_law_1278 ?_
  refine z_aload_n (pc := 1280) dL_law_1280 rfl (by first | rfl | exact z_isr_rf _) ?_
  refine z_aload_n (pc := 1281) dL_law_1281 rfl (by first | rfl | exact z_isr_rf _) ?_
  refine z_iload (pc := 1282) dL_law_1282 rfl ?_
  refine z_iconst_1 (pc := 1284) dL_law_1284 ?_
  refine z_iadd (pc := 1285) dL_law_1285 ?_
  refine z_sld (pc := 1286) dL_law_1286 (v1) ?_
  refine z_aload_n (pc := 1287) dL_law_1287 rfl (by first | rfl | exact z_isr_rf _) ?_
  refine z_iload (pc := 1288) dL_law_1288 rfl ?_
  refine z_iconst_2 (pc := 1290) dL_law_1290 ?_
  refine z_iadd (pc := 1291) dL_law_1291 ?_
  refine z_sld (pc := 1292) dL_law_1292 (v2) ?_
  refine z_callV (pc := 1293) (rL_mean hW.2.1 hJ (G.2.2.2.2.2.2 (nI i + 1).toNatClampNeg) (G.2.2.2.2.2.2 (nI i + 2).toNatClampNeg) hq) dL_law_1293 cwL_161 okX6_mean rfl (hW.2.1.k22) rfl rfl (by omega) rfl (Nat.le_of_ble_eq_true rfl) (by omega) (by omega) (fun _ _ h => h.elim) (fun v wN hN => ?_)
  obtain ⟨b, M', rfl, hbr, hJ', h21, hM', hf'⟩ := hN
  have hW' := hW.ref hM' hf'
  refine z_fstore7 (pc := 1296) dL_law_1296 ?_
  refine z_aload_n (pc := 1298) dL_law_1298 rfl (by first | rfl | exact z_isr_rf _) ?_
  refine z_callVp (pc := 1299) (mX6_thrown hM') dL_law_1299 cwL_92 okX6_thrown rfl (hM'.k22) rfl rfl (by omega) rfl (Nat.le_of_ble_eq_true rfl) ?_
  rw [h21]
  refine z_iload (pc := 1302) dL_law_1302 rfl ?_
  refine z_icmp_eq (pc := 1304) (tgt := 1309) dL_law_1304 (by decide) (fun _ => ?_) (fun hn => absurd (rfl) hn)
  refine z_iload (pc := 1309) dL_law_1309 rfl ?_
  refine z_if_ne (pc := 1311) (tgt := 1347) dL_law_1311 (by decide) (fun hz => ?_) (fun hz => ?_)
  · refine z_goto (pc := 1347) (tgt := 1469) dL_law_1347 (by decide) ?_
    exact z_E.le (by omega) (by omega) (nx A I N O B M' vo vd' _ _ _ rfl hW' hJ')
  · have nm := hJ.num hq hz
    have eb := hbr hz
    have nb : vf_n64 (FP.f2d b) := by rw [eb]; exact nm.1
    have ev : vd' (0 : Int32).toNatClampNeg = FP.f2d r := hvd hz
    refine z_aload (pc := 1314) dL_law_1314 rfl (by first | rfl | exact z_isr_rf _) ?_
    refine z_iconst_0 (pc := 1316) dL_law_1316 ?_
    refine z_dald (pc := 1317) dL_law_1317 (hW'.2.2.2.1) (z_v01) ?_
    refine z_fload (pc := 1318) dL_law_1318 rfl ?_
    refine z_f2d (pc := 1320) dL_law_1320 (nb) ?_
    refine z_dcmp (pc := 1321) dL_law_1321 ?_
    refine z_if_eq (pc := 1322) (tgt := 1347) dL_law_1322 (by decide) (fun _ => ?_) (fun hn => absurd ((by rw [ev, eb]; exact nm.2)) hn)
    refine z_goto (pc := 1347) (tgt := 1469) dL_law_1347 (by decide) ?_
    exact z_E.le (by omega) (by omega) (nx A I N O B M' vo vd' _ _ _ rfl hW' hJ')
theorem kL_opponent (h : z_LW G A I N O B A6 M qo qd vo vd w) (hJ : z_J I N O B M) (hL : G.2.2.2.2.2.1 ≤ 2048) (hi : i + 4 ≤ G.2.2.2.2.2.1) (hk : 24 ≤ k) (hn : 84 ≤ n) (nx : z_nxt G A A6 qo qd i Z (k - 24) (n - 84)) (x6 x7 : Option Value) : z_E G zL_law 9 Z 1350 [some (.ref G.2.2.2.2.1), some (.ref (A 0 0 0)), some (.ref (A6 22 0 0)), some (.ref qo), some (.ref qd), some (.int (nI i)), x6, x7] [] w k n := by
  have v1 : vp_in (nI i + 1) G.2.2.2.2.2.1 := by rw [show (1 : Int32) = nI 1 from rfl, nI_add]; exact vp_in_nI (by omega) (by omega)
  refine z_aload_n (pc := 1350) dL_law_1350 rfl (by first | rfl | exact z_isr_rf _) ?_
  refine z_aload_n (pc := 1351) dL_law_1351 rfl (by first | rfl | exact z_isr_rf _) ?_
  refine z_iload (pc := 1352) dL_law_1352 rfl ?_
  refine z_iconst_1 (pc := 1354) dL_law_1354 ?_
  refine z_iadd (pc := 1355) dL_law_1355 ?_
  refine z_sld (pc := 1356) dL_law_1356 (v1) ?_
  refine z_aload_n (pc := 1357) dL_law_1357 rfl (by first | rfl | exact z_isr_rf _) ?_
  refine z_callSX (pc := 1358) (wL_opponent h hJ (G.2.2.2.2.2.2 (nI i + 1).toNatClampNeg)) dL_law_1358 cwL_162 okL_opponent rfl (by omega) rfl (Nat.le_of_ble_eq_true rfl) (by omega) (by omega) (fun v wN hN => ?_)
  obtain ⟨kk, r, A', I', N', O', B', vo', rfl, hq, hvo, hA, hW⟩ := hN
  refine z_istore6 (pc := 1361) dL_law_1361 ?_
  refine z_aload_n (pc := 1363) dL_law_1363 rfl (by first | rfl | exact z_isr_rf _) ?_
  refine z_aload_n (pc := 1364) dL_law_1364 rfl (by first | rfl | exact z_isr_rf _) ?_
  refine z_iload (pc := 1365) dL_law_1365 rfl ?_
  refine z_iconst_1 (pc := 1367) dL_law_1367 ?_
  refine z_iadd (pc := 1368) dL_law_1368 ?_
  refine z_sld (pc := 1369) dL_law_1369 (v1) ?_
  refine z_callV (pc := 1370) (rL_opponent hW.2.1 hJ (G.2.2.2.2.2.2 (nI i + 1).toNatClampNeg) hq) dL_law_1370 cwL_164 okX6_opponent rfl (hW.2.1.k22) rfl rfl (by omega) rfl (Nat.le_of_ble_eq_true rfl) (by omega) (by omega) (fun _ _ h => h.elim) (fun v wN hN => ?_)
  obtain ⟨b, M', rfl, hJ', h21, hbr, hM', hf'⟩ := hN
  have hW' := hW.ref hM' hf'
  refine z_istore7 (pc := 1373) dL_law_1373 ?_
  refine z_aload_n (pc := 1375) dL_law_1375 rfl (by first | rfl | exact z_isr_rf _) ?_
  refine z_callVp (pc := 1376) (mX6_thrown hM') dL_law_1376 cwL_92 okX6_thrown rfl (hM'.k22) rfl rfl (by omega) rfl (Nat.le_of_ble_eq_true rfl) ?_
  rw [h21]
  refine z_iload (pc := 1379) dL_law_1379 rfl ?_
  refine z_icmp_eq (pc := 1381) (tgt := 1386) dL_law_1381 (by decide) (fun _ => ?_) (fun hn => absurd (rfl) hn)
  refine z_iload (pc := 1386) dL_law_1386 rfl ?_
  refine z_if_ne (pc := 1388) (tgt := 1403) dL_law_1388 (by decide) (fun hz => ?_) (fun hz => ?_)
  · refine z_goto (pc := 1403) (tgt := 1469) dL_law_1403 (by decide) ?_
    exact z_E.le (by omega) (by omega) (nx A' I' N' O' B' M' vo' vd _ _ _ hA hW' hJ')
  · refine z_aload_n (pc := 1391) dL_law_1391 rfl (by first | rfl | exact z_isr_rf _) ?_
    refine z_iconst_0 (pc := 1392) dL_law_1392 ?_
    refine z_lald (pc := 1393) dL_law_1393 (hW'.2.2.1) (z_v01) ?_
    refine z_iload (pc := 1394) dL_law_1394 rfl ?_
    refine z_i2l (pc := 1396) dL_law_1396 ?_
    refine z_lcmp (pc := 1397) dL_law_1397 ?_
    refine z_if_eq (pc := 1398) (tgt := 1403) dL_law_1398 (by decide) (fun _ => ?_) (fun hn => absurd ((lg_cmp_eq _ _).2 ((hvo hz).trans (by rw [hbr hz]))) hn)
    refine z_goto (pc := 1403) (tgt := 1469) dL_law_1403 (by decide) ?_
    exact z_E.le (by omega) (by omega) (nx A' I' N' O' B' M' vo' vd _ _ _ hA hW' hJ')
theorem kL_hasWhite (h : z_LW G A I N O B A6 M qo qd vo vd w) (hJ : z_J I N O B M) (hL : G.2.2.2.2.2.1 ≤ 2048) (hi : i + 4 ≤ G.2.2.2.2.2.1) (hk : 24 ≤ k) (hn : 84 ≤ n) (nx : z_nxt G A A6 qo qd i Z (k - 24) (n - 84)) (x6 x7 : Option Value) : z_E G zL_law 9 Z 1406 [some (.ref G.2.2.2.2.1), some (.ref (A 0 0 0)), some (.ref (A6 22 0 0)), some (.ref qo), some (.ref qd), some (.int (nI i)), x6, x7] [] w k n := by
  have v1 : vp_in (nI i + 1) G.2.2.2.2.2.1 := by rw [show (1 : Int32) = nI 1 from rfl, nI_add]; exact vp_in_nI (by omega) (by omega)
  refine z_aload_n (pc := 1406) dL_law_1406 rfl (by first | rfl | exact z_isr_rf _) ?_
  refine z_aload_n (pc := 1407) dL_law_1407 rfl (by first | rfl | exact z_isr_rf _) ?_
  refine z_iload (pc := 1408) dL_law_1408 rfl ?_
  refine z_iconst_1 (pc := 1410) dL_law_1410 ?_
  refine z_iadd (pc := 1411) dL_law_1411 ?_
  refine z_sld (pc := 1412) dL_law_1412 (v1) ?_
  refine z_aload_n (pc := 1413) dL_law_1413 rfl (by first | rfl | exact z_isr_rf _) ?_
  refine z_callSX (pc := 1414) (wL_hasWhite h hJ (G.2.2.2.2.2.2 (nI i + 1).toNatClampNeg)) dL_law_1414 cwL_165 okL_hasWhite rfl (by omega) rfl (Nat.le_of_ble_eq_true rfl) (by omega) (by omega) (fun v wN hN => ?_)
  obtain ⟨kk, r, A', I', N', O', B', vo', rfl, hq, hvo, hA, hW⟩ := hN
  refine z_istore6 (pc := 1417) dL_law_1417 ?_
  refine z_aload_n (pc := 1419) dL_law_1419 rfl (by first | rfl | exact z_isr_rf _) ?_
  refine z_aload_n (pc := 1420) dL_law_1420 rfl (by first | rfl | exact z_isr_rf _) ?_
  refine z_iload (pc := 1421) dL_law_1421 rfl ?_
  refine z_iconst_1 (pc := 1423) dL_law_1423 ?_
  refine z_iadd (pc := 1424) dL_law_1424 ?_
  refine z_sld (pc := 1425) dL_law_1425 (v1) ?_
  refine z_callV (pc := 1426) (rL_hasWhite hW.2.1 hJ (G.2.2.2.2.2.2 (nI i + 1).toNatClampNeg) hq) dL_law_1426 cwL_167 okX6_hasWhite rfl (hW.2.1.k22) rfl rfl (by omega) rfl (Nat.le_of_ble_eq_true rfl) (by omega) (by omega) (fun _ _ h => h.elim) (fun v wN hN => ?_)
  obtain ⟨b, M', rfl, hJ', h21, hbr, hM', hf'⟩ := hN
  have hW' := hW.ref hM' hf'
  refine z_istore7 (pc := 1429) dL_law_1429 ?_
  refine z_aload_n (pc := 1431) dL_law_1431 rfl (by first | rfl | exact z_isr_rf _) ?_
  refine z_callVp (pc := 1432) (mX6_thrown hM') dL_law_1432 cwL_92 okX6_thrown rfl (hM'.k22) rfl rfl (by omega) rfl (Nat.le_of_ble_eq_true rfl) ?_
  rw [h21]
  refine z_iload (pc := 1435) dL_law_1435 rfl ?_
  refine z_icmp_eq (pc := 1437) (tgt := 1442) dL_law_1437 (by decide) (fun _ => ?_) (fun hn => absurd (rfl) hn)
  refine z_iload (pc := 1442) dL_law_1442 rfl ?_
  refine z_if_ne (pc := 1444) (tgt := 1466) dL_law_1444 (by decide) (fun hz => ?_) (fun hz => ?_)
  · refine z_goto (pc := 1466) (tgt := 1469) dL_law_1466 (by decide) ?_
    exact z_E.le (by omega) (by omega) (nx A' I' N' O' B' M' vo' vd _ _ _ hA hW' hJ')
  · refine z_aload_n (pc := 1447) dL_law_1447 rfl (by first | rfl | exact z_isr_rf _) ?_
    refine z_iconst_0 (pc := 1448) dL_law_1448 ?_
    refine z_lald (pc := 1449) dL_law_1449 (hW'.2.2.1) (z_v01) ?_
    refine z_iload (pc := 1450) dL_law_1450 rfl ?_
    refine z_if_eq (pc := 1452) (tgt := 1459) dL_law_1452 (by decide) (fun hb => ?_) (fun hb => ?_)
    · refine z_lconst0 (pc := 1459) dL_law_1459 ?_
      refine z_lcmp (pc := 1460) dL_law_1460 ?_
      refine z_if_eq (pc := 1461) (tgt := 1466) dL_law_1461 (by decide) (fun _ => ?_) (fun hn => absurd ((lg_cmp_eq _ _).2 ((hvo hz).trans (by rw [← hbr hz, hb]; rfl))) hn)
      refine z_goto (pc := 1466) (tgt := 1469) dL_law_1466 (by decide) ?_
      exact z_E.le (by omega) (by omega) (nx A' I' N' O' B' M' vo' vd _ _ _ hA hW' hJ')
    · refine z_lconst1 (pc := 1455) dL_law_1455 ?_
      refine z_goto (pc := 1456) (tgt := 1460) dL_law_1456 (by decide) ?_
      refine z_lcmp (pc := 1460) dL_law_1460 ?_
      refine z_if_eq (pc := 1461) (tgt := 1466) dL_law_1461 (by decide) (fun _ => ?_) (fun hn => absurd ((lg_cmp_eq _ _).2 ((hvo hz).trans (by rw [(hq.2 hz).resolve_left (fun q => hb ((hbr hz).trans q))]; rfl))) hn)
      refine z_goto (pc := 1466) (tgt := 1469) dL_law_1466 (by decide) ?_
      exact z_E.le (by omega) (by omega) (nx A' I' N' O' B' M' vo' vd _ _ _ hA hW' hJ')
end LAW5

