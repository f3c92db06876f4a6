/-! ===== the law, case by case (4) ===== -/
section TB83
variable {Γ : Gm} {Q : Option Value → LH → Prop} {Y : Nat → YT} {X : XT} {T S : TW} {M : Nat → TW} {D E : DW} {N : Nat → DW} {C : CH} {U : UT} {W : WT} {G : GT} {L : LT} {VL : Nat → Int32} {HL ST : Int32} {nK : Nat} {TP BT : Int64} {m_at m_sort m_trayMany m_tape m_text m_opened m_eastBy m_northBy m_partBy m_wayFaults m_wayEast m_wayNorth m_olds m_farBy m_rowBy m_triedBy m_doneAt m_gotAt m_struckAt m_bestDeed m_loops m_ran m_told1 : Nat → Int32} {m_names m_trays m_misBy : Nat → Int64} {m_size m_token m_from m_end m_value m_faultKind m_faultPlace m_faults m_seen m_areOdds m_depth m_counted m_wayMany m_oneOfSet m_twoOfSet m_rowMany m_drawn m_ranSteps m_isTold : Int32} {cb sb i : Nat}
set_option maxRecDepth 100000 in
set_option maxHeartbeats 4000000 in
theorem law_area (h3 : Γ.2.2.2.1 ≤ 3072) (hi : i + 6 ≤ Γ.2.2.2.1) (hn : LNX Γ cb sb i Q) (R : LR Y X T S M D E N C U W L VL HL nK m_at m_names m_sort m_trayMany m_trays m_tape m_faultKind m_faultPlace m_told1 m_isTold) : WP Γ M_Law_law 20 (cb + 2) (sb + 8) (lawH (hPM Y X T S M D E N C U W G L VL HL nK ST TP BT) (hM m_at m_names (ST) (TP) (BT) m_sort m_trayMany m_trays m_tape m_text ((nI X.nF)) m_size m_token m_from m_end m_value m_faultKind m_faultPlace m_faults m_seen m_areOdds m_opened m_depth m_counted m_eastBy m_northBy m_partBy m_wayFaults m_wayEast m_wayNorth m_olds m_wayMany m_oneOfSet m_twoOfSet m_farBy m_rowBy m_triedBy m_rowMany m_doneAt m_gotAt m_struckAt m_bestDeed m_misBy m_drawn m_ranSteps m_loops m_ran m_told1 m_isTold ((nI nK)))) 1276 [some (.ref (XB + 4)), some (.ref 0), some (.ref 124), some (.int (nI i))] [] Q := by
  obtain ⟨hR, hv, hY, hF, hco, hX, hfk, hfp, hto, htj, hSO⟩ := id R
  refine wp_aload_n 1277 d_Law_law_1276 rfl rfl ?_
  refine wp_aload_n 1278 d_Law_law_1277 rfl rfl ?_
  refine wp_iload_n 1279 d_Law_law_1278 rfl rfl ?_
  refine wp_iconst 1280 1 d_Law_law_1279 rfl (by decide) ?_
  refine wp_iadd 1281 d_Law_law_1280 rfl ?_
  rw [show nI i + 1 = nI (i + 1) from nI_add i 1]
  refine wp_sldN 1282 d_Law_law_1281 rfl h3 (by omega) ?_
  refine wp_aload_n 1283 d_Law_law_1282 rfl rfl ?_
  refine wp_iload_n 1284 d_Law_law_1283 rfl rfl ?_
  refine wp_iconst 1285 2 d_Law_law_1284 rfl (by decide) ?_
  refine wp_iadd 1286 d_Law_law_1285 rfl ?_
  rw [show nI i + 2 = nI (i + 2) from nI_add i 2]
  refine wp_sldN 1287 d_Law_law_1286 rfl h3 (by omega) ?_
  refine lP_V2 (cb := cb + 2) (sb := sb + 8) 1290 M_PM_area 6 0 0 d_Law_law_1287 rfl mv_PM_area lk_Law_158 rfl rfl rfl rfl rfl rfl ?_
  refine c_PM_area hR.1.1.ok hSO (fun v9 e1 e2 C2 U2 W2 G2 L2 so2 => ?_) (fun e1 C2 U2 W2 G2 L2 so2 => ?_)
  · refine lkI rfl ?_
    refine wp_aload_n 1291 d_Law_law_1290 rfl rfl ?_
    refine wp_aload_n 1292 d_Law_law_1291 rfl rfl ?_
    refine wp_iload_n 1293 d_Law_law_1292 rfl rfl ?_
    refine wp_iconst 1294 1 d_Law_law_1293 rfl (by decide) ?_
    refine wp_iadd 1295 d_Law_law_1294 rfl ?_
    rw [show nI i + 1 = nI (i + 1) from nI_add i 1]
    refine wp_sldN 1296 d_Law_law_1295 rfl h3 (by omega) ?_
    refine wp_aload_n 1297 d_Law_law_1296 rfl rfl ?_
    refine wp_iload_n 1298 d_Law_law_1297 rfl rfl ?_
    refine wp_iconst 1299 2 d_Law_law_1298 rfl (by decide) ?_
    refine wp_iadd 1300 d_Law_law_1299 rfl ?_
    rw [show nI i + 2 = nI (i + 2) from nI_add i 2]
    refine wp_sldN 1301 d_Law_law_1300 rfl h3 (by omega) ?_
    refine lM_V2 (cb := cb + 2) (sb := sb + 8) 1304 M_Mo_area 7 0 0 d_Law_law_1301 rfl mv_Mo_area lk_Law_162 rfl rfl rfl rfl rfl rfl rfl rfl rfl ?_
    refine c_Mo_area hR.1.1 hv (fun w9 e3 e4 s9 => ?_) (fun e3 s9 => ?_)
    · refine mkI rfl ?_
      obtain rfl : v9 = w9 := e1.symm.trans e3
      refine wp_icmp_eq 1539 1307 d_Law_law_1304 rfl (by decide) (fun h1304 => ?_) (fun h1304 => ?_)
      · refine wp_less (cb := cb) (sb := sb) (a := 2) (b := 8) (hn _ _ _ _ _ _ _ _ _ _ _ _ _ _ _ _ _ _ _ _ _ _ _ _ _ _ _ _ _ _ _ _ _ _ _ _ _ _ _ _ _ _ _ _ _ _ _ _ _ _ _ _ _ _ _ _ _ _ _ _ _ _ _ _ ?_)
        exact ⟨hR, hv, hY, hF, hco, hX, hfk, hfp, hto, htj, so2⟩
      · exact absurd (rfl) h1304
    · refine mkI rfl ?_
      exact absurd (e1.symm.trans e3) e2
  · refine lkI rfl ?_
    refine wp_aload_n 1291 d_Law_law_1290 rfl rfl ?_
    refine wp_aload_n 1292 d_Law_law_1291 rfl rfl ?_
    refine wp_iload_n 1293 d_Law_law_1292 rfl rfl ?_
    refine wp_iconst 1294 1 d_Law_law_1293 rfl (by decide) ?_
    refine wp_iadd 1295 d_Law_law_1294 rfl ?_
    rw [show nI i + 1 = nI (i + 1) from nI_add i 1]
    refine wp_sldN 1296 d_Law_law_1295 rfl h3 (by omega) ?_
    refine wp_aload_n 1297 d_Law_law_1296 rfl rfl ?_
    refine wp_iload_n 1298 d_Law_law_1297 rfl rfl ?_
    refine wp_iconst 1299 2 d_Law_law_1298 rfl (by decide) ?_
    refine wp_iadd 1300 d_Law_law_1299 rfl ?_
    rw [show nI i + 2 = nI (i + 2) from nI_add i 2]
    refine wp_sldN 1301 d_Law_law_1300 rfl h3 (by omega) ?_
    refine lM_V2 (cb := cb + 2) (sb := sb + 8) 1304 M_Mo_area 7 0 0 d_Law_law_1301 rfl mv_Mo_area lk_Law_162 rfl rfl rfl rfl rfl rfl rfl rfl rfl ?_
    refine c_Mo_area hR.1.1 hv (fun w9 e3 e4 s9 => ?_) (fun e3 s9 => ?_)
    · refine mkI rfl ?_
      exact absurd (e3.symm.trans e1) e4
    · refine mkI rfl ?_
      refine wp_icmp_eq 1539 1307 d_Law_law_1304 rfl (by decide) (fun h1304 => ?_) (fun h1304 => ?_)
      · refine wp_less (cb := cb) (sb := sb) (a := 2) (b := 8) (hn _ _ _ _ _ _ _ _ _ _ _ _ _ _ _ _ _ _ _ _ _ _ _ _ _ _ _ _ _ _ _ _ _ _ _ _ _ _ _ _ _ _ _ _ _ _ _ _ _ _ _ _ _ _ _ _ _ _ _ _ _ _ _ _ ?_)
        exact ⟨hR, hv, hY, hF, hco, hX, hfk, hfp, hto, htj, so2⟩
      · exact absurd (rfl) h1304
set_option maxRecDepth 100000 in
set_option maxHeartbeats 4000000 in
theorem law_game (h3 : Γ.2.2.2.1 ≤ 3072) (hi : i + 6 ≤ Γ.2.2.2.1) (hn : LNX Γ cb sb i Q) (R : LR Y X T S M D E N C U W L VL HL nK m_at m_names m_sort m_trayMany m_trays m_tape m_faultKind m_faultPlace m_told1 m_isTold) : WP Γ M_Law_law 20 (cb + 2) (sb + 8) (lawH (hPM Y X T S M D E N C U W G L VL HL nK ST TP BT) (hM m_at m_names (ST) (TP) (BT) m_sort m_trayMany m_trays m_tape m_text ((nI X.nF)) m_size m_token m_from m_end m_value m_faultKind m_faultPlace m_faults m_seen m_areOdds m_opened m_depth m_counted m_eastBy m_northBy m_partBy m_wayFaults m_wayEast m_wayNorth m_olds m_wayMany m_oneOfSet m_twoOfSet m_farBy m_rowBy m_triedBy m_rowMany m_doneAt m_gotAt m_struckAt m_bestDeed m_misBy m_drawn m_ranSteps m_loops m_ran m_told1 m_isTold ((nI nK)))) 1309 [some (.ref (XB + 4)), some (.ref 0), some (.ref 124), some (.int (nI i))] [] Q := by
  obtain ⟨hR, hv, hY, hF, hco, hX, hfk, hfp, hto, htj, hSO⟩ := id R
  refine wp_aload_n 1310 d_Law_law_1309 rfl rfl ?_
  refine wp_aload_n 1311 d_Law_law_1310 rfl rfl ?_
  refine wp_iload_n 1312 d_Law_law_1311 rfl rfl ?_
  refine wp_iconst 1313 1 d_Law_law_1312 rfl (by decide) ?_
  refine wp_iadd 1314 d_Law_law_1313 rfl ?_
  rw [show nI i + 1 = nI (i + 1) from nI_add i 1]
  refine wp_sldN 1315 d_Law_law_1314 rfl h3 (by omega) ?_
  refine lP_V1 (cb := cb + 2) (sb := sb + 8) 1318 M_PM_game 13 0 0 d_Law_law_1315 rfl mv_PM_game lk_Law_163 rfl rfl rfl rfl rfl rfl ?_
  refine c_PM_game hR.1.1.ok hSO G rfl (fun C2 U2 W2 G2 L2 so2 => ?_)
  refine lkI rfl ?_
  refine wp_aload_n 1319 d_Law_law_1318 rfl rfl ?_
  refine wp_aload_n 1320 d_Law_law_1319 rfl rfl ?_
  refine wp_iload_n 1321 d_Law_law_1320 rfl rfl ?_
  refine wp_iconst 1322 1 d_Law_law_1321 rfl (by decide) ?_
  refine wp_iadd 1323 d_Law_law_1322 rfl ?_
  rw [show nI i + 1 = nI (i + 1) from nI_add i 1]
  refine wp_sldN 1324 d_Law_law_1323 rfl h3 (by omega) ?_
  refine lM_V1 (cb := cb + 2) (sb := sb + 8) 1327 M_Mo_game 9 0 0 d_Law_law_1324 rfl mv_Mo_game lk_Law_166 rfl rfl rfl rfl rfl rfl rfl rfl ?_
  refine c_Mo_game hR.1.1 G (fun d2 g2 a2 b2 s2 => ?_)
  refine mkI rfl ?_
  refine wp_icmp_eq 1539 1330 d_Law_law_1327 rfl (by decide) (fun h1327 => ?_) (fun h1327 => ?_)
  · refine wp_less (cb := cb) (sb := sb) (a := 2) (b := 8) (hn _ _ _ _ _ _ _ _ _ _ _ _ _ _ _ _ _ _ _ _ _ _ _ _ _ _ _ _ _ _ _ _ _ _ _ _ _ _ _ _ _ _ _ _ _ _ _ _ _ _ _ _ _ _ _ _ _ _ _ _ _ _ _ _ ?_)
    exact ⟨hR, hv, hY, hF, hco, hX, hfk, hfp, hto, htj, so2⟩
  · exact absurd (rfl) h1327
set_option maxRecDepth 100000 in
set_option maxHeartbeats 4000000 in
theorem law_moveOf (h3 : Γ.2.2.2.1 ≤ 3072) (hi : i + 6 ≤ Γ.2.2.2.1) (hn : LNX Γ cb sb i Q) (R : LR Y X T S M D E N C U W L VL HL nK m_at m_names m_sort m_trayMany m_trays m_tape m_faultKind m_faultPlace m_told1 m_isTold) : WP Γ M_Law_law 20 (cb + 2) (sb + 8) (lawH (hPM Y X T S M D E N C U W G L VL HL nK ST TP BT) (hM m_at m_names (ST) (TP) (BT) m_sort m_trayMany m_trays m_tape m_text ((nI X.nF)) m_size m_token m_from m_end m_value m_faultKind m_faultPlace m_faults m_seen m_areOdds m_opened m_depth m_counted m_eastBy m_northBy m_partBy m_wayFaults m_wayEast m_wayNorth m_olds m_wayMany m_oneOfSet m_twoOfSet m_farBy m_rowBy m_triedBy m_rowMany m_doneAt m_gotAt m_struckAt m_bestDeed m_misBy m_drawn m_ranSteps m_loops m_ran m_told1 m_isTold ((nI nK)))) 1332 [some (.ref (XB + 4)), some (.ref 0), some (.ref 124), some (.int (nI i))] [] Q := by
  obtain ⟨hR, hv, hY, hF, hco, hX, hfk, hfp, hto, htj, hSO⟩ := id R
  refine wp_aload_n 1333 d_Law_law_1332 rfl rfl ?_
  refine wp_aload_n 1334 d_Law_law_1333 rfl rfl ?_
  refine wp_iload_n 1335 d_Law_law_1334 rfl rfl ?_
  refine wp_iconst 1336 1 d_Law_law_1335 rfl (by decide) ?_
  refine wp_iadd 1337 d_Law_law_1336 rfl ?_
  rw [show nI i + 1 = nI (i + 1) from nI_add i 1]
  refine wp_sldN 1338 d_Law_law_1337 rfl h3 (by omega) ?_
  refine lP_V1 (cb := cb + 2) (sb := sb + 8) 1341 M_PM_moveOf 13 0 0 d_Law_law_1338 rfl mv_PM_moveOf lk_Law_167 rfl rfl rfl rfl rfl rfl ?_
  refine c_PM_moveOf hR.1.1.ok hSO G rfl (fun C2 U2 W2 G2 L2 so2 => ?_)
  refine lkI rfl ?_
  refine wp_aload_n 1342 d_Law_law_1341 rfl rfl ?_
  refine wp_aload_n 1343 d_Law_law_1342 rfl rfl ?_
  refine wp_iload_n 1344 d_Law_law_1343 rfl rfl ?_
  refine wp_iconst 1345 1 d_Law_law_1344 rfl (by decide) ?_
  refine wp_iadd 1346 d_Law_law_1345 rfl ?_
  rw [show nI i + 1 = nI (i + 1) from nI_add i 1]
  refine wp_sldN 1347 d_Law_law_1346 rfl h3 (by omega) ?_
  refine lM_V1 (cb := cb + 2) (sb := sb + 8) 1350 M_Mo_moveOf 9 0 0 d_Law_law_1347 rfl mv_Mo_moveOf lk_Law_170 rfl rfl rfl rfl rfl rfl rfl rfl ?_
  refine c_Mo_moveOf hR.1.1 G (fun d2 g2 a2 b2 s2 => ?_)
  refine mkI rfl ?_
  refine wp_icmp_eq 1539 1353 d_Law_law_1350 rfl (by decide) (fun h1350 => ?_) (fun h1350 => ?_)
  · refine wp_less (cb := cb) (sb := sb) (a := 2) (b := 8) (hn _ _ _ _ _ _ _ _ _ _ _ _ _ _ _ _ _ _ _ _ _ _ _ _ _ _ _ _ _ _ _ _ _ _ _ _ _ _ _ _ _ _ _ _ _ _ _ _ _ _ _ _ _ _ _ _ _ _ _ _ _ _ _ _ ?_)
    exact ⟨hR, hv, hY, hF, hco, hX, hfk, hfp, hto, htj, so2⟩
  · exact absurd (rfl) h1350
set_option maxRecDepth 100000 in
set_option maxHeartbeats 4000000 in
theorem law_misread (h3 : Γ.2.2.2.1 ≤ 3072) (hi : i + 6 ≤ Γ.2.2.2.1) (hn : LNX Γ cb sb i Q) (R : LR Y X T S M D E N C U W L VL HL nK m_at m_names m_sort m_trayMany m_trays m_tape m_faultKind m_faultPlace m_told1 m_isTold) : WP Γ M_Law_law 20 (cb + 2) (sb + 8) (lawH (hPM Y X T S M D E N C U W G L VL HL nK ST TP BT) (hM m_at m_names (ST) (TP) (BT) m_sort m_trayMany m_trays m_tape m_text ((nI X.nF)) m_size m_token m_from m_end m_value m_faultKind m_faultPlace m_faults m_seen m_areOdds m_opened m_depth m_counted m_eastBy m_northBy m_partBy m_wayFaults m_wayEast m_wayNorth m_olds m_wayMany m_oneOfSet m_twoOfSet m_farBy m_rowBy m_triedBy m_rowMany m_doneAt m_gotAt m_struckAt m_bestDeed m_misBy m_drawn m_ranSteps m_loops m_ran m_told1 m_isTold ((nI nK)))) 1355 [some (.ref (XB + 4)), some (.ref 0), some (.ref 124), some (.int (nI i))] [] Q := by
  obtain ⟨hR, hv, hY, hF, hco, hX, hfk, hfp, hto, htj, hSO⟩ := id R
  refine wp_aload_n 1356 d_Law_law_1355 rfl rfl ?_
  refine wp_aload_n 1357 d_Law_law_1356 rfl rfl ?_
  refine wp_iload_n 1358 d_Law_law_1357 rfl rfl ?_
  refine wp_iconst 1359 1 d_Law_law_1358 rfl (by decide) ?_
  refine wp_iadd 1360 d_Law_law_1359 rfl ?_
  rw [show nI i + 1 = nI (i + 1) from nI_add i 1]
  refine wp_sldN 1361 d_Law_law_1360 rfl h3 (by omega) ?_
  refine wp_aload_n 1362 d_Law_law_1361 rfl rfl ?_
  refine wp_iload_n 1363 d_Law_law_1362 rfl rfl ?_
  refine wp_iconst 1364 2 d_Law_law_1363 rfl (by decide) ?_
  refine wp_iadd 1365 d_Law_law_1364 rfl ?_
  rw [show nI i + 2 = nI (i + 2) from nI_add i 2]
  refine wp_sldN 1366 d_Law_law_1365 rfl h3 (by omega) ?_
  refine lP_V2 (cb := cb + 2) (sb := sb + 8) 1369 M_PM_misread 3 0 0 d_Law_law_1366 rfl mv_PM_misread lk_Law_171 rfl rfl rfl rfl rfl rfl ?_
  refine c_PM_misread (fun e1 => ?_) (fun e1 => ?_)
  · refine lkI rfl ?_
    refine wp_aload_n 1370 d_Law_law_1369 rfl rfl ?_
    refine wp_aload_n 1371 d_Law_law_1370 rfl rfl ?_
    refine wp_iload_n 1372 d_Law_law_1371 rfl rfl ?_
    refine wp_iconst 1373 1 d_Law_law_1372 rfl (by decide) ?_
    refine wp_iadd 1374 d_Law_law_1373 rfl ?_
    rw [show nI i + 1 = nI (i + 1) from nI_add i 1]
    refine wp_sldN 1375 d_Law_law_1374 rfl h3 (by omega) ?_
    refine wp_aload_n 1376 d_Law_law_1375 rfl rfl ?_
    refine wp_iload_n 1377 d_Law_law_1376 rfl rfl ?_
    refine wp_iconst 1378 2 d_Law_law_1377 rfl (by decide) ?_
    refine wp_iadd 1379 d_Law_law_1378 rfl ?_
    rw [show nI i + 2 = nI (i + 2) from nI_add i 2]
    refine wp_sldN 1380 d_Law_law_1379 rfl h3 (by omega) ?_
    refine lM_V2 (cb := cb + 2) (sb := sb + 8) 1383 M_Mo_misread 3 0 0 d_Law_law_1380 rfl mv_Mo_misread lk_Law_174 rfl rfl rfl rfl rfl rfl rfl rfl rfl ?_
    refine c_Mo_misread hR.1.1 (fun e3 => ?_) (fun e3 f2 => ?_)
    · refine mkI rfl ?_
      refine wp_icmp_eq 1539 1386 d_Law_law_1383 rfl (by decide) (fun h1383 => ?_) (fun h1383 => ?_)
      · refine wp_less (cb := cb) (sb := sb) (a := 2) (b := 8) (hn _ _ _ _ _ _ _ _ _ _ _ _ _ _ _ _ _ _ _ _ _ _ _ _ _ _ _ _ _ _ _ _ _ _ _ _ _ _ _ _ _ _ _ _ _ _ _ _ _ _ _ _ _ _ _ _ _ _ _ _ _ _ _ _ ?_)
        exact ⟨hR, hv, hY, hF, hco, hX, hfk, hfp, hto, htj, hSO⟩
      · exact absurd (rfl) h1383
    · refine mkI rfl ?_
      exact absurd e3 e1
  · refine lkI rfl ?_
    refine wp_aload_n 1370 d_Law_law_1369 rfl rfl ?_
    refine wp_aload_n 1371 d_Law_law_1370 rfl rfl ?_
    refine wp_iload_n 1372 d_Law_law_1371 rfl rfl ?_
    refine wp_iconst 1373 1 d_Law_law_1372 rfl (by decide) ?_
    refine wp_iadd 1374 d_Law_law_1373 rfl ?_
    rw [show nI i + 1 = nI (i + 1) from nI_add i 1]
    refine wp_sldN 1375 d_Law_law_1374 rfl h3 (by omega) ?_
    refine wp_aload_n 1376 d_Law_law_1375 rfl rfl ?_
    refine wp_iload_n 1377 d_Law_law_1376 rfl rfl ?_
    refine wp_iconst 1378 2 d_Law_law_1377 rfl (by decide) ?_
    refine wp_iadd 1379 d_Law_law_1378 rfl ?_
    rw [show nI i + 2 = nI (i + 2) from nI_add i 2]
    refine wp_sldN 1380 d_Law_law_1379 rfl h3 (by omega) ?_
    refine lM_V2 (cb := cb + 2) (sb := sb + 8) 1383 M_Mo_misread 3 0 0 d_Law_law_1380 rfl mv_Mo_misread lk_Law_174 rfl rfl rfl rfl rfl rfl rfl rfl rfl ?_
    refine c_Mo_misread hR.1.1 (fun e3 => ?_) (fun e3 f2 => ?_)
    · refine mkI rfl ?_
      exact absurd e1 e3
    · refine mkI rfl ?_
      refine wp_icmp_eq 1539 1386 d_Law_law_1383 rfl (by decide) (fun h1383 => ?_) (fun h1383 => ?_)
      · refine wp_less (cb := cb) (sb := sb) (a := 2) (b := 8) (hn _ _ _ _ _ _ _ _ _ _ _ _ _ _ _ _ _ _ _ _ _ _ _ _ _ _ _ _ _ _ _ _ _ _ _ _ _ _ _ _ _ _ _ _ _ _ _ _ _ _ _ _ _ _ _ _ _ _ _ _ _ _ _ _ ?_)
        exact ⟨hR, hv, hY, hF, hco, hX, hfk, hfp, hto, htj, hSO⟩
      · exact absurd (rfl) h1383
set_option maxRecDepth 100000 in
set_option maxHeartbeats 4000000 in
theorem law_share (h3 : Γ.2.2.2.1 ≤ 3072) (hi : i + 6 ≤ Γ.2.2.2.1) (hn : LNX Γ cb sb i Q) (R : LR Y X T S M D E N C U W L VL HL nK m_at m_names m_sort m_trayMany m_trays m_tape m_faultKind m_faultPlace m_told1 m_isTold) : WP Γ M_Law_law 20 (cb + 2) (sb + 8) (lawH (hPM Y X T S M D E N C U W G L VL HL nK ST TP BT) (hM m_at m_names (ST) (TP) (BT) m_sort m_trayMany m_trays m_tape m_text ((nI X.nF)) m_size m_token m_from m_end m_value m_faultKind m_faultPlace m_faults m_seen m_areOdds m_opened m_depth m_counted m_eastBy m_northBy m_partBy m_wayFaults m_wayEast m_wayNorth m_olds m_wayMany m_oneOfSet m_twoOfSet m_farBy m_rowBy m_triedBy m_rowMany m_doneAt m_gotAt m_struckAt m_bestDeed m_misBy m_drawn m_ranSteps m_loops m_ran m_told1 m_isTold ((nI nK)))) 1388 [some (.ref (XB + 4)), some (.ref 0), some (.ref 124), some (.int (nI i))] [] Q := by
  obtain ⟨hR, hv, hY, hF, hco, hX, hfk, hfp, hto, htj, hSO⟩ := id R
  refine wp_aload_n 1389 d_Law_law_1388 rfl rfl ?_
  refine wp_aload_n 1390 d_Law_law_1389 rfl rfl ?_
  refine wp_iload_n 1391 d_Law_law_1390 rfl rfl ?_
  refine wp_iconst 1392 1 d_Law_law_1391 rfl (by decide) ?_
  refine wp_iadd 1393 d_Law_law_1392 rfl ?_
  rw [show nI i + 1 = nI (i + 1) from nI_add i 1]
  refine wp_sldN 1394 d_Law_law_1393 rfl h3 (by omega) ?_
  refine lP_V1 (cb := cb + 2) (sb := sb + 8) 1397 M_PM_share 4 0 0 d_Law_law_1394 rfl mv_PM_share lk_Law_175 rfl rfl rfl rfl rfl rfl ?_
  refine c_PM_share hR.1.1.ok (fun v9 e1 => ?_) (fun e1 e2 => ?_)
  · refine lkI rfl ?_
    refine wp_aload_n 1398 d_Law_law_1397 rfl rfl ?_
    refine wp_aload_n 1399 d_Law_law_1398 rfl rfl ?_
    refine wp_iload_n 1400 d_Law_law_1399 rfl rfl ?_
    refine wp_iconst 1401 1 d_Law_law_1400 rfl (by decide) ?_
    refine wp_iadd 1402 d_Law_law_1401 rfl ?_
    rw [show nI i + 1 = nI (i + 1) from nI_add i 1]
    refine wp_sldN 1403 d_Law_law_1402 rfl h3 (by omega) ?_
    refine lM_V1 (cb := cb + 2) (sb := sb + 8) 1406 M_Mo_share 5 0 0 d_Law_law_1403 rfl mv_Mo_share lk_Law_178 rfl rfl rfl rfl rfl rfl rfl rfl ?_
    refine c_Mo_shareF hR.1.1 (fun w9 e3 => ?_) (fun e3 e4 => ?_)
    · refine mkI rfl ?_
      obtain rfl : v9 = w9 := dj_eq e1 e3
      refine wp_icmp_eq 1539 1409 d_Law_law_1406 rfl (by decide) (fun h1406 => ?_) (fun h1406 => ?_)
      · refine wp_less (cb := cb) (sb := sb) (a := 2) (b := 8) (hn _ _ _ _ _ _ _ _ _ _ _ _ _ _ _ _ _ _ _ _ _ _ _ _ _ _ _ _ _ _ _ _ _ _ _ _ _ _ _ _ _ _ _ _ _ _ _ _ _ _ _ _ _ _ _ _ _ _ _ _ _ _ _ _ ?_)
        exact ⟨hR, hv, hY, hF, hco, hX, hfk, hfp, hto, htj, hSO⟩
      · exact absurd (rfl) h1406
    · refine mkI rfl ?_
      exact (dj_no e1 e3 e4).elim
  · refine lkI rfl ?_
    refine wp_aload_n 1398 d_Law_law_1397 rfl rfl ?_
    refine wp_aload_n 1399 d_Law_law_1398 rfl rfl ?_
    refine wp_iload_n 1400 d_Law_law_1399 rfl rfl ?_
    refine wp_iconst 1401 1 d_Law_law_1400 rfl (by decide) ?_
    refine wp_iadd 1402 d_Law_law_1401 rfl ?_
    rw [show nI i + 1 = nI (i + 1) from nI_add i 1]
    refine wp_sldN 1403 d_Law_law_1402 rfl h3 (by omega) ?_
    refine lM_V1 (cb := cb + 2) (sb := sb + 8) 1406 M_Mo_share 5 0 0 d_Law_law_1403 rfl mv_Mo_share lk_Law_178 rfl rfl rfl rfl rfl rfl rfl rfl ?_
    refine c_Mo_shareF hR.1.1 (fun w9 e3 => ?_) (fun e3 e4 => ?_)
    · refine mkI rfl ?_
      exact (dj_no e3 e1 e2).elim
    · refine mkI rfl ?_
      refine wp_icmp_eq 1539 1409 d_Law_law_1406 rfl (by decide) (fun h1406 => ?_) (fun h1406 => ?_)
      · refine wp_less (cb := cb) (sb := sb) (a := 2) (b := 8) (hn _ _ _ _ _ _ _ _ _ _ _ _ _ _ _ _ _ _ _ _ _ _ _ _ _ _ _ _ _ _ _ _ _ _ _ _ _ _ _ _ _ _ _ _ _ _ _ _ _ _ _ _ _ _ _ _ _ _ _ _ _ _ _ _ ?_)
        exact ⟨hR, hv, hY, hF, hco, hX, hfk, hfp, hto, htj, hSO⟩
      · exact absurd (rfl) h1406
set_option maxRecDepth 100000 in
set_option maxHeartbeats 4000000 in
theorem law_copyPlaces (h3 : Γ.2.2.2.1 ≤ 3072) (hi : i + 6 ≤ Γ.2.2.2.1) (hn : LNX Γ cb sb i Q) (R : LR Y X T S M D E N C U W L VL HL nK m_at m_names m_sort m_trayMany m_trays m_tape m_faultKind m_faultPlace m_told1 m_isTold) : WP Γ M_Law_law 20 (cb + 2) (sb + 8) (lawH (hPM Y X T S M D E N C U W G L VL HL nK ST TP BT) (hM m_at m_names (ST) (TP) (BT) m_sort m_trayMany m_trays m_tape m_text ((nI X.nF)) m_size m_token m_from m_end m_value m_faultKind m_faultPlace m_faults m_seen m_areOdds m_opened m_depth m_counted m_eastBy m_northBy m_partBy m_wayFaults m_wayEast m_wayNorth m_olds m_wayMany m_oneOfSet m_twoOfSet m_farBy m_rowBy m_triedBy m_rowMany m_doneAt m_gotAt m_struckAt m_bestDeed m_misBy m_drawn m_ranSteps m_loops m_ran m_told1 m_isTold ((nI nK)))) 1411 [some (.ref (XB + 4)), some (.ref 0), some (.ref 124), some (.int (nI i))] [] Q := by
  obtain ⟨hR, hv, hY, hF, hco, hX, hfk, hfp, hto, htj, hSO⟩ := id R
  refine wp_aload_n 1412 d_Law_law_1411 rfl rfl ?_
  refine wp_aload_n 1413 d_Law_law_1412 rfl rfl ?_
  refine wp_iload_n 1414 d_Law_law_1413 rfl rfl ?_
  refine wp_iconst 1415 1 d_Law_law_1414 rfl (by decide) ?_
  refine wp_iadd 1416 d_Law_law_1415 rfl ?_
  rw [show nI i + 1 = nI (i + 1) from nI_add i 1]
  refine wp_sldN 1417 d_Law_law_1416 rfl h3 (by omega) ?_
  refine lP_V1 (cb := cb + 2) (sb := sb + 8) 1420 M_PM_copyPlaces 5 0 0 d_Law_law_1417 rfl mv_PM_copyPlaces lk_Law_179 rfl rfl rfl rfl rfl rfl ?_
  refine c_PM_copyPlaces hR.1.1.ok hY hSO (fun v9 e1 e2 C2 U2 W2 G2 L2 so2 => ?_) (fun e1 C2 U2 W2 G2 L2 so2 => ?_)
  · refine lkI rfl ?_
    refine wp_aload_n 1421 d_Law_law_1420 rfl rfl ?_
    refine wp_aload_n 1422 d_Law_law_1421 rfl rfl ?_
    refine wp_iload_n 1423 d_Law_law_1422 rfl rfl ?_
    refine wp_iconst 1424 1 d_Law_law_1423 rfl (by decide) ?_
    refine wp_iadd 1425 d_Law_law_1424 rfl ?_
    rw [show nI i + 1 = nI (i + 1) from nI_add i 1]
    refine wp_sldN 1426 d_Law_law_1425 rfl h3 (by omega) ?_
    refine lM_V1 (cb := cb + 2) (sb := sb + 8) 1429 M_Mo_copyPlaces 8 0 0 d_Law_law_1426 rfl mv_Mo_copyPlaces lk_Law_182 rfl rfl rfl rfl rfl rfl rfl rfl ?_
    refine c_Mo_copyPlaces hR.1.1 hv (fun w9 e3 e4 s9 => ?_) (fun e3 s9 tr2 v2 => ?_)
    · refine mkI rfl ?_
      obtain rfl : v9 = w9 := e1.symm.trans e3
      refine wp_icmp_eq 1539 1432 d_Law_law_1429 rfl (by decide) (fun h1429 => ?_) (fun h1429 => ?_)
      · refine wp_less (cb := cb) (sb := sb) (a := 2) (b := 8) (hn _ _ _ _ _ _ _ _ _ _ _ _ _ _ _ _ _ _ _ _ _ _ _ _ _ _ _ _ _ _ _ _ _ _ _ _ _ _ _ _ _ _ _ _ _ _ _ _ _ _ _ _ _ _ _ _ _ _ _ _ _ _ _ _ ?_)
        exact ⟨hR, hv, hY, hF, hco, hX, hfk, hfp, hto, htj, so2⟩
      · exact absurd (rfl) h1429
    · refine mkI rfl ?_
      exact absurd (e1.symm.trans e3) e2
  · refine lkI rfl ?_
    refine wp_aload_n 1421 d_Law_law_1420 rfl rfl ?_
    refine wp_aload_n 1422 d_Law_law_1421 rfl rfl ?_
    refine wp_iload_n 1423 d_Law_law_1422 rfl rfl ?_
    refine wp_iconst 1424 1 d_Law_law_1423 rfl (by decide) ?_
    refine wp_iadd 1425 d_Law_law_1424 rfl ?_
    rw [show nI i + 1 = nI (i + 1) from nI_add i 1]
    refine wp_sldN 1426 d_Law_law_1425 rfl h3 (by omega) ?_
    refine lM_V1 (cb := cb + 2) (sb := sb + 8) 1429 M_Mo_copyPlaces 8 0 0 d_Law_law_1426 rfl mv_Mo_copyPlaces lk_Law_182 rfl rfl rfl rfl rfl rfl rfl rfl ?_
    refine c_Mo_copyPlaces hR.1.1 hv (fun w9 e3 e4 s9 => ?_) (fun e3 s9 tr2 v2 => ?_)
    · refine mkI rfl ?_
      exact absurd (e3.symm.trans e1) e4
    · refine mkI rfl ?_
      refine wp_icmp_eq 1539 1432 d_Law_law_1429 rfl (by decide) (fun h1429 => ?_) (fun h1429 => ?_)
      · refine wp_less (cb := cb) (sb := sb) (a := 2) (b := 8) (hn _ _ _ _ _ _ _ _ _ _ _ _ _ _ _ _ _ _ _ _ _ _ _ _ _ _ _ _ _ _ _ _ _ _ _ _ _ _ _ _ _ _ _ _ _ _ _ _ _ _ _ _ _ _ _ _ _ _ _ _ _ _ _ _ ?_)
        exact ⟨hR, v2, cpY_nM hY, hF, hco, hX, hfk, hfp, hto, htj, so2⟩
      · exact absurd (rfl) h1429
set_option maxRecDepth 100000 in
set_option maxHeartbeats 4000000 in
theorem law_live (h3 : Γ.2.2.2.1 ≤ 3072) (hi : i + 6 ≤ Γ.2.2.2.1) (hn : LNX Γ cb sb i Q) (R : LR Y X T S M D E N C U W L VL HL nK m_at m_names m_sort m_trayMany m_trays m_tape m_faultKind m_faultPlace m_told1 m_isTold) : WP Γ M_Law_law 20 (cb + 2) (sb + 8) (lawH (hPM Y X T S M D E N C U W G L VL HL nK ST TP BT) (hM m_at m_names (ST) (TP) (BT) m_sort m_trayMany m_trays m_tape m_text ((nI X.nF)) m_size m_token m_from m_end m_value m_faultKind m_faultPlace m_faults m_seen m_areOdds m_opened m_depth m_counted m_eastBy m_northBy m_partBy m_wayFaults m_wayEast m_wayNorth m_olds m_wayMany m_oneOfSet m_twoOfSet m_farBy m_rowBy m_triedBy m_rowMany m_doneAt m_gotAt m_struckAt m_bestDeed m_misBy m_drawn m_ranSteps m_loops m_ran m_told1 m_isTold ((nI nK)))) 1434 [some (.ref (XB + 4)), some (.ref 0), some (.ref 124), some (.int (nI i))] [] Q := by
  obtain ⟨hR, hv, hY, hF, hco, hX, hfk, hfp, hto, htj, hSO⟩ := id R
  refine wp_aload_n 1435 d_Law_law_1434 rfl rfl ?_
  refine wp_aload_n 1436 d_Law_law_1435 rfl rfl ?_
  refine wp_iload_n 1437 d_Law_law_1436 rfl rfl ?_
  refine wp_iconst 1438 1 d_Law_law_1437 rfl (by decide) ?_
  refine wp_iadd 1439 d_Law_law_1438 rfl ?_
  rw [show nI i + 1 = nI (i + 1) from nI_add i 1]
  refine wp_sldN 1440 d_Law_law_1439 rfl h3 (by omega) ?_
  refine lP_V1 (cb := cb + 2) (sb := sb + 8) 1443 M_PM_live 8 0 0 d_Law_law_1440 rfl mv_PM_live lk_Law_183 rfl rfl rfl rfl rfl rfl ?_
  refine c_PM_live hR.1.1.ok hR.1.2.2.2.2 hSO (fun v9 e1 => ?_) (fun e1 e2 l2 so2 g1 g2 => ?_)
  · refine lkI rfl ?_
    refine wp_aload_n 1444 d_Law_law_1443 rfl rfl ?_
    refine wp_aload_n 1445 d_Law_law_1444 rfl rfl ?_
    refine wp_iload_n 1446 d_Law_law_1445 rfl rfl ?_
    refine wp_iconst 1447 1 d_Law_law_1446 rfl (by decide) ?_
    refine wp_iadd 1448 d_Law_law_1447 rfl ?_
    rw [show nI i + 1 = nI (i + 1) from nI_add i 1]
    refine wp_sldN 1449 d_Law_law_1448 rfl h3 (by omega) ?_
    refine lM_V1 (cb := cb + 2) (sb := sb + 8) 1452 M_Mo_live 10 0 0 d_Law_law_1449 rfl mv_Mo_live lk_Law_186 rfl rfl rfl rfl rfl rfl rfl rfl ?_
    refine c_Mo_live (lco := L.lco) (lro := L.lro) hR.1.1 hR.1.2.1 hR.1.2.2.2.1 (fun w9 e3 => ?_) (fun e3 e4 a2 r2 l9 x2 d2 s9 v2 f2 k2 t2 => ?_)
    · refine mkI rfl ?_
      obtain rfl : v9 = w9 := dj_eq e1 e3
      refine wp_icmp_eq 1539 1455 d_Law_law_1452 rfl (by decide) (fun h1452 => ?_) (fun h1452 => ?_)
      · refine wp_less (cb := cb) (sb := sb) (a := 2) (b := 8) (hn _ _ _ _ _ _ _ _ _ _ _ _ _ _ _ _ _ _ _ _ _ _ _ _ _ _ _ _ _ _ _ _ _ _ _ _ _ _ _ _ _ _ _ _ _ _ _ _ _ _ _ _ _ _ _ _ _ _ _ _ _ _ _ _ ?_)
        exact ⟨hR, hv, hY, hF, hco, hX, hfk, hfp, hto, htj, hSO⟩
      · exact absurd (rfl) h1452
    · refine mkI rfl ?_
      exact (dj_no e1 e3 e4).elim
  · refine lkI rfl ?_
    refine wp_aload_n 1444 d_Law_law_1443 rfl rfl ?_
    refine wp_aload_n 1445 d_Law_law_1444 rfl rfl ?_
    refine wp_iload_n 1446 d_Law_law_1445 rfl rfl ?_
    refine wp_iconst 1447 1 d_Law_law_1446 rfl (by decide) ?_
    refine wp_iadd 1448 d_Law_law_1447 rfl ?_
    rw [show nI i + 1 = nI (i + 1) from nI_add i 1]
    refine wp_sldN 1449 d_Law_law_1448 rfl h3 (by omega) ?_
    refine lM_V1 (cb := cb + 2) (sb := sb + 8) 1452 M_Mo_live 10 0 0 d_Law_law_1449 rfl mv_Mo_live lk_Law_186 rfl rfl rfl rfl rfl rfl rfl rfl ?_
    refine c_Mo_live (lco := L.lco) (lro := L.lro) hR.1.1 hR.1.2.1 hR.1.2.2.2.1 (fun w9 e3 => ?_) (fun e3 e4 a2 r2 l9 x2 d2 s9 v2 f2 k2 t2 => ?_)
    · refine mkI rfl ?_
      exact (dj_no e3 e1 e2).elim
    · refine mkI rfl ?_
      refine wp_icmp_eq 1539 1455 d_Law_law_1452 rfl (by decide) (fun h1452 => ?_) (fun h1452 => ?_)
      · refine wp_less (cb := cb) (sb := sb) (a := 2) (b := 8) (hn _ _ _ _ _ _ _ _ _ _ _ _ _ _ _ _ _ _ _ _ _ _ _ _ _ _ _ _ _ _ _ _ _ _ _ _ _ _ _ _ _ _ _ _ _ _ _ _ _ _ _ _ _ _ _ _ _ _ _ _ _ _ _ _ ?_)
        exact ⟨REL_go hR (RS_keep hR.1 v2 f2 ⟨rfl, rfl, fun _ => k2⟩ (NS_e hR.1.2.2.1 rfl rfl rfl rfl)) hR.2.1 hR.2.2.1 (fun j j1 j2 => f2 j (Or.inr (by omega))) (fun _ _ _ => rfl), hv, hY, hF, hco, hX, hfk, hfp, rfl, (fun j hj => (t2 j hj).trans (cpy_at hj).symm), so2⟩
      · exact absurd (rfl) h1452
set_option maxRecDepth 100000 in
set_option maxHeartbeats 4000000 in
theorem law_lived (h3 : Γ.2.2.2.1 ≤ 3072) (hi : i + 6 ≤ Γ.2.2.2.1) (hn : LNX Γ cb sb i Q) (R : LR Y X T S M D E N C U W L VL HL nK m_at m_names m_sort m_trayMany m_trays m_tape m_faultKind m_faultPlace m_told1 m_isTold) : WP Γ M_Law_law 20 (cb + 2) (sb + 8) (lawH (hPM Y X T S M D E N C U W G L VL HL nK ST TP BT) (hM m_at m_names (ST) (TP) (BT) m_sort m_trayMany m_trays m_tape m_text ((nI X.nF)) m_size m_token m_from m_end m_value m_faultKind m_faultPlace m_faults m_seen m_areOdds m_opened m_depth m_counted m_eastBy m_northBy m_partBy m_wayFaults m_wayEast m_wayNorth m_olds m_wayMany m_oneOfSet m_twoOfSet m_farBy m_rowBy m_triedBy m_rowMany m_doneAt m_gotAt m_struckAt m_bestDeed m_misBy m_drawn m_ranSteps m_loops m_ran m_told1 m_isTold ((nI nK)))) 1457 [some (.ref (XB + 4)), some (.ref 0), some (.ref 124), some (.int (nI i))] [] Q := by
  obtain ⟨hR, hv, hY, hF, hco, hX, hfk, hfp, hto, htj, hSO⟩ := id R
  refine wp_aload_n 1458 d_Law_law_1457 rfl rfl ?_
  refine wp_aload_n 1459 d_Law_law_1458 rfl rfl ?_
  refine wp_iload_n 1460 d_Law_law_1459 rfl rfl ?_
  refine wp_iconst 1461 1 d_Law_law_1460 rfl (by decide) ?_
  refine wp_iadd 1462 d_Law_law_1461 rfl ?_
  rw [show nI i + 1 = nI (i + 1) from nI_add i 1]
  refine wp_sldN 1463 d_Law_law_1462 rfl h3 (by omega) ?_
  refine lP_V1 (cb := cb + 2) (sb := sb + 8) 1466 M_PM_lived 2 0 0 d_Law_law_1463 rfl mv_PM_lived lk_Law_187 rfl rfl rfl rfl rfl rfl ?_
  refine c_PM_lived ?_
  refine lkI rfl ?_
  refine wp_aload_n 1467 d_Law_law_1466 rfl rfl ?_
  refine wp_aload_n 1468 d_Law_law_1467 rfl rfl ?_
  refine wp_iload_n 1469 d_Law_law_1468 rfl rfl ?_
  refine wp_iconst 1470 1 d_Law_law_1469 rfl (by decide) ?_
  refine wp_iadd 1471 d_Law_law_1470 rfl ?_
  rw [show nI i + 1 = nI (i + 1) from nI_add i 1]
  refine wp_sldN 1472 d_Law_law_1471 rfl h3 (by omega) ?_
  refine lM_V1 (cb := cb + 2) (sb := sb + 8) 1475 M_Mo_lived 2 0 0 d_Law_law_1472 rfl mv_Mo_lived lk_Law_190 rfl rfl rfl rfl rfl rfl rfl rfl ?_
  have el : ldF m_told1 m_isTold (Γ.2.2.2.2 (i + 1)) = ldF VL HL (Γ.2.2.2.2 (i + 1)) := ld_eq hto htj
  refine c_Mo_lived ?_
  rw [el]
  refine mkI rfl ?_
  refine wp_icmp_eq 1539 1478 d_Law_law_1475 rfl (by decide) (fun h1475 => ?_) (fun h1475 => ?_)
  · refine wp_less (cb := cb) (sb := sb) (a := 2) (b := 8) (hn _ _ _ _ _ _ _ _ _ _ _ _ _ _ _ _ _ _ _ _ _ _ _ _ _ _ _ _ _ _ _ _ _ _ _ _ _ _ _ _ _ _ _ _ _ _ _ _ _ _ _ _ _ _ _ _ _ _ _ _ _ _ _ _ ?_)
    exact ⟨hR, hv, hY, hF, hco, hX, hfk, hfp, hto, htj, hSO⟩
  · exact absurd (rfl) h1475
set_option maxRecDepth 100000 in
set_option maxHeartbeats 4000000 in
theorem law_mean (h3 : Γ.2.2.2.1 ≤ 3072) (hi : i + 6 ≤ Γ.2.2.2.1) (hn : LNX Γ cb sb i Q) (R : LR Y X T S M D E N C U W L VL HL nK m_at m_names m_sort m_trayMany m_trays m_tape m_faultKind m_faultPlace m_told1 m_isTold) : WP Γ M_Law_law 20 (cb + 2) (sb + 8) (lawH (hPM Y X T S M D E N C U W G L VL HL nK ST TP BT) (hM m_at m_names (ST) (TP) (BT) m_sort m_trayMany m_trays m_tape m_text ((nI X.nF)) m_size m_token m_from m_end m_value m_faultKind m_faultPlace m_faults m_seen m_areOdds m_opened m_depth m_counted m_eastBy m_northBy m_partBy m_wayFaults m_wayEast m_wayNorth m_olds m_wayMany m_oneOfSet m_twoOfSet m_farBy m_rowBy m_triedBy m_rowMany m_doneAt m_gotAt m_struckAt m_bestDeed m_misBy m_drawn m_ranSteps m_loops m_ran m_told1 m_isTold ((nI nK)))) 1480 [some (.ref (XB + 4)), some (.ref 0), some (.ref 124), some (.int (nI i))] [] Q := by
  obtain ⟨hR, hv, hY, hF, hco, hX, hfk, hfp, hto, htj, hSO⟩ := id R
  refine wp_aload_n 1481 d_Law_law_1480 rfl rfl ?_
  refine wp_aload_n 1482 d_Law_law_1481 rfl rfl ?_
  refine wp_iload_n 1483 d_Law_law_1482 rfl rfl ?_
  refine wp_iconst 1484 1 d_Law_law_1483 rfl (by decide) ?_
  refine wp_iadd 1485 d_Law_law_1484 rfl ?_
  rw [show nI i + 1 = nI (i + 1) from nI_add i 1]
  refine wp_sldN 1486 d_Law_law_1485 rfl h3 (by omega) ?_
  refine wp_aload_n 1487 d_Law_law_1486 rfl rfl ?_
  refine wp_iload_n 1488 d_Law_law_1487 rfl rfl ?_
  refine wp_iconst 1489 2 d_Law_law_1488 rfl (by decide) ?_
  refine wp_iadd 1490 d_Law_law_1489 rfl ?_
  rw [show nI i + 2 = nI (i + 2) from nI_add i 2]
  refine wp_sldN 1491 d_Law_law_1490 rfl h3 (by omega) ?_
  refine lP_V2 (cb := cb + 2) (sb := sb + 8) 1494 M_PM_mean 8 0 0 d_Law_law_1491 rfl mv_PM_mean lk_Law_191 rfl rfl rfl rfl rfl rfl ?_
  refine c_PM_mean hR.1.1.ok hR.2.1 hR.1.2.2.2.2 hSO (fun v9 e1 => ?_) (fun e1 e2 S2 C2 L2 ok2 so2 => ?_)
  · refine lkI rfl ?_
    refine wp_aload_n 1495 d_Law_law_1494 rfl rfl ?_
    refine wp_aload_n 1496 d_Law_law_1495 rfl rfl ?_
    refine wp_iload_n 1497 d_Law_law_1496 rfl rfl ?_
    refine wp_iconst 1498 1 d_Law_law_1497 rfl (by decide) ?_
    refine wp_iadd 1499 d_Law_law_1498 rfl ?_
    rw [show nI i + 1 = nI (i + 1) from nI_add i 1]
    refine wp_sldN 1500 d_Law_law_1499 rfl h3 (by omega) ?_
    refine wp_aload_n 1501 d_Law_law_1500 rfl rfl ?_
    refine wp_iload_n 1502 d_Law_law_1501 rfl rfl ?_
    refine wp_iconst 1503 2 d_Law_law_1502 rfl (by decide) ?_
    refine wp_iadd 1504 d_Law_law_1503 rfl ?_
    rw [show nI i + 2 = nI (i + 2) from nI_add i 2]
    refine wp_sldN 1505 d_Law_law_1504 rfl h3 (by omega) ?_
    refine lM_V2 (cb := cb + 2) (sb := sb + 8) 1508 M_Mo_mean 10 0 0 d_Law_law_1505 rfl mv_Mo_mean lk_Law_194 rfl rfl rfl rfl rfl rfl rfl rfl rfl ?_
    refine c_Mo_mean (lco := L.lco) (lro := L.lro) (S := S) hR.1.1 hR.1.2.1 hR.1.2.2.2.1 hR.2.1 (fun w9 e3 => ?_) (fun e3 e4 a2 r2 l9 rs2 d2 s9 f2 => ?_)
    · refine mkI rfl ?_
      obtain rfl : v9 = w9 := dj_eq e1 e3
      refine wp_icmp_eq 1539 1511 d_Law_law_1508 rfl (by decide) (fun h1508 => ?_) (fun h1508 => ?_)
      · refine wp_less (cb := cb) (sb := sb) (a := 2) (b := 8) (hn _ _ _ _ _ _ _ _ _ _ _ _ _ _ _ _ _ _ _ _ _ _ _ _ _ _ _ _ _ _ _ _ _ _ _ _ _ _ _ _ _ _ _ _ _ _ _ _ _ _ _ _ _ _ _ _ _ _ _ _ _ _ _ _ ?_)
        exact ⟨hR, hv, hY, hF, hco, hX, hfk, hfp, hto, htj, hSO⟩
      · exact absurd (rfl) h1508
    · refine mkI rfl ?_
      exact (dj_no e1 e3 e4).elim
  · refine lkI rfl ?_
    refine wp_aload_n 1495 d_Law_law_1494 rfl rfl ?_
    refine wp_aload_n 1496 d_Law_law_1495 rfl rfl ?_
    refine wp_iload_n 1497 d_Law_law_1496 rfl rfl ?_
    refine wp_iconst 1498 1 d_Law_law_1497 rfl (by decide) ?_
    refine wp_iadd 1499 d_Law_law_1498 rfl ?_
    rw [show nI i + 1 = nI (i + 1) from nI_add i 1]
    refine wp_sldN 1500 d_Law_law_1499 rfl h3 (by omega) ?_
    refine wp_aload_n 1501 d_Law_law_1500 rfl rfl ?_
    refine wp_iload_n 1502 d_Law_law_1501 rfl rfl ?_
    refine wp_iconst 1503 2 d_Law_law_1502 rfl (by decide) ?_
    refine wp_iadd 1504 d_Law_law_1503 rfl ?_
    rw [show nI i + 2 = nI (i + 2) from nI_add i 2]
    refine wp_sldN 1505 d_Law_law_1504 rfl h3 (by omega) ?_
    refine lM_V2 (cb := cb + 2) (sb := sb + 8) 1508 M_Mo_mean 10 0 0 d_Law_law_1505 rfl mv_Mo_mean lk_Law_194 rfl rfl rfl rfl rfl rfl rfl rfl rfl ?_
    refine c_Mo_mean (lco := L.lco) (lro := L.lro) (S := S) hR.1.1 hR.1.2.1 hR.1.2.2.2.1 hR.2.1 (fun w9 e3 => ?_) (fun e3 e4 a2 r2 l9 rs2 d2 s9 f2 => ?_)
    · refine mkI rfl ?_
      exact (dj_no e3 e1 e2).elim
    · refine mkI rfl ?_
      refine wp_icmp_eq 1539 1511 d_Law_law_1508 rfl (by decide) (fun h1508 => ?_) (fun h1508 => ?_)
      · refine wp_less (cb := cb) (sb := sb) (a := 2) (b := 8) (hn _ _ _ _ _ _ _ _ _ _ _ _ _ _ _ _ _ _ _ _ _ _ _ _ _ _ _ _ _ _ _ _ _ _ _ _ _ _ _ _ _ _ _ _ _ _ _ _ _ _ _ _ _ _ _ _ _ _ _ _ _ _ _ _ ?_)
        exact ⟨REL_go hR (RS_c hR.1 (fun j hj => f2 j (by omega)) (fun _ _ => rfl)) ok2 hR.2.2.1 (fun j _ j2 => f2 j (by omega)) (fun _ _ _ => rfl), hv, hY, hF, hco, hX, hfk, hfp, hto, htj, so2⟩
      · exact absurd (rfl) h1508
set_option maxRecDepth 100000 in
set_option maxHeartbeats 4000000 in
theorem law_mark (h3 : Γ.2.2.2.1 ≤ 3072) (hi : i + 6 ≤ Γ.2.2.2.1) (hn : LNX Γ cb sb i Q) (R : LR Y X T S M D E N C U W L VL HL nK m_at m_names m_sort m_trayMany m_trays m_tape m_faultKind m_faultPlace m_told1 m_isTold) : WP Γ M_Law_law 20 (cb + 2) (sb + 8) (lawH (hPM Y X T S M D E N C U W G L VL HL nK ST TP BT) (hM m_at m_names (ST) (TP) (BT) m_sort m_trayMany m_trays m_tape m_text ((nI X.nF)) m_size m_token m_from m_end m_value m_faultKind m_faultPlace m_faults m_seen m_areOdds m_opened m_depth m_counted m_eastBy m_northBy m_partBy m_wayFaults m_wayEast m_wayNorth m_olds m_wayMany m_oneOfSet m_twoOfSet m_farBy m_rowBy m_triedBy m_rowMany m_doneAt m_gotAt m_struckAt m_bestDeed m_misBy m_drawn m_ranSteps m_loops m_ran m_told1 m_isTold ((nI nK)))) 1513 [some (.ref (XB + 4)), some (.ref 0), some (.ref 124), some (.int (nI i))] [] Q := by
  obtain ⟨hR, hv, hY, hF, hco, hX, hfk, hfp, hto, htj, hSO⟩ := id R
  refine wp_aload_n 1514 d_Law_law_1513 rfl rfl ?_
  refine lP_V0 (cb := cb + 2) (sb := sb + 8) 1517 M_PM_mark 2 0 0 d_Law_law_1514 rfl mv_PM_mark lk_Law_195 rfl rfl rfl rfl rfl rfl ?_
  refine c_PM_mark hR.1.2.2.2.2 hR.2.2.2.1 (fun e1 => ?_) (fun e1 => ?_)
  · refine lkI rfl ?_
    refine wp_aload_n 1518 d_Law_law_1517 rfl rfl ?_
    refine lM_V0 (cb := cb + 2) (sb := sb + 8) 1521 M_Mo_mark 2 0 0 d_Law_law_1518 rfl mv_Mo_mark lk_Law_198 rfl rfl rfl rfl rfl rfl rfl ?_
    refine c_Mo_mark hR.2.2.2.1 (fun e3 => ?_) (fun e3 a2 n2 g1 g2 g3 g4 => ?_)
    · refine mkI rfl ?_
      refine wp_icmp_eq 1539 1524 d_Law_law_1521 rfl (by decide) (fun h1521 => ?_) (fun h1521 => ?_)
      · refine wp_less (cb := cb) (sb := sb) (a := 2) (b := 8) (hn _ _ _ _ _ _ _ _ _ _ _ _ _ _ _ _ _ _ _ _ _ _ _ _ _ _ _ _ _ _ _ _ _ _ _ _ _ _ _ _ _ _ _ _ _ _ _ _ _ _ _ _ _ _ _ _ _ _ _ _ _ _ _ _ ?_)
        exact ⟨hR, hv, hY, hF, hco, hX, hfk, hfp, hto, htj, hSO⟩
      · exact absurd (rfl) h1521
    · refine mkI rfl ?_
      exact absurd e3 e1
  · refine lkI rfl ?_
    refine wp_aload_n 1518 d_Law_law_1517 rfl rfl ?_
    refine lM_V0 (cb := cb + 2) (sb := sb + 8) 1521 M_Mo_mark 2 0 0 d_Law_law_1518 rfl mv_Mo_mark lk_Law_198 rfl rfl rfl rfl rfl rfl rfl ?_
    refine c_Mo_mark hR.2.2.2.1 (fun e3 => ?_) (fun e3 a2 n2 g1 g2 g3 g4 => ?_)
    · refine mkI rfl ?_
      exact absurd e1 e3
    · refine mkI rfl ?_
      refine wp_icmp_eq 1539 1524 d_Law_law_1521 rfl (by decide) (fun h1521 => ?_) (fun h1521 => ?_)
      · refine wp_less (cb := cb) (sb := sb) (a := 2) (b := 8) (hn _ _ _ _ _ _ _ _ _ _ _ _ _ _ _ _ _ _ _ _ _ _ _ _ _ _ _ _ _ _ _ _ _ _ _ _ _ _ _ _ _ _ _ _ _ _ _ _ _ _ _ _ _ _ _ _ _ _ _ _ _ _ _ _ ?_)
        exact ⟨REL_mark hR e1 g1 g2 g3 g4, hv, hY, hF, hco, hX, hfk, hfp, hto, htj, hSO⟩
      · exact absurd (rfl) h1521
set_option maxRecDepth 100000 in
set_option maxHeartbeats 4000000 in
theorem law_undo (h3 : Γ.2.2.2.1 ≤ 3072) (hi : i + 6 ≤ Γ.2.2.2.1) (hn : LNX Γ cb sb i Q) (R : LR Y X T S M D E N C U W L VL HL nK m_at m_names m_sort m_trayMany m_trays m_tape m_faultKind m_faultPlace m_told1 m_isTold) : WP Γ M_Law_law 20 (cb + 2) (sb + 8) (lawH (hPM Y X T S M D E N C U W G L VL HL nK ST TP BT) (hM m_at m_names (ST) (TP) (BT) m_sort m_trayMany m_trays m_tape m_text ((nI X.nF)) m_size m_token m_from m_end m_value m_faultKind m_faultPlace m_faults m_seen m_areOdds m_opened m_depth m_counted m_eastBy m_northBy m_partBy m_wayFaults m_wayEast m_wayNorth m_olds m_wayMany m_oneOfSet m_twoOfSet m_farBy m_rowBy m_triedBy m_rowMany m_doneAt m_gotAt m_struckAt m_bestDeed m_misBy m_drawn m_ranSteps m_loops m_ran m_told1 m_isTold ((nI nK)))) 1526 [some (.ref (XB + 4)), some (.ref 0), some (.ref 124), some (.int (nI i))] [] Q := by
  obtain ⟨hR, hv, hY, hF, hco, hX, hfk, hfp, hto, htj, hSO⟩ := id R
  refine wp_aload_n 1527 d_Law_law_1526 rfl rfl ?_
  refine lP_V0 (cb := cb + 2) (sb := sb + 8) 1530 M_PM_undo 2 0 0 d_Law_law_1527 rfl mv_PM_undo lk_Law_199 rfl rfl rfl rfl rfl rfl ?_
  refine c_PM_undo hR.2.2.2.2.2.1 hR.2.2.2.1 (fun e1 => ?_) (fun e1 => ?_)
  · refine lkI rfl ?_
    refine wp_aload_n 1531 d_Law_law_1530 rfl rfl ?_
    refine lM_V0 (cb := cb + 2) (sb := sb + 8) 1534 M_Mo_undo 2 0 0 d_Law_law_1531 rfl mv_Mo_undo lk_Law_202 rfl rfl rfl rfl rfl rfl rfl ?_
    refine c_Mo_undo hR.2.2.2.1 (fun e3 => ?_) (fun e3 a2 n2 g1 g2 g3 g4 => ?_)
    · refine mkI rfl ?_
      refine wp_icmp_eq 1539 1537 d_Law_law_1534 rfl (by decide) (fun h1534 => ?_) (fun h1534 => ?_)
      · refine wp_less (cb := cb) (sb := sb) (a := 2) (b := 8) (hn _ _ _ _ _ _ _ _ _ _ _ _ _ _ _ _ _ _ _ _ _ _ _ _ _ _ _ _ _ _ _ _ _ _ _ _ _ _ _ _ _ _ _ _ _ _ _ _ _ _ _ _ _ _ _ _ _ _ _ _ _ _ _ _ ?_)
        exact ⟨hR, hv, hY, hF, hco, hX, hfk, hfp, hto, htj, hSO⟩
      · exact absurd (rfl) h1534
    · refine mkI rfl ?_
      exact absurd e3 e1
  · refine lkI rfl ?_
    refine wp_aload_n 1531 d_Law_law_1530 rfl rfl ?_
    refine lM_V0 (cb := cb + 2) (sb := sb + 8) 1534 M_Mo_undo 2 0 0 d_Law_law_1531 rfl mv_Mo_undo lk_Law_202 rfl rfl rfl rfl rfl rfl rfl ?_
    refine c_Mo_undo hR.2.2.2.1 (fun e3 => ?_) (fun e3 a2 n2 g1 g2 g3 g4 => ?_)
    · refine mkI rfl ?_
      exact absurd e1 e3
    · refine mkI rfl ?_
      refine wp_icmp_eq 1539 1537 d_Law_law_1534 rfl (by decide) (fun h1534 => ?_) (fun h1534 => ?_)
      · refine wp_less (cb := cb) (sb := sb) (a := 2) (b := 8) (hn _ _ _ _ _ _ _ _ _ _ _ _ _ _ _ _ _ _ _ _ _ _ _ _ _ _ _ _ _ _ _ _ _ _ _ _ _ _ _ _ _ _ _ _ _ _ _ _ _ _ _ _ _ _ _ _ _ _ _ _ _ _ _ _ ?_)
        exact ⟨REL_undo hR e1 g1 g2 g3 g4, hv, hY, hF, hco, hX, hfk, hfp, hto, htj, hSO⟩
      · exact absurd (rfl) h1534
end TB83
