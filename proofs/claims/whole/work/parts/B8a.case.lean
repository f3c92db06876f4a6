/-! ===== the law, case by case (1) ===== -/
theorem dj_eq {A B : Prop} {v w : Int32} (h1 : (¬ A ∧ v = 1) ∨ (A ∧ B ∧ v = 6)) (h2 : (¬ A ∧ w = 1) ∨ (A ∧ B ∧ w = 6)) : v = w := by
  rcases h1 with ⟨a, b⟩ | ⟨a, b, c⟩
  · rcases h2 with ⟨x, y⟩ | ⟨x, y, z⟩
    · rw [b, y]
    · exact absurd x a
  · rcases h2 with ⟨x, y⟩ | ⟨x, y, z⟩
    · exact absurd a x
    · rw [c, z]
theorem dj_no {A B : Prop} {v : Int32} (h1 : (¬ A ∧ v = 1) ∨ (A ∧ B ∧ v = 6)) (h2 : A) (h3 : ¬ B) : False := by
  rcases h1 with ⟨a, b⟩ | ⟨a, b, c⟩
  · exact a h2
  · exact h3 b
theorem ld_eq {VL m : Nat → Int32} {HL x w : Int32} (h1 : x = HL) (h2 : ∀ j, j < 5 → m j = VL j) : ldF m x w = ldF VL HL w := by
  unfold ldF
  rw [h1]
  by_cases c : inR w 5
  · rw [if_pos c, if_pos c]
    obtain ⟨k, k1, k2⟩ := inR_ex (n := 5) c (by omega)
    rw [k2, nI_clamp (by omega), h2 k k1]
  · rw [if_neg c, if_neg c]
theorem nI_none3 {L n : Nat} {v : Int32} (h : v < 0 ∨ nI n < v ∨ 300 < v) (e : v = nI L) (hL : L ≤ n) (h3 : L ≤ 300) (hn : n ≤ 900) : False := by
  rcases h with z | z | z
  · exact nI_none (Or.inl z) e hL hn
  · exact nI_none (Or.inr z) e hL hn
  · rw [e] at z
    have := (nI_ltI (a := 300) (by omega) (by omega)).mp z
    omega
section TB80
variable {Γ : Gm} {Q : Option Value → LH → Prop} {Y : Nat → YT} {X : XT} {T S : TW} {M : Nat → TW} {D E : DW} {N : Nat → DW} {C : CH} {U : UT} {W : WT} {G : GT} {L : LT} {VL : Nat → Int32} {HL ST : Int32} {nK : Nat} {TP BT : Int64} {m_at m_sort m_trayMany m_tape m_text m_opened m_eastBy m_northBy m_partBy m_wayFaults m_wayEast m_wayNorth m_olds m_farBy m_rowBy m_triedBy m_doneAt m_gotAt m_struckAt m_bestDeed m_loops m_ran m_told1 : Nat → Int32} {m_names m_trays m_misBy : Nat → Int64} {m_size m_token m_from m_end m_value m_faultKind m_faultPlace m_faults m_seen m_areOdds m_depth m_counted m_wayMany m_oneOfSet m_twoOfSet m_rowMany m_drawn m_ranSteps m_isTold : Int32} {cb sb i : Nat}
set_option maxRecDepth 100000 in
set_option maxHeartbeats 4000000 in
theorem law_status (h3 : Γ.2.2.2.1 ≤ 3072) (hi : i + 6 ≤ Γ.2.2.2.1) (hn : LNX Γ cb sb i Q) (R : LR Y X T S M D E N C U W L VL HL nK m_at m_names m_sort m_trayMany m_trays m_tape m_faultKind m_faultPlace m_told1 m_isTold) : WP Γ M_Law_law 20 (cb + 2) (sb + 8) (lawH (hPM Y X T S M D E N C U W G L VL HL nK ST TP BT) (hM m_at m_names (ST) (TP) (BT) m_sort m_trayMany m_trays m_tape m_text ((nI X.nF)) m_size m_token m_from m_end m_value m_faultKind m_faultPlace m_faults m_seen m_areOdds m_opened m_depth m_counted m_eastBy m_northBy m_partBy m_wayFaults m_wayEast m_wayNorth m_olds m_wayMany m_oneOfSet m_twoOfSet m_farBy m_rowBy m_triedBy m_rowMany m_doneAt m_gotAt m_struckAt m_bestDeed m_misBy m_drawn m_ranSteps m_loops m_ran m_told1 m_isTold ((nI nK)))) 224 [some (.ref (XB + 4)), some (.ref 0), some (.ref 124), some (.int (nI i))] [] Q := by
  obtain ⟨hR, hv, hY, hF, hco, hX, hfk, hfp, hto, htj, hSO⟩ := id R
  refine wp_aload_n 225 d_Law_law_224 rfl rfl ?_
  refine lP_V0 (cb := cb + 2) (sb := sb + 8) 228 M_PM_status 1 0 0 d_Law_law_225 rfl mv_PM_status lk_Law_13 rfl rfl rfl rfl rfl rfl ?_
  refine c_PM_status ?_
  refine lkI rfl ?_
  refine wp_aload_n 229 d_Law_law_228 rfl rfl ?_
  refine lM_V0 (cb := cb + 2) (sb := sb + 8) 232 M_Mo_status 1 0 0 d_Law_law_229 rfl mv_Mo_status lk_Law_17 rfl rfl rfl rfl rfl rfl rfl ?_
  refine c_Mo_status ?_
  refine mkI rfl ?_
  refine wp_icmp_eq 1539 235 d_Law_law_232 rfl (by decide) (fun h232 => ?_) (fun h232 => ?_)
  · refine wp_less (cb := cb) (sb := sb) (a := 2) (b := 8) (hn _ _ _ _ _ _ _ _ _ _ _ _ _ _ _ _ _ _ _ _ _ _ _ _ _ _ _ _ _ _ _ _ _ _ _ _ _ _ _ _ _ _ _ _ _ _ _ _ _ _ _ _ _ _ _ _ _ _ _ _ _ _ _ _ ?_)
    exact ⟨hR, hv, hY, hF, hco, hX, hfk, hfp, hto, htj, hSO⟩
  · exact absurd (rfl) h232
set_option maxRecDepth 100000 in
set_option maxHeartbeats 4000000 in
theorem law_top (h3 : Γ.2.2.2.1 ≤ 3072) (hi : i + 6 ≤ Γ.2.2.2.1) (hn : LNX Γ cb sb i Q) (R : LR Y X T S M D E N C U W L VL HL nK m_at m_names m_sort m_trayMany m_trays m_tape m_faultKind m_faultPlace m_told1 m_isTold) : WP Γ M_Law_law 20 (cb + 2) (sb + 8) (lawH (hPM Y X T S M D E N C U W G L VL HL nK ST TP BT) (hM m_at m_names (ST) (TP) (BT) m_sort m_trayMany m_trays m_tape m_text ((nI X.nF)) m_size m_token m_from m_end m_value m_faultKind m_faultPlace m_faults m_seen m_areOdds m_opened m_depth m_counted m_eastBy m_northBy m_partBy m_wayFaults m_wayEast m_wayNorth m_olds m_wayMany m_oneOfSet m_twoOfSet m_farBy m_rowBy m_triedBy m_rowMany m_doneAt m_gotAt m_struckAt m_bestDeed m_misBy m_drawn m_ranSteps m_loops m_ran m_told1 m_isTold ((nI nK)))) 237 [some (.ref (XB + 4)), some (.ref 0), some (.ref 124), some (.int (nI i))] [] Q := by
  obtain ⟨hR, hv, hY, hF, hco, hX, hfk, hfp, hto, htj, hSO⟩ := id R
  refine wp_aload_n 238 d_Law_law_237 rfl rfl ?_
  refine lP_V0 (cb := cb + 2) (sb := sb + 8) 241 M_PM_top 1 0 0 d_Law_law_238 rfl mv_PM_top lk_Law_18 rfl rfl rfl rfl rfl rfl ?_
  refine c_PM_top ?_
  refine lkL rfl ?_
  refine wp_aload_n 242 d_Law_law_241 rfl rfl ?_
  refine lM_V0 (cb := cb + 2) (sb := sb + 8) 245 M_Mo_top 1 0 0 d_Law_law_242 rfl mv_Mo_top lk_Law_22 rfl rfl rfl rfl rfl rfl rfl ?_
  refine c_Mo_top ?_
  refine mkL rfl ?_
  refine wp_lcmp 246 d_Law_law_245 rfl ?_
  refine wp_if_eq 1539 249 d_Law_law_246 rfl (by decide) (fun h246 => ?_) (fun h246 => ?_)
  · refine wp_less (cb := cb) (sb := sb) (a := 2) (b := 8) (hn _ _ _ _ _ _ _ _ _ _ _ _ _ _ _ _ _ _ _ _ _ _ _ _ _ _ _ _ _ _ _ _ _ _ _ _ _ _ _ _ _ _ _ _ _ _ _ _ _ _ _ _ _ _ _ _ _ _ _ _ _ _ _ _ ?_)
    exact ⟨hR, hv, hY, hF, hco, hX, hfk, hfp, hto, htj, hSO⟩
  · exact absurd (lg_0.mpr rfl) h246
set_option maxRecDepth 100000 in
set_option maxHeartbeats 4000000 in
theorem law_bottom (h3 : Γ.2.2.2.1 ≤ 3072) (hi : i + 6 ≤ Γ.2.2.2.1) (hn : LNX Γ cb sb i Q) (R : LR Y X T S M D E N C U W L VL HL nK m_at m_names m_sort m_trayMany m_trays m_tape m_faultKind m_faultPlace m_told1 m_isTold) : WP Γ M_Law_law 20 (cb + 2) (sb + 8) (lawH (hPM Y X T S M D E N C U W G L VL HL nK ST TP BT) (hM m_at m_names (ST) (TP) (BT) m_sort m_trayMany m_trays m_tape m_text ((nI X.nF)) m_size m_token m_from m_end m_value m_faultKind m_faultPlace m_faults m_seen m_areOdds m_opened m_depth m_counted m_eastBy m_northBy m_partBy m_wayFaults m_wayEast m_wayNorth m_olds m_wayMany m_oneOfSet m_twoOfSet m_farBy m_rowBy m_triedBy m_rowMany m_doneAt m_gotAt m_struckAt m_bestDeed m_misBy m_drawn m_ranSteps m_loops m_ran m_told1 m_isTold ((nI nK)))) 251 [some (.ref (XB + 4)), some (.ref 0), some (.ref 124), some (.int (nI i))] [] Q := by
  obtain ⟨hR, hv, hY, hF, hco, hX, hfk, hfp, hto, htj, hSO⟩ := id R
  refine wp_aload_n 252 d_Law_law_251 rfl rfl ?_
  refine lP_V0 (cb := cb + 2) (sb := sb + 8) 255 M_PM_bottom 1 0 0 d_Law_law_252 rfl mv_PM_bottom lk_Law_23 rfl rfl rfl rfl rfl rfl ?_
  refine c_PM_bottom ?_
  refine lkL rfl ?_
  refine wp_aload_n 256 d_Law_law_255 rfl rfl ?_
  refine lM_V0 (cb := cb + 2) (sb := sb + 8) 259 M_Mo_bottom 1 0 0 d_Law_law_256 rfl mv_Mo_bottom lk_Law_26 rfl rfl rfl rfl rfl rfl rfl ?_
  refine c_Mo_bottom ?_
  refine mkL rfl ?_
  refine wp_lcmp 260 d_Law_law_259 rfl ?_
  refine wp_if_eq 1539 263 d_Law_law_260 rfl (by decide) (fun h260 => ?_) (fun h260 => ?_)
  · refine wp_less (cb := cb) (sb := sb) (a := 2) (b := 8) (hn _ _ _ _ _ _ _ _ _ _ _ _ _ _ _ _ _ _ _ _ _ _ _ _ _ _ _ _ _ _ _ _ _ _ _ _ _ _ _ _ _ _ _ _ _ _ _ _ _ _ _ _ _ _ _ _ _ _ _ _ _ _ _ _ ?_)
    exact ⟨hR, hv, hY, hF, hco, hX, hfk, hfp, hto, htj, hSO⟩
  · exact absurd (lg_0.mpr rfl) h260
set_option maxRecDepth 100000 in
set_option maxHeartbeats 4000000 in
theorem law_tray (h3 : Γ.2.2.2.1 ≤ 3072) (hi : i + 6 ≤ Γ.2.2.2.1) (hn : LNX Γ cb sb i Q) (R : LR Y X T S M D E N C U W L VL HL nK m_at m_names m_sort m_trayMany m_trays m_tape m_faultKind m_faultPlace m_told1 m_isTold) : WP Γ M_Law_law 20 (cb + 2) (sb + 8) (lawH (hPM Y X T S M D E N C U W G L VL HL nK ST TP BT) (hM m_at m_names (ST) (TP) (BT) m_sort m_trayMany m_trays m_tape m_text ((nI X.nF)) m_size m_token m_from m_end m_value m_faultKind m_faultPlace m_faults m_seen m_areOdds m_opened m_depth m_counted m_eastBy m_northBy m_partBy m_wayFaults m_wayEast m_wayNorth m_olds m_wayMany m_oneOfSet m_twoOfSet m_farBy m_rowBy m_triedBy m_rowMany m_doneAt m_gotAt m_struckAt m_bestDeed m_misBy m_drawn m_ranSteps m_loops m_ran m_told1 m_isTold ((nI nK)))) 265 [some (.ref (XB + 4)), some (.ref 0), some (.ref 124), some (.int (nI i))] [] Q := by
  obtain ⟨hR, hv, hY, hF, hco, hX, hfk, hfp, hto, htj, hSO⟩ := id R
  refine wp_aload_n 266 d_Law_law_265 rfl rfl ?_
  refine wp_aload_n 267 d_Law_law_266 rfl rfl ?_
  refine wp_iload_n 268 d_Law_law_267 rfl rfl ?_
  refine wp_iconst 269 1 d_Law_law_268 rfl (by decide) ?_
  refine wp_iadd 270 d_Law_law_269 rfl ?_
  rw [show nI i + 1 = nI (i + 1) from nI_add i 1]
  refine wp_sldN 271 d_Law_law_270 rfl h3 (by omega) ?_
  refine wp_aload_n 272 d_Law_law_271 rfl rfl ?_
  refine wp_iload_n 273 d_Law_law_272 rfl rfl ?_
  refine wp_iconst 274 2 d_Law_law_273 rfl (by decide) ?_
  refine wp_iadd 275 d_Law_law_274 rfl ?_
  rw [show nI i + 2 = nI (i + 2) from nI_add i 2]
  refine wp_sldN 276 d_Law_law_275 rfl h3 (by omega) ?_
  refine wp_aload_n 277 d_Law_law_276 rfl rfl ?_
  refine wp_iload_n 278 d_Law_law_277 rfl rfl ?_
  refine wp_iconst 279 3 d_Law_law_278 rfl (by decide) ?_
  refine wp_iadd 280 d_Law_law_279 rfl ?_
  rw [show nI i + 3 = nI (i + 3) from nI_add i 3]
  refine wp_sldN 281 d_Law_law_280 rfl h3 (by omega) ?_
  refine lP_V3 (cb := cb + 2) (sb := sb + 8) 284 M_PM_tray 3 0 0 d_Law_law_281 rfl mv_PM_tray lk_Law_27 rfl rfl rfl rfl rfl rfl ?_
  refine c_PM_tray ?_
  refine lkI rfl ?_
  refine wp_aload_n 285 d_Law_law_284 rfl rfl ?_
  refine wp_aload_n 286 d_Law_law_285 rfl rfl ?_
  refine wp_iload_n 287 d_Law_law_286 rfl rfl ?_
  refine wp_iconst 288 1 d_Law_law_287 rfl (by decide) ?_
  refine wp_iadd 289 d_Law_law_288 rfl ?_
  rw [show nI i + 1 = nI (i + 1) from nI_add i 1]
  refine wp_sldN 290 d_Law_law_289 rfl h3 (by omega) ?_
  refine wp_aload_n 291 d_Law_law_290 rfl rfl ?_
  refine wp_iload_n 292 d_Law_law_291 rfl rfl ?_
  refine wp_iconst 293 2 d_Law_law_292 rfl (by decide) ?_
  refine wp_iadd 294 d_Law_law_293 rfl ?_
  rw [show nI i + 2 = nI (i + 2) from nI_add i 2]
  refine wp_sldN 295 d_Law_law_294 rfl h3 (by omega) ?_
  refine wp_aload_n 296 d_Law_law_295 rfl rfl ?_
  refine wp_iload_n 297 d_Law_law_296 rfl rfl ?_
  refine wp_iconst 298 3 d_Law_law_297 rfl (by decide) ?_
  refine wp_iadd 299 d_Law_law_298 rfl ?_
  rw [show nI i + 3 = nI (i + 3) from nI_add i 3]
  refine wp_sldN 300 d_Law_law_299 rfl h3 (by omega) ?_
  refine lM_V3 (cb := cb + 2) (sb := sb + 8) 303 M_Mo_tray 2 0 0 d_Law_law_300 rfl mv_Mo_tray lk_Law_31 rfl rfl rfl rfl rfl rfl rfl rfl rfl rfl ?_
  refine c_Mo_tray hv (fun so9 tm2 tr2 v2 => ?_)
  refine mkI rfl ?_
  refine wp_icmp_eq 1539 306 d_Law_law_303 rfl (by decide) (fun h303 => ?_) (fun h303 => ?_)
  · refine wp_less (cb := cb) (sb := sb) (a := 2) (b := 8) (hn _ _ _ _ _ _ _ _ _ _ _ _ _ _ _ _ _ _ _ _ _ _ _ _ _ _ _ _ _ _ _ _ _ _ _ _ _ _ _ _ _ _ _ _ _ _ _ _ _ _ _ _ _ _ _ _ _ _ _ _ _ _ _ _ ?_)
    exact ⟨hR, v2, trF_nM hY, hF, hco, hX, hfk, hfp, hto, htj, hSO⟩
  · exact absurd (rfl) h303
set_option maxRecDepth 100000 in
set_option maxHeartbeats 4000000 in
theorem law_write (h3 : Γ.2.2.2.1 ≤ 3072) (hi : i + 6 ≤ Γ.2.2.2.1) (hn : LNX Γ cb sb i Q) (R : LR Y X T S M D E N C U W L VL HL nK m_at m_names m_sort m_trayMany m_trays m_tape m_faultKind m_faultPlace m_told1 m_isTold) : WP Γ M_Law_law 20 (cb + 2) (sb + 8) (lawH (hPM Y X T S M D E N C U W G L VL HL nK ST TP BT) (hM m_at m_names (ST) (TP) (BT) m_sort m_trayMany m_trays m_tape m_text ((nI X.nF)) m_size m_token m_from m_end m_value m_faultKind m_faultPlace m_faults m_seen m_areOdds m_opened m_depth m_counted m_eastBy m_northBy m_partBy m_wayFaults m_wayEast m_wayNorth m_olds m_wayMany m_oneOfSet m_twoOfSet m_farBy m_rowBy m_triedBy m_rowMany m_doneAt m_gotAt m_struckAt m_bestDeed m_misBy m_drawn m_ranSteps m_loops m_ran m_told1 m_isTold ((nI nK)))) 308 [some (.ref (XB + 4)), some (.ref 0), some (.ref 124), some (.int (nI i))] [] Q := by
  obtain ⟨hR, hv, hY, hF, hco, hX, hfk, hfp, hto, htj, hSO⟩ := id R
  refine wp_aload_n 309 d_Law_law_308 rfl rfl ?_
  refine wp_aload_n 310 d_Law_law_309 rfl rfl ?_
  refine wp_iload_n 311 d_Law_law_310 rfl rfl ?_
  refine wp_iconst 312 1 d_Law_law_311 rfl (by decide) ?_
  refine wp_iadd 313 d_Law_law_312 rfl ?_
  rw [show nI i + 1 = nI (i + 1) from nI_add i 1]
  refine wp_sldN 314 d_Law_law_313 rfl h3 (by omega) ?_
  refine wp_aload_n 315 d_Law_law_314 rfl rfl ?_
  refine wp_iload_n 316 d_Law_law_315 rfl rfl ?_
  refine wp_iconst 317 2 d_Law_law_316 rfl (by decide) ?_
  refine wp_iadd 318 d_Law_law_317 rfl ?_
  rw [show nI i + 2 = nI (i + 2) from nI_add i 2]
  refine wp_sldN 319 d_Law_law_318 rfl h3 (by omega) ?_
  refine wp_aload_n 320 d_Law_law_319 rfl rfl ?_
  refine wp_iload_n 321 d_Law_law_320 rfl rfl ?_
  refine wp_iconst 322 3 d_Law_law_321 rfl (by decide) ?_
  refine wp_iadd 323 d_Law_law_322 rfl ?_
  rw [show nI i + 3 = nI (i + 3) from nI_add i 3]
  refine wp_sldN 324 d_Law_law_323 rfl h3 (by omega) ?_
  refine wp_i2l 325 d_Law_law_324 rfl ?_
  refine wp_bipush 327 32 d_Law_law_325 rfl (by decide) ?_
  refine wp_lshl 328 d_Law_law_327 rfl ?_
  refine wp_aload_n 329 d_Law_law_328 rfl rfl ?_
  refine wp_iload_n 330 d_Law_law_329 rfl rfl ?_
  refine wp_iconst 331 4 d_Law_law_330 rfl (by decide) ?_
  refine wp_iadd 332 d_Law_law_331 rfl ?_
  rw [show nI i + 4 = nI (i + 4) from nI_add i 4]
  refine wp_sldN 333 d_Law_law_332 rfl h3 (by omega) ?_
  refine wp_i2l 334 d_Law_law_333 rfl ?_
  refine wp_ldc2 337 (4294967295 : Int64) d_Law_law_334 rfl ct_Law_32 ?_
  refine wp_land 338 d_Law_law_337 rfl ?_
  refine wp_lor 339 d_Law_law_338 rfl ?_
  refine lP_V3 (cb := cb + 2) (sb := sb + 8) 342 M_PM_write 3 0 0 d_Law_law_339 rfl mv_PM_write lk_Law_34 rfl rfl rfl rfl rfl rfl ?_
  refine c_PM_write hY ?_
  refine lkI rfl ?_
  refine wp_aload_n 343 d_Law_law_342 rfl rfl ?_
  refine wp_aload_n 344 d_Law_law_343 rfl rfl ?_
  refine wp_iload_n 345 d_Law_law_344 rfl rfl ?_
  refine wp_iconst 346 1 d_Law_law_345 rfl (by decide) ?_
  refine wp_iadd 347 d_Law_law_346 rfl ?_
  rw [show nI i + 1 = nI (i + 1) from nI_add i 1]
  refine wp_sldN 348 d_Law_law_347 rfl h3 (by omega) ?_
  refine wp_aload_n 349 d_Law_law_348 rfl rfl ?_
  refine wp_iload_n 350 d_Law_law_349 rfl rfl ?_
  refine wp_iconst 351 2 d_Law_law_350 rfl (by decide) ?_
  refine wp_iadd 352 d_Law_law_351 rfl ?_
  rw [show nI i + 2 = nI (i + 2) from nI_add i 2]
  refine wp_sldN 353 d_Law_law_352 rfl h3 (by omega) ?_
  refine wp_aload_n 354 d_Law_law_353 rfl rfl ?_
  refine wp_iload_n 355 d_Law_law_354 rfl rfl ?_
  refine wp_iconst 356 3 d_Law_law_355 rfl (by decide) ?_
  refine wp_iadd 357 d_Law_law_356 rfl ?_
  rw [show nI i + 3 = nI (i + 3) from nI_add i 3]
  refine wp_sldN 358 d_Law_law_357 rfl h3 (by omega) ?_
  refine wp_i2l 359 d_Law_law_358 rfl ?_
  refine wp_bipush 361 32 d_Law_law_359 rfl (by decide) ?_
  refine wp_lshl 362 d_Law_law_361 rfl ?_
  refine wp_aload_n 363 d_Law_law_362 rfl rfl ?_
  refine wp_iload_n 364 d_Law_law_363 rfl rfl ?_
  refine wp_iconst 365 4 d_Law_law_364 rfl (by decide) ?_
  refine wp_iadd 366 d_Law_law_365 rfl ?_
  rw [show nI i + 4 = nI (i + 4) from nI_add i 4]
  refine wp_sldN 367 d_Law_law_366 rfl h3 (by omega) ?_
  refine wp_i2l 368 d_Law_law_367 rfl ?_
  refine wp_ldc2 371 (4294967295 : Int64) d_Law_law_368 rfl ct_Law_32 ?_
  refine wp_land 372 d_Law_law_371 rfl ?_
  refine wp_lor 373 d_Law_law_372 rfl ?_
  refine lM_V3 (cb := cb + 2) (sb := sb + 8) 376 M_Mo_write 3 0 0 d_Law_law_373 rfl mv_Mo_write lk_Law_38 rfl rfl rfl rfl rfl rfl rfl rfl rfl rfl ?_
  refine c_Mo_write hv (fun tr2 v2 => ?_)
  refine mkI rfl ?_
  refine wp_icmp_eq 1539 379 d_Law_law_376 rfl (by decide) (fun h376 => ?_) (fun h376 => ?_)
  · refine wp_less (cb := cb) (sb := sb) (a := 2) (b := 8) (hn _ _ _ _ _ _ _ _ _ _ _ _ _ _ _ _ _ _ _ _ _ _ _ _ _ _ _ _ _ _ _ _ _ _ _ _ _ _ _ _ _ _ _ _ _ _ _ _ _ _ _ _ _ _ _ _ _ _ _ _ _ _ _ _ ?_)
    exact ⟨hR, v2, wrF_nM hY, hF, hco, hX, hfk, hfp, hto, htj, hSO⟩
  · exact absurd (rfl) h376
set_option maxRecDepth 100000 in
set_option maxHeartbeats 4000000 in
theorem law_read (h3 : Γ.2.2.2.1 ≤ 3072) (hi : i + 6 ≤ Γ.2.2.2.1) (hn : LNX Γ cb sb i Q) (R : LR Y X T S M D E N C U W L VL HL nK m_at m_names m_sort m_trayMany m_trays m_tape m_faultKind m_faultPlace m_told1 m_isTold) : WP Γ M_Law_law 20 (cb + 2) (sb + 8) (lawH (hPM Y X T S M D E N C U W G L VL HL nK ST TP BT) (hM m_at m_names (ST) (TP) (BT) m_sort m_trayMany m_trays m_tape m_text ((nI X.nF)) m_size m_token m_from m_end m_value m_faultKind m_faultPlace m_faults m_seen m_areOdds m_opened m_depth m_counted m_eastBy m_northBy m_partBy m_wayFaults m_wayEast m_wayNorth m_olds m_wayMany m_oneOfSet m_twoOfSet m_farBy m_rowBy m_triedBy m_rowMany m_doneAt m_gotAt m_struckAt m_bestDeed m_misBy m_drawn m_ranSteps m_loops m_ran m_told1 m_isTold ((nI nK)))) 381 [some (.ref (XB + 4)), some (.ref 0), some (.ref 124), some (.int (nI i))] [] Q := by
  obtain ⟨hR, hv, hY, hF, hco, hX, hfk, hfp, hto, htj, hSO⟩ := id R
  refine wp_aload_n 382 d_Law_law_381 rfl rfl ?_
  refine wp_aload_n 383 d_Law_law_382 rfl rfl ?_
  refine wp_iload_n 384 d_Law_law_383 rfl rfl ?_
  refine wp_iconst 385 1 d_Law_law_384 rfl (by decide) ?_
  refine wp_iadd 386 d_Law_law_385 rfl ?_
  rw [show nI i + 1 = nI (i + 1) from nI_add i 1]
  refine wp_sldN 387 d_Law_law_386 rfl h3 (by omega) ?_
  refine wp_aload_n 388 d_Law_law_387 rfl rfl ?_
  refine wp_iload_n 389 d_Law_law_388 rfl rfl ?_
  refine wp_iconst 390 2 d_Law_law_389 rfl (by decide) ?_
  refine wp_iadd 391 d_Law_law_390 rfl ?_
  rw [show nI i + 2 = nI (i + 2) from nI_add i 2]
  refine wp_sldN 392 d_Law_law_391 rfl h3 (by omega) ?_
  refine lP_V2 (cb := cb + 2) (sb := sb + 8) 395 M_PM_read 3 0 0 d_Law_law_392 rfl mv_PM_read lk_Law_39 rfl rfl rfl rfl rfl rfl ?_
  refine c_PM_read hY ?_
  refine lkL rfl ?_
  refine wp_aload_n 396 d_Law_law_395 rfl rfl ?_
  refine wp_aload_n 397 d_Law_law_396 rfl rfl ?_
  refine wp_iload_n 398 d_Law_law_397 rfl rfl ?_
  refine wp_iconst 399 1 d_Law_law_398 rfl (by decide) ?_
  refine wp_iadd 400 d_Law_law_399 rfl ?_
  rw [show nI i + 1 = nI (i + 1) from nI_add i 1]
  refine wp_sldN 401 d_Law_law_400 rfl h3 (by omega) ?_
  refine wp_aload_n 402 d_Law_law_401 rfl rfl ?_
  refine wp_iload_n 403 d_Law_law_402 rfl rfl ?_
  refine wp_iconst 404 2 d_Law_law_403 rfl (by decide) ?_
  refine wp_iadd 405 d_Law_law_404 rfl ?_
  rw [show nI i + 2 = nI (i + 2) from nI_add i 2]
  refine wp_sldN 406 d_Law_law_405 rfl h3 (by omega) ?_
  refine lM_V2 (cb := cb + 2) (sb := sb + 8) 409 M_Mo_read 3 0 0 d_Law_law_406 rfl mv_Mo_read lk_Law_43 rfl rfl rfl rfl rfl rfl rfl rfl rfl ?_
  refine c_Mo_read hv ?_
  refine mkL rfl ?_
  refine wp_lcmp 410 d_Law_law_409 rfl ?_
  refine wp_if_eq 1539 413 d_Law_law_410 rfl (by decide) (fun h410 => ?_) (fun h410 => ?_)
  · refine wp_less (cb := cb) (sb := sb) (a := 2) (b := 8) (hn _ _ _ _ _ _ _ _ _ _ _ _ _ _ _ _ _ _ _ _ _ _ _ _ _ _ _ _ _ _ _ _ _ _ _ _ _ _ _ _ _ _ _ _ _ _ _ _ _ _ _ _ _ _ _ _ _ _ _ _ _ _ _ _ ?_)
    exact ⟨hR, hv, hY, hF, hco, hX, hfk, hfp, hto, htj, hSO⟩
  · exact absurd (lg_0.mpr rfl) h410
set_option maxRecDepth 100000 in
set_option maxHeartbeats 4000000 in
theorem law_pour (h3 : Γ.2.2.2.1 ≤ 3072) (hi : i + 6 ≤ Γ.2.2.2.1) (hn : LNX Γ cb sb i Q) (R : LR Y X T S M D E N C U W L VL HL nK m_at m_names m_sort m_trayMany m_trays m_tape m_faultKind m_faultPlace m_told1 m_isTold) : WP Γ M_Law_law 20 (cb + 2) (sb + 8) (lawH (hPM Y X T S M D E N C U W G L VL HL nK ST TP BT) (hM m_at m_names (ST) (TP) (BT) m_sort m_trayMany m_trays m_tape m_text ((nI X.nF)) m_size m_token m_from m_end m_value m_faultKind m_faultPlace m_faults m_seen m_areOdds m_opened m_depth m_counted m_eastBy m_northBy m_partBy m_wayFaults m_wayEast m_wayNorth m_olds m_wayMany m_oneOfSet m_twoOfSet m_farBy m_rowBy m_triedBy m_rowMany m_doneAt m_gotAt m_struckAt m_bestDeed m_misBy m_drawn m_ranSteps m_loops m_ran m_told1 m_isTold ((nI nK)))) 415 [some (.ref (XB + 4)), some (.ref 0), some (.ref 124), some (.int (nI i))] [] Q := by
  obtain ⟨hR, hv, hY, hF, hco, hX, hfk, hfp, hto, htj, hSO⟩ := id R
  refine wp_aload_n 416 d_Law_law_415 rfl rfl ?_
  refine wp_aload_n 417 d_Law_law_416 rfl rfl ?_
  refine wp_iload_n 418 d_Law_law_417 rfl rfl ?_
  refine wp_iconst 419 1 d_Law_law_418 rfl (by decide) ?_
  refine wp_iadd 420 d_Law_law_419 rfl ?_
  rw [show nI i + 1 = nI (i + 1) from nI_add i 1]
  refine wp_sldN 421 d_Law_law_420 rfl h3 (by omega) ?_
  refine wp_aload_n 422 d_Law_law_421 rfl rfl ?_
  refine wp_iload_n 423 d_Law_law_422 rfl rfl ?_
  refine wp_iconst 424 2 d_Law_law_423 rfl (by decide) ?_
  refine wp_iadd 425 d_Law_law_424 rfl ?_
  rw [show nI i + 2 = nI (i + 2) from nI_add i 2]
  refine wp_sldN 426 d_Law_law_425 rfl h3 (by omega) ?_
  refine wp_aload_n 427 d_Law_law_426 rfl rfl ?_
  refine wp_iload_n 428 d_Law_law_427 rfl rfl ?_
  refine wp_iconst 429 3 d_Law_law_428 rfl (by decide) ?_
  refine wp_iadd 430 d_Law_law_429 rfl ?_
  rw [show nI i + 3 = nI (i + 3) from nI_add i 3]
  refine wp_sldN 431 d_Law_law_430 rfl h3 (by omega) ?_
  refine wp_aload_n 432 d_Law_law_431 rfl rfl ?_
  refine wp_iload_n 433 d_Law_law_432 rfl rfl ?_
  refine wp_iconst 434 4 d_Law_law_433 rfl (by decide) ?_
  refine wp_iadd 435 d_Law_law_434 rfl ?_
  rw [show nI i + 4 = nI (i + 4) from nI_add i 4]
  refine wp_sldN 436 d_Law_law_435 rfl h3 (by omega) ?_
  refine wp_aload_n 437 d_Law_law_436 rfl rfl ?_
  refine wp_iload_n 438 d_Law_law_437 rfl rfl ?_
  refine wp_iconst 439 5 d_Law_law_438 rfl (by decide) ?_
  refine wp_iadd 440 d_Law_law_439 rfl ?_
  rw [show nI i + 5 = nI (i + 5) from nI_add i 5]
  refine wp_sldN 441 d_Law_law_440 rfl h3 (by omega) ?_
  refine lP_V5 (cb := cb + 2) (sb := sb + 8) 444 M_PM_pour 2 0 0 d_Law_law_441 rfl mv_PM_pour lk_Law_44 rfl rfl rfl rfl rfl rfl ?_
  refine c_PM_pour hY (fun v9 e1 e2 => ?_) (fun e1 => ?_)
  · refine lkI rfl ?_
    refine wp_aload_n 445 d_Law_law_444 rfl rfl ?_
    refine wp_aload_n 446 d_Law_law_445 rfl rfl ?_
    refine wp_iload_n 447 d_Law_law_446 rfl rfl ?_
    refine wp_iconst 448 1 d_Law_law_447 rfl (by decide) ?_
    refine wp_iadd 449 d_Law_law_448 rfl ?_
    rw [show nI i + 1 = nI (i + 1) from nI_add i 1]
    refine wp_sldN 450 d_Law_law_449 rfl h3 (by omega) ?_
    refine wp_aload_n 451 d_Law_law_450 rfl rfl ?_
    refine wp_iload_n 452 d_Law_law_451 rfl rfl ?_
    refine wp_iconst 453 2 d_Law_law_452 rfl (by decide) ?_
    refine wp_iadd 454 d_Law_law_453 rfl ?_
    rw [show nI i + 2 = nI (i + 2) from nI_add i 2]
    refine wp_sldN 455 d_Law_law_454 rfl h3 (by omega) ?_
    refine wp_aload_n 456 d_Law_law_455 rfl rfl ?_
    refine wp_iload_n 457 d_Law_law_456 rfl rfl ?_
    refine wp_iconst 458 3 d_Law_law_457 rfl (by decide) ?_
    refine wp_iadd 459 d_Law_law_458 rfl ?_
    rw [show nI i + 3 = nI (i + 3) from nI_add i 3]
    refine wp_sldN 460 d_Law_law_459 rfl h3 (by omega) ?_
    refine wp_aload_n 461 d_Law_law_460 rfl rfl ?_
    refine wp_iload_n 462 d_Law_law_461 rfl rfl ?_
    refine wp_iconst 463 4 d_Law_law_462 rfl (by decide) ?_
    refine wp_iadd 464 d_Law_law_463 rfl ?_
    rw [show nI i + 4 = nI (i + 4) from nI_add i 4]
    refine wp_sldN 465 d_Law_law_464 rfl h3 (by omega) ?_
    refine wp_aload_n 466 d_Law_law_465 rfl rfl ?_
    refine wp_iload_n 467 d_Law_law_466 rfl rfl ?_
    refine wp_iconst 468 5 d_Law_law_467 rfl (by decide) ?_
    refine wp_iadd 469 d_Law_law_468 rfl ?_
    rw [show nI i + 5 = nI (i + 5) from nI_add i 5]
    refine wp_sldN 470 d_Law_law_469 rfl h3 (by omega) ?_
    refine lM_V5 (cb := cb + 2) (sb := sb + 8) 473 M_Mo_pour 2 0 0 d_Law_law_470 rfl mv_Mo_pour lk_Law_48 rfl rfl rfl rfl rfl rfl rfl rfl rfl rfl rfl rfl ?_
    refine c_Mo_pour hv (fun w9 e3 e4 => ?_) (fun e3 tr2 v2 => ?_)
    · refine mkI rfl ?_
      obtain rfl : v9 = w9 := e1.symm.trans e3
      refine wp_icmp_eq 1539 476 d_Law_law_473 rfl (by decide) (fun h473 => ?_) (fun h473 => ?_)
      · refine wp_less (cb := cb) (sb := sb) (a := 2) (b := 8) (hn _ _ _ _ _ _ _ _ _ _ _ _ _ _ _ _ _ _ _ _ _ _ _ _ _ _ _ _ _ _ _ _ _ _ _ _ _ _ _ _ _ _ _ _ _ _ _ _ _ _ _ _ _ _ _ _ _ _ _ _ _ _ _ _ ?_)
        exact ⟨hR, hv, hY, hF, hco, hX, hfk, hfp, hto, htj, hSO⟩
      · exact absurd (rfl) h473
    · refine mkI rfl ?_
      exact absurd (e1.symm.trans e3) e2
  · refine lkI rfl ?_
    refine wp_aload_n 445 d_Law_law_444 rfl rfl ?_
    refine wp_aload_n 446 d_Law_law_445 rfl rfl ?_
    refine wp_iload_n 447 d_Law_law_446 rfl rfl ?_
    refine wp_iconst 448 1 d_Law_law_447 rfl (by decide) ?_
    refine wp_iadd 449 d_Law_law_448 rfl ?_
    rw [show nI i + 1 = nI (i + 1) from nI_add i 1]
    refine wp_sldN 450 d_Law_law_449 rfl h3 (by omega) ?_
    refine wp_aload_n 451 d_Law_law_450 rfl rfl ?_
    refine wp_iload_n 452 d_Law_law_451 rfl rfl ?_
    refine wp_iconst 453 2 d_Law_law_452 rfl (by decide) ?_
    refine wp_iadd 454 d_Law_law_453 rfl ?_
    rw [show nI i + 2 = nI (i + 2) from nI_add i 2]
    refine wp_sldN 455 d_Law_law_454 rfl h3 (by omega) ?_
    refine wp_aload_n 456 d_Law_law_455 rfl rfl ?_
    refine wp_iload_n 457 d_Law_law_456 rfl rfl ?_
    refine wp_iconst 458 3 d_Law_law_457 rfl (by decide) ?_
    refine wp_iadd 459 d_Law_law_458 rfl ?_
    rw [show nI i + 3 = nI (i + 3) from nI_add i 3]
    refine wp_sldN 460 d_Law_law_459 rfl h3 (by omega) ?_
    refine wp_aload_n 461 d_Law_law_460 rfl rfl ?_
    refine wp_iload_n 462 d_Law_law_461 rfl rfl ?_
    refine wp_iconst 463 4 d_Law_law_462 rfl (by decide) ?_
    refine wp_iadd 464 d_Law_law_463 rfl ?_
    rw [show nI i + 4 = nI (i + 4) from nI_add i 4]
    refine wp_sldN 465 d_Law_law_464 rfl h3 (by omega) ?_
    refine wp_aload_n 466 d_Law_law_465 rfl rfl ?_
    refine wp_iload_n 467 d_Law_law_466 rfl rfl ?_
    refine wp_iconst 468 5 d_Law_law_467 rfl (by decide) ?_
    refine wp_iadd 469 d_Law_law_468 rfl ?_
    rw [show nI i + 5 = nI (i + 5) from nI_add i 5]
    refine wp_sldN 470 d_Law_law_469 rfl h3 (by omega) ?_
    refine lM_V5 (cb := cb + 2) (sb := sb + 8) 473 M_Mo_pour 2 0 0 d_Law_law_470 rfl mv_Mo_pour lk_Law_48 rfl rfl rfl rfl rfl rfl rfl rfl rfl rfl rfl rfl ?_
    refine c_Mo_pour hv (fun w9 e3 e4 => ?_) (fun e3 tr2 v2 => ?_)
    · refine mkI rfl ?_
      exact absurd (e3.symm.trans e1) e4
    · refine mkI rfl ?_
      refine wp_icmp_eq 1539 476 d_Law_law_473 rfl (by decide) (fun h473 => ?_) (fun h473 => ?_)
      · refine wp_less (cb := cb) (sb := sb) (a := 2) (b := 8) (hn _ _ _ _ _ _ _ _ _ _ _ _ _ _ _ _ _ _ _ _ _ _ _ _ _ _ _ _ _ _ _ _ _ _ _ _ _ _ _ _ _ _ _ _ _ _ _ _ _ _ _ _ _ _ _ _ _ _ _ _ _ _ _ _ ?_)
        exact ⟨hR, v2, poY_nM hY, hF, hco, hX, hfk, hfp, hto, htj, hSO⟩
      · exact absurd (rfl) h473
set_option maxRecDepth 100000 in
set_option maxHeartbeats 4000000 in
theorem law_feed (h3 : Γ.2.2.2.1 ≤ 3072) (hi : i + 6 ≤ Γ.2.2.2.1) (hn : LNX Γ cb sb i Q) (R : LR Y X T S M D E N C U W L VL HL nK m_at m_names m_sort m_trayMany m_trays m_tape m_faultKind m_faultPlace m_told1 m_isTold) : WP Γ M_Law_law 20 (cb + 2) (sb + 8) (lawH (hPM Y X T S M D E N C U W G L VL HL nK ST TP BT) (hM m_at m_names (ST) (TP) (BT) m_sort m_trayMany m_trays m_tape m_text ((nI X.nF)) m_size m_token m_from m_end m_value m_faultKind m_faultPlace m_faults m_seen m_areOdds m_opened m_depth m_counted m_eastBy m_northBy m_partBy m_wayFaults m_wayEast m_wayNorth m_olds m_wayMany m_oneOfSet m_twoOfSet m_farBy m_rowBy m_triedBy m_rowMany m_doneAt m_gotAt m_struckAt m_bestDeed m_misBy m_drawn m_ranSteps m_loops m_ran m_told1 m_isTold ((nI nK)))) 478 [some (.ref (XB + 4)), some (.ref 0), some (.ref 124), some (.int (nI i))] [] Q := by
  obtain ⟨hR, hv, hY, hF, hco, hX, hfk, hfp, hto, htj, hSO⟩ := id R
  refine wp_aload_n 479 d_Law_law_478 rfl rfl ?_
  refine wp_aload_n 480 d_Law_law_479 rfl rfl ?_
  refine wp_iload_n 481 d_Law_law_480 rfl rfl ?_
  refine wp_iconst 482 1 d_Law_law_481 rfl (by decide) ?_
  refine wp_iadd 483 d_Law_law_482 rfl ?_
  rw [show nI i + 1 = nI (i + 1) from nI_add i 1]
  refine wp_sldN 484 d_Law_law_483 rfl h3 (by omega) ?_
  refine wp_aload_n 485 d_Law_law_484 rfl rfl ?_
  refine wp_iload_n 486 d_Law_law_485 rfl rfl ?_
  refine wp_iconst 487 2 d_Law_law_486 rfl (by decide) ?_
  refine wp_iadd 488 d_Law_law_487 rfl ?_
  rw [show nI i + 2 = nI (i + 2) from nI_add i 2]
  refine wp_sldN 489 d_Law_law_488 rfl h3 (by omega) ?_
  refine wp_aload_n 490 d_Law_law_489 rfl rfl ?_
  refine wp_iload_n 491 d_Law_law_490 rfl rfl ?_
  refine wp_iconst 492 3 d_Law_law_491 rfl (by decide) ?_
  refine wp_iadd 493 d_Law_law_492 rfl ?_
  rw [show nI i + 3 = nI (i + 3) from nI_add i 3]
  refine wp_sldN 494 d_Law_law_493 rfl h3 (by omega) ?_
  refine wp_aload_n 495 d_Law_law_494 rfl rfl ?_
  refine wp_iload_n 496 d_Law_law_495 rfl rfl ?_
  refine wp_iconst 497 4 d_Law_law_496 rfl (by decide) ?_
  refine wp_iadd 498 d_Law_law_497 rfl ?_
  rw [show nI i + 4 = nI (i + 4) from nI_add i 4]
  refine wp_sldN 499 d_Law_law_498 rfl h3 (by omega) ?_
  refine wp_aload_n 500 d_Law_law_499 rfl rfl ?_
  refine wp_iload_n 501 d_Law_law_500 rfl rfl ?_
  refine wp_iconst 502 5 d_Law_law_501 rfl (by decide) ?_
  refine wp_iadd 503 d_Law_law_502 rfl ?_
  rw [show nI i + 5 = nI (i + 5) from nI_add i 5]
  refine wp_sldN 504 d_Law_law_503 rfl h3 (by omega) ?_
  refine lP_V5 (cb := cb + 2) (sb := sb + 8) 507 M_PM_feed 2 0 0 d_Law_law_504 rfl mv_PM_feed lk_Law_49 rfl rfl rfl rfl rfl rfl ?_
  refine c_PM_feed hF (fun e1 => ?_) (fun e1 => ?_)
  · refine lkI rfl ?_
    refine wp_aload_n 508 d_Law_law_507 rfl rfl ?_
    refine wp_aload_n 509 d_Law_law_508 rfl rfl ?_
    refine wp_iload_n 510 d_Law_law_509 rfl rfl ?_
    refine wp_iconst 511 1 d_Law_law_510 rfl (by decide) ?_
    refine wp_iadd 512 d_Law_law_511 rfl ?_
    rw [show nI i + 1 = nI (i + 1) from nI_add i 1]
    refine wp_sldN 513 d_Law_law_512 rfl h3 (by omega) ?_
    refine wp_aload_n 514 d_Law_law_513 rfl rfl ?_
    refine wp_iload_n 515 d_Law_law_514 rfl rfl ?_
    refine wp_iconst 516 2 d_Law_law_515 rfl (by decide) ?_
    refine wp_iadd 517 d_Law_law_516 rfl ?_
    rw [show nI i + 2 = nI (i + 2) from nI_add i 2]
    refine wp_sldN 518 d_Law_law_517 rfl h3 (by omega) ?_
    refine wp_aload_n 519 d_Law_law_518 rfl rfl ?_
    refine wp_iload_n 520 d_Law_law_519 rfl rfl ?_
    refine wp_iconst 521 3 d_Law_law_520 rfl (by decide) ?_
    refine wp_iadd 522 d_Law_law_521 rfl ?_
    rw [show nI i + 3 = nI (i + 3) from nI_add i 3]
    refine wp_sldN 523 d_Law_law_522 rfl h3 (by omega) ?_
    refine wp_aload_n 524 d_Law_law_523 rfl rfl ?_
    refine wp_iload_n 525 d_Law_law_524 rfl rfl ?_
    refine wp_iconst 526 4 d_Law_law_525 rfl (by decide) ?_
    refine wp_iadd 527 d_Law_law_526 rfl ?_
    rw [show nI i + 4 = nI (i + 4) from nI_add i 4]
    refine wp_sldN 528 d_Law_law_527 rfl h3 (by omega) ?_
    refine wp_aload_n 529 d_Law_law_528 rfl rfl ?_
    refine wp_iload_n 530 d_Law_law_529 rfl rfl ?_
    refine wp_iconst 531 5 d_Law_law_530 rfl (by decide) ?_
    refine wp_iadd 532 d_Law_law_531 rfl ?_
    rw [show nI i + 5 = nI (i + 5) from nI_add i 5]
    refine wp_sldN 533 d_Law_law_532 rfl h3 (by omega) ?_
    refine lM_V5 (cb := cb + 2) (sb := sb + 8) 536 M_Mo_feed 2 0 0 d_Law_law_533 rfl mv_Mo_feed lk_Law_53 rfl rfl rfl rfl rfl rfl rfl rfl rfl rfl rfl rfl ?_
    refine c_Mo_feed (b := m_tape) (n := X.nF) hF (fun e3 => ?_) (fun e3 => ?_)
    · refine mkI rfl ?_
      refine wp_icmp_eq 1539 539 d_Law_law_536 rfl (by decide) (fun h536 => ?_) (fun h536 => ?_)
      · refine wp_less (cb := cb) (sb := sb) (a := 2) (b := 8) (hn _ _ _ _ _ _ _ _ _ _ _ _ _ _ _ _ _ _ _ _ _ _ _ _ _ _ _ _ _ _ _ _ _ _ _ _ _ _ _ _ _ _ _ _ _ _ _ _ _ _ _ _ _ _ _ _ _ _ _ _ _ _ _ _ ?_)
        exact ⟨hR, hv, hY, (show X.nF + 4 + 4 + 4 + 4 + 4 ≤ 900 by omega), hco, RX_f4 (RX_f4 (RX_f4 (RX_f4 (RX_f4 hX)))), hfk, hfp, hto, htj, hSO⟩
      · exact absurd (rfl) h536
    · refine mkI rfl ?_
      exact absurd e1 e3
  · refine lkI rfl ?_
    refine wp_aload_n 508 d_Law_law_507 rfl rfl ?_
    refine wp_aload_n 509 d_Law_law_508 rfl rfl ?_
    refine wp_iload_n 510 d_Law_law_509 rfl rfl ?_
    refine wp_iconst 511 1 d_Law_law_510 rfl (by decide) ?_
    refine wp_iadd 512 d_Law_law_511 rfl ?_
    rw [show nI i + 1 = nI (i + 1) from nI_add i 1]
    refine wp_sldN 513 d_Law_law_512 rfl h3 (by omega) ?_
    refine wp_aload_n 514 d_Law_law_513 rfl rfl ?_
    refine wp_iload_n 515 d_Law_law_514 rfl rfl ?_
    refine wp_iconst 516 2 d_Law_law_515 rfl (by decide) ?_
    refine wp_iadd 517 d_Law_law_516 rfl ?_
    rw [show nI i + 2 = nI (i + 2) from nI_add i 2]
    refine wp_sldN 518 d_Law_law_517 rfl h3 (by omega) ?_
    refine wp_aload_n 519 d_Law_law_518 rfl rfl ?_
    refine wp_iload_n 520 d_Law_law_519 rfl rfl ?_
    refine wp_iconst 521 3 d_Law_law_520 rfl (by decide) ?_
    refine wp_iadd 522 d_Law_law_521 rfl ?_
    rw [show nI i + 3 = nI (i + 3) from nI_add i 3]
    refine wp_sldN 523 d_Law_law_522 rfl h3 (by omega) ?_
    refine wp_aload_n 524 d_Law_law_523 rfl rfl ?_
    refine wp_iload_n 525 d_Law_law_524 rfl rfl ?_
    refine wp_iconst 526 4 d_Law_law_525 rfl (by decide) ?_
    refine wp_iadd 527 d_Law_law_526 rfl ?_
    rw [show nI i + 4 = nI (i + 4) from nI_add i 4]
    refine wp_sldN 528 d_Law_law_527 rfl h3 (by omega) ?_
    refine wp_aload_n 529 d_Law_law_528 rfl rfl ?_
    refine wp_iload_n 530 d_Law_law_529 rfl rfl ?_
    refine wp_iconst 531 5 d_Law_law_530 rfl (by decide) ?_
    refine wp_iadd 532 d_Law_law_531 rfl ?_
    rw [show nI i + 5 = nI (i + 5) from nI_add i 5]
    refine wp_sldN 533 d_Law_law_532 rfl h3 (by omega) ?_
    refine lM_V5 (cb := cb + 2) (sb := sb + 8) 536 M_Mo_feed 2 0 0 d_Law_law_533 rfl mv_Mo_feed lk_Law_53 rfl rfl rfl rfl rfl rfl rfl rfl rfl rfl rfl rfl ?_
    refine c_Mo_feed (b := m_tape) (n := X.nF) hF (fun e3 => ?_) (fun e3 => ?_)
    · refine mkI rfl ?_
      exact absurd e3 e1
    · refine mkI rfl ?_
      refine wp_icmp_eq 1539 539 d_Law_law_536 rfl (by decide) (fun h536 => ?_) (fun h536 => ?_)
      · refine wp_less (cb := cb) (sb := sb) (a := 2) (b := 8) (hn _ _ _ _ _ _ _ _ _ _ _ _ _ _ _ _ _ _ _ _ _ _ _ _ _ _ _ _ _ _ _ _ _ _ _ _ _ _ _ _ _ _ _ _ _ _ _ _ _ _ _ _ _ _ _ _ _ _ _ _ _ _ _ _ ?_)
        exact ⟨hR, hv, hY, hF, hco, hX, hfk, hfp, hto, htj, hSO⟩
      · exact absurd (rfl) h536
set_option maxRecDepth 100000 in
set_option maxHeartbeats 4000000 in
theorem law_town (h3 : Γ.2.2.2.1 ≤ 3072) (hi : i + 6 ≤ Γ.2.2.2.1) (hn : LNX Γ cb sb i Q) (R : LR Y X T S M D E N C U W L VL HL nK m_at m_names m_sort m_trayMany m_trays m_tape m_faultKind m_faultPlace m_told1 m_isTold) : WP Γ M_Law_law 20 (cb + 2) (sb + 8) (lawH (hPM Y X T S M D E N C U W G L VL HL nK ST TP BT) (hM m_at m_names (ST) (TP) (BT) m_sort m_trayMany m_trays m_tape m_text ((nI X.nF)) m_size m_token m_from m_end m_value m_faultKind m_faultPlace m_faults m_seen m_areOdds m_opened m_depth m_counted m_eastBy m_northBy m_partBy m_wayFaults m_wayEast m_wayNorth m_olds m_wayMany m_oneOfSet m_twoOfSet m_farBy m_rowBy m_triedBy m_rowMany m_doneAt m_gotAt m_struckAt m_bestDeed m_misBy m_drawn m_ranSteps m_loops m_ran m_told1 m_isTold ((nI nK)))) 541 [some (.ref (XB + 4)), some (.ref 0), some (.ref 124), some (.int (nI i))] [] Q := by
  obtain ⟨hR, hv, hY, hF, hco, hX, hfk, hfp, hto, htj, hSO⟩ := id R
  refine wp_aload_n 542 d_Law_law_541 rfl rfl ?_
  refine wp_aload_n 543 d_Law_law_542 rfl rfl ?_
  refine wp_iload_n 544 d_Law_law_543 rfl rfl ?_
  refine wp_iconst 545 1 d_Law_law_544 rfl (by decide) ?_
  refine wp_iadd 546 d_Law_law_545 rfl ?_
  rw [show nI i + 1 = nI (i + 1) from nI_add i 1]
  refine wp_sldN 547 d_Law_law_546 rfl h3 (by omega) ?_
  refine lP_V1 (cb := cb + 1) (sb := sb + 5) 550 M_PM_town 8 1 3 d_Law_law_547 rfl mv_PM_town lk_Law_54 rfl rfl rfl rfl rfl rfl ?_
  refine c_PM_town hF (fun e1 => ?_) (fun k9 e1 e2 e3 => ?_) (fun k9 e1 e2 e3 => ?_)
  · refine lkI rfl ?_
    refine wp_aload_n 551 d_Law_law_550 rfl rfl ?_
    refine wp_aload_n 552 d_Law_law_551 rfl rfl ?_
    refine wp_iload_n 553 d_Law_law_552 rfl rfl ?_
    refine wp_iconst 554 1 d_Law_law_553 rfl (by decide) ?_
    refine wp_iadd 555 d_Law_law_554 rfl ?_
    rw [show nI i + 1 = nI (i + 1) from nI_add i 1]
    refine wp_sldN 556 d_Law_law_555 rfl h3 (by omega) ?_
    refine lM_V1 (cb := cb + 1) (sb := sb + 5) 559 M_Mo_town 11 0 0 d_Law_law_556 rfl mv_Mo_town lk_Law_58 rfl rfl rfl rfl rfl rfl rfl rfl ?_
    refine c_Mo_town (KK := tkK X) (s0 := tkS X) (S := S) rfl hF (fun k hk => (hX k hk).2) (LR_KK R) hR.2.1 (fun c0 => ?_) (fun L9 c1 c2 c3 x9 a2 n2 z1 z2 z3 z4 y9 f1 f2 => ?_) (fun L9 c1 c2 c3 x9 a2 n2 z1 z2 z3 z4 y9 V9 N9 e7 f1 f2 => ?_)
    · refine mkI rfl ?_
      refine wp_icmp_eq 1539 562 d_Law_law_559 rfl (by decide) (fun h559 => ?_) (fun h559 => ?_)
      · refine wp_less (cb := cb) (sb := sb) (a := 1) (b := 5) (hn _ _ _ _ _ _ _ _ _ _ _ _ _ _ _ _ _ _ _ _ _ _ _ _ _ _ _ _ _ _ _ _ _ _ _ _ _ _ _ _ _ _ _ _ _ _ _ _ _ _ _ _ _ _ _ _ _ _ _ _ _ _ _ _ ?_)
        exact ⟨hR, hv, hY, hF, hco, hX, hfk, hfp, hto, htj, hSO⟩
      · exact absurd (rfl) h559
    · refine mkI rfl ?_
      exact (nI_none e1 c1 c2 hF).elim
    · refine mkI rfl ?_
      exact (nI_none e1 c1 c2 hF).elim
  · refine lkI rfl ?_
    refine wp_aload_n 551 d_Law_law_550 rfl rfl ?_
    refine wp_aload_n 552 d_Law_law_551 rfl rfl ?_
    refine wp_iload_n 553 d_Law_law_552 rfl rfl ?_
    refine wp_iconst 554 1 d_Law_law_553 rfl (by decide) ?_
    refine wp_iadd 555 d_Law_law_554 rfl ?_
    rw [show nI i + 1 = nI (i + 1) from nI_add i 1]
    refine wp_sldN 556 d_Law_law_555 rfl h3 (by omega) ?_
    refine lM_V1 (cb := cb + 1) (sb := sb + 5) 559 M_Mo_town 11 0 0 d_Law_law_556 rfl mv_Mo_town lk_Law_58 rfl rfl rfl rfl rfl rfl rfl rfl ?_
    refine c_Mo_town (KK := tkK X) (s0 := tkS X) (S := S) rfl hF (fun k hk => (hX k hk).2) (LR_KK R) hR.2.1 (fun c0 => ?_) (fun L9 c1 c2 c3 x9 a2 n2 z1 z2 z3 z4 y9 f1 f2 => ?_) (fun L9 c1 c2 c3 x9 a2 n2 z1 z2 z3 z4 y9 V9 N9 e7 f1 f2 => ?_)
    · refine mkI rfl ?_
      exact absurd ⟨by rw [e1]; exact (nI_leI (a := 0) (by omega) (by omega)).mpr (by omega), by rw [e1]; exact (nI_leI (by omega) (by omega)).mpr (by omega)⟩ c0
    · refine mkI rfl ?_
      obtain rfl : k9 = L9 := nI_ij (e1.symm.trans c1) (by omega) (by omega)
      refine wp_icmp_eq 1539 562 d_Law_law_559 rfl (by decide) (fun h559 => ?_) (fun h559 => ?_)
      · refine wp_less (cb := cb) (sb := sb) (a := 1) (b := 5) (hn _ _ _ _ _ _ _ _ _ _ _ _ _ _ _ _ _ _ _ _ _ _ _ _ _ _ _ _ _ _ _ _ _ _ _ _ _ _ _ _ _ _ _ _ _ _ _ _ _ _ _ _ _ _ _ _ _ _ _ _ _ _ _ _ ?_)
        exact LR_town9 R e3 f1 f2
      · exact absurd (rfl) h559
    · refine mkI rfl ?_
      obtain rfl : k9 = L9 := nI_ij (e1.symm.trans c1) (by omega) (by omega)
      exact absurd c3 e3
  · refine lkI rfl ?_
    refine wp_aload_n 551 d_Law_law_550 rfl rfl ?_
    refine wp_aload_n 552 d_Law_law_551 rfl rfl ?_
    refine wp_iload_n 553 d_Law_law_552 rfl rfl ?_
    refine wp_iconst 554 1 d_Law_law_553 rfl (by decide) ?_
    refine wp_iadd 555 d_Law_law_554 rfl ?_
    rw [show nI i + 1 = nI (i + 1) from nI_add i 1]
    refine wp_sldN 556 d_Law_law_555 rfl h3 (by omega) ?_
    refine lM_V1 (cb := cb + 1) (sb := sb + 5) 559 M_Mo_town 11 0 0 d_Law_law_556 rfl mv_Mo_town lk_Law_58 rfl rfl rfl rfl rfl rfl rfl rfl ?_
    refine c_Mo_town (KK := tkK X) (s0 := tkS X) (S := S) rfl hF (fun k hk => (hX k hk).2) (LR_KK R) hR.2.1 (fun c0 => ?_) (fun L9 c1 c2 c3 x9 a2 n2 z1 z2 z3 z4 y9 f1 f2 => ?_) (fun L9 c1 c2 c3 x9 a2 n2 z1 z2 z3 z4 y9 V9 N9 e7 f1 f2 => ?_)
    · refine mkI rfl ?_
      exact absurd ⟨by rw [e1]; exact (nI_leI (a := 0) (by omega) (by omega)).mpr (by omega), by rw [e1]; exact (nI_leI (by omega) (by omega)).mpr (by omega)⟩ c0
    · refine mkI rfl ?_
      obtain rfl : k9 = L9 := nI_ij (e1.symm.trans c1) (by omega) (by omega)
      exact absurd e3 c3
    · refine mkI rfl ?_
      obtain rfl : k9 = L9 := nI_ij (e1.symm.trans c1) (by omega) (by omega)
      refine wp_icmp_eq 1539 562 d_Law_law_559 rfl (by decide) (fun h559 => ?_) (fun h559 => ?_)
      · refine wp_less (cb := cb) (sb := sb) (a := 1) (b := 5) (hn _ _ _ _ _ _ _ _ _ _ _ _ _ _ _ _ _ _ _ _ _ _ _ _ _ _ _ _ _ _ _ _ _ _ _ _ _ _ _ _ _ _ _ _ _ _ _ _ _ _ _ _ _ _ _ _ _ _ _ _ _ _ _ _ ?_)
        exact LR_town1 R e3 V9 N9 e7 f1 f2
      · exact absurd (rfl) h559
set_option maxRecDepth 100000 in
set_option maxHeartbeats 4000000 in
theorem law_days (h3 : Γ.2.2.2.1 ≤ 3072) (hi : i + 6 ≤ Γ.2.2.2.1) (hn : LNX Γ cb sb i Q) (R : LR Y X T S M D E N C U W L VL HL nK m_at m_names m_sort m_trayMany m_trays m_tape m_faultKind m_faultPlace m_told1 m_isTold) : WP Γ M_Law_law 20 (cb + 2) (sb + 8) (lawH (hPM Y X T S M D E N C U W G L VL HL nK ST TP BT) (hM m_at m_names (ST) (TP) (BT) m_sort m_trayMany m_trays m_tape m_text ((nI X.nF)) m_size m_token m_from m_end m_value m_faultKind m_faultPlace m_faults m_seen m_areOdds m_opened m_depth m_counted m_eastBy m_northBy m_partBy m_wayFaults m_wayEast m_wayNorth m_olds m_wayMany m_oneOfSet m_twoOfSet m_farBy m_rowBy m_triedBy m_rowMany m_doneAt m_gotAt m_struckAt m_bestDeed m_misBy m_drawn m_ranSteps m_loops m_ran m_told1 m_isTold ((nI nK)))) 564 [some (.ref (XB + 4)), some (.ref 0), some (.ref 124), some (.int (nI i))] [] Q := by
  obtain ⟨hR, hv, hY, hF, hco, hX, hfk, hfp, hto, htj, hSO⟩ := id R
  refine wp_aload_n 565 d_Law_law_564 rfl rfl ?_
  refine wp_aload_n 566 d_Law_law_565 rfl rfl ?_
  refine wp_iload_n 567 d_Law_law_566 rfl rfl ?_
  refine wp_iconst 568 1 d_Law_law_567 rfl (by decide) ?_
  refine wp_iadd 569 d_Law_law_568 rfl ?_
  rw [show nI i + 1 = nI (i + 1) from nI_add i 1]
  refine wp_sldN 570 d_Law_law_569 rfl h3 (by omega) ?_
  refine lP_V1 (cb := cb) (sb := sb) 573 M_PM_days 8 2 8 d_Law_law_570 rfl mv_PM_days lk_Law_59 rfl rfl rfl rfl rfl rfl ?_
  refine c_PM_days hR.1.1.ok hF (fun e1 => ?_) (fun k9 e1 e2 e3 => ?_) (fun k9 e1 e2 e3 => ?_)
  · refine lkI rfl ?_
    refine wp_aload_n 574 d_Law_law_573 rfl rfl ?_
    refine wp_aload_n 575 d_Law_law_574 rfl rfl ?_
    refine wp_iload_n 576 d_Law_law_575 rfl rfl ?_
    refine wp_iconst 577 1 d_Law_law_576 rfl (by decide) ?_
    refine wp_iadd 578 d_Law_law_577 rfl ?_
    rw [show nI i + 1 = nI (i + 1) from nI_add i 1]
    refine wp_sldN 579 d_Law_law_578 rfl h3 (by omega) ?_
    refine lM_V1 (cb := cb) (sb := sb) 582 M_Mo_days 12 0 0 d_Law_law_579 rfl mv_Mo_days lk_Law_62 rfl rfl rfl rfl rfl rfl rfl rfl ?_
    refine c_Mo_days (KK := tkK X) (s0 := tkS X) (E := E) (t := T) rfl hF (fun k hk => (hX k hk).2) (LR_KK R) hR.1.1 hR.1.2.2.1 hR.2.2.1 (fun c0 => ?_) (fun L9 c1 c2 c23 c3 x9 a2 o2 z1 z2 z3 z4 z5 z6 f1 => ?_) (fun L9 c1 c2 c23 c3 x9 a2 o2 z1 z2 z3 z4 z5 z6 V9 f1 => ?_)
    · refine mkI rfl ?_
      refine wp_icmp_eq 1539 585 d_Law_law_582 rfl (by decide) (fun h582 => ?_) (fun h582 => ?_)
      · refine hn _ _ _ _ _ _ _ _ _ _ _ _ _ _ _ _ _ _ _ _ _ _ _ _ _ _ _ _ _ _ _ _ _ _ _ _ _ _ _ _ _ _ _ _ _ _ _ _ _ _ _ _ _ _ _ _ _ _ _ _ _ _ _ _ ?_
        exact ⟨hR, hv, hY, hF, hco, hX, hfk, hfp, hto, htj, hSO⟩
      · exact absurd (rfl) h582
    · refine mkI rfl ?_
      exact (nI_none3 e1 c1 c2 c23 hF).elim
    · refine mkI rfl ?_
      exact (nI_none3 e1 c1 c2 c23 hF).elim
  · refine lkI rfl ?_
    refine wp_aload_n 574 d_Law_law_573 rfl rfl ?_
    refine wp_aload_n 575 d_Law_law_574 rfl rfl ?_
    refine wp_iload_n 576 d_Law_law_575 rfl rfl ?_
    refine wp_iconst 577 1 d_Law_law_576 rfl (by decide) ?_
    refine wp_iadd 578 d_Law_law_577 rfl ?_
    rw [show nI i + 1 = nI (i + 1) from nI_add i 1]
    refine wp_sldN 579 d_Law_law_578 rfl h3 (by omega) ?_
    refine lM_V1 (cb := cb) (sb := sb) 582 M_Mo_days 12 0 0 d_Law_law_579 rfl mv_Mo_days lk_Law_62 rfl rfl rfl rfl rfl rfl rfl rfl ?_
    refine c_Mo_days (KK := tkK X) (s0 := tkS X) (E := E) (t := T) rfl hF (fun k hk => (hX k hk).2) (LR_KK R) hR.1.1 hR.1.2.2.1 hR.2.2.1 (fun c0 => ?_) (fun L9 c1 c2 c23 c3 x9 a2 o2 z1 z2 z3 z4 z5 z6 f1 => ?_) (fun L9 c1 c2 c23 c3 x9 a2 o2 z1 z2 z3 z4 z5 z6 V9 f1 => ?_)
    · refine mkI rfl ?_
      exact absurd ⟨by rw [e1]; exact (nI_leI (a := 0) (by omega) (by omega)).mpr (by omega), by rw [e1]; exact (nI_leI (by omega) (by omega)).mpr (by omega), by rw [e1]; exact (nI_leI (b := 300) (by omega) (by omega)).mpr (by omega)⟩ c0
    · refine mkI rfl ?_
      obtain rfl : k9 = L9 := nI_ij (e1.symm.trans c1) (by omega) (by omega)
      refine wp_icmp_eq 1539 585 d_Law_law_582 rfl (by decide) (fun h582 => ?_) (fun h582 => ?_)
      · refine hn _ _ _ _ _ _ _ _ _ _ _ _ _ _ _ _ _ _ _ _ _ _ _ _ _ _ _ _ _ _ _ _ _ _ _ _ _ _ _ _ _ _ _ _ _ _ _ _ _ _ _ _ _ _ _ _ _ _ _ _ _ _ _ _ ?_
        exact LR_days9 R e2.1 e3 f1
      · exact absurd (rfl) h582
    · refine mkI rfl ?_
      obtain rfl : k9 = L9 := nI_ij (e1.symm.trans c1) (by omega) (by omega)
      exact absurd c3 e3
  · refine lkI rfl ?_
    refine wp_aload_n 574 d_Law_law_573 rfl rfl ?_
    refine wp_aload_n 575 d_Law_law_574 rfl rfl ?_
    refine wp_iload_n 576 d_Law_law_575 rfl rfl ?_
    refine wp_iconst 577 1 d_Law_law_576 rfl (by decide) ?_
    refine wp_iadd 578 d_Law_law_577 rfl ?_
    rw [show nI i + 1 = nI (i + 1) from nI_add i 1]
    refine wp_sldN 579 d_Law_law_578 rfl h3 (by omega) ?_
    refine lM_V1 (cb := cb) (sb := sb) 582 M_Mo_days 12 0 0 d_Law_law_579 rfl mv_Mo_days lk_Law_62 rfl rfl rfl rfl rfl rfl rfl rfl ?_
    refine c_Mo_days (KK := tkK X) (s0 := tkS X) (E := E) (t := T) rfl hF (fun k hk => (hX k hk).2) (LR_KK R) hR.1.1 hR.1.2.2.1 hR.2.2.1 (fun c0 => ?_) (fun L9 c1 c2 c23 c3 x9 a2 o2 z1 z2 z3 z4 z5 z6 f1 => ?_) (fun L9 c1 c2 c23 c3 x9 a2 o2 z1 z2 z3 z4 z5 z6 V9 f1 => ?_)
    · refine mkI rfl ?_
      exact absurd ⟨by rw [e1]; exact (nI_leI (a := 0) (by omega) (by omega)).mpr (by omega), by rw [e1]; exact (nI_leI (by omega) (by omega)).mpr (by omega), by rw [e1]; exact (nI_leI (b := 300) (by omega) (by omega)).mpr (by omega)⟩ c0
    · refine mkI rfl ?_
      obtain rfl : k9 = L9 := nI_ij (e1.symm.trans c1) (by omega) (by omega)
      exact absurd e3 c3
    · refine mkI rfl ?_
      obtain rfl : k9 = L9 := nI_ij (e1.symm.trans c1) (by omega) (by omega)
      refine wp_icmp_eq 1539 585 d_Law_law_582 rfl (by decide) (fun h582 => ?_) (fun h582 => ?_)
      · refine hn _ _ _ _ _ _ _ _ _ _ _ _ _ _ _ _ _ _ _ _ _ _ _ _ _ _ _ _ _ _ _ _ _ _ _ _ _ _ _ _ _ _ _ _ _ _ _ _ _ _ _ _ _ _ _ _ _ _ _ _ _ _ _ _ ?_
        exact LR_days1 R e2.1 e3 V9 f1
      · exact absurd (rfl) h582
set_option maxRecDepth 100000 in
set_option maxHeartbeats 4000000 in
theorem law_fault (h3 : Γ.2.2.2.1 ≤ 3072) (hi : i + 6 ≤ Γ.2.2.2.1) (hn : LNX Γ cb sb i Q) (R : LR Y X T S M D E N C U W L VL HL nK m_at m_names m_sort m_trayMany m_trays m_tape m_faultKind m_faultPlace m_told1 m_isTold) : WP Γ M_Law_law 20 (cb + 2) (sb + 8) (lawH (hPM Y X T S M D E N C U W G L VL HL nK ST TP BT) (hM m_at m_names (ST) (TP) (BT) m_sort m_trayMany m_trays m_tape m_text ((nI X.nF)) m_size m_token m_from m_end m_value m_faultKind m_faultPlace m_faults m_seen m_areOdds m_opened m_depth m_counted m_eastBy m_northBy m_partBy m_wayFaults m_wayEast m_wayNorth m_olds m_wayMany m_oneOfSet m_twoOfSet m_farBy m_rowBy m_triedBy m_rowMany m_doneAt m_gotAt m_struckAt m_bestDeed m_misBy m_drawn m_ranSteps m_loops m_ran m_told1 m_isTold ((nI nK)))) 587 [some (.ref (XB + 4)), some (.ref 0), some (.ref 124), some (.int (nI i))] [] Q := by
  obtain ⟨hR, hv, hY, hF, hco, hX, hfk, hfp, hto, htj, hSO⟩ := id R
  refine wp_aload_n 588 d_Law_law_587 rfl rfl ?_
  refine wp_aload_n 589 d_Law_law_588 rfl rfl ?_
  refine wp_iload_n 590 d_Law_law_589 rfl rfl ?_
  refine wp_iconst 591 1 d_Law_law_590 rfl (by decide) ?_
  refine wp_iadd 592 d_Law_law_591 rfl ?_
  rw [show nI i + 1 = nI (i + 1) from nI_add i 1]
  refine wp_sldN 593 d_Law_law_592 rfl h3 (by omega) ?_
  refine lP_V1 (cb := cb + 2) (sb := sb + 8) 596 M_PM_fault 1 0 0 d_Law_law_593 rfl mv_PM_fault lk_Law_63 rfl rfl rfl rfl rfl rfl ?_
  refine c_PM_fault ?_
  refine lkI rfl ?_
  refine wp_aload_n 597 d_Law_law_596 rfl rfl ?_
  refine wp_aload_n 598 d_Law_law_597 rfl rfl ?_
  refine wp_iload_n 599 d_Law_law_598 rfl rfl ?_
  refine wp_iconst 600 1 d_Law_law_599 rfl (by decide) ?_
  refine wp_iadd 601 d_Law_law_600 rfl ?_
  rw [show nI i + 1 = nI (i + 1) from nI_add i 1]
  refine wp_sldN 602 d_Law_law_601 rfl h3 (by omega) ?_
  refine lM_V1 (cb := cb + 2) (sb := sb + 8) 605 M_Mo_fault 1 0 0 d_Law_law_602 rfl mv_Mo_fault lk_Law_66 rfl rfl rfl rfl rfl rfl rfl rfl ?_
  refine c_Mo_fault ?_
  refine mkI rfl ?_
  refine wp_icmp_eq 1539 608 d_Law_law_605 rfl (by decide) (fun h605 => ?_) (fun h605 => ?_)
  · refine wp_less (cb := cb) (sb := sb) (a := 2) (b := 8) (hn _ _ _ _ _ _ _ _ _ _ _ _ _ _ _ _ _ _ _ _ _ _ _ _ _ _ _ _ _ _ _ _ _ _ _ _ _ _ _ _ _ _ _ _ _ _ _ _ _ _ _ _ _ _ _ _ _ _ _ _ _ _ _ _ ?_)
    exact ⟨hR, hv, hY, hF, hco, hX, hfk, hfp, hto, htj, hSO⟩
  · exact absurd (by unfold faF; rw [hfk, hfp]) h605
end TB80
