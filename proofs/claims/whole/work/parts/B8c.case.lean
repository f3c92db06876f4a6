/-! ===== the law, case by case (3) ===== -/
section TB82
variable {Γ : Gm} {Q : Option Value → LH → Prop} {Y : Nat → YT} {X : XT} {T S : TW} {M : Nat → TW} {D E : DW} {N : Nat → DW} {C : CH} {U : UT} {W : WT} {G : GT} {L : LT} {VL : Nat → Int32} {HL ST : Int32} {nK : Nat} {TP BT : Int64} {m_at m_sort m_trayMany m_tape m_text m_opened m_eastBy m_northBy m_partBy m_wayFaults m_wayEast m_wayNorth m_olds m_farBy m_rowBy m_triedBy m_doneAt m_gotAt m_struckAt m_bestDeed m_loops m_ran m_told1 : Nat → Int32} {m_names m_trays m_misBy : Nat → Int64} {m_size m_token m_from m_end m_value m_faultKind m_faultPlace m_faults m_seen m_areOdds m_depth m_counted m_wayMany m_oneOfSet m_twoOfSet m_rowMany m_drawn m_ranSteps m_isTold : Int32} {cb sb i : Nat}
set_option maxRecDepth 100000 in
set_option maxHeartbeats 4000000 in
theorem law_settle (h3 : Γ.2.2.2.1 ≤ 3072) (hi : i + 6 ≤ Γ.2.2.2.1) (hn : LNX Γ cb sb i Q) (R : LR Y X T S M D E N C U W L VL HL nK m_at m_names m_sort m_trayMany m_trays m_tape m_faultKind m_faultPlace m_told1 m_isTold) : WP Γ M_Law_law 20 (cb + 2) (sb + 8) (lawH (hPM Y X T S M D E N C U W G L VL HL nK ST TP BT) (hM m_at m_names (ST) (TP) (BT) m_sort m_trayMany m_trays m_tape m_text ((nI X.nF)) m_size m_token m_from m_end m_value m_faultKind m_faultPlace m_faults m_seen m_areOdds m_opened m_depth m_counted m_eastBy m_northBy m_partBy m_wayFaults m_wayEast m_wayNorth m_olds m_wayMany m_oneOfSet m_twoOfSet m_farBy m_rowBy m_triedBy m_rowMany m_doneAt m_gotAt m_struckAt m_bestDeed m_misBy m_drawn m_ranSteps m_loops m_ran m_told1 m_isTold ((nI nK)))) 983 [some (.ref (XB + 4)), some (.ref 0), some (.ref 124), some (.int (nI i))] [] Q := by
  obtain ⟨hR, hv, hY, hF, hco, hX, hfk, hfp, hto, htj, hSO⟩ := id R
  refine wp_aload_n 984 d_Law_law_983 rfl rfl ?_
  refine lP_V0 (cb := cb + 2) (sb := sb + 8) 987 M_PM_settle 2 0 0 d_Law_law_984 rfl mv_PM_settle lk_Law_112 rfl rfl rfl rfl rfl rfl ?_
  refine c_PM_settle hR.1.1.ok ?_
  refine lkI rfl ?_
  refine wp_aload_n 988 d_Law_law_987 rfl rfl ?_
  refine lM_V0 (cb := cb + 2) (sb := sb + 8) 991 M_Mo_settle 2 0 0 d_Law_law_988 rfl mv_Mo_settle lk_Law_115 rfl rfl rfl rfl rfl rfl rfl ?_
  refine c_Mo_settle hR.1.1 (fun a2 v2 f2 => ?_)
  refine mkI rfl ?_
  refine wp_icmp_eq 1539 994 d_Law_law_991 rfl (by decide) (fun h991 => ?_) (fun h991 => ?_)
  · refine wp_less (cb := cb) (sb := sb) (a := 2) (b := 8) (hn _ _ _ _ _ _ _ _ _ _ _ _ _ _ _ _ _ _ _ _ _ _ _ _ _ _ _ _ _ _ _ _ _ _ _ _ _ _ _ _ _ _ _ _ _ _ _ _ _ _ _ _ _ _ _ _ _ _ _ _ _ _ _ _ ?_)
    exact ⟨REL_go hR (RS_keep hR.1 v2 f2 seF_keep (seF_NS hR.1.2.2.1)) hR.2.1 hR.2.2.1 (fun j j1 j2 => f2 j (Or.inr (by omega))) (fun j j1 j2 => by split; exact vLq_ne (by omega); rfl), hv, hY, hF, hco, hX, hfk, hfp, hto, htj, hSO⟩
  · exact absurd (rfl) h991
set_option maxRecDepth 100000 in
set_option maxHeartbeats 4000000 in
theorem law_go (h3 : Γ.2.2.2.1 ≤ 3072) (hi : i + 6 ≤ Γ.2.2.2.1) (hn : LNX Γ cb sb i Q) (R : LR Y X T S M D E N C U W L VL HL nK m_at m_names m_sort m_trayMany m_trays m_tape m_faultKind m_faultPlace m_told1 m_isTold) : WP Γ M_Law_law 20 (cb + 2) (sb + 8) (lawH (hPM Y X T S M D E N C U W G L VL HL nK ST TP BT) (hM m_at m_names (ST) (TP) (BT) m_sort m_trayMany m_trays m_tape m_text ((nI X.nF)) m_size m_token m_from m_end m_value m_faultKind m_faultPlace m_faults m_seen m_areOdds m_opened m_depth m_counted m_eastBy m_northBy m_partBy m_wayFaults m_wayEast m_wayNorth m_olds m_wayMany m_oneOfSet m_twoOfSet m_farBy m_rowBy m_triedBy m_rowMany m_doneAt m_gotAt m_struckAt m_bestDeed m_misBy m_drawn m_ranSteps m_loops m_ran m_told1 m_isTold ((nI nK)))) 996 [some (.ref (XB + 4)), some (.ref 0), some (.ref 124), some (.int (nI i))] [] Q := by
  obtain ⟨hR, hv, hY, hF, hco, hX, hfk, hfp, hto, htj, hSO⟩ := id R
  refine wp_aload_n 997 d_Law_law_996 rfl rfl ?_
  refine wp_aload_n 998 d_Law_law_997 rfl rfl ?_
  refine wp_iload_n 999 d_Law_law_998 rfl rfl ?_
  refine wp_iconst 1000 1 d_Law_law_999 rfl (by decide) ?_
  refine wp_iadd 1001 d_Law_law_1000 rfl ?_
  rw [show nI i + 1 = nI (i + 1) from nI_add i 1]
  refine wp_sldN 1002 d_Law_law_1001 rfl h3 (by omega) ?_
  refine lP_V1 (cb := cb + 2) (sb := sb + 8) 1005 M_PM_go 4 0 0 d_Law_law_1002 rfl mv_PM_go lk_Law_116 rfl rfl rfl rfl rfl rfl ?_
  refine c_PM_go hR.1.1.ok ?_
  refine lkI rfl ?_
  refine wp_aload_n 1006 d_Law_law_1005 rfl rfl ?_
  refine wp_aload_n 1007 d_Law_law_1006 rfl rfl ?_
  refine wp_iload_n 1008 d_Law_law_1007 rfl rfl ?_
  refine wp_iconst 1009 1 d_Law_law_1008 rfl (by decide) ?_
  refine wp_iadd 1010 d_Law_law_1009 rfl ?_
  rw [show nI i + 1 = nI (i + 1) from nI_add i 1]
  refine wp_sldN 1011 d_Law_law_1010 rfl h3 (by omega) ?_
  refine lM_V1 (cb := cb + 2) (sb := sb + 8) 1014 M_Mo_go 6 0 0 d_Law_law_1011 rfl mv_Mo_go lk_Law_119 rfl rfl rfl rfl rfl rfl rfl rfl ?_
  refine c_Mo_go hR.1.1 (fun a2 v2 f2 => ?_)
  refine mkI rfl ?_
  refine wp_icmp_eq 1539 1017 d_Law_law_1014 rfl (by decide) (fun h1014 => ?_) (fun h1014 => ?_)
  · refine wp_less (cb := cb) (sb := sb) (a := 2) (b := 8) (hn _ _ _ _ _ _ _ _ _ _ _ _ _ _ _ _ _ _ _ _ _ _ _ _ _ _ _ _ _ _ _ _ _ _ _ _ _ _ _ _ _ _ _ _ _ _ _ _ _ _ _ _ _ _ _ _ _ _ _ _ _ _ _ _ ?_)
    exact LR_at R v2 f2 goF_kep hSO
  · exact absurd (rfl) h1014
set_option maxRecDepth 100000 in
set_option maxHeartbeats 4000000 in
theorem law_rule (h3 : Γ.2.2.2.1 ≤ 3072) (hi : i + 6 ≤ Γ.2.2.2.1) (hn : LNX Γ cb sb i Q) (R : LR Y X T S M D E N C U W L VL HL nK m_at m_names m_sort m_trayMany m_trays m_tape m_faultKind m_faultPlace m_told1 m_isTold) : WP Γ M_Law_law 20 (cb + 2) (sb + 8) (lawH (hPM Y X T S M D E N C U W G L VL HL nK ST TP BT) (hM m_at m_names (ST) (TP) (BT) m_sort m_trayMany m_trays m_tape m_text ((nI X.nF)) m_size m_token m_from m_end m_value m_faultKind m_faultPlace m_faults m_seen m_areOdds m_opened m_depth m_counted m_eastBy m_northBy m_partBy m_wayFaults m_wayEast m_wayNorth m_olds m_wayMany m_oneOfSet m_twoOfSet m_farBy m_rowBy m_triedBy m_rowMany m_doneAt m_gotAt m_struckAt m_bestDeed m_misBy m_drawn m_ranSteps m_loops m_ran m_told1 m_isTold ((nI nK)))) 1019 [some (.ref (XB + 4)), some (.ref 0), some (.ref 124), some (.int (nI i))] [] Q := by
  obtain ⟨hR, hv, hY, hF, hco, hX, hfk, hfp, hto, htj, hSO⟩ := id R
  refine wp_aload_n 1020 d_Law_law_1019 rfl rfl ?_
  refine wp_aload_n 1021 d_Law_law_1020 rfl rfl ?_
  refine wp_iload_n 1022 d_Law_law_1021 rfl rfl ?_
  refine wp_iconst 1023 1 d_Law_law_1022 rfl (by decide) ?_
  refine wp_iadd 1024 d_Law_law_1023 rfl ?_
  rw [show nI i + 1 = nI (i + 1) from nI_add i 1]
  refine wp_sldN 1025 d_Law_law_1024 rfl h3 (by omega) ?_
  refine lP_V1 (cb := cb + 2) (sb := sb + 8) 1028 M_PM_rule 2 0 0 d_Law_law_1025 rfl mv_PM_rule lk_Law_120 rfl rfl rfl rfl rfl rfl ?_
  refine c_PM_rule hR.1.1.ok ?_
  refine lkI rfl ?_
  refine wp_aload_n 1029 d_Law_law_1028 rfl rfl ?_
  refine wp_aload_n 1030 d_Law_law_1029 rfl rfl ?_
  refine wp_iload_n 1031 d_Law_law_1030 rfl rfl ?_
  refine wp_iconst 1032 1 d_Law_law_1031 rfl (by decide) ?_
  refine wp_iadd 1033 d_Law_law_1032 rfl ?_
  rw [show nI i + 1 = nI (i + 1) from nI_add i 1]
  refine wp_sldN 1034 d_Law_law_1033 rfl h3 (by omega) ?_
  refine lM_V1 (cb := cb + 2) (sb := sb + 8) 1037 M_Mo_rule 2 0 0 d_Law_law_1034 rfl mv_Mo_rule lk_Law_124 rfl rfl rfl rfl rfl rfl rfl rfl ?_
  refine c_Mo_rule hR.1.1 (fun a2 v2 f2 => ?_)
  refine mkI rfl ?_
  refine wp_icmp_eq 1539 1040 d_Law_law_1037 rfl (by decide) (fun h1037 => ?_) (fun h1037 => ?_)
  · refine wp_less (cb := cb) (sb := sb) (a := 2) (b := 8) (hn _ _ _ _ _ _ _ _ _ _ _ _ _ _ _ _ _ _ _ _ _ _ _ _ _ _ _ _ _ _ _ _ _ _ _ _ _ _ _ _ _ _ _ _ _ _ _ _ _ _ _ _ _ _ _ _ _ _ _ _ _ _ _ _ ?_)
    exact LR_at R v2 f2 ruF_kep hSO
  · exact absurd (rfl) h1037
set_option maxRecDepth 100000 in
set_option maxHeartbeats 4000000 in
theorem law_out (h3 : Γ.2.2.2.1 ≤ 3072) (hi : i + 6 ≤ Γ.2.2.2.1) (hn : LNX Γ cb sb i Q) (R : LR Y X T S M D E N C U W L VL HL nK m_at m_names m_sort m_trayMany m_trays m_tape m_faultKind m_faultPlace m_told1 m_isTold) : WP Γ M_Law_law 20 (cb + 2) (sb + 8) (lawH (hPM Y X T S M D E N C U W G L VL HL nK ST TP BT) (hM m_at m_names (ST) (TP) (BT) m_sort m_trayMany m_trays m_tape m_text ((nI X.nF)) m_size m_token m_from m_end m_value m_faultKind m_faultPlace m_faults m_seen m_areOdds m_opened m_depth m_counted m_eastBy m_northBy m_partBy m_wayFaults m_wayEast m_wayNorth m_olds m_wayMany m_oneOfSet m_twoOfSet m_farBy m_rowBy m_triedBy m_rowMany m_doneAt m_gotAt m_struckAt m_bestDeed m_misBy m_drawn m_ranSteps m_loops m_ran m_told1 m_isTold ((nI nK)))) 1042 [some (.ref (XB + 4)), some (.ref 0), some (.ref 124), some (.int (nI i))] [] Q := by
  obtain ⟨hR, hv, hY, hF, hco, hX, hfk, hfp, hto, htj, hSO⟩ := id R
  refine wp_aload_n 1043 d_Law_law_1042 rfl rfl ?_
  refine lP_V0 (cb := cb + 2) (sb := sb + 8) 1046 M_PM_out 6 0 0 d_Law_law_1043 rfl mv_PM_out lk_Law_125 rfl rfl rfl rfl rfl rfl ?_
  refine c_PM_out hR.1.1.ok hSO (fun C2 U2 W2 G2 L2 so2 => ?_)
  refine lkI rfl ?_
  refine wp_aload_n 1047 d_Law_law_1046 rfl rfl ?_
  refine lM_V0 (cb := cb + 2) (sb := sb + 8) 1050 M_Mo_out 10 0 0 d_Law_law_1047 rfl mv_Mo_out lk_Law_128 rfl rfl rfl rfl rfl rfl rfl ?_
  refine c_Mo_out hR.1.1 (fun s9 => ?_)
  refine mkI rfl ?_
  refine wp_icmp_eq 1539 1053 d_Law_law_1050 rfl (by decide) (fun h1050 => ?_) (fun h1050 => ?_)
  · refine wp_less (cb := cb) (sb := sb) (a := 2) (b := 8) (hn _ _ _ _ _ _ _ _ _ _ _ _ _ _ _ _ _ _ _ _ _ _ _ _ _ _ _ _ _ _ _ _ _ _ _ _ _ _ _ _ _ _ _ _ _ _ _ _ _ _ _ _ _ _ _ _ _ _ _ _ _ _ _ _ ?_)
    exact ⟨hR, hv, hY, hF, hco, hX, hfk, hfp, hto, htj, so2⟩
  · exact absurd (rfl) h1050
set_option maxRecDepth 100000 in
set_option maxHeartbeats 4000000 in
theorem law_outSet (h3 : Γ.2.2.2.1 ≤ 3072) (hi : i + 6 ≤ Γ.2.2.2.1) (hn : LNX Γ cb sb i Q) (R : LR Y X T S M D E N C U W L VL HL nK m_at m_names m_sort m_trayMany m_trays m_tape m_faultKind m_faultPlace m_told1 m_isTold) : WP Γ M_Law_law 20 (cb + 2) (sb + 8) (lawH (hPM Y X T S M D E N C U W G L VL HL nK ST TP BT) (hM m_at m_names (ST) (TP) (BT) m_sort m_trayMany m_trays m_tape m_text ((nI X.nF)) m_size m_token m_from m_end m_value m_faultKind m_faultPlace m_faults m_seen m_areOdds m_opened m_depth m_counted m_eastBy m_northBy m_partBy m_wayFaults m_wayEast m_wayNorth m_olds m_wayMany m_oneOfSet m_twoOfSet m_farBy m_rowBy m_triedBy m_rowMany m_doneAt m_gotAt m_struckAt m_bestDeed m_misBy m_drawn m_ranSteps m_loops m_ran m_told1 m_isTold ((nI nK)))) 1055 [some (.ref (XB + 4)), some (.ref 0), some (.ref 124), some (.int (nI i))] [] Q := by
  obtain ⟨hR, hv, hY, hF, hco, hX, hfk, hfp, hto, htj, hSO⟩ := id R
  refine wp_aload_n 1056 d_Law_law_1055 rfl rfl ?_
  refine lP_V0 (cb := cb + 2) (sb := sb + 8) 1059 M_PM_outSet 6 0 0 d_Law_law_1056 rfl mv_PM_outSet lk_Law_129 rfl rfl rfl rfl rfl rfl ?_
  refine c_PM_outSet hR.1.1.ok hSO (fun C2 U2 W2 G2 L2 so2 => ?_)
  refine lkI rfl ?_
  refine wp_aload_n 1060 d_Law_law_1059 rfl rfl ?_
  refine lM_V0 (cb := cb + 2) (sb := sb + 8) 1063 M_Mo_outSet 10 0 0 d_Law_law_1060 rfl mv_Mo_outSet lk_Law_132 rfl rfl rfl rfl rfl rfl rfl ?_
  refine c_Mo_outSet hR.1.1 (fun s9 => ?_)
  refine mkI rfl ?_
  refine wp_icmp_eq 1539 1066 d_Law_law_1063 rfl (by decide) (fun h1063 => ?_) (fun h1063 => ?_)
  · refine wp_less (cb := cb) (sb := sb) (a := 2) (b := 8) (hn _ _ _ _ _ _ _ _ _ _ _ _ _ _ _ _ _ _ _ _ _ _ _ _ _ _ _ _ _ _ _ _ _ _ _ _ _ _ _ _ _ _ _ _ _ _ _ _ _ _ _ _ _ _ _ _ _ _ _ _ _ _ _ _ ?_)
    exact ⟨hR, hv, hY, hF, hco, hX, hfk, hfp, hto, htj, so2⟩
  · exact absurd (rfl) h1063
set_option maxRecDepth 100000 in
set_option maxHeartbeats 4000000 in
theorem law_fits (h3 : Γ.2.2.2.1 ≤ 3072) (hi : i + 6 ≤ Γ.2.2.2.1) (hn : LNX Γ cb sb i Q) (R : LR Y X T S M D E N C U W L VL HL nK m_at m_names m_sort m_trayMany m_trays m_tape m_faultKind m_faultPlace m_told1 m_isTold) : WP Γ M_Law_law 20 (cb + 2) (sb + 8) (lawH (hPM Y X T S M D E N C U W G L VL HL nK ST TP BT) (hM m_at m_names (ST) (TP) (BT) m_sort m_trayMany m_trays m_tape m_text ((nI X.nF)) m_size m_token m_from m_end m_value m_faultKind m_faultPlace m_faults m_seen m_areOdds m_opened m_depth m_counted m_eastBy m_northBy m_partBy m_wayFaults m_wayEast m_wayNorth m_olds m_wayMany m_oneOfSet m_twoOfSet m_farBy m_rowBy m_triedBy m_rowMany m_doneAt m_gotAt m_struckAt m_bestDeed m_misBy m_drawn m_ranSteps m_loops m_ran m_told1 m_isTold ((nI nK)))) 1068 [some (.ref (XB + 4)), some (.ref 0), some (.ref 124), some (.int (nI i))] [] Q := by
  obtain ⟨hR, hv, hY, hF, hco, hX, hfk, hfp, hto, htj, hSO⟩ := id R
  refine wp_aload_n 1069 d_Law_law_1068 rfl rfl ?_
  refine wp_aload_n 1070 d_Law_law_1069 rfl rfl ?_
  refine wp_iload_n 1071 d_Law_law_1070 rfl rfl ?_
  refine wp_iconst 1072 1 d_Law_law_1071 rfl (by decide) ?_
  refine wp_iadd 1073 d_Law_law_1072 rfl ?_
  rw [show nI i + 1 = nI (i + 1) from nI_add i 1]
  refine wp_sldN 1074 d_Law_law_1073 rfl h3 (by omega) ?_
  refine lP_V1 (cb := cb + 2) (sb := sb + 8) 1077 M_PM_fits 6 0 0 d_Law_law_1074 rfl mv_PM_fits lk_Law_133 rfl rfl rfl rfl rfl rfl ?_
  refine c_PM_fits hR.1.1.ok hSO U rfl (fun C2 U2 W2 G2 L2 so2 => ?_)
  refine lkI rfl ?_
  refine wp_aload_n 1078 d_Law_law_1077 rfl rfl ?_
  refine wp_aload_n 1079 d_Law_law_1078 rfl rfl ?_
  refine wp_iload_n 1080 d_Law_law_1079 rfl rfl ?_
  refine wp_iconst 1081 1 d_Law_law_1080 rfl (by decide) ?_
  refine wp_iadd 1082 d_Law_law_1081 rfl ?_
  rw [show nI i + 1 = nI (i + 1) from nI_add i 1]
  refine wp_sldN 1083 d_Law_law_1082 rfl h3 (by omega) ?_
  refine lM_V1 (cb := cb + 2) (sb := sb + 8) 1086 M_Mo_fits 9 0 0 d_Law_law_1083 rfl mv_Mo_fits lk_Law_136 rfl rfl rfl rfl rfl rfl rfl rfl ?_
  refine c_Mo_fits hR.1.1 U (fun a2 o2 w2 q2 x2 y2 s2 v2 f2 => ?_)
  refine mkI rfl ?_
  refine wp_icmp_eq 1539 1089 d_Law_law_1086 rfl (by decide) (fun h1086 => ?_) (fun h1086 => ?_)
  · refine wp_less (cb := cb) (sb := sb) (a := 2) (b := 8) (hn _ _ _ _ _ _ _ _ _ _ _ _ _ _ _ _ _ _ _ _ _ _ _ _ _ _ _ _ _ _ _ _ _ _ _ _ _ _ _ _ _ _ _ _ _ _ _ _ _ _ _ _ _ _ _ _ _ _ _ _ _ _ _ _ ?_)
    exact LR_at R v2 f2 KEP.rf so2
  · exact absurd (rfl) h1086
set_option maxRecDepth 100000 in
set_option maxHeartbeats 4000000 in
theorem law_firstFault (h3 : Γ.2.2.2.1 ≤ 3072) (hi : i + 6 ≤ Γ.2.2.2.1) (hn : LNX Γ cb sb i Q) (R : LR Y X T S M D E N C U W L VL HL nK m_at m_names m_sort m_trayMany m_trays m_tape m_faultKind m_faultPlace m_told1 m_isTold) : WP Γ M_Law_law 20 (cb + 2) (sb + 8) (lawH (hPM Y X T S M D E N C U W G L VL HL nK ST TP BT) (hM m_at m_names (ST) (TP) (BT) m_sort m_trayMany m_trays m_tape m_text ((nI X.nF)) m_size m_token m_from m_end m_value m_faultKind m_faultPlace m_faults m_seen m_areOdds m_opened m_depth m_counted m_eastBy m_northBy m_partBy m_wayFaults m_wayEast m_wayNorth m_olds m_wayMany m_oneOfSet m_twoOfSet m_farBy m_rowBy m_triedBy m_rowMany m_doneAt m_gotAt m_struckAt m_bestDeed m_misBy m_drawn m_ranSteps m_loops m_ran m_told1 m_isTold ((nI nK)))) 1091 [some (.ref (XB + 4)), some (.ref 0), some (.ref 124), some (.int (nI i))] [] Q := by
  obtain ⟨hR, hv, hY, hF, hco, hX, hfk, hfp, hto, htj, hSO⟩ := id R
  refine wp_aload_n 1092 d_Law_law_1091 rfl rfl ?_
  refine wp_aload_n 1093 d_Law_law_1092 rfl rfl ?_
  refine wp_iload_n 1094 d_Law_law_1093 rfl rfl ?_
  refine wp_iconst 1095 1 d_Law_law_1094 rfl (by decide) ?_
  refine wp_iadd 1096 d_Law_law_1095 rfl ?_
  rw [show nI i + 1 = nI (i + 1) from nI_add i 1]
  refine wp_sldN 1097 d_Law_law_1096 rfl h3 (by omega) ?_
  refine wp_aload_n 1098 d_Law_law_1097 rfl rfl ?_
  refine wp_iload_n 1099 d_Law_law_1098 rfl rfl ?_
  refine wp_iconst 1100 2 d_Law_law_1099 rfl (by decide) ?_
  refine wp_iadd 1101 d_Law_law_1100 rfl ?_
  rw [show nI i + 2 = nI (i + 2) from nI_add i 2]
  refine wp_sldN 1102 d_Law_law_1101 rfl h3 (by omega) ?_
  refine lP_V2 (cb := cb + 2) (sb := sb + 8) 1105 M_PM_firstFault 6 0 0 d_Law_law_1102 rfl mv_PM_firstFault lk_Law_137 rfl rfl rfl rfl rfl rfl ?_
  refine c_PM_firstFault hR.1.1.ok hSO U rfl (fun C2 U2 W2 G2 L2 so2 => ?_)
  refine lkI rfl ?_
  refine wp_aload_n 1106 d_Law_law_1105 rfl rfl ?_
  refine wp_aload_n 1107 d_Law_law_1106 rfl rfl ?_
  refine wp_iload_n 1108 d_Law_law_1107 rfl rfl ?_
  refine wp_iconst 1109 1 d_Law_law_1108 rfl (by decide) ?_
  refine wp_iadd 1110 d_Law_law_1109 rfl ?_
  rw [show nI i + 1 = nI (i + 1) from nI_add i 1]
  refine wp_sldN 1111 d_Law_law_1110 rfl h3 (by omega) ?_
  refine wp_aload_n 1112 d_Law_law_1111 rfl rfl ?_
  refine wp_iload_n 1113 d_Law_law_1112 rfl rfl ?_
  refine wp_iconst 1114 2 d_Law_law_1113 rfl (by decide) ?_
  refine wp_iadd 1115 d_Law_law_1114 rfl ?_
  rw [show nI i + 2 = nI (i + 2) from nI_add i 2]
  refine wp_sldN 1116 d_Law_law_1115 rfl h3 (by omega) ?_
  refine lM_V2 (cb := cb + 2) (sb := sb + 8) 1119 M_Mo_firstFault 9 0 0 d_Law_law_1116 rfl mv_Mo_firstFault lk_Law_140 rfl rfl rfl rfl rfl rfl rfl rfl rfl ?_
  refine c_Mo_firstFault hR.1.1 U (fun a2 o2 w2 q2 x2 y2 s2 v2 f2 => ?_)
  refine mkI rfl ?_
  refine wp_icmp_eq 1539 1122 d_Law_law_1119 rfl (by decide) (fun h1119 => ?_) (fun h1119 => ?_)
  · refine wp_less (cb := cb) (sb := sb) (a := 2) (b := 8) (hn _ _ _ _ _ _ _ _ _ _ _ _ _ _ _ _ _ _ _ _ _ _ _ _ _ _ _ _ _ _ _ _ _ _ _ _ _ _ _ _ _ _ _ _ _ _ _ _ _ _ _ _ _ _ _ _ _ _ _ _ _ _ _ _ ?_)
    exact LR_at R v2 f2 KEP.rf so2
  · exact absurd (rfl) h1119
set_option maxRecDepth 100000 in
set_option maxHeartbeats 4000000 in
theorem law_oddsThat (h3 : Γ.2.2.2.1 ≤ 3072) (hi : i + 6 ≤ Γ.2.2.2.1) (hn : LNX Γ cb sb i Q) (R : LR Y X T S M D E N C U W L VL HL nK m_at m_names m_sort m_trayMany m_trays m_tape m_faultKind m_faultPlace m_told1 m_isTold) : WP Γ M_Law_law 20 (cb + 2) (sb + 8) (lawH (hPM Y X T S M D E N C U W G L VL HL nK ST TP BT) (hM m_at m_names (ST) (TP) (BT) m_sort m_trayMany m_trays m_tape m_text ((nI X.nF)) m_size m_token m_from m_end m_value m_faultKind m_faultPlace m_faults m_seen m_areOdds m_opened m_depth m_counted m_eastBy m_northBy m_partBy m_wayFaults m_wayEast m_wayNorth m_olds m_wayMany m_oneOfSet m_twoOfSet m_farBy m_rowBy m_triedBy m_rowMany m_doneAt m_gotAt m_struckAt m_bestDeed m_misBy m_drawn m_ranSteps m_loops m_ran m_told1 m_isTold ((nI nK)))) 1124 [some (.ref (XB + 4)), some (.ref 0), some (.ref 124), some (.int (nI i))] [] Q := by
  obtain ⟨hR, hv, hY, hF, hco, hX, hfk, hfp, hto, htj, hSO⟩ := id R
  refine wp_aload_n 1125 d_Law_law_1124 rfl rfl ?_
  refine wp_aload_n 1126 d_Law_law_1125 rfl rfl ?_
  refine wp_iload_n 1127 d_Law_law_1126 rfl rfl ?_
  refine wp_iconst 1128 1 d_Law_law_1127 rfl (by decide) ?_
  refine wp_iadd 1129 d_Law_law_1128 rfl ?_
  rw [show nI i + 1 = nI (i + 1) from nI_add i 1]
  refine wp_sldN 1130 d_Law_law_1129 rfl h3 (by omega) ?_
  refine wp_aload_n 1131 d_Law_law_1130 rfl rfl ?_
  refine wp_iload_n 1132 d_Law_law_1131 rfl rfl ?_
  refine wp_iconst 1133 2 d_Law_law_1132 rfl (by decide) ?_
  refine wp_iadd 1134 d_Law_law_1133 rfl ?_
  rw [show nI i + 2 = nI (i + 2) from nI_add i 2]
  refine wp_sldN 1135 d_Law_law_1134 rfl h3 (by omega) ?_
  refine wp_aload_n 1136 d_Law_law_1135 rfl rfl ?_
  refine wp_iload_n 1137 d_Law_law_1136 rfl rfl ?_
  refine wp_iconst 1138 3 d_Law_law_1137 rfl (by decide) ?_
  refine wp_iadd 1139 d_Law_law_1138 rfl ?_
  rw [show nI i + 3 = nI (i + 3) from nI_add i 3]
  refine wp_sldN 1140 d_Law_law_1139 rfl h3 (by omega) ?_
  refine lP_V3 (cb := cb + 2) (sb := sb + 8) 1143 M_PM_oddsThat 6 0 0 d_Law_law_1140 rfl mv_PM_oddsThat lk_Law_141 rfl rfl rfl rfl rfl rfl ?_
  refine c_PM_oddsThat hR.1.1.ok hSO U rfl (fun v9 e1 e2 C2 U2 W2 G2 L2 so2 => ?_) (fun e1 C2 U2 W2 G2 L2 so2 => ?_)
  · refine lkI rfl ?_
    refine wp_aload_n 1144 d_Law_law_1143 rfl rfl ?_
    refine wp_aload_n 1145 d_Law_law_1144 rfl rfl ?_
    refine wp_iload_n 1146 d_Law_law_1145 rfl rfl ?_
    refine wp_iconst 1147 1 d_Law_law_1146 rfl (by decide) ?_
    refine wp_iadd 1148 d_Law_law_1147 rfl ?_
    rw [show nI i + 1 = nI (i + 1) from nI_add i 1]
    refine wp_sldN 1149 d_Law_law_1148 rfl h3 (by omega) ?_
    refine wp_aload_n 1150 d_Law_law_1149 rfl rfl ?_
    refine wp_iload_n 1151 d_Law_law_1150 rfl rfl ?_
    refine wp_iconst 1152 2 d_Law_law_1151 rfl (by decide) ?_
    refine wp_iadd 1153 d_Law_law_1152 rfl ?_
    rw [show nI i + 2 = nI (i + 2) from nI_add i 2]
    refine wp_sldN 1154 d_Law_law_1153 rfl h3 (by omega) ?_
    refine wp_aload_n 1155 d_Law_law_1154 rfl rfl ?_
    refine wp_iload_n 1156 d_Law_law_1155 rfl rfl ?_
    refine wp_iconst 1157 3 d_Law_law_1156 rfl (by decide) ?_
    refine wp_iadd 1158 d_Law_law_1157 rfl ?_
    rw [show nI i + 3 = nI (i + 3) from nI_add i 3]
    refine wp_sldN 1159 d_Law_law_1158 rfl h3 (by omega) ?_
    refine lM_V3 (cb := cb + 2) (sb := sb + 8) 1162 M_Mo_oddsThat 9 0 0 d_Law_law_1159 rfl mv_Mo_oddsThat lk_Law_144 rfl rfl rfl rfl rfl rfl rfl rfl rfl rfl ?_
    refine c_Mo_oddsThat hR.1.1 U (fun w9 e3 e4 a2 o2 w2 q2 x2 y2 s2 v2 f2 => ?_) (fun e3 a2 o2 w2 q2 x2 y2 s2 v2 f2 => ?_)
    · refine mkI rfl ?_
      obtain rfl : v9 = w9 := e1.symm.trans e3
      refine wp_icmp_eq 1539 1165 d_Law_law_1162 rfl (by decide) (fun h1162 => ?_) (fun h1162 => ?_)
      · refine wp_less (cb := cb) (sb := sb) (a := 2) (b := 8) (hn _ _ _ _ _ _ _ _ _ _ _ _ _ _ _ _ _ _ _ _ _ _ _ _ _ _ _ _ _ _ _ _ _ _ _ _ _ _ _ _ _ _ _ _ _ _ _ _ _ _ _ _ _ _ _ _ _ _ _ _ _ _ _ _ ?_)
        exact LR_at R v2 f2 KEP.rf so2
      · exact absurd (rfl) h1162
    · refine mkI rfl ?_
      exact absurd (e1.symm.trans e3) e2
  · refine lkI rfl ?_
    refine wp_aload_n 1144 d_Law_law_1143 rfl rfl ?_
    refine wp_aload_n 1145 d_Law_law_1144 rfl rfl ?_
    refine wp_iload_n 1146 d_Law_law_1145 rfl rfl ?_
    refine wp_iconst 1147 1 d_Law_law_1146 rfl (by decide) ?_
    refine wp_iadd 1148 d_Law_law_1147 rfl ?_
    rw [show nI i + 1 = nI (i + 1) from nI_add i 1]
    refine wp_sldN 1149 d_Law_law_1148 rfl h3 (by omega) ?_
    refine wp_aload_n 1150 d_Law_law_1149 rfl rfl ?_
    refine wp_iload_n 1151 d_Law_law_1150 rfl rfl ?_
    refine wp_iconst 1152 2 d_Law_law_1151 rfl (by decide) ?_
    refine wp_iadd 1153 d_Law_law_1152 rfl ?_
    rw [show nI i + 2 = nI (i + 2) from nI_add i 2]
    refine wp_sldN 1154 d_Law_law_1153 rfl h3 (by omega) ?_
    refine wp_aload_n 1155 d_Law_law_1154 rfl rfl ?_
    refine wp_iload_n 1156 d_Law_law_1155 rfl rfl ?_
    refine wp_iconst 1157 3 d_Law_law_1156 rfl (by decide) ?_
    refine wp_iadd 1158 d_Law_law_1157 rfl ?_
    rw [show nI i + 3 = nI (i + 3) from nI_add i 3]
    refine wp_sldN 1159 d_Law_law_1158 rfl h3 (by omega) ?_
    refine lM_V3 (cb := cb + 2) (sb := sb + 8) 1162 M_Mo_oddsThat 9 0 0 d_Law_law_1159 rfl mv_Mo_oddsThat lk_Law_144 rfl rfl rfl rfl rfl rfl rfl rfl rfl rfl ?_
    refine c_Mo_oddsThat hR.1.1 U (fun w9 e3 e4 a2 o2 w2 q2 x2 y2 s2 v2 f2 => ?_) (fun e3 a2 o2 w2 q2 x2 y2 s2 v2 f2 => ?_)
    · refine mkI rfl ?_
      exact absurd (e3.symm.trans e1) e4
    · refine mkI rfl ?_
      refine wp_icmp_eq 1539 1165 d_Law_law_1162 rfl (by decide) (fun h1162 => ?_) (fun h1162 => ?_)
      · refine wp_less (cb := cb) (sb := sb) (a := 2) (b := 8) (hn _ _ _ _ _ _ _ _ _ _ _ _ _ _ _ _ _ _ _ _ _ _ _ _ _ _ _ _ _ _ _ _ _ _ _ _ _ _ _ _ _ _ _ _ _ _ _ _ _ _ _ _ _ _ _ _ _ _ _ _ _ _ _ _ ?_)
        exact LR_at R v2 f2 KEP.rf so2
      · exact absurd (rfl) h1162
set_option maxRecDepth 100000 in
set_option maxHeartbeats 4000000 in
theorem law_ask (h3 : Γ.2.2.2.1 ≤ 3072) (hi : i + 6 ≤ Γ.2.2.2.1) (hn : LNX Γ cb sb i Q) (R : LR Y X T S M D E N C U W L VL HL nK m_at m_names m_sort m_trayMany m_trays m_tape m_faultKind m_faultPlace m_told1 m_isTold) : WP Γ M_Law_law 20 (cb + 2) (sb + 8) (lawH (hPM Y X T S M D E N C U W G L VL HL nK ST TP BT) (hM m_at m_names (ST) (TP) (BT) m_sort m_trayMany m_trays m_tape m_text ((nI X.nF)) m_size m_token m_from m_end m_value m_faultKind m_faultPlace m_faults m_seen m_areOdds m_opened m_depth m_counted m_eastBy m_northBy m_partBy m_wayFaults m_wayEast m_wayNorth m_olds m_wayMany m_oneOfSet m_twoOfSet m_farBy m_rowBy m_triedBy m_rowMany m_doneAt m_gotAt m_struckAt m_bestDeed m_misBy m_drawn m_ranSteps m_loops m_ran m_told1 m_isTold ((nI nK)))) 1167 [some (.ref (XB + 4)), some (.ref 0), some (.ref 124), some (.int (nI i))] [] Q := by
  obtain ⟨hR, hv, hY, hF, hco, hX, hfk, hfp, hto, htj, hSO⟩ := id R
  refine wp_aload_n 1168 d_Law_law_1167 rfl rfl ?_
  refine wp_aload_n 1169 d_Law_law_1168 rfl rfl ?_
  refine wp_iload_n 1170 d_Law_law_1169 rfl rfl ?_
  refine wp_iconst 1171 1 d_Law_law_1170 rfl (by decide) ?_
  refine wp_iadd 1172 d_Law_law_1171 rfl ?_
  rw [show nI i + 1 = nI (i + 1) from nI_add i 1]
  refine wp_sldN 1173 d_Law_law_1172 rfl h3 (by omega) ?_
  refine wp_aload_n 1174 d_Law_law_1173 rfl rfl ?_
  refine wp_iload_n 1175 d_Law_law_1174 rfl rfl ?_
  refine wp_iconst 1176 2 d_Law_law_1175 rfl (by decide) ?_
  refine wp_iadd 1177 d_Law_law_1176 rfl ?_
  rw [show nI i + 2 = nI (i + 2) from nI_add i 2]
  refine wp_sldN 1178 d_Law_law_1177 rfl h3 (by omega) ?_
  refine lP_V2 (cb := cb + 2) (sb := sb + 8) 1181 M_PM_ask 6 0 0 d_Law_law_1178 rfl mv_PM_ask lk_Law_145 rfl rfl rfl rfl rfl rfl ?_
  refine c_PM_ask hR.1.1.ok hSO U rfl (fun C2 u2 W2 G2 L2 so2 U9 uok9 hu9 => ?_)
  refine lkI rfl ?_
  refine wp_aload_n 1182 d_Law_law_1181 rfl rfl ?_
  refine wp_aload_n 1183 d_Law_law_1182 rfl rfl ?_
  refine wp_iload_n 1184 d_Law_law_1183 rfl rfl ?_
  refine wp_iconst 1185 1 d_Law_law_1184 rfl (by decide) ?_
  refine wp_iadd 1186 d_Law_law_1185 rfl ?_
  rw [show nI i + 1 = nI (i + 1) from nI_add i 1]
  refine wp_sldN 1187 d_Law_law_1186 rfl h3 (by omega) ?_
  refine wp_aload_n 1188 d_Law_law_1187 rfl rfl ?_
  refine wp_iload_n 1189 d_Law_law_1188 rfl rfl ?_
  refine wp_iconst 1190 2 d_Law_law_1189 rfl (by decide) ?_
  refine wp_iadd 1191 d_Law_law_1190 rfl ?_
  rw [show nI i + 2 = nI (i + 2) from nI_add i 2]
  refine wp_sldN 1192 d_Law_law_1191 rfl h3 (by omega) ?_
  refine lM_V2 (cb := cb + 2) (sb := sb + 8) 1195 M_Mo_ask 9 0 0 d_Law_law_1192 rfl mv_Mo_ask lk_Law_148 rfl rfl rfl rfl rfl rfl rfl rfl rfl ?_
  refine c_Mo_ask hR.1.1 U U9 hu9 (fun a2 o2 w2 q2 x2 y2 s2 v2 f2 => ?_)
  refine mkI rfl ?_
  refine wp_icmp_eq 1539 1198 d_Law_law_1195 rfl (by decide) (fun h1195 => ?_) (fun h1195 => ?_)
  · refine wp_less (cb := cb) (sb := sb) (a := 2) (b := 8) (hn _ _ _ _ _ _ _ _ _ _ _ _ _ _ _ _ _ _ _ _ _ _ _ _ _ _ _ _ _ _ _ _ _ _ _ _ _ _ _ _ _ _ _ _ _ _ _ _ _ _ _ _ _ _ _ _ _ _ _ _ _ _ _ _ ?_)
    exact LR_at R v2 f2 KEP.rf so2
  · exact absurd (rfl) h1195
set_option maxRecDepth 100000 in
set_option maxHeartbeats 4000000 in
theorem law_way (h3 : Γ.2.2.2.1 ≤ 3072) (hi : i + 6 ≤ Γ.2.2.2.1) (hn : LNX Γ cb sb i Q) (R : LR Y X T S M D E N C U W L VL HL nK m_at m_names m_sort m_trayMany m_trays m_tape m_faultKind m_faultPlace m_told1 m_isTold) : WP Γ M_Law_law 20 (cb + 2) (sb + 8) (lawH (hPM Y X T S M D E N C U W G L VL HL nK ST TP BT) (hM m_at m_names (ST) (TP) (BT) m_sort m_trayMany m_trays m_tape m_text ((nI X.nF)) m_size m_token m_from m_end m_value m_faultKind m_faultPlace m_faults m_seen m_areOdds m_opened m_depth m_counted m_eastBy m_northBy m_partBy m_wayFaults m_wayEast m_wayNorth m_olds m_wayMany m_oneOfSet m_twoOfSet m_farBy m_rowBy m_triedBy m_rowMany m_doneAt m_gotAt m_struckAt m_bestDeed m_misBy m_drawn m_ranSteps m_loops m_ran m_told1 m_isTold ((nI nK)))) 1200 [some (.ref (XB + 4)), some (.ref 0), some (.ref 124), some (.int (nI i))] [] Q := by
  obtain ⟨hR, hv, hY, hF, hco, hX, hfk, hfp, hto, htj, hSO⟩ := id R
  refine wp_aload_n 1201 d_Law_law_1200 rfl rfl ?_
  refine wp_aload_n 1202 d_Law_law_1201 rfl rfl ?_
  refine wp_iload_n 1203 d_Law_law_1202 rfl rfl ?_
  refine wp_iconst 1204 1 d_Law_law_1203 rfl (by decide) ?_
  refine wp_iadd 1205 d_Law_law_1204 rfl ?_
  rw [show nI i + 1 = nI (i + 1) from nI_add i 1]
  refine wp_sldN 1206 d_Law_law_1205 rfl h3 (by omega) ?_
  refine wp_aload_n 1207 d_Law_law_1206 rfl rfl ?_
  refine wp_iload_n 1208 d_Law_law_1207 rfl rfl ?_
  refine wp_iconst 1209 2 d_Law_law_1208 rfl (by decide) ?_
  refine wp_iadd 1210 d_Law_law_1209 rfl ?_
  rw [show nI i + 2 = nI (i + 2) from nI_add i 2]
  refine wp_sldN 1211 d_Law_law_1210 rfl h3 (by omega) ?_
  refine lP_V2 (cb := cb + 2) (sb := sb + 8) 1214 M_PM_way 16 0 0 d_Law_law_1211 rfl mv_PM_way lk_Law_149 rfl rfl rfl rfl rfl rfl ?_
  refine c_PM_way hR.1.1.ok hSO W rfl (fun C2 U2 W2 G2 L2 so2 => ?_)
  refine lkI rfl ?_
  refine wp_aload_n 1215 d_Law_law_1214 rfl rfl ?_
  refine wp_aload_n 1216 d_Law_law_1215 rfl rfl ?_
  refine wp_iload_n 1217 d_Law_law_1216 rfl rfl ?_
  refine wp_iconst 1218 1 d_Law_law_1217 rfl (by decide) ?_
  refine wp_iadd 1219 d_Law_law_1218 rfl ?_
  rw [show nI i + 1 = nI (i + 1) from nI_add i 1]
  refine wp_sldN 1220 d_Law_law_1219 rfl h3 (by omega) ?_
  refine wp_aload_n 1221 d_Law_law_1220 rfl rfl ?_
  refine wp_iload_n 1222 d_Law_law_1221 rfl rfl ?_
  refine wp_iconst 1223 2 d_Law_law_1222 rfl (by decide) ?_
  refine wp_iadd 1224 d_Law_law_1223 rfl ?_
  rw [show nI i + 2 = nI (i + 2) from nI_add i 2]
  refine wp_sldN 1225 d_Law_law_1224 rfl h3 (by omega) ?_
  refine lM_V2 (cb := cb + 2) (sb := sb + 8) 1228 M_Mo_way 6 0 0 d_Law_law_1225 rfl mv_Mo_way lk_Law_152 rfl rfl rfl rfl rfl rfl rfl rfl rfl ?_
  refine c_Mo_way hR.1.1 W (fun f2 => ?_)
  refine mkI rfl ?_
  refine wp_icmp_eq 1539 1231 d_Law_law_1228 rfl (by decide) (fun h1228 => ?_) (fun h1228 => ?_)
  · refine wp_less (cb := cb) (sb := sb) (a := 2) (b := 8) (hn _ _ _ _ _ _ _ _ _ _ _ _ _ _ _ _ _ _ _ _ _ _ _ _ _ _ _ _ _ _ _ _ _ _ _ _ _ _ _ _ _ _ _ _ _ _ _ _ _ _ _ _ _ _ _ _ _ _ _ _ _ _ _ _ ?_)
    exact ⟨hR, hv, hY, hF, hco, hX, hfk, hfp, hto, htj, so2⟩
  · exact absurd (rfl) h1228
set_option maxRecDepth 100000 in
set_option maxHeartbeats 4000000 in
theorem law_wayAt (h3 : Γ.2.2.2.1 ≤ 3072) (hi : i + 6 ≤ Γ.2.2.2.1) (hn : LNX Γ cb sb i Q) (R : LR Y X T S M D E N C U W L VL HL nK m_at m_names m_sort m_trayMany m_trays m_tape m_faultKind m_faultPlace m_told1 m_isTold) : WP Γ M_Law_law 20 (cb + 2) (sb + 8) (lawH (hPM Y X T S M D E N C U W G L VL HL nK ST TP BT) (hM m_at m_names (ST) (TP) (BT) m_sort m_trayMany m_trays m_tape m_text ((nI X.nF)) m_size m_token m_from m_end m_value m_faultKind m_faultPlace m_faults m_seen m_areOdds m_opened m_depth m_counted m_eastBy m_northBy m_partBy m_wayFaults m_wayEast m_wayNorth m_olds m_wayMany m_oneOfSet m_twoOfSet m_farBy m_rowBy m_triedBy m_rowMany m_doneAt m_gotAt m_struckAt m_bestDeed m_misBy m_drawn m_ranSteps m_loops m_ran m_told1 m_isTold ((nI nK)))) 1233 [some (.ref (XB + 4)), some (.ref 0), some (.ref 124), some (.int (nI i))] [] Q := by
  obtain ⟨hR, hv, hY, hF, hco, hX, hfk, hfp, hto, htj, hSO⟩ := id R
  refine wp_aload_n 1234 d_Law_law_1233 rfl rfl ?_
  refine wp_aload_n 1235 d_Law_law_1234 rfl rfl ?_
  refine wp_iload_n 1236 d_Law_law_1235 rfl rfl ?_
  refine wp_iconst 1237 1 d_Law_law_1236 rfl (by decide) ?_
  refine wp_iadd 1238 d_Law_law_1237 rfl ?_
  rw [show nI i + 1 = nI (i + 1) from nI_add i 1]
  refine wp_sldN 1239 d_Law_law_1238 rfl h3 (by omega) ?_
  refine wp_aload_n 1240 d_Law_law_1239 rfl rfl ?_
  refine wp_iload_n 1241 d_Law_law_1240 rfl rfl ?_
  refine wp_iconst 1242 2 d_Law_law_1241 rfl (by decide) ?_
  refine wp_iadd 1243 d_Law_law_1242 rfl ?_
  rw [show nI i + 2 = nI (i + 2) from nI_add i 2]
  refine wp_sldN 1244 d_Law_law_1243 rfl h3 (by omega) ?_
  refine wp_aload_n 1245 d_Law_law_1244 rfl rfl ?_
  refine wp_iload_n 1246 d_Law_law_1245 rfl rfl ?_
  refine wp_iconst 1247 3 d_Law_law_1246 rfl (by decide) ?_
  refine wp_iadd 1248 d_Law_law_1247 rfl ?_
  rw [show nI i + 3 = nI (i + 3) from nI_add i 3]
  refine wp_sldN 1249 d_Law_law_1248 rfl h3 (by omega) ?_
  refine lP_V3 (cb := cb + 2) (sb := sb + 8) 1252 M_PM_wayAt 16 0 0 d_Law_law_1249 rfl mv_PM_wayAt lk_Law_153 rfl rfl rfl rfl rfl rfl ?_
  refine c_PM_wayAt hR.1.1.ok hSO W rfl (fun C2 U2 W2 G2 L2 so2 => ?_)
  refine lkI rfl ?_
  refine wp_aload_n 1253 d_Law_law_1252 rfl rfl ?_
  refine wp_aload_n 1254 d_Law_law_1253 rfl rfl ?_
  refine wp_iload_n 1255 d_Law_law_1254 rfl rfl ?_
  refine wp_iconst 1256 1 d_Law_law_1255 rfl (by decide) ?_
  refine wp_iadd 1257 d_Law_law_1256 rfl ?_
  rw [show nI i + 1 = nI (i + 1) from nI_add i 1]
  refine wp_sldN 1258 d_Law_law_1257 rfl h3 (by omega) ?_
  refine wp_aload_n 1259 d_Law_law_1258 rfl rfl ?_
  refine wp_iload_n 1260 d_Law_law_1259 rfl rfl ?_
  refine wp_iconst 1261 2 d_Law_law_1260 rfl (by decide) ?_
  refine wp_iadd 1262 d_Law_law_1261 rfl ?_
  rw [show nI i + 2 = nI (i + 2) from nI_add i 2]
  refine wp_sldN 1263 d_Law_law_1262 rfl h3 (by omega) ?_
  refine wp_aload_n 1264 d_Law_law_1263 rfl rfl ?_
  refine wp_iload_n 1265 d_Law_law_1264 rfl rfl ?_
  refine wp_iconst 1266 3 d_Law_law_1265 rfl (by decide) ?_
  refine wp_iadd 1267 d_Law_law_1266 rfl ?_
  rw [show nI i + 3 = nI (i + 3) from nI_add i 3]
  refine wp_sldN 1268 d_Law_law_1267 rfl h3 (by omega) ?_
  refine lM_V3 (cb := cb + 2) (sb := sb + 8) 1271 M_Mo_wayAt 7 0 0 d_Law_law_1268 rfl mv_Mo_wayAt lk_Law_157 rfl rfl rfl rfl rfl rfl rfl rfl rfl rfl ?_
  refine c_Mo_wayAt hR.1.1 W (fun f2 r2 t2 q2 => ?_)
  refine mkI rfl ?_
  refine wp_icmp_eq 1539 1274 d_Law_law_1271 rfl (by decide) (fun h1271 => ?_) (fun h1271 => ?_)
  · refine wp_less (cb := cb) (sb := sb) (a := 2) (b := 8) (hn _ _ _ _ _ _ _ _ _ _ _ _ _ _ _ _ _ _ _ _ _ _ _ _ _ _ _ _ _ _ _ _ _ _ _ _ _ _ _ _ _ _ _ _ _ _ _ _ _ _ _ _ _ _ _ _ _ _ _ _ _ _ _ _ ?_)
    exact ⟨hR, hv, hY, hF, hco, hX, hfk, hfp, hto, htj, so2⟩
  · exact absurd (rfl) h1271
end TB82
