/-! ===== the law: its loop and its beginning ===== -/
/-- the law answers true -/
def Q1 : Option Value → LH → Prop := fun v _ => v = some (.int 1)
theorem law_in {i L : Nat} (hi : i ≤ 3072) (hL : L ≤ 3072) (h : ¬ Int32.ofNat L - 6 < nI i) : i + 6 ≤ L := by
  have h1 := Int32.le_iff_toInt_le.mp (Int32.not_lt.mp h)
  have k6 : (6 : Int32).toInt = 6 := rfl
  have e : (Int32.ofNat L - 6).toInt = L - 6 := by
    rw [Int32.toInt_sub, show (Int32.ofNat L).toInt = L from nI_toInt (by omega), k6]
    apply Int.bmod_eq_of_le <;> omega
  rw [nI_toInt (by omega), e] at h1
  omega
section TB9
variable {Γ : Gm}
set_option maxRecDepth 100000 in
set_option maxHeartbeats 4000000 in
theorem l_law_18 (h3 : Γ.2.2.2.1 ≤ 3072) : ∀ (n j : Nat), j + n = 512 → ∀ (Y : Nat → YT) (X : XT) (T : TW) (S : TW) (M : Nat → TW) (D : DW) (E : DW) (N : Nat → DW) (C : CH) (U : UT) (W : WT) (G : GT) (L : LT) (VL : Nat → Int32) (HL : Int32) (nK : Nat) (ST : Int32) (TP : Int64) (BT : Int64) (m_at : Nat → Int32) (m_names : Nat → Int64) (m_sort : Nat → Int32) (m_trayMany : Nat → Int32) (m_trays : Nat → Int64) (m_tape : Nat → Int32) (m_text : Nat → Int32) (m_size : Int32) (m_token : Int32) (m_from : Int32) (m_end : Int32) (m_value : Int32) (m_faultKind : Int32) (m_faultPlace : Int32) (m_faults : Int32) (m_seen : Int32) (m_areOdds : Int32) (m_opened : Nat → Int32) (m_depth : Int32) (m_counted : Int32) (m_eastBy : Nat → Int32) (m_northBy : Nat → Int32) (m_partBy : Nat → Int32) (m_wayFaults : Nat → Int32) (m_wayEast : Nat → Int32) (m_wayNorth : Nat → Int32) (m_olds : Nat → Int32) (m_wayMany : Int32) (m_oneOfSet : Int32) (m_twoOfSet : Int32) (m_farBy : Nat → Int32) (m_rowBy : Nat → Int32) (m_triedBy : Nat → Int32) (m_rowMany : Int32) (m_doneAt : Nat → Int32) (m_gotAt : Nat → Int32) (m_struckAt : Nat → Int32) (m_bestDeed : Nat → Int32) (m_misBy : Nat → Int64) (m_drawn : Int32) (m_ranSteps : Int32) (m_loops : Nat → Int32) (m_ran : Nat → Int32) (m_told1 : Nat → Int32) (m_isTold : Int32), LR Y X T S M D E N C U W L VL HL nK m_at m_names m_sort m_trayMany m_trays m_tape m_faultKind m_faultPlace m_told1 m_isTold → WP Γ M_Law_law 20 (2 * n) (8 * n) (lawH (hPM Y X T S M D E N C U W G L VL HL nK ST TP BT) (hM m_at m_names (ST) (TP) (BT) m_sort m_trayMany m_trays m_tape m_text ((nI X.nF)) m_size m_token m_from m_end m_value m_faultKind m_faultPlace m_faults m_seen m_areOdds m_opened m_depth m_counted m_eastBy m_northBy m_partBy m_wayFaults m_wayEast m_wayNorth m_olds m_wayMany m_oneOfSet m_twoOfSet m_farBy m_rowBy m_triedBy m_rowMany m_doneAt m_gotAt m_struckAt m_bestDeed m_misBy m_drawn m_ranSteps m_loops m_ran m_told1 m_isTold ((nI nK)))) 18 [some (.ref (XB + 4)), some (.ref 0), some (.ref 124), some (.int (nI (6 * j)))] [] Q1 := by
  intro n
  induction n with
  | zero =>
    intro j hj Y X T S M D E N C U W G L VL HL nK ST TP BT m_at m_names m_sort m_trayMany m_trays m_tape m_text m_size m_token m_from m_end m_value m_faultKind m_faultPlace m_faults m_seen m_areOdds m_opened m_depth m_counted m_eastBy m_northBy m_partBy m_wayFaults m_wayEast m_wayNorth m_olds m_wayMany m_oneOfSet m_twoOfSet m_farBy m_rowBy m_triedBy m_rowMany m_doneAt m_gotAt m_struckAt m_bestDeed m_misBy m_drawn m_ranSteps m_loops m_ran m_told1 m_isTold R
    have hl := law_in (i := 6 * j) (L := Γ.2.2.2.1) (by omega) h3
    refine wp_iload_n 19 d_Law_law_18 rfl rfl ?_
    refine wp_aload_n 20 d_Law_law_19 rfl rfl ?_
    refine wp_slen 21 d_Law_law_20 rfl ?_
    refine wp_bipush 23 6 d_Law_law_21 rfl (by decide) ?_
    refine wp_isub 24 d_Law_law_23 rfl ?_
    refine wp_icmp_gt 1545 27 d_Law_law_24 rfl (by decide) (fun h24 => ?_) (fun h24 => ?_)
    · refine wp_iconst 1546 1 d_Law_law_1545 rfl (by decide) ?_
      refine wp_zreturn d_Law_law_1546 rfl (by first | rfl | exact nbP _) ?_
      exact rfl
    · exact absurd (hl h24) (by omega)
  | succ n ih0 =>
    intro j hj Y X T S M D E N C U W G L VL HL nK ST TP BT m_at m_names m_sort m_trayMany m_trays m_tape m_text m_size m_token m_from m_end m_value m_faultKind m_faultPlace m_faults m_seen m_areOdds m_opened m_depth m_counted m_eastBy m_northBy m_partBy m_wayFaults m_wayEast m_wayNorth m_olds m_wayMany m_oneOfSet m_twoOfSet m_farBy m_rowBy m_triedBy m_rowMany m_doneAt m_gotAt m_struckAt m_bestDeed m_misBy m_drawn m_ranSteps m_loops m_ran m_told1 m_isTold R
    have hl := law_in (i := 6 * j) (L := Γ.2.2.2.1) (by omega) h3
    have hn : LNX Γ (2 * n) (8 * n) (6 * j) Q1 := by
      intro Y X T S M D E N C U W G L VL HL nK ST TP BT m_at m_names m_sort m_trayMany m_trays m_tape m_text m_size m_token m_from m_end m_value m_faultKind m_faultPlace m_faults m_seen m_areOdds m_opened m_depth m_counted m_eastBy m_northBy m_partBy m_wayFaults m_wayEast m_wayNorth m_olds m_wayMany m_oneOfSet m_twoOfSet m_farBy m_rowBy m_triedBy m_rowMany m_doneAt m_gotAt m_struckAt m_bestDeed m_misBy m_drawn m_ranSteps m_loops m_ran m_told1 m_isTold hR
      refine wp_iinc_3 1542 6 d_Law_law_1539 rfl (by decide) rfl rfl ?_
      rw [show nI (6 * j) + 6 = nI (6 * (j + 1)) from by rw [show (6 : Int32) = nI 6 from rfl, nI_add]; exact congrArg nI (by omega)]
      refine wp_goto 18 d_Law_law_1542 (by decide) ?_
      exact ih0 (j + 1) (by omega) _ _ _ _ _ _ _ _ _ _ _ _ _ _ _ _ _ _ _ _ _ _ _ _ _ _ _ _ _ _ _ _ _ _ _ _ _ _ _ _ _ _ _ _ _ _ _ _ _ _ _ _ _ _ _ _ _ _ _ _ _ _ _ _ hR
    show WP Γ M_Law_law 20 (2 * n + 2) (8 * n + 8) (lawH (hPM Y X T S M D E N C U W G L VL HL nK ST TP BT) (hM m_at m_names (ST) (TP) (BT) m_sort m_trayMany m_trays m_tape m_text ((nI X.nF)) m_size m_token m_from m_end m_value m_faultKind m_faultPlace m_faults m_seen m_areOdds m_opened m_depth m_counted m_eastBy m_northBy m_partBy m_wayFaults m_wayEast m_wayNorth m_olds m_wayMany m_oneOfSet m_twoOfSet m_farBy m_rowBy m_triedBy m_rowMany m_doneAt m_gotAt m_struckAt m_bestDeed m_misBy m_drawn m_ranSteps m_loops m_ran m_told1 m_isTold ((nI nK)))) 18 [some (.ref (XB + 4)), some (.ref 0), some (.ref 124), some (.int (nI (6 * j)))] [] Q1
    refine wp_iload_n 19 d_Law_law_18 rfl rfl ?_
    refine wp_aload_n 20 d_Law_law_19 rfl rfl ?_
    refine wp_slen 21 d_Law_law_20 rfl ?_
    refine wp_bipush 23 6 d_Law_law_21 rfl (by decide) ?_
    refine wp_isub 24 d_Law_law_23 rfl ?_
    refine wp_icmp_gt 1545 27 d_Law_law_24 rfl (by decide) (fun h24 => ?_) (fun h24 => ?_)
    · refine wp_iconst 1546 1 d_Law_law_1545 rfl (by decide) ?_
      refine wp_zreturn d_Law_law_1546 rfl (by first | rfl | exact nbP _) ?_
      exact rfl
    · have hi := hl h24
      refine wp_aload_n 28 d_Law_law_27 rfl rfl ?_
      refine wp_iload_n 29 d_Law_law_28 rfl rfl ?_
      refine wp_sldN 30 d_Law_law_29 rfl h3 (by omega) ?_
      refine wp_bipush 32 63 d_Law_law_30 rfl (by decide) ?_
      refine wp_iand 33 d_Law_law_32 rfl ?_
      by_cases h33_0 : (Γ.2.2.2.2 (6 * j) &&& 63) = 0
      · refine wp_tabIn (off := 191) 224 0 d_Law_law_33 h33_0 (by decide) (by decide) (by decide) (by decide) ?_
        exact law_status (i := 6 * j) h3 hi hn R
      by_cases h33_1 : (Γ.2.2.2.2 (6 * j) &&& 63) = 1
      · refine wp_tabIn (off := 204) 237 1 d_Law_law_33 h33_1 (by decide) (by decide) (by decide) (by decide) ?_
        exact law_top (i := 6 * j) h3 hi hn R
      by_cases h33_2 : (Γ.2.2.2.2 (6 * j) &&& 63) = 2
      · refine wp_tabIn (off := 218) 251 2 d_Law_law_33 h33_2 (by decide) (by decide) (by decide) (by decide) ?_
        exact law_bottom (i := 6 * j) h3 hi hn R
      by_cases h33_3 : (Γ.2.2.2.2 (6 * j) &&& 63) = 3
      · refine wp_tabIn (off := 232) 265 3 d_Law_law_33 h33_3 (by decide) (by decide) (by decide) (by decide) ?_
        exact law_tray (i := 6 * j) h3 hi hn R
      by_cases h33_4 : (Γ.2.2.2.2 (6 * j) &&& 63) = 4
      · refine wp_tabIn (off := 275) 308 4 d_Law_law_33 h33_4 (by decide) (by decide) (by decide) (by decide) ?_
        exact law_write (i := 6 * j) h3 hi hn R
      by_cases h33_5 : (Γ.2.2.2.2 (6 * j) &&& 63) = 5
      · refine wp_tabIn (off := 348) 381 5 d_Law_law_33 h33_5 (by decide) (by decide) (by decide) (by decide) ?_
        exact law_read (i := 6 * j) h3 hi hn R
      by_cases h33_6 : (Γ.2.2.2.2 (6 * j) &&& 63) = 6
      · refine wp_tabIn (off := 382) 415 6 d_Law_law_33 h33_6 (by decide) (by decide) (by decide) (by decide) ?_
        exact law_pour (i := 6 * j) h3 hi hn R
      by_cases h33_7 : (Γ.2.2.2.2 (6 * j) &&& 63) = 7
      · refine wp_tabIn (off := 445) 478 7 d_Law_law_33 h33_7 (by decide) (by decide) (by decide) (by decide) ?_
        exact law_feed (i := 6 * j) h3 hi hn R
      by_cases h33_8 : (Γ.2.2.2.2 (6 * j) &&& 63) = 8
      · refine wp_tabIn (off := 508) 541 8 d_Law_law_33 h33_8 (by decide) (by decide) (by decide) (by decide) ?_
        exact law_town (i := 6 * j) h3 hi hn R
      by_cases h33_9 : (Γ.2.2.2.2 (6 * j) &&& 63) = 9
      · refine wp_tabIn (off := 531) 564 9 d_Law_law_33 h33_9 (by decide) (by decide) (by decide) (by decide) ?_
        exact law_days (i := 6 * j) h3 hi hn R
      by_cases h33_10 : (Γ.2.2.2.2 (6 * j) &&& 63) = 10
      · refine wp_tabIn (off := 554) 587 10 d_Law_law_33 h33_10 (by decide) (by decide) (by decide) (by decide) ?_
        exact law_fault (i := 6 * j) h3 hi hn R
      by_cases h33_11 : (Γ.2.2.2.2 (6 * j) &&& 63) = 11
      · refine wp_tabIn (off := 577) 610 11 d_Law_law_33 h33_11 (by decide) (by decide) (by decide) (by decide) ?_
        exact law_told (i := 6 * j) h3 hi hn R
      by_cases h33_12 : (Γ.2.2.2.2 (6 * j) &&& 63) = 12
      · refine wp_tabIn (off := 600) 633 12 d_Law_law_33 h33_12 (by decide) (by decide) (by decide) (by decide) ?_
        exact law_walker (i := 6 * j) h3 hi hn R
      by_cases h33_13 : (Γ.2.2.2.2 (6 * j) &&& 63) = 13
      · refine wp_tabIn (off := 633) 666 13 d_Law_law_33 h33_13 (by decide) (by decide) (by decide) (by decide) ?_
        exact law_leg (i := 6 * j) h3 hi hn R
      by_cases h33_14 : (Γ.2.2.2.2 (6 * j) &&& 63) = 14
      · refine wp_tabIn (off := 666) 699 14 d_Law_law_33 h33_14 (by decide) (by decide) (by decide) (by decide) ?_
        exact law_place (i := 6 * j) h3 hi hn R
      by_cases h33_15 : (Γ.2.2.2.2 (6 * j) &&& 63) = 15
      · refine wp_tabIn (off := 699) 732 15 d_Law_law_33 h33_15 (by decide) (by decide) (by decide) (by decide) ?_
        exact law_apart (i := 6 * j) h3 hi hn R
      by_cases h33_16 : (Γ.2.2.2.2 (6 * j) &&& 63) = 16
      · refine wp_tabIn (off := 732) 765 16 d_Law_law_33 h33_16 (by decide) (by decide) (by decide) (by decide) ?_
        exact law_joined (i := 6 * j) h3 hi hn R
      by_cases h33_17 : (Γ.2.2.2.2 (6 * j) &&& 63) = 17
      · refine wp_tabIn (off := 765) 798 17 d_Law_law_33 h33_17 (by decide) (by decide) (by decide) (by decide) ?_
        exact law_pace (i := 6 * j) h3 hi hn R
      by_cases h33_18 : (Γ.2.2.2.2 (6 * j) &&& 63) = 18
      · refine wp_tabIn (off := 828) 861 18 d_Law_law_33 h33_18 (by decide) (by decide) (by decide) (by decide) ?_
        exact law_tell (i := 6 * j) h3 hi hn R
      by_cases h33_19 : (Γ.2.2.2.2 (6 * j) &&& 63) = 19
      · refine wp_tabIn (off := 871) 904 19 d_Law_law_33 h33_19 (by decide) (by decide) (by decide) (by decide) ?_
        exact law_strike (i := 6 * j) h3 hi hn R
      by_cases h33_20 : (Γ.2.2.2.2 (6 * j) &&& 63) = 20
      · refine wp_tabIn (off := 894) 927 20 d_Law_law_33 h33_20 (by decide) (by decide) (by decide) (by decide) ?_
        exact law_restore (i := 6 * j) h3 hi hn R
      by_cases h33_21 : (Γ.2.2.2.2 (6 * j) &&& 63) = 21
      · refine wp_tabIn (off := 917) 950 21 d_Law_law_33 h33_21 (by decide) (by decide) (by decide) (by decide) ?_
        exact law_believe (i := 6 * j) h3 hi hn R
      by_cases h33_22 : (Γ.2.2.2.2 (6 * j) &&& 63) = 22
      · refine wp_tabIn (off := 950) 983 22 d_Law_law_33 h33_22 (by decide) (by decide) (by decide) (by decide) ?_
        exact law_settle (i := 6 * j) h3 hi hn R
      by_cases h33_23 : (Γ.2.2.2.2 (6 * j) &&& 63) = 23
      · refine wp_tabIn (off := 963) 996 23 d_Law_law_33 h33_23 (by decide) (by decide) (by decide) (by decide) ?_
        exact law_go (i := 6 * j) h3 hi hn R
      by_cases h33_24 : (Γ.2.2.2.2 (6 * j) &&& 63) = 24
      · refine wp_tabIn (off := 986) 1019 24 d_Law_law_33 h33_24 (by decide) (by decide) (by decide) (by decide) ?_
        exact law_rule (i := 6 * j) h3 hi hn R
      by_cases h33_25 : (Γ.2.2.2.2 (6 * j) &&& 63) = 25
      · refine wp_tabIn (off := 1009) 1042 25 d_Law_law_33 h33_25 (by decide) (by decide) (by decide) (by decide) ?_
        exact law_out (i := 6 * j) h3 hi hn R
      by_cases h33_26 : (Γ.2.2.2.2 (6 * j) &&& 63) = 26
      · refine wp_tabIn (off := 1022) 1055 26 d_Law_law_33 h33_26 (by decide) (by decide) (by decide) (by decide) ?_
        exact law_outSet (i := 6 * j) h3 hi hn R
      by_cases h33_27 : (Γ.2.2.2.2 (6 * j) &&& 63) = 27
      · refine wp_tabIn (off := 1035) 1068 27 d_Law_law_33 h33_27 (by decide) (by decide) (by decide) (by decide) ?_
        exact law_fits (i := 6 * j) h3 hi hn R
      by_cases h33_28 : (Γ.2.2.2.2 (6 * j) &&& 63) = 28
      · refine wp_tabIn (off := 1058) 1091 28 d_Law_law_33 h33_28 (by decide) (by decide) (by decide) (by decide) ?_
        exact law_firstFault (i := 6 * j) h3 hi hn R
      by_cases h33_29 : (Γ.2.2.2.2 (6 * j) &&& 63) = 29
      · refine wp_tabIn (off := 1091) 1124 29 d_Law_law_33 h33_29 (by decide) (by decide) (by decide) (by decide) ?_
        exact law_oddsThat (i := 6 * j) h3 hi hn R
      by_cases h33_30 : (Γ.2.2.2.2 (6 * j) &&& 63) = 30
      · refine wp_tabIn (off := 1134) 1167 30 d_Law_law_33 h33_30 (by decide) (by decide) (by decide) (by decide) ?_
        exact law_ask (i := 6 * j) h3 hi hn R
      by_cases h33_31 : (Γ.2.2.2.2 (6 * j) &&& 63) = 31
      · refine wp_tabIn (off := 1167) 1200 31 d_Law_law_33 h33_31 (by decide) (by decide) (by decide) (by decide) ?_
        exact law_way (i := 6 * j) h3 hi hn R
      by_cases h33_32 : (Γ.2.2.2.2 (6 * j) &&& 63) = 32
      · refine wp_tabIn (off := 1200) 1233 32 d_Law_law_33 h33_32 (by decide) (by decide) (by decide) (by decide) ?_
        exact law_wayAt (i := 6 * j) h3 hi hn R
      by_cases h33_33 : (Γ.2.2.2.2 (6 * j) &&& 63) = 33
      · refine wp_tabIn (off := 1243) 1276 33 d_Law_law_33 h33_33 (by decide) (by decide) (by decide) (by decide) ?_
        exact law_area (i := 6 * j) h3 hi hn R
      by_cases h33_34 : (Γ.2.2.2.2 (6 * j) &&& 63) = 34
      · refine wp_tabIn (off := 1276) 1309 34 d_Law_law_33 h33_34 (by decide) (by decide) (by decide) (by decide) ?_
        exact law_game (i := 6 * j) h3 hi hn R
      by_cases h33_35 : (Γ.2.2.2.2 (6 * j) &&& 63) = 35
      · refine wp_tabIn (off := 1299) 1332 35 d_Law_law_33 h33_35 (by decide) (by decide) (by decide) (by decide) ?_
        exact law_moveOf (i := 6 * j) h3 hi hn R
      by_cases h33_36 : (Γ.2.2.2.2 (6 * j) &&& 63) = 36
      · refine wp_tabIn (off := 1322) 1355 36 d_Law_law_33 h33_36 (by decide) (by decide) (by decide) (by decide) ?_
        exact law_misread (i := 6 * j) h3 hi hn R
      by_cases h33_37 : (Γ.2.2.2.2 (6 * j) &&& 63) = 37
      · refine wp_tabIn (off := 1355) 1388 37 d_Law_law_33 h33_37 (by decide) (by decide) (by decide) (by decide) ?_
        exact law_share (i := 6 * j) h3 hi hn R
      by_cases h33_38 : (Γ.2.2.2.2 (6 * j) &&& 63) = 38
      · refine wp_tabIn (off := 1378) 1411 38 d_Law_law_33 h33_38 (by decide) (by decide) (by decide) (by decide) ?_
        exact law_copyPlaces (i := 6 * j) h3 hi hn R
      by_cases h33_39 : (Γ.2.2.2.2 (6 * j) &&& 63) = 39
      · refine wp_tabIn (off := 1401) 1434 39 d_Law_law_33 h33_39 (by decide) (by decide) (by decide) (by decide) ?_
        exact law_live (i := 6 * j) h3 hi hn R
      by_cases h33_40 : (Γ.2.2.2.2 (6 * j) &&& 63) = 40
      · refine wp_tabIn (off := 1424) 1457 40 d_Law_law_33 h33_40 (by decide) (by decide) (by decide) (by decide) ?_
        exact law_lived (i := 6 * j) h3 hi hn R
      by_cases h33_41 : (Γ.2.2.2.2 (6 * j) &&& 63) = 41
      · refine wp_tabIn (off := 1447) 1480 41 d_Law_law_33 h33_41 (by decide) (by decide) (by decide) (by decide) ?_
        exact law_mean (i := 6 * j) h3 hi hn R
      by_cases h33_42 : (Γ.2.2.2.2 (6 * j) &&& 63) = 42
      · refine wp_tabIn (off := 1480) 1513 42 d_Law_law_33 h33_42 (by decide) (by decide) (by decide) (by decide) ?_
        exact law_mark (i := 6 * j) h3 hi hn R
      by_cases h33_43 : (Γ.2.2.2.2 (6 * j) &&& 63) = 43
      · refine wp_tabIn (off := 1493) 1526 43 d_Law_law_33 h33_43 (by decide) (by decide) (by decide) (by decide) ?_
        exact law_undo (i := 6 * j) h3 hi hn R
      refine wp_tabOut 1539 d_Law_law_33 (sw_out44 h33_0 h33_1 h33_2 h33_3 h33_4 h33_5 h33_6 h33_7 h33_8 h33_9 h33_10 h33_11 h33_12 h33_13 h33_14 h33_15 h33_16 h33_17 h33_18 h33_19 h33_20 h33_21 h33_22 h33_23 h33_24 h33_25 h33_26 h33_27 h33_28 h33_29 h33_30 h33_31 h33_32 h33_33 h33_34 h33_35 h33_36 h33_37 h33_38 h33_39 h33_40 h33_41 h33_42 h33_43) (by decide) ?_
      exact wp_less (cb := 2 * n) (sb := 8 * n) (a := 2) (b := 8) (hn _ _ _ _ _ _ _ _ _ _ _ _ _ _ _ _ _ _ _ _ _ _ _ _ _ _ _ _ _ _ _ _ _ _ _ _ _ _ _ _ _ _ _ _ _ _ _ _ _ _ _ _ _ _ _ _ _ _ _ _ _ _ _ _ R)
theorem sgx0 : sgx [0] 1 = fun k => k := by
  funext k
  unfold sgx
  by_cases c : k < [0].length
  · rw [if_pos c]
    have c2 : k < 1 := c
    rw [show k = 0 by omega]
    rfl
  · rw [if_neg c]
    have c2 : ¬ k < 1 := c
    split
    · rfl
    · show 1 + (k - 1) = k
      omega
theorem putX0 {c0 c1 : LC} {t : LH} : putX [0] [c0] (c1 :: t) = c1 :: t := by
  unfold putX
  rw [show [c0].length = 1 from rfl, sgx0]
  show ([c0].set 0 (rC (fun k => k) c1)) ++ t.map (rC fun k => k) = c1 :: t
  rw [rC_id, show (rC fun k => k) = (fun c => c) from funext rC_id, List.map_id']
  rfl
theorem sgxM {k : Nat} (h : k < 27 ∨ XB ≤ k) : sgx [124] 125 k = sM k := by
  rcases h with h | h
  · rw [sM_lt h]
    unfold sgx
    by_cases c : k < [124].length
    · rw [if_pos c]
      have c2 : k < 1 := c
      rw [show k = 0 by omega]
      rfl
    · rw [if_neg c]
      have c2 : ¬ k < 1 := c
      rw [if_neg (by unfold XB; omega)]
      show 125 + (k - 1) = 124 + k
      omega
  · have hx : XB = 1000000 := rfl
    unfold sgx sM sg
    rw [if_neg (show ¬ k < [124].length from by show ¬ k < 1; omega), if_pos h, if_neg (show ¬ k < slM.length from by rw [show slM.length = 27 from rfl]; omega)]
theorem putXM {P t : LH} {c0 c1 : LC} (hP : P.length = 124) (h : (c1 :: t).all (okC 27) = true) : putX [124] (P ++ [c0]) (c1 :: t) = lawH P (c1 :: t) := by
  have e : ∀ c ∈ c1 :: t, rC (sgx [124] 125) c = rC sM c := fun c hc => rC_ok (List.all_eq_true.mp h c hc) (fun k hk => sgxM hk)
  unfold putX lawH
  rw [show (P ++ [c0]).length = 125 by rw [List.length_append, hP]; rfl]
  show ((P ++ [c0]).set 124 (rC (sgx [124] 125) c1)) ++ t.map (rC (sgx [124] 125)) = P ++ (rC sM c1 :: t.map (rC sM))
  rw [List.set_append_right _ _ (by omega), hP, Nat.sub_self, e c1 List.mem_cons_self, List.map_congr_left (fun c hc => e c (List.mem_cons_of_mem _ hc)), List.append_assoc]
  rfl
theorem v00 {n : Nat} (h : 0 < n) (hn : n < 2 ^ 31) : vp_in 0 n := vp_in_nI (n := 0) h hn
theorem t0_ok : tOK t0_ := ⟨Nat.zero_le _, Nat.zero_le _, Nat.zero_le _, fun _ => v00 (by omega) (by omega), fun _ => v00 (by omega) (by omega), fun _ => v00 (by omega) (by omega)⟩
theorem d0_ok : dOK d0_ := ⟨Nat.zero_le _, fun _ => v00 (by omega) (by omega), okP0⟩
theorem co_x0 : x0_.co = co0_ := by
  unfold x0_ co0_ XT.co XT.mk
  dsimp only
set_option maxRecDepth 100000 in
theorem LR_0 {a : Nat → Int32} (h : ∀ j, j < 450 → a j = plC j) : LR (fun _ => y0_) x0_ t0_ t0_ (fun _ => t0_) d0_ d0_ (fun _ => d0_) c0_ u0_ w0_ l0_ (fun _ => 0) 0 0 a (fun _ => 0) (fun _ => 0) (upd (upd (upd (upd (fun _ => 0) 0 (-1)) 1 (-1)) 2 (-1)) 3 (-1)) (fun _ => 0) (fun _ => 0) (-1) (-1) (fun _ => 0) 0 := by
  have V : vT a t0_ := by
    refine ⟨⟨?_, ?_, ?_, ?_, ?_, ?_, ?_⟩, fun k hk => absurd hk (Nat.not_lt_zero _), fun k hk => absurd hk (Nat.not_lt_zero _), t0_ok, fun k hk => absurd hk (Nat.not_lt_zero _), fun k hk => absurd hk (Nat.not_lt_zero _), Or.inl rfl, show inR 2 17 by decide, fun k hk => absurd hk (Nat.not_lt_zero _)⟩
    · rw [h 0 (by omega)]; rfl
    · rw [h 1 (by omega)]; rfl
    · rw [h 2 (by omega)]; rfl
    · rw [h 3 (by omega)]; rfl
    · rw [h 4 (by omega)]; rfl
    · rw [h 5 (by omega)]; rfl
    · rw [h 6 (by omega)]; rfl
  refine ⟨⟨⟨V, SKo_0 rfl, ⟨fun k hk => absurd hk (Nat.not_lt_zero _), fun k hk => absurd hk (Nat.not_lt_zero _)⟩, ⟨by rw [h 7 (by omega)]; rfl, fun z => absurd rfl z⟩, d0_ok⟩, t0_ok, fun _ => v00 (by omega) (by omega), by omega, fun _ => t0_ok, fun _ => d0_ok, fun k hk => absurd hk (Nat.not_lt_zero _)⟩, fun k hk => ?_, fun _ => Nat.zero_le _, Nat.zero_le _, co_x0, fun k hk => absurd hk (Nat.not_lt_zero _), rfl, rfl, rfl, fun _ _ => rfl, ⟨fun _ => v00 (by omega) (by omega), fun _ => v00 (by omega) (by omega), fun _ => v00 (by omega) (by omega), fun _ => v00 (by omega) (by omega)⟩⟩
  refine ⟨rfl, ?_, Nat.zero_le _, fun i hi => absurd hi (Nat.not_lt_zero _)⟩
  match k, hk with
  | 0, _ => rfl
  | 1, _ => rfl
  | 2, _ => rfl
  | 3, _ => rfl
abbrev fsMo : List Value := [.null, .null, .int 0, .long 0, .long 0, .null, .null, .null, .null, .null, .int 0, .int 0, .int 0, .int 0, .int 0, .int 0, .int 0, .int 0, .int 0, .int 0, .int 0, .null, .int 0, .int 0, .null, .null, .null, .null, .null, .null, .null, .int 0, .int 0, .int 0, .null, .null, .null, .int 0, .null, .null, .null, .null, .null, .int 0, .int 0, .null, .null, .null, .int 0, .int 0]
set_option maxRecDepth 100000 in
set_option maxHeartbeats 4000000 in
theorem law_start (h3 : Γ.2.2.2.1 ≤ 3072) : WP Γ M_Law_law 20 (((2 * 512 + 26) + 1) + 123 + 1) (((8 * 512 + 13260) + 50) + 15894 + 19) [] 0 [some (.ref (XB + 4)), none, none, none] [] Q1 := by
  refine wp_new 3 11 19 0 [.null, .null, .null, .null, .null, .null, .null, .null, .null, .null, .null, .null, .null, .null, .int 0, .int 0, .int 0, .long 0, .long 0] d_Law_law_0 rfl nw_Law_7 rfl rfl ?_
  simp only [List.nil_append]
  refine wp_dup 4 d_Law_law_3 rfl rfl ?_
  refine wx0 (b' := 0) 7 M_PM_init 7 123 15894 [0] ([cO 11 [.null, .null, .null, .null, .null, .null, .null, .null, .null, .null, .null, .null, .null, .null, .int 0, .int 0, .int 0, .long 0, .long 0]]) d_Law_law_4 rfl mi_PM_init lk_Law_9 rfl rfl rfl rfl rfl rfl ?_
  refine c_PM_init ?_
  refine kX rfl rfl rfl ?_
  rw [putX0]
  refine hEq (hPM (fun _ => y0_) (x0_) (t0_) (t0_) (fun _ => t0_) (d0_) (d0_) (fun _ => d0_) (c0_) (u0_) (w0_) (g0_) (l0_) (fun _ => 0) (0) (0) (0) (0) (1)) rfl ?_
  refine wp_astore_1 8 d_Law_law_7 rfl rfl rfl ?_
  refine wp_new 11 12 50 124 fsMo d_Law_law_8 rfl nw_Law_10 rfl rfl ?_
  refine wp_dup 12 d_Law_law_11 rfl rfl ?_
  refine wx0 (b' := 0) 15 M_Mo_init 2 26 13260 [124] ([cO 12 fsMo]) d_Law_law_12 rfl mi_Mo_init lk_Law_12 rfl rfl rfl rfl rfl rfl ?_
  refine c_Mo_init (fun a a1 a2 => ?_)
  refine kX rfl rfl rfl ?_
  rw [putXM rfl rfl]
  refine wp_astore_2 16 d_Law_law_15 rfl rfl rfl ?_
  refine wp_iconst 17 0 d_Law_law_16 rfl (by decide) ?_
  refine wp_istore_3 18 d_Law_law_17 rfl rfl rfl ?_
  exact l_law_18 h3 512 0 rfl _ _ _ _ _ _ _ _ _ _ _ _ _ _ _ _ _ _ _ _ _ _ _ _ _ _ _ _ _ _ _ _ _ _ _ _ _ _ _ _ _ _ _ _ _ _ _ _ _ _ _ _ _ _ _ _ _ _ _ _ _ _ _ _ (LR_0 a1)
end TB9
