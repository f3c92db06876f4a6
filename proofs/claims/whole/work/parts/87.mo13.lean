/-! ===== the reference: the tape ===== -/
section T87
variable {Γ : Gm} {Q : Option Value → LH → Prop} {m_at m_sort m_trayMany m_tape m_text m_opened m_eastBy m_northBy m_partBy m_wayFaults m_wayEast m_wayNorth m_olds m_farBy m_rowBy m_triedBy m_doneAt m_gotAt m_struckAt m_bestDeed m_loops m_ran m_told1 : Nat → Int32} {m_names m_trays m_misBy : Nat → Int64} {m_status m_taped m_size m_token m_from m_end m_value m_faultKind m_faultPlace m_faults m_seen m_areOdds m_depth m_counted m_wayMany m_oneOfSet m_twoOfSet m_rowMany m_drawn m_ranSteps m_isTold m_marks : Int32} {m_top m_bottom : Int64}
set_option maxRecDepth 100000 in
theorem l_Mo_four_3 {b : Nat → Int32} {n : Nat} {v sh : Int32} (hsh : ¬ sh < 0) (hn : n < 900) (k : WP Γ M_Mo_four 1 0 0 (hM m_at m_names m_status m_top m_bottom m_sort m_trayMany m_trays (upd b n (byt v sh)) m_text (nI (n + 1)) m_size m_token m_from m_end m_value m_faultKind m_faultPlace m_faults m_seen m_areOdds m_opened m_depth m_counted m_eastBy m_northBy m_partBy m_wayFaults m_wayEast m_wayNorth m_olds m_wayMany m_oneOfSet m_twoOfSet m_farBy m_rowBy m_triedBy m_rowMany m_doneAt m_gotAt m_struckAt m_bestDeed m_misBy m_drawn m_ranSteps m_loops m_ran m_told1 m_isTold m_marks) 3 [some (.ref 0), some (.int v), some (.int (sh + (-8)))] [] Q) : WP Γ M_Mo_four 1 0 0 (hM m_at m_names m_status m_top m_bottom m_sort m_trayMany m_trays (b) m_text (nI (n)) m_size m_token m_from m_end m_value m_faultKind m_faultPlace m_faults m_seen m_areOdds m_opened m_depth m_counted m_eastBy m_northBy m_partBy m_wayFaults m_wayEast m_wayNorth m_olds m_wayMany m_oneOfSet m_twoOfSet m_farBy m_rowBy m_triedBy m_rowMany m_doneAt m_gotAt m_struckAt m_bestDeed m_misBy m_drawn m_ranSteps m_loops m_ran m_told1 m_isTold m_marks) 3 [some (.ref 0), some (.int v), some (.int sh)] [] Q := by
  refine wp_iload_n 4 d_Mo_four_3 rfl rfl ?_
  refine wp_if_lt 36 7 d_Mo_four_4 rfl (by decide) (fun h4 => ?_) (fun h4 => ?_)
  · exact absurd h4 hsh
  · refine wp_aload_n 8 d_Mo_four_7 rfl rfl ?_
    refine wp_getfield 11 12 8 d_Mo_four_8 rfl fl_Mo_30 rfl rfl ?_
    refine wp_aload_n 12 d_Mo_four_11 rfl rfl ?_
    refine wp_getfield 15 12 10 d_Mo_four_12 rfl fl_Mo_135 rfl rfl ?_
    refine wp_iload_n 16 d_Mo_four_15 rfl rfl ?_
    refine wp_iload_n 17 d_Mo_four_16 rfl rfl ?_
    refine wp_ishr 18 d_Mo_four_17 rfl ?_
    refine wp_i2b 19 d_Mo_four_18 rfl ?_
    refine wp_bastoreN 20 d_Mo_four_19 rfl rfl rfl (by omega) ?_
    refine hEq (hM m_at m_names m_status m_top m_bottom m_sort m_trayMany m_trays (upd b n (byt v sh)) m_text (nI (n)) m_size m_token m_from m_end m_value m_faultKind m_faultPlace m_faults m_seen m_areOdds m_opened m_depth m_counted m_eastBy m_northBy m_partBy m_wayFaults m_wayEast m_wayNorth m_olds m_wayMany m_oneOfSet m_twoOfSet m_farBy m_rowBy m_triedBy m_rowMany m_doneAt m_gotAt m_struckAt m_bestDeed m_misBy m_drawn m_ranSteps m_loops m_ran m_told1 m_isTold m_marks) (by first | rfl | (rw [show vp_nar .byte (v >>> (sh &&& 31)).toInt8.toInt32 = byt v sh from pk_vb _]; rfl)) ?_
    refine wp_aload_n 21 d_Mo_four_20 rfl rfl ?_
    refine wp_dup 22 d_Mo_four_21 rfl rfl ?_
    refine wp_getfield 25 12 10 d_Mo_four_22 rfl fl_Mo_135 rfl rfl ?_
    refine wp_iconst 26 1 d_Mo_four_25 rfl (by decide) ?_
    refine wp_iadd 27 d_Mo_four_26 rfl ?_
    rw [nI_1]
    refine wp_putfield 30 12 10 _ d_Mo_four_27 rfl fp_Mo_135 rfl rfl (okP_int _) ?_
    refine hEq (hM m_at m_names m_status m_top m_bottom m_sort m_trayMany m_trays (upd b n (byt v sh)) m_text (nI (n + 1)) m_size m_token m_from m_end m_value m_faultKind m_faultPlace m_faults m_seen m_areOdds m_opened m_depth m_counted m_eastBy m_northBy m_partBy m_wayFaults m_wayEast m_wayNorth m_olds m_wayMany m_oneOfSet m_twoOfSet m_farBy m_rowBy m_triedBy m_rowMany m_doneAt m_gotAt m_struckAt m_bestDeed m_misBy m_drawn m_ranSteps m_loops m_ran m_told1 m_isTold m_marks) rfl ?_
    refine wp_iinc_2 33 (-8) d_Mo_four_30 rfl (by decide) rfl rfl ?_
    refine wp_goto 3 d_Mo_four_33 (by decide) ?_
    exact k
set_option maxRecDepth 100000 in
set_option maxHeartbeats 4000000 in
theorem c_Mo_four {b : Nat → Int32} {n : Nat} {v : Int32} (hn : n + 4 ≤ 900) (hq : Q none (hM m_at m_names m_status m_top m_bottom m_sort m_trayMany m_trays (f4 b n v) m_text (nI (n + 4)) m_size m_token m_from m_end m_value m_faultKind m_faultPlace m_faults m_seen m_areOdds m_opened m_depth m_counted m_eastBy m_northBy m_partBy m_wayFaults m_wayEast m_wayNorth m_olds m_wayMany m_oneOfSet m_twoOfSet m_farBy m_rowBy m_triedBy m_rowMany m_doneAt m_gotAt m_struckAt m_bestDeed m_misBy m_drawn m_ranSteps m_loops m_ran m_told1 m_isTold m_marks)) : Call Γ M_Mo_four 1 0 0 [.ref 0, .int v] (hM m_at m_names m_status m_top m_bottom m_sort m_trayMany m_trays (b) m_text (nI (n)) m_size m_token m_from m_end m_value m_faultKind m_faultPlace m_faults m_seen m_areOdds m_opened m_depth m_counted m_eastBy m_northBy m_partBy m_wayFaults m_wayEast m_wayNorth m_olds m_wayMany m_oneOfSet m_twoOfSet m_farBy m_rowBy m_triedBy m_rowMany m_doneAt m_gotAt m_struckAt m_bestDeed m_misBy m_drawn m_ranSteps m_loops m_ran m_told1 m_isTold m_marks) Q := by
  refine call_intro (ls := [some (.ref 0), some (.int v), none]) rfl rfl rfl ?_
  refine wp_bipush 2 24 d_Mo_four_0 rfl (by decide) ?_
  refine wp_istore_2 3 d_Mo_four_2 rfl rfl rfl ?_
  refine l_Mo_four_3 (sh := 24) (by decide) (by omega) ?_
  refine qL2 (show _ = [some (.ref 0), some (.int v), some (.int 16)] from rfl) ?_
  refine l_Mo_four_3 (sh := 16) (by decide) (by omega) ?_
  refine qL2 (show _ = [some (.ref 0), some (.int v), some (.int 8)] from rfl) ?_
  refine l_Mo_four_3 (sh := 8) (by decide) (by omega) ?_
  refine qL2 (show _ = [some (.ref 0), some (.int v), some (.int 0)] from rfl) ?_
  refine l_Mo_four_3 (sh := 0) (by decide) (by omega) ?_
  refine qL2 (show _ = [some (.ref 0), some (.int v), some (.int (-8))] from rfl) ?_
  refine wp_iload_n 4 d_Mo_four_3 rfl rfl ?_
  refine wp_if_lt 36 7 d_Mo_four_4 rfl (by decide) (fun h4 => ?_) (fun h4 => ?_)
  · refine wp_return d_Mo_four_36 rfl ?_
    exact hq
  · exact absurd (by decide) h4

set_option maxRecDepth 100000 in
set_option maxHeartbeats 4000000 in
theorem c_Mo_feed {b : Nat → Int32} {n : Nat} {a c d e f : Int32} (hF : n ≤ 900) (hq1 : n + 20 ≤ 900 → Q (some (.int (nI (n + 4 + 4 + 4 + 4 + 4)))) (hM m_at m_names m_status m_top m_bottom m_sort m_trayMany m_trays ((f4 (f4 (f4 (f4 (f4 b (n) a) (n + 4) c) (n + 4 + 4) d) (n + 4 + 4 + 4) e) (n + 4 + 4 + 4 + 4) f)) m_text (nI (n + 4 + 4 + 4 + 4 + 4)) m_size m_token m_from m_end m_value m_faultKind m_faultPlace m_faults m_seen m_areOdds m_opened m_depth m_counted m_eastBy m_northBy m_partBy m_wayFaults m_wayEast m_wayNorth m_olds m_wayMany m_oneOfSet m_twoOfSet m_farBy m_rowBy m_triedBy m_rowMany m_doneAt m_gotAt m_struckAt m_bestDeed m_misBy m_drawn m_ranSteps m_loops m_ran m_told1 m_isTold m_marks)) (hq0 : ¬ n + 20 ≤ 900 → Q (some (.int (-1))) (hM m_at m_names m_status m_top m_bottom m_sort m_trayMany m_trays (b) m_text (nI (n)) m_size m_token m_from m_end m_value m_faultKind m_faultPlace m_faults m_seen m_areOdds m_opened m_depth m_counted m_eastBy m_northBy m_partBy m_wayFaults m_wayEast m_wayNorth m_olds m_wayMany m_oneOfSet m_twoOfSet m_farBy m_rowBy m_triedBy m_rowMany m_doneAt m_gotAt m_struckAt m_bestDeed m_misBy m_drawn m_ranSteps m_loops m_ran m_told1 m_isTold m_marks)) : Call Γ M_Mo_feed 2 0 0 [.ref 0, .int a, .int c, .int d, .int e, .int f] (hM m_at m_names m_status m_top m_bottom m_sort m_trayMany m_trays (b) m_text (nI (n)) m_size m_token m_from m_end m_value m_faultKind m_faultPlace m_faults m_seen m_areOdds m_opened m_depth m_counted m_eastBy m_northBy m_partBy m_wayFaults m_wayEast m_wayNorth m_olds m_wayMany m_oneOfSet m_twoOfSet m_farBy m_rowBy m_triedBy m_rowMany m_doneAt m_gotAt m_struckAt m_bestDeed m_misBy m_drawn m_ranSteps m_loops m_ran m_told1 m_isTold m_marks) Q := by
  refine call_intro (ls := [some (.ref 0), some (.int a), some (.int c), some (.int d), some (.int e), some (.int f)]) rfl rfl rfl ?_
  refine wp_aload_n 1 d_Mo_feed_0 rfl rfl ?_
  refine wp_getfield 4 12 10 d_Mo_feed_1 rfl fl_Mo_135 rfl rfl ?_
  refine wp_bipush 6 20 d_Mo_feed_4 rfl (by decide) ?_
  refine wp_iadd 7 d_Mo_feed_6 rfl ?_
  refine wp_sipush 10 900 d_Mo_feed_7 rfl (by decide) ?_
  refine wp_icmp_le 15 13 d_Mo_feed_10 rfl (by decide) (fun h10 => ?_) (fun h10 => ?_)
  · have hle := (le20 hF).mp h10
    refine wp_aload_n 16 d_Mo_feed_15 rfl rfl ?_
    refine wp_iload_n 17 d_Mo_feed_16 rfl rfl ?_
    refine wp_V1 20 M_Mo_four 1 d_Mo_feed_17 rfl mv_Mo_four lk_Mo_138 rfl rfl rfl rfl rfl ?_
    refine c_Mo_four (by omega) ?_
    refine kV ?_
    refine wp_aload_n 21 d_Mo_feed_20 rfl rfl ?_
    refine wp_iload_n 22 d_Mo_feed_21 rfl rfl ?_
    refine wp_V1 25 M_Mo_four 1 d_Mo_feed_22 rfl mv_Mo_four lk_Mo_138 rfl rfl rfl rfl rfl ?_
    refine c_Mo_four (by omega) ?_
    refine kV ?_
    refine wp_aload_n 26 d_Mo_feed_25 rfl rfl ?_
    refine wp_iload_n 27 d_Mo_feed_26 rfl rfl ?_
    refine wp_V1 30 M_Mo_four 1 d_Mo_feed_27 rfl mv_Mo_four lk_Mo_138 rfl rfl rfl rfl rfl ?_
    refine c_Mo_four (by omega) ?_
    refine kV ?_
    refine wp_aload_n 31 d_Mo_feed_30 rfl rfl ?_
    refine wp_iload 33 d_Mo_feed_31 rfl rfl ?_
    refine wp_V1 36 M_Mo_four 1 d_Mo_feed_33 rfl mv_Mo_four lk_Mo_138 rfl rfl rfl rfl rfl ?_
    refine c_Mo_four (by omega) ?_
    refine kV ?_
    refine wp_aload_n 37 d_Mo_feed_36 rfl rfl ?_
    refine wp_iload 39 d_Mo_feed_37 rfl rfl ?_
    refine wp_V1 42 M_Mo_four 1 d_Mo_feed_39 rfl mv_Mo_four lk_Mo_138 rfl rfl rfl rfl rfl ?_
    refine c_Mo_four (by omega) ?_
    refine kV ?_
    refine wp_aload_n 43 d_Mo_feed_42 rfl rfl ?_
    refine wp_getfield 46 12 10 d_Mo_feed_43 rfl fl_Mo_135 rfl rfl ?_
    refine wp_ireturn d_Mo_feed_46 rfl ?_
    exact hq1 hle
  · refine wp_iconst 14 (-1) d_Mo_feed_13 rfl (by decide) ?_
    refine wp_ireturn d_Mo_feed_14 rfl ?_
    exact hq0 (fun z => h10 ((le20 hF).mpr z))

end T87
