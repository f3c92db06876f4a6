/-! ===== the law, case by case (2) ===== -/
section TB81
variable {Γ : Gm} {Q : Option Value → LH → Prop} {Y : Nat → YT} {X : XT} {T S : TW} {M : Nat → TW} {D E : DW} {N : Nat → DW} {C : CH} {U : UT} {W : WT} {G : GT} {L : LT} {VL : Nat → Int32} {HL ST : Int32} {nK : Nat} {TP BT : Int64} {m_at m_sort m_trayMany m_tape m_text m_opened m_eastBy m_northBy m_partBy m_wayFaults m_wayEast m_wayNorth m_olds m_farBy m_rowBy m_triedBy m_doneAt m_gotAt m_struckAt m_bestDeed m_loops m_ran m_told1 : Nat → Int32} {m_names m_trays m_misBy : Nat → Int64} {m_size m_token m_from m_end m_value m_faultKind m_faultPlace m_faults m_seen m_areOdds m_depth m_counted m_wayMany m_oneOfSet m_twoOfSet m_rowMany m_drawn m_ranSteps m_isTold : Int32} {cb sb i : Nat}
set_option maxRecDepth 100000 in
set_option maxHeartbeats 4000000 in
theorem law_told (h3 : Γ.2.2.2.1 ≤ 3072) (hi : i + 6 ≤ Γ.2.2.2.1) (hn : LNX Γ cb sb i Q) (R : LR Y X T S M D E N C U W L VL HL nK m_at m_names m_sort m_trayMany m_trays m_tape m_faultKind m_faultPlace m_told1 m_isTold) : WP Γ M_Law_law 20 (cb + 2) (sb + 8) (lawH (hPM Y X T S M D E N C U W G L VL HL nK ST TP BT) (hM m_at m_names (ST) (TP) (BT) m_sort m_trayMany m_trays m_tape m_text ((nI X.nF)) m_size m_token m_from m_end m_value m_faultKind m_faultPlace m_faults m_seen m_areOdds m_opened m_depth m_counted m_eastBy m_northBy m_partBy m_wayFaults m_wayEast m_wayNorth m_olds m_wayMany m_oneOfSet m_twoOfSet m_farBy m_rowBy m_triedBy m_rowMany m_doneAt m_gotAt m_struckAt m_bestDeed m_misBy m_drawn m_ranSteps m_loops m_ran m_told1 m_isTold ((nI nK)))) 610 [some (.ref (XB + 4)), some (.ref 0), some (.ref 124), some (.int (nI i))] [] Q := by
  obtain ⟨hR, hv, hY, hF, hco, hX, hfk, hfp, hto, htj, hSO⟩ := id R
  refine wp_aload_n 611 d_Law_law_610 rfl rfl ?_
  refine wp_aload_n 612 d_Law_law_611 rfl rfl ?_
  refine wp_iload_n 613 d_Law_law_612 rfl rfl ?_
  refine wp_iconst 614 1 d_Law_law_613 rfl (by decide) ?_
  refine wp_iadd 615 d_Law_law_614 rfl ?_
  rw [show nI i + 1 = nI (i + 1) from nI_add i 1]
  refine wp_sldN 616 d_Law_law_615 rfl h3 (by omega) ?_
  refine lP_V1 (cb := cb + 2) (sb := sb + 8) 619 M_PM_told 6 0 0 d_Law_law_616 rfl mv_PM_told lk_Law_67 rfl rfl rfl rfl rfl rfl ?_
  refine c_PM_told hR.1.1.ok hSO (fun C2 U2 W2 G2 L2 so2 => ?_)
  refine lkI rfl ?_
  refine wp_aload_n 620 d_Law_law_619 rfl rfl ?_
  refine wp_aload_n 621 d_Law_law_620 rfl rfl ?_
  refine wp_iload_n 622 d_Law_law_621 rfl rfl ?_
  refine wp_iconst 623 1 d_Law_law_622 rfl (by decide) ?_
  refine wp_iadd 624 d_Law_law_623 rfl ?_
  rw [show nI i + 1 = nI (i + 1) from nI_add i 1]
  refine wp_sldN 625 d_Law_law_624 rfl h3 (by omega) ?_
  refine lM_V1 (cb := cb + 2) (sb := sb + 8) 628 M_Mo_told 9 0 0 d_Law_law_625 rfl mv_Mo_told lk_Law_70 rfl rfl rfl rfl rfl rfl rfl rfl ?_
  refine c_Mo_told hR.1.1 (fun s9 => ?_)
  refine mkI rfl ?_
  refine wp_icmp_eq 1539 631 d_Law_law_628 rfl (by decide) (fun h628 => ?_) (fun h628 => ?_)
  · refine wp_less (cb := cb) (sb := sb) (a := 2) (b := 8) (hn _ _ _ _ _ _ _ _ _ _ _ _ _ _ _ _ _ _ _ _ _ _ _ _ _ _ _ _ _ _ _ _ _ _ _ _ _ _ _ _ _ _ _ _ _ _ _ _ _ _ _ _ _ _ _ _ _ _ _ _ _ _ _ _ ?_)
    exact ⟨hR, hv, hY, hF, hco, hX, hfk, hfp, hto, htj, so2⟩
  · exact absurd (rfl) h628
set_option maxRecDepth 100000 in
set_option maxHeartbeats 4000000 in
theorem law_walker (h3 : Γ.2.2.2.1 ≤ 3072) (hi : i + 6 ≤ Γ.2.2.2.1) (hn : LNX Γ cb sb i Q) (R : LR Y X T S M D E N C U W L VL HL nK m_at m_names m_sort m_trayMany m_trays m_tape m_faultKind m_faultPlace m_told1 m_isTold) : WP Γ M_Law_law 20 (cb + 2) (sb + 8) (lawH (hPM Y X T S M D E N C U W G L VL HL nK ST TP BT) (hM m_at m_names (ST) (TP) (BT) m_sort m_trayMany m_trays m_tape m_text ((nI X.nF)) m_size m_token m_from m_end m_value m_faultKind m_faultPlace m_faults m_seen m_areOdds m_opened m_depth m_counted m_eastBy m_northBy m_partBy m_wayFaults m_wayEast m_wayNorth m_olds m_wayMany m_oneOfSet m_twoOfSet m_farBy m_rowBy m_triedBy m_rowMany m_doneAt m_gotAt m_struckAt m_bestDeed m_misBy m_drawn m_ranSteps m_loops m_ran m_told1 m_isTold ((nI nK)))) 633 [some (.ref (XB + 4)), some (.ref 0), some (.ref 124), some (.int (nI i))] [] Q := by
  obtain ⟨hR, hv, hY, hF, hco, hX, hfk, hfp, hto, htj, hSO⟩ := id R
  refine wp_aload_n 634 d_Law_law_633 rfl rfl ?_
  refine wp_aload_n 635 d_Law_law_634 rfl rfl ?_
  refine wp_iload_n 636 d_Law_law_635 rfl rfl ?_
  refine wp_iconst 637 1 d_Law_law_636 rfl (by decide) ?_
  refine wp_iadd 638 d_Law_law_637 rfl ?_
  rw [show nI i + 1 = nI (i + 1) from nI_add i 1]
  refine wp_sldN 639 d_Law_law_638 rfl h3 (by omega) ?_
  refine wp_aload_n 640 d_Law_law_639 rfl rfl ?_
  refine wp_iload_n 641 d_Law_law_640 rfl rfl ?_
  refine wp_iconst 642 2 d_Law_law_641 rfl (by decide) ?_
  refine wp_iadd 643 d_Law_law_642 rfl ?_
  rw [show nI i + 2 = nI (i + 2) from nI_add i 2]
  refine wp_sldN 644 d_Law_law_643 rfl h3 (by omega) ?_
  refine lP_V2 (cb := cb + 2) (sb := sb + 8) 647 M_PM_walker 4 0 0 d_Law_law_644 rfl mv_PM_walker lk_Law_71 rfl rfl rfl rfl rfl rfl ?_
  refine c_PM_walker hR.1.1.ok hSO (fun C2 U2 W2 G2 L2 so2 => ?_)
  refine lkI rfl ?_
  refine wp_aload_n 648 d_Law_law_647 rfl rfl ?_
  refine wp_aload_n 649 d_Law_law_648 rfl rfl ?_
  refine wp_iload_n 650 d_Law_law_649 rfl rfl ?_
  refine wp_iconst 651 1 d_Law_law_650 rfl (by decide) ?_
  refine wp_iadd 652 d_Law_law_651 rfl ?_
  rw [show nI i + 1 = nI (i + 1) from nI_add i 1]
  refine wp_sldN 653 d_Law_law_652 rfl h3 (by omega) ?_
  refine wp_aload_n 654 d_Law_law_653 rfl rfl ?_
  refine wp_iload_n 655 d_Law_law_654 rfl rfl ?_
  refine wp_iconst 656 2 d_Law_law_655 rfl (by decide) ?_
  refine wp_iadd 657 d_Law_law_656 rfl ?_
  rw [show nI i + 2 = nI (i + 2) from nI_add i 2]
  refine wp_sldN 658 d_Law_law_657 rfl h3 (by omega) ?_
  refine lM_V2 (cb := cb + 2) (sb := sb + 8) 661 M_Mo_walker 4 0 0 d_Law_law_658 rfl mv_Mo_walker lk_Law_75 rfl rfl rfl rfl rfl rfl rfl rfl rfl ?_
  refine c_Mo_walker hR.1.1 (fun s9 => ?_)
  refine mkI rfl ?_
  refine wp_icmp_eq 1539 664 d_Law_law_661 rfl (by decide) (fun h661 => ?_) (fun h661 => ?_)
  · refine wp_less (cb := cb) (sb := sb) (a := 2) (b := 8) (hn _ _ _ _ _ _ _ _ _ _ _ _ _ _ _ _ _ _ _ _ _ _ _ _ _ _ _ _ _ _ _ _ _ _ _ _ _ _ _ _ _ _ _ _ _ _ _ _ _ _ _ _ _ _ _ _ _ _ _ _ _ _ _ _ ?_)
    exact ⟨hR, hv, hY, hF, hco, hX, hfk, hfp, hto, htj, so2⟩
  · exact absurd (rfl) h661
set_option maxRecDepth 100000 in
set_option maxHeartbeats 4000000 in
theorem law_leg (h3 : Γ.2.2.2.1 ≤ 3072) (hi : i + 6 ≤ Γ.2.2.2.1) (hn : LNX Γ cb sb i Q) (R : LR Y X T S M D E N C U W L VL HL nK m_at m_names m_sort m_trayMany m_trays m_tape m_faultKind m_faultPlace m_told1 m_isTold) : WP Γ M_Law_law 20 (cb + 2) (sb + 8) (lawH (hPM Y X T S M D E N C U W G L VL HL nK ST TP BT) (hM m_at m_names (ST) (TP) (BT) m_sort m_trayMany m_trays m_tape m_text ((nI X.nF)) m_size m_token m_from m_end m_value m_faultKind m_faultPlace m_faults m_seen m_areOdds m_opened m_depth m_counted m_eastBy m_northBy m_partBy m_wayFaults m_wayEast m_wayNorth m_olds m_wayMany m_oneOfSet m_twoOfSet m_farBy m_rowBy m_triedBy m_rowMany m_doneAt m_gotAt m_struckAt m_bestDeed m_misBy m_drawn m_ranSteps m_loops m_ran m_told1 m_isTold ((nI nK)))) 666 [some (.ref (XB + 4)), some (.ref 0), some (.ref 124), some (.int (nI i))] [] Q := by
  obtain ⟨hR, hv, hY, hF, hco, hX, hfk, hfp, hto, htj, hSO⟩ := id R
  refine wp_aload_n 667 d_Law_law_666 rfl rfl ?_
  refine wp_aload_n 668 d_Law_law_667 rfl rfl ?_
  refine wp_iload_n 669 d_Law_law_668 rfl rfl ?_
  refine wp_iconst 670 1 d_Law_law_669 rfl (by decide) ?_
  refine wp_iadd 671 d_Law_law_670 rfl ?_
  rw [show nI i + 1 = nI (i + 1) from nI_add i 1]
  refine wp_sldN 672 d_Law_law_671 rfl h3 (by omega) ?_
  refine wp_aload_n 673 d_Law_law_672 rfl rfl ?_
  refine wp_iload_n 674 d_Law_law_673 rfl rfl ?_
  refine wp_iconst 675 2 d_Law_law_674 rfl (by decide) ?_
  refine wp_iadd 676 d_Law_law_675 rfl ?_
  rw [show nI i + 2 = nI (i + 2) from nI_add i 2]
  refine wp_sldN 677 d_Law_law_676 rfl h3 (by omega) ?_
  refine lP_V2 (cb := cb + 2) (sb := sb + 8) 680 M_PM_leg 5 0 0 d_Law_law_677 rfl mv_PM_leg lk_Law_76 rfl rfl rfl rfl rfl rfl ?_
  refine c_PM_leg hR.1.1.ok hSO (fun C2 U2 W2 G2 L2 so2 => ?_)
  refine lkI rfl ?_
  refine wp_aload_n 681 d_Law_law_680 rfl rfl ?_
  refine wp_aload_n 682 d_Law_law_681 rfl rfl ?_
  refine wp_iload_n 683 d_Law_law_682 rfl rfl ?_
  refine wp_iconst 684 1 d_Law_law_683 rfl (by decide) ?_
  refine wp_iadd 685 d_Law_law_684 rfl ?_
  rw [show nI i + 1 = nI (i + 1) from nI_add i 1]
  refine wp_sldN 686 d_Law_law_685 rfl h3 (by omega) ?_
  refine wp_aload_n 687 d_Law_law_686 rfl rfl ?_
  refine wp_iload_n 688 d_Law_law_687 rfl rfl ?_
  refine wp_iconst 689 2 d_Law_law_688 rfl (by decide) ?_
  refine wp_iadd 690 d_Law_law_689 rfl ?_
  rw [show nI i + 2 = nI (i + 2) from nI_add i 2]
  refine wp_sldN 691 d_Law_law_690 rfl h3 (by omega) ?_
  refine lM_V2 (cb := cb + 2) (sb := sb + 8) 694 M_Mo_leg 7 0 0 d_Law_law_691 rfl mv_Mo_leg lk_Law_79 rfl rfl rfl rfl rfl rfl rfl rfl rfl ?_
  refine c_Mo_leg hR.1.1 (fun s9 => ?_)
  refine mkI rfl ?_
  refine wp_icmp_eq 1539 697 d_Law_law_694 rfl (by decide) (fun h694 => ?_) (fun h694 => ?_)
  · refine wp_less (cb := cb) (sb := sb) (a := 2) (b := 8) (hn _ _ _ _ _ _ _ _ _ _ _ _ _ _ _ _ _ _ _ _ _ _ _ _ _ _ _ _ _ _ _ _ _ _ _ _ _ _ _ _ _ _ _ _ _ _ _ _ _ _ _ _ _ _ _ _ _ _ _ _ _ _ _ _ ?_)
    exact ⟨hR, hv, hY, hF, hco, hX, hfk, hfp, hto, htj, so2⟩
  · exact absurd (rfl) h694
set_option maxRecDepth 100000 in
set_option maxHeartbeats 4000000 in
theorem law_place (h3 : Γ.2.2.2.1 ≤ 3072) (hi : i + 6 ≤ Γ.2.2.2.1) (hn : LNX Γ cb sb i Q) (R : LR Y X T S M D E N C U W L VL HL nK m_at m_names m_sort m_trayMany m_trays m_tape m_faultKind m_faultPlace m_told1 m_isTold) : WP Γ M_Law_law 20 (cb + 2) (sb + 8) (lawH (hPM Y X T S M D E N C U W G L VL HL nK ST TP BT) (hM m_at m_names (ST) (TP) (BT) m_sort m_trayMany m_trays m_tape m_text ((nI X.nF)) m_size m_token m_from m_end m_value m_faultKind m_faultPlace m_faults m_seen m_areOdds m_opened m_depth m_counted m_eastBy m_northBy m_partBy m_wayFaults m_wayEast m_wayNorth m_olds m_wayMany m_oneOfSet m_twoOfSet m_farBy m_rowBy m_triedBy m_rowMany m_doneAt m_gotAt m_struckAt m_bestDeed m_misBy m_drawn m_ranSteps m_loops m_ran m_told1 m_isTold ((nI nK)))) 699 [some (.ref (XB + 4)), some (.ref 0), some (.ref 124), some (.int (nI i))] [] Q := by
  obtain ⟨hR, hv, hY, hF, hco, hX, hfk, hfp, hto, htj, hSO⟩ := id R
  refine wp_aload_n 700 d_Law_law_699 rfl rfl ?_
  refine wp_aload_n 701 d_Law_law_700 rfl rfl ?_
  refine wp_iload_n 702 d_Law_law_701 rfl rfl ?_
  refine wp_iconst 703 1 d_Law_law_702 rfl (by decide) ?_
  refine wp_iadd 704 d_Law_law_703 rfl ?_
  rw [show nI i + 1 = nI (i + 1) from nI_add i 1]
  refine wp_sldN 705 d_Law_law_704 rfl h3 (by omega) ?_
  refine wp_aload_n 706 d_Law_law_705 rfl rfl ?_
  refine wp_iload_n 707 d_Law_law_706 rfl rfl ?_
  refine wp_iconst 708 2 d_Law_law_707 rfl (by decide) ?_
  refine wp_iadd 709 d_Law_law_708 rfl ?_
  rw [show nI i + 2 = nI (i + 2) from nI_add i 2]
  refine wp_sldN 710 d_Law_law_709 rfl h3 (by omega) ?_
  refine lP_V2 (cb := cb + 2) (sb := sb + 8) 713 M_PM_place 5 0 0 d_Law_law_710 rfl mv_PM_place lk_Law_80 rfl rfl rfl rfl rfl rfl ?_
  refine c_PM_place hR.1.1.ok hSO (fun C2 U2 W2 G2 L2 so2 => ?_)
  refine lkI rfl ?_
  refine wp_aload_n 714 d_Law_law_713 rfl rfl ?_
  refine wp_aload_n 715 d_Law_law_714 rfl rfl ?_
  refine wp_iload_n 716 d_Law_law_715 rfl rfl ?_
  refine wp_iconst 717 1 d_Law_law_716 rfl (by decide) ?_
  refine wp_iadd 718 d_Law_law_717 rfl ?_
  rw [show nI i + 1 = nI (i + 1) from nI_add i 1]
  refine wp_sldN 719 d_Law_law_718 rfl h3 (by omega) ?_
  refine wp_aload_n 720 d_Law_law_719 rfl rfl ?_
  refine wp_iload_n 721 d_Law_law_720 rfl rfl ?_
  refine wp_iconst 722 2 d_Law_law_721 rfl (by decide) ?_
  refine wp_iadd 723 d_Law_law_722 rfl ?_
  rw [show nI i + 2 = nI (i + 2) from nI_add i 2]
  refine wp_sldN 724 d_Law_law_723 rfl h3 (by omega) ?_
  refine lM_V2 (cb := cb + 2) (sb := sb + 8) 727 M_Mo_place 7 0 0 d_Law_law_724 rfl mv_Mo_place lk_Law_83 rfl rfl rfl rfl rfl rfl rfl rfl rfl ?_
  refine c_Mo_place hR.1.1 (fun s9 => ?_)
  refine mkI rfl ?_
  refine wp_icmp_eq 1539 730 d_Law_law_727 rfl (by decide) (fun h727 => ?_) (fun h727 => ?_)
  · refine wp_less (cb := cb) (sb := sb) (a := 2) (b := 8) (hn _ _ _ _ _ _ _ _ _ _ _ _ _ _ _ _ _ _ _ _ _ _ _ _ _ _ _ _ _ _ _ _ _ _ _ _ _ _ _ _ _ _ _ _ _ _ _ _ _ _ _ _ _ _ _ _ _ _ _ _ _ _ _ _ ?_)
    exact ⟨hR, hv, hY, hF, hco, hX, hfk, hfp, hto, htj, so2⟩
  · exact absurd (rfl) h727
set_option maxRecDepth 100000 in
set_option maxHeartbeats 4000000 in
theorem law_apart (h3 : Γ.2.2.2.1 ≤ 3072) (hi : i + 6 ≤ Γ.2.2.2.1) (hn : LNX Γ cb sb i Q) (R : LR Y X T S M D E N C U W L VL HL nK m_at m_names m_sort m_trayMany m_trays m_tape m_faultKind m_faultPlace m_told1 m_isTold) : WP Γ M_Law_law 20 (cb + 2) (sb + 8) (lawH (hPM Y X T S M D E N C U W G L VL HL nK ST TP BT) (hM m_at m_names (ST) (TP) (BT) m_sort m_trayMany m_trays m_tape m_text ((nI X.nF)) m_size m_token m_from m_end m_value m_faultKind m_faultPlace m_faults m_seen m_areOdds m_opened m_depth m_counted m_eastBy m_northBy m_partBy m_wayFaults m_wayEast m_wayNorth m_olds m_wayMany m_oneOfSet m_twoOfSet m_farBy m_rowBy m_triedBy m_rowMany m_doneAt m_gotAt m_struckAt m_bestDeed m_misBy m_drawn m_ranSteps m_loops m_ran m_told1 m_isTold ((nI nK)))) 732 [some (.ref (XB + 4)), some (.ref 0), some (.ref 124), some (.int (nI i))] [] Q := by
  obtain ⟨hR, hv, hY, hF, hco, hX, hfk, hfp, hto, htj, hSO⟩ := id R
  refine wp_aload_n 733 d_Law_law_732 rfl rfl ?_
  refine wp_aload_n 734 d_Law_law_733 rfl rfl ?_
  refine wp_iload_n 735 d_Law_law_734 rfl rfl ?_
  refine wp_iconst 736 1 d_Law_law_735 rfl (by decide) ?_
  refine wp_iadd 737 d_Law_law_736 rfl ?_
  rw [show nI i + 1 = nI (i + 1) from nI_add i 1]
  refine wp_sldN 738 d_Law_law_737 rfl h3 (by omega) ?_
  refine wp_aload_n 739 d_Law_law_738 rfl rfl ?_
  refine wp_iload_n 740 d_Law_law_739 rfl rfl ?_
  refine wp_iconst 741 2 d_Law_law_740 rfl (by decide) ?_
  refine wp_iadd 742 d_Law_law_741 rfl ?_
  rw [show nI i + 2 = nI (i + 2) from nI_add i 2]
  refine wp_sldN 743 d_Law_law_742 rfl h3 (by omega) ?_
  refine lP_V2 (cb := cb + 2) (sb := sb + 8) 746 M_PM_apart 5 0 0 d_Law_law_743 rfl mv_PM_apart lk_Law_84 rfl rfl rfl rfl rfl rfl ?_
  refine c_PM_apart hR.1.1.ok hSO (fun C2 U2 W2 G2 L2 so2 => ?_)
  refine lkI rfl ?_
  refine wp_aload_n 747 d_Law_law_746 rfl rfl ?_
  refine wp_aload_n 748 d_Law_law_747 rfl rfl ?_
  refine wp_iload_n 749 d_Law_law_748 rfl rfl ?_
  refine wp_iconst 750 1 d_Law_law_749 rfl (by decide) ?_
  refine wp_iadd 751 d_Law_law_750 rfl ?_
  rw [show nI i + 1 = nI (i + 1) from nI_add i 1]
  refine wp_sldN 752 d_Law_law_751 rfl h3 (by omega) ?_
  refine wp_aload_n 753 d_Law_law_752 rfl rfl ?_
  refine wp_iload_n 754 d_Law_law_753 rfl rfl ?_
  refine wp_iconst 755 2 d_Law_law_754 rfl (by decide) ?_
  refine wp_iadd 756 d_Law_law_755 rfl ?_
  rw [show nI i + 2 = nI (i + 2) from nI_add i 2]
  refine wp_sldN 757 d_Law_law_756 rfl h3 (by omega) ?_
  refine lM_V2 (cb := cb + 2) (sb := sb + 8) 760 M_Mo_apart 7 0 0 d_Law_law_757 rfl mv_Mo_apart lk_Law_87 rfl rfl rfl rfl rfl rfl rfl rfl rfl ?_
  refine c_Mo_apart hR.1.1 (fun s9 => ?_)
  refine mkI rfl ?_
  refine wp_icmp_eq 1539 763 d_Law_law_760 rfl (by decide) (fun h760 => ?_) (fun h760 => ?_)
  · refine wp_less (cb := cb) (sb := sb) (a := 2) (b := 8) (hn _ _ _ _ _ _ _ _ _ _ _ _ _ _ _ _ _ _ _ _ _ _ _ _ _ _ _ _ _ _ _ _ _ _ _ _ _ _ _ _ _ _ _ _ _ _ _ _ _ _ _ _ _ _ _ _ _ _ _ _ _ _ _ _ ?_)
    exact ⟨hR, hv, hY, hF, hco, hX, hfk, hfp, hto, htj, so2⟩
  · exact absurd (rfl) h760
set_option maxRecDepth 100000 in
set_option maxHeartbeats 4000000 in
theorem law_joined (h3 : Γ.2.2.2.1 ≤ 3072) (hi : i + 6 ≤ Γ.2.2.2.1) (hn : LNX Γ cb sb i Q) (R : LR Y X T S M D E N C U W L VL HL nK m_at m_names m_sort m_trayMany m_trays m_tape m_faultKind m_faultPlace m_told1 m_isTold) : WP Γ M_Law_law 20 (cb + 2) (sb + 8) (lawH (hPM Y X T S M D E N C U W G L VL HL nK ST TP BT) (hM m_at m_names (ST) (TP) (BT) m_sort m_trayMany m_trays m_tape m_text ((nI X.nF)) m_size m_token m_from m_end m_value m_faultKind m_faultPlace m_faults m_seen m_areOdds m_opened m_depth m_counted m_eastBy m_northBy m_partBy m_wayFaults m_wayEast m_wayNorth m_olds m_wayMany m_oneOfSet m_twoOfSet m_farBy m_rowBy m_triedBy m_rowMany m_doneAt m_gotAt m_struckAt m_bestDeed m_misBy m_drawn m_ranSteps m_loops m_ran m_told1 m_isTold ((nI nK)))) 765 [some (.ref (XB + 4)), some (.ref 0), some (.ref 124), some (.int (nI i))] [] Q := by
  obtain ⟨hR, hv, hY, hF, hco, hX, hfk, hfp, hto, htj, hSO⟩ := id R
  refine wp_aload_n 766 d_Law_law_765 rfl rfl ?_
  refine wp_aload_n 767 d_Law_law_766 rfl rfl ?_
  refine wp_iload_n 768 d_Law_law_767 rfl rfl ?_
  refine wp_iconst 769 1 d_Law_law_768 rfl (by decide) ?_
  refine wp_iadd 770 d_Law_law_769 rfl ?_
  rw [show nI i + 1 = nI (i + 1) from nI_add i 1]
  refine wp_sldN 771 d_Law_law_770 rfl h3 (by omega) ?_
  refine wp_aload_n 772 d_Law_law_771 rfl rfl ?_
  refine wp_iload_n 773 d_Law_law_772 rfl rfl ?_
  refine wp_iconst 774 2 d_Law_law_773 rfl (by decide) ?_
  refine wp_iadd 775 d_Law_law_774 rfl ?_
  rw [show nI i + 2 = nI (i + 2) from nI_add i 2]
  refine wp_sldN 776 d_Law_law_775 rfl h3 (by omega) ?_
  refine lP_V2 (cb := cb + 2) (sb := sb + 8) 779 M_PM_joined 4 0 0 d_Law_law_776 rfl mv_PM_joined lk_Law_88 rfl rfl rfl rfl rfl rfl ?_
  refine c_PM_joined hR.1.1.ok hSO (fun C2 U2 W2 G2 L2 so2 => ?_)
  refine lkI rfl ?_
  refine wp_aload_n 780 d_Law_law_779 rfl rfl ?_
  refine wp_aload_n 781 d_Law_law_780 rfl rfl ?_
  refine wp_iload_n 782 d_Law_law_781 rfl rfl ?_
  refine wp_iconst 783 1 d_Law_law_782 rfl (by decide) ?_
  refine wp_iadd 784 d_Law_law_783 rfl ?_
  rw [show nI i + 1 = nI (i + 1) from nI_add i 1]
  refine wp_sldN 785 d_Law_law_784 rfl h3 (by omega) ?_
  refine wp_aload_n 786 d_Law_law_785 rfl rfl ?_
  refine wp_iload_n 787 d_Law_law_786 rfl rfl ?_
  refine wp_iconst 788 2 d_Law_law_787 rfl (by decide) ?_
  refine wp_iadd 789 d_Law_law_788 rfl ?_
  rw [show nI i + 2 = nI (i + 2) from nI_add i 2]
  refine wp_sldN 790 d_Law_law_789 rfl h3 (by omega) ?_
  refine lM_V2 (cb := cb + 2) (sb := sb + 8) 793 M_Mo_joined 7 0 0 d_Law_law_790 rfl mv_Mo_joined lk_Law_91 rfl rfl rfl rfl rfl rfl rfl rfl rfl ?_
  refine c_Mo_joined hR.1.1 (fun s9 => ?_)
  refine mkI rfl ?_
  refine wp_icmp_eq 1539 796 d_Law_law_793 rfl (by decide) (fun h793 => ?_) (fun h793 => ?_)
  · refine wp_less (cb := cb) (sb := sb) (a := 2) (b := 8) (hn _ _ _ _ _ _ _ _ _ _ _ _ _ _ _ _ _ _ _ _ _ _ _ _ _ _ _ _ _ _ _ _ _ _ _ _ _ _ _ _ _ _ _ _ _ _ _ _ _ _ _ _ _ _ _ _ _ _ _ _ _ _ _ _ ?_)
    exact ⟨hR, hv, hY, hF, hco, hX, hfk, hfp, hto, htj, so2⟩
  · exact absurd (rfl) h793
set_option maxRecDepth 100000 in
set_option maxHeartbeats 4000000 in
theorem law_pace (h3 : Γ.2.2.2.1 ≤ 3072) (hi : i + 6 ≤ Γ.2.2.2.1) (hn : LNX Γ cb sb i Q) (R : LR Y X T S M D E N C U W L VL HL nK m_at m_names m_sort m_trayMany m_trays m_tape m_faultKind m_faultPlace m_told1 m_isTold) : WP Γ M_Law_law 20 (cb + 2) (sb + 8) (lawH (hPM Y X T S M D E N C U W G L VL HL nK ST TP BT) (hM m_at m_names (ST) (TP) (BT) m_sort m_trayMany m_trays m_tape m_text ((nI X.nF)) m_size m_token m_from m_end m_value m_faultKind m_faultPlace m_faults m_seen m_areOdds m_opened m_depth m_counted m_eastBy m_northBy m_partBy m_wayFaults m_wayEast m_wayNorth m_olds m_wayMany m_oneOfSet m_twoOfSet m_farBy m_rowBy m_triedBy m_rowMany m_doneAt m_gotAt m_struckAt m_bestDeed m_misBy m_drawn m_ranSteps m_loops m_ran m_told1 m_isTold ((nI nK)))) 798 [some (.ref (XB + 4)), some (.ref 0), some (.ref 124), some (.int (nI i))] [] Q := by
  obtain ⟨hR, hv, hY, hF, hco, hX, hfk, hfp, hto, htj, hSO⟩ := id R
  refine wp_aload_n 799 d_Law_law_798 rfl rfl ?_
  refine wp_aload_n 800 d_Law_law_799 rfl rfl ?_
  refine wp_iload_n 801 d_Law_law_800 rfl rfl ?_
  refine wp_iconst 802 1 d_Law_law_801 rfl (by decide) ?_
  refine wp_iadd 803 d_Law_law_802 rfl ?_
  rw [show nI i + 1 = nI (i + 1) from nI_add i 1]
  refine wp_sldN 804 d_Law_law_803 rfl h3 (by omega) ?_
  refine wp_aload_n 805 d_Law_law_804 rfl rfl ?_
  refine wp_iload_n 806 d_Law_law_805 rfl rfl ?_
  refine wp_iconst 807 2 d_Law_law_806 rfl (by decide) ?_
  refine wp_iadd 808 d_Law_law_807 rfl ?_
  rw [show nI i + 2 = nI (i + 2) from nI_add i 2]
  refine wp_sldN 809 d_Law_law_808 rfl h3 (by omega) ?_
  refine wp_aload_n 810 d_Law_law_809 rfl rfl ?_
  refine wp_iload_n 811 d_Law_law_810 rfl rfl ?_
  refine wp_iconst 812 3 d_Law_law_811 rfl (by decide) ?_
  refine wp_iadd 813 d_Law_law_812 rfl ?_
  rw [show nI i + 3 = nI (i + 3) from nI_add i 3]
  refine wp_sldN 814 d_Law_law_813 rfl h3 (by omega) ?_
  refine wp_aload_n 815 d_Law_law_814 rfl rfl ?_
  refine wp_iload_n 816 d_Law_law_815 rfl rfl ?_
  refine wp_iconst 817 4 d_Law_law_816 rfl (by decide) ?_
  refine wp_iadd 818 d_Law_law_817 rfl ?_
  rw [show nI i + 4 = nI (i + 4) from nI_add i 4]
  refine wp_sldN 819 d_Law_law_818 rfl h3 (by omega) ?_
  refine wp_aload_n 820 d_Law_law_819 rfl rfl ?_
  refine wp_iload_n 821 d_Law_law_820 rfl rfl ?_
  refine wp_iconst 822 5 d_Law_law_821 rfl (by decide) ?_
  refine wp_iadd 823 d_Law_law_822 rfl ?_
  rw [show nI i + 5 = nI (i + 5) from nI_add i 5]
  refine wp_sldN 824 d_Law_law_823 rfl h3 (by omega) ?_
  refine lP_V5 (cb := cb + 2) (sb := sb + 8) 827 M_PM_pace 3 0 0 d_Law_law_824 rfl mv_PM_pace lk_Law_92 rfl rfl rfl rfl rfl rfl ?_
  refine c_PM_pace hR.1.1.ok ?_
  refine lkI rfl ?_
  refine wp_aload_n 828 d_Law_law_827 rfl rfl ?_
  refine wp_aload_n 829 d_Law_law_828 rfl rfl ?_
  refine wp_iload_n 830 d_Law_law_829 rfl rfl ?_
  refine wp_iconst 831 1 d_Law_law_830 rfl (by decide) ?_
  refine wp_iadd 832 d_Law_law_831 rfl ?_
  rw [show nI i + 1 = nI (i + 1) from nI_add i 1]
  refine wp_sldN 833 d_Law_law_832 rfl h3 (by omega) ?_
  refine wp_aload_n 834 d_Law_law_833 rfl rfl ?_
  refine wp_iload_n 835 d_Law_law_834 rfl rfl ?_
  refine wp_iconst 836 2 d_Law_law_835 rfl (by decide) ?_
  refine wp_iadd 837 d_Law_law_836 rfl ?_
  rw [show nI i + 2 = nI (i + 2) from nI_add i 2]
  refine wp_sldN 838 d_Law_law_837 rfl h3 (by omega) ?_
  refine wp_aload_n 839 d_Law_law_838 rfl rfl ?_
  refine wp_iload_n 840 d_Law_law_839 rfl rfl ?_
  refine wp_iconst 841 3 d_Law_law_840 rfl (by decide) ?_
  refine wp_iadd 842 d_Law_law_841 rfl ?_
  rw [show nI i + 3 = nI (i + 3) from nI_add i 3]
  refine wp_sldN 843 d_Law_law_842 rfl h3 (by omega) ?_
  refine wp_aload_n 844 d_Law_law_843 rfl rfl ?_
  refine wp_iload_n 845 d_Law_law_844 rfl rfl ?_
  refine wp_iconst 846 4 d_Law_law_845 rfl (by decide) ?_
  refine wp_iadd 847 d_Law_law_846 rfl ?_
  rw [show nI i + 4 = nI (i + 4) from nI_add i 4]
  refine wp_sldN 848 d_Law_law_847 rfl h3 (by omega) ?_
  refine wp_aload_n 849 d_Law_law_848 rfl rfl ?_
  refine wp_iload_n 850 d_Law_law_849 rfl rfl ?_
  refine wp_iconst 851 5 d_Law_law_850 rfl (by decide) ?_
  refine wp_iadd 852 d_Law_law_851 rfl ?_
  rw [show nI i + 5 = nI (i + 5) from nI_add i 5]
  refine wp_sldN 853 d_Law_law_852 rfl h3 (by omega) ?_
  refine lM_V5 (cb := cb + 2) (sb := sb + 8) 856 M_Mo_pace 3 0 0 d_Law_law_853 rfl mv_Mo_pace lk_Law_95 rfl rfl rfl rfl rfl rfl rfl rfl rfl rfl rfl rfl ?_
  refine c_Mo_pace hR.1.1 (fun a2 v2 f2 => ?_)
  refine mkI rfl ?_
  refine wp_icmp_eq 1539 859 d_Law_law_856 rfl (by decide) (fun h856 => ?_) (fun h856 => ?_)
  · refine wp_less (cb := cb) (sb := sb) (a := 2) (b := 8) (hn _ _ _ _ _ _ _ _ _ _ _ _ _ _ _ _ _ _ _ _ _ _ _ _ _ _ _ _ _ _ _ _ _ _ _ _ _ _ _ _ _ _ _ _ _ _ _ _ _ _ _ _ _ _ _ _ _ _ _ _ _ _ _ _ ?_)
    exact LR_at R v2 f2 paF_kep hSO
  · exact absurd (rfl) h856
set_option maxRecDepth 100000 in
set_option maxHeartbeats 4000000 in
theorem law_tell (h3 : Γ.2.2.2.1 ≤ 3072) (hi : i + 6 ≤ Γ.2.2.2.1) (hn : LNX Γ cb sb i Q) (R : LR Y X T S M D E N C U W L VL HL nK m_at m_names m_sort m_trayMany m_trays m_tape m_faultKind m_faultPlace m_told1 m_isTold) : WP Γ M_Law_law 20 (cb + 2) (sb + 8) (lawH (hPM Y X T S M D E N C U W G L VL HL nK ST TP BT) (hM m_at m_names (ST) (TP) (BT) m_sort m_trayMany m_trays m_tape m_text ((nI X.nF)) m_size m_token m_from m_end m_value m_faultKind m_faultPlace m_faults m_seen m_areOdds m_opened m_depth m_counted m_eastBy m_northBy m_partBy m_wayFaults m_wayEast m_wayNorth m_olds m_wayMany m_oneOfSet m_twoOfSet m_farBy m_rowBy m_triedBy m_rowMany m_doneAt m_gotAt m_struckAt m_bestDeed m_misBy m_drawn m_ranSteps m_loops m_ran m_told1 m_isTold ((nI nK)))) 861 [some (.ref (XB + 4)), some (.ref 0), some (.ref 124), some (.int (nI i))] [] Q := by
  obtain ⟨hR, hv, hY, hF, hco, hX, hfk, hfp, hto, htj, hSO⟩ := id R
  refine wp_aload_n 862 d_Law_law_861 rfl rfl ?_
  refine wp_aload_n 863 d_Law_law_862 rfl rfl ?_
  refine wp_iload_n 864 d_Law_law_863 rfl rfl ?_
  refine wp_iconst 865 1 d_Law_law_864 rfl (by decide) ?_
  refine wp_iadd 866 d_Law_law_865 rfl ?_
  rw [show nI i + 1 = nI (i + 1) from nI_add i 1]
  refine wp_sldN 867 d_Law_law_866 rfl h3 (by omega) ?_
  refine wp_aload_n 868 d_Law_law_867 rfl rfl ?_
  refine wp_iload_n 869 d_Law_law_868 rfl rfl ?_
  refine wp_iconst 870 2 d_Law_law_869 rfl (by decide) ?_
  refine wp_iadd 871 d_Law_law_870 rfl ?_
  rw [show nI i + 2 = nI (i + 2) from nI_add i 2]
  refine wp_sldN 872 d_Law_law_871 rfl h3 (by omega) ?_
  refine wp_aload_n 873 d_Law_law_872 rfl rfl ?_
  refine wp_iload_n 874 d_Law_law_873 rfl rfl ?_
  refine wp_iconst 875 3 d_Law_law_874 rfl (by decide) ?_
  refine wp_iadd 876 d_Law_law_875 rfl ?_
  rw [show nI i + 3 = nI (i + 3) from nI_add i 3]
  refine wp_sldN 877 d_Law_law_876 rfl h3 (by omega) ?_
  refine lP_V3 (cb := cb + 2) (sb := sb + 8) 880 M_PM_tell 2 0 0 d_Law_law_877 rfl mv_PM_tell lk_Law_96 rfl rfl rfl rfl rfl rfl ?_
  refine c_PM_tell hR.1.1.ok ?_
  refine lkI rfl ?_
  refine wp_aload_n 881 d_Law_law_880 rfl rfl ?_
  refine wp_aload_n 882 d_Law_law_881 rfl rfl ?_
  refine wp_iload_n 883 d_Law_law_882 rfl rfl ?_
  refine wp_iconst 884 1 d_Law_law_883 rfl (by decide) ?_
  refine wp_iadd 885 d_Law_law_884 rfl ?_
  rw [show nI i + 1 = nI (i + 1) from nI_add i 1]
  refine wp_sldN 886 d_Law_law_885 rfl h3 (by omega) ?_
  refine wp_aload_n 887 d_Law_law_886 rfl rfl ?_
  refine wp_iload_n 888 d_Law_law_887 rfl rfl ?_
  refine wp_iconst 889 2 d_Law_law_888 rfl (by decide) ?_
  refine wp_iadd 890 d_Law_law_889 rfl ?_
  rw [show nI i + 2 = nI (i + 2) from nI_add i 2]
  refine wp_sldN 891 d_Law_law_890 rfl h3 (by omega) ?_
  refine wp_aload_n 892 d_Law_law_891 rfl rfl ?_
  refine wp_iload_n 893 d_Law_law_892 rfl rfl ?_
  refine wp_iconst 894 3 d_Law_law_893 rfl (by decide) ?_
  refine wp_iadd 895 d_Law_law_894 rfl ?_
  rw [show nI i + 3 = nI (i + 3) from nI_add i 3]
  refine wp_sldN 896 d_Law_law_895 rfl h3 (by omega) ?_
  refine lM_V3 (cb := cb + 2) (sb := sb + 8) 899 M_Mo_tell 3 0 0 d_Law_law_896 rfl mv_Mo_tell lk_Law_99 rfl rfl rfl rfl rfl rfl rfl rfl rfl rfl ?_
  refine c_Mo_tell hR.1.1 (fun a2 v2 f2 => ?_)
  refine mkI rfl ?_
  refine wp_icmp_eq 1539 902 d_Law_law_899 rfl (by decide) (fun h899 => ?_) (fun h899 => ?_)
  · refine wp_less (cb := cb) (sb := sb) (a := 2) (b := 8) (hn _ _ _ _ _ _ _ _ _ _ _ _ _ _ _ _ _ _ _ _ _ _ _ _ _ _ _ _ _ _ _ _ _ _ _ _ _ _ _ _ _ _ _ _ _ _ _ _ _ _ _ _ _ _ _ _ _ _ _ _ _ _ _ _ ?_)
    exact LR_at R v2 f2 teF_kep hSO
  · exact absurd (rfl) h899
set_option maxRecDepth 100000 in
set_option maxHeartbeats 4000000 in
theorem law_strike (h3 : Γ.2.2.2.1 ≤ 3072) (hi : i + 6 ≤ Γ.2.2.2.1) (hn : LNX Γ cb sb i Q) (R : LR Y X T S M D E N C U W L VL HL nK m_at m_names m_sort m_trayMany m_trays m_tape m_faultKind m_faultPlace m_told1 m_isTold) : WP Γ M_Law_law 20 (cb + 2) (sb + 8) (lawH (hPM Y X T S M D E N C U W G L VL HL nK ST TP BT) (hM m_at m_names (ST) (TP) (BT) m_sort m_trayMany m_trays m_tape m_text ((nI X.nF)) m_size m_token m_from m_end m_value m_faultKind m_faultPlace m_faults m_seen m_areOdds m_opened m_depth m_counted m_eastBy m_northBy m_partBy m_wayFaults m_wayEast m_wayNorth m_olds m_wayMany m_oneOfSet m_twoOfSet m_farBy m_rowBy m_triedBy m_rowMany m_doneAt m_gotAt m_struckAt m_bestDeed m_misBy m_drawn m_ranSteps m_loops m_ran m_told1 m_isTold ((nI nK)))) 904 [some (.ref (XB + 4)), some (.ref 0), some (.ref 124), some (.int (nI i))] [] Q := by
  obtain ⟨hR, hv, hY, hF, hco, hX, hfk, hfp, hto, htj, hSO⟩ := id R
  refine wp_aload_n 905 d_Law_law_904 rfl rfl ?_
  refine wp_aload_n 906 d_Law_law_905 rfl rfl ?_
  refine wp_iload_n 907 d_Law_law_906 rfl rfl ?_
  refine wp_iconst 908 1 d_Law_law_907 rfl (by decide) ?_
  refine wp_iadd 909 d_Law_law_908 rfl ?_
  rw [show nI i + 1 = nI (i + 1) from nI_add i 1]
  refine wp_sldN 910 d_Law_law_909 rfl h3 (by omega) ?_
  refine lP_V1 (cb := cb + 2) (sb := sb + 8) 913 M_PM_strike 3 0 0 d_Law_law_910 rfl mv_PM_strike lk_Law_100 rfl rfl rfl rfl rfl rfl ?_
  refine c_PM_strike hR.1.1.ok ?_
  refine lkI rfl ?_
  refine wp_aload_n 914 d_Law_law_913 rfl rfl ?_
  refine wp_aload_n 915 d_Law_law_914 rfl rfl ?_
  refine wp_iload_n 916 d_Law_law_915 rfl rfl ?_
  refine wp_iconst 917 1 d_Law_law_916 rfl (by decide) ?_
  refine wp_iadd 918 d_Law_law_917 rfl ?_
  rw [show nI i + 1 = nI (i + 1) from nI_add i 1]
  refine wp_sldN 919 d_Law_law_918 rfl h3 (by omega) ?_
  refine lM_V1 (cb := cb + 2) (sb := sb + 8) 922 M_Mo_strike 4 0 0 d_Law_law_919 rfl mv_Mo_strike lk_Law_103 rfl rfl rfl rfl rfl rfl rfl rfl ?_
  refine c_Mo_strike hR.1.1 (SKo_4 hR.1.2.1 hR.1.1.ok) (fun a2 v2 f2 => ?_)
  refine mkI rfl ?_
  refine wp_icmp_eq 1539 925 d_Law_law_922 rfl (by decide) (fun h922 => ?_) (fun h922 => ?_)
  · refine wp_less (cb := cb) (sb := sb) (a := 2) (b := 8) (hn _ _ _ _ _ _ _ _ _ _ _ _ _ _ _ _ _ _ _ _ _ _ _ _ _ _ _ _ _ _ _ _ _ _ _ _ _ _ _ _ _ _ _ _ _ _ _ _ _ _ _ _ _ _ _ _ _ _ _ _ _ _ _ _ ?_)
    exact LR_at R v2 f2 (stF_kep hR.1.1.ok) hSO
  · exact absurd (rfl) h922
set_option maxRecDepth 100000 in
set_option maxHeartbeats 4000000 in
theorem law_restore (h3 : Γ.2.2.2.1 ≤ 3072) (hi : i + 6 ≤ Γ.2.2.2.1) (hn : LNX Γ cb sb i Q) (R : LR Y X T S M D E N C U W L VL HL nK m_at m_names m_sort m_trayMany m_trays m_tape m_faultKind m_faultPlace m_told1 m_isTold) : WP Γ M_Law_law 20 (cb + 2) (sb + 8) (lawH (hPM Y X T S M D E N C U W G L VL HL nK ST TP BT) (hM m_at m_names (ST) (TP) (BT) m_sort m_trayMany m_trays m_tape m_text ((nI X.nF)) m_size m_token m_from m_end m_value m_faultKind m_faultPlace m_faults m_seen m_areOdds m_opened m_depth m_counted m_eastBy m_northBy m_partBy m_wayFaults m_wayEast m_wayNorth m_olds m_wayMany m_oneOfSet m_twoOfSet m_farBy m_rowBy m_triedBy m_rowMany m_doneAt m_gotAt m_struckAt m_bestDeed m_misBy m_drawn m_ranSteps m_loops m_ran m_told1 m_isTold ((nI nK)))) 927 [some (.ref (XB + 4)), some (.ref 0), some (.ref 124), some (.int (nI i))] [] Q := by
  obtain ⟨hR, hv, hY, hF, hco, hX, hfk, hfp, hto, htj, hSO⟩ := id R
  refine wp_aload_n 928 d_Law_law_927 rfl rfl ?_
  refine wp_aload_n 929 d_Law_law_928 rfl rfl ?_
  refine wp_iload_n 930 d_Law_law_929 rfl rfl ?_
  refine wp_iconst 931 1 d_Law_law_930 rfl (by decide) ?_
  refine wp_iadd 932 d_Law_law_931 rfl ?_
  rw [show nI i + 1 = nI (i + 1) from nI_add i 1]
  refine wp_sldN 933 d_Law_law_932 rfl h3 (by omega) ?_
  refine lP_V1 (cb := cb + 2) (sb := sb + 8) 936 M_PM_restore 3 0 0 d_Law_law_933 rfl mv_PM_restore lk_Law_104 rfl rfl rfl rfl rfl rfl ?_
  refine c_PM_restore hR.1.1.ok ?_
  refine lkI rfl ?_
  refine wp_aload_n 937 d_Law_law_936 rfl rfl ?_
  refine wp_aload_n 938 d_Law_law_937 rfl rfl ?_
  refine wp_iload_n 939 d_Law_law_938 rfl rfl ?_
  refine wp_iconst 940 1 d_Law_law_939 rfl (by decide) ?_
  refine wp_iadd 941 d_Law_law_940 rfl ?_
  rw [show nI i + 1 = nI (i + 1) from nI_add i 1]
  refine wp_sldN 942 d_Law_law_941 rfl h3 (by omega) ?_
  refine lM_V1 (cb := cb + 2) (sb := sb + 8) 945 M_Mo_restore 4 0 0 d_Law_law_942 rfl mv_Mo_restore lk_Law_107 rfl rfl rfl rfl rfl rfl rfl rfl ?_
  refine c_Mo_restore hR.1.1 (SKo_4 hR.1.2.1 hR.1.1.ok) (fun a2 v2 f2 => ?_)
  refine mkI rfl ?_
  refine wp_icmp_eq 1539 948 d_Law_law_945 rfl (by decide) (fun h945 => ?_) (fun h945 => ?_)
  · refine wp_less (cb := cb) (sb := sb) (a := 2) (b := 8) (hn _ _ _ _ _ _ _ _ _ _ _ _ _ _ _ _ _ _ _ _ _ _ _ _ _ _ _ _ _ _ _ _ _ _ _ _ _ _ _ _ _ _ _ _ _ _ _ _ _ _ _ _ _ _ _ _ _ _ _ _ _ _ _ _ ?_)
    exact LR_at R v2 f2 rsF_kep hSO
  · exact absurd (rfl) h945
set_option maxRecDepth 100000 in
set_option maxHeartbeats 4000000 in
theorem law_believe (h3 : Γ.2.2.2.1 ≤ 3072) (hi : i + 6 ≤ Γ.2.2.2.1) (hn : LNX Γ cb sb i Q) (R : LR Y X T S M D E N C U W L VL HL nK m_at m_names m_sort m_trayMany m_trays m_tape m_faultKind m_faultPlace m_told1 m_isTold) : WP Γ M_Law_law 20 (cb + 2) (sb + 8) (lawH (hPM Y X T S M D E N C U W G L VL HL nK ST TP BT) (hM m_at m_names (ST) (TP) (BT) m_sort m_trayMany m_trays m_tape m_text ((nI X.nF)) m_size m_token m_from m_end m_value m_faultKind m_faultPlace m_faults m_seen m_areOdds m_opened m_depth m_counted m_eastBy m_northBy m_partBy m_wayFaults m_wayEast m_wayNorth m_olds m_wayMany m_oneOfSet m_twoOfSet m_farBy m_rowBy m_triedBy m_rowMany m_doneAt m_gotAt m_struckAt m_bestDeed m_misBy m_drawn m_ranSteps m_loops m_ran m_told1 m_isTold ((nI nK)))) 950 [some (.ref (XB + 4)), some (.ref 0), some (.ref 124), some (.int (nI i))] [] Q := by
  obtain ⟨hR, hv, hY, hF, hco, hX, hfk, hfp, hto, htj, hSO⟩ := id R
  refine wp_aload_n 951 d_Law_law_950 rfl rfl ?_
  refine wp_aload_n 952 d_Law_law_951 rfl rfl ?_
  refine wp_iload_n 953 d_Law_law_952 rfl rfl ?_
  refine wp_iconst 954 1 d_Law_law_953 rfl (by decide) ?_
  refine wp_iadd 955 d_Law_law_954 rfl ?_
  rw [show nI i + 1 = nI (i + 1) from nI_add i 1]
  refine wp_sldN 956 d_Law_law_955 rfl h3 (by omega) ?_
  refine wp_aload_n 957 d_Law_law_956 rfl rfl ?_
  refine wp_iload_n 958 d_Law_law_957 rfl rfl ?_
  refine wp_iconst 959 2 d_Law_law_958 rfl (by decide) ?_
  refine wp_iadd 960 d_Law_law_959 rfl ?_
  rw [show nI i + 2 = nI (i + 2) from nI_add i 2]
  refine wp_sldN 961 d_Law_law_960 rfl h3 (by omega) ?_
  refine lP_V2 (cb := cb + 2) (sb := sb + 8) 964 M_PM_believe 2 0 0 d_Law_law_961 rfl mv_PM_believe lk_Law_108 rfl rfl rfl rfl rfl rfl ?_
  refine c_PM_believe hR.1.1.ok ?_
  refine lkI rfl ?_
  refine wp_aload_n 965 d_Law_law_964 rfl rfl ?_
  refine wp_aload_n 966 d_Law_law_965 rfl rfl ?_
  refine wp_iload_n 967 d_Law_law_966 rfl rfl ?_
  refine wp_iconst 968 1 d_Law_law_967 rfl (by decide) ?_
  refine wp_iadd 969 d_Law_law_968 rfl ?_
  rw [show nI i + 1 = nI (i + 1) from nI_add i 1]
  refine wp_sldN 970 d_Law_law_969 rfl h3 (by omega) ?_
  refine wp_aload_n 971 d_Law_law_970 rfl rfl ?_
  refine wp_iload_n 972 d_Law_law_971 rfl rfl ?_
  refine wp_iconst 973 2 d_Law_law_972 rfl (by decide) ?_
  refine wp_iadd 974 d_Law_law_973 rfl ?_
  rw [show nI i + 2 = nI (i + 2) from nI_add i 2]
  refine wp_sldN 975 d_Law_law_974 rfl h3 (by omega) ?_
  refine lM_V2 (cb := cb + 2) (sb := sb + 8) 978 M_Mo_believe 4 0 0 d_Law_law_975 rfl mv_Mo_believe lk_Law_111 rfl rfl rfl rfl rfl rfl rfl rfl rfl ?_
  refine c_Mo_believe hR.1.1 (fun a2 v2 f2 => ?_)
  refine mkI rfl ?_
  refine wp_icmp_eq 1539 981 d_Law_law_978 rfl (by decide) (fun h978 => ?_) (fun h978 => ?_)
  · refine wp_less (cb := cb) (sb := sb) (a := 2) (b := 8) (hn _ _ _ _ _ _ _ _ _ _ _ _ _ _ _ _ _ _ _ _ _ _ _ _ _ _ _ _ _ _ _ _ _ _ _ _ _ _ _ _ _ _ _ _ _ _ _ _ _ _ _ _ _ _ _ _ _ _ _ _ _ _ _ _ ?_)
    exact LR_at R v2 f2 blF_kep hSO
  · exact absurd (rfl) h978
end TB81
