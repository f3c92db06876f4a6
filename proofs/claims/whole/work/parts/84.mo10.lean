/-! ===== the reference: settle, pace; TRAYS, the tape ===== -/
section T84
variable {Γ : Gm} {Q : Option Value → LH → Prop} {m_at m_sort m_trayMany m_tape m_text m_opened m_eastBy m_northBy m_partBy m_wayFaults m_wayEast m_wayNorth m_olds m_farBy m_rowBy m_triedBy m_doneAt m_gotAt m_struckAt m_bestDeed m_loops m_ran m_told1 : Nat → Int32} {m_names m_trays m_misBy : Nat → Int64} {m_status m_taped m_size m_token m_from m_end m_value m_faultKind m_faultPlace m_faults m_seen m_areOdds m_depth m_counted m_wayMany m_oneOfSet m_twoOfSet m_rowMany m_drawn m_ranSteps m_isTold m_marks : Int32} {m_top m_bottom : Int64} {t : TW}
set_option maxRecDepth 100000 in
set_option maxHeartbeats 4000000 in
theorem c_Mo_settle (V : vT m_at t) (hq : ∀ a2, vT a2 (seF t).2.2 → frA m_at a2 → Q (some (.int (seF t).1)) (hM (a2) (if t.nP < 7 then vp_updL m_names t.nP 0 else m_names) ((seF t).2.1) m_top m_bottom m_sort m_trayMany m_trays m_tape m_text m_taped m_size m_token m_from m_end m_value m_faultKind m_faultPlace m_faults m_seen m_areOdds m_opened m_depth m_counted m_eastBy m_northBy m_partBy m_wayFaults m_wayEast m_wayNorth m_olds m_wayMany m_oneOfSet m_twoOfSet m_farBy m_rowBy m_triedBy m_rowMany m_doneAt m_gotAt m_struckAt m_bestDeed m_misBy m_drawn m_ranSteps m_loops m_ran m_told1 m_isTold m_marks)) : Call Γ M_Mo_settle 2 0 0 [.ref 0] (hM m_at m_names m_status m_top m_bottom m_sort m_trayMany m_trays m_tape m_text m_taped m_size m_token m_from m_end m_value m_faultKind m_faultPlace m_faults m_seen m_areOdds m_opened m_depth m_counted m_eastBy m_northBy m_partBy m_wayFaults m_wayEast m_wayNorth m_olds m_wayMany m_oneOfSet m_twoOfSet m_farBy m_rowBy m_triedBy m_rowMany m_doneAt m_gotAt m_struckAt m_bestDeed m_misBy m_drawn m_ranSteps m_loops m_ran m_told1 m_isTold m_marks) Q := by
  have hL12 := V.ok.hL
  have hP7 := V.ok.hP
  have hW4 := V.ok.hW
  refine call_intro (ls := [some (.ref 0), none]) rfl rfl rfl ?_
  refine wp_aload_n 1 d_Mo_settle_0 rfl rfl ?_
  refine wp_getfield 4 12 0 d_Mo_settle_1 rfl fl_Mo_7 rfl rfl ?_
  refine wp_iconst 5 0 d_Mo_settle_4 rfl (by decide) ?_
  refine wp_iaload 6 d_Mo_settle_5 rfl rfl (vp_in_nI (n := 0) (N := 2332) (by omega) (by omega)) ?_
  rw [show m_at (0 : Int32).toNatClampNeg = nI t.nP from V.P]
  refine wp_istore_1 7 d_Mo_settle_6 rfl rfl rfl ?_
  refine wp_iload_n 8 d_Mo_settle_7 rfl rfl ?_
  refine wp_bipush 10 7 d_Mo_settle_8 rfl (by decide) ?_
  refine wp_icmp_ne 19 13 d_Mo_settle_10 rfl (by decide) (fun h10 => ?_) (fun h10 => ?_)
  · have hp7_ : t.nP < 7 := by rcases Nat.lt_or_ge t.nP 7 with z | z; exact z; exact absurd (by rw [show t.nP = 7 by omega]; rfl) h10
    refine wp_iload_n 20 d_Mo_settle_19 rfl rfl ?_
    refine wp_if_ne 30 23 d_Mo_settle_20 rfl (by decide) (fun h20 => ?_) (fun h20 => ?_)
    · have hz : ¬ t.nP = 0 := fun z => h20 (by rw [z]; rfl)
      refine wp_aload_n 31 d_Mo_settle_30 rfl rfl ?_
      refine wp_getfield 34 12 0 d_Mo_settle_31 rfl fl_Mo_7 rfl rfl ?_
      refine wp_iconst 35 0 d_Mo_settle_34 rfl (by decide) ?_
      refine wp_dup2 36 d_Mo_settle_35 rfl rfl rfl ?_
      refine wp_iaload 37 d_Mo_settle_36 rfl rfl (vp_in_nI (n := 0) (N := 2332) (by omega) (by omega)) ?_
      first | rw [show m_at (0 : Int32).toNatClampNeg = nI t.nP from V.P] | rw [show upd m_at 4 0 (0 : Int32).toNatClampNeg = nI t.nP from V.P]
      refine wp_iconst 38 1 d_Mo_settle_37 rfl (by decide) ?_
      refine wp_iadd 39 d_Mo_settle_38 rfl ?_
      refine wp_iastore 40 d_Mo_settle_39 rfl rfl (vp_in_nI (n := 0) (N := 2332) (by omega) (by omega)) ?_
      rw [nI_1]
      refine hEq (hM (seU m_at t.nP) m_names m_status m_top m_bottom m_sort m_trayMany m_trays m_tape m_text m_taped m_size m_token m_from m_end m_value m_faultKind m_faultPlace m_faults m_seen m_areOdds m_opened m_depth m_counted m_eastBy m_northBy m_partBy m_wayFaults m_wayEast m_wayNorth m_olds m_wayMany m_oneOfSet m_twoOfSet m_farBy m_rowBy m_triedBy m_rowMany m_doneAt m_gotAt m_struckAt m_bestDeed m_misBy m_drawn m_ranSteps m_loops m_ran m_told1 m_isTold m_marks) (congrArg (fun a => (hM (a) m_names m_status m_top m_bottom m_sort m_trayMany m_trays m_tape m_text m_taped m_size m_token m_from m_end m_value m_faultKind m_faultPlace m_faults m_seen m_areOdds m_opened m_depth m_counted m_eastBy m_northBy m_partBy m_wayFaults m_wayEast m_wayNorth m_olds m_wayMany m_oneOfSet m_twoOfSet m_farBy m_rowBy m_triedBy m_rowMany m_doneAt m_gotAt m_struckAt m_bestDeed m_misBy m_drawn m_ranSteps m_loops m_ran m_told1 m_isTold m_marks)) (show upd m_at 0 (nI (t.nP + 1)) = seU m_at t.nP from by unfold seU; rw [if_neg hz])) ?_
      refine wp_aload_n 41 d_Mo_settle_40 rfl rfl ?_
      refine wp_getfield 44 12 1 d_Mo_settle_41 rfl fl_Mo_13 rfl rfl ?_
      refine wp_iload_n 45 d_Mo_settle_44 rfl rfl ?_
      refine wp_lconst 46 0 d_Mo_settle_45 rfl (by decide) ?_
      refine wp_lastoreN 47 d_Mo_settle_46 rfl rfl rfl (by omega) ?_
      refine hEq (hM (seU m_at t.nP) (if t.nP < 7 then vp_updL m_names t.nP 0 else m_names) m_status m_top m_bottom m_sort m_trayMany m_trays m_tape m_text m_taped m_size m_token m_from m_end m_value m_faultKind m_faultPlace m_faults m_seen m_areOdds m_opened m_depth m_counted m_eastBy m_northBy m_partBy m_wayFaults m_wayEast m_wayNorth m_olds m_wayMany m_oneOfSet m_twoOfSet m_farBy m_rowBy m_triedBy m_rowMany m_doneAt m_gotAt m_struckAt m_bestDeed m_misBy m_drawn m_ranSteps m_loops m_ran m_told1 m_isTold m_marks) (congrArg (fun a => (hM (seU m_at t.nP) (a) m_status m_top m_bottom m_sort m_trayMany m_trays m_tape m_text m_taped m_size m_token m_from m_end m_value m_faultKind m_faultPlace m_faults m_seen m_areOdds m_opened m_depth m_counted m_eastBy m_northBy m_partBy m_wayFaults m_wayEast m_wayNorth m_olds m_wayMany m_oneOfSet m_twoOfSet m_farBy m_rowBy m_triedBy m_rowMany m_doneAt m_gotAt m_struckAt m_bestDeed m_misBy m_drawn m_ranSteps m_loops m_ran m_told1 m_isTold m_marks)) (show vp_updL m_names t.nP 0 = if t.nP < 7 then vp_updL m_names t.nP 0 else m_names from (if_pos hp7_).symm)) ?_
      refine wp_aload_n 48 d_Mo_settle_47 rfl rfl ?_
      refine wp_iload_n 49 d_Mo_settle_48 rfl rfl ?_
      refine wp_V1 52 M_Mo_gives 1 d_Mo_settle_49 rfl mv_Mo_gives lk_Mo_115 rfl rfl rfl rfl rfl ?_
      refine c_Mo_gives ?_
      refine kI ?_
      refine wp_ireturn d_Mo_settle_52 rfl ?_
      have e : seF t = _ := if_pos hp7_
      rw [e] at hq
      exact hq _ (vT_se V hp7_) (fun j hj => seU_ne (by omega) (by omega))
    · have hz : t.nP = 0 := nI_inj0 h20 (by omega)
      refine wp_aload_n 24 d_Mo_settle_23 rfl rfl ?_
      refine wp_getfield 27 12 0 d_Mo_settle_24 rfl fl_Mo_7 rfl rfl ?_
      refine wp_iconst 28 4 d_Mo_settle_27 rfl (by decide) ?_
      refine wp_iconst 29 0 d_Mo_settle_28 rfl (by decide) ?_
      refine wp_iastore 30 d_Mo_settle_29 rfl rfl (vp_in_nI (n := 4) (N := 2332) (by omega) (by omega)) ?_
      refine hEq (hM (upd m_at 4 0) m_names m_status m_top m_bottom m_sort m_trayMany m_trays m_tape m_text m_taped m_size m_token m_from m_end m_value m_faultKind m_faultPlace m_faults m_seen m_areOdds m_opened m_depth m_counted m_eastBy m_northBy m_partBy m_wayFaults m_wayEast m_wayNorth m_olds m_wayMany m_oneOfSet m_twoOfSet m_farBy m_rowBy m_triedBy m_rowMany m_doneAt m_gotAt m_struckAt m_bestDeed m_misBy m_drawn m_ranSteps m_loops m_ran m_told1 m_isTold m_marks) rfl ?_
      refine wp_aload_n 31 d_Mo_settle_30 rfl rfl ?_
      refine wp_getfield 34 12 0 d_Mo_settle_31 rfl fl_Mo_7 rfl rfl ?_
      refine wp_iconst 35 0 d_Mo_settle_34 rfl (by decide) ?_
      refine wp_dup2 36 d_Mo_settle_35 rfl rfl rfl ?_
      refine wp_iaload 37 d_Mo_settle_36 rfl rfl (vp_in_nI (n := 0) (N := 2332) (by omega) (by omega)) ?_
      first | rw [show m_at (0 : Int32).toNatClampNeg = nI t.nP from V.P] | rw [show upd m_at 4 0 (0 : Int32).toNatClampNeg = nI t.nP from V.P]
      refine wp_iconst 38 1 d_Mo_settle_37 rfl (by decide) ?_
      refine wp_iadd 39 d_Mo_settle_38 rfl ?_
      refine wp_iastore 40 d_Mo_settle_39 rfl rfl (vp_in_nI (n := 0) (N := 2332) (by omega) (by omega)) ?_
      rw [nI_1]
      refine hEq (hM (seU m_at t.nP) m_names m_status m_top m_bottom m_sort m_trayMany m_trays m_tape m_text m_taped m_size m_token m_from m_end m_value m_faultKind m_faultPlace m_faults m_seen m_areOdds m_opened m_depth m_counted m_eastBy m_northBy m_partBy m_wayFaults m_wayEast m_wayNorth m_olds m_wayMany m_oneOfSet m_twoOfSet m_farBy m_rowBy m_triedBy m_rowMany m_doneAt m_gotAt m_struckAt m_bestDeed m_misBy m_drawn m_ranSteps m_loops m_ran m_told1 m_isTold m_marks) (congrArg (fun a => (hM (a) m_names m_status m_top m_bottom m_sort m_trayMany m_trays m_tape m_text m_taped m_size m_token m_from m_end m_value m_faultKind m_faultPlace m_faults m_seen m_areOdds m_opened m_depth m_counted m_eastBy m_northBy m_partBy m_wayFaults m_wayEast m_wayNorth m_olds m_wayMany m_oneOfSet m_twoOfSet m_farBy m_rowBy m_triedBy m_rowMany m_doneAt m_gotAt m_struckAt m_bestDeed m_misBy m_drawn m_ranSteps m_loops m_ran m_told1 m_isTold m_marks)) (show upd (upd m_at 4 0) 0 (nI (t.nP + 1)) = seU m_at t.nP from by unfold seU; rw [if_pos hz])) ?_
      refine wp_aload_n 41 d_Mo_settle_40 rfl rfl ?_
      refine wp_getfield 44 12 1 d_Mo_settle_41 rfl fl_Mo_13 rfl rfl ?_
      refine wp_iload_n 45 d_Mo_settle_44 rfl rfl ?_
      refine wp_lconst 46 0 d_Mo_settle_45 rfl (by decide) ?_
      refine wp_lastoreN 47 d_Mo_settle_46 rfl rfl rfl (by omega) ?_
      refine hEq (hM (seU m_at t.nP) (if t.nP < 7 then vp_updL m_names t.nP 0 else m_names) m_status m_top m_bottom m_sort m_trayMany m_trays m_tape m_text m_taped m_size m_token m_from m_end m_value m_faultKind m_faultPlace m_faults m_seen m_areOdds m_opened m_depth m_counted m_eastBy m_northBy m_partBy m_wayFaults m_wayEast m_wayNorth m_olds m_wayMany m_oneOfSet m_twoOfSet m_farBy m_rowBy m_triedBy m_rowMany m_doneAt m_gotAt m_struckAt m_bestDeed m_misBy m_drawn m_ranSteps m_loops m_ran m_told1 m_isTold m_marks) (congrArg (fun a => (hM (seU m_at t.nP) (a) m_status m_top m_bottom m_sort m_trayMany m_trays m_tape m_text m_taped m_size m_token m_from m_end m_value m_faultKind m_faultPlace m_faults m_seen m_areOdds m_opened m_depth m_counted m_eastBy m_northBy m_partBy m_wayFaults m_wayEast m_wayNorth m_olds m_wayMany m_oneOfSet m_twoOfSet m_farBy m_rowBy m_triedBy m_rowMany m_doneAt m_gotAt m_struckAt m_bestDeed m_misBy m_drawn m_ranSteps m_loops m_ran m_told1 m_isTold m_marks)) (show vp_updL m_names t.nP 0 = if t.nP < 7 then vp_updL m_names t.nP 0 else m_names from (if_pos hp7_).symm)) ?_
      refine wp_aload_n 48 d_Mo_settle_47 rfl rfl ?_
      refine wp_iload_n 49 d_Mo_settle_48 rfl rfl ?_
      refine wp_V1 52 M_Mo_gives 1 d_Mo_settle_49 rfl mv_Mo_gives lk_Mo_115 rfl rfl rfl rfl rfl ?_
      refine c_Mo_gives ?_
      refine kI ?_
      refine wp_ireturn d_Mo_settle_52 rfl ?_
      have e : seF t = _ := if_pos hp7_
      rw [e] at hq
      exact hq _ (vT_se V hp7_) (fun j hj => seU_ne (by omega) (by omega))
  · refine wp_aload_n 14 d_Mo_settle_13 rfl rfl ?_
    refine wp_iconst 15 4 d_Mo_settle_14 rfl (by decide) ?_
    refine wp_V1 18 M_Mo_refuse 1 d_Mo_settle_15 rfl mv_Mo_refuse lk_Mo_111 rfl rfl rfl rfl rfl ?_
    refine c_Mo_refuse ?_
    refine kI ?_
    refine wp_ireturn d_Mo_settle_18 rfl ?_
    rw [show (if t.nP < 7 then vp_updL m_names t.nP 0 else m_names) = m_names from if_neg (fun z => by have := nI_ij (a := t.nP) (b := 7) h10 (by omega) (by omega); omega)] at hq
    have e : (seF t) = _ := (if_neg (fun z => by have := nI_ij (a := t.nP) (b := 7) h10 (by omega) (by omega); omega))
    rw [e] at hq
    exact hq m_at (V) (frA.rf)

set_option maxRecDepth 100000 in
set_option maxHeartbeats 4000000 in
theorem c_Mo_pace {w p q e n : Int32} (V : vT m_at t) (hq : ∀ a2, vT a2 (paF t w p q e n).2.2 → frA m_at a2 → Q (some (.int (paF t w p q e n).1)) (hM (a2) m_names ((paF t w p q e n).2.1) m_top m_bottom m_sort m_trayMany m_trays m_tape m_text m_taped m_size m_token m_from m_end m_value m_faultKind m_faultPlace m_faults m_seen m_areOdds m_opened m_depth m_counted m_eastBy m_northBy m_partBy m_wayFaults m_wayEast m_wayNorth m_olds m_wayMany m_oneOfSet m_twoOfSet m_farBy m_rowBy m_triedBy m_rowMany m_doneAt m_gotAt m_struckAt m_bestDeed m_misBy m_drawn m_ranSteps m_loops m_ran m_told1 m_isTold m_marks)) : Call Γ M_Mo_pace 3 0 0 [.ref 0, .int w, .int p, .int q, .int e, .int n] (hM m_at m_names m_status m_top m_bottom m_sort m_trayMany m_trays m_tape m_text m_taped m_size m_token m_from m_end m_value m_faultKind m_faultPlace m_faults m_seen m_areOdds m_opened m_depth m_counted m_eastBy m_northBy m_partBy m_wayFaults m_wayEast m_wayNorth m_olds m_wayMany m_oneOfSet m_twoOfSet m_farBy m_rowBy m_triedBy m_rowMany m_doneAt m_gotAt m_struckAt m_bestDeed m_misBy m_drawn m_ranSteps m_loops m_ran m_told1 m_isTold m_marks) Q := by
  have hL12 := V.ok.hL
  have hP7 := V.ok.hP
  have hW4 := V.ok.hW
  refine call_intro (ls := [some (.ref 0), some (.int w), some (.int p), some (.int q), some (.int e), some (.int n), none, none]) rfl rfl rfl ?_
  refine wp_aload_n 1 d_Mo_pace_0 rfl rfl ?_
  refine wp_iload_n 2 d_Mo_pace_1 rfl rfl ?_
  refine wp_V1 5 M_Mo_isWalker 1 d_Mo_pace_2 rfl mv_Mo_isWalker lk_Mo_340 rfl rfl rfl rfl rfl ?_
  refine c_Mo_isWalker V ?_
  refine kI ?_
  (first | refine wp_ifP_eq 47 8 d_Mo_pace_5 rfl (by decide) (fun h5 => ?_) (fun h5 => ?_) | refine wp_if_eq 47 8 d_Mo_pace_5 rfl (by decide) (fun h5 => ?_) (fun h5 => ?_))
  · refine wp_aload_n 48 d_Mo_pace_47 rfl rfl ?_
    refine wp_iconst 49 1 d_Mo_pace_48 rfl (by decide) ?_
    refine wp_V1 52 M_Mo_refuse 1 d_Mo_pace_49 rfl mv_Mo_refuse lk_Mo_111 rfl rfl rfl rfl rfl ?_
    refine c_Mo_refuse ?_
    refine kI ?_
    refine wp_ireturn d_Mo_pace_52 rfl ?_
    have e : (paF t w p q e n) = _ := (if_neg (fun z => h5 z.1))
    rw [e] at hq
    exact hq m_at (V) (frA.rf)
  · refine wp_aload_n 9 d_Mo_pace_8 rfl rfl ?_
    refine wp_iload_n 10 d_Mo_pace_9 rfl rfl ?_
    refine wp_iload_n 11 d_Mo_pace_10 rfl rfl ?_
    refine wp_V2 14 M_Mo_areTwo 2 d_Mo_pace_11 rfl mv_Mo_areTwo lk_Mo_349 rfl rfl rfl rfl rfl ?_
    refine c_Mo_areTwo V ?_
    refine kI ?_
    (first | refine wp_ifP_eq 47 17 d_Mo_pace_14 rfl (by decide) (fun h14 => ?_) (fun h14 => ?_) | refine wp_if_eq 47 17 d_Mo_pace_14 rfl (by decide) (fun h14 => ?_) (fun h14 => ?_))
    · refine wp_aload_n 48 d_Mo_pace_47 rfl rfl ?_
      refine wp_iconst 49 1 d_Mo_pace_48 rfl (by decide) ?_
      refine wp_V1 52 M_Mo_refuse 1 d_Mo_pace_49 rfl mv_Mo_refuse lk_Mo_111 rfl rfl rfl rfl rfl ?_
      refine c_Mo_refuse ?_
      refine kI ?_
      refine wp_ireturn d_Mo_pace_52 rfl ?_
      have e : (paF t w p q e n) = _ := (if_neg (fun z => h14 z.2.1))
      rw [e] at hq
      exact hq m_at (V) (frA.rf)
    · refine wp_iload 19 d_Mo_pace_17 rfl rfl ?_
      refine wp_i2l 20 d_Mo_pace_19 rfl ?_
      refine wp_ldc2 23 (-99 : Int64) d_Mo_pace_20 rfl ct_Mo_352 ?_
      refine wp_ldc2 26 (99 : Int64) d_Mo_pace_23 rfl ct_Mo_354 ?_
      refine wp_S3 29 M_Mo_isFrom 1 d_Mo_pace_26 rfl ms_Mo_isFrom lk_Mo_356 rfl rfl ?_
      refine c_Mo_isFrom ?_
      refine kI ?_
      (first | refine wp_ifP_eq 47 32 d_Mo_pace_29 rfl (by decide) (fun h29 => ?_) (fun h29 => ?_) | refine wp_if_eq 47 32 d_Mo_pace_29 rfl (by decide) (fun h29 => ?_) (fun h29 => ?_))
      · refine wp_aload_n 48 d_Mo_pace_47 rfl rfl ?_
        refine wp_iconst 49 1 d_Mo_pace_48 rfl (by decide) ?_
        refine wp_V1 52 M_Mo_refuse 1 d_Mo_pace_49 rfl mv_Mo_refuse lk_Mo_111 rfl rfl rfl rfl rfl ?_
        refine c_Mo_refuse ?_
        refine kI ?_
        refine wp_ireturn d_Mo_pace_52 rfl ?_
        have e : (paF t w p q e n) = _ := (if_neg (fun z => h29 (pa64.mpr z.2.2.1)))
        rw [e] at hq
        exact hq m_at (V) (frA.rf)
      · refine wp_iload 34 d_Mo_pace_32 rfl rfl ?_
        refine wp_i2l 35 d_Mo_pace_34 rfl ?_
        refine wp_ldc2 38 (-99 : Int64) d_Mo_pace_35 rfl ct_Mo_352 ?_
        refine wp_ldc2 41 (99 : Int64) d_Mo_pace_38 rfl ct_Mo_354 ?_
        refine wp_S3 44 M_Mo_isFrom 1 d_Mo_pace_41 rfl ms_Mo_isFrom lk_Mo_356 rfl rfl ?_
        refine c_Mo_isFrom ?_
        refine kI ?_
        (first | refine wp_ifP_ne 53 47 d_Mo_pace_44 rfl (by decide) (fun h44 => ?_) (fun h44 => ?_) | refine wp_if_ne 53 47 d_Mo_pace_44 rfl (by decide) (fun h44 => ?_) (fun h44 => ?_))
        · refine wp_aload_n 54 d_Mo_pace_53 rfl rfl ?_
          refine wp_getfield 57 12 0 d_Mo_pace_54 rfl fl_Mo_7 rfl rfl ?_
          refine wp_iconst 58 2 d_Mo_pace_57 rfl (by decide) ?_
          refine wp_iaload 59 d_Mo_pace_58 rfl rfl (vp_in_nI (n := 2) (N := 2332) (by omega) (by omega)) ?_
          rw [show m_at (2 : Int32).toNatClampNeg = nI t.nL from V.L]
          refine wp_istore_6 61 d_Mo_pace_59 rfl rfl rfl ?_
          refine wp_iload 63 d_Mo_pace_61 rfl rfl ?_
          refine wp_bipush 65 12 d_Mo_pace_63 rfl (by decide) ?_
          refine wp_icmp_ne 74 68 d_Mo_pace_65 rfl (by decide) (fun h65 => ?_) (fun h65 => ?_)
          · have hl12 : t.nL < 12 := by rcases Nat.lt_or_ge t.nL 12 with z | z; exact z; exact absurd (by rw [show t.nL = 12 by omega]; rfl) h65
            refine wp_iload 76 d_Mo_pace_74 rfl rfl ?_
            refine wp_S1 79 M_Mo_legRow 1 d_Mo_pace_76 rfl ms_Mo_legRow lk_Mo_226 rfl rfl ?_
            refine c_Mo_legRow ?_
            refine kI ?_
            refine wp_istore_7 81 d_Mo_pace_79 rfl rfl rfl ?_
            refine wp_aload_n 82 d_Mo_pace_81 rfl rfl ?_
            refine wp_getfield 85 12 0 d_Mo_pace_82 rfl fl_Mo_7 rfl rfl ?_
            refine wp_iconst 86 2 d_Mo_pace_85 rfl (by decide) ?_
            refine wp_dup2 87 d_Mo_pace_86 rfl rfl rfl ?_
            refine wp_iaload 88 d_Mo_pace_87 rfl rfl (vp_in_nI (n := 2) (N := 2332) (by omega) (by omega)) ?_
            rw [show m_at (2 : Int32).toNatClampNeg = nI t.nL from V.L]
            refine wp_iconst 89 1 d_Mo_pace_88 rfl (by decide) ?_
            refine wp_iadd 90 d_Mo_pace_89 rfl ?_
            rw [nI_1]
            refine wp_iastore 91 d_Mo_pace_90 rfl rfl (vp_in_nI (n := 2) (N := 2332) (by omega) (by omega)) ?_
            refine hEq (hM (upd m_at 2 (nI (t.nL + 1))) m_names m_status m_top m_bottom m_sort m_trayMany m_trays m_tape m_text m_taped m_size m_token m_from m_end m_value m_faultKind m_faultPlace m_faults m_seen m_areOdds m_opened m_depth m_counted m_eastBy m_northBy m_partBy m_wayFaults m_wayEast m_wayNorth m_olds m_wayMany m_oneOfSet m_twoOfSet m_farBy m_rowBy m_triedBy m_rowMany m_doneAt m_gotAt m_struckAt m_bestDeed m_misBy m_drawn m_ranSteps m_loops m_ran m_told1 m_isTold m_marks) rfl ?_
            refine wp_aload_n 92 d_Mo_pace_91 rfl rfl ?_
            refine wp_getfield 95 12 0 d_Mo_pace_92 rfl fl_Mo_7 rfl rfl ?_
            refine wp_iload 97 d_Mo_pace_95 rfl rfl ?_
            refine wp_iload_n 98 d_Mo_pace_97 rfl rfl ?_
            refine wp_iastoreN 99 d_Mo_pace_98 rfl rfl rfl (by omega) ?_
            refine hEq (hM (upd (upd m_at 2 (nI (t.nL + 1))) (22 + 5 * t.nL) w) m_names m_status m_top m_bottom m_sort m_trayMany m_trays m_tape m_text m_taped m_size m_token m_from m_end m_value m_faultKind m_faultPlace m_faults m_seen m_areOdds m_opened m_depth m_counted m_eastBy m_northBy m_partBy m_wayFaults m_wayEast m_wayNorth m_olds m_wayMany m_oneOfSet m_twoOfSet m_farBy m_rowBy m_triedBy m_rowMany m_doneAt m_gotAt m_struckAt m_bestDeed m_misBy m_drawn m_ranSteps m_loops m_ran m_told1 m_isTold m_marks) rfl ?_
            refine wp_aload_n 100 d_Mo_pace_99 rfl rfl ?_
            refine wp_getfield 103 12 0 d_Mo_pace_100 rfl fl_Mo_7 rfl rfl ?_
            refine wp_iload 105 d_Mo_pace_103 rfl rfl ?_
            refine wp_iconst 106 1 d_Mo_pace_105 rfl (by decide) ?_
            refine wp_iadd 107 d_Mo_pace_106 rfl ?_
            rw [show nI (22 + 5 * t.nL) + 1 = nI (22 + 5 * t.nL + 1) from nI_add _ 1]
            refine wp_iload_n 108 d_Mo_pace_107 rfl rfl ?_
            refine wp_iastoreN 109 d_Mo_pace_108 rfl rfl rfl (by omega) ?_
            refine hEq (hM (upd (upd (upd m_at 2 (nI (t.nL + 1))) (22 + 5 * t.nL) w) (22 + 5 * t.nL + 1) p) m_names m_status m_top m_bottom m_sort m_trayMany m_trays m_tape m_text m_taped m_size m_token m_from m_end m_value m_faultKind m_faultPlace m_faults m_seen m_areOdds m_opened m_depth m_counted m_eastBy m_northBy m_partBy m_wayFaults m_wayEast m_wayNorth m_olds m_wayMany m_oneOfSet m_twoOfSet m_farBy m_rowBy m_triedBy m_rowMany m_doneAt m_gotAt m_struckAt m_bestDeed m_misBy m_drawn m_ranSteps m_loops m_ran m_told1 m_isTold m_marks) rfl ?_
            refine wp_aload_n 110 d_Mo_pace_109 rfl rfl ?_
            refine wp_getfield 113 12 0 d_Mo_pace_110 rfl fl_Mo_7 rfl rfl ?_
            refine wp_iload 115 d_Mo_pace_113 rfl rfl ?_
            refine wp_iconst 116 2 d_Mo_pace_115 rfl (by decide) ?_
            refine wp_iadd 117 d_Mo_pace_116 rfl ?_
            rw [show nI (22 + 5 * t.nL) + 2 = nI (22 + 5 * t.nL + 2) from nI_add _ 2]
            refine wp_iload_n 118 d_Mo_pace_117 rfl rfl ?_
            refine wp_iastoreN 119 d_Mo_pace_118 rfl rfl rfl (by omega) ?_
            refine hEq (hM (upd (upd (upd (upd m_at 2 (nI (t.nL + 1))) (22 + 5 * t.nL) w) (22 + 5 * t.nL + 1) p) (22 + 5 * t.nL + 2) q) m_names m_status m_top m_bottom m_sort m_trayMany m_trays m_tape m_text m_taped m_size m_token m_from m_end m_value m_faultKind m_faultPlace m_faults m_seen m_areOdds m_opened m_depth m_counted m_eastBy m_northBy m_partBy m_wayFaults m_wayEast m_wayNorth m_olds m_wayMany m_oneOfSet m_twoOfSet m_farBy m_rowBy m_triedBy m_rowMany m_doneAt m_gotAt m_struckAt m_bestDeed m_misBy m_drawn m_ranSteps m_loops m_ran m_told1 m_isTold m_marks) rfl ?_
            refine wp_aload_n 120 d_Mo_pace_119 rfl rfl ?_
            refine wp_getfield 123 12 0 d_Mo_pace_120 rfl fl_Mo_7 rfl rfl ?_
            refine wp_iload 125 d_Mo_pace_123 rfl rfl ?_
            refine wp_iconst 126 3 d_Mo_pace_125 rfl (by decide) ?_
            refine wp_iadd 127 d_Mo_pace_126 rfl ?_
            rw [show nI (22 + 5 * t.nL) + 3 = nI (22 + 5 * t.nL + 3) from nI_add _ 3]
            refine wp_iload 129 d_Mo_pace_127 rfl rfl ?_
            refine wp_iastoreN 130 d_Mo_pace_129 rfl rfl rfl (by omega) ?_
            refine hEq (hM (upd (upd (upd (upd (upd m_at 2 (nI (t.nL + 1))) (22 + 5 * t.nL) w) (22 + 5 * t.nL + 1) p) (22 + 5 * t.nL + 2) q) (22 + 5 * t.nL + 3) e) m_names m_status m_top m_bottom m_sort m_trayMany m_trays m_tape m_text m_taped m_size m_token m_from m_end m_value m_faultKind m_faultPlace m_faults m_seen m_areOdds m_opened m_depth m_counted m_eastBy m_northBy m_partBy m_wayFaults m_wayEast m_wayNorth m_olds m_wayMany m_oneOfSet m_twoOfSet m_farBy m_rowBy m_triedBy m_rowMany m_doneAt m_gotAt m_struckAt m_bestDeed m_misBy m_drawn m_ranSteps m_loops m_ran m_told1 m_isTold m_marks) rfl ?_
            refine wp_aload_n 131 d_Mo_pace_130 rfl rfl ?_
            refine wp_getfield 134 12 0 d_Mo_pace_131 rfl fl_Mo_7 rfl rfl ?_
            refine wp_iload 136 d_Mo_pace_134 rfl rfl ?_
            refine wp_iconst 137 4 d_Mo_pace_136 rfl (by decide) ?_
            refine wp_iadd 138 d_Mo_pace_137 rfl ?_
            rw [show nI (22 + 5 * t.nL) + 4 = nI (22 + 5 * t.nL + 4) from nI_add _ 4]
            refine wp_iload 140 d_Mo_pace_138 rfl rfl ?_
            refine wp_iastoreN 141 d_Mo_pace_140 rfl rfl rfl (by omega) ?_
            refine hEq (hM (paU m_at t.nL w p q e n) m_names m_status m_top m_bottom m_sort m_trayMany m_trays m_tape m_text m_taped m_size m_token m_from m_end m_value m_faultKind m_faultPlace m_faults m_seen m_areOdds m_opened m_depth m_counted m_eastBy m_northBy m_partBy m_wayFaults m_wayEast m_wayNorth m_olds m_wayMany m_oneOfSet m_twoOfSet m_farBy m_rowBy m_triedBy m_rowMany m_doneAt m_gotAt m_struckAt m_bestDeed m_misBy m_drawn m_ranSteps m_loops m_ran m_told1 m_isTold m_marks) rfl ?_
            refine wp_aload_n 142 d_Mo_pace_141 rfl rfl ?_
            refine wp_iload 144 d_Mo_pace_142 rfl rfl ?_
            refine wp_V1 147 M_Mo_gives 1 d_Mo_pace_144 rfl mv_Mo_gives lk_Mo_115 rfl rfl rfl rfl rfl ?_
            refine c_Mo_gives ?_
            refine kI ?_
            refine wp_ireturn d_Mo_pace_147 rfl ?_
            have e_ : paF t w p q e n = _ := ((if_pos ⟨h5, h14, pa64.mp h29, pa64.mp h44⟩).trans (if_pos hl12))
            rw [e_] at hq
            exact hq _ (vT_pa V hl12 h5 h14 (pa64.mp h29) (pa64.mp h44)) (fun j hj => paU_ne (by omega) (by omega))
          · refine wp_aload_n 69 d_Mo_pace_68 rfl rfl ?_
            refine wp_iconst 70 4 d_Mo_pace_69 rfl (by decide) ?_
            refine wp_V1 73 M_Mo_refuse 1 d_Mo_pace_70 rfl mv_Mo_refuse lk_Mo_111 rfl rfl rfl rfl rfl ?_
            refine c_Mo_refuse ?_
            refine kI ?_
            refine wp_ireturn d_Mo_pace_73 rfl ?_
            have e : (paF t w p q e n) = _ := ((if_pos ⟨h5, h14, pa64.mp h29, pa64.mp h44⟩).trans (if_neg (fun z => by have := nI_ij (a := t.nL) (b := 12) h65 (by omega) (by omega); omega)))
            rw [e] at hq
            exact hq m_at (V) (frA.rf)
        · refine wp_aload_n 48 d_Mo_pace_47 rfl rfl ?_
          refine wp_iconst 49 1 d_Mo_pace_48 rfl (by decide) ?_
          refine wp_V1 52 M_Mo_refuse 1 d_Mo_pace_49 rfl mv_Mo_refuse lk_Mo_111 rfl rfl rfl rfl rfl ?_
          refine c_Mo_refuse ?_
          refine kI ?_
          refine wp_ireturn d_Mo_pace_52 rfl ?_
          have e : (paF t w p q e n) = _ := (if_neg (fun z => h44 (pa64.mpr z.2.2.2)))
          rw [e] at hq
          exact hq m_at (V) (frA.rf)

end T84
