section TA7
variable {Γ : Gm} {Q : Option Value → LH → Prop} {m_at m_sort m_trayMany m_tape m_text m_opened m_eastBy m_northBy m_partBy m_wayFaults m_wayEast m_wayNorth m_olds m_farBy m_rowBy m_triedBy m_doneAt m_gotAt m_struckAt m_bestDeed m_loops m_ran m_told1 : Nat → Int32} {m_names m_trays m_misBy : Nat → Int64} {m_status m_taped m_size m_token m_from m_end m_value m_faultKind m_faultPlace m_faults m_seen m_areOdds m_depth m_counted m_wayMany m_oneOfSet m_twoOfSet m_rowMany m_drawn m_ranSteps m_isTold m_marks : Int32} {m_top m_bottom : Int64} {t : TW} {s : LSt}
set_option maxRecDepth 100000 in
set_option maxHeartbeats 4000000 in
theorem c_ranIf1 (w : Nat) {v : Int32} (hv : v = nI w) (hw : w < 5) (hq : Q (some (.int 1)) (hM m_at m_names m_status m_top m_bottom m_sort m_trayMany m_trays m_tape m_text m_taped m_size m_token m_from m_end m_value m_faultKind m_faultPlace m_faults m_seen m_areOdds m_opened m_depth m_counted m_eastBy m_northBy m_partBy m_wayFaults m_wayEast m_wayNorth m_olds m_wayMany m_oneOfSet m_twoOfSet m_farBy m_rowBy m_triedBy m_rowMany m_doneAt m_gotAt m_struckAt m_bestDeed m_misBy m_drawn m_ranSteps m_loops (upd m_ran w (m_ran w + 1)) m_told1 m_isTold m_marks)) : Call Γ M_Mo_ranIf 1 0 0 [.ref 0, .int v, .int 1] (hM m_at m_names m_status m_top m_bottom m_sort m_trayMany m_trays m_tape m_text m_taped m_size m_token m_from m_end m_value m_faultKind m_faultPlace m_faults m_seen m_areOdds m_opened m_depth m_counted m_eastBy m_northBy m_partBy m_wayFaults m_wayEast m_wayNorth m_olds m_wayMany m_oneOfSet m_twoOfSet m_farBy m_rowBy m_triedBy m_rowMany m_doneAt m_gotAt m_struckAt m_bestDeed m_misBy m_drawn m_ranSteps m_loops m_ran m_told1 m_isTold m_marks) Q := by
  subst hv
  refine call_intro (ls := [some (.ref 0), some (.int (nI w)), some (.int 1)]) rfl rfl rfl ?_
  refine wp_iload_n 1 d_Mo_ranIf_0 rfl rfl ?_
  refine wp_if_eq 14 4 d_Mo_ranIf_1 rfl (by decide) (fun h1 => ?_) (fun h1 => ?_)
  · exact absurd h1 (by decide)
  · refine wp_aload_n 5 d_Mo_ranIf_4 rfl rfl ?_
    refine wp_getfield 8 12 46 d_Mo_ranIf_5 rfl fl_Mo_95 rfl rfl ?_
    refine wp_iload_n 9 d_Mo_ranIf_8 rfl rfl ?_
    refine wp_dup2 10 d_Mo_ranIf_9 rfl rfl rfl ?_
    refine wp_ialoadN 11 d_Mo_ranIf_10 rfl rfl rfl (by omega) ?_
    refine wp_iconst 12 1 d_Mo_ranIf_11 rfl (by decide) ?_
    refine wp_iadd 13 d_Mo_ranIf_12 rfl ?_
    refine wp_iastoreN 14 d_Mo_ranIf_13 rfl rfl rfl (by omega) ?_
    refine hEq (hM m_at m_names m_status m_top m_bottom m_sort m_trayMany m_trays m_tape m_text m_taped m_size m_token m_from m_end m_value m_faultKind m_faultPlace m_faults m_seen m_areOdds m_opened m_depth m_counted m_eastBy m_northBy m_partBy m_wayFaults m_wayEast m_wayNorth m_olds m_wayMany m_oneOfSet m_twoOfSet m_farBy m_rowBy m_triedBy m_rowMany m_doneAt m_gotAt m_struckAt m_bestDeed m_misBy m_drawn m_ranSteps m_loops (upd m_ran w (m_ran w + 1)) m_told1 m_isTold m_marks) rfl ?_
    refine wp_iload_n 15 d_Mo_ranIf_14 rfl rfl ?_
    refine wp_zreturn d_Mo_ranIf_15 rfl (by first | rfl | exact nbP _) ?_
    exact hq

set_option maxRecDepth 100000 in
set_option maxHeartbeats 4000000 in
theorem c_ranIf0 {v : Int32} (hq : Q (some (.int 0)) (hM m_at m_names m_status m_top m_bottom m_sort m_trayMany m_trays m_tape m_text m_taped m_size m_token m_from m_end m_value m_faultKind m_faultPlace m_faults m_seen m_areOdds m_opened m_depth m_counted m_eastBy m_northBy m_partBy m_wayFaults m_wayEast m_wayNorth m_olds m_wayMany m_oneOfSet m_twoOfSet m_farBy m_rowBy m_triedBy m_rowMany m_doneAt m_gotAt m_struckAt m_bestDeed m_misBy m_drawn m_ranSteps m_loops m_ran m_told1 m_isTold m_marks)) : Call Γ M_Mo_ranIf 1 0 0 [.ref 0, .int v, .int 0] (hM m_at m_names m_status m_top m_bottom m_sort m_trayMany m_trays m_tape m_text m_taped m_size m_token m_from m_end m_value m_faultKind m_faultPlace m_faults m_seen m_areOdds m_opened m_depth m_counted m_eastBy m_northBy m_partBy m_wayFaults m_wayEast m_wayNorth m_olds m_wayMany m_oneOfSet m_twoOfSet m_farBy m_rowBy m_triedBy m_rowMany m_doneAt m_gotAt m_struckAt m_bestDeed m_misBy m_drawn m_ranSteps m_loops m_ran m_told1 m_isTold m_marks) Q := by
  refine call_intro (ls := [some (.ref 0), some (.int v), some (.int 0)]) rfl rfl rfl ?_
  refine wp_iload_n 1 d_Mo_ranIf_0 rfl rfl ?_
  refine wp_if_eq 14 4 d_Mo_ranIf_1 rfl (by decide) (fun h1 => ?_) (fun h1 => ?_)
  · refine wp_iload_n 15 d_Mo_ranIf_14 rfl rfl ?_
    refine wp_zreturn d_Mo_ranIf_15 rfl (by first | rfl | exact nbP _) ?_
    exact hq
  · exact absurd rfl h1

set_option maxRecDepth 100000 in
set_option maxHeartbeats 4000000 in
theorem c_Mo_draw {n : Nat} (h0n : 0 < n) (hn : n ≤ 16) (hq : Q (some (.int (drV m_drawn (nI n)))) (hM m_at m_names m_status m_top m_bottom m_sort m_trayMany m_trays m_tape m_text m_taped m_size m_token m_from m_end m_value m_faultKind m_faultPlace m_faults m_seen m_areOdds m_opened m_depth m_counted m_eastBy m_northBy m_partBy m_wayFaults m_wayEast m_wayNorth m_olds m_wayMany m_oneOfSet m_twoOfSet m_farBy m_rowBy m_triedBy m_rowMany m_doneAt m_gotAt m_struckAt m_bestDeed m_misBy (drS m_drawn) m_ranSteps m_loops m_ran m_told1 m_isTold m_marks)) : Call Γ M_Mo_draw 1 0 0 [.ref 0, .int (nI n)] (hM m_at m_names m_status m_top m_bottom m_sort m_trayMany m_trays m_tape m_text m_taped m_size m_token m_from m_end m_value m_faultKind m_faultPlace m_faults m_seen m_areOdds m_opened m_depth m_counted m_eastBy m_northBy m_partBy m_wayFaults m_wayEast m_wayNorth m_olds m_wayMany m_oneOfSet m_twoOfSet m_farBy m_rowBy m_triedBy m_rowMany m_doneAt m_gotAt m_struckAt m_bestDeed m_misBy m_drawn m_ranSteps m_loops m_ran m_told1 m_isTold m_marks) Q := by
  refine call_intro (ls := [some (.ref 0), some (.int (nI n))]) rfl rfl rfl ?_
  refine wp_aload_n 1 d_Mo_draw_0 rfl rfl ?_
  refine wp_aload_n 2 d_Mo_draw_1 rfl rfl ?_
  refine wp_getfield 5 12 43 d_Mo_draw_2 rfl fl_Mo_456 rfl rfl ?_
  refine wp_sipush 8 3277 d_Mo_draw_5 rfl (by decide) ?_
  refine wp_imul 9 d_Mo_draw_8 rfl ?_
  refine wp_sipush 12 11505 d_Mo_draw_9 rfl (by decide) ?_
  refine wp_iadd 13 d_Mo_draw_12 rfl ?_
  refine wp_ldcw 16 (65536 : Int32) d_Mo_draw_13 rfl ct_Mo_459 ?_
  refine wp_irem 17 d_Mo_draw_16 rfl (by decide) ?_
  refine wp_putfield 20 12 43 _ d_Mo_draw_17 rfl fp_Mo_456 rfl rfl (okP_int _) ?_
  refine hEq (hM m_at m_names m_status m_top m_bottom m_sort m_trayMany m_trays m_tape m_text m_taped m_size m_token m_from m_end m_value m_faultKind m_faultPlace m_faults m_seen m_areOdds m_opened m_depth m_counted m_eastBy m_northBy m_partBy m_wayFaults m_wayEast m_wayNorth m_olds m_wayMany m_oneOfSet m_twoOfSet m_farBy m_rowBy m_triedBy m_rowMany m_doneAt m_gotAt m_struckAt m_bestDeed m_misBy (drS m_drawn) m_ranSteps m_loops m_ran m_told1 m_isTold m_marks) rfl ?_
  refine wp_aload_n 21 d_Mo_draw_20 rfl rfl ?_
  refine wp_getfield 24 12 43 d_Mo_draw_21 rfl fl_Mo_456 rfl rfl ?_
  refine wp_bipush 26 8 d_Mo_draw_24 rfl (by decide) ?_
  refine wp_idiv 27 d_Mo_draw_26 rfl (by decide) ?_
  refine wp_iload_n 28 d_Mo_draw_27 rfl rfl ?_
  refine wp_irem 29 d_Mo_draw_28 rfl (nI_ne0 h0n (by omega)) ?_
  refine wp_ireturn d_Mo_draw_29 rfl ?_
  refine qI hq ?_
  unfold drV
  rw [if_pos (show (0 : Int32) < nI n from (nI_ltI (a := 0) (by omega) (by omega)).mpr h0n)]

set_option maxRecDepth 100000 in
set_option maxHeartbeats 4000000 in
theorem c_Mo_doesAny (S : ST_ t m_at m_ran m_drawn s) (hq : ∀ a2 r2 d2 d, DP t m_at m_ran s (stAny t.fr t.to_ t.ea t.no t.te t.nL t.od s) a2 r2 d2 d → Q (some (.int d)) (hM (a2) m_names m_status m_top m_bottom m_sort m_trayMany m_trays m_tape m_text m_taped m_size m_token m_from m_end m_value m_faultKind m_faultPlace m_faults m_seen m_areOdds m_opened m_depth m_counted m_eastBy m_northBy m_partBy m_wayFaults m_wayEast m_wayNorth m_olds m_wayMany m_oneOfSet m_twoOfSet m_farBy m_rowBy m_triedBy m_rowMany m_doneAt m_gotAt m_struckAt m_bestDeed m_misBy (d2) m_ranSteps m_loops (r2) m_told1 m_isTold m_marks)) : Call Γ M_Mo_doesAny 6 0 0 [.ref 0] (hM m_at m_names m_status m_top m_bottom m_sort m_trayMany m_trays m_tape m_text m_taped m_size m_token m_from m_end m_value m_faultKind m_faultPlace m_faults m_seen m_areOdds m_opened m_depth m_counted m_eastBy m_northBy m_partBy m_wayFaults m_wayEast m_wayNorth m_olds m_wayMany m_oneOfSet m_twoOfSet m_farBy m_rowBy m_triedBy m_rowMany m_doneAt m_gotAt m_struckAt m_bestDeed m_misBy m_drawn m_ranSteps m_loops m_ran m_told1 m_isTold m_marks) Q := by
  have V := S.1
  have hL12 : t.nL ≤ 12 := S.1.ok.hL
  have hdr0 : m_drawn = s.2.2.2.2.2.2 := S.2.2.1
  refine call_intro (ls := [some (.ref 0), none]) rfl rfl rfl ?_
  refine wp_aload_n 1 d_Mo_doesAny_0 rfl rfl ?_
  refine wp_getfield 4 12 0 d_Mo_doesAny_1 rfl fl_Mo_7 rfl rfl ?_
  refine wp_iconst 5 2 d_Mo_doesAny_4 rfl (by decide) ?_
  refine wp_iaload 6 d_Mo_doesAny_5 rfl rfl (vp_in_nI (n := 2) (N := 2332) (by omega) (by omega)) ?_
  rw [show m_at (2 : Int32).toNatClampNeg = nI t.nL from V.L]
  refine wp_if_ne 11 9 d_Mo_doesAny_6 rfl (by decide) (fun h6 => ?_) (fun h6 => ?_)
  · have hnl0 : 0 < t.nL := Nat.pos_of_ne_zero (fun z => h6 (by rw [z]; rfl))
    refine wp_aload_n 12 d_Mo_doesAny_11 rfl rfl ?_
    refine wp_aload_n 13 d_Mo_doesAny_12 rfl rfl ?_
    refine wp_getfield 16 12 0 d_Mo_doesAny_13 rfl fl_Mo_7 rfl rfl ?_
    refine wp_iconst 17 2 d_Mo_doesAny_16 rfl (by decide) ?_
    refine wp_iaload 18 d_Mo_doesAny_17 rfl rfl (vp_in_nI (n := 2) (N := 2332) (by omega) (by omega)) ?_
    rw [show m_at (2 : Int32).toNatClampNeg = nI t.nL from V.L]
    refine wp_V1 21 M_Mo_draw 1 d_Mo_doesAny_18 rfl mv_Mo_draw lk_Mo_460 rfl rfl rfl rfl rfl ?_
    refine c_Mo_draw hnl0 (by omega) ?_
    refine kI ?_
    obtain ⟨k, hk, ek⟩ := drV_ok S.2.2.2.1 (n := t.nL) (by omega) (by have := hL12; omega)
    rw [ek]
    refine wp_istore_1 22 d_Mo_doesAny_21 rfl rfl rfl ?_
    refine wp_aload_n 23 d_Mo_doesAny_22 rfl rfl ?_
    refine wp_bipush 25 16 d_Mo_doesAny_23 rfl (by decide) ?_
    refine wp_V1 28 M_Mo_draw 1 d_Mo_doesAny_25 rfl mv_Mo_draw lk_Mo_460 rfl rfl rfl rfl rfl ?_
    refine c_Mo_draw (n := 16) (by omega) (by omega) ?_
    refine kI ?_
    refine wp_aload_n 29 d_Mo_doesAny_28 rfl rfl ?_
    refine wp_getfield 32 12 0 d_Mo_doesAny_29 rfl fl_Mo_7 rfl rfl ?_
    refine wp_iconst 33 3 d_Mo_doesAny_32 rfl (by decide) ?_
    refine wp_iaload 34 d_Mo_doesAny_33 rfl rfl (vp_in_nI (n := 3) (N := 2332) (by omega) (by omega)) ?_
    rw [show m_at (3 : Int32).toNatClampNeg = t.od from V.od]
    refine wp_icmp_lt 48 37 d_Mo_doesAny_34 rfl (by decide) (fun h34 => ?_) (fun h34 => ?_)
    · have h34_ : drV (drS s.2.2.2.2.2.2) 16 < t.od := by rw [← hdr0]; exact h34
      refine wp_aload_n 49 d_Mo_doesAny_48 rfl rfl ?_
      refine wp_aload_n 50 d_Mo_doesAny_49 rfl rfl ?_
      refine wp_getfield 53 12 0 d_Mo_doesAny_50 rfl fl_Mo_7 rfl rfl ?_
      refine wp_bipush 55 6 d_Mo_doesAny_53 rfl (by decide) ?_
      refine wp_iaload 56 d_Mo_doesAny_55 rfl rfl (vp_in_nI (n := 6) (N := 2332) (by omega) (by omega)) ?_
      rw [show m_at (6 : Int32).toNatClampNeg = s.2.1 from V.sk]
      refine wp_iload_n 57 d_Mo_doesAny_56 rfl rfl ?_
      refine wp_V2 60 M_Mo_isIn 1 d_Mo_doesAny_57 rfl mv_Mo_isIn lk_Mo_281 rfl rfl rfl rfl rfl ?_
      refine c_Mo_isIn ?_
      refine kI ?_
      (first | refine wp_ifP_eq 76 63 d_Mo_doesAny_60 rfl (by decide) (fun h60 => ?_) (fun h60 => ?_) | refine wp_if_eq 76 63 d_Mo_doesAny_60 rfl (by decide) (fun h60 => ?_) (fun h60 => ?_))
      · refine wp_aload_n 77 d_Mo_doesAny_76 rfl rfl ?_
        refine wp_iconst 78 2 d_Mo_doesAny_77 rfl (by decide) ?_
        refine wp_aload_n 79 d_Mo_doesAny_78 rfl rfl ?_
        refine wp_iload_n 80 d_Mo_doesAny_79 rfl rfl ?_
        refine wp_V1 83 M_Mo_strikes 3 d_Mo_doesAny_80 rfl mv_Mo_strikes lk_Mo_360 rfl rfl rfl rfl rfl ?_
        refine c_Mo_strikes V (fun h9 => ?_) (fun h9 => ?_)
        · refine kI ?_
          refine wp_V2 86 M_Mo_ranIf 1 d_Mo_doesAny_83 rfl mv_Mo_ranIf lk_Mo_463 rfl rfl rfl rfl rfl ?_
          refine c_ranIf0 ?_
          refine kI ?_
          refine wp_zreturn d_Mo_doesAny_86 rfl (by first | rfl | exact nbP _) ?_
          have hek : drV s.2.2.2.2.2.2 (nI t.nL) = nI k := by rw [← hdr0]; exact ek
          have e : stAny t.fr t.to_ t.ea t.no t.te t.nL t.od s = stStr t.nL (nI k) (stDr2 s) := (if_neg h6).trans ((if_pos h34_).trans ((if_neg (by rw [hek]; exact h60)).trans (by rw [hek])))
          have hd := DA_s0 S h9
          rw [← e] at hd
          exact hq _ _ _ 0 hd
        · refine kI ?_
          refine wp_V2 86 M_Mo_ranIf 1 d_Mo_doesAny_83 rfl mv_Mo_ranIf lk_Mo_463 rfl rfl rfl rfl rfl ?_
          refine c_ranIf1 2 rfl (by omega) ?_
          refine kI ?_
          refine wp_zreturn d_Mo_doesAny_86 rfl (by first | rfl | exact nbP _) ?_
          have hek : drV s.2.2.2.2.2.2 (nI t.nL) = nI k := by rw [← hdr0]; exact ek
          have e : stAny t.fr t.to_ t.ea t.no t.te t.nL t.od s = stStr t.nL (nI k) (stDr2 s) := (if_neg h6).trans ((if_pos h34_).trans ((if_neg (by rw [hek]; exact h60)).trans (by rw [hek])))
          have hd := DA_st S (by omega) h9
          rw [← e] at hd
          exact hq _ _ _ 1 hd
      · refine wp_aload_n 64 d_Mo_doesAny_63 rfl rfl ?_
        refine wp_iconst 65 3 d_Mo_doesAny_64 rfl (by decide) ?_
        refine wp_aload_n 66 d_Mo_doesAny_65 rfl rfl ?_
        refine wp_iload_n 67 d_Mo_doesAny_66 rfl rfl ?_
        refine wp_V1 70 M_Mo_restores1 2 d_Mo_doesAny_67 rfl mv_Mo_restores1 lk_Mo_366 rfl rfl rfl rfl rfl ?_
        refine c_Mo_restores1 V (fun h9 => ?_) (fun h9 => ?_)
        · refine kI ?_
          refine wp_V2 73 M_Mo_ranIf 1 d_Mo_doesAny_70 rfl mv_Mo_ranIf lk_Mo_463 rfl rfl rfl rfl rfl ?_
          refine c_ranIf0 ?_
          refine kI ?_
          refine wp_goto 86 d_Mo_doesAny_73 (by decide) ?_
          refine wp_zreturn d_Mo_doesAny_86 rfl (by first | rfl | exact nbP _) ?_
          have hek : drV s.2.2.2.2.2.2 (nI t.nL) = nI k := by rw [← hdr0]; exact ek
          have e : stAny t.fr t.to_ t.ea t.no t.te t.nL t.od s = stRes t.nL (nI k) (stDr2 s) := (if_neg h6).trans ((if_pos h34_).trans ((if_pos (by rw [hek]; exact h60)).trans (by rw [hek])))
          have hd := DA_r0 S h9
          rw [← e] at hd
          exact hq _ _ _ 0 hd
        · refine kI ?_
          refine wp_V2 73 M_Mo_ranIf 1 d_Mo_doesAny_70 rfl mv_Mo_ranIf lk_Mo_463 rfl rfl rfl rfl rfl ?_
          refine c_ranIf1 3 rfl (by omega) ?_
          refine kI ?_
          refine wp_goto 86 d_Mo_doesAny_73 (by decide) ?_
          refine wp_zreturn d_Mo_doesAny_86 rfl (by first | rfl | exact nbP _) ?_
          have hek : drV s.2.2.2.2.2.2 (nI t.nL) = nI k := by rw [← hdr0]; exact ek
          have e : stAny t.fr t.to_ t.ea t.no t.te t.nL t.od s = stRes t.nL (nI k) (stDr2 s) := (if_neg h6).trans ((if_pos h34_).trans ((if_pos (by rw [hek]; exact h60)).trans (by rw [hek])))
          have hd := DA_re S (by omega) h9
          rw [← e] at hd
          exact hq _ _ _ 1 hd
    · have h34_ : ¬ drV (drS s.2.2.2.2.2.2) 16 < t.od := by rw [← hdr0]; exact h34
      refine wp_aload_n 38 d_Mo_doesAny_37 rfl rfl ?_
      refine wp_iconst 39 1 d_Mo_doesAny_38 rfl (by decide) ?_
      refine wp_aload_n 40 d_Mo_doesAny_39 rfl rfl ?_
      refine wp_iload_n 41 d_Mo_doesAny_40 rfl rfl ?_
      refine wp_V1 44 M_Mo_goesAlong 5 d_Mo_doesAny_41 rfl mv_Mo_goesAlong lk_Mo_378 rfl rfl rfl rfl rfl ?_
      refine c_Mo_goesAlong V (by omega) (fun h9 => ?_) (fun h9 => ?_)
      · refine kI ?_
        refine wp_V2 47 M_Mo_ranIf 1 d_Mo_doesAny_44 rfl mv_Mo_ranIf lk_Mo_463 rfl rfl rfl rfl rfl ?_
        refine c_ranIf0 ?_
        refine kI ?_
        refine wp_zreturn d_Mo_doesAny_47 rfl (by first | rfl | exact nbP _) ?_
        have hek : drV s.2.2.2.2.2.2 (nI t.nL) = nI k := by rw [← hdr0]; exact ek
        have e : stAny t.fr t.to_ t.ea t.no t.te t.nL t.od s = stGo t.fr t.to_ t.ea t.no t.te t.nL (nI k) (stDr2 s) := (if_neg h6).trans ((if_neg h34_).trans (by rw [hek]))
        have hd := DA_g0 S h9
        rw [← e] at hd
        exact hq _ _ _ 0 hd
      · refine kI ?_
        refine wp_V2 47 M_Mo_ranIf 1 d_Mo_doesAny_44 rfl mv_Mo_ranIf lk_Mo_463 rfl rfl rfl rfl rfl ?_
        refine c_ranIf1 1 rfl (by omega) ?_
        refine kI ?_
        refine wp_zreturn d_Mo_doesAny_47 rfl (by first | rfl | exact nbP _) ?_
        have hek : drV s.2.2.2.2.2.2 (nI t.nL) = nI k := by rw [← hdr0]; exact ek
        have e : stAny t.fr t.to_ t.ea t.no t.te t.nL t.od s = stGo t.fr t.to_ t.ea t.no t.te t.nL (nI k) (stDr2 s) := (if_neg h6).trans ((if_neg h34_).trans (by rw [hek]))
        have hd := DA_go S (by omega) h9
        rw [← e] at hd
        exact hq _ _ _ 1 hd
  · refine wp_iconst 10 0 d_Mo_doesAny_9 rfl (by decide) ?_
    refine wp_zreturn d_Mo_doesAny_10 rfl (by first | rfl | exact nbP _) ?_
    have e : stAny t.fr t.to_ t.ea t.no t.te t.nL t.od s = (s.1, s.2.1, s.2.2.1, s.2.2.2.1, ctS s.2.2.2.2.1 0, s.2.2.2.2.2) := if_pos h6
    have hd := DP_0 S
    rw [← e] at hd
    exact hq _ _ _ 0 hd

set_option maxRecDepth 100000 in
set_option maxHeartbeats 4000000 in
theorem c_Mo_believesBy {w : Nat} {f : Int32} (V : vT m_at t) (hw : w < t.nW) (hq1 : ¬ t.fa w = f → Q (some (.int 1)) (hM (beU m_at w f) m_names m_status m_top m_bottom m_sort m_trayMany m_trays m_tape m_text m_taped m_size m_token m_from m_end m_value m_faultKind m_faultPlace m_faults m_seen m_areOdds m_opened m_depth m_counted m_eastBy m_northBy m_partBy m_wayFaults m_wayEast m_wayNorth m_olds m_wayMany m_oneOfSet m_twoOfSet m_farBy m_rowBy m_triedBy m_rowMany m_doneAt m_gotAt m_struckAt m_bestDeed m_misBy m_drawn m_ranSteps m_loops m_ran m_told1 m_isTold m_marks)) (hq0 : t.fa w = f → Q (some (.int 0)) (hM (beU m_at w f) m_names m_status m_top m_bottom m_sort m_trayMany m_trays m_tape m_text m_taped m_size m_token m_from m_end m_value m_faultKind m_faultPlace m_faults m_seen m_areOdds m_opened m_depth m_counted m_eastBy m_northBy m_partBy m_wayFaults m_wayEast m_wayNorth m_olds m_wayMany m_oneOfSet m_twoOfSet m_farBy m_rowBy m_triedBy m_rowMany m_doneAt m_gotAt m_struckAt m_bestDeed m_misBy m_drawn m_ranSteps m_loops m_ran m_told1 m_isTold m_marks)) : Call Γ M_Mo_believesBy 4 0 0 [.ref 0, .int (nI w), .int f] (hM m_at m_names m_status m_top m_bottom m_sort m_trayMany m_trays m_tape m_text m_taped m_size m_token m_from m_end m_value m_faultKind m_faultPlace m_faults m_seen m_areOdds m_opened m_depth m_counted m_eastBy m_northBy m_partBy m_wayFaults m_wayEast m_wayNorth m_olds m_wayMany m_oneOfSet m_twoOfSet m_farBy m_rowBy m_triedBy m_rowMany m_doneAt m_gotAt m_struckAt m_bestDeed m_misBy m_drawn m_ranSteps m_loops m_ran m_told1 m_isTold m_marks) Q := by
  have hW4 := V.ok.hW
  refine call_intro (ls := [some (.ref 0), some (.int (nI w)), some (.int f), none]) rfl rfl rfl ?_
  refine wp_aload_n 1 d_Mo_believesBy_0 rfl rfl ?_
  refine wp_iload_n 2 d_Mo_believesBy_1 rfl rfl ?_
  refine wp_V1 5 M_Mo_faultOf 3 d_Mo_believesBy_2 rfl mv_Mo_faultOf lk_Mo_343 rfl rfl rfl rfl rfl ?_
  refine c_Mo_faultOf V (inR_N hw (by omega)) ?_
  rw [nI_clamp (by omega : w < 2 ^ 31)]
  refine kI ?_
  refine wp_iload_n 6 d_Mo_believesBy_5 rfl rfl ?_
  refine wp_icmp_eq 13 9 d_Mo_believesBy_6 rfl (by decide) (fun h6 => ?_) (fun h6 => ?_)
  · refine wp_iconst 14 0 d_Mo_believesBy_13 rfl (by decide) ?_
    refine wp_istore_3 15 d_Mo_believesBy_14 rfl rfl rfl ?_
    refine wp_aload_n 16 d_Mo_believesBy_15 rfl rfl ?_
    refine wp_iload_n 17 d_Mo_believesBy_16 rfl rfl ?_
    refine wp_iload_n 18 d_Mo_believesBy_17 rfl rfl ?_
    refine wp_V2 21 M_Mo_believes 2 d_Mo_believesBy_18 rfl mv_Mo_believes lk_Mo_371 rfl rfl rfl rfl rfl ?_
    refine c_Mo_believes (by omega) ?_
    refine kV ?_
    refine wp_iload_n 22 d_Mo_believesBy_21 rfl rfl ?_
    refine wp_zreturn d_Mo_believesBy_22 rfl (by first | rfl | exact nbP _) ?_
    exact hq0 h6
  · refine wp_iconst 10 1 d_Mo_believesBy_9 rfl (by decide) ?_
    refine wp_goto 14 d_Mo_believesBy_10 (by decide) ?_
    refine wp_istore_3 15 d_Mo_believesBy_14 rfl rfl rfl ?_
    refine wp_aload_n 16 d_Mo_believesBy_15 rfl rfl ?_
    refine wp_iload_n 17 d_Mo_believesBy_16 rfl rfl ?_
    refine wp_iload_n 18 d_Mo_believesBy_17 rfl rfl ?_
    refine wp_V2 21 M_Mo_believes 2 d_Mo_believesBy_18 rfl mv_Mo_believes lk_Mo_371 rfl rfl rfl rfl rfl ?_
    refine c_Mo_believes (by omega) ?_
    refine kV ?_
    refine wp_iload_n 22 d_Mo_believesBy_21 rfl rfl ?_
    refine wp_zreturn d_Mo_believesBy_22 rfl (by first | rfl | exact nbP _) ?_
    exact hq1 h6

set_option maxRecDepth 100000 in
set_option maxHeartbeats 4000000 in
theorem c_Mo_does {p : Nat} {k f c : Int32} (S : ST_ t m_at m_ran m_drawn s) (hR : ROW t.nW m_at p k f c) (hp : p + 6 ≤ 2332) (hq : ∀ a2 r2 d2 d, DP t m_at m_ran s (stD t k f c s) a2 r2 d2 d → Q (some (.int d)) (hM (a2) m_names m_status m_top m_bottom m_sort m_trayMany m_trays m_tape m_text m_taped m_size m_token m_from m_end m_value m_faultKind m_faultPlace m_faults m_seen m_areOdds m_opened m_depth m_counted m_eastBy m_northBy m_partBy m_wayFaults m_wayEast m_wayNorth m_olds m_wayMany m_oneOfSet m_twoOfSet m_farBy m_rowBy m_triedBy m_rowMany m_doneAt m_gotAt m_struckAt m_bestDeed m_misBy (d2) m_ranSteps m_loops (r2) m_told1 m_isTold m_marks)) : Call Γ M_Mo_does 7 0 0 [.ref 0, .int (nI p)] (hM m_at m_names m_status m_top m_bottom m_sort m_trayMany m_trays m_tape m_text m_taped m_size m_token m_from m_end m_value m_faultKind m_faultPlace m_faults m_seen m_areOdds m_opened m_depth m_counted m_eastBy m_northBy m_partBy m_wayFaults m_wayEast m_wayNorth m_olds m_wayMany m_oneOfSet m_twoOfSet m_farBy m_rowBy m_triedBy m_rowMany m_doneAt m_gotAt m_struckAt m_bestDeed m_misBy m_drawn m_ranSteps m_loops m_ran m_told1 m_isTold m_marks) Q := by
  have V := S.1
  have hL12 : t.nL ≤ 12 := S.1.ok.hL
  have hW4 : t.nW ≤ 4 := S.1.ok.hW
  refine call_intro (ls := [some (.ref 0), some (.int (nI p)), none]) rfl rfl rfl ?_
  refine wp_aload_n 1 d_Mo_does_0 rfl rfl ?_
  refine wp_getfield 4 12 0 d_Mo_does_1 rfl fl_Mo_7 rfl rfl ?_
  refine wp_iload_n 5 d_Mo_does_4 rfl rfl ?_
  refine wp_iconst 6 1 d_Mo_does_5 rfl (by decide) ?_
  refine wp_iadd 7 d_Mo_does_6 rfl ?_
  rw [nI_1]
  refine wp_ialoadN 8 d_Mo_does_7 rfl rfl rfl (by omega) ?_
  refine wp_istore_2 9 d_Mo_does_8 rfl rfl rfl ?_
  refine wp_aload_n 10 d_Mo_does_9 rfl rfl ?_
  refine wp_getfield 13 12 0 d_Mo_does_10 rfl fl_Mo_7 rfl rfl ?_
  refine wp_iload_n 14 d_Mo_does_13 rfl rfl ?_
  refine wp_ialoadN 15 d_Mo_does_14 rfl rfl rfl (by omega) ?_
  by_cases h15_0 : m_at p = 11
  · refine wp_tabIn (off := 33) 48 11 d_Mo_does_15 h15_0 (by decide) (by decide) (by decide) (by decide) ?_
    obtain ⟨rfl, ⟨l, hl, rfl⟩, hr3⟩ := ROW_11 hR h15_0
    rw [show m_at (p + 1) = nI l from hr3]
    refine wp_aload_n 49 d_Mo_does_48 rfl rfl ?_
    refine wp_iconst 50 1 d_Mo_does_49 rfl (by decide) ?_
    refine wp_aload_n 51 d_Mo_does_50 rfl rfl ?_
    refine wp_iload_n 52 d_Mo_does_51 rfl rfl ?_
    refine wp_V1 55 M_Mo_goesAlong 5 d_Mo_does_52 rfl mv_Mo_goesAlong lk_Mo_378 rfl rfl rfl rfl rfl ?_
    refine c_Mo_goesAlong V hl (fun h9 => ?_) (fun h9 => ?_)
    · refine kI ?_
      refine wp_V2 58 M_Mo_ranIf 1 d_Mo_does_55 rfl mv_Mo_ranIf lk_Mo_463 rfl rfl rfl rfl rfl ?_
      refine c_ranIf0 ?_
      refine kI ?_
      refine wp_zreturn d_Mo_does_58 rfl (by first | rfl | exact nbP _) ?_
      have e : stD t 0 (nI l) c s = stGo t.fr t.to_ t.ea t.no t.te t.nL (nI l) s := (if_pos rfl)
      have hd := DP_g0 S h9
      rw [← e] at hd
      exact hq _ _ _ 0 hd
    · refine kI ?_
      refine wp_V2 58 M_Mo_ranIf 1 d_Mo_does_55 rfl mv_Mo_ranIf lk_Mo_463 rfl rfl rfl rfl rfl ?_
      refine c_ranIf1 1 rfl (by omega) ?_
      refine kI ?_
      refine wp_zreturn d_Mo_does_58 rfl (by first | rfl | exact nbP _) ?_
      have e : stD t 0 (nI l) c s = stGo t.fr t.to_ t.ea t.no t.te t.nL (nI l) s := (if_pos rfl)
      have hd := DP_go S hl h9
      rw [← e] at hd
      exact hq _ _ _ 1 hd
  by_cases h15_1 : m_at p = 12
  · refine wp_tabIn (off := 44) 59 12 d_Mo_does_15 h15_1 (by decide) (by decide) (by decide) (by decide) ?_
    obtain ⟨rfl, ⟨l, hl, rfl⟩, hr3⟩ := ROW_12 hR h15_1
    rw [show m_at (p + 1) = nI l from hr3]
    refine wp_aload_n 60 d_Mo_does_59 rfl rfl ?_
    refine wp_iconst 61 2 d_Mo_does_60 rfl (by decide) ?_
    refine wp_aload_n 62 d_Mo_does_61 rfl rfl ?_
    refine wp_iload_n 63 d_Mo_does_62 rfl rfl ?_
    refine wp_V1 66 M_Mo_strikes 3 d_Mo_does_63 rfl mv_Mo_strikes lk_Mo_360 rfl rfl rfl rfl rfl ?_
    refine c_Mo_strikes V (fun h9 => ?_) (fun h9 => ?_)
    · refine kI ?_
      refine wp_V2 69 M_Mo_ranIf 1 d_Mo_does_66 rfl mv_Mo_ranIf lk_Mo_463 rfl rfl rfl rfl rfl ?_
      refine c_ranIf0 ?_
      refine kI ?_
      refine wp_zreturn d_Mo_does_69 rfl (by first | rfl | exact nbP _) ?_
      have e : stD t 1 (nI l) c s = stStr t.nL (nI l) s := (if_neg (by decide)).trans ((if_pos rfl))
      have hd := DP_s0 S h9
      rw [← e] at hd
      exact hq _ _ _ 0 hd
    · refine kI ?_
      refine wp_V2 69 M_Mo_ranIf 1 d_Mo_does_66 rfl mv_Mo_ranIf lk_Mo_463 rfl rfl rfl rfl rfl ?_
      refine c_ranIf1 2 rfl (by omega) ?_
      refine kI ?_
      refine wp_zreturn d_Mo_does_69 rfl (by first | rfl | exact nbP _) ?_
      have e : stD t 1 (nI l) c s = stStr t.nL (nI l) s := (if_neg (by decide)).trans ((if_pos rfl))
      have hd := DP_st S hl h9
      rw [← e] at hd
      exact hq _ _ _ 1 hd
  by_cases h15_2 : m_at p = 13
  · refine wp_tabIn (off := 55) 70 13 d_Mo_does_15 h15_2 (by decide) (by decide) (by decide) (by decide) ?_
    obtain ⟨rfl, ⟨l, hl, rfl⟩, hr3⟩ := ROW_13 hR h15_2
    rw [show m_at (p + 1) = nI l from hr3]
    refine wp_aload_n 71 d_Mo_does_70 rfl rfl ?_
    refine wp_iconst 72 3 d_Mo_does_71 rfl (by decide) ?_
    refine wp_aload_n 73 d_Mo_does_72 rfl rfl ?_
    refine wp_iload_n 74 d_Mo_does_73 rfl rfl ?_
    refine wp_V1 77 M_Mo_restores1 2 d_Mo_does_74 rfl mv_Mo_restores1 lk_Mo_366 rfl rfl rfl rfl rfl ?_
    refine c_Mo_restores1 V (fun h9 => ?_) (fun h9 => ?_)
    · refine kI ?_
      refine wp_V2 80 M_Mo_ranIf 1 d_Mo_does_77 rfl mv_Mo_ranIf lk_Mo_463 rfl rfl rfl rfl rfl ?_
      refine c_ranIf0 ?_
      refine kI ?_
      refine wp_zreturn d_Mo_does_80 rfl (by first | rfl | exact nbP _) ?_
      have e : stD t 2 (nI l) c s = stRes t.nL (nI l) s := (if_neg (by decide)).trans ((if_neg (by decide)).trans ((if_pos rfl)))
      have hd := DP_r0 S h9
      rw [← e] at hd
      exact hq _ _ _ 0 hd
    · refine kI ?_
      refine wp_V2 80 M_Mo_ranIf 1 d_Mo_does_77 rfl mv_Mo_ranIf lk_Mo_463 rfl rfl rfl rfl rfl ?_
      refine c_ranIf1 3 rfl (by omega) ?_
      refine kI ?_
      refine wp_zreturn d_Mo_does_80 rfl (by first | rfl | exact nbP _) ?_
      have e : stD t 2 (nI l) c s = stRes t.nL (nI l) s := (if_neg (by decide)).trans ((if_neg (by decide)).trans ((if_pos rfl)))
      have hd := DP_re S hl h9
      rw [← e] at hd
      exact hq _ _ _ 1 hd
  by_cases h15_3 : m_at p = 14
  · refine wp_tabIn (off := 66) 81 14 d_Mo_does_15 h15_3 (by decide) (by decide) (by decide) (by decide) ?_
    obtain ⟨rfl, hr3, hr4, hr5, hr6⟩ := ROW_14 hR h15_3
    obtain ⟨l, hl, rfl⟩ := inR_ex hr5 (by omega)
    rw [show m_at (p + 1) = nI l from hr3]
    refine wp_aload_n 82 d_Mo_does_81 rfl rfl ?_
    refine wp_iload_n 83 d_Mo_does_82 rfl rfl ?_
    refine wp_aload_n 84 d_Mo_does_83 rfl rfl ?_
    refine wp_getfield 87 12 0 d_Mo_does_84 rfl fl_Mo_7 rfl rfl ?_
    refine wp_iload_n 88 d_Mo_does_87 rfl rfl ?_
    refine wp_iconst 89 2 d_Mo_does_88 rfl (by decide) ?_
    refine wp_iadd 90 d_Mo_does_89 rfl ?_
    rw [show nI p + 2 = nI (p + 2) from nI_add p 2]
    refine wp_ialoadN 91 d_Mo_does_90 rfl rfl rfl (by omega) ?_
    rw [hr4]
    refine wp_V2 94 M_Mo_believesBy 4 d_Mo_does_91 rfl mv_Mo_believesBy lk_Mo_467 rfl rfl rfl rfl rfl ?_
    refine c_Mo_believesBy V hl (fun h9 => ?_) (fun h9 => ?_)
    · refine kI ?_
      refine wp_zreturn d_Mo_does_94 rfl (by first | rfl | exact nbP _) ?_
      have e : stD t 3 (nI l) c s = stBel t.nW (nI l) c s := (if_neg (by decide)).trans ((if_neg (by decide)).trans ((if_neg (by decide)).trans ((if_pos rfl))))
      have hd := DP_b S hl hr6
      rw [← e, if_neg (show ¬ s.1 l = c from h9)] at hd
      exact hq _ _ _ 1 hd
    · refine kI ?_
      refine wp_zreturn d_Mo_does_94 rfl (by first | rfl | exact nbP _) ?_
      have e : stD t 3 (nI l) c s = stBel t.nW (nI l) c s := (if_neg (by decide)).trans ((if_neg (by decide)).trans ((if_neg (by decide)).trans ((if_pos rfl))))
      have hd := DP_b S hl hr6
      rw [← e, if_pos (show s.1 l = c from h9)] at hd
      exact hq _ _ _ 0 hd
  by_cases h15_4 : m_at p = 15
  · refine wp_tabIn (off := 80) 95 15 d_Mo_does_15 h15_4 (by decide) (by decide) (by decide) (by decide) ?_
    obtain rfl := ROW_15 hR h15_4
    refine wp_aload_n 96 d_Mo_does_95 rfl rfl ?_
    refine wp_V0 99 M_Mo_doesAny 6 d_Mo_does_96 rfl mv_Mo_doesAny lk_Mo_470 rfl rfl rfl rfl rfl ?_
    refine c_Mo_doesAny S (fun a2 r2 d2 d hd => ?_)
    refine kI ?_
    refine wp_zreturn d_Mo_does_99 rfl (by rcases hd.2.2.2.2.2.2.2.2 with z | z <;> rw [z] <;> rfl) ?_
    have e : stD t 4 f c s = stAny t.fr t.to_ t.ea t.no t.te t.nL t.od s := (if_neg (by decide)).trans ((if_neg (by decide)).trans ((if_neg (by decide)).trans ((if_neg (by decide)).trans ((if_pos rfl)))))
    exact hq _ _ _ d (by rw [e]; exact hd)
  refine wp_tabOut 100 d_Mo_does_15 (sw_o11 h15_0 h15_1 h15_2 h15_3 h15_4) (by decide) ?_
  have hk9 := ROW_d hR h15_0 h15_1 h15_2 h15_3 h15_4
  refine wp_iconst 101 1 d_Mo_does_100 rfl (by decide) ?_
  refine wp_zreturn d_Mo_does_101 rfl (by first | rfl | exact nbP _) ?_
  have e : stD t k f c s = s := (if_neg hk9.1).trans ((if_neg hk9.2.1).trans ((if_neg hk9.2.2.1).trans ((if_neg hk9.2.2.2.1).trans (if_neg hk9.2.2.2.2))))
  have hd := DP_n S
  rw [← e] at hd
  exact hq _ _ _ 1 (by rw [e] at hd ⊢; exact hd)

end TA7
