section TA7
variable {Γ : Gm} {Q : Option Value → LH → Prop} {m_at m_sort m_trayMany m_tape m_text m_opened m_eastBy m_northBy m_partBy m_wayFaults m_wayEast m_wayNorth m_olds m_farBy m_rowBy m_triedBy m_doneAt m_gotAt m_struckAt m_bestDeed m_loops m_ran m_told1 : Nat → Int32} {m_names m_trays m_misBy : Nat → Int64} {m_status m_taped m_size m_token m_from m_end m_value m_faultKind m_faultPlace m_faults m_seen m_areOdds m_depth m_counted m_wayMany m_oneOfSet m_twoOfSet m_rowMany m_drawn m_ranSteps m_isTold m_marks : Int32} {m_top m_bottom : Int64} {t : TW} {s : LSt}
set_option maxRecDepth 100000 in
set_option maxHeartbeats 4000000 in
theorem c_ranIf1 (w : Nat) {v : Int32} (hv : v = nI w) (hw : w < 5) (hq : Q (some (.int 1)) (hM m_at m_names m_status m_top m_bottom m_sort m_trayMany m_trays m_tape m_text m_taped m_size m_token m_from m_end m_value m_faultKind m_faultPlace m_faults m_seen m_areOdds m_opened m_depth m_counted m_eastBy m_northBy m_partBy m_wayFaults m_wayEast m_wayNorth m_olds m_wayMany m_oneOfSet m_twoOfSet m_farBy m_rowBy m_triedBy m_rowMany m_doneAt m_gotAt m_struckAt m_bestDeed m_misBy m_drawn m_ranSteps m_loops (upd m_ran w (m_ran w + 1)) m_told1 m_isTold m_marks)) : Call Γ M_Mo_ranIf 1 0 0 [.ref 0, .int v, .int 1] (hM m_at m_names m_status m_top m_bottom m_sort m_trayMany m_trays m_tape m_text m_taped m_size m_token m_from m_end m_value m_faultKind m_faultPlace m_faults m_seen m_areOdds m_opened m_depth m_counted m_eastBy m_northBy m_partBy m_wayFaults m_wayEast m_wayNorth m_olds m_wayMany m_oneOfSet m_twoOfSet m_farBy m_rowBy m_triedBy m_rowMany m_doneAt m_gotAt m_struckAt m_bestDeed m_misBy m_drawn m_ranSteps m_loops m_ran m_told1 m_isTold m_marks) Q := by
  subst hv
  refine call_intro (ls := [some (.ref 0), some (.int (nI w)), some (.int 1)]) rfl rfl rfl ?_
  refine wp_iload_n 1 d_Mo_ranIf_0 rfl rfl ?_
  refine wp_if_eq 14 4 d_Mo_ranIf_1 rfl (by decide) (fun h1 => ?_) (fun h1 => ?_)
  · exact absurd h1 (by decide)
  · refine wp_aload_n 5 d_Mo_ranIf_4 rfl rfl ?_
    refine wp_getfield 8 12 46 d_Mo_ranIf_5 rfl fl_Mo_95 rfl rfl ?_
    refine wp_iload_n 9 d_Mo_ranIf_8 rfl rfl ?_
    refine wp_dup2 10 d_Mo_ranIf_9 rfl rfl rfl ?_
    refine wp_ialoadN 11 d_Mo_ranIf_10 rfl rfl rfl (by omega) ?_
    refine wp_iconst 12 1 d_Mo_ranIf_11 rfl (by decide) ?_
    refine wp_iadd 13 d_Mo_ranIf_12 rfl ?_
    refine wp_iastoreN 14 d_Mo_ranIf_13 rfl rfl rfl (by omega) ?_
    refine hEq (hM m_at m_names m_status m_top m_bottom m_sort m_trayMany m_trays m_tape m_text m_taped m_size m_token m_from m_end m_value m_faultKind m_faultPlace m_faults m_seen m_areOdds m_opened m_depth m_counted m_eastBy m_northBy m_partBy m_wayFaults m_wayEast m_wayNorth m_olds m_wayMany m_oneOfSet m_twoOfSet m_farBy m_rowBy m_triedBy m_rowMany m_doneAt m_gotAt m_struckAt m_bestDeed m_misBy m_drawn m_ranSteps m_loops (upd m_ran w (m_ran w + 1)) m_told1 m_isTold m_marks) rfl ?_
    refine wp_iload_n 15 d_Mo_ranIf_14 rfl rfl ?_
    refine wp_zreturn d_Mo_ranIf_15 rfl (by first | rfl | exact nbP _) ?_
    exact hq

set_option maxRecDepth 100000 in
set_option maxHeartbeats 4000000 in
theorem c_ranIf0 {v : Int32} (hq : Q (some (.int 0)) (hM m_at m_names m_status m_top m_bottom m_sort m_trayMany m_trays m_tape m_text m_taped m_size m_token m_from m_end m_value m_faultKind m_faultPlace m_faults m_seen m_areOdds m_opened m_depth m_counted m_eastBy m_northBy m_partBy m_wayFaults m_wayEast m_wayNorth m_olds m_wayMany m_oneOfSet m_twoOfSet m_farBy m_rowBy m_triedBy m_rowMany m_doneAt m_gotAt m_struckAt m_bestDeed m_misBy m_drawn m_ranSteps m_loops m_ran m_told1 m_isTold m_marks)) : Call Γ M_Mo_ranIf 1 0 0 [.ref 0, .int v, .int 0] (hM m_at m_names m_status m_top m_bottom m_sort m_trayMany m_trays m_tape m_text m_taped m_size m_token m_from m_end m_value m_faultKind m_faultPlace m_faults m_seen m_areOdds m_opened m_depth m_counted m_eastBy m_northBy m_partBy m_wayFaults m_wayEast m_wayNorth m_olds m_wayMany m_oneOfSet m_twoOfSet m_farBy m_rowBy m_triedBy m_rowMany m_doneAt m_gotAt m_struckAt m_bestDeed m_misBy m_drawn m_ranSteps m_loops m_ran m_told1 m_isTold m_marks) Q := by
  refine call_intro (ls := [some (.ref 0), some (.int v), some (.int 0)]) rfl rfl rfl ?_
  refine wp_iload_n 1 d_Mo_ranIf_0 rfl rfl ?_
  refine wp_if_eq 14 4 d_Mo_ranIf_1 rfl (by decide) (fun h1 => ?_) (fun h1 => ?_)
  · refine wp_iload_n 15 d_Mo_ranIf_14 rfl rfl ?_
    refine wp_zreturn d_Mo_ranIf_15 rfl (by first | rfl | exact nbP _) ?_
    exact hq
  · exact absurd rfl h1

set_option maxRecDepth 100000 in
set_option maxHeartbeats 4000000 in
theorem c_Mo_draw {n : Nat} (h0n : 0 < n) (hn : n ≤ 16) (hq : Q (some (.int (drV m_drawn (nI n)))) (hM m_at m_names m_status m_top m_bottom m_sort m_trayMany m_trays m_tape m_text m_taped m_size m_token m_from m_end m_value m_faultKind m_faultPlace m_faults m_seen m_areOdds m_opened m_depth m_counted m_eastBy m_northBy m_partBy m_wayFaults m_wayEast m_wayNorth m_olds m_wayMany m_oneOfSet m_twoOfSet m_farBy m_rowBy m_triedBy m_rowMany m_doneAt m_gotAt m_struckAt m_bestDeed m_misBy (drS m_drawn) m_ranSteps m_loops m_ran m_told1 m_isTold m_marks)) : Call Γ M_Mo_draw 1 0 0 [.ref 0, .int (nI n)] (hM m_at m_names m_status m_top m_bottom m_sort m_trayMany m_trays m_tape m_text m_taped m_size m_token m_from m_end m_value m_faultKind m_faultPlace m_faults m_seen m_areOdds m_opened m_depth m_counted m_eastBy m_northBy m_partBy m_wayFaults m_wayEast m_wayNorth m_olds m_wayMany m_oneOfSet m_twoOfSet m_farBy m_rowBy m_triedBy m_rowMany m_doneAt m_gotAt m_struckAt m_bestDeed m_misBy m_drawn m_ranSteps m_loops m_ran m_told1 m_isTold m_marks) Q := by
  refine call_intro (ls := [some (.ref 0), some (.int (nI n))]) rfl rfl rfl ?_
  refine wp_aload_n 1 d_Mo_draw_0 rfl rfl ?_
  refine wp_aload_n 2 d_Mo_draw_1 rfl rfl ?_
  refine wp_getfield 5 12 43 d_Mo_draw_2 rfl fl_Mo_456 rfl rfl ?_
  refine wp_sipush 8 3277 d_Mo_draw_5 rfl (by decide) ?_
  refine wp_imul 9 d_Mo_draw_8 rfl ?_
  refine wp_sipush 12 11505 d_Mo_draw_9 rfl (by decide) ?_
  refine wp_iadd 13 d_Mo_draw_12 rfl ?_
  refine wp_ldcw 16 (65536 : Int32) d_Mo_draw_13 rfl ct_Mo_459 ?_
  refine wp_irem 17 d_Mo_draw_16 rfl (by decide) ?_
  refine wp_putfield 20 12 43 _ d_Mo_draw_17 rfl fp_Mo_456 rfl rfl (okP_int _) ?_
  refine hEq (hM m_at m_names m_status m_top m_bottom m_sort m_trayMany m_trays m_tape m_text m_taped m_size m_token m_from m_end m_value m_faultKind m_faultPlace m_faults m_seen m_areOdds m_opened m_depth m_counted m_eastBy m_northBy m_partBy m_wayFaults m_wayEast m_wayNorth m_olds m_wayMany m_oneOfSet m_twoOfSet m_farBy m_rowBy m_triedBy m_rowMany m_doneAt m_gotAt m_struckAt m_bestDeed m_misBy (drS m_drawn) m_ranSteps m_loops m_ran m_told1 m_isTold m_marks) rfl ?_
  refine wp_aload_n 21 d_Mo_draw_20 rfl rfl ?_
  refine wp_getfield 24 12 43 d_Mo_draw_21 rfl fl_Mo_456 rfl rfl ?_
  refine wp_bipush 26 8 d_Mo_draw_24 rfl (by decide) ?_
  refine wp_idiv 27 d_Mo_draw_26 rfl (by decide) ?_
  refine wp_iload_n 28 d_Mo_draw_27 rfl rfl ?_
  refine wp_irem 29 d_Mo_draw_28 rfl (nI_ne0 h0n (by omega)) ?_
  refine wp_ireturn d_Mo_draw_29 rfl ?_
  refine qI hq ?_
  unfold drV
  rw [if_pos (show (0 : Int32) < nI n from (nI_ltI (a := 0) (by omega) (by omega)).mpr h0n)]

set_option maxRecDepth 100000 in
set_option maxHeartbeats 4000000 in
theorem c_Mo_doesAny (S : ST_ t m_at m_ran m_drawn s) (hq : ∀ a2 r2 d2 d, DP t m_at m_ran s (stAny t.fr t.to_ t.ea t.no t.te t.nL t.od s) a2 r2 d2 d → Q (some (.int d)) (hM (a2) m_names m_status m_top m_bottom m_sort m_trayMany m_trays m_tape m_text m_taped m_size m_token m_from m_end m_value m_faultKind m_faultPlace m_faults m_seen m_areOdds m_opened m_depth m_counted m_eastBy m_northBy m_partBy m_wayFaults m_wayEast m_wayNorth m_olds m_wayMany m_oneOfSet m_twoOfSet m_farBy m_rowBy m_triedBy m_rowMany m_doneAt m_gotAt m_struckAt m_bestDeed m_misBy (d2) m_ranSteps m_loops (r2) m_told1 m_isTold m_marks)) : Call Γ M_Mo_doesAny 6 0 0 [.ref 0] (hM m_at m_names m_status m_top m_bottom m_sort m_trayMany m_trays m_tape m_text m_taped m_size m_token m_from m_end m_value m_faultKind m_faultPlace m_faults m_seen m_areOdds m_opened m_depth m_counted m_eastBy m_northBy m_partBy m_wayFaults m_wayEast m_wayNorth m_olds m_wayMany m_oneOfSet m_twoOfSet m_farBy m_rowBy m_triedBy m_rowMany m_doneAt m_gotAt m_struckAt m_bestDeed m_misBy m_drawn m_ranSteps m_loops m_ran m_told1 m_isTold m_marks) Q := by
  have V := S.1
  have hL12 : t.nL ≤ 12 := S.1.ok.hL
  have hdr0 : m_drawn = s.2.2.2.2.2.2 := S.2.2.1
  refine call_intro (ls := [some (.ref 0), none]) rfl rfl rfl ?_
  refine wp_aload_n 1 d_Mo_doesAny_0 rfl rfl ?_
  refine wp_getfield 4 12 0 d_Mo_doesAny_1 rfl fl_Mo_7 rfl rfl ?_
  refine wp_iconst 5 2 d_Mo_doesAny_4 rfl (by decide) ?_
  refine wp_iaload 6 d_Mo_doesAny_5 rfl rfl (vp_in_nI (n := 2) (N := 2332) (by omega) (by omega)) ?_
  rw [show m_at (2 : Int32).toNatClampNeg = nI t.nL from V.L]
  refine wp_if_ne 11 9 d_Mo_doesAny_6 rfl (by decide) (fun h6 => ?_) (fun h6 => ?_)
  · have hnl0 : 0 < t.nL := Nat.pos_of_ne_zero (fun z => h6 (by rw [z]; rfl))
    refine wp_aload_n 12 d_Mo_doesAny_11 rfl rfl ?_
    refine wp_aload_n 13 d_Mo_doesAny_12 rfl rfl ?_
    refine wp_getfield 16 12 0 d_Mo_doesAny_13 rfl fl_Mo_7 rfl rfl ?_
    refine wp_iconst 17 2 d_Mo_doesAny_16 rfl (by decide) ?_
    refine wp_iaload 18 d_Mo_doesAny_17 rfl rfl (vp_in_nI (n := 2) (N := 2332) (by omega) (by omega)) ?_
    rw [show m_at (2 : Int32).toNatClampNeg = nI t.nL from V.L]
    refine wp_V1 21 M_Mo_draw 1 d_Mo_doesAny_18 rfl mv_Mo_draw lk_Mo_460 rfl rfl rfl rfl rfl ?_
    refine c_Mo_draw hnl0 (by omega) ?_
    refine kI ?_
    obtain ⟨k, hk, ek⟩ := drV_ok S.2.2.2.1 (n := t.nL) (by omega) (by have := hL12; omega)
    rw [ek]
    refine wp_istore_1 22 d_Mo_doesAny_21 rfl rfl rfl ?_
    refine wp_aload_n 23 d_Mo_doesAny_22 rfl rfl ?_
    refine wp_bipush 25 16 d_Mo_doesAny_23 rfl (by decide) ?_
    refine wp_V1 28 M_Mo_draw 1 d_Mo_doesAny_25 rfl mv_Mo_draw lk_Mo_460 rfl rfl rfl rfl rfl ?_
    refine c_Mo_draw (n := 16) (by omega) (by omega) ?_
    refine kI ?_
    refine wp_aload_n 29 d_Mo_doesAny_28 rfl rfl ?_
    refine wp_getfield 32 12 0 d_Mo_doesAny_29 rfl fl_Mo_7 rfl rfl ?_
    refine wp_iconst 33 3 d_Mo_doesAny_32 rfl (by decide) ?_
    refine wp_iaload 34 d_Mo_doesAny_33 rfl rfl (vp_in_nI (n := 3) (N := 2332) (by omega) (by omega)) ?_
    rw [show m_at (3 : Int32).toNatClampNeg = t.od from V.od]
    refine wp_icmp_lt 48 37 d_Mo_doesAny_34 rfl (by decide) (fun h34 => ?_) (fun h34 => ?_)
    · have h34_ : drV (drS s.2.2.2.2.2.2) 16 < t.od := by rw [← hdr0]; exact h34
      refine wp_aload_n 49 d_Mo_doesAny_48 rfl rfl ?_
      refine wp_aload_n 50 d_Mo_doesAny_49 rfl rfl ?_
      refine wp_getfield 53 12 0 d_Mo_doesAny_50 rfl fl_Mo_7 rfl rfl ?_
      refine wp_bipush 55 6 d_Mo_doesAny_53 rfl (by decide) ?_
      refine wp_iaload 56 d_Mo_doesAny_55 rfl rfl (vp_in_nI (n := 6) (N := 2332) (by omega) (by omega)) ?_
      rw [show m_at (6 : Int32).toNatClampNeg = s.2.1 from V.sk]
      refine wp_iload_n 57 d_Mo_doesAny_56 rfl rfl ?_
      refine wp_V2 60 M_Mo_isIn 1 d_Mo_doesAny_57 rfl mv_Mo_isIn lk_Mo_281 rfl rfl rfl rfl rfl ?_
      refine c_Mo_isIn ?_
      refine kI ?_
      (first | refine wp_ifP_eq 76 63 d_Mo_doesAny_60 rfl (by decide) (fun h60 => ?_) (fun h60 => ?_) | refine wp_if_eq 76 63 d_Mo_doesAny_60 rfl (by decide) (fun h60 => ?_) (fun h60 => ?_))
      · refine wp_aload_n 77 d_Mo_doesAny_76 rfl rfl ?_
        refine wp_iconst 78 2 d_Mo_doesAny_77 rfl (by decide) ?_
        refine wp_aload_n 79 d_Mo_doesAny_78 rfl rfl ?_
        refine wp_iload_n 80 d_Mo_doesAny_79 rfl rfl ?_
        refine wp_V1 83 M_Mo_strikes 3 d_Mo_doesAny_80 rfl mv_Mo_strikes lk_Mo_360 rfl rfl rfl rfl rfl ?_
        refine c_Mo_strikes V (fun h9 => ?_) (fun h9 => ?_)
        · refine kI ?_
          refine wp_V2 86 M_Mo_ranIf 1 d_Mo_doesAny_83 rfl mv_Mo_ranIf lk_Mo_463 rfl rfl rfl rfl rfl ?_
          refine c_ranIf0 ?_
          refine kI ?_
          refine wp_zreturn d_Mo_doesAny_86 rfl (by first | rfl | exact nbP _) ?_
          have hek : drV s.2.2.2.2.2.2 (nI t.nL) = nI k := by rw [← hdr0]; exact ek
          have e : stAny t.fr t.to_ t.ea t.no t.te t.nL t.od s = stStr t.nL (nI k) (stDr2 s) := (if_neg h6).trans ((if_pos h34_).trans ((if_neg (by rw [hek]; exact h60)).trans (by rw [hek])))
          have hd := DA_s0 S h9
          rw [← e] at hd
          exact hq _ _ _ 0 hd
        · refine kI ?_
          refine wp_V2 86 M_Mo_ranIf 1 d_Mo_doesAny_83 rfl mv_Mo_ranIf lk_Mo_463 rfl rfl rfl rfl rfl ?_
          refine c_ranIf1 2 rfl (by omega) ?_
          refine kI ?_
          refine wp_zreturn d_Mo_doesAny_86 rfl (by first | rfl | exact nbP _) ?_
          have hek : drV s.2.2.2.2.2.2 (nI t.nL) = nI k := by rw [← hdr0]; exact ek
          have e : stAny t.fr t.to_ t.ea t.no t.te t.nL t.od s = stStr t.nL (nI k) (stDr2 s) := (if_neg h6).trans ((if_pos h34_).trans ((if_neg (by rw [hek]; exact h60)).trans (by rw [hek])))
          have hd := DA_st S (by omega) h9
          rw [← e] at hd
          exact hq _ _ _ 1 hd
      · refine wp_aload_n 64 d_Mo_doesAny_63 rfl rfl ?_
        refine wp_iconst 65 3 d_Mo_doesAny_64 rfl (by decide) ?_
        refine wp_aload_n 66 d_Mo_doesAny_65 rfl rfl ?_
        refine wp_iload_n 67 d_Mo_doesAny_66 rfl rfl ?_
        refine wp_V1 70 M_Mo_restores1 2 d_Mo_doesAny_67 rfl mv_Mo_restores1 lk_Mo_366 rfl rfl rfl rfl rfl ?_
        refine c_Mo_restores1 V (fun h9 => ?_) (fun h9 => ?_)
        · refine kI ?_
          refine wp_V2 73 M_Mo_ranIf 1 d_Mo_doesAny_70 rfl mv_Mo_ranIf lk_Mo_463 rfl rfl rfl rfl rfl ?_
          refine c_ranIf0 ?_
          refine kI ?_
          refine wp_goto 86 d_Mo_doesAny_73 (by decide) ?_
          refine wp_zreturn d_Mo_doesAny_86 rfl (by first | rfl | exact nbP _) ?_
          have hek : drV s.2.2.2.2.2.2 (nI t.nL) = nI k := by rw [← hdr0]; exact ek
          have e : stAny t.fr t.to_ t.ea t.no t.te t.nL t.od s = stRes t.nL (nI k) (stDr2 s) := (if_neg h6).trans ((if_pos h34_).trans ((if_pos (by rw [hek]; exact h60)).trans (by rw [hek])))
          have hd := DA_r0 S h9
          rw [← e] at hd
          exact hq _ _ _ 0 hd
        · refine kI ?_
          refine wp_V2 73 M_Mo_ranIf 1 d_Mo_doesAny_70 rfl mv_Mo_ranIf lk_Mo_463 rfl rfl rfl rfl rfl ?_
          refine c_ranIf1 3 rfl (by omega) ?_
          refine kI ?_
          refine wp_goto 86 d_Mo_doesAny_73 (by decide) ?_
          refine wp_zreturn d_Mo_doesAny_86 rfl (by first | rfl | exact nbP _) ?_
          have hek : drV s.2.2.2.2.2.2 (nI t.nL) = nI k := by rw [← hdr0]; exact ek
          have e : stAny t.fr t.to_ t.ea t.no t.te t.nL t.od s = stRes t.nL (nI k) (stDr2 s) := (if_neg h6).trans ((if_pos h34_).trans ((if_pos (by rw [hek]; exact h60)).trans (by rw [hek])))
          have hd := DA_re S (by omega) h9
          rw [← e] at hd
          exact hq _ _ _ 1 hd
    · have h34_ : ¬ drV (drS s.2.2.2.2.2.2) 16 < t.od := by rw [← hdr0]; exact h34
      refine wp_aload_n 38 d_Mo_doesAny_37 rfl rfl ?_
      refine wp_iconst 39 1 d_Mo_doesAny_38 rfl (by decide) ?_
      refine wp_aload_n 40 d_Mo_doesAny_39 rfl rfl ?_
      refine wp_iload_n 41 d_Mo_doesAny_40 rfl rfl ?_
      refine wp_V1 44 M_Mo_goesAlong 5 d_Mo_doesAny_41 rfl mv_Mo_goesAlong lk_Mo_378 rfl rfl rfl rfl rfl ?_
      refine c_Mo_goesAlong V (by omega) (fun h9 => ?_) (fun h9 => ?_)
      · refine kI ?_
        refine wp_V2 47 M_Mo_ranIf 1 d_Mo_doesAny_44 rfl mv_Mo_ranIf lk_Mo_463 rfl rfl rfl rfl rfl ?_
        refine c_ranIf0 ?_
        refine kI ?_
        refine wp_zreturn d_Mo_doesAny_47 rfl (by first | rfl | exact nbP _) ?_
        have hek : drV s.2.2.2.2.2.2 (nI t.nL) = nI k := by rw [← hdr0]; exact ek
        have e : stAny t.fr t.to_ t.ea t.no t.te t.nL t.od s = stGo t.fr t.to_ t.ea t.no t.te t.nL (nI k) (stDr2 s) := (if_neg h6).trans ((if_neg h34_).trans (by rw [hek]))
        have hd := DA_g0 S h9
        rw [← e] at hd
        exact hq _ _ _ 0 hd
      · refine kI ?_
        refine wp_V2 47 M_Mo_ranIf 1 d_Mo_doesAny_44 rfl mv_Mo_ranIf lk_Mo_463 rfl rfl rfl rfl rfl ?_
        refine c_ranIf1 1 rfl (by omega) ?_
        refine kI ?_
        refine wp_zreturn d_Mo_doesAny_47 rfl (by first | rfl | exact nbP _) ?_
        have hek : drV s.2.2.2.2.2.2 (nI t.nL) = nI k := by rw [← hdr0]; exact ek
        have e : stAny t.fr t.to_ t.ea t.no t.te t.nL t.od s = stGo t.fr t.to_ t.ea t.no t.te t.nL (nI k) (stDr2 s) := (if_neg h6).trans ((if_neg h34_).trans (by rw [hek]))
        have hd := DA_go S (by omega) h9
        rw [← e] at hd
        exact hq _ _ _ 1 hd
  · refine wp_iconst 10 0 d_Mo_doesAny_9 rfl (by decide) ?_
    refine wp_zreturn d_Mo_doesAny_10 rfl (by first | rfl | exact nbP _) ?_
    have e : stAny t.fr t.to_ t.ea t.no t.te t.nL t.od s = (s.1, s.2.1, s.2.2.1, s.2.2.2.1, ctS s.2.2.2.2.1 0, s.2.2.2.2.2) := if_pos h6
    have hd := DP_0 S
    rw [← e] at hd
    exact hq _ _ _ 0 hd


end TA7
