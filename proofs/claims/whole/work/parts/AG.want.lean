/-! ===== the reference: at its tokens ===== -/
def gtF (b : Nat → Int32) (L j : Nat) : Int32 × Nat × Nat × Int32 := ahG b L (psF b L j)
theorem gt_lt {b : Nat → Int32} {L j : Nat} (h : ¬ (gtF b L j).1 = 0) : psF b L j < L := by
  apply Decidable.byContradiction
  intro z
  apply h
  unfold gtF ahG
  rw [if_pos z]
section TAG
variable {Γ : Gm} {Q : Option Value → LH → Prop} {m_at m_sort m_trayMany m_tape m_text m_opened m_eastBy m_northBy m_partBy m_wayFaults m_wayEast m_wayNorth m_olds m_farBy m_rowBy m_triedBy m_doneAt m_gotAt m_struckAt m_bestDeed m_loops m_ran m_told1 : Nat → Int32} {m_names m_trays m_misBy : Nat → Int64} {m_status m_taped m_size m_token m_from m_end m_value m_faultKind m_faultPlace m_faults m_seen m_areOdds m_depth m_counted m_wayMany m_oneOfSet m_twoOfSet m_rowMany m_drawn m_ranSteps m_isTold m_marks : Int32} {m_top m_bottom : Int64} {L j : Nat}
theorem c_aheadJ (hL : L ≤ 900) (hb : ∀ k, k < L → b8 (m_text k)) (hlt : psF m_text L j < L) (hq : Q none (hM m_at m_names m_status m_top m_bottom m_sort m_trayMany m_trays m_tape m_text m_taped ((nI L)) ((gtF m_text L (j + 1)).1) ((nI (gtF m_text L (j + 1)).2.1)) ((nI (gtF m_text L (j + 1)).2.2.1)) ((gtF m_text L (j + 1)).2.2.2) m_faultKind m_faultPlace m_faults m_seen m_areOdds m_opened m_depth m_counted m_eastBy m_northBy m_partBy m_wayFaults m_wayEast m_wayNorth m_olds m_wayMany m_oneOfSet m_twoOfSet m_farBy m_rowBy m_triedBy m_rowMany m_doneAt m_gotAt m_struckAt m_bestDeed m_misBy m_drawn m_ranSteps m_loops m_ran m_told1 m_isTold m_marks)) : Call Γ M_Mo_ahead 2 0 0 [.ref 0] (hM m_at m_names m_status m_top m_bottom m_sort m_trayMany m_trays m_tape m_text m_taped ((nI L)) m_token m_from ((nI (gtF m_text L j).2.2.1)) m_value m_faultKind m_faultPlace m_faults m_seen m_areOdds m_opened m_depth m_counted m_eastBy m_northBy m_partBy m_wayFaults m_wayEast m_wayNorth m_olds m_wayMany m_oneOfSet m_twoOfSet m_farBy m_rowBy m_triedBy m_rowMany m_doneAt m_gotAt m_struckAt m_bestDeed m_misBy m_drawn m_ranSteps m_loops m_ran m_told1 m_isTold m_marks) Q := by
  have hE := ahG_E (b := m_text) hlt
  refine c_Mo_ahead (e := (gtF m_text L j).2.2.1) hL hb (by show (ahG m_text L (psF m_text L j)).2.2.1 ≤ L; rw [hE.2]; exact (tkN_in hlt).2) ?_
  have e : ahF m_text L (gtF m_text L j).2.2.1 = gtF m_text L (j + 1) := ahF_ps hlt
  rw [e]
  exact hq
set_option maxRecDepth 100000 in
set_option maxHeartbeats 4000000 in
theorem c_Mo_fails {c : Int32} (hf : m_faults = 0) (hq : Q (some (.int 0)) (hM m_at m_names m_status m_top m_bottom m_sort m_trayMany m_trays m_tape m_text m_taped m_size m_token m_from m_end m_value m_faultKind (m_from) ((if m_token = 1 then 1 else c)) m_seen m_areOdds m_opened m_depth m_counted m_eastBy m_northBy m_partBy m_wayFaults m_wayEast m_wayNorth m_olds m_wayMany m_oneOfSet m_twoOfSet m_farBy m_rowBy m_triedBy m_rowMany m_doneAt m_gotAt m_struckAt m_bestDeed m_misBy m_drawn m_ranSteps m_loops m_ran m_told1 m_isTold m_marks)) : Call Γ M_Mo_fails 1 0 0 [.ref 0, .int c] (hM m_at m_names m_status m_top m_bottom m_sort m_trayMany m_trays m_tape m_text m_taped m_size m_token m_from m_end m_value m_faultKind m_faultPlace m_faults m_seen m_areOdds m_opened m_depth m_counted m_eastBy m_northBy m_partBy m_wayFaults m_wayEast m_wayNorth m_olds m_wayMany m_oneOfSet m_twoOfSet m_farBy m_rowBy m_triedBy m_rowMany m_doneAt m_gotAt m_struckAt m_bestDeed m_misBy m_drawn m_ranSteps m_loops m_ran m_told1 m_isTold m_marks) Q := by
  refine call_intro (ls := [some (.ref 0), some (.int c)]) rfl rfl rfl ?_
  refine wp_aload_n 1 d_Mo_fails_0 rfl rfl ?_
  refine wp_getfield 4 12 18 d_Mo_fails_1 rfl fl_Mo_181 rfl rfl ?_
  refine wp_if_ne 32 7 d_Mo_fails_4 rfl (by decide) (fun h4 => ?_) (fun h4 => ?_)
  · exact absurd hf h4
  · refine wp_aload_n 8 d_Mo_fails_7 rfl rfl ?_
    refine wp_aload_n 9 d_Mo_fails_8 rfl rfl ?_
    refine wp_getfield 12 12 12 d_Mo_fails_9 rfl fl_Mo_156 rfl rfl ?_
    refine wp_iconst 13 1 d_Mo_fails_12 rfl (by decide) ?_
    refine wp_icmp_ne 20 16 d_Mo_fails_13 rfl (by decide) (fun h13 => ?_) (fun h13 => ?_)
    · refine wp_iload_n 21 d_Mo_fails_20 rfl rfl ?_
      refine wp_putfield 24 12 18 _ d_Mo_fails_21 rfl fp_Mo_181 rfl rfl (okP_int _) ?_
      refine hEq (hM m_at m_names m_status m_top m_bottom m_sort m_trayMany m_trays m_tape m_text m_taped m_size m_token m_from m_end m_value m_faultKind m_faultPlace (c) m_seen m_areOdds m_opened m_depth m_counted m_eastBy m_northBy m_partBy m_wayFaults m_wayEast m_wayNorth m_olds m_wayMany m_oneOfSet m_twoOfSet m_farBy m_rowBy m_triedBy m_rowMany m_doneAt m_gotAt m_struckAt m_bestDeed m_misBy m_drawn m_ranSteps m_loops m_ran m_told1 m_isTold m_marks) rfl ?_
      refine wp_aload_n 25 d_Mo_fails_24 rfl rfl ?_
      refine wp_aload_n 26 d_Mo_fails_25 rfl rfl ?_
      refine wp_getfield 29 12 13 d_Mo_fails_26 rfl fl_Mo_150 rfl rfl ?_
      refine wp_putfield 32 12 17 _ d_Mo_fails_29 rfl fp_Mo_41 rfl rfl (okP_int _) ?_
      refine hEq (hM m_at m_names m_status m_top m_bottom m_sort m_trayMany m_trays m_tape m_text m_taped m_size m_token m_from m_end m_value m_faultKind (m_from) (c) m_seen m_areOdds m_opened m_depth m_counted m_eastBy m_northBy m_partBy m_wayFaults m_wayEast m_wayNorth m_olds m_wayMany m_oneOfSet m_twoOfSet m_farBy m_rowBy m_triedBy m_rowMany m_doneAt m_gotAt m_struckAt m_bestDeed m_misBy m_drawn m_ranSteps m_loops m_ran m_told1 m_isTold m_marks) rfl ?_
      refine wp_iconst 33 0 d_Mo_fails_32 rfl (by decide) ?_
      refine wp_zreturn d_Mo_fails_33 rfl (by first | rfl | exact nbP _) ?_
      rw [if_neg h13] at hq
      exact hq
    · refine wp_iconst 17 1 d_Mo_fails_16 rfl (by decide) ?_
      refine wp_goto 21 d_Mo_fails_17 (by decide) ?_
      refine wp_putfield 24 12 18 _ d_Mo_fails_21 rfl fp_Mo_181 rfl rfl (okP_int _) ?_
      refine hEq (hM m_at m_names m_status m_top m_bottom m_sort m_trayMany m_trays m_tape m_text m_taped m_size m_token m_from m_end m_value m_faultKind m_faultPlace (1) m_seen m_areOdds m_opened m_depth m_counted m_eastBy m_northBy m_partBy m_wayFaults m_wayEast m_wayNorth m_olds m_wayMany m_oneOfSet m_twoOfSet m_farBy m_rowBy m_triedBy m_rowMany m_doneAt m_gotAt m_struckAt m_bestDeed m_misBy m_drawn m_ranSteps m_loops m_ran m_told1 m_isTold m_marks) rfl ?_
      refine wp_aload_n 25 d_Mo_fails_24 rfl rfl ?_
      refine wp_aload_n 26 d_Mo_fails_25 rfl rfl ?_
      refine wp_getfield 29 12 13 d_Mo_fails_26 rfl fl_Mo_150 rfl rfl ?_
      refine wp_putfield 32 12 17 _ d_Mo_fails_29 rfl fp_Mo_41 rfl rfl (okP_int _) ?_
      refine hEq (hM m_at m_names m_status m_top m_bottom m_sort m_trayMany m_trays m_tape m_text m_taped m_size m_token m_from m_end m_value m_faultKind (m_from) (1) m_seen m_areOdds m_opened m_depth m_counted m_eastBy m_northBy m_partBy m_wayFaults m_wayEast m_wayNorth m_olds m_wayMany m_oneOfSet m_twoOfSet m_farBy m_rowBy m_triedBy m_rowMany m_doneAt m_gotAt m_struckAt m_bestDeed m_misBy m_drawn m_ranSteps m_loops m_ran m_told1 m_isTold m_marks) rfl ?_
      refine wp_iconst 33 0 d_Mo_fails_32 rfl (by decide) ?_
      refine wp_zreturn d_Mo_fails_33 rfl (by first | rfl | exact nbP _) ?_
      rw [if_pos h13] at hq
      exact hq

set_option maxRecDepth 100000 in
set_option maxHeartbeats 4000000 in
theorem c_Mo_isSign {c : Int32} (hq : Q (some (.int (bP (m_token = 4 ∧ m_value = c)))) (hM m_at m_names m_status m_top m_bottom m_sort m_trayMany m_trays m_tape m_text m_taped m_size m_token m_from m_end m_value m_faultKind m_faultPlace m_faults m_seen m_areOdds m_opened m_depth m_counted m_eastBy m_northBy m_partBy m_wayFaults m_wayEast m_wayNorth m_olds m_wayMany m_oneOfSet m_twoOfSet m_farBy m_rowBy m_triedBy m_rowMany m_doneAt m_gotAt m_struckAt m_bestDeed m_misBy m_drawn m_ranSteps m_loops m_ran m_told1 m_isTold m_marks)) : Call Γ M_Mo_isSign 1 0 0 [.ref 0, .int c] (hM m_at m_names m_status m_top m_bottom m_sort m_trayMany m_trays m_tape m_text m_taped m_size m_token m_from m_end m_value m_faultKind m_faultPlace m_faults m_seen m_areOdds m_opened m_depth m_counted m_eastBy m_northBy m_partBy m_wayFaults m_wayEast m_wayNorth m_olds m_wayMany m_oneOfSet m_twoOfSet m_farBy m_rowBy m_triedBy m_rowMany m_doneAt m_gotAt m_struckAt m_bestDeed m_misBy m_drawn m_ranSteps m_loops m_ran m_told1 m_isTold m_marks) Q := by
  refine call_intro (ls := [some (.ref 0), some (.int c)]) rfl rfl rfl ?_
  refine wp_aload_n 1 d_Mo_isSign_0 rfl rfl ?_
  refine wp_getfield 4 12 12 d_Mo_isSign_1 rfl fl_Mo_156 rfl rfl ?_
  refine wp_iconst 5 4 d_Mo_isSign_4 rfl (by decide) ?_
  refine wp_icmp_ne 20 8 d_Mo_isSign_5 rfl (by decide) (fun h5 => ?_) (fun h5 => ?_)
  · refine wp_iconst 21 0 d_Mo_isSign_20 rfl (by decide) ?_
    refine wp_zreturn d_Mo_isSign_21 rfl (by first | rfl | exact nbP _) ?_
    refine qI hq ?_
    unfold bP
    rw [if_neg (fun z => h5 z.1)]
  · refine wp_aload_n 9 d_Mo_isSign_8 rfl rfl ?_
    refine wp_getfield 12 12 15 d_Mo_isSign_9 rfl fl_Mo_153 rfl rfl ?_
    refine wp_iload_n 13 d_Mo_isSign_12 rfl rfl ?_
    refine wp_icmp_ne 20 16 d_Mo_isSign_13 rfl (by decide) (fun h13 => ?_) (fun h13 => ?_)
    · refine wp_iconst 21 0 d_Mo_isSign_20 rfl (by decide) ?_
      refine wp_zreturn d_Mo_isSign_21 rfl (by first | rfl | exact nbP _) ?_
      refine qI hq ?_
      unfold bP
      rw [if_neg (fun z => h13 z.2)]
    · refine wp_iconst 17 1 d_Mo_isSign_16 rfl (by decide) ?_
      refine wp_goto 21 d_Mo_isSign_17 (by decide) ?_
      refine wp_zreturn d_Mo_isSign_21 rfl (by first | rfl | exact nbP _) ?_
      refine qI hq ?_
      unfold bP
      rw [if_pos ⟨h5, h13⟩]

set_option maxRecDepth 100000 in
set_option maxHeartbeats 4000000 in
theorem c_Mo_wantSign {c : Int32} (hL : L ≤ 900) (hb : ∀ k, k < L → b8 (m_text k)) (hf : m_faults = 0) (hq1 : (gtF m_text L j).1 = 4 ∧ (gtF m_text L j).2.2.2 = c → Q (some (.int 1)) (hM m_at m_names m_status m_top m_bottom m_sort m_trayMany m_trays m_tape m_text m_taped ((nI L)) ((gtF m_text L (j + 1)).1) ((nI (gtF m_text L (j + 1)).2.1)) ((nI (gtF m_text L (j + 1)).2.2.1)) ((gtF m_text L (j + 1)).2.2.2) m_faultKind m_faultPlace m_faults m_seen m_areOdds m_opened m_depth m_counted m_eastBy m_northBy m_partBy m_wayFaults m_wayEast m_wayNorth m_olds m_wayMany m_oneOfSet m_twoOfSet m_farBy m_rowBy m_triedBy m_rowMany m_doneAt m_gotAt m_struckAt m_bestDeed m_misBy m_drawn m_ranSteps m_loops m_ran m_told1 m_isTold m_marks)) (hq0 : ¬ ((gtF m_text L j).1 = 4 ∧ (gtF m_text L j).2.2.2 = c) → Q (some (.int 0)) (hM m_at m_names m_status m_top m_bottom m_sort m_trayMany m_trays m_tape m_text m_taped ((nI L)) ((gtF m_text L j).1) ((nI (gtF m_text L j).2.1)) ((nI (gtF m_text L j).2.2.1)) ((gtF m_text L j).2.2.2) m_faultKind ((nI (gtF m_text L j).2.1)) ((if (gtF m_text L j).1 = 1 then 1 else 2)) m_seen m_areOdds m_opened m_depth m_counted m_eastBy m_northBy m_partBy m_wayFaults m_wayEast m_wayNorth m_olds m_wayMany m_oneOfSet m_twoOfSet m_farBy m_rowBy m_triedBy m_rowMany m_doneAt m_gotAt m_struckAt m_bestDeed m_misBy m_drawn m_ranSteps m_loops m_ran m_told1 m_isTold m_marks)) : Call Γ M_Mo_wantSign 3 0 0 [.ref 0, .int c] (hM m_at m_names m_status m_top m_bottom m_sort m_trayMany m_trays m_tape m_text m_taped ((nI L)) ((gtF m_text L j).1) ((nI (gtF m_text L j).2.1)) ((nI (gtF m_text L j).2.2.1)) ((gtF m_text L j).2.2.2) m_faultKind m_faultPlace m_faults m_seen m_areOdds m_opened m_depth m_counted m_eastBy m_northBy m_partBy m_wayFaults m_wayEast m_wayNorth m_olds m_wayMany m_oneOfSet m_twoOfSet m_farBy m_rowBy m_triedBy m_rowMany m_doneAt m_gotAt m_struckAt m_bestDeed m_misBy m_drawn m_ranSteps m_loops m_ran m_told1 m_isTold m_marks) Q := by
  refine call_intro (ls := [some (.ref 0), some (.int c)]) rfl rfl rfl ?_
  refine wp_aload_n 1 d_Mo_wantSign_0 rfl rfl ?_
  refine wp_iload_n 2 d_Mo_wantSign_1 rfl rfl ?_
  refine wp_V1 5 M_Mo_isSign 1 d_Mo_wantSign_2 rfl mv_Mo_isSign lk_Mo_190 rfl rfl rfl rfl rfl ?_
  refine c_Mo_isSign ?_
  refine kI ?_
  (first | refine wp_ifP_ne 14 8 d_Mo_wantSign_5 rfl (by decide) (fun h5 => ?_) (fun h5 => ?_) | refine wp_if_ne 14 8 d_Mo_wantSign_5 rfl (by decide) (fun h5 => ?_) (fun h5 => ?_))
  · have hlt := gt_lt (b := m_text) (L := L) (j := j) (by rw [h5.1]; decide)
    refine wp_aload_n 15 d_Mo_wantSign_14 rfl rfl ?_
    refine wp_V0 18 M_Mo_ahead 2 d_Mo_wantSign_15 rfl mv_Mo_ahead lk_Mo_187 rfl rfl rfl rfl rfl ?_
    refine c_aheadJ hL hb hlt ?_
    refine kV ?_
    refine wp_iconst 19 1 d_Mo_wantSign_18 rfl (by decide) ?_
    refine wp_zreturn d_Mo_wantSign_19 rfl (by first | rfl | exact nbP _) ?_
    exact hq1 h5
  · refine wp_aload_n 9 d_Mo_wantSign_8 rfl rfl ?_
    refine wp_iconst 10 2 d_Mo_wantSign_9 rfl (by decide) ?_
    refine wp_V1 13 M_Mo_fails 1 d_Mo_wantSign_10 rfl mv_Mo_fails lk_Mo_193 rfl rfl rfl rfl rfl ?_
    refine c_Mo_fails hf ?_
    refine kI ?_
    refine wp_zreturn d_Mo_wantSign_13 rfl (by first | rfl | exact nbP _) ?_
    exact hq0 h5

set_option maxRecDepth 100000 in
set_option maxHeartbeats 4000000 in
theorem c_Mo_number {to_ : Nat} {x y : Int32} (hL : L ≤ 900) (hb : ∀ k, k < L → b8 (m_text k)) (hto : to_ < 2332) (hf : m_faults = 0) (hq1 : (gtF m_text L j).1 = 3 → x ≤ (gtF m_text L j).2.2.2 → (gtF m_text L j).2.2.2 ≤ y → Q (some (.int 1)) (hM (upd m_at to_ (gtF m_text L j).2.2.2) m_names m_status m_top m_bottom m_sort m_trayMany m_trays m_tape m_text m_taped ((nI L)) ((gtF m_text L (j + 1)).1) ((nI (gtF m_text L (j + 1)).2.1)) ((nI (gtF m_text L (j + 1)).2.2.1)) ((gtF m_text L (j + 1)).2.2.2) m_faultKind m_faultPlace m_faults m_seen m_areOdds m_opened m_depth m_counted m_eastBy m_northBy m_partBy m_wayFaults m_wayEast m_wayNorth m_olds m_wayMany m_oneOfSet m_twoOfSet m_farBy m_rowBy m_triedBy m_rowMany m_doneAt m_gotAt m_struckAt m_bestDeed m_misBy m_drawn m_ranSteps m_loops m_ran m_told1 m_isTold m_marks)) (hq2 : ¬ (gtF m_text L j).1 = 3 → Q (some (.int 0)) (hM m_at m_names m_status m_top m_bottom m_sort m_trayMany m_trays m_tape m_text m_taped ((nI L)) ((gtF m_text L j).1) ((nI (gtF m_text L j).2.1)) ((nI (gtF m_text L j).2.2.1)) ((gtF m_text L j).2.2.2) m_faultKind ((nI (gtF m_text L j).2.1)) ((if (gtF m_text L j).1 = 1 then 1 else 2)) m_seen m_areOdds m_opened m_depth m_counted m_eastBy m_northBy m_partBy m_wayFaults m_wayEast m_wayNorth m_olds m_wayMany m_oneOfSet m_twoOfSet m_farBy m_rowBy m_triedBy m_rowMany m_doneAt m_gotAt m_struckAt m_bestDeed m_misBy m_drawn m_ranSteps m_loops m_ran m_told1 m_isTold m_marks)) (hq4 : (gtF m_text L j).1 = 3 → ¬ (x ≤ (gtF m_text L j).2.2.2 ∧ (gtF m_text L j).2.2.2 ≤ y) → Q (some (.int 0)) (hM m_at m_names m_status m_top m_bottom m_sort m_trayMany m_trays m_tape m_text m_taped ((nI L)) ((gtF m_text L j).1) ((nI (gtF m_text L j).2.1)) ((nI (gtF m_text L j).2.2.1)) ((gtF m_text L j).2.2.2) m_faultKind ((nI (gtF m_text L j).2.1)) ((if (gtF m_text L j).1 = 1 then 1 else 4)) m_seen m_areOdds m_opened m_depth m_counted m_eastBy m_northBy m_partBy m_wayFaults m_wayEast m_wayNorth m_olds m_wayMany m_oneOfSet m_twoOfSet m_farBy m_rowBy m_triedBy m_rowMany m_doneAt m_gotAt m_struckAt m_bestDeed m_misBy m_drawn m_ranSteps m_loops m_ran m_told1 m_isTold m_marks)) : Call Γ M_Mo_number 3 0 0 [.ref 0, .int (nI to_), .int x, .int y] (hM m_at m_names m_status m_top m_bottom m_sort m_trayMany m_trays m_tape m_text m_taped ((nI L)) ((gtF m_text L j).1) ((nI (gtF m_text L j).2.1)) ((nI (gtF m_text L j).2.2.1)) ((gtF m_text L j).2.2.2) m_faultKind m_faultPlace m_faults m_seen m_areOdds m_opened m_depth m_counted m_eastBy m_northBy m_partBy m_wayFaults m_wayEast m_wayNorth m_olds m_wayMany m_oneOfSet m_twoOfSet m_farBy m_rowBy m_triedBy m_rowMany m_doneAt m_gotAt m_struckAt m_bestDeed m_misBy m_drawn m_ranSteps m_loops m_ran m_told1 m_isTold m_marks) Q := by
  refine call_intro (ls := [some (.ref 0), some (.int (nI to_)), some (.int x), some (.int y)]) rfl rfl rfl ?_
  refine wp_aload_n 1 d_Mo_number_0 rfl rfl ?_
  refine wp_getfield 4 12 12 d_Mo_number_1 rfl fl_Mo_156 rfl rfl ?_
  refine wp_iconst 5 3 d_Mo_number_4 rfl (by decide) ?_
  refine wp_icmp_eq 14 8 d_Mo_number_5 rfl (by decide) (fun h5 => ?_) (fun h5 => ?_)
  · refine wp_aload_n 15 d_Mo_number_14 rfl rfl ?_
    refine wp_getfield 18 12 15 d_Mo_number_15 rfl fl_Mo_153 rfl rfl ?_
    refine wp_iload_n 19 d_Mo_number_18 rfl rfl ?_
    refine wp_icmp_lt 30 22 d_Mo_number_19 rfl (by decide) (fun h19 => ?_) (fun h19 => ?_)
    · refine wp_aload_n 31 d_Mo_number_30 rfl rfl ?_
      refine wp_iconst 32 4 d_Mo_number_31 rfl (by decide) ?_
      refine wp_V1 35 M_Mo_fails 1 d_Mo_number_32 rfl mv_Mo_fails lk_Mo_193 rfl rfl rfl rfl rfl ?_
      refine c_Mo_fails hf ?_
      refine kI ?_
      refine wp_zreturn d_Mo_number_35 rfl (by first | rfl | exact nbP _) ?_
      exact hq4 h5 (fun z => absurd h19 (Int32.not_lt.mpr z.1))
    · refine wp_aload_n 23 d_Mo_number_22 rfl rfl ?_
      refine wp_getfield 26 12 15 d_Mo_number_23 rfl fl_Mo_153 rfl rfl ?_
      refine wp_iload_n 27 d_Mo_number_26 rfl rfl ?_
      refine wp_icmp_le 36 30 d_Mo_number_27 rfl (by decide) (fun h27 => ?_) (fun h27 => ?_)
      · have hlt := gt_lt (b := m_text) (L := L) (j := j) (by rw [h5]; decide)
        refine wp_aload_n 37 d_Mo_number_36 rfl rfl ?_
        refine wp_getfield 40 12 0 d_Mo_number_37 rfl fl_Mo_7 rfl rfl ?_
        refine wp_iload_n 41 d_Mo_number_40 rfl rfl ?_
        refine wp_aload_n 42 d_Mo_number_41 rfl rfl ?_
        refine wp_getfield 45 12 15 d_Mo_number_42 rfl fl_Mo_153 rfl rfl ?_
        refine wp_iastoreN 46 d_Mo_number_45 rfl rfl rfl (by omega) ?_
        refine hEq (hM (upd m_at to_ (gtF m_text L j).2.2.2) m_names m_status m_top m_bottom m_sort m_trayMany m_trays m_tape m_text m_taped ((nI L)) ((gtF m_text L j).1) ((nI (gtF m_text L j).2.1)) ((nI (gtF m_text L j).2.2.1)) ((gtF m_text L j).2.2.2) m_faultKind m_faultPlace m_faults m_seen m_areOdds m_opened m_depth m_counted m_eastBy m_northBy m_partBy m_wayFaults m_wayEast m_wayNorth m_olds m_wayMany m_oneOfSet m_twoOfSet m_farBy m_rowBy m_triedBy m_rowMany m_doneAt m_gotAt m_struckAt m_bestDeed m_misBy m_drawn m_ranSteps m_loops m_ran m_told1 m_isTold m_marks) rfl ?_
        refine wp_aload_n 47 d_Mo_number_46 rfl rfl ?_
        refine wp_V0 50 M_Mo_ahead 2 d_Mo_number_47 rfl mv_Mo_ahead lk_Mo_187 rfl rfl rfl rfl rfl ?_
        refine c_aheadJ hL hb hlt ?_
        refine kV ?_
        refine wp_iconst 51 1 d_Mo_number_50 rfl (by decide) ?_
        refine wp_zreturn d_Mo_number_51 rfl (by first | rfl | exact nbP _) ?_
        exact hq1 h5 (Int32.not_lt.mp h19) h27
      · refine wp_aload_n 31 d_Mo_number_30 rfl rfl ?_
        refine wp_iconst 32 4 d_Mo_number_31 rfl (by decide) ?_
        refine wp_V1 35 M_Mo_fails 1 d_Mo_number_32 rfl mv_Mo_fails lk_Mo_193 rfl rfl rfl rfl rfl ?_
        refine c_Mo_fails hf ?_
        refine kI ?_
        refine wp_zreturn d_Mo_number_35 rfl (by first | rfl | exact nbP _) ?_
        exact hq4 h5 (fun z => h27 z.2)
  · refine wp_aload_n 9 d_Mo_number_8 rfl rfl ?_
    refine wp_iconst 10 2 d_Mo_number_9 rfl (by decide) ?_
    refine wp_V1 13 M_Mo_fails 1 d_Mo_number_10 rfl mv_Mo_fails lk_Mo_193 rfl rfl rfl rfl rfl ?_
    refine c_Mo_fails hf ?_
    refine kI ?_
    refine wp_zreturn d_Mo_number_13 rfl (by first | rfl | exact nbP _) ?_
    exact hq2 h5

end TAG
