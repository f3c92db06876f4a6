/-! ===== the reference: a town ===== -/
section TAY
variable {Γ : Gm} {Q : Option Value → LH → Prop} {m_at m_sort m_trayMany m_tape m_text m_opened m_eastBy m_northBy m_partBy m_wayFaults m_wayEast m_wayNorth m_olds m_farBy m_rowBy m_triedBy m_doneAt m_gotAt m_struckAt m_bestDeed m_loops m_ran m_told1 : Nat → Int32} {m_names m_trays m_misBy : Nat → Int64} {m_status m_taped m_size m_token m_from m_end m_value m_faultKind m_faultPlace m_faults m_seen m_areOdds m_depth m_counted m_wayMany m_oneOfSet m_twoOfSet m_rowMany m_drawn m_ranSteps m_isTold m_marks : Int32} {m_top m_bottom : Int64} {L : Nat} {K : TK} {t : TW} {x : Int32} {s : CS}
set_option maxRecDepth 100000 in
set_option maxHeartbeats 4000000 in
theorem l_plainN_2 (hq : ∀ a : Nat → Int32, (∀ j, j < 450 → a (1800 + j) = plC j) → (∀ j, j < 1800 ∨ 2250 ≤ j → a j = m_at j) → Q none (hM (a) m_names m_status m_top m_bottom m_sort m_trayMany m_trays m_tape m_text m_taped m_size m_token m_from m_end m_value m_faultKind m_faultPlace m_faults m_seen m_areOdds m_opened m_depth m_counted m_eastBy m_northBy m_partBy m_wayFaults m_wayEast m_wayNorth m_olds m_wayMany m_oneOfSet m_twoOfSet m_farBy m_rowBy m_triedBy m_rowMany m_doneAt m_gotAt m_struckAt m_bestDeed m_misBy m_drawn m_ranSteps m_loops m_ran m_told1 m_isTold m_marks)) : ∀ (n i : Nat) (a : Nat → Int32), i + n = 450 → (∀ j, j < i → a (1800 + j) = 0) → (∀ j, j < 1800 ∨ 2250 ≤ j → a j = m_at j) → WP Γ M_Mo_plain 1 0 0 (hM (a) m_names m_status m_top m_bottom m_sort m_trayMany m_trays m_tape m_text m_taped m_size m_token m_from m_end m_value m_faultKind m_faultPlace m_faults m_seen m_areOdds m_opened m_depth m_counted m_eastBy m_northBy m_partBy m_wayFaults m_wayEast m_wayNorth m_olds m_wayMany m_oneOfSet m_twoOfSet m_farBy m_rowBy m_triedBy m_rowMany m_doneAt m_gotAt m_struckAt m_bestDeed m_misBy m_drawn m_ranSteps m_loops m_ran m_told1 m_isTold m_marks) 2 [some (.ref 0), some (.int 1800), some (.int (nI i))] [] Q := by
  intro n
  induction n with
  | zero =>
    intro i a hi h0 h1
    refine wp_iload_n 3 d_Mo_plain_2 rfl rfl ?_
    refine wp_sipush 6 450 d_Mo_plain_3 rfl (by decide) ?_
    refine wp_icmp_ge 24 9 d_Mo_plain_6 rfl (by decide) (fun h6 => ?_) (fun h6 => ?_)
    · refine wp_aload_n 25 d_Mo_plain_24 rfl rfl ?_
      refine wp_getfield 28 12 0 d_Mo_plain_25 rfl fl_Mo_7 rfl rfl ?_
      refine wp_iload_n 29 d_Mo_plain_28 rfl rfl ?_
      refine wp_iconst 30 3 d_Mo_plain_29 rfl (by decide) ?_
      refine wp_iadd 31 d_Mo_plain_30 rfl ?_
      rw [show (1800 : Int32) + 3 = nI 1803 from rfl]
      refine wp_iconst 32 2 d_Mo_plain_31 rfl (by decide) ?_
      refine wp_iastoreN 33 d_Mo_plain_32 rfl rfl rfl (by omega) ?_
      refine hEq (hM (upd a 1803 2) m_names m_status m_top m_bottom m_sort m_trayMany m_trays m_tape m_text m_taped m_size m_token m_from m_end m_value m_faultKind m_faultPlace m_faults m_seen m_areOdds m_opened m_depth m_counted m_eastBy m_northBy m_partBy m_wayFaults m_wayEast m_wayNorth m_olds m_wayMany m_oneOfSet m_twoOfSet m_farBy m_rowBy m_triedBy m_rowMany m_doneAt m_gotAt m_struckAt m_bestDeed m_misBy m_drawn m_ranSteps m_loops m_ran m_told1 m_isTold m_marks) rfl ?_
      refine wp_aload_n 34 d_Mo_plain_33 rfl rfl ?_
      refine wp_getfield 37 12 0 d_Mo_plain_34 rfl fl_Mo_7 rfl rfl ?_
      refine wp_iload_n 38 d_Mo_plain_37 rfl rfl ?_
      refine wp_iconst 39 4 d_Mo_plain_38 rfl (by decide) ?_
      refine wp_iadd 40 d_Mo_plain_39 rfl ?_
      rw [show (1800 : Int32) + 4 = nI 1804 from rfl]
      refine wp_iconst 41 (-1) d_Mo_plain_40 rfl (by decide) ?_
      refine wp_iastoreN 42 d_Mo_plain_41 rfl rfl rfl (by omega) ?_
      refine hEq (hM (upd (upd a 1803 2) 1804 (-1)) m_names m_status m_top m_bottom m_sort m_trayMany m_trays m_tape m_text m_taped m_size m_token m_from m_end m_value m_faultKind m_faultPlace m_faults m_seen m_areOdds m_opened m_depth m_counted m_eastBy m_northBy m_partBy m_wayFaults m_wayEast m_wayNorth m_olds m_wayMany m_oneOfSet m_twoOfSet m_farBy m_rowBy m_triedBy m_rowMany m_doneAt m_gotAt m_struckAt m_bestDeed m_misBy m_drawn m_ranSteps m_loops m_ran m_told1 m_isTold m_marks) rfl ?_
      refine wp_aload_n 43 d_Mo_plain_42 rfl rfl ?_
      refine wp_getfield 46 12 0 d_Mo_plain_43 rfl fl_Mo_7 rfl rfl ?_
      refine wp_iload_n 47 d_Mo_plain_46 rfl rfl ?_
      refine wp_bipush 49 7 d_Mo_plain_47 rfl (by decide) ?_
      refine wp_iadd 50 d_Mo_plain_49 rfl ?_
      rw [show (1800 : Int32) + 7 = nI 1807 from rfl]
      refine wp_iconst 51 (-1) d_Mo_plain_50 rfl (by decide) ?_
      refine wp_iastoreN 52 d_Mo_plain_51 rfl rfl rfl (by omega) ?_
      refine hEq (hM (upd (upd (upd a 1803 2) 1804 (-1)) 1807 (-1)) m_names m_status m_top m_bottom m_sort m_trayMany m_trays m_tape m_text m_taped m_size m_token m_from m_end m_value m_faultKind m_faultPlace m_faults m_seen m_areOdds m_opened m_depth m_counted m_eastBy m_northBy m_partBy m_wayFaults m_wayEast m_wayNorth m_olds m_wayMany m_oneOfSet m_twoOfSet m_farBy m_rowBy m_triedBy m_rowMany m_doneAt m_gotAt m_struckAt m_bestDeed m_misBy m_drawn m_ranSteps m_loops m_ran m_told1 m_isTold m_marks) rfl ?_
      refine wp_return d_Mo_plain_52 rfl ?_
      refine hq _ (fun j hj => ?_) (fun j hj => by rw [upd_ne (by omega), upd_ne (by omega), upd_ne (by omega)]; exact h1 j hj)
      unfold plC
      by_cases z7 : j = 7
      · rw [z7, upd_at]; rfl
      · rw [upd_ne (by omega)]
        by_cases z4 : j = 4
        · rw [z4, upd_at]; rfl
        · rw [upd_ne (by omega)]
          by_cases z3 : j = 3
          · rw [z3, upd_at]; rfl
          · rw [upd_ne (by omega), if_neg z3, if_neg z4, if_neg z7]; exact h0 j (by omega)
    · exact absurd (nI_ltN (b := 450) (Int32.not_le.mp h6) (by omega) (by omega)) (by omega)
  | succ n ih =>
    intro i a hi h0 h1
    refine wp_iload_n 3 d_Mo_plain_2 rfl rfl ?_
    refine wp_sipush 6 450 d_Mo_plain_3 rfl (by decide) ?_
    refine wp_icmp_ge 24 9 d_Mo_plain_6 rfl (by decide) (fun h6 => ?_) (fun h6 => ?_)
    · exact absurd (nI_leN (b := 450) h6 (by omega) (by omega)) (by omega)
    · refine wp_aload_n 10 d_Mo_plain_9 rfl rfl ?_
      refine wp_getfield 13 12 0 d_Mo_plain_10 rfl fl_Mo_7 rfl rfl ?_
      refine wp_iload_n 14 d_Mo_plain_13 rfl rfl ?_
      refine wp_iload_n 15 d_Mo_plain_14 rfl rfl ?_
      refine wp_iadd 16 d_Mo_plain_15 rfl ?_
      rw [show (1800 : Int32) + nI i = nI (1800 + i) from nI_add 1800 _]
      refine wp_iconst 17 0 d_Mo_plain_16 rfl (by decide) ?_
      refine wp_iastoreN 18 d_Mo_plain_17 rfl rfl rfl (by omega) ?_
      refine hEq (hM (upd a (1800 + i) 0) m_names m_status m_top m_bottom m_sort m_trayMany m_trays m_tape m_text m_taped m_size m_token m_from m_end m_value m_faultKind m_faultPlace m_faults m_seen m_areOdds m_opened m_depth m_counted m_eastBy m_northBy m_partBy m_wayFaults m_wayEast m_wayNorth m_olds m_wayMany m_oneOfSet m_twoOfSet m_farBy m_rowBy m_triedBy m_rowMany m_doneAt m_gotAt m_struckAt m_bestDeed m_misBy m_drawn m_ranSteps m_loops m_ran m_told1 m_isTold m_marks) rfl ?_
      first | refine wp_iincN_2 21 d_Mo_plain_18 rfl rfl rfl ?_ | refine wp_iinc_2 21 1 d_Mo_plain_18 rfl (by decide) rfl rfl ?_
      refine wp_goto 2 d_Mo_plain_21 (by decide) ?_
      refine ih (i + 1) (upd a (1800 + i) 0) (by omega) (fun j hj => ?_) (fun j hj => ?_)
      · by_cases z : j = i
        · rw [z, upd_at]
        · rw [upd_ne (by omega)]; exact h0 j (by omega)
      · rw [upd_ne (by omega)]; exact h1 j hj
set_option maxRecDepth 100000 in
set_option maxHeartbeats 4000000 in
theorem c_plainN (hq : ∀ a : Nat → Int32, (∀ j, j < 450 → a (1800 + j) = plC j) → (∀ j, j < 1800 ∨ 2250 ≤ j → a j = m_at j) → Q none (hM (a) m_names m_status m_top m_bottom m_sort m_trayMany m_trays m_tape m_text m_taped m_size m_token m_from m_end m_value m_faultKind m_faultPlace m_faults m_seen m_areOdds m_opened m_depth m_counted m_eastBy m_northBy m_partBy m_wayFaults m_wayEast m_wayNorth m_olds m_wayMany m_oneOfSet m_twoOfSet m_farBy m_rowBy m_triedBy m_rowMany m_doneAt m_gotAt m_struckAt m_bestDeed m_misBy m_drawn m_ranSteps m_loops m_ran m_told1 m_isTold m_marks)) : Call Γ M_Mo_plain 1 0 0 [.ref 0, .int 1800] (hM m_at m_names m_status m_top m_bottom m_sort m_trayMany m_trays m_tape m_text m_taped m_size m_token m_from m_end m_value m_faultKind m_faultPlace m_faults m_seen m_areOdds m_opened m_depth m_counted m_eastBy m_northBy m_partBy m_wayFaults m_wayEast m_wayNorth m_olds m_wayMany m_oneOfSet m_twoOfSet m_farBy m_rowBy m_triedBy m_rowMany m_doneAt m_gotAt m_struckAt m_bestDeed m_misBy m_drawn m_ranSteps m_loops m_ran m_told1 m_isTold m_marks) Q := by
  refine call_intro (ls := [some (.ref 0), some (.int 1800), none]) rfl rfl rfl ?_
  refine wp_iconst 1 0 d_Mo_plain_0 rfl (by decide) ?_
  refine wp_istore_2 2 d_Mo_plain_1 rfl rfl rfl ?_
  exact l_plainN_2 hq 450 0 m_at rfl (fun j hj => absurd hj (by omega)) (fun _ _ => rfl)

set_option maxRecDepth 100000 in
set_option maxHeartbeats 4000000 in
theorem c_Mo_taken {v : Int32} (hq0 : m_faults ≤ 0 → Q (some (.int v)) (hM m_at m_names (0) m_top m_bottom m_sort m_trayMany m_trays m_tape m_text m_taped m_size m_token m_from m_end m_value (m_faults) m_faultPlace m_faults m_seen m_areOdds m_opened m_depth m_counted m_eastBy m_northBy m_partBy m_wayFaults m_wayEast m_wayNorth m_olds m_wayMany m_oneOfSet m_twoOfSet m_farBy m_rowBy m_triedBy m_rowMany m_doneAt m_gotAt m_struckAt m_bestDeed m_misBy m_drawn m_ranSteps m_loops m_ran m_told1 m_isTold m_marks)) (hq1 : ¬ m_faults ≤ 0 → Q (some (.int (-1))) (hM m_at m_names (9) m_top m_bottom m_sort m_trayMany m_trays m_tape m_text m_taped m_size m_token m_from m_end m_value (m_faults) m_faultPlace m_faults m_seen m_areOdds m_opened m_depth m_counted m_eastBy m_northBy m_partBy m_wayFaults m_wayEast m_wayNorth m_olds m_wayMany m_oneOfSet m_twoOfSet m_farBy m_rowBy m_triedBy m_rowMany m_doneAt m_gotAt m_struckAt m_bestDeed m_misBy m_drawn m_ranSteps m_loops m_ran m_told1 m_isTold m_marks)) : Call Γ M_Mo_taken 2 0 0 [.ref 0, .int v] (hM m_at m_names m_status m_top m_bottom m_sort m_trayMany m_trays m_tape m_text m_taped m_size m_token m_from m_end m_value m_faultKind m_faultPlace m_faults m_seen m_areOdds m_opened m_depth m_counted m_eastBy m_northBy m_partBy m_wayFaults m_wayEast m_wayNorth m_olds m_wayMany m_oneOfSet m_twoOfSet m_farBy m_rowBy m_triedBy m_rowMany m_doneAt m_gotAt m_struckAt m_bestDeed m_misBy m_drawn m_ranSteps m_loops m_ran m_told1 m_isTold m_marks) Q := by
  refine call_intro (ls := [some (.ref 0), some (.int v)]) rfl rfl rfl ?_
  refine wp_aload_n 1 d_Mo_taken_0 rfl rfl ?_
  refine wp_aload_n 2 d_Mo_taken_1 rfl rfl ?_
  refine wp_getfield 5 12 18 d_Mo_taken_2 rfl fl_Mo_181 rfl rfl ?_
  refine wp_putfield 8 12 16 _ d_Mo_taken_5 rfl fp_Mo_37 rfl rfl (okP_int _) ?_
  refine hEq (hM m_at m_names m_status m_top m_bottom m_sort m_trayMany m_trays m_tape m_text m_taped m_size m_token m_from m_end m_value (m_faults) m_faultPlace m_faults m_seen m_areOdds m_opened m_depth m_counted m_eastBy m_northBy m_partBy m_wayFaults m_wayEast m_wayNorth m_olds m_wayMany m_oneOfSet m_twoOfSet m_farBy m_rowBy m_triedBy m_rowMany m_doneAt m_gotAt m_struckAt m_bestDeed m_misBy m_drawn m_ranSteps m_loops m_ran m_told1 m_isTold m_marks) rfl ?_
  refine wp_aload_n 9 d_Mo_taken_8 rfl rfl ?_
  refine wp_getfield 12 12 18 d_Mo_taken_9 rfl fl_Mo_181 rfl rfl ?_
  refine wp_if_le 24 15 d_Mo_taken_12 rfl (by decide) (fun h12 => ?_) (fun h12 => ?_)
  · refine wp_aload_n 25 d_Mo_taken_24 rfl rfl ?_
    refine wp_iload_n 26 d_Mo_taken_25 rfl rfl ?_
    refine wp_V1 29 M_Mo_gives 1 d_Mo_taken_26 rfl mv_Mo_gives lk_Mo_115 rfl rfl rfl rfl rfl ?_
    refine c_Mo_gives ?_
    refine kI ?_
    refine wp_ireturn d_Mo_taken_29 rfl ?_
    exact hq0 h12
  · refine wp_aload_n 16 d_Mo_taken_15 rfl rfl ?_
    refine wp_bipush 18 9 d_Mo_taken_16 rfl (by decide) ?_
    refine wp_V1 21 M_Mo_refuse 1 d_Mo_taken_18 rfl mv_Mo_refuse lk_Mo_111 rfl rfl rfl rfl rfl ?_
    refine c_Mo_refuse ?_
    refine kI ?_
    refine wp_goto 29 d_Mo_taken_21 (by decide) ?_
    refine wp_ireturn d_Mo_taken_29 rfl ?_
    exact hq1 h12

set_option maxRecDepth 100000 in
set_option maxHeartbeats 4000000 in
theorem l_Mo_town_90 {v : Int32} (hf : m_faults = 0) (hq : ∀ x9 : Nat → Int64, (∀ j, j < 11 → x9 j = m_names (44 + j)) → (∀ j, 11 ≤ j → x9 j = m_names j) → Q (some (.int (m_at 2))) (hM m_at (x9) (0) m_top m_bottom m_sort m_trayMany m_trays m_tape m_text m_taped m_size m_token m_from m_end m_value (0) m_faultPlace m_faults m_seen m_areOdds m_opened m_depth m_counted m_eastBy m_northBy m_partBy m_wayFaults m_wayEast m_wayNorth m_olds m_wayMany m_oneOfSet m_twoOfSet m_farBy m_rowBy m_triedBy m_rowMany m_doneAt m_gotAt m_struckAt m_bestDeed m_misBy m_drawn m_ranSteps m_loops m_ran m_told1 m_isTold m_marks)) : ∀ (n i : Nat) (a : Nat → Int64), i + n = 11 → (∀ j, j < i → a j = m_names (44 + j)) → (∀ j, i ≤ j → a j = m_names j) → WP Γ M_Mo_town 11 0 0 (hM m_at (a) m_status m_top m_bottom m_sort m_trayMany m_trays m_tape m_text m_taped m_size m_token m_from m_end m_value m_faultKind m_faultPlace m_faults m_seen m_areOdds m_opened m_depth m_counted m_eastBy m_northBy m_partBy m_wayFaults m_wayEast m_wayNorth m_olds m_wayMany m_oneOfSet m_twoOfSet m_farBy m_rowBy m_triedBy m_rowMany m_doneAt m_gotAt m_struckAt m_bestDeed m_misBy m_drawn m_ranSteps m_loops m_ran m_told1 m_isTold m_marks) 90 [some (.ref 0), some (.int v), some (.int 1), some (.int (nI i))] [] Q := by
  intro n
  induction n with
  | zero =>
    intro i a hi h0 h1
    refine wp_iload_n 91 d_Mo_town_90 rfl rfl ?_
    refine wp_bipush 93 11 d_Mo_town_91 rfl (by decide) ?_
    refine wp_icmp_ge 117 96 d_Mo_town_93 rfl (by decide) (fun h93 => ?_) (fun h93 => ?_)
    · refine wp_aload_n 118 d_Mo_town_117 rfl rfl ?_
      refine wp_aload_n 119 d_Mo_town_118 rfl rfl ?_
      refine wp_getfield 122 12 0 d_Mo_town_119 rfl fl_Mo_7 rfl rfl ?_
      refine wp_iconst 123 2 d_Mo_town_122 rfl (by decide) ?_
      refine wp_iaload 124 d_Mo_town_123 rfl rfl (vp_in_nI (n := 2) (N := 2332) (by omega) (by omega)) ?_
      rw [show m_at (2 : Int32).toNatClampNeg = m_at 2 from rfl]
      refine wp_V1 127 M_Mo_taken 2 d_Mo_town_124 rfl mv_Mo_taken lk_Mo_260 rfl rfl rfl rfl rfl ?_
      refine c_Mo_taken (fun t0 => ?_) (fun t1 => ?_)
      · refine kI ?_
        refine wp_ireturn d_Mo_town_127 rfl ?_
        obtain rfl : i = 11 := by omega
        subst hf
        exact hq a (fun j hj => h0 j hj) h1
      · refine kI ?_
        refine wp_ireturn d_Mo_town_127 rfl ?_
        rw [hf] at t1
        exact absurd (show (0 : Int32) ≤ 0 by decide) t1
    · exact absurd (nI_ltN (b := 11) (Int32.not_le.mp h93) (by omega) (by omega)) (by omega)
  | succ n ih =>
    intro i a hi h0 h1
    refine wp_iload_n 91 d_Mo_town_90 rfl rfl ?_
    refine wp_bipush 93 11 d_Mo_town_91 rfl (by decide) ?_
    refine wp_icmp_ge 117 96 d_Mo_town_93 rfl (by decide) (fun h93 => ?_) (fun h93 => ?_)
    · exact absurd (nI_leN (b := 11) h93 (by omega) (by omega)) (by omega)
    · refine wp_aload_n 97 d_Mo_town_96 rfl rfl ?_
      refine wp_getfield 100 12 1 d_Mo_town_97 rfl fl_Mo_13 rfl rfl ?_
      refine wp_iload_n 101 d_Mo_town_100 rfl rfl ?_
      refine wp_aload_n 102 d_Mo_town_101 rfl rfl ?_
      refine wp_getfield 105 12 1 d_Mo_town_102 rfl fl_Mo_13 rfl rfl ?_
      refine wp_bipush 107 44 d_Mo_town_105 rfl (by decide) ?_
      refine wp_iload_n 108 d_Mo_town_107 rfl rfl ?_
      refine wp_iadd 109 d_Mo_town_108 rfl ?_
      rw [show (44 : Int32) + nI i = nI (44 + i) from nI_add 44 _]
      refine wp_laloadN 110 d_Mo_town_109 rfl rfl rfl (by omega) ?_
      refine wp_lastoreN 111 d_Mo_town_110 rfl rfl rfl (by omega) ?_
      refine hEq (hM m_at (vp_updL a i (a (44 + i))) m_status m_top m_bottom m_sort m_trayMany m_trays m_tape m_text m_taped m_size m_token m_from m_end m_value m_faultKind m_faultPlace m_faults m_seen m_areOdds m_opened m_depth m_counted m_eastBy m_northBy m_partBy m_wayFaults m_wayEast m_wayNorth m_olds m_wayMany m_oneOfSet m_twoOfSet m_farBy m_rowBy m_triedBy m_rowMany m_doneAt m_gotAt m_struckAt m_bestDeed m_misBy m_drawn m_ranSteps m_loops m_ran m_told1 m_isTold m_marks) rfl ?_
      first | refine wp_iincN_3 114 d_Mo_town_111 rfl rfl rfl ?_ | refine wp_iinc_3 114 1 d_Mo_town_111 rfl (by decide) rfl rfl ?_
      refine wp_goto 90 d_Mo_town_114 (by decide) ?_
      refine ih (i + 1) (vp_updL a i (a (44 + i))) (by omega) (fun j hj => ?_) (fun j hj => ?_)
      · by_cases z : j = i
        · rw [z, vLq_at]; exact h1 _ (by omega)
        · rw [vLq_ne z]; exact h0 j (by omega)
      · rw [vLq_ne (by omega)]; exact h1 j (by omega)
set_option maxRecDepth 100000 in
set_option maxHeartbeats 4000000 in
theorem l_Mo_town_59 {v : Int32} (hf : m_faults = 0) (hq : ∀ (a9 : Nat → Int32) (x9 : Nat → Int64), (∀ j, j < 450 → a9 j = m_at (1800 + j)) → (∀ j, 450 ≤ j → a9 j = m_at j) → (∀ j, j < 11 → x9 j = m_names (44 + j)) → (∀ j, 11 ≤ j → x9 j = m_names j) → Q (some (.int (a9 2))) (hM (a9) (x9) (0) m_top m_bottom m_sort m_trayMany m_trays m_tape m_text m_taped m_size m_token m_from m_end m_value (0) m_faultPlace m_faults m_seen m_areOdds m_opened m_depth m_counted m_eastBy m_northBy m_partBy m_wayFaults m_wayEast m_wayNorth m_olds m_wayMany m_oneOfSet m_twoOfSet m_farBy m_rowBy m_triedBy m_rowMany m_doneAt m_gotAt m_struckAt m_bestDeed m_misBy m_drawn m_ranSteps m_loops m_ran m_told1 m_isTold m_marks)) : ∀ (n i : Nat) (a : Nat → Int32), i + n = 450 → (∀ j, j < i → a j = m_at (1800 + j)) → (∀ j, i ≤ j → a j = m_at j) → WP Γ M_Mo_town 11 0 0 (hM (a) m_names m_status m_top m_bottom m_sort m_trayMany m_trays m_tape m_text m_taped m_size m_token m_from m_end m_value m_faultKind m_faultPlace m_faults m_seen m_areOdds m_opened m_depth m_counted m_eastBy m_northBy m_partBy m_wayFaults m_wayEast m_wayNorth m_olds m_wayMany m_oneOfSet m_twoOfSet m_farBy m_rowBy m_triedBy m_rowMany m_doneAt m_gotAt m_struckAt m_bestDeed m_misBy m_drawn m_ranSteps m_loops m_ran m_told1 m_isTold m_marks) 59 [some (.ref 0), some (.int v), some (.int 1), some (.int (nI i))] [] Q := by
  intro n
  induction n with
  | zero =>
    intro i a hi h0 h1
    refine wp_iload_n 60 d_Mo_town_59 rfl rfl ?_
    refine wp_sipush 63 450 d_Mo_town_60 rfl (by decide) ?_
    refine wp_icmp_ge 88 66 d_Mo_town_63 rfl (by decide) (fun h63 => ?_) (fun h63 => ?_)
    · refine wp_iconst 89 0 d_Mo_town_88 rfl (by decide) ?_
      refine wp_istore_3 90 d_Mo_town_89 rfl rfl rfl ?_
      obtain rfl : i = 450 := by omega
      exact l_Mo_town_90 (m_at := a) hf (fun x9 g1 g2 => hq a x9 (fun j hj => h0 j hj) h1 g1 g2) 11 0 m_names rfl (fun j hj => absurd hj (by omega)) (fun _ _ => rfl)
    · exact absurd (nI_ltN (b := 450) (Int32.not_le.mp h63) (by omega) (by omega)) (by omega)
  | succ n ih =>
    intro i a hi h0 h1
    refine wp_iload_n 60 d_Mo_town_59 rfl rfl ?_
    refine wp_sipush 63 450 d_Mo_town_60 rfl (by decide) ?_
    refine wp_icmp_ge 88 66 d_Mo_town_63 rfl (by decide) (fun h63 => ?_) (fun h63 => ?_)
    · exact absurd (nI_leN (b := 450) h63 (by omega) (by omega)) (by omega)
    · refine wp_aload_n 67 d_Mo_town_66 rfl rfl ?_
      refine wp_getfield 70 12 0 d_Mo_town_67 rfl fl_Mo_7 rfl rfl ?_
      refine wp_iload_n 71 d_Mo_town_70 rfl rfl ?_
      refine wp_aload_n 72 d_Mo_town_71 rfl rfl ?_
      refine wp_getfield 75 12 0 d_Mo_town_72 rfl fl_Mo_7 rfl rfl ?_
      refine wp_sipush 78 1800 d_Mo_town_75 rfl (by decide) ?_
      refine wp_iload_n 79 d_Mo_town_78 rfl rfl ?_
      refine wp_iadd 80 d_Mo_town_79 rfl ?_
      rw [show (1800 : Int32) + nI i = nI (1800 + i) from nI_add 1800 _]
      refine wp_ialoadN 81 d_Mo_town_80 rfl rfl rfl (by omega) ?_
      refine wp_iastoreN 82 d_Mo_town_81 rfl rfl rfl (by omega) ?_
      refine hEq (hM (upd a i (a (1800 + i))) m_names m_status m_top m_bottom m_sort m_trayMany m_trays m_tape m_text m_taped m_size m_token m_from m_end m_value m_faultKind m_faultPlace m_faults m_seen m_areOdds m_opened m_depth m_counted m_eastBy m_northBy m_partBy m_wayFaults m_wayEast m_wayNorth m_olds m_wayMany m_oneOfSet m_twoOfSet m_farBy m_rowBy m_triedBy m_rowMany m_doneAt m_gotAt m_struckAt m_bestDeed m_misBy m_drawn m_ranSteps m_loops m_ran m_told1 m_isTold m_marks) rfl ?_
      first | refine wp_iincN_3 85 d_Mo_town_82 rfl rfl rfl ?_ | refine wp_iinc_3 85 1 d_Mo_town_82 rfl (by decide) rfl rfl ?_
      refine wp_goto 59 d_Mo_town_85 (by decide) ?_
      refine ih (i + 1) (upd a i (a (1800 + i))) (by omega) (fun j hj => ?_) (fun j hj => ?_)
      · by_cases z : j = i
        · rw [z, upd_at]; exact h1 _ (by omega)
        · rw [upd_ne z]; exact h0 j (by omega)
      · rw [upd_ne (by omega)]; exact h1 j (by omega)
set_option maxRecDepth 100000 in
set_option maxHeartbeats 4000000 in
theorem l_Mo_town_50g {v : Int32} (hf : m_faults = 0) (hq : ∀ (a9 : Nat → Int32) (x9 : Nat → Int64), (∀ j, j < 450 → a9 j = m_at (1800 + j)) → (∀ j, 450 ≤ j → a9 j = m_at j) → (∀ j, j < 11 → x9 j = m_names (44 + j)) → (∀ j, 11 ≤ j → x9 j = m_names j) → Q (some (.int (a9 2))) (hM (a9) (x9) (0) m_top m_bottom m_sort m_trayMany m_trays m_tape m_text m_taped m_size m_token m_from m_end m_value (0) m_faultPlace m_faults m_seen m_areOdds m_opened m_depth m_counted m_eastBy m_northBy m_partBy m_wayFaults m_wayEast m_wayNorth m_olds m_wayMany m_oneOfSet m_twoOfSet m_farBy m_rowBy m_triedBy m_rowMany m_doneAt m_gotAt m_struckAt m_bestDeed m_misBy m_drawn m_ranSteps m_loops m_ran m_told1 m_isTold m_marks)) : WP Γ M_Mo_town 11 0 0 (hM m_at m_names m_status m_top m_bottom m_sort m_trayMany m_trays m_tape m_text m_taped m_size m_token m_from m_end m_value m_faultKind m_faultPlace m_faults m_seen m_areOdds m_opened m_depth m_counted m_eastBy m_northBy m_partBy m_wayFaults m_wayEast m_wayNorth m_olds m_wayMany m_oneOfSet m_twoOfSet m_farBy m_rowBy m_triedBy m_rowMany m_doneAt m_gotAt m_struckAt m_bestDeed m_misBy m_drawn m_ranSteps m_loops m_ran m_told1 m_isTold m_marks) 50 [some (.ref 0), some (.int v), some (.int 1), none] [] Q := by
  refine wp_aload_n 51 d_Mo_town_50 rfl rfl ?_
  refine wp_getfield 54 12 18 d_Mo_town_51 rfl fl_Mo_181 rfl rfl ?_
  refine wp_if_ne 117 57 d_Mo_town_54 rfl (by decide) (fun h54 => ?_) (fun h54 => ?_)
  · exact absurd hf h54
  · refine wp_iconst 58 0 d_Mo_town_57 rfl (by decide) ?_
    refine wp_istore_3 59 d_Mo_town_58 rfl rfl rfl ?_
    exact l_Mo_town_59 hf hq 450 0 m_at rfl (fun j hj => absurd hj (by omega)) (fun _ _ => rfl)
set_option maxRecDepth 100000 in
set_option maxHeartbeats 4000000 in
theorem l_Mo_town_50b {v : Int32} (hf : 0 < m_faults) (hq : Q (some (.int (-1))) (hM m_at m_names (9) m_top m_bottom m_sort m_trayMany m_trays m_tape m_text m_taped m_size m_token m_from m_end m_value (m_faults) m_faultPlace m_faults m_seen m_areOdds m_opened m_depth m_counted m_eastBy m_northBy m_partBy m_wayFaults m_wayEast m_wayNorth m_olds m_wayMany m_oneOfSet m_twoOfSet m_farBy m_rowBy m_triedBy m_rowMany m_doneAt m_gotAt m_struckAt m_bestDeed m_misBy m_drawn m_ranSteps m_loops m_ran m_told1 m_isTold m_marks)) : WP Γ M_Mo_town 11 0 0 (hM m_at m_names m_status m_top m_bottom m_sort m_trayMany m_trays m_tape m_text m_taped m_size m_token m_from m_end m_value m_faultKind m_faultPlace m_faults m_seen m_areOdds m_opened m_depth m_counted m_eastBy m_northBy m_partBy m_wayFaults m_wayEast m_wayNorth m_olds m_wayMany m_oneOfSet m_twoOfSet m_farBy m_rowBy m_triedBy m_rowMany m_doneAt m_gotAt m_struckAt m_bestDeed m_misBy m_drawn m_ranSteps m_loops m_ran m_told1 m_isTold m_marks) 50 [some (.ref 0), some (.int v), some (.int 0), none] [] Q := by
  refine wp_aload_n 51 d_Mo_town_50 rfl rfl ?_
  refine wp_getfield 54 12 18 d_Mo_town_51 rfl fl_Mo_181 rfl rfl ?_
  refine wp_if_ne 117 57 d_Mo_town_54 rfl (by decide) (fun h54 => ?_) (fun h54 => ?_)
  · refine wp_aload_n 118 d_Mo_town_117 rfl rfl ?_
    refine wp_aload_n 119 d_Mo_town_118 rfl rfl ?_
    refine wp_getfield 122 12 0 d_Mo_town_119 rfl fl_Mo_7 rfl rfl ?_
    refine wp_iconst 123 2 d_Mo_town_122 rfl (by decide) ?_
    refine wp_iaload 124 d_Mo_town_123 rfl rfl (vp_in_nI (n := 2) (N := 2332) (by omega) (by omega)) ?_
    refine wp_V1 127 M_Mo_taken 2 d_Mo_town_124 rfl mv_Mo_taken lk_Mo_260 rfl rfl rfl rfl rfl ?_
    refine c_Mo_taken (fun t0 => ?_) (fun t1 => ?_)
    · refine kI ?_
      refine wp_ireturn d_Mo_town_127 rfl ?_
      exact absurd hf (Int32.not_lt.mpr t0)
    · refine kI ?_
      refine wp_ireturn d_Mo_town_127 rfl ?_
      exact hq
  · exact absurd (h54 ▸ hf) (by decide)
set_option maxRecDepth 100000 in
set_option maxHeartbeats 4000000 in
theorem l_Mo_town_31 {v : Int32} {R : Bool × CS × TW × Int32} (hL : L ≤ 900) (hb : ∀ k, k < L → b8 (m_text k)) (T : TKs co0_ m_text L K) (hf : m_faults = 0) (hq1 : (∀ (a2 : Nat → Int32) (n2 : Nat → Int64), R.1 = true → vT (sh a2) R.2.2.1 → NS n2 44 R.2.2.1 → frW a2 m_at → frL n2 m_names → WP Γ M_Mo_town 11 0 0 (hM (a2) (n2) m_status m_top m_bottom m_sort m_trayMany m_trays m_tape m_text m_taped ((nI L)) ((gtF m_text L R.2.1.a).1) ((nI (gtF m_text L R.2.1.a).2.1)) ((nI (gtF m_text L R.2.1.a).2.2.1)) ((gtF m_text L R.2.1.a).2.2.2) m_faultKind m_faultPlace m_faults m_seen (R.2.2.2) m_opened m_depth m_counted m_eastBy m_northBy m_partBy m_wayFaults m_wayEast m_wayNorth m_olds m_wayMany m_oneOfSet m_twoOfSet m_farBy m_rowBy m_triedBy m_rowMany m_doneAt m_gotAt m_struckAt m_bestDeed m_misBy m_drawn m_ranSteps m_loops m_ran m_told1 m_isTold m_marks) 50 [some (.ref 0), some (.int v), some (.int 1), none] [] Q)) (hq0 : (∀ (a2 : Nat → Int32) (n2 : Nat → Int64) (z1 z2 z3 z4 y : Int32), ¬ R.1 = true → frW a2 m_at → frL n2 m_names → WP Γ M_Mo_town 11 0 0 (hM (a2) (n2) m_status m_top m_bottom m_sort m_trayMany m_trays m_tape m_text m_taped ((nI L)) (z1) (z2) (z3) (z4) m_faultKind ((R.2.1).fp) ((R.2.1).fk) m_seen (y) m_opened m_depth m_counted m_eastBy m_northBy m_partBy m_wayFaults m_wayEast m_wayNorth m_olds m_wayMany m_oneOfSet m_twoOfSet m_farBy m_rowBy m_triedBy m_rowMany m_doneAt m_gotAt m_struckAt m_bestDeed m_misBy m_drawn m_ranSteps m_loops m_ran m_told1 m_isTold m_marks) 50 [some (.ref 0), some (.int v), some (.int 0), none] [] Q)) : ∀ (N r : Nat), r < N → ∀ (s : CS) (t : TW) (x : Int32) (a : Nat → Int32) (n : Nat → Int64), prI K r s t x = R → K.nT ≤ r + s.a → s.a < K.nT → vT (sh a) t → NS n 44 t → frW a m_at → frL n m_names → WP Γ M_Mo_town 11 0 0 (hM (a) (n) m_status m_top m_bottom m_sort m_trayMany m_trays m_tape m_text m_taped ((nI L)) ((gtF m_text L s.a).1) ((nI (gtF m_text L s.a).2.1)) ((nI (gtF m_text L s.a).2.2.1)) ((gtF m_text L s.a).2.2.2) m_faultKind m_faultPlace m_faults m_seen (x) m_opened m_depth m_counted m_eastBy m_northBy m_partBy m_wayFaults m_wayEast m_wayNorth m_olds m_wayMany m_oneOfSet m_twoOfSet m_farBy m_rowBy m_triedBy m_rowMany m_doneAt m_gotAt m_struckAt m_bestDeed m_misBy m_drawn m_ranSteps m_loops m_ran m_told1 m_isTold m_marks) 31 [some (.ref 0), some (.int v), some (.int 1), none] [] Q := by
  intro N9
  induction N9 with
  | zero => intro r hr9; exact absurd hr9 (Nat.not_lt_zero _)
  | succ N9 ih0 =>
    intro r hr9 s t x a n hR hm ha V N f1 f2
    have ih := fun r2 (h : r2 + 1 = r) => ih0 r2 (by omega)
    have A := ATk_of (s := s) hb T ha
    refine wp_iload_n 32 d_Mo_town_31 rfl rfl ?_
    refine wp_if_eq 50 35 d_Mo_town_32 rfl (by decide) (fun h32 => ?_) (fun h32 => ?_)
    · exact absurd h32 (by decide)
    · refine wp_aload_n 36 d_Mo_town_35 rfl rfl ?_
      refine wp_getfield 39 12 12 d_Mo_town_36 rfl fl_Mo_156 rfl rfl ?_
      refine wp_if_eq 50 42 d_Mo_town_39 rfl (by decide) (fun h39 => ?_) (fun h39 => ?_)
      · have hr : ∃ r2, r = r2 + 1 := ⟨r - 1, by omega⟩
        obtain ⟨r2, rfl⟩ := hr
        have h0k : K.ki s.a = 0 := (ak_0 A).mpr h39
        have e : prI K (r2 + 1) s t x = (true, s, t, x) := by
          unfold prI
          rw [if_pos h0k]
        rw [e] at hR
        subst hR
        exact hq1 a n rfl V N f1 f2
      · have hr : ∃ r2, r = r2 + 1 := ⟨r - 1, by omega⟩
        refine wp_aload_n 43 d_Mo_town_42 rfl rfl ?_
        refine wp_V0 46 M_Mo_townPart 10 d_Mo_town_43 rfl mv_Mo_townPart lk_Mo_257 rfl rfl rfl rfl rfl ?_
        refine k_townPart (m_at := a) (m_names := n) (s := s) (t := t) (x := x) hL hb T ha hf V N (fun n1 a2 n2 v1 v2 v3 v4 => ?_) (fun n8 a2 n2 z1 z2 z3 z4 y v3 v4 => ?_)
        · refine kI ?_
          refine wp_istore_2 47 d_Mo_town_46 rfl rfl rfl ?_
          refine wp_goto 31 d_Mo_town_47 (by decide) ?_
          obtain ⟨r2, rfl⟩ := hr
          have e := prI_s (K := K) (r := r2) (s := s) (t := t) (x := x) (fun z => h39 ((ak_0 A).mp z))
          rw [if_pos n1] at e
          have ok := tSt_ok (x := x) (show POk K s t from ⟨ha, V.ok.hP, V.ok.hW, V.ok.hL⟩)
          refine ih r2 rfl _ _ _ a2 n2 (e.symm.trans hR) ?_ ok.1 v1 v2 (fun k hk => (v3 k hk).trans (f1 k hk)) (fun k hk => (v4 k hk).trans (f2 k hk))
          have p1 : (tPt K s t x).1 = true := by
            by_cases c : (tPt K s t x).1 = true
            · exact c
            · have e2 : tSt K s t x = _ := if_neg c
              rw [e2] at n1
              exact absurd n1 (show ¬ false = true by decide)
          have e2 : tSt K s t x = _ := if_pos p1
          have p2 : (cSg K 59 (tPt K s t x).2.1).1 = true := by rw [e2] at n1; exact n1
          have m1 := (tPt_mo V.ok.hP V.ok.hW p1).1
          have ok2 := tPt_ok (x := x) (show POk K s t from ⟨ha, V.ok.hP, V.ok.hW, V.ok.hL⟩)
          have m2 := cSg_gt (ATk_of hb T ok2.1) p2
          rw [e2]
          show K.nT ≤ r2 + (cSg K 59 (tPt K s t x).2.1).2.a
          omega
        · refine kI ?_
          refine wp_istore_2 47 d_Mo_town_46 rfl rfl rfl ?_
          refine wp_goto 31 d_Mo_town_47 (by decide) ?_
          refine wp_iload_n 32 d_Mo_town_31 rfl rfl ?_
          refine wp_if_eq 50 35 d_Mo_town_32 rfl (by decide) (fun h32 => ?_) (fun h32 => ?_)
          · obtain ⟨r2, rfl⟩ := hr
            have e := prI_s (K := K) (r := r2) (s := s) (t := t) (x := x) (fun z => h39 ((ak_0 A).mp z))
            rw [if_neg n8] at e
            rw [e] at hR
            subst hR
            exact hq0 a2 n2 _ _ _ _ _ n8 (fun k hk => (v3 k hk).trans (f1 k hk)) (fun k hk => (v4 k hk).trans (f2 k hk))
          · exact absurd rfl h32
set_option maxRecDepth 100000 in
set_option maxHeartbeats 4000000 in
theorem c_Mo_town {v : Int32} {n0 : Nat} {s0 : CS} {S : TW} {KK : Nat → TK} (hs0 : s0.a = 0) (hn : n0 ≤ 900) (hbt : ∀ k, k < n0 → b8 (m_tape k)) (hT : ∀ (L : Nat) (x : Nat → Int32), L ≤ n0 → (∀ j, j < L → x j = m_tape j) → TKs co0_ x L (KK L)) (hS : tOK S) (hq0 : ¬ (0 ≤ v ∧ v ≤ nI n0) → Q (some (.int (-1))) (hM m_at m_names (1) m_top m_bottom m_sort m_trayMany m_trays m_tape m_text ((nI n0)) m_size m_token m_from m_end m_value m_faultKind m_faultPlace m_faults m_seen m_areOdds m_opened m_depth m_counted m_eastBy m_northBy m_partBy m_wayFaults m_wayEast m_wayNorth m_olds m_wayMany m_oneOfSet m_twoOfSet m_farBy m_rowBy m_triedBy m_rowMany m_doneAt m_gotAt m_struckAt m_bestDeed m_misBy m_drawn m_ranSteps m_loops m_ran m_told1 m_isTold m_marks)) (hq9 : (∀ L, v = nI L → L ≤ n0 → ¬ (prI (KK L) 901 s0 (tClr S) 0).1 = true → ∀ (x a2 : Nat → Int32) (n2 : Nat → Int64) (z1 z2 z3 z4 y : Int32), frO a2 m_at → frL n2 m_names → Q (some (.int (-1))) (hM (a2) (n2) (9) m_top m_bottom m_sort m_trayMany m_trays m_tape (x) (0) ((nI L)) (z1) (z2) (z3) (z4) (((prI (KK L) 901 s0 (tClr S) 0).2.1).fk) (((prI (KK L) 901 s0 (tClr S) 0).2.1).fp) (((prI (KK L) 901 s0 (tClr S) 0).2.1).fk) (0) (y) m_opened m_depth m_counted m_eastBy m_northBy m_partBy m_wayFaults m_wayEast m_wayNorth m_olds m_wayMany m_oneOfSet m_twoOfSet m_farBy m_rowBy m_triedBy m_rowMany m_doneAt m_gotAt m_struckAt m_bestDeed m_misBy m_drawn m_ranSteps m_loops m_ran m_told1 m_isTold m_marks))) (hq1 : (∀ L, v = nI L → L ≤ n0 → (prI (KK L) 901 s0 (tClr S) 0).1 = true → ∀ (x a2 : Nat → Int32) (n2 : Nat → Int64) (z1 z2 z3 z4 y : Int32), vT a2 (prI (KK L) 901 s0 (tClr S) 0).2.2.1 → NS n2 0 (prI (KK L) 901 s0 (tClr S) 0).2.2.1 → a2 7 = -1 → (∀ k, 450 ≤ k → k < 1800 → a2 k = m_at k) → (∀ k, 11 ≤ k → k < 44 → n2 k = m_names k) → Q (some (.int (nI (prI (KK L) 901 s0 (tClr S) 0).2.2.1.nL))) (hM (a2) (n2) (0) m_top m_bottom m_sort m_trayMany m_trays m_tape (x) (0) ((nI L)) (z1) (z2) (z3) (z4) (0) ((-1)) (0) (0) (y) m_opened m_depth m_counted m_eastBy m_northBy m_partBy m_wayFaults m_wayEast m_wayNorth m_olds m_wayMany m_oneOfSet m_twoOfSet m_farBy m_rowBy m_triedBy m_rowMany m_doneAt m_gotAt m_struckAt m_bestDeed m_misBy m_drawn m_ranSteps m_loops m_ran m_told1 m_isTold m_marks))) : Call Γ M_Mo_town 11 0 0 [.ref 0, .int v] (hM m_at m_names m_status m_top m_bottom m_sort m_trayMany m_trays m_tape m_text ((nI n0)) m_size m_token m_from m_end m_value m_faultKind m_faultPlace m_faults m_seen m_areOdds m_opened m_depth m_counted m_eastBy m_northBy m_partBy m_wayFaults m_wayEast m_wayNorth m_olds m_wayMany m_oneOfSet m_twoOfSet m_farBy m_rowBy m_triedBy m_rowMany m_doneAt m_gotAt m_struckAt m_bestDeed m_misBy m_drawn m_ranSteps m_loops m_ran m_told1 m_isTold m_marks) Q := by
  refine call_intro (ls := [some (.ref 0), some (.int v), none, none]) rfl rfl rfl ?_
  refine wp_aload_n 1 d_Mo_town_0 rfl rfl ?_
  refine wp_iload_n 2 d_Mo_town_1 rfl rfl ?_
  refine wp_sipush 5 900 d_Mo_town_2 rfl (by decide) ?_
  refine wp_V2 8 M_Mo_begins 3 d_Mo_town_5 rfl mv_Mo_begins lk_Mo_253 rfl rfl rfl rfl rfl ?_
  refine c_Mo_begins (n := 0) (T := n0) (m9 := 900) hn (by omega) hbt (fun c0 => ?_) (fun L c1 c2 c3 x c4 c5 => ?_)
  · refine kI ?_
    refine wp_if_ne 17 11 d_Mo_town_8 rfl (by decide) (fun h8 => ?_) (fun h8 => ?_)
    · exact absurd rfl h8
    · refine wp_aload_n 12 d_Mo_town_11 rfl rfl ?_
      refine wp_iconst 13 1 d_Mo_town_12 rfl (by decide) ?_
      refine wp_V1 16 M_Mo_refuse 1 d_Mo_town_13 rfl mv_Mo_refuse lk_Mo_111 rfl rfl rfl rfl rfl ?_
      refine c_Mo_refuse ?_
      refine kI ?_
      refine wp_ireturn d_Mo_town_16 rfl ?_
      refine hq0 (fun z => c0 ⟨z.1, z.2, ?_⟩)
      obtain ⟨k, k1, k2, k3⟩ := i32_in (m := 0) (n := n0) (by omega) (by omega) z.1 z.2
      rw [k3]
      exact (nI_leI (by omega) (by omega)).mpr (by omega)
  · refine kI ?_
    refine wp_if_ne 17 11 d_Mo_town_8 rfl (by decide) (fun h8 => ?_) (fun h8 => ?_)
    · refine wp_aload_n 18 d_Mo_town_17 rfl rfl ?_
      refine wp_sipush 21 1800 d_Mo_town_18 rfl (by decide) ?_
      refine wp_V1 24 M_Mo_plain 1 d_Mo_town_21 rfl mv_Mo_plain lk_Mo_101 rfl rfl rfl rfl rfl ?_
      refine c_plainN (fun a p1 p2 => ?_)
      refine kV ?_
      refine wp_aload_n 25 d_Mo_town_24 rfl rfl ?_
      refine wp_iconst 26 0 d_Mo_town_25 rfl (by decide) ?_
      refine wp_putfield 29 12 20 _ d_Mo_town_26 rfl fp_Mo_249 rfl rfl (fun _ => ⟨rfl, rfl⟩) ?_
      refine hEq (hM (a) m_names m_status m_top m_bottom m_sort m_trayMany m_trays m_tape (x) (0) ((nI L)) ((gtF x L 0).1) ((nI (gtF x L 0).2.1)) ((nI (gtF x L 0).2.2.1)) ((gtF x L 0).2.2.2) m_faultKind ((-1)) (0) (0) (0) m_opened m_depth m_counted m_eastBy m_northBy m_partBy m_wayFaults m_wayEast m_wayNorth m_olds m_wayMany m_oneOfSet m_twoOfSet m_farBy m_rowBy m_triedBy m_rowMany m_doneAt m_gotAt m_struckAt m_bestDeed m_misBy m_drawn m_ranSteps m_loops m_ran m_told1 m_isTold m_marks) rfl ?_
      refine wp_iconst 30 1 d_Mo_town_29 rfl (by decide) ?_
      refine wp_istore_2 31 d_Mo_town_30 rfl rfl rfl ?_
      have hbx : ∀ k, k < L → b8 (x k) := fun k hk => by rw [c4 k hk]; exact hbt k (by omega)
      have T := hT L x c2 c4
      have hz : ∀ k, k < 450 → sh a k = plC k := fun k hk => p1 k hk
      have V0 : vT (sh a) (tClr S) := by
        refine ⟨⟨?_, ?_, ?_, ?_, ?_, ?_, ?_⟩, fun k hk => absurd hk (Nat.not_lt_zero _), fun k hk => absurd hk (Nat.not_lt_zero _), tClr_tok hS, fun k hk => absurd hk (Nat.not_lt_zero _), fun k hk => absurd hk (Nat.not_lt_zero _), Or.inl rfl, show inR 2 17 by decide, fun k hk => absurd hk (Nat.not_lt_zero _)⟩
        · rw [hz 0 (by omega)]; rfl
        · rw [hz 1 (by omega)]; rfl
        · rw [hz 2 (by omega)]; rfl
        · rw [hz 3 (by omega)]; rfl
        · rw [hz 4 (by omega)]; rfl
        · rw [hz 5 (by omega)]; rfl
        · rw [hz 6 (by omega)]; rfl
      have hs1 : s0.a < (KK L).nT := by rw [hs0]; exact T.1.1
      have e0 : gtF x L 0 = gtF x L s0.a := by rw [hs0]
      rw [e0]
      refine l_Mo_town_31 (m_text := x) (m_at := a) (m_faults := 0) (K := KK L) (L := L) (R := (prI (KK L) 901 s0 (tClr S) 0)) (by omega) hbx T rfl (fun a2 n2 r1 r2 r3 r4 r5 => ?_) (fun a2 n2 z1 z2 z3 z4 y r1 r4 r5 => ?_) 902 901 (by omega) s0 (tClr S) 0 a m_names rfl (by have := T.1.2; omega) hs1 V0 ⟨fun k hk => absurd hk (Nat.not_lt_zero _), fun k hk => absurd hk (Nat.not_lt_zero _)⟩ (fun _ _ => rfl) (fun _ _ => rfl)
      · refine l_Mo_town_50g rfl (fun a9 x9 g1 g2 g3 g4 => ?_)
        have V9 : vT a9 (prI (KK L) 901 s0 (tClr S) 0).2.2.1 := vT_82 r2 (fun j hj => g1 j (by omega))
        rw [V9.L]
        refine hq1 L c1 c2 r1 x a9 x9 _ _ _ _ _ V9 ⟨fun k hk => ?_, fun k hk => ?_⟩ ?_ (fun k k1 k2 => ?_) (fun k k1 k2 => ?_)
        · have hP := V9.ok.hP
          rw [Nat.zero_add, g3 k (by omega)]
          exact r3.1 k hk
        · have hW := V9.ok.hW
          rw [g3 (0 + 7 + k) (by omega), show 44 + (0 + 7 + k) = 44 + 7 + k by omega]
          exact r3.2 k hk
        · rw [g1 7 (by omega), r4 1807 (Or.inr rfl)]
          exact (p1 7 (by omega)).trans rfl
        · rw [g2 k k1, r4 k (Or.inl k2)]
          exact p2 k (Or.inl k2)
        · rw [g4 k k1]
          exact r5 k k2
      · refine l_Mo_town_50b (prI_fk 901 s0 (tClr S) 0 r1) ?_
        exact hq9 L c1 c2 r1 x a2 n2 _ _ _ _ _ (fun k hk => (r4 k (Or.inl hk)).trans (p2 k (Or.inl hk))) r5
    · exact absurd h8 (by decide)

end TAY
