/-! ===== the reference: marks, plain ===== -/
/-- the cells of nothing set up -/
def plC (j : Nat) : Int32 := if j = 3 then 2 else if j = 4 then -1 else if j = 7 then -1 else 0
theorem vLq_at {f : Nat → Int64} {k : Nat} {v : Int64} : vp_updL f k v k = v := if_pos rfl
theorem vLq_ne {f : Nat → Int64} {k j : Nat} {v : Int64} (h : ¬ j = k) : vp_updL f k v j = f j := if_neg h
section TAB
variable {Γ : Gm} {Q : Option Value → LH → Prop} {m_at m_sort m_trayMany m_tape m_text m_opened m_eastBy m_northBy m_partBy m_wayFaults m_wayEast m_wayNorth m_olds m_farBy m_rowBy m_triedBy m_doneAt m_gotAt m_struckAt m_bestDeed m_loops m_ran m_told1 : Nat → Int32} {m_names m_trays m_misBy : Nat → Int64} {m_status m_taped m_size m_token m_from m_end m_value m_faultKind m_faultPlace m_faults m_seen m_areOdds m_depth m_counted m_wayMany m_oneOfSet m_twoOfSet m_rowMany m_drawn m_ranSteps m_isTold m_marks : Int32} {m_top m_bottom : Int64} {t : TW} {s : LSt}
set_option maxRecDepth 100000 in
set_option maxHeartbeats 4000000 in
theorem l_Mo_copies_2 {p q : Nat} (hpq : ¬ p = q) (hp : p ≤ 4) (hq4 : q ≤ 4) (hq : ∀ a : Nat → Int32, (∀ j, j < 450 → a (450 * q + j) = m_at (450 * p + j)) → (∀ j, ¬ (450 * q ≤ j ∧ j < 450 * q + 450) → a j = m_at j) → WP Γ M_Mo_copies 1 0 0 (hM (a) m_names m_status m_top m_bottom m_sort m_trayMany m_trays m_tape m_text m_taped m_size m_token m_from m_end m_value m_faultKind m_faultPlace m_faults m_seen m_areOdds m_opened m_depth m_counted m_eastBy m_northBy m_partBy m_wayFaults m_wayEast m_wayNorth m_olds m_wayMany m_oneOfSet m_twoOfSet m_farBy m_rowBy m_triedBy m_rowMany m_doneAt m_gotAt m_struckAt m_bestDeed m_misBy m_drawn m_ranSteps m_loops m_ran m_told1 m_isTold m_marks) 39 [some (.ref 0), some (.int (nI p)), some (.int (nI q)), some (.int (nI 450))] [] Q) : ∀ (n i : Nat) (a : Nat → Int32), i + n = 450 → (∀ j, j < i → a (450 * q + j) = m_at (450 * p + j)) → (∀ j, ¬ (450 * q ≤ j ∧ j < 450 * q + 450) → a j = m_at j) → WP Γ M_Mo_copies 1 0 0 (hM (a) m_names m_status m_top m_bottom m_sort m_trayMany m_trays m_tape m_text m_taped m_size m_token m_from m_end m_value m_faultKind m_faultPlace m_faults m_seen m_areOdds m_opened m_depth m_counted m_eastBy m_northBy m_partBy m_wayFaults m_wayEast m_wayNorth m_olds m_wayMany m_oneOfSet m_twoOfSet m_farBy m_rowBy m_triedBy m_rowMany m_doneAt m_gotAt m_struckAt m_bestDeed m_misBy m_drawn m_ranSteps m_loops m_ran m_told1 m_isTold m_marks) 2 [some (.ref 0), some (.int (nI p)), some (.int (nI q)), some (.int (nI i))] [] Q := by
  intro n
  induction n with
  | zero =>
    intro i a hi h0 h1
    refine wp_iload_n 3 d_Mo_copies_2 rfl rfl ?_
    refine wp_sipush 6 450 d_Mo_copies_3 rfl (by decide) ?_
    refine wp_icmp_ge 39 9 d_Mo_copies_6 rfl (by decide) (fun h6 => ?_) (fun h6 => ?_)
    · obtain rfl : i = 450 := by omega
      exact hq a (fun j hj => h0 j hj) h1
    · exact absurd (nI_ltN (b := 450) (Int32.not_le.mp h6) (by omega) (by omega)) (by omega)
  | succ n ih =>
    intro i a hi h0 h1
    refine wp_iload_n 3 d_Mo_copies_2 rfl rfl ?_
    refine wp_sipush 6 450 d_Mo_copies_3 rfl (by decide) ?_
    refine wp_icmp_ge 39 9 d_Mo_copies_6 rfl (by decide) (fun h6 => ?_) (fun h6 => ?_)
    · exact absurd (nI_leN (b := 450) h6 (by omega) (by omega)) (by omega)
    · refine wp_aload_n 10 d_Mo_copies_9 rfl rfl ?_
      refine wp_getfield 13 12 0 d_Mo_copies_10 rfl fl_Mo_7 rfl rfl ?_
      refine wp_sipush 16 450 d_Mo_copies_13 rfl (by decide) ?_
      refine wp_iload_n 17 d_Mo_copies_16 rfl rfl ?_
      refine wp_imul 18 d_Mo_copies_17 rfl ?_
      rw [show (450 : Int32) * nI q = nI (450 * q) from mulK 450 q]
      refine wp_iload_n 19 d_Mo_copies_18 rfl rfl ?_
      refine wp_iadd 20 d_Mo_copies_19 rfl ?_
      rw [show nI (450 * q) + nI i = nI (450 * q + i) from nI_add _ _]
      refine wp_aload_n 21 d_Mo_copies_20 rfl rfl ?_
      refine wp_getfield 24 12 0 d_Mo_copies_21 rfl fl_Mo_7 rfl rfl ?_
      refine wp_sipush 27 450 d_Mo_copies_24 rfl (by decide) ?_
      refine wp_iload_n 28 d_Mo_copies_27 rfl rfl ?_
      refine wp_imul 29 d_Mo_copies_28 rfl ?_
      rw [show (450 : Int32) * nI p = nI (450 * p) from mulK 450 p]
      refine wp_iload_n 30 d_Mo_copies_29 rfl rfl ?_
      refine wp_iadd 31 d_Mo_copies_30 rfl ?_
      rw [show nI (450 * p) + nI i = nI (450 * p + i) from nI_add _ _]
      refine wp_ialoadN 32 d_Mo_copies_31 rfl rfl rfl (by omega) ?_
      refine wp_iastoreN 33 d_Mo_copies_32 rfl rfl rfl (by omega) ?_
      refine hEq (hM (upd a (450 * q + i) (a (450 * p + i))) m_names m_status m_top m_bottom m_sort m_trayMany m_trays m_tape m_text m_taped m_size m_token m_from m_end m_value m_faultKind m_faultPlace m_faults m_seen m_areOdds m_opened m_depth m_counted m_eastBy m_northBy m_partBy m_wayFaults m_wayEast m_wayNorth m_olds m_wayMany m_oneOfSet m_twoOfSet m_farBy m_rowBy m_triedBy m_rowMany m_doneAt m_gotAt m_struckAt m_bestDeed m_misBy m_drawn m_ranSteps m_loops m_ran m_told1 m_isTold m_marks) rfl ?_
      first | refine wp_iincN_3 36 d_Mo_copies_33 rfl rfl rfl ?_ | refine wp_iinc_3 36 1 d_Mo_copies_33 rfl (by decide) rfl rfl ?_
      refine wp_goto 2 d_Mo_copies_36 (by decide) ?_
      refine ih (i + 1) (upd a (450 * q + i) (a (450 * p + i))) (by omega) (fun j hj => ?_) (fun j hj => ?_)
      · by_cases z : j = i
        · rw [z, upd_at]; exact h1 _ (by omega)
        · rw [upd_ne (by omega)]; exact h0 j (by omega)
      · rw [upd_ne (by omega)]; exact h1 j hj
set_option maxRecDepth 100000 in
set_option maxHeartbeats 4000000 in
theorem l_Mo_copies_41 {p q : Nat} (hpq : ¬ p = q) (hp : p ≤ 4) (hq4 : q ≤ 4) (hq : ∀ x : Nat → Int64, (∀ j, j < 11 → x (11 * q + j) = m_names (11 * p + j)) → (∀ j, ¬ (11 * q ≤ j ∧ j < 11 * q + 11) → x j = m_names j) → Q none (hM m_at (x) m_status m_top m_bottom m_sort m_trayMany m_trays m_tape m_text m_taped m_size m_token m_from m_end m_value m_faultKind m_faultPlace m_faults m_seen m_areOdds m_opened m_depth m_counted m_eastBy m_northBy m_partBy m_wayFaults m_wayEast m_wayNorth m_olds m_wayMany m_oneOfSet m_twoOfSet m_farBy m_rowBy m_triedBy m_rowMany m_doneAt m_gotAt m_struckAt m_bestDeed m_misBy m_drawn m_ranSteps m_loops m_ran m_told1 m_isTold m_marks)) : ∀ (n i : Nat) (a : Nat → Int64), i + n = 11 → (∀ j, j < i → a (11 * q + j) = m_names (11 * p + j)) → (∀ j, ¬ (11 * q ≤ j ∧ j < 11 * q + 11) → a j = m_names j) → WP Γ M_Mo_copies 1 0 0 (hM m_at (a) m_status m_top m_bottom m_sort m_trayMany m_trays m_tape m_text m_taped m_size m_token m_from m_end m_value m_faultKind m_faultPlace m_faults m_seen m_areOdds m_opened m_depth m_counted m_eastBy m_northBy m_partBy m_wayFaults m_wayEast m_wayNorth m_olds m_wayMany m_oneOfSet m_twoOfSet m_farBy m_rowBy m_triedBy m_rowMany m_doneAt m_gotAt m_struckAt m_bestDeed m_misBy m_drawn m_ranSteps m_loops m_ran m_told1 m_isTold m_marks) 41 [some (.ref 0), some (.int (nI p)), some (.int (nI q)), some (.int (nI i))] [] Q := by
  intro n
  induction n with
  | zero =>
    intro i a hi h0 h1
    refine wp_iload_n 42 d_Mo_copies_41 rfl rfl ?_
    refine wp_bipush 44 11 d_Mo_copies_42 rfl (by decide) ?_
    refine wp_icmp_ge 75 47 d_Mo_copies_44 rfl (by decide) (fun h44 => ?_) (fun h44 => ?_)
    · refine wp_return d_Mo_copies_75 rfl ?_
      obtain rfl : i = 11 := by omega
      exact hq a (fun j hj => h0 j hj) h1
    · exact absurd (nI_ltN (b := 11) (Int32.not_le.mp h44) (by omega) (by omega)) (by omega)
  | succ n ih =>
    intro i a hi h0 h1
    refine wp_iload_n 42 d_Mo_copies_41 rfl rfl ?_
    refine wp_bipush 44 11 d_Mo_copies_42 rfl (by decide) ?_
    refine wp_icmp_ge 75 47 d_Mo_copies_44 rfl (by decide) (fun h44 => ?_) (fun h44 => ?_)
    · exact absurd (nI_leN (b := 11) h44 (by omega) (by omega)) (by omega)
    · refine wp_aload_n 48 d_Mo_copies_47 rfl rfl ?_
      refine wp_getfield 51 12 1 d_Mo_copies_48 rfl fl_Mo_13 rfl rfl ?_
      refine wp_bipush 53 11 d_Mo_copies_51 rfl (by decide) ?_
      refine wp_iload_n 54 d_Mo_copies_53 rfl rfl ?_
      refine wp_imul 55 d_Mo_copies_54 rfl ?_
      rw [show (11 : Int32) * nI q = nI (11 * q) from mulK 11 q]
      refine wp_iload_n 56 d_Mo_copies_55 rfl rfl ?_
      refine wp_iadd 57 d_Mo_copies_56 rfl ?_
      rw [show nI (11 * q) + nI i = nI (11 * q + i) from nI_add _ _]
      refine wp_aload_n 58 d_Mo_copies_57 rfl rfl ?_
      refine wp_getfield 61 12 1 d_Mo_copies_58 rfl fl_Mo_13 rfl rfl ?_
      refine wp_bipush 63 11 d_Mo_copies_61 rfl (by decide) ?_
      refine wp_iload_n 64 d_Mo_copies_63 rfl rfl ?_
      refine wp_imul 65 d_Mo_copies_64 rfl ?_
      rw [show (11 : Int32) * nI p = nI (11 * p) from mulK 11 p]
      refine wp_iload_n 66 d_Mo_copies_65 rfl rfl ?_
      refine wp_iadd 67 d_Mo_copies_66 rfl ?_
      rw [show nI (11 * p) + nI i = nI (11 * p + i) from nI_add _ _]
      refine wp_laloadN 68 d_Mo_copies_67 rfl rfl rfl (by omega) ?_
      refine wp_lastoreN 69 d_Mo_copies_68 rfl rfl rfl (by omega) ?_
      refine hEq (hM m_at (vp_updL a (11 * q + i) (a (11 * p + i))) m_status m_top m_bottom m_sort m_trayMany m_trays m_tape m_text m_taped m_size m_token m_from m_end m_value m_faultKind m_faultPlace m_faults m_seen m_areOdds m_opened m_depth m_counted m_eastBy m_northBy m_partBy m_wayFaults m_wayEast m_wayNorth m_olds m_wayMany m_oneOfSet m_twoOfSet m_farBy m_rowBy m_triedBy m_rowMany m_doneAt m_gotAt m_struckAt m_bestDeed m_misBy m_drawn m_ranSteps m_loops m_ran m_told1 m_isTold m_marks) rfl ?_
      first | refine wp_iincN_3 72 d_Mo_copies_69 rfl rfl rfl ?_ | refine wp_iinc_3 72 1 d_Mo_copies_69 rfl (by decide) rfl rfl ?_
      refine wp_goto 41 d_Mo_copies_72 (by decide) ?_
      refine ih (i + 1) (vp_updL a (11 * q + i) (a (11 * p + i))) (by omega) (fun j hj => ?_) (fun j hj => ?_)
      · by_cases z : j = i
        · rw [z, vLq_at]; exact h1 _ (by omega)
        · rw [vLq_ne (by omega)]; exact h0 j (by omega)
      · rw [vLq_ne (by omega)]; exact h1 j hj
set_option maxRecDepth 100000 in
set_option maxHeartbeats 4000000 in
theorem c_Mo_copies {p q : Nat} (hpq : ¬ p = q) (hp : p ≤ 4) (hq4 : q ≤ 4) (hq : ∀ (a : Nat → Int32) (x : Nat → Int64), (∀ j, j < 450 → a (450 * q + j) = m_at (450 * p + j)) → (∀ j, ¬ (450 * q ≤ j ∧ j < 450 * q + 450) → a j = m_at j) → (∀ j, j < 11 → x (11 * q + j) = m_names (11 * p + j)) → (∀ j, ¬ (11 * q ≤ j ∧ j < 11 * q + 11) → x j = m_names j) → Q none (hM (a) (x) m_status m_top m_bottom m_sort m_trayMany m_trays m_tape m_text m_taped m_size m_token m_from m_end m_value m_faultKind m_faultPlace m_faults m_seen m_areOdds m_opened m_depth m_counted m_eastBy m_northBy m_partBy m_wayFaults m_wayEast m_wayNorth m_olds m_wayMany m_oneOfSet m_twoOfSet m_farBy m_rowBy m_triedBy m_rowMany m_doneAt m_gotAt m_struckAt m_bestDeed m_misBy m_drawn m_ranSteps m_loops m_ran m_told1 m_isTold m_marks)) : Call Γ M_Mo_copies 1 0 0 [.ref 0, .int (nI p), .int (nI q)] (hM m_at m_names m_status m_top m_bottom m_sort m_trayMany m_trays m_tape m_text m_taped m_size m_token m_from m_end m_value m_faultKind m_faultPlace m_faults m_seen m_areOdds m_opened m_depth m_counted m_eastBy m_northBy m_partBy m_wayFaults m_wayEast m_wayNorth m_olds m_wayMany m_oneOfSet m_twoOfSet m_farBy m_rowBy m_triedBy m_rowMany m_doneAt m_gotAt m_struckAt m_bestDeed m_misBy m_drawn m_ranSteps m_loops m_ran m_told1 m_isTold m_marks) Q := by
  refine call_intro (ls := [some (.ref 0), some (.int (nI p)), some (.int (nI q)), none]) rfl rfl rfl ?_
  refine wp_iconst 1 0 d_Mo_copies_0 rfl (by decide) ?_
  refine wp_istore_3 2 d_Mo_copies_1 rfl rfl rfl ?_
  refine l_Mo_copies_2 hpq hp hq4 (fun a g1 g2 => ?_) 450 0 m_at rfl (fun j hj => absurd hj (by omega)) (fun _ _ => rfl)
  refine wp_iconst 40 0 d_Mo_copies_39 rfl (by decide) ?_
  refine wp_istore_3 41 d_Mo_copies_40 rfl rfl rfl ?_
  exact l_Mo_copies_41 hpq hp hq4 (fun x g3 g4 => hq a x g1 g2 g3 g4) 11 0 m_names rfl (fun j hj => absurd hj (by omega)) (fun _ _ => rfl)

set_option maxRecDepth 100000 in
set_option maxHeartbeats 4000000 in
theorem c_Mo_mark {k : Nat} (hk : k ≤ 3) (hq0 : ¬ k < 3 → Q (some (.int (-1))) (hM m_at m_names (4) m_top m_bottom m_sort m_trayMany m_trays m_tape m_text m_taped m_size m_token m_from m_end m_value m_faultKind m_faultPlace m_faults m_seen m_areOdds m_opened m_depth m_counted m_eastBy m_northBy m_partBy m_wayFaults m_wayEast m_wayNorth m_olds m_wayMany m_oneOfSet m_twoOfSet m_farBy m_rowBy m_triedBy m_rowMany m_doneAt m_gotAt m_struckAt m_bestDeed m_misBy m_drawn m_ranSteps m_loops m_ran m_told1 m_isTold ((nI k)))) (hq1 : k < 3 → ∀ (a : Nat → Int32) (x : Nat → Int64), (∀ j, j < 450 → a (450 * (k + 1) + j) = m_at (450 * 0 + j)) → (∀ j, ¬ (450 * (k + 1) ≤ j ∧ j < 450 * (k + 1) + 450) → a j = m_at j) → (∀ j, j < 11 → x (11 * (k + 1) + j) = m_names (11 * 0 + j)) → (∀ j, ¬ (11 * (k + 1) ≤ j ∧ j < 11 * (k + 1) + 11) → x j = m_names j) → Q (some (.int (nI (k + 1)))) (hM (a) (x) (0) m_top m_bottom m_sort m_trayMany m_trays m_tape m_text m_taped m_size m_token m_from m_end m_value m_faultKind m_faultPlace m_faults m_seen m_areOdds m_opened m_depth m_counted m_eastBy m_northBy m_partBy m_wayFaults m_wayEast m_wayNorth m_olds m_wayMany m_oneOfSet m_twoOfSet m_farBy m_rowBy m_triedBy m_rowMany m_doneAt m_gotAt m_struckAt m_bestDeed m_misBy m_drawn m_ranSteps m_loops m_ran m_told1 m_isTold ((nI (k + 1))))) : Call Γ M_Mo_mark 2 0 0 [.ref 0] (hM m_at m_names m_status m_top m_bottom m_sort m_trayMany m_trays m_tape m_text m_taped m_size m_token m_from m_end m_value m_faultKind m_faultPlace m_faults m_seen m_areOdds m_opened m_depth m_counted m_eastBy m_northBy m_partBy m_wayFaults m_wayEast m_wayNorth m_olds m_wayMany m_oneOfSet m_twoOfSet m_farBy m_rowBy m_triedBy m_rowMany m_doneAt m_gotAt m_struckAt m_bestDeed m_misBy m_drawn m_ranSteps m_loops m_ran m_told1 m_isTold ((nI k))) Q := by
  refine call_intro (ls := [some (.ref 0)]) rfl rfl rfl ?_
  refine wp_aload_n 1 d_Mo_mark_0 rfl rfl ?_
  refine wp_getfield 4 12 49 d_Mo_mark_1 rfl fl_Mo_499 rfl rfl ?_
  refine wp_iconst 5 3 d_Mo_mark_4 rfl (by decide) ?_
  refine wp_icmp_ne 14 8 d_Mo_mark_5 rfl (by decide) (fun h5 => ?_) (fun h5 => ?_)
  · have hk3 : k < 3 := by
      rcases Nat.lt_or_ge k 3 with z | z
      · exact z
      · exact absurd (show nI k = 3 from by rw [show k = 3 by omega]; rfl) h5
    refine wp_aload_n 15 d_Mo_mark_14 rfl rfl ?_
    refine wp_dup 16 d_Mo_mark_15 rfl rfl ?_
    refine wp_getfield 19 12 49 d_Mo_mark_16 rfl fl_Mo_499 rfl rfl ?_
    refine wp_iconst 20 1 d_Mo_mark_19 rfl (by decide) ?_
    refine wp_iadd 21 d_Mo_mark_20 rfl ?_
    rw [nI_1]
    refine wp_putfield 24 12 49 _ d_Mo_mark_21 rfl fp_Mo_499 rfl rfl (okP_int _) ?_
    refine hEq (hM m_at m_names m_status m_top m_bottom m_sort m_trayMany m_trays m_tape m_text m_taped m_size m_token m_from m_end m_value m_faultKind m_faultPlace m_faults m_seen m_areOdds m_opened m_depth m_counted m_eastBy m_northBy m_partBy m_wayFaults m_wayEast m_wayNorth m_olds m_wayMany m_oneOfSet m_twoOfSet m_farBy m_rowBy m_triedBy m_rowMany m_doneAt m_gotAt m_struckAt m_bestDeed m_misBy m_drawn m_ranSteps m_loops m_ran m_told1 m_isTold ((nI (k + 1)))) rfl ?_
    refine wp_aload_n 25 d_Mo_mark_24 rfl rfl ?_
    refine wp_iconst 26 0 d_Mo_mark_25 rfl (by decide) ?_
    refine wp_aload_n 27 d_Mo_mark_26 rfl rfl ?_
    refine wp_getfield 30 12 49 d_Mo_mark_27 rfl fl_Mo_499 rfl rfl ?_
    refine wp_V2 33 M_Mo_copies 1 d_Mo_mark_30 rfl mv_Mo_copies lk_Mo_502 rfl rfl rfl rfl rfl ?_
    refine c_Mo_copies (p := 0) (q := k + 1) (by omega) (by omega) (by omega) (fun a x g1 g2 g3 g4 => ?_)
    refine kV ?_
    refine wp_aload_n 34 d_Mo_mark_33 rfl rfl ?_
    refine wp_aload_n 35 d_Mo_mark_34 rfl rfl ?_
    refine wp_getfield 38 12 49 d_Mo_mark_35 rfl fl_Mo_499 rfl rfl ?_
    refine wp_V1 41 M_Mo_gives 1 d_Mo_mark_38 rfl mv_Mo_gives lk_Mo_115 rfl rfl rfl rfl rfl ?_
    refine c_Mo_gives ?_
    refine kI ?_
    refine wp_ireturn d_Mo_mark_41 rfl ?_
    exact hq1 hk3 a x g1 g2 g3 g4
  · refine wp_aload_n 9 d_Mo_mark_8 rfl rfl ?_
    refine wp_iconst 10 4 d_Mo_mark_9 rfl (by decide) ?_
    refine wp_V1 13 M_Mo_refuse 1 d_Mo_mark_10 rfl mv_Mo_refuse lk_Mo_111 rfl rfl rfl rfl rfl ?_
    refine c_Mo_refuse ?_
    refine kI ?_
    refine wp_ireturn d_Mo_mark_13 rfl ?_
    exact hq0 (fun z => absurd (nI_ij (b := 3) h5 (by omega) (by omega)) (by omega))

set_option maxRecDepth 100000 in
set_option maxHeartbeats 4000000 in
theorem c_Mo_undo {k : Nat} (hk : k ≤ 3) (hq0 : ¬ 0 < k → Q (some (.int (-1))) (hM m_at m_names (6) m_top m_bottom m_sort m_trayMany m_trays m_tape m_text m_taped m_size m_token m_from m_end m_value m_faultKind m_faultPlace m_faults m_seen m_areOdds m_opened m_depth m_counted m_eastBy m_northBy m_partBy m_wayFaults m_wayEast m_wayNorth m_olds m_wayMany m_oneOfSet m_twoOfSet m_farBy m_rowBy m_triedBy m_rowMany m_doneAt m_gotAt m_struckAt m_bestDeed m_misBy m_drawn m_ranSteps m_loops m_ran m_told1 m_isTold ((nI k)))) (hq1 : 0 < k → ∀ (a : Nat → Int32) (x : Nat → Int64), (∀ j, j < 450 → a (450 * 0 + j) = m_at (450 * k + j)) → (∀ j, ¬ (450 * 0 ≤ j ∧ j < 450 * 0 + 450) → a j = m_at j) → (∀ j, j < 11 → x (11 * 0 + j) = m_names (11 * k + j)) → (∀ j, ¬ (11 * 0 ≤ j ∧ j < 11 * 0 + 11) → x j = m_names j) → Q (some (.int (nI (k - 1)))) (hM (a) (x) (0) m_top m_bottom m_sort m_trayMany m_trays m_tape m_text m_taped m_size m_token m_from m_end m_value m_faultKind m_faultPlace m_faults m_seen m_areOdds m_opened m_depth m_counted m_eastBy m_northBy m_partBy m_wayFaults m_wayEast m_wayNorth m_olds m_wayMany m_oneOfSet m_twoOfSet m_farBy m_rowBy m_triedBy m_rowMany m_doneAt m_gotAt m_struckAt m_bestDeed m_misBy m_drawn m_ranSteps m_loops m_ran m_told1 m_isTold ((nI (k - 1))))) : Call Γ M_Mo_undo 2 0 0 [.ref 0] (hM m_at m_names m_status m_top m_bottom m_sort m_trayMany m_trays m_tape m_text m_taped m_size m_token m_from m_end m_value m_faultKind m_faultPlace m_faults m_seen m_areOdds m_opened m_depth m_counted m_eastBy m_northBy m_partBy m_wayFaults m_wayEast m_wayNorth m_olds m_wayMany m_oneOfSet m_twoOfSet m_farBy m_rowBy m_triedBy m_rowMany m_doneAt m_gotAt m_struckAt m_bestDeed m_misBy m_drawn m_ranSteps m_loops m_ran m_told1 m_isTold ((nI k))) Q := by
  refine call_intro (ls := [some (.ref 0)]) rfl rfl rfl ?_
  refine wp_aload_n 1 d_Mo_undo_0 rfl rfl ?_
  refine wp_getfield 4 12 49 d_Mo_undo_1 rfl fl_Mo_499 rfl rfl ?_
  refine wp_if_ne 14 7 d_Mo_undo_4 rfl (by decide) (fun h4 => ?_) (fun h4 => ?_)
  · have h0k : 0 < k := Nat.pos_of_ne_zero (fun z => h4 (by rw [z]; rfl))
    refine wp_aload_n 15 d_Mo_undo_14 rfl rfl ?_
    refine wp_aload_n 16 d_Mo_undo_15 rfl rfl ?_
    refine wp_getfield 19 12 49 d_Mo_undo_16 rfl fl_Mo_499 rfl rfl ?_
    refine wp_iconst 20 0 d_Mo_undo_19 rfl (by decide) ?_
    refine wp_V2 23 M_Mo_copies 1 d_Mo_undo_20 rfl mv_Mo_copies lk_Mo_502 rfl rfl rfl rfl rfl ?_
    refine c_Mo_copies (p := k) (q := 0) (by omega) (by omega) (by omega) (fun a x g1 g2 g3 g4 => ?_)
    refine kV ?_
    refine wp_aload_n 24 d_Mo_undo_23 rfl rfl ?_
    refine wp_dup 25 d_Mo_undo_24 rfl rfl ?_
    refine wp_getfield 28 12 49 d_Mo_undo_25 rfl fl_Mo_499 rfl rfl ?_
    refine wp_iconst 29 1 d_Mo_undo_28 rfl (by decide) ?_
    refine wp_isub 30 d_Mo_undo_29 rfl ?_
    rw [show nI k - 1 = nI (k - 1) from by rw [show nI k = nI (k - 1 + 1) from by congr 1; omega]; exact nI_pred _]
    refine wp_putfield 33 12 49 _ d_Mo_undo_30 rfl fp_Mo_499 rfl rfl (okP_int _) ?_
    refine hEq (hM (a) (x) m_status m_top m_bottom m_sort m_trayMany m_trays m_tape m_text m_taped m_size m_token m_from m_end m_value m_faultKind m_faultPlace m_faults m_seen m_areOdds m_opened m_depth m_counted m_eastBy m_northBy m_partBy m_wayFaults m_wayEast m_wayNorth m_olds m_wayMany m_oneOfSet m_twoOfSet m_farBy m_rowBy m_triedBy m_rowMany m_doneAt m_gotAt m_struckAt m_bestDeed m_misBy m_drawn m_ranSteps m_loops m_ran m_told1 m_isTold ((nI (k - 1)))) rfl ?_
    refine wp_aload_n 34 d_Mo_undo_33 rfl rfl ?_
    refine wp_aload_n 35 d_Mo_undo_34 rfl rfl ?_
    refine wp_getfield 38 12 49 d_Mo_undo_35 rfl fl_Mo_499 rfl rfl ?_
    refine wp_V1 41 M_Mo_gives 1 d_Mo_undo_38 rfl mv_Mo_gives lk_Mo_115 rfl rfl rfl rfl rfl ?_
    refine c_Mo_gives ?_
    refine kI ?_
    refine wp_ireturn d_Mo_undo_41 rfl ?_
    exact hq1 h0k a x g1 g2 g3 g4
  · refine wp_aload_n 8 d_Mo_undo_7 rfl rfl ?_
    refine wp_bipush 10 6 d_Mo_undo_8 rfl (by decide) ?_
    refine wp_V1 13 M_Mo_refuse 1 d_Mo_undo_10 rfl mv_Mo_refuse lk_Mo_111 rfl rfl rfl rfl rfl ?_
    refine c_Mo_refuse ?_
    refine kI ?_
    refine wp_ireturn d_Mo_undo_13 rfl ?_
    exact hq0 (fun z => absurd (nI_ij (b := 0) h4 (by omega) (by omega)) (by omega))

set_option maxRecDepth 100000 in
set_option maxHeartbeats 4000000 in
theorem l_Mo_plain_2 (hq : ∀ a : Nat → Int32, (∀ j, j < 450 → a j = plC j) → (∀ j, 450 ≤ j → a j = m_at j) → Q none (hM (a) m_names m_status m_top m_bottom m_sort m_trayMany m_trays m_tape m_text m_taped m_size m_token m_from m_end m_value m_faultKind m_faultPlace m_faults m_seen m_areOdds m_opened m_depth m_counted m_eastBy m_northBy m_partBy m_wayFaults m_wayEast m_wayNorth m_olds m_wayMany m_oneOfSet m_twoOfSet m_farBy m_rowBy m_triedBy m_rowMany m_doneAt m_gotAt m_struckAt m_bestDeed m_misBy m_drawn m_ranSteps m_loops m_ran m_told1 m_isTold m_marks)) : ∀ (n i : Nat) (a : Nat → Int32), i + n = 450 → (∀ j, j < i → a j = 0) → (∀ j, 450 ≤ j → a j = m_at j) → WP Γ M_Mo_plain 1 0 0 (hM (a) m_names m_status m_top m_bottom m_sort m_trayMany m_trays m_tape m_text m_taped m_size m_token m_from m_end m_value m_faultKind m_faultPlace m_faults m_seen m_areOdds m_opened m_depth m_counted m_eastBy m_northBy m_partBy m_wayFaults m_wayEast m_wayNorth m_olds m_wayMany m_oneOfSet m_twoOfSet m_farBy m_rowBy m_triedBy m_rowMany m_doneAt m_gotAt m_struckAt m_bestDeed m_misBy m_drawn m_ranSteps m_loops m_ran m_told1 m_isTold m_marks) 2 [some (.ref 0), some (.int 0), some (.int (nI i))] [] Q := by
  intro n
  induction n with
  | zero =>
    intro i a hi h0 h1
    refine wp_iload_n 3 d_Mo_plain_2 rfl rfl ?_
    refine wp_sipush 6 450 d_Mo_plain_3 rfl (by decide) ?_
    refine wp_icmp_ge 24 9 d_Mo_plain_6 rfl (by decide) (fun h6 => ?_) (fun h6 => ?_)
    · refine wp_aload_n 25 d_Mo_plain_24 rfl rfl ?_
      refine wp_getfield 28 12 0 d_Mo_plain_25 rfl fl_Mo_7 rfl rfl ?_
      refine wp_iload_n 29 d_Mo_plain_28 rfl rfl ?_
      refine wp_iconst 30 3 d_Mo_plain_29 rfl (by decide) ?_
      refine wp_iadd 31 d_Mo_plain_30 rfl ?_
      rw [show (0 : Int32) + 3 = nI 3 from rfl]
      refine wp_iconst 32 2 d_Mo_plain_31 rfl (by decide) ?_
      refine wp_iastoreN 33 d_Mo_plain_32 rfl rfl rfl (by omega) ?_
      refine hEq (hM (upd a 3 2) m_names m_status m_top m_bottom m_sort m_trayMany m_trays m_tape m_text m_taped m_size m_token m_from m_end m_value m_faultKind m_faultPlace m_faults m_seen m_areOdds m_opened m_depth m_counted m_eastBy m_northBy m_partBy m_wayFaults m_wayEast m_wayNorth m_olds m_wayMany m_oneOfSet m_twoOfSet m_farBy m_rowBy m_triedBy m_rowMany m_doneAt m_gotAt m_struckAt m_bestDeed m_misBy m_drawn m_ranSteps m_loops m_ran m_told1 m_isTold m_marks) rfl ?_
      refine wp_aload_n 34 d_Mo_plain_33 rfl rfl ?_
      refine wp_getfield 37 12 0 d_Mo_plain_34 rfl fl_Mo_7 rfl rfl ?_
      refine wp_iload_n 38 d_Mo_plain_37 rfl rfl ?_
      refine wp_iconst 39 4 d_Mo_plain_38 rfl (by decide) ?_
      refine wp_iadd 40 d_Mo_plain_39 rfl ?_
      rw [show (0 : Int32) + 4 = nI 4 from rfl]
      refine wp_iconst 41 (-1) d_Mo_plain_40 rfl (by decide) ?_
      refine wp_iastoreN 42 d_Mo_plain_41 rfl rfl rfl (by omega) ?_
      refine hEq (hM (upd (upd a 3 2) 4 (-1)) m_names m_status m_top m_bottom m_sort m_trayMany m_trays m_tape m_text m_taped m_size m_token m_from m_end m_value m_faultKind m_faultPlace m_faults m_seen m_areOdds m_opened m_depth m_counted m_eastBy m_northBy m_partBy m_wayFaults m_wayEast m_wayNorth m_olds m_wayMany m_oneOfSet m_twoOfSet m_farBy m_rowBy m_triedBy m_rowMany m_doneAt m_gotAt m_struckAt m_bestDeed m_misBy m_drawn m_ranSteps m_loops m_ran m_told1 m_isTold m_marks) rfl ?_
      refine wp_aload_n 43 d_Mo_plain_42 rfl rfl ?_
      refine wp_getfield 46 12 0 d_Mo_plain_43 rfl fl_Mo_7 rfl rfl ?_
      refine wp_iload_n 47 d_Mo_plain_46 rfl rfl ?_
      refine wp_bipush 49 7 d_Mo_plain_47 rfl (by decide) ?_
      refine wp_iadd 50 d_Mo_plain_49 rfl ?_
      rw [show (0 : Int32) + 7 = nI 7 from rfl]
      refine wp_iconst 51 (-1) d_Mo_plain_50 rfl (by decide) ?_
      refine wp_iastoreN 52 d_Mo_plain_51 rfl rfl rfl (by omega) ?_
      refine hEq (hM (upd (upd (upd a 3 2) 4 (-1)) 7 (-1)) m_names m_status m_top m_bottom m_sort m_trayMany m_trays m_tape m_text m_taped m_size m_token m_from m_end m_value m_faultKind m_faultPlace m_faults m_seen m_areOdds m_opened m_depth m_counted m_eastBy m_northBy m_partBy m_wayFaults m_wayEast m_wayNorth m_olds m_wayMany m_oneOfSet m_twoOfSet m_farBy m_rowBy m_triedBy m_rowMany m_doneAt m_gotAt m_struckAt m_bestDeed m_misBy m_drawn m_ranSteps m_loops m_ran m_told1 m_isTold m_marks) rfl ?_
      refine wp_return d_Mo_plain_52 rfl ?_
      refine hq _ (fun j hj => ?_) (fun j hj => by rw [upd_ne (by omega), upd_ne (by omega), upd_ne (by omega)]; exact h1 j hj)
      unfold plC
      by_cases z7 : j = 7
      · rw [z7, upd_at]; rfl
      · rw [upd_ne z7]
        by_cases z4 : j = 4
        · rw [z4, upd_at]; rfl
        · rw [upd_ne z4]
          by_cases z3 : j = 3
          · rw [z3, upd_at]; rfl
          · rw [upd_ne z3, if_neg z3, if_neg z4, if_neg z7]; exact h0 j (by omega)
    · exact absurd (nI_ltN (b := 450) (Int32.not_le.mp h6) (by omega) (by omega)) (by omega)
  | succ n ih =>
    intro i a hi h0 h1
    refine wp_iload_n 3 d_Mo_plain_2 rfl rfl ?_
    refine wp_sipush 6 450 d_Mo_plain_3 rfl (by decide) ?_
    refine wp_icmp_ge 24 9 d_Mo_plain_6 rfl (by decide) (fun h6 => ?_) (fun h6 => ?_)
    · exact absurd (nI_leN (b := 450) h6 (by omega) (by omega)) (by omega)
    · refine wp_aload_n 10 d_Mo_plain_9 rfl rfl ?_
      refine wp_getfield 13 12 0 d_Mo_plain_10 rfl fl_Mo_7 rfl rfl ?_
      refine wp_iload_n 14 d_Mo_plain_13 rfl rfl ?_
      refine wp_iload_n 15 d_Mo_plain_14 rfl rfl ?_
      refine wp_iadd 16 d_Mo_plain_15 rfl ?_
      rw [Int32.zero_add]
      refine wp_iconst 17 0 d_Mo_plain_16 rfl (by decide) ?_
      refine wp_iastoreN 18 d_Mo_plain_17 rfl rfl rfl (by omega) ?_
      refine hEq (hM (upd a i 0) m_names m_status m_top m_bottom m_sort m_trayMany m_trays m_tape m_text m_taped m_size m_token m_from m_end m_value m_faultKind m_faultPlace m_faults m_seen m_areOdds m_opened m_depth m_counted m_eastBy m_northBy m_partBy m_wayFaults m_wayEast m_wayNorth m_olds m_wayMany m_oneOfSet m_twoOfSet m_farBy m_rowBy m_triedBy m_rowMany m_doneAt m_gotAt m_struckAt m_bestDeed m_misBy m_drawn m_ranSteps m_loops m_ran m_told1 m_isTold m_marks) rfl ?_
      first | refine wp_iincN_2 21 d_Mo_plain_18 rfl rfl rfl ?_ | refine wp_iinc_2 21 1 d_Mo_plain_18 rfl (by decide) rfl rfl ?_
      refine wp_goto 2 d_Mo_plain_21 (by decide) ?_
      refine ih (i + 1) (upd a i 0) (by omega) (fun j hj => ?_) (fun j hj => ?_)
      · by_cases z : j = i
        · rw [z, upd_at]
        · rw [upd_ne z]; exact h0 j (by omega)
      · rw [upd_ne (by omega)]; exact h1 j hj
set_option maxRecDepth 100000 in
set_option maxHeartbeats 4000000 in
theorem c_Mo_plain (hq : ∀ a : Nat → Int32, (∀ j, j < 450 → a j = plC j) → (∀ j, 450 ≤ j → a j = m_at j) → Q none (hM (a) m_names m_status m_top m_bottom m_sort m_trayMany m_trays m_tape m_text m_taped m_size m_token m_from m_end m_value m_faultKind m_faultPlace m_faults m_seen m_areOdds m_opened m_depth m_counted m_eastBy m_northBy m_partBy m_wayFaults m_wayEast m_wayNorth m_olds m_wayMany m_oneOfSet m_twoOfSet m_farBy m_rowBy m_triedBy m_rowMany m_doneAt m_gotAt m_struckAt m_bestDeed m_misBy m_drawn m_ranSteps m_loops m_ran m_told1 m_isTold m_marks)) : Call Γ M_Mo_plain 1 0 0 [.ref 0, .int 0] (hM m_at m_names m_status m_top m_bottom m_sort m_trayMany m_trays m_tape m_text m_taped m_size m_token m_from m_end m_value m_faultKind m_faultPlace m_faults m_seen m_areOdds m_opened m_depth m_counted m_eastBy m_northBy m_partBy m_wayFaults m_wayEast m_wayNorth m_olds m_wayMany m_oneOfSet m_twoOfSet m_farBy m_rowBy m_triedBy m_rowMany m_doneAt m_gotAt m_struckAt m_bestDeed m_misBy m_drawn m_ranSteps m_loops m_ran m_told1 m_isTold m_marks) Q := by
  refine call_intro (ls := [some (.ref 0), some (.int 0), none]) rfl rfl rfl ?_
  refine wp_iconst 1 0 d_Mo_plain_0 rfl (by decide) ?_
  refine wp_istore_2 2 d_Mo_plain_1 rfl rfl rfl ?_
  exact l_Mo_plain_2 hq 450 0 m_at rfl (fun j hj => absurd hj (by omega)) (fun _ _ => rfl)

end TAB
