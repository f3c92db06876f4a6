/-! ===== the reference: begins, names ===== -/
theorem lg_0 {x y : Int64} : lg_cmp x y = 0 ↔ x = y := ⟨lc_0, fun e => Decidable.byContradiction (fun h => lc_n h e)⟩
def nmF (b : Nat → Int32) (L p : Nat) : Nat → Int64
  | 0 => 0
  | k + 1 => (nmF b L p k <<< 8) ||| (u8 b L (p + k)).toInt64
theorem b8_na : ∀ j, j < 256 → (c8 j).toInt8.toInt32 = c8 j := by decide +kernel
theorem b8_n {x : Int32} (h : b8 x) : x.toInt8.toInt32 = x := by
  obtain ⟨j, hj, rfl⟩ := h
  exact b8_na j hj
section TAH
variable {Γ : Gm} {Q : Option Value → LH → Prop} {m_at m_sort m_trayMany m_tape m_text m_opened m_eastBy m_northBy m_partBy m_wayFaults m_wayEast m_wayNorth m_olds m_farBy m_rowBy m_triedBy m_doneAt m_gotAt m_struckAt m_bestDeed m_loops m_ran m_told1 : Nat → Int32} {m_names m_trays m_misBy : Nat → Int64} {m_status m_taped m_size m_token m_from m_end m_value m_faultKind m_faultPlace m_faults m_seen m_areOdds m_depth m_counted m_wayMany m_oneOfSet m_twoOfSet m_rowMany m_drawn m_ranSteps m_isTold m_marks : Int32} {m_top m_bottom : Int64} {L p K : Nat}
set_option maxRecDepth 100000 in
set_option maxHeartbeats 4000000 in
theorem l_Mo_begins_26 {m9 : Int32} (hL : L ≤ 900) (hb : ∀ k, k < L → b8 (m_tape k)) (hq : ∀ x : Nat → Int32, (∀ j, j < L → x j = m_tape j) → (∀ j, L ≤ j → x j = m_text j) → WP Γ M_Mo_begins 3 0 0 (hM m_at m_names m_status m_top m_bottom m_sort m_trayMany m_trays m_tape (x) m_taped ((nI L)) m_token m_from m_end m_value m_faultKind m_faultPlace m_faults m_seen m_areOdds m_opened m_depth m_counted m_eastBy m_northBy m_partBy m_wayFaults m_wayEast m_wayNorth m_olds m_wayMany m_oneOfSet m_twoOfSet m_farBy m_rowBy m_triedBy m_rowMany m_doneAt m_gotAt m_struckAt m_bestDeed m_misBy m_drawn m_ranSteps m_loops m_ran m_told1 m_isTold m_marks) 49 [some (.ref 0), some (.int (nI L)), some (.int m9), some (.int (nI L))] [] Q) : ∀ (n i : Nat) (x : Nat → Int32), i + n = L → (∀ j, j < i → x j = m_tape j) → (∀ j, L ≤ j → x j = m_text j) → WP Γ M_Mo_begins 3 0 0 (hM m_at m_names m_status m_top m_bottom m_sort m_trayMany m_trays m_tape (x) m_taped ((nI L)) m_token m_from m_end m_value m_faultKind m_faultPlace m_faults m_seen m_areOdds m_opened m_depth m_counted m_eastBy m_northBy m_partBy m_wayFaults m_wayEast m_wayNorth m_olds m_wayMany m_oneOfSet m_twoOfSet m_farBy m_rowBy m_triedBy m_rowMany m_doneAt m_gotAt m_struckAt m_bestDeed m_misBy m_drawn m_ranSteps m_loops m_ran m_told1 m_isTold m_marks) 26 [some (.ref 0), some (.int (nI L)), some (.int m9), some (.int (nI i))] [] Q := by
  intro n
  induction n with
  | zero =>
    intro i x hi h0 h1
    refine wp_iload_n 27 d_Mo_begins_26 rfl rfl ?_
    refine wp_iload_n 28 d_Mo_begins_27 rfl rfl ?_
    refine wp_icmp_ge 49 31 d_Mo_begins_28 rfl (by decide) (fun h28 => ?_) (fun h28 => ?_)
    · obtain rfl : i = L := by omega
      exact hq x h0 h1
    · exact absurd ((nI_leI (a := L) (by omega) (by omega)).mpr (by omega)) h28
  | succ n ih =>
    intro i x hi h0 h1
    refine wp_iload_n 27 d_Mo_begins_26 rfl rfl ?_
    refine wp_iload_n 28 d_Mo_begins_27 rfl rfl ?_
    refine wp_icmp_ge 49 31 d_Mo_begins_28 rfl (by decide) (fun h28 => ?_) (fun h28 => ?_)
    · exact absurd (nI_leN (b := L) h28 (by omega) (by omega)) (by omega)
    · refine wp_aload_n 32 d_Mo_begins_31 rfl rfl ?_
      refine wp_getfield 35 12 9 d_Mo_begins_32 rfl fl_Mo_34 rfl rfl ?_
      refine wp_iload_n 36 d_Mo_begins_35 rfl rfl ?_
      refine wp_aload_n 37 d_Mo_begins_36 rfl rfl ?_
      refine wp_getfield 40 12 8 d_Mo_begins_37 rfl fl_Mo_30 rfl rfl ?_
      refine wp_iload_n 41 d_Mo_begins_40 rfl rfl ?_
      refine wp_baloadN 42 d_Mo_begins_41 rfl rfl rfl (by omega) ?_
      refine wp_bastoreN 43 d_Mo_begins_42 rfl rfl rfl (by omega) ?_
      refine hEq (hM m_at m_names m_status m_top m_bottom m_sort m_trayMany m_trays m_tape ((upd x i (m_tape i).toInt8.toInt32)) m_taped ((nI L)) m_token m_from m_end m_value m_faultKind m_faultPlace m_faults m_seen m_areOdds m_opened m_depth m_counted m_eastBy m_northBy m_partBy m_wayFaults m_wayEast m_wayNorth m_olds m_wayMany m_oneOfSet m_twoOfSet m_farBy m_rowBy m_triedBy m_rowMany m_doneAt m_gotAt m_struckAt m_bestDeed m_misBy m_drawn m_ranSteps m_loops m_ran m_told1 m_isTold m_marks) rfl ?_
      rw [b8_n (hb i (by omega))]
      first | refine wp_iincN_3 46 d_Mo_begins_43 rfl rfl rfl ?_ | refine wp_iinc_3 46 1 d_Mo_begins_43 rfl (by decide) rfl rfl ?_
      refine wp_goto 26 d_Mo_begins_46 (by decide) ?_
      refine ih (i + 1) (upd x i (m_tape i)) (by omega) (fun j hj => ?_) (fun j hj => ?_)
      · by_cases z : j = i
        · rw [z, upd_at]
        · rw [upd_ne z]; exact h0 j (by omega)
      · rw [upd_ne (by omega)]; exact h1 j hj
set_option maxRecDepth 100000 in
set_option maxHeartbeats 4000000 in
theorem c_Mo_begins {n m9 T : Nat} {v : Int32} (hT : T ≤ 900) (hm : m9 ≤ 900) (hb : ∀ k, k < T → b8 (m_tape k)) (hq0 : ¬ (0 ≤ v ∧ v ≤ nI T ∧ v ≤ nI m9) → Q (some (.int 0)) (hM m_at m_names m_status m_top m_bottom m_sort m_trayMany m_trays m_tape m_text ((nI T)) m_size m_token m_from m_end m_value m_faultKind m_faultPlace m_faults m_seen m_areOdds m_opened m_depth m_counted m_eastBy m_northBy m_partBy m_wayFaults m_wayEast m_wayNorth m_olds m_wayMany m_oneOfSet m_twoOfSet m_farBy m_rowBy m_triedBy m_rowMany m_doneAt m_gotAt m_struckAt m_bestDeed m_misBy m_drawn m_ranSteps m_loops m_ran m_told1 m_isTold m_marks)) (hq1 : ∀ L, v = nI L → L ≤ T → L ≤ m9 → ∀ x : Nat → Int32, (∀ j, j < L → x j = m_tape j) → (∀ j, L ≤ j → x j = m_text j) → Q (some (.int 1)) (hM m_at m_names m_status m_top m_bottom m_sort m_trayMany m_trays m_tape (x) (0) ((nI L)) ((gtF x L 0).1) ((nI (gtF x L 0).2.1)) ((nI (gtF x L 0).2.2.1)) ((gtF x L 0).2.2.2) m_faultKind ((-1)) (0) (0) m_areOdds m_opened m_depth m_counted m_eastBy m_northBy m_partBy m_wayFaults m_wayEast m_wayNorth m_olds m_wayMany m_oneOfSet m_twoOfSet m_farBy m_rowBy m_triedBy m_rowMany m_doneAt m_gotAt m_struckAt m_bestDeed m_misBy m_drawn m_ranSteps m_loops m_ran m_told1 m_isTold m_marks)) : Call Γ M_Mo_begins 3 0 0 [.ref 0, .int v, .int (nI m9)] (hM m_at m_names m_status m_top m_bottom m_sort m_trayMany m_trays m_tape m_text ((nI T)) m_size m_token m_from m_end m_value m_faultKind m_faultPlace m_faults m_seen m_areOdds m_opened m_depth m_counted m_eastBy m_northBy m_partBy m_wayFaults m_wayEast m_wayNorth m_olds m_wayMany m_oneOfSet m_twoOfSet m_farBy m_rowBy m_triedBy m_rowMany m_doneAt m_gotAt m_struckAt m_bestDeed m_misBy m_drawn m_ranSteps m_loops m_ran m_told1 m_isTold m_marks) Q := by
  refine call_intro (ls := [some (.ref 0), some (.int v), some (.int (nI m9)), none]) rfl rfl rfl ?_
  refine wp_iload_n 1 d_Mo_begins_0 rfl rfl ?_
  refine wp_if_lt 17 4 d_Mo_begins_1 rfl (by decide) (fun h1 => ?_) (fun h1 => ?_)
  · refine wp_iconst 18 0 d_Mo_begins_17 rfl (by decide) ?_
    refine wp_zreturn d_Mo_begins_18 rfl (by first | rfl | exact nbP _) ?_
    exact hq0 (fun z => absurd h1 (Int32.not_lt.mpr z.1))
  · refine wp_iload_n 5 d_Mo_begins_4 rfl rfl ?_
    refine wp_aload_n 6 d_Mo_begins_5 rfl rfl ?_
    refine wp_getfield 9 12 10 d_Mo_begins_6 rfl fl_Mo_135 rfl rfl ?_
    refine wp_icmp_gt 17 12 d_Mo_begins_9 rfl (by decide) (fun h9 => ?_) (fun h9 => ?_)
    · refine wp_iconst 18 0 d_Mo_begins_17 rfl (by decide) ?_
      refine wp_zreturn d_Mo_begins_18 rfl (by first | rfl | exact nbP _) ?_
      exact hq0 (fun z => absurd h9 (Int32.not_lt.mpr z.2.1))
    · refine wp_iload_n 13 d_Mo_begins_12 rfl rfl ?_
      refine wp_iload_n 14 d_Mo_begins_13 rfl rfl ?_
      refine wp_icmp_le 19 17 d_Mo_begins_14 rfl (by decide) (fun h14 => ?_) (fun h14 => ?_)
      · obtain ⟨L, hL0, rfl⟩ := nI_of h1
        have hLT : L ≤ T := nI_leN (Int32.not_lt.mp h9) (by omega) (by omega)
        have hLm : L ≤ m9 := nI_leN h14 (by omega) (by omega)
        refine wp_aload_n 20 d_Mo_begins_19 rfl rfl ?_
        refine wp_iload_n 21 d_Mo_begins_20 rfl rfl ?_
        refine wp_putfield 24 12 11 _ d_Mo_begins_21 rfl fp_Mo_141 rfl rfl (okP_int _) ?_
        refine hEq (hM m_at m_names m_status m_top m_bottom m_sort m_trayMany m_trays m_tape m_text ((nI T)) ((nI L)) m_token m_from m_end m_value m_faultKind m_faultPlace m_faults m_seen m_areOdds m_opened m_depth m_counted m_eastBy m_northBy m_partBy m_wayFaults m_wayEast m_wayNorth m_olds m_wayMany m_oneOfSet m_twoOfSet m_farBy m_rowBy m_triedBy m_rowMany m_doneAt m_gotAt m_struckAt m_bestDeed m_misBy m_drawn m_ranSteps m_loops m_ran m_told1 m_isTold m_marks) rfl ?_
        refine wp_iconst 25 0 d_Mo_begins_24 rfl (by decide) ?_
        refine wp_istore_3 26 d_Mo_begins_25 rfl rfl rfl ?_
        refine l_Mo_begins_26 (m_taped := nI T) (m9 := nI m9) (by omega) (fun k hk => hb k (by omega)) (fun x g1 g2 => ?_) L 0 m_text (by omega) (fun j hj => absurd hj (by omega)) (fun _ _ => rfl)
        refine wp_aload_n 50 d_Mo_begins_49 rfl rfl ?_
        refine wp_iconst 51 0 d_Mo_begins_50 rfl (by decide) ?_
        refine wp_putfield 54 12 10 _ d_Mo_begins_51 rfl fp_Mo_135 rfl rfl (okP_int _) ?_
        refine hEq (hM m_at m_names m_status m_top m_bottom m_sort m_trayMany m_trays m_tape (x) (0) ((nI L)) m_token m_from m_end m_value m_faultKind m_faultPlace m_faults m_seen m_areOdds m_opened m_depth m_counted m_eastBy m_northBy m_partBy m_wayFaults m_wayEast m_wayNorth m_olds m_wayMany m_oneOfSet m_twoOfSet m_farBy m_rowBy m_triedBy m_rowMany m_doneAt m_gotAt m_struckAt m_bestDeed m_misBy m_drawn m_ranSteps m_loops m_ran m_told1 m_isTold m_marks) rfl ?_
        refine wp_aload_n 55 d_Mo_begins_54 rfl rfl ?_
        refine wp_iconst 56 0 d_Mo_begins_55 rfl (by decide) ?_
        refine wp_putfield 59 12 18 _ d_Mo_begins_56 rfl fp_Mo_181 rfl rfl (okP_int _) ?_
        refine hEq (hM m_at m_names m_status m_top m_bottom m_sort m_trayMany m_trays m_tape (x) (0) ((nI L)) m_token m_from m_end m_value m_faultKind m_faultPlace (0) m_seen m_areOdds m_opened m_depth m_counted m_eastBy m_northBy m_partBy m_wayFaults m_wayEast m_wayNorth m_olds m_wayMany m_oneOfSet m_twoOfSet m_farBy m_rowBy m_triedBy m_rowMany m_doneAt m_gotAt m_struckAt m_bestDeed m_misBy m_drawn m_ranSteps m_loops m_ran m_told1 m_isTold m_marks) rfl ?_
        refine wp_aload_n 60 d_Mo_begins_59 rfl rfl ?_
        refine wp_iconst 61 (-1) d_Mo_begins_60 rfl (by decide) ?_
        refine wp_putfield 64 12 17 _ d_Mo_begins_61 rfl fp_Mo_41 rfl rfl (okP_int _) ?_
        refine hEq (hM m_at m_names m_status m_top m_bottom m_sort m_trayMany m_trays m_tape (x) (0) ((nI L)) m_token m_from m_end m_value m_faultKind ((-1)) (0) m_seen m_areOdds m_opened m_depth m_counted m_eastBy m_northBy m_partBy m_wayFaults m_wayEast m_wayNorth m_olds m_wayMany m_oneOfSet m_twoOfSet m_farBy m_rowBy m_triedBy m_rowMany m_doneAt m_gotAt m_struckAt m_bestDeed m_misBy m_drawn m_ranSteps m_loops m_ran m_told1 m_isTold m_marks) rfl ?_
        refine wp_aload_n 65 d_Mo_begins_64 rfl rfl ?_
        refine wp_iconst 66 0 d_Mo_begins_65 rfl (by decide) ?_
        refine wp_putfield 69 12 14 _ d_Mo_begins_66 rfl fp_Mo_144 rfl rfl (okP_int _) ?_
        refine hEq (hM m_at m_names m_status m_top m_bottom m_sort m_trayMany m_trays m_tape (x) (0) ((nI L)) m_token m_from ((nI 0)) m_value m_faultKind ((-1)) (0) m_seen m_areOdds m_opened m_depth m_counted m_eastBy m_northBy m_partBy m_wayFaults m_wayEast m_wayNorth m_olds m_wayMany m_oneOfSet m_twoOfSet m_farBy m_rowBy m_triedBy m_rowMany m_doneAt m_gotAt m_struckAt m_bestDeed m_misBy m_drawn m_ranSteps m_loops m_ran m_told1 m_isTold m_marks) rfl ?_
        refine wp_aload_n 70 d_Mo_begins_69 rfl rfl ?_
        refine wp_iconst 71 0 d_Mo_begins_70 rfl (by decide) ?_
        refine wp_putfield 74 12 19 _ d_Mo_begins_71 rfl fp_Mo_184 rfl rfl (okP_int _) ?_
        refine hEq (hM m_at m_names m_status m_top m_bottom m_sort m_trayMany m_trays m_tape (x) (0) ((nI L)) m_token m_from ((nI 0)) m_value m_faultKind ((-1)) (0) (0) m_areOdds m_opened m_depth m_counted m_eastBy m_northBy m_partBy m_wayFaults m_wayEast m_wayNorth m_olds m_wayMany m_oneOfSet m_twoOfSet m_farBy m_rowBy m_triedBy m_rowMany m_doneAt m_gotAt m_struckAt m_bestDeed m_misBy m_drawn m_ranSteps m_loops m_ran m_told1 m_isTold m_marks) rfl ?_
        refine wp_aload_n 75 d_Mo_begins_74 rfl rfl ?_
        refine wp_V0 78 M_Mo_ahead 2 d_Mo_begins_75 rfl mv_Mo_ahead lk_Mo_187 rfl rfl rfl rfl rfl ?_
        have hbx : ∀ k, k < L → b8 (x k) := fun k hk => by rw [g1 k hk]; exact hb k (by omega)
        refine c_Mo_ahead (m_text := x) (L := L) (e := 0) (by omega) hbx (by omega) ?_
        refine kV ?_
        refine wp_iconst 79 1 d_Mo_begins_78 rfl (by decide) ?_
        refine wp_zreturn d_Mo_begins_79 rfl (by first | rfl | exact nbP _) ?_
        exact hq1 L rfl hLT hLm x g1 g2
      · refine wp_iconst 18 0 d_Mo_begins_17 rfl (by decide) ?_
        refine wp_zreturn d_Mo_begins_18 rfl (by first | rfl | exact nbP _) ?_
        exact hq0 (fun z => h14 z.2.2)

set_option maxRecDepth 100000 in
set_option maxHeartbeats 4000000 in
theorem l_Mo_nameHere_7 (hL : L ≤ 900) (hp : p + K ≤ 900) (hq : Q (some (.long (nmF m_text L p K))) (hM m_at m_names m_status m_top m_bottom m_sort m_trayMany m_trays m_tape m_text m_taped ((nI L)) m_token ((nI p)) ((nI (p + K))) m_value m_faultKind m_faultPlace m_faults m_seen m_areOdds m_opened m_depth m_counted m_eastBy m_northBy m_partBy m_wayFaults m_wayEast m_wayNorth m_olds m_wayMany m_oneOfSet m_twoOfSet m_farBy m_rowBy m_triedBy m_rowMany m_doneAt m_gotAt m_struckAt m_bestDeed m_misBy m_drawn m_ranSteps m_loops m_ran m_told1 m_isTold m_marks)) : ∀ (n i : Nat), i + n = K → WP Γ M_Mo_nameHere 2 0 0 (hM m_at m_names m_status m_top m_bottom m_sort m_trayMany m_trays m_tape m_text m_taped ((nI L)) m_token ((nI p)) ((nI (p + K))) m_value m_faultKind m_faultPlace m_faults m_seen m_areOdds m_opened m_depth m_counted m_eastBy m_northBy m_partBy m_wayFaults m_wayEast m_wayNorth m_olds m_wayMany m_oneOfSet m_twoOfSet m_farBy m_rowBy m_triedBy m_rowMany m_doneAt m_gotAt m_struckAt m_bestDeed m_misBy m_drawn m_ranSteps m_loops m_ran m_told1 m_isTold m_marks) 7 [some (.ref 0), some (.long (nmF m_text L p i)), none, some (.int (nI (p + i)))] [] Q := by
  intro n
  induction n with
  | zero =>
    intro i hi
    refine wp_iload_n 8 d_Mo_nameHere_7 rfl rfl ?_
    refine wp_aload_n 9 d_Mo_nameHere_8 rfl rfl ?_
    refine wp_getfield 12 12 14 d_Mo_nameHere_9 rfl fl_Mo_144 rfl rfl ?_
    refine wp_icmp_ge 33 15 d_Mo_nameHere_12 rfl (by decide) (fun h12 => ?_) (fun h12 => ?_)
    · refine wp_lload_n 34 d_Mo_nameHere_33 rfl rfl ?_
      refine wp_lreturn d_Mo_nameHere_34 rfl ?_
      obtain rfl : i = K := by omega
      exact hq
    · exact absurd ((nI_leI (a := p + K) (by omega) (by omega)).mpr (by omega)) h12
  | succ n ih =>
    intro i hi
    refine wp_iload_n 8 d_Mo_nameHere_7 rfl rfl ?_
    refine wp_aload_n 9 d_Mo_nameHere_8 rfl rfl ?_
    refine wp_getfield 12 12 14 d_Mo_nameHere_9 rfl fl_Mo_144 rfl rfl ?_
    refine wp_icmp_ge 33 15 d_Mo_nameHere_12 rfl (by decide) (fun h12 => ?_) (fun h12 => ?_)
    · exact absurd (nI_leN (b := p + K) h12 (by omega) (by omega)) (by omega)
    · refine wp_lload_n 16 d_Mo_nameHere_15 rfl rfl ?_
      refine wp_bipush 18 8 d_Mo_nameHere_16 rfl (by decide) ?_
      refine wp_lshl 19 d_Mo_nameHere_18 rfl ?_
      rw [show ((8 : Int32).toInt64 &&& 63) = 8 from by decide]
      refine wp_aload_n 20 d_Mo_nameHere_19 rfl rfl ?_
      refine wp_iload_n 21 d_Mo_nameHere_20 rfl rfl ?_
      refine wp_V1 24 M_Mo_byteAt 1 d_Mo_nameHere_21 rfl mv_Mo_byteAt lk_Mo_147 rfl rfl rfl rfl rfl ?_
      refine c_Mo_byteAt (L := L) (k := p + i) hL (by omega) ?_
      refine kI ?_
      refine wp_i2l 25 d_Mo_nameHere_24 rfl ?_
      refine wp_lor 26 d_Mo_nameHere_25 rfl ?_
      refine wp_lstore_1 27 d_Mo_nameHere_26 rfl rfl rfl ?_
      first | refine wp_iincN_3 30 d_Mo_nameHere_27 rfl rfl rfl ?_ | refine wp_iinc_3 30 1 d_Mo_nameHere_27 rfl (by decide) rfl rfl ?_
      refine wp_goto 7 d_Mo_nameHere_30 (by decide) ?_
      exact ih (i + 1) (by omega)
set_option maxRecDepth 100000 in
set_option maxHeartbeats 4000000 in
theorem c_Mo_nameHere (hL : L ≤ 900) (hp : p + K ≤ 900) (hq : Q (some (.long (nmF m_text L p K))) (hM m_at m_names m_status m_top m_bottom m_sort m_trayMany m_trays m_tape m_text m_taped ((nI L)) m_token ((nI p)) ((nI (p + K))) m_value m_faultKind m_faultPlace m_faults m_seen m_areOdds m_opened m_depth m_counted m_eastBy m_northBy m_partBy m_wayFaults m_wayEast m_wayNorth m_olds m_wayMany m_oneOfSet m_twoOfSet m_farBy m_rowBy m_triedBy m_rowMany m_doneAt m_gotAt m_struckAt m_bestDeed m_misBy m_drawn m_ranSteps m_loops m_ran m_told1 m_isTold m_marks)) : Call Γ M_Mo_nameHere 2 0 0 [.ref 0] (hM m_at m_names m_status m_top m_bottom m_sort m_trayMany m_trays m_tape m_text m_taped ((nI L)) m_token ((nI p)) ((nI (p + K))) m_value m_faultKind m_faultPlace m_faults m_seen m_areOdds m_opened m_depth m_counted m_eastBy m_northBy m_partBy m_wayFaults m_wayEast m_wayNorth m_olds m_wayMany m_oneOfSet m_twoOfSet m_farBy m_rowBy m_triedBy m_rowMany m_doneAt m_gotAt m_struckAt m_bestDeed m_misBy m_drawn m_ranSteps m_loops m_ran m_told1 m_isTold m_marks) Q := by
  refine call_intro (ls := [some (.ref 0), none, none, none]) rfl rfl rfl ?_
  refine wp_lconst 1 0 d_Mo_nameHere_0 rfl (by decide) ?_
  refine wp_lstore_1 2 d_Mo_nameHere_1 rfl rfl rfl ?_
  refine wp_aload_n 3 d_Mo_nameHere_2 rfl rfl ?_
  refine wp_getfield 6 12 13 d_Mo_nameHere_3 rfl fl_Mo_150 rfl rfl ?_
  refine wp_istore_3 7 d_Mo_nameHere_6 rfl rfl rfl ?_
  exact l_Mo_nameHere_7 hL hp hq K 0 (by omega)

set_option maxRecDepth 100000 in
set_option maxHeartbeats 4000000 in
theorem l_Mo_findHere_2 {u v : Nat} (hL : L ≤ 900) (hp : p + K ≤ 900) (hu : u + v ≤ 66) : ∀ (n i : Nat), i + n = v → Q (some (.int (ffind (fun k => m_names (u + k) = nmF m_text L p K) i n))) (hM m_at m_names m_status m_top m_bottom m_sort m_trayMany m_trays m_tape m_text m_taped ((nI L)) m_token ((nI p)) ((nI (p + K))) m_value m_faultKind m_faultPlace m_faults m_seen m_areOdds m_opened m_depth m_counted m_eastBy m_northBy m_partBy m_wayFaults m_wayEast m_wayNorth m_olds m_wayMany m_oneOfSet m_twoOfSet m_farBy m_rowBy m_triedBy m_rowMany m_doneAt m_gotAt m_struckAt m_bestDeed m_misBy m_drawn m_ranSteps m_loops m_ran m_told1 m_isTold m_marks) → WP Γ M_Mo_findHere 3 0 0 (hM m_at m_names m_status m_top m_bottom m_sort m_trayMany m_trays m_tape m_text m_taped ((nI L)) m_token ((nI p)) ((nI (p + K))) m_value m_faultKind m_faultPlace m_faults m_seen m_areOdds m_opened m_depth m_counted m_eastBy m_northBy m_partBy m_wayFaults m_wayEast m_wayNorth m_olds m_wayMany m_oneOfSet m_twoOfSet m_farBy m_rowBy m_triedBy m_rowMany m_doneAt m_gotAt m_struckAt m_bestDeed m_misBy m_drawn m_ranSteps m_loops m_ran m_told1 m_isTold m_marks) 2 [some (.ref 0), some (.int (nI u)), some (.int (nI v)), some (.int (nI i))] [] Q := by
  intro n
  induction n with
  | zero =>
    intro i hi hq
    refine wp_iload_n 3 d_Mo_findHere_2 rfl rfl ?_
    refine wp_iload_n 4 d_Mo_findHere_3 rfl rfl ?_
    refine wp_icmp_ge 31 7 d_Mo_findHere_4 rfl (by decide) (fun h4 => ?_) (fun h4 => ?_)
    · refine wp_iconst 32 (-1) d_Mo_findHere_31 rfl (by decide) ?_
      refine wp_ireturn d_Mo_findHere_32 rfl ?_
      exact hq
    · exact absurd ((nI_leI (a := v) (by omega) (by omega)).mpr (by omega)) h4
  | succ n ih =>
    intro i hi hq
    refine wp_iload_n 3 d_Mo_findHere_2 rfl rfl ?_
    refine wp_iload_n 4 d_Mo_findHere_3 rfl rfl ?_
    refine wp_icmp_ge 31 7 d_Mo_findHere_4 rfl (by decide) (fun h4 => ?_) (fun h4 => ?_)
    · exact absurd (nI_leN (b := v) h4 (by omega) (by omega)) (by omega)
    · refine wp_aload_n 8 d_Mo_findHere_7 rfl rfl ?_
      refine wp_getfield 11 12 1 d_Mo_findHere_8 rfl fl_Mo_13 rfl rfl ?_
      refine wp_iload_n 12 d_Mo_findHere_11 rfl rfl ?_
      refine wp_iload_n 13 d_Mo_findHere_12 rfl rfl ?_
      refine wp_iadd 14 d_Mo_findHere_13 rfl ?_
      rw [nI_add]
      refine wp_laloadN 15 d_Mo_findHere_14 rfl rfl rfl (by omega) ?_
      refine wp_aload_n 16 d_Mo_findHere_15 rfl rfl ?_
      refine wp_V0 19 M_Mo_nameHere 2 d_Mo_findHere_16 rfl mv_Mo_nameHere lk_Mo_200 rfl rfl rfl rfl rfl ?_
      refine c_Mo_nameHere hL hp ?_
      refine kL ?_
      refine wp_lcmp 20 d_Mo_findHere_19 rfl ?_
      refine wp_if_ne 25 23 d_Mo_findHere_20 rfl (by decide) (fun h20 => ?_) (fun h20 => ?_)
      · unfold ffind at hq
        rw [if_neg (fun z => h20 (lg_0.mpr z))] at hq
        first | refine wp_iincN_3 28 d_Mo_findHere_25 rfl rfl rfl ?_ | refine wp_iinc_3 28 1 d_Mo_findHere_25 rfl (by decide) rfl rfl ?_
        refine wp_goto 2 d_Mo_findHere_28 (by decide) ?_
        exact ih (i + 1) (by omega) hq
      · unfold ffind at hq
        rw [if_pos (lg_0.mp h20)] at hq
        refine wp_iload_n 24 d_Mo_findHere_23 rfl rfl ?_
        refine wp_ireturn d_Mo_findHere_24 rfl ?_
        exact hq
set_option maxRecDepth 100000 in
set_option maxHeartbeats 4000000 in
theorem c_Mo_findHere {u v : Nat} (hL : L ≤ 900) (hp : p + K ≤ 900) (hu : u + v ≤ 66) (hq : Q (some (.int (ffind (fun k => m_names (u + k) = nmF m_text L p K) 0 v))) (hM m_at m_names m_status m_top m_bottom m_sort m_trayMany m_trays m_tape m_text m_taped ((nI L)) m_token ((nI p)) ((nI (p + K))) m_value m_faultKind m_faultPlace m_faults m_seen m_areOdds m_opened m_depth m_counted m_eastBy m_northBy m_partBy m_wayFaults m_wayEast m_wayNorth m_olds m_wayMany m_oneOfSet m_twoOfSet m_farBy m_rowBy m_triedBy m_rowMany m_doneAt m_gotAt m_struckAt m_bestDeed m_misBy m_drawn m_ranSteps m_loops m_ran m_told1 m_isTold m_marks)) : Call Γ M_Mo_findHere 3 0 0 [.ref 0, .int (nI u), .int (nI v)] (hM m_at m_names m_status m_top m_bottom m_sort m_trayMany m_trays m_tape m_text m_taped ((nI L)) m_token ((nI p)) ((nI (p + K))) m_value m_faultKind m_faultPlace m_faults m_seen m_areOdds m_opened m_depth m_counted m_eastBy m_northBy m_partBy m_wayFaults m_wayEast m_wayNorth m_olds m_wayMany m_oneOfSet m_twoOfSet m_farBy m_rowBy m_triedBy m_rowMany m_doneAt m_gotAt m_struckAt m_bestDeed m_misBy m_drawn m_ranSteps m_loops m_ran m_told1 m_isTold m_marks) Q := by
  refine call_intro (ls := [some (.ref 0), some (.int (nI u)), some (.int (nI v)), none]) rfl rfl rfl ?_
  refine wp_iconst 1 0 d_Mo_findHere_0 rfl (by decide) ?_
  refine wp_istore_3 2 d_Mo_findHere_1 rfl rfl rfl ?_
  exact l_Mo_findHere_2 hL hp hu v 0 (by omega) hq

set_option maxRecDepth 100000 in
set_option maxHeartbeats 4000000 in
theorem c_Mo_isName (hL : L ≤ 900) (hp : p + K ≤ 900) (hq : Q (some (.int (bP (m_token = 2 ∧ K ≤ 8 ∧ inWT m_token m_text L p K = -1)))) (hM m_at m_names m_status m_top m_bottom m_sort m_trayMany m_trays m_tape m_text m_taped ((nI L)) m_token ((nI p)) ((nI (p + K))) m_value m_faultKind m_faultPlace m_faults m_seen m_areOdds m_opened m_depth m_counted m_eastBy m_northBy m_partBy m_wayFaults m_wayEast m_wayNorth m_olds m_wayMany m_oneOfSet m_twoOfSet m_farBy m_rowBy m_triedBy m_rowMany m_doneAt m_gotAt m_struckAt m_bestDeed m_misBy m_drawn m_ranSteps m_loops m_ran m_told1 m_isTold m_marks)) : Call Γ M_Mo_isName 7 0 0 [.ref 0, .ref (XB + 1)] (hM m_at m_names m_status m_top m_bottom m_sort m_trayMany m_trays m_tape m_text m_taped ((nI L)) m_token ((nI p)) ((nI (p + K))) m_value m_faultKind m_faultPlace m_faults m_seen m_areOdds m_opened m_depth m_counted m_eastBy m_northBy m_partBy m_wayFaults m_wayEast m_wayNorth m_olds m_wayMany m_oneOfSet m_twoOfSet m_farBy m_rowBy m_triedBy m_rowMany m_doneAt m_gotAt m_struckAt m_bestDeed m_misBy m_drawn m_ranSteps m_loops m_ran m_told1 m_isTold m_marks) Q := by
  refine call_intro (ls := [some (.ref 0), some (.ref (XB + 1))]) rfl rfl rfl ?_
  refine wp_aload_n 1 d_Mo_isName_0 rfl rfl ?_
  refine wp_getfield 4 12 12 d_Mo_isName_1 rfl fl_Mo_156 rfl rfl ?_
  refine wp_iconst 5 2 d_Mo_isName_4 rfl (by decide) ?_
  refine wp_icmp_ne 35 8 d_Mo_isName_5 rfl (by decide) (fun h5 => ?_) (fun h5 => ?_)
  · refine wp_iconst 36 0 d_Mo_isName_35 rfl (by decide) ?_
    refine wp_zreturn d_Mo_isName_36 rfl (by first | rfl | exact nbP _) ?_
    refine qI hq ?_
    unfold bP
    rw [if_neg (fun z => h5 z.1)]
  · refine wp_aload_n 9 d_Mo_isName_8 rfl rfl ?_
    refine wp_getfield 12 12 14 d_Mo_isName_9 rfl fl_Mo_144 rfl rfl ?_
    refine wp_aload_n 13 d_Mo_isName_12 rfl rfl ?_
    refine wp_getfield 16 12 13 d_Mo_isName_13 rfl fl_Mo_150 rfl rfl ?_
    refine wp_isub 17 d_Mo_isName_16 rfl ?_
    rw [nI_subN (by omega), show p + K - p = K by omega]
    refine wp_bipush 19 8 d_Mo_isName_17 rfl (by decide) ?_
    refine wp_icmp_gt 35 22 d_Mo_isName_19 rfl (by decide) (fun h19 => ?_) (fun h19 => ?_)
    · refine wp_iconst 36 0 d_Mo_isName_35 rfl (by decide) ?_
      refine wp_zreturn d_Mo_isName_36 rfl (by first | rfl | exact nbP _) ?_
      refine qI hq ?_
      unfold bP
      rw [if_neg (fun z => absurd (nI_ltN (a := 8) h19 (by omega) (by omega)) (by omega))]
    · have h8 : K ≤ 8 := by
        rcases Nat.lt_or_ge 8 K with z | z
        · exact absurd ((nI_ltI (a := 8) (by omega) (by omega)).mpr z) h19
        · exact z
      refine wp_aload_n 23 d_Mo_isName_22 rfl rfl ?_
      refine wp_aload_n 24 d_Mo_isName_23 rfl rfl ?_
      refine wp_V1 27 M_Mo_inWords 6 d_Mo_isName_24 rfl mv_Mo_inWords lk_Mo_196 rfl rfl rfl rfl rfl ?_
      refine c_Mo_inWords hL hp ?_
      refine kI ?_
      refine wp_iconst 28 (-1) d_Mo_isName_27 rfl (by decide) ?_
      refine wp_icmp_ne 35 31 d_Mo_isName_28 rfl (by decide) (fun h28 => ?_) (fun h28 => ?_)
      · refine wp_iconst 36 0 d_Mo_isName_35 rfl (by decide) ?_
        refine wp_zreturn d_Mo_isName_36 rfl (by first | rfl | exact nbP _) ?_
        refine qI hq ?_
        unfold bP
        rw [if_neg (fun z => h28 z.2.2)]
      · refine wp_iconst 32 1 d_Mo_isName_31 rfl (by decide) ?_
        refine wp_goto 36 d_Mo_isName_32 (by decide) ?_
        refine wp_zreturn d_Mo_isName_36 rfl (by first | rfl | exact nbP _) ?_
        refine qI hq ?_
        unfold bP
        rw [if_pos ⟨h5, h8, h28⟩]

end TAH
