/-! ===== the reference: texts, their tokens ===== -/
def c8 (j : Nat) : Int32 := (nI j).toInt8.toInt32
/-- a byte -/
def b8 (x : Int32) : Prop := ∃ j, j < 256 ∧ x = c8 j
theorem b8_tab : ∀ j, j < 256 → ((c8 j &&& 255 = 32 ↔ c8 j = 32) ∧ (c8 j &&& 255 = 10 ↔ c8 j = 10) ∧ (isLe (c8 j &&& 255) ↔ isLe (c8 j)) ∧ (isDi (c8 j &&& 255) ↔ isDi (c8 j)) ∧ (isLe (c8 j) → c8 j &&& 255 = c8 j) ∧ (isDi (c8 j) → c8 j &&& 255 = c8 j) ∧ ¬ c8 j &&& 255 = -1) ∧ (c8 j &&& 255 = 59 ↔ c8 j = 59) ∧ (c8 j &&& 255 = 60 ↔ c8 j = 60) ∧ (c8 j &&& 255 = 61 ↔ c8 j = 61) ∧ (c8 j &&& 255 = 62 ↔ c8 j = 62) := by decide +kernel
def u8 (b : Nat → Int32) (L k : Nat) : Int32 := if k < L then b k &&& 255 else -1
theorem u8_bl {b : Nat → Int32} {L k : Nat} (h : k < L → b8 (b k)) : (u8 b L k = 32 ∨ u8 b L k = 10) ↔ (k < L ∧ isBl (b k)) := by
  unfold u8
  by_cases c : k < L
  · obtain ⟨j, hj, e⟩ := h c
    rw [if_pos c, e, (b8_tab j hj).1.1, (b8_tab j hj).1.2.1]
    exact ⟨fun z => ⟨c, z.symm⟩, fun z => z.2.symm⟩
  · rw [if_neg c]
    exact ⟨fun z => by rcases z with z | z <;> exact absurd z (by decide), fun z => absurd z.1 c⟩
theorem u8_le {b : Nat → Int32} {L k : Nat} (h : k < L → b8 (b k)) : isLe (u8 b L k) ↔ (k < L ∧ isLe (b k)) := by
  unfold u8
  by_cases c : k < L
  · obtain ⟨j, hj, e⟩ := h c
    rw [if_pos c, e]
    exact ⟨fun z => ⟨c, (b8_tab j hj).1.2.2.1.mp z⟩, fun z => (b8_tab j hj).1.2.2.1.mpr z.2⟩
  · rw [if_neg c]
    exact ⟨fun z => absurd z (by decide), fun z => absurd z.1 c⟩
theorem u8_di {b : Nat → Int32} {L k : Nat} (h : k < L → b8 (b k)) : isDi (u8 b L k) ↔ (k < L ∧ isDi (b k)) := by
  unfold u8
  by_cases c : k < L
  · obtain ⟨j, hj, e⟩ := h c
    rw [if_pos c, e]
    exact ⟨fun z => ⟨c, (b8_tab j hj).1.2.2.2.1.mp z⟩, fun z => (b8_tab j hj).1.2.2.2.1.mpr z.2⟩
  · rw [if_neg c]
    exact ⟨fun z => absurd z (by decide), fun z => absurd z.1 c⟩
theorem u8_n {b : Nat → Int32} {L k : Nat} (h : k < L → b8 (b k)) : u8 b L k = -1 ↔ ¬ k < L := by
  unfold u8
  by_cases c : k < L
  · obtain ⟨j, hj, e⟩ := h c
    rw [if_pos c, e]
    exact ⟨fun z => absurd z (b8_tab j hj).1.2.2.2.2.2.2, fun z => absurd c z⟩
  · rw [if_neg c]
    exact ⟨fun _ => c, fun _ => rfl⟩
def vdF (b : Nat → Int32) (L p : Nat) : Nat → Int32
  | 0 => 0
  | k + 1 => iMin 100000 (10 * vdF b L p k + u8 b L (p + k) - 48)
theorem runL_1 {P : Int32 → Prop} [DecidablePred P] {b : Nat → Int32} {n i : Nat} (h : P (b i)) : i + runL P b (n + 1) i = i + 1 + runL P b n (i + 1) := by
  show i + (if P (b i) then 1 + runL P b n (i + 1) else 0) = _
  rw [if_pos h]; omega
theorem runL_0 {P : Int32 → Prop} [DecidablePred P] {b : Nat → Int32} {n i : Nat} (h : ¬ P (b i)) : runL P b (n + 1) i = 0 := if_neg h
/-- what comes next: token, from, end, value -/
def ahF (b : Nat → Int32) (L e : Nat) : Int32 × Nat × Nat × Int32 :=
  let p := e + runL isBl b (L - e) e
  if ¬ p < L then (0, p, p, -1)
  else if isLe (b p) then (2, p, p + runL isLe b (L - p) p, u8 b L p)
  else if isDi (b p) then (if 4 < runL isDi b (L - p) p then 1 else 3, p, p + runL isDi b (L - p) p, vdF b L p (runL isDi b (L - p) p))
  else (if u8 b L p = 59 ∨ u8 b L p = 60 ∨ u8 b L p = 62 ∨ u8 b L p = 61 then 4 else 1, p, p + 1, u8 b L p)
theorem runL_le {P : Int32 → Prop} [DecidablePred P] {b : Nat → Int32} : ∀ (n i : Nat), runL P b n i ≤ n
  | 0, _ => Nat.le_refl 0
  | n + 1, i => by
    have := runL_le (P := P) (b := b) n (i + 1)
    show (if P (b i) then 1 + runL P b n (i + 1) else 0) ≤ n + 1
    split <;> omega
section TAD
variable {Γ : Gm} {Q : Option Value → LH → Prop} {m_at m_sort m_trayMany m_tape m_text m_opened m_eastBy m_northBy m_partBy m_wayFaults m_wayEast m_wayNorth m_olds m_farBy m_rowBy m_triedBy m_doneAt m_gotAt m_struckAt m_bestDeed m_loops m_ran m_told1 : Nat → Int32} {m_names m_trays m_misBy : Nat → Int64} {m_status m_taped m_size m_token m_from m_end m_value m_faultKind m_faultPlace m_faults m_seen m_areOdds m_depth m_counted m_wayMany m_oneOfSet m_twoOfSet m_rowMany m_drawn m_ranSteps m_isTold m_marks : Int32} {m_top m_bottom : Int64} {L : Nat}
set_option maxRecDepth 100000 in
set_option maxHeartbeats 4000000 in
theorem c_Mo_byteAt {k : Nat} (hL : L ≤ 900) (hk : k ≤ 900) (hq : Q (some (.int (u8 m_text L k))) (hM m_at m_names m_status m_top m_bottom m_sort m_trayMany m_trays m_tape m_text m_taped ((nI L)) m_token m_from m_end m_value m_faultKind m_faultPlace m_faults m_seen m_areOdds m_opened m_depth m_counted m_eastBy m_northBy m_partBy m_wayFaults m_wayEast m_wayNorth m_olds m_wayMany m_oneOfSet m_twoOfSet m_farBy m_rowBy m_triedBy m_rowMany m_doneAt m_gotAt m_struckAt m_bestDeed m_misBy m_drawn m_ranSteps m_loops m_ran m_told1 m_isTold m_marks)) : Call Γ M_Mo_byteAt 1 0 0 [.ref 0, .int (nI k)] (hM m_at m_names m_status m_top m_bottom m_sort m_trayMany m_trays m_tape m_text m_taped ((nI L)) m_token m_from m_end m_value m_faultKind m_faultPlace m_faults m_seen m_areOdds m_opened m_depth m_counted m_eastBy m_northBy m_partBy m_wayFaults m_wayEast m_wayNorth m_olds m_wayMany m_oneOfSet m_twoOfSet m_farBy m_rowBy m_triedBy m_rowMany m_doneAt m_gotAt m_struckAt m_bestDeed m_misBy m_drawn m_ranSteps m_loops m_ran m_told1 m_isTold m_marks) Q := by
  refine call_intro (ls := [some (.ref 0), some (.int (nI k))]) rfl rfl rfl ?_
  refine wp_iload_n 1 d_Mo_byteAt_0 rfl rfl ?_
  refine wp_aload_n 2 d_Mo_byteAt_1 rfl rfl ?_
  refine wp_getfield 5 12 11 d_Mo_byteAt_2 rfl fl_Mo_141 rfl rfl ?_
  refine wp_icmp_ge 21 8 d_Mo_byteAt_5 rfl (by decide) (fun h5 => ?_) (fun h5 => ?_)
  · refine wp_iconst 22 (-1) d_Mo_byteAt_21 rfl (by decide) ?_
    refine wp_ireturn d_Mo_byteAt_22 rfl ?_
    refine qI hq ?_
    unfold u8
    rw [if_neg (show ¬ k < L from fun z => by have := nI_leN (b := L) h5 (by omega) (by omega); omega)]
  · have hkl : k < L := nI_nleN h5 (by omega) (by omega)
    refine wp_aload_n 9 d_Mo_byteAt_8 rfl rfl ?_
    refine wp_getfield 12 12 9 d_Mo_byteAt_9 rfl fl_Mo_34 rfl rfl ?_
    refine wp_iload_n 13 d_Mo_byteAt_12 rfl rfl ?_
    refine wp_baloadN 14 d_Mo_byteAt_13 rfl rfl rfl (by omega) ?_
    refine wp_sipush 17 255 d_Mo_byteAt_14 rfl (by decide) ?_
    refine wp_iand 18 d_Mo_byteAt_17 rfl ?_
    refine wp_goto 22 d_Mo_byteAt_18 (by decide) ?_
    refine wp_ireturn d_Mo_byteAt_22 rfl ?_
    refine qI hq ?_
    unfold u8
    rw [if_pos hkl]

set_option maxRecDepth 100000 in
set_option maxHeartbeats 4000000 in
theorem l_Mo_ahead_0 (hL : L ≤ 900) (hb : ∀ k, k < L → b8 (m_text k)) {w1 : Option Value} : ∀ (n e : Nat), e + n = L → WP Γ M_Mo_ahead 2 0 0 (hM m_at m_names m_status m_top m_bottom m_sort m_trayMany m_trays m_tape m_text m_taped ((nI L)) m_token m_from ((nI (e + runL isBl m_text n e))) m_value m_faultKind m_faultPlace m_faults m_seen m_areOdds m_opened m_depth m_counted m_eastBy m_northBy m_partBy m_wayFaults m_wayEast m_wayNorth m_olds m_wayMany m_oneOfSet m_twoOfSet m_farBy m_rowBy m_triedBy m_rowMany m_doneAt m_gotAt m_struckAt m_bestDeed m_misBy m_drawn m_ranSteps m_loops m_ran m_told1 m_isTold m_marks) 39 [some (.ref 0), w1] [] Q → WP Γ M_Mo_ahead 2 0 0 (hM m_at m_names m_status m_top m_bottom m_sort m_trayMany m_trays m_tape m_text m_taped ((nI L)) m_token m_from ((nI e)) m_value m_faultKind m_faultPlace m_faults m_seen m_areOdds m_opened m_depth m_counted m_eastBy m_northBy m_partBy m_wayFaults m_wayEast m_wayNorth m_olds m_wayMany m_oneOfSet m_twoOfSet m_farBy m_rowBy m_triedBy m_rowMany m_doneAt m_gotAt m_struckAt m_bestDeed m_misBy m_drawn m_ranSteps m_loops m_ran m_told1 m_isTold m_marks) 0 [some (.ref 0), w1] [] Q := by
  intro n
  induction n with
  | zero =>
    intro e he hq
    refine wp_aload_n 1 d_Mo_ahead_0 rfl rfl ?_
    refine wp_aload_n 2 d_Mo_ahead_1 rfl rfl ?_
    refine wp_getfield 5 12 14 d_Mo_ahead_2 rfl fl_Mo_144 rfl rfl ?_
    refine wp_V1 8 M_Mo_byteAt 1 d_Mo_ahead_5 rfl mv_Mo_byteAt lk_Mo_147 rfl rfl rfl rfl rfl ?_
    refine c_Mo_byteAt (L := L) (k := e) hL (by omega) ?_
    refine kI ?_
    refine wp_bipush 10 32 d_Mo_ahead_8 rfl (by decide) ?_
    refine wp_icmp_eq 26 13 d_Mo_ahead_10 rfl (by decide) (fun h10 => ?_) (fun h10 => ?_)
    · exact absurd ((u8_bl (hb e)).mp (Or.inl h10)) (fun z => by have := z.1; omega)
    · refine wp_aload_n 14 d_Mo_ahead_13 rfl rfl ?_
      refine wp_aload_n 15 d_Mo_ahead_14 rfl rfl ?_
      refine wp_getfield 18 12 14 d_Mo_ahead_15 rfl fl_Mo_144 rfl rfl ?_
      refine wp_V1 21 M_Mo_byteAt 1 d_Mo_ahead_18 rfl mv_Mo_byteAt lk_Mo_147 rfl rfl rfl rfl rfl ?_
      refine c_Mo_byteAt (L := L) (k := e) hL (by omega) ?_
      refine kI ?_
      refine wp_bipush 23 10 d_Mo_ahead_21 rfl (by decide) ?_
      refine wp_icmp_ne 39 26 d_Mo_ahead_23 rfl (by decide) (fun h23 => ?_) (fun h23 => ?_)
      · exact hq
      · exact absurd ((u8_bl (hb e)).mp (Or.inr h23)) (fun z => by have := z.1; omega)
  | succ n ih =>
    intro e he hq
    refine wp_aload_n 1 d_Mo_ahead_0 rfl rfl ?_
    refine wp_aload_n 2 d_Mo_ahead_1 rfl rfl ?_
    refine wp_getfield 5 12 14 d_Mo_ahead_2 rfl fl_Mo_144 rfl rfl ?_
    refine wp_V1 8 M_Mo_byteAt 1 d_Mo_ahead_5 rfl mv_Mo_byteAt lk_Mo_147 rfl rfl rfl rfl rfl ?_
    refine c_Mo_byteAt (L := L) (k := e) hL (by omega) ?_
    refine kI ?_
    refine wp_bipush 10 32 d_Mo_ahead_8 rfl (by decide) ?_
    refine wp_icmp_eq 26 13 d_Mo_ahead_10 rfl (by decide) (fun h10 => ?_) (fun h10 => ?_)
    · refine wp_aload_n 27 d_Mo_ahead_26 rfl rfl ?_
      refine wp_dup 28 d_Mo_ahead_27 rfl rfl ?_
      refine wp_getfield 31 12 14 d_Mo_ahead_28 rfl fl_Mo_144 rfl rfl ?_
      refine wp_iconst 32 1 d_Mo_ahead_31 rfl (by decide) ?_
      refine wp_iadd 33 d_Mo_ahead_32 rfl ?_
      rw [nI_1]
      refine wp_putfield 36 12 14 _ d_Mo_ahead_33 rfl fp_Mo_144 rfl rfl (okP_int _) ?_
      refine hEq (hM m_at m_names m_status m_top m_bottom m_sort m_trayMany m_trays m_tape m_text m_taped ((nI L)) m_token m_from ((nI (e + 1))) m_value m_faultKind m_faultPlace m_faults m_seen m_areOdds m_opened m_depth m_counted m_eastBy m_northBy m_partBy m_wayFaults m_wayEast m_wayNorth m_olds m_wayMany m_oneOfSet m_twoOfSet m_farBy m_rowBy m_triedBy m_rowMany m_doneAt m_gotAt m_struckAt m_bestDeed m_misBy m_drawn m_ranSteps m_loops m_ran m_told1 m_isTold m_marks) rfl ?_
      refine wp_goto 0 d_Mo_ahead_36 (by decide) ?_
      have hy := ((u8_bl (hb e)).mp (Or.inl h10)).2
      rw [runL_1 hy] at hq
      exact ih (e + 1) (by omega) hq
    · refine wp_aload_n 14 d_Mo_ahead_13 rfl rfl ?_
      refine wp_aload_n 15 d_Mo_ahead_14 rfl rfl ?_
      refine wp_getfield 18 12 14 d_Mo_ahead_15 rfl fl_Mo_144 rfl rfl ?_
      refine wp_V1 21 M_Mo_byteAt 1 d_Mo_ahead_18 rfl mv_Mo_byteAt lk_Mo_147 rfl rfl rfl rfl rfl ?_
      refine c_Mo_byteAt (L := L) (k := e) hL (by omega) ?_
      refine kI ?_
      refine wp_bipush 23 10 d_Mo_ahead_21 rfl (by decide) ?_
      refine wp_icmp_ne 39 26 d_Mo_ahead_23 rfl (by decide) (fun h23 => ?_) (fun h23 => ?_)
      · have hn : ¬ isBl (m_text e) := fun z => by
          rcases (u8_bl (hb e)).mpr ⟨by omega, z⟩ with y | y
          · exact h10 y
          · exact h23 y
        rw [runL_0 hn] at hq
        exact hq
      · refine wp_aload_n 27 d_Mo_ahead_26 rfl rfl ?_
        refine wp_dup 28 d_Mo_ahead_27 rfl rfl ?_
        refine wp_getfield 31 12 14 d_Mo_ahead_28 rfl fl_Mo_144 rfl rfl ?_
        refine wp_iconst 32 1 d_Mo_ahead_31 rfl (by decide) ?_
        refine wp_iadd 33 d_Mo_ahead_32 rfl ?_
        rw [nI_1]
        refine wp_putfield 36 12 14 _ d_Mo_ahead_33 rfl fp_Mo_144 rfl rfl (okP_int _) ?_
        refine hEq (hM m_at m_names m_status m_top m_bottom m_sort m_trayMany m_trays m_tape m_text m_taped ((nI L)) m_token m_from ((nI (e + 1))) m_value m_faultKind m_faultPlace m_faults m_seen m_areOdds m_opened m_depth m_counted m_eastBy m_northBy m_partBy m_wayFaults m_wayEast m_wayNorth m_olds m_wayMany m_oneOfSet m_twoOfSet m_farBy m_rowBy m_triedBy m_rowMany m_doneAt m_gotAt m_struckAt m_bestDeed m_misBy m_drawn m_ranSteps m_loops m_ran m_told1 m_isTold m_marks) rfl ?_
        refine wp_goto 0 d_Mo_ahead_36 (by decide) ?_
        have hy := ((u8_bl (hb e)).mp (Or.inr h23)).2
        rw [runL_1 hy] at hq
        exact ih (e + 1) (by omega) hq
set_option maxRecDepth 100000 in
set_option maxHeartbeats 4000000 in
theorem l_Mo_ahead_81 (hL : L ≤ 900) (hb : ∀ k, k < L → b8 (m_text k)) {w1 : Option Value} : ∀ (n e : Nat), e + n = L → WP Γ M_Mo_ahead 2 0 0 (hM m_at m_names m_status m_top m_bottom m_sort m_trayMany m_trays m_tape m_text m_taped ((nI L)) m_token m_from ((nI (e + runL isLe m_text n e))) m_value m_faultKind m_faultPlace m_faults m_seen m_areOdds m_opened m_depth m_counted m_eastBy m_northBy m_partBy m_wayFaults m_wayEast m_wayNorth m_olds m_wayMany m_oneOfSet m_twoOfSet m_farBy m_rowBy m_triedBy m_rowMany m_doneAt m_gotAt m_struckAt m_bestDeed m_misBy m_drawn m_ranSteps m_loops m_ran m_told1 m_isTold m_marks) 108 [some (.ref 0), w1] [] Q → WP Γ M_Mo_ahead 2 0 0 (hM m_at m_names m_status m_top m_bottom m_sort m_trayMany m_trays m_tape m_text m_taped ((nI L)) m_token m_from ((nI e)) m_value m_faultKind m_faultPlace m_faults m_seen m_areOdds m_opened m_depth m_counted m_eastBy m_northBy m_partBy m_wayFaults m_wayEast m_wayNorth m_olds m_wayMany m_oneOfSet m_twoOfSet m_farBy m_rowBy m_triedBy m_rowMany m_doneAt m_gotAt m_struckAt m_bestDeed m_misBy m_drawn m_ranSteps m_loops m_ran m_told1 m_isTold m_marks) 81 [some (.ref 0), w1] [] Q := by
  intro n
  induction n with
  | zero =>
    intro e he hq
    refine wp_aload_n 82 d_Mo_ahead_81 rfl rfl ?_
    refine wp_aload_n 83 d_Mo_ahead_82 rfl rfl ?_
    refine wp_getfield 86 12 14 d_Mo_ahead_83 rfl fl_Mo_144 rfl rfl ?_
    refine wp_V1 89 M_Mo_byteAt 1 d_Mo_ahead_86 rfl mv_Mo_byteAt lk_Mo_147 rfl rfl rfl rfl rfl ?_
    refine c_Mo_byteAt (L := L) (k := e) hL (by omega) ?_
    refine kI ?_
    refine wp_S1 92 M_Mo_isSmall 1 d_Mo_ahead_89 rfl ms_Mo_isSmall lk_Mo_159 rfl rfl ?_
    refine c_Mo_isSmall ?_
    refine kI ?_
    (first | refine wp_ifP_eq 108 95 d_Mo_ahead_92 rfl (by decide) (fun h92 => ?_) (fun h92 => ?_) | refine wp_if_eq 108 95 d_Mo_ahead_92 rfl (by decide) (fun h92 => ?_) (fun h92 => ?_))
    · exact hq
    · exact absurd ((u8_le (hb e)).mp h92) (fun z => by have := z.1; omega)
  | succ n ih =>
    intro e he hq
    refine wp_aload_n 82 d_Mo_ahead_81 rfl rfl ?_
    refine wp_aload_n 83 d_Mo_ahead_82 rfl rfl ?_
    refine wp_getfield 86 12 14 d_Mo_ahead_83 rfl fl_Mo_144 rfl rfl ?_
    refine wp_V1 89 M_Mo_byteAt 1 d_Mo_ahead_86 rfl mv_Mo_byteAt lk_Mo_147 rfl rfl rfl rfl rfl ?_
    refine c_Mo_byteAt (L := L) (k := e) hL (by omega) ?_
    refine kI ?_
    refine wp_S1 92 M_Mo_isSmall 1 d_Mo_ahead_89 rfl ms_Mo_isSmall lk_Mo_159 rfl rfl ?_
    refine c_Mo_isSmall ?_
    refine kI ?_
    (first | refine wp_ifP_eq 108 95 d_Mo_ahead_92 rfl (by decide) (fun h92 => ?_) (fun h92 => ?_) | refine wp_if_eq 108 95 d_Mo_ahead_92 rfl (by decide) (fun h92 => ?_) (fun h92 => ?_))
    · have hn : ¬ isLe (m_text e) := fun z => h92 ((u8_le (hb e)).mpr ⟨by omega, z⟩)
      rw [runL_0 hn] at hq
      exact hq
    · refine wp_aload_n 96 d_Mo_ahead_95 rfl rfl ?_
      refine wp_dup 97 d_Mo_ahead_96 rfl rfl ?_
      refine wp_getfield 100 12 14 d_Mo_ahead_97 rfl fl_Mo_144 rfl rfl ?_
      refine wp_iconst 101 1 d_Mo_ahead_100 rfl (by decide) ?_
      refine wp_iadd 102 d_Mo_ahead_101 rfl ?_
      rw [nI_1]
      refine wp_putfield 105 12 14 _ d_Mo_ahead_102 rfl fp_Mo_144 rfl rfl (okP_int _) ?_
      refine hEq (hM m_at m_names m_status m_top m_bottom m_sort m_trayMany m_trays m_tape m_text m_taped ((nI L)) m_token m_from ((nI (e + 1))) m_value m_faultKind m_faultPlace m_faults m_seen m_areOdds m_opened m_depth m_counted m_eastBy m_northBy m_partBy m_wayFaults m_wayEast m_wayNorth m_olds m_wayMany m_oneOfSet m_twoOfSet m_farBy m_rowBy m_triedBy m_rowMany m_doneAt m_gotAt m_struckAt m_bestDeed m_misBy m_drawn m_ranSteps m_loops m_ran m_told1 m_isTold m_marks) rfl ?_
      refine wp_goto 81 d_Mo_ahead_105 (by decide) ?_
      have hy := ((u8_le (hb e)).mp h92).2
      rw [runL_1 hy] at hq
      exact ih (e + 1) (by omega) hq
set_option maxRecDepth 100000 in
set_option maxHeartbeats 4000000 in
theorem l_Mo_ahead_128 (hL : L ≤ 900) (hb : ∀ k, k < L → b8 (m_text k)) {p : Nat} {w1 : Option Value} : ∀ (n i : Nat), p + i + n = L → WP Γ M_Mo_ahead 2 0 0 (hM m_at m_names m_status m_top m_bottom m_sort m_trayMany m_trays m_tape m_text m_taped ((nI L)) m_token m_from ((nI (p + (i + runL isDi m_text n (p + i))))) ((vdF m_text L p (i + runL isDi m_text n (p + i)))) m_faultKind m_faultPlace m_faults m_seen m_areOdds m_opened m_depth m_counted m_eastBy m_northBy m_partBy m_wayFaults m_wayEast m_wayNorth m_olds m_wayMany m_oneOfSet m_twoOfSet m_farBy m_rowBy m_triedBy m_rowMany m_doneAt m_gotAt m_struckAt m_bestDeed m_misBy m_drawn m_ranSteps m_loops m_ran m_told1 m_isTold m_marks) 183 [some (.ref 0), w1] [] Q → WP Γ M_Mo_ahead 2 0 0 (hM m_at m_names m_status m_top m_bottom m_sort m_trayMany m_trays m_tape m_text m_taped ((nI L)) m_token m_from ((nI (p + i))) ((vdF m_text L p i)) m_faultKind m_faultPlace m_faults m_seen m_areOdds m_opened m_depth m_counted m_eastBy m_northBy m_partBy m_wayFaults m_wayEast m_wayNorth m_olds m_wayMany m_oneOfSet m_twoOfSet m_farBy m_rowBy m_triedBy m_rowMany m_doneAt m_gotAt m_struckAt m_bestDeed m_misBy m_drawn m_ranSteps m_loops m_ran m_told1 m_isTold m_marks) 128 [some (.ref 0), w1] [] Q := by
  intro n
  induction n with
  | zero =>
    intro i he hq
    refine wp_aload_n 129 d_Mo_ahead_128 rfl rfl ?_
    refine wp_aload_n 130 d_Mo_ahead_129 rfl rfl ?_
    refine wp_getfield 133 12 14 d_Mo_ahead_130 rfl fl_Mo_144 rfl rfl ?_
    refine wp_V1 136 M_Mo_byteAt 1 d_Mo_ahead_133 rfl mv_Mo_byteAt lk_Mo_147 rfl rfl rfl rfl rfl ?_
    refine c_Mo_byteAt (L := L) (k := p + i) hL (by omega) ?_
    refine kI ?_
    refine wp_S1 139 M_Mo_isDigit 1 d_Mo_ahead_136 rfl ms_Mo_isDigit lk_Mo_162 rfl rfl ?_
    refine c_Mo_isDigit ?_
    refine kI ?_
    (first | refine wp_ifP_eq 183 142 d_Mo_ahead_139 rfl (by decide) (fun h139 => ?_) (fun h139 => ?_) | refine wp_if_eq 183 142 d_Mo_ahead_139 rfl (by decide) (fun h139 => ?_) (fun h139 => ?_))
    · exact hq
    · exact absurd ((u8_di (hb (p + i))).mp h139) (fun z => by have := z.1; omega)
  | succ n ih =>
    intro i he hq
    refine wp_aload_n 129 d_Mo_ahead_128 rfl rfl ?_
    refine wp_aload_n 130 d_Mo_ahead_129 rfl rfl ?_
    refine wp_getfield 133 12 14 d_Mo_ahead_130 rfl fl_Mo_144 rfl rfl ?_
    refine wp_V1 136 M_Mo_byteAt 1 d_Mo_ahead_133 rfl mv_Mo_byteAt lk_Mo_147 rfl rfl rfl rfl rfl ?_
    refine c_Mo_byteAt (L := L) (k := p + i) hL (by omega) ?_
    refine kI ?_
    refine wp_S1 139 M_Mo_isDigit 1 d_Mo_ahead_136 rfl ms_Mo_isDigit lk_Mo_162 rfl rfl ?_
    refine c_Mo_isDigit ?_
    refine kI ?_
    (first | refine wp_ifP_eq 183 142 d_Mo_ahead_139 rfl (by decide) (fun h139 => ?_) (fun h139 => ?_) | refine wp_if_eq 183 142 d_Mo_ahead_139 rfl (by decide) (fun h139 => ?_) (fun h139 => ?_))
    · have hn : ¬ isDi (m_text (p + i)) := fun z => h139 ((u8_di (hb (p + i))).mpr ⟨by omega, z⟩)
      rw [runL_0 hn] at hq
      exact hq
    · refine wp_aload_n 143 d_Mo_ahead_142 rfl rfl ?_
      refine wp_ldc 145 (100000 : Int32) d_Mo_ahead_143 rfl ct_Mo_165 ?_
      refine wp_bipush 147 10 d_Mo_ahead_145 rfl (by decide) ?_
      refine wp_aload_n 148 d_Mo_ahead_147 rfl rfl ?_
      refine wp_getfield 151 12 15 d_Mo_ahead_148 rfl fl_Mo_153 rfl rfl ?_
      refine wp_imul 152 d_Mo_ahead_151 rfl ?_
      refine wp_aload_n 153 d_Mo_ahead_152 rfl rfl ?_
      refine wp_aload_n 154 d_Mo_ahead_153 rfl rfl ?_
      refine wp_getfield 157 12 14 d_Mo_ahead_154 rfl fl_Mo_144 rfl rfl ?_
      refine wp_V1 160 M_Mo_byteAt 1 d_Mo_ahead_157 rfl mv_Mo_byteAt lk_Mo_147 rfl rfl rfl rfl rfl ?_
      refine c_Mo_byteAt (L := L) (k := p + i) hL (by omega) ?_
      refine kI ?_
      refine wp_iadd 161 d_Mo_ahead_160 rfl ?_
      refine wp_bipush 163 48 d_Mo_ahead_161 rfl (by decide) ?_
      refine wp_isub 164 d_Mo_ahead_163 rfl ?_
      refine wp_S2 167 M_JMath_min 1 d_Mo_ahead_164 rfl ms_JMath_min lk_Mo_166 rfl rfl ?_
      refine c_JMath_min ?_
      refine kI ?_
      refine wp_putfield 170 12 15 _ d_Mo_ahead_167 rfl fp_Mo_153 rfl rfl (okP_int _) ?_
      refine hEq (hM m_at m_names m_status m_top m_bottom m_sort m_trayMany m_trays m_tape m_text m_taped ((nI L)) m_token m_from ((nI (p + i))) ((vdF m_text L p (i + 1))) m_faultKind m_faultPlace m_faults m_seen m_areOdds m_opened m_depth m_counted m_eastBy m_northBy m_partBy m_wayFaults m_wayEast m_wayNorth m_olds m_wayMany m_oneOfSet m_twoOfSet m_farBy m_rowBy m_triedBy m_rowMany m_doneAt m_gotAt m_struckAt m_bestDeed m_misBy m_drawn m_ranSteps m_loops m_ran m_told1 m_isTold m_marks) rfl ?_
      refine wp_aload_n 171 d_Mo_ahead_170 rfl rfl ?_
      refine wp_dup 172 d_Mo_ahead_171 rfl rfl ?_
      refine wp_getfield 175 12 14 d_Mo_ahead_172 rfl fl_Mo_144 rfl rfl ?_
      refine wp_iconst 176 1 d_Mo_ahead_175 rfl (by decide) ?_
      refine wp_iadd 177 d_Mo_ahead_176 rfl ?_
      rw [nI_1]
      refine wp_putfield 180 12 14 _ d_Mo_ahead_177 rfl fp_Mo_144 rfl rfl (okP_int _) ?_
      refine hEq (hM m_at m_names m_status m_top m_bottom m_sort m_trayMany m_trays m_tape m_text m_taped ((nI L)) m_token m_from ((nI (p + (i + 1)))) ((vdF m_text L p (i + 1))) m_faultKind m_faultPlace m_faults m_seen m_areOdds m_opened m_depth m_counted m_eastBy m_northBy m_partBy m_wayFaults m_wayEast m_wayNorth m_olds m_wayMany m_oneOfSet m_twoOfSet m_farBy m_rowBy m_triedBy m_rowMany m_doneAt m_gotAt m_struckAt m_bestDeed m_misBy m_drawn m_ranSteps m_loops m_ran m_told1 m_isTold m_marks) rfl ?_
      refine wp_goto 128 d_Mo_ahead_180 (by decide) ?_
      have hy := ((u8_di (hb (p + i))).mp h139).2
      rw [show i + runL isDi m_text (n + 1) (p + i) = i + 1 + runL isDi m_text n (p + (i + 1)) from by have := runL_1 (n := n) hy; have e2 : p + i + 1 = p + (i + 1) := rfl; rw [e2] at this; omega] at hq
      exact ih (i + 1) (by omega) hq
end TAD
