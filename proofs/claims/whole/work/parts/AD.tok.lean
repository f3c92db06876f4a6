/-! ===== the reference: texts, their tokens ===== -/
def c8 (j : Nat) : Int32 := (nI j).toInt8.toInt32
/-- a byte -/
def b8 (x : Int32) : Prop := ∃ j, j < 256 ∧ x = c8 j
theorem b8_tab : ∀ j, j < 256 → ((c8 j &&& 255 = 32 ↔ c8 j = 32) ∧ (c8 j &&& 255 = 10 ↔ c8 j = 10) ∧ (isLe (c8 j &&& 255) ↔ isLe (c8 j)) ∧ (isDi (c8 j &&& 255) ↔ isDi (c8 j)) ∧ (isLe (c8 j) → c8 j &&& 255 = c8 j) ∧ (isDi (c8 j) → c8 j &&& 255 = c8 j) ∧ ¬ c8 j &&& 255 = -1) ∧ (c8 j &&& 255 = 59 ↔ c8 j = 59) ∧ (c8 j &&& 255 = 60 ↔ c8 j = 60) ∧ (c8 j &&& 255 = 61 ↔ c8 j = 61) ∧ (c8 j &&& 255 = 62 ↔ c8 j = 62) := by decide +kernel
def u8 (b : Nat → Int32) (L k : Nat) : Int32 := if k < L then b k &&& 255 else -1
theorem u8_bl {b : Nat → Int32} {L k : Nat} (h : k < L → b8 (b k)) : (u8 b L k = 32 ∨ u8 b L k = 10) ↔ (k < L ∧ isBl (b k)) := by
  unfold u8
  by_cases c : k < L
  · obtain ⟨j, hj, e⟩ := h c
    rw [if_pos c, e, (b8_tab j hj).1.1, (b8_tab j hj).1.2.1]
    exact ⟨fun z => ⟨c, z.symm⟩, fun z => z.2.symm⟩
  · rw [if_neg c]
    exact ⟨fun z => by rcases z with z | z <;> exact absurd z (by decide), fun z => absurd z.1 c⟩
theorem u8_le {b : Nat → Int32} {L k : Nat} (h : k < L → b8 (b k)) : isLe (u8 b L k) ↔ (k < L ∧ isLe (b k)) := by
  unfold u8
  by_cases c : k < L
  · obtain ⟨j, hj, e⟩ := h c
    rw [if_pos c, e]
    exact ⟨fun z => ⟨c, (b8_tab j hj).1.2.2.1.mp z⟩, fun z => (b8_tab j hj).1.2.2.1.mpr z.2⟩
  · rw [if_neg c]
    exact ⟨fun z => absurd z (by decide), fun z => absurd z.1 c⟩
theorem u8_di {b : Nat → Int32} {L k : Nat} (h : k < L → b8 (b k)) : isDi (u8 b L k) ↔ (k < L ∧ isDi (b k)) := by
  unfold u8
  by_cases c : k < L
  · obtain ⟨j, hj, e⟩ := h c
    rw [if_pos c, e]
    exact ⟨fun z => ⟨c, (b8_tab j hj).1.2.2.2.1.mp z⟩, fun z => (b8_tab j hj).1.2.2.2.1.mpr z.2⟩
  · rw [if_neg c]
    exact ⟨fun z => absurd z (by decide), fun z => absurd z.1 c⟩
theorem u8_n {b : Nat → Int32} {L k : Nat} (h : k < L → b8 (b k)) : u8 b L k = -1 ↔ ¬ k < L := by
  unfold u8
  by_cases c : k < L
  · obtain ⟨j, hj, e⟩ := h c
    rw [if_pos c, e]
    exact ⟨fun z => absurd z (b8_tab j hj).1.2.2.2.2.2.2, fun z => absurd c z⟩
  · rw [if_neg c]
    exact ⟨fun _ => c, fun _ => rfl⟩
def vdF (b : Nat → Int32) (L p : Nat) : Nat → Int32
  | 0 => 0
  | k + 1 => iMin 100000 (10 * vdF b L p k + u8 b L (p + k) - 48)
theorem runL_1 {P : Int32 → Prop} [DecidablePred P] {b : Nat → Int32} {n i : Nat} (h : P (b i)) : i + runL P b (n + 1) i = i + 1 + runL P b n (i + 1) := by
  show i + (if P (b i) then 1 + runL P b n (i + 1) else 0) = _
  rw [if_pos h]; omega
theorem runL_0 {P : Int32 → Prop} [DecidablePred P] {b : Nat → Int32} {n i : Nat} (h : ¬ P (b i)) : runL P b (n + 1) i = 0 := if_neg h
/-- what comes next: token, from, end, value -/
def ahG (b : Nat → Int32) (L p : Nat) : Int32 × Nat × Nat × Int32 :=
  if ¬ p < L then (0, p, p, -1)
  else if isLe (b p) then (2, p, p + runL isLe b (L - p) p, u8 b L p)
  else if isDi (b p) then (if 4 < runL isDi b (L - p) p then 1 else 3, p, p + runL isDi b (L - p) p, vdF b L p (runL isDi b (L - p) p))
  else (if u8 b L p = 59 ∨ u8 b L p = 60 ∨ u8 b L p = 62 ∨ u8 b L p = 61 then 4 else 1, p, p + 1, u8 b L p)
def ahF (b : Nat → Int32) (L e : Nat) : Int32 × Nat × Nat × Int32 := ahG b L (e + runL isBl b (L - e) e)
theorem runL_le {P : Int32 → Prop} [DecidablePred P] {b : Nat → Int32} : ∀ (n i : Nat), runL P b n i ≤ n
  | 0, _ => Nat.le_refl 0
  | n + 1, i => by
    have := runL_le (P := P) (b := b) n (i + 1)
    show (if P (b i) then 1 + runL P b n (i + 1) else 0) ≤ n + 1
    split <;> omega
section TAD
variable {Γ : Gm} {Q : Option Value → LH → Prop} {m_at m_sort m_trayMany m_tape m_text m_opened m_eastBy m_northBy m_partBy m_wayFaults m_wayEast m_wayNorth m_olds m_farBy m_rowBy m_triedBy m_doneAt m_gotAt m_struckAt m_bestDeed m_loops m_ran m_told1 : Nat → Int32} {m_names m_trays m_misBy : Nat → Int64} {m_status m_taped m_size m_token m_from m_end m_value m_faultKind m_faultPlace m_faults m_seen m_areOdds m_depth m_counted m_wayMany m_oneOfSet m_twoOfSet m_rowMany m_drawn m_ranSteps m_isTold m_marks : Int32} {m_top m_bottom : Int64} {L : Nat}
set_option maxRecDepth 100000 in
set_option maxHeartbeats 4000000 in
theorem c_Mo_byteAt {k : Nat} (hL : L ≤ 900) (hk : k ≤ 900) (hq : Q (some (.int (u8 m_text L k))) (hM m_at m_names m_status m_top m_bottom m_sort m_trayMany m_trays m_tape m_text m_taped ((nI L)) m_token m_from m_end m_value m_faultKind m_faultPlace m_faults m_seen m_areOdds m_opened m_depth m_counted m_eastBy m_northBy m_partBy m_wayFaults m_wayEast m_wayNorth m_olds m_wayMany m_oneOfSet m_twoOfSet m_farBy m_rowBy m_triedBy m_rowMany m_doneAt m_gotAt m_struckAt m_bestDeed m_misBy m_drawn m_ranSteps m_loops m_ran m_told1 m_isTold m_marks)) : Call Γ M_Mo_byteAt 1 0 0 [.ref 0, .int (nI k)] (hM m_at m_names m_status m_top m_bottom m_sort m_trayMany m_trays m_tape m_text m_taped ((nI L)) m_token m_from m_end m_value m_faultKind m_faultPlace m_faults m_seen m_areOdds m_opened m_depth m_counted m_eastBy m_northBy m_partBy m_wayFaults m_wayEast m_wayNorth m_olds m_wayMany m_oneOfSet m_twoOfSet m_farBy m_rowBy m_triedBy m_rowMany m_doneAt m_gotAt m_struckAt m_bestDeed m_misBy m_drawn m_ranSteps m_loops m_ran m_told1 m_isTold m_marks) Q := by
  refine call_intro (ls := [some (.ref 0), some (.int (nI k))]) rfl rfl rfl ?_
  refine wp_iload_n 1 d_Mo_byteAt_0 rfl rfl ?_
  refine wp_aload_n 2 d_Mo_byteAt_1 rfl rfl ?_
  refine wp_getfield 5 12 11 d_Mo_byteAt_2 rfl fl_Mo_141 rfl rfl ?_
  refine wp_icmp_ge 21 8 d_Mo_byteAt_5 rfl (by decide) (fun h5 => ?_) (fun h5 => ?_)
  · refine wp_iconst 22 (-1) d_Mo_byteAt_21 rfl (by decide) ?_
    refine wp_ireturn d_Mo_byteAt_22 rfl ?_
    refine qI hq ?_
    unfold u8
    rw [if_neg (show ¬ k < L from fun z => by have := nI_leN (b := L) h5 (by omega) (by omega); omega)]
  · have hkl : k < L := nI_nleN h5 (by omega) (by omega)
    refine wp_aload_n 9 d_Mo_byteAt_8 rfl rfl ?_
    refine wp_getfield 12 12 9 d_Mo_byteAt_9 rfl fl_Mo_34 rfl rfl ?_
    refine wp_iload_n 13 d_Mo_byteAt_12 rfl rfl ?_
    refine wp_baloadN 14 d_Mo_byteAt_13 rfl rfl rfl (by omega) ?_
    refine wp_sipush 17 255 d_Mo_byteAt_14 rfl (by decide) ?_
    refine wp_iand 18 d_Mo_byteAt_17 rfl ?_
    refine wp_goto 22 d_Mo_byteAt_18 (by decide) ?_
    refine wp_ireturn d_Mo_byteAt_22 rfl ?_
    refine qI hq ?_
    unfold u8
    rw [if_pos hkl]

set_option maxRecDepth 100000 in
set_option maxHeartbeats 4000000 in
theorem l_Mo_ahead_0 (hL : L ≤ 900) (hb : ∀ k, k < L → b8 (m_text k)) {w1 : Option Value} : ∀ (n e : Nat), e + n = L → WP Γ M_Mo_ahead 2 0 0 (hM m_at m_names m_status m_top m_bottom m_sort m_trayMany m_trays m_tape m_text m_taped ((nI L)) m_token m_from ((nI (e + runL isBl m_text n e))) m_value m_faultKind m_faultPlace m_faults m_seen m_areOdds m_opened m_depth m_counted m_eastBy m_northBy m_partBy m_wayFaults m_wayEast m_wayNorth m_olds m_wayMany m_oneOfSet m_twoOfSet m_farBy m_rowBy m_triedBy m_rowMany m_doneAt m_gotAt m_struckAt m_bestDeed m_misBy m_drawn m_ranSteps m_loops m_ran m_told1 m_isTold m_marks) 39 [some (.ref 0), w1] [] Q → WP Γ M_Mo_ahead 2 0 0 (hM m_at m_names m_status m_top m_bottom m_sort m_trayMany m_trays m_tape m_text m_taped ((nI L)) m_token m_from ((nI e)) m_value m_faultKind m_faultPlace m_faults m_seen m_areOdds m_opened m_depth m_counted m_eastBy m_northBy m_partBy m_wayFaults m_wayEast m_wayNorth m_olds m_wayMany m_oneOfSet m_twoOfSet m_farBy m_rowBy m_triedBy m_rowMany m_doneAt m_gotAt m_struckAt m_bestDeed m_misBy m_drawn m_ranSteps m_loops m_ran m_told1 m_isTold m_marks) 0 [some (.ref 0), w1] [] Q := by
  intro n
  induction n with
  | zero =>
    intro e he hq
    refine wp_aload_n 1 d_Mo_ahead_0 rfl rfl ?_
    refine wp_aload_n 2 d_Mo_ahead_1 rfl rfl ?_
    refine wp_getfield 5 12 14 d_Mo_ahead_2 rfl fl_Mo_144 rfl rfl ?_
    refine wp_V1 8 M_Mo_byteAt 1 d_Mo_ahead_5 rfl mv_Mo_byteAt lk_Mo_147 rfl rfl rfl rfl rfl ?_
    refine c_Mo_byteAt (L := L) (k := e) hL (by omega) ?_
    refine kI ?_
    refine wp_bipush 10 32 d_Mo_ahead_8 rfl (by decide) ?_
    refine wp_icmp_eq 26 13 d_Mo_ahead_10 rfl (by decide) (fun h10 => ?_) (fun h10 => ?_)
    · exact absurd ((u8_bl (hb e)).mp (Or.inl h10)) (fun z => by have := z.1; omega)
    · refine wp_aload_n 14 d_Mo_ahead_13 rfl rfl ?_
      refine wp_aload_n 15 d_Mo_ahead_14 rfl rfl ?_
      refine wp_getfield 18 12 14 d_Mo_ahead_15 rfl fl_Mo_144 rfl rfl ?_
      refine wp_V1 21 M_Mo_byteAt 1 d_Mo_ahead_18 rfl mv_Mo_byteAt lk_Mo_147 rfl rfl rfl rfl rfl ?_
      refine c_Mo_byteAt (L := L) (k := e) hL (by omega) ?_
      refine kI ?_
      refine wp_bipush 23 10 d_Mo_ahead_21 rfl (by decide) ?_
      refine wp_icmp_ne 39 26 d_Mo_ahead_23 rfl (by decide) (fun h23 => ?_) (fun h23 => ?_)
      · exact hq
      · exact absurd ((u8_bl (hb e)).mp (Or.inr h23)) (fun z => by have := z.1; omega)
  | succ n ih =>
    intro e he hq
    refine wp_aload_n 1 d_Mo_ahead_0 rfl rfl ?_
    refine wp_aload_n 2 d_Mo_ahead_1 rfl rfl ?_
    refine wp_getfield 5 12 14 d_Mo_ahead_2 rfl fl_Mo_144 rfl rfl ?_
    refine wp_V1 8 M_Mo_byteAt 1 d_Mo_ahead_5 rfl mv_Mo_byteAt lk_Mo_147 rfl rfl rfl rfl rfl ?_
    refine c_Mo_byteAt (L := L) (k := e) hL (by omega) ?_
    refine kI ?_
    refine wp_bipush 10 32 d_Mo_ahead_8 rfl (by decide) ?_
    refine wp_icmp_eq 26 13 d_Mo_ahead_10 rfl (by decide) (fun h10 => ?_) (fun h10 => ?_)
    · refine wp_aload_n 27 d_Mo_ahead_26 rfl rfl ?_
      refine wp_dup 28 d_Mo_ahead_27 rfl rfl ?_
      refine wp_getfield 31 12 14 d_Mo_ahead_28 rfl fl_Mo_144 rfl rfl ?_
      refine wp_iconst 32 1 d_Mo_ahead_31 rfl (by decide) ?_
      refine wp_iadd 33 d_Mo_ahead_32 rfl ?_
      rw [nI_1]
      refine wp_putfield 36 12 14 _ d_Mo_ahead_33 rfl fp_Mo_144 rfl rfl (okP_int _) ?_
      refine hEq (hM m_at m_names m_status m_top m_bottom m_sort m_trayMany m_trays m_tape m_text m_taped ((nI L)) m_token m_from ((nI (e + 1))) m_value m_faultKind m_faultPlace m_faults m_seen m_areOdds m_opened m_depth m_counted m_eastBy m_northBy m_partBy m_wayFaults m_wayEast m_wayNorth m_olds m_wayMany m_oneOfSet m_twoOfSet m_farBy m_rowBy m_triedBy m_rowMany m_doneAt m_gotAt m_struckAt m_bestDeed m_misBy m_drawn m_ranSteps m_loops m_ran m_told1 m_isTold m_marks) rfl ?_
      refine wp_goto 0 d_Mo_ahead_36 (by decide) ?_
      have hy := ((u8_bl (hb e)).mp (Or.inl h10)).2
      rw [runL_1 hy] at hq
      exact ih (e + 1) (by omega) hq
    · refine wp_aload_n 14 d_Mo_ahead_13 rfl rfl ?_
      refine wp_aload_n 15 d_Mo_ahead_14 rfl rfl ?_
      refine wp_getfield 18 12 14 d_Mo_ahead_15 rfl fl_Mo_144 rfl rfl ?_
      refine wp_V1 21 M_Mo_byteAt 1 d_Mo_ahead_18 rfl mv_Mo_byteAt lk_Mo_147 rfl rfl rfl rfl rfl ?_
      refine c_Mo_byteAt (L := L) (k := e) hL (by omega) ?_
      refine kI ?_
      refine wp_bipush 23 10 d_Mo_ahead_21 rfl (by decide) ?_
      refine wp_icmp_ne 39 26 d_Mo_ahead_23 rfl (by decide) (fun h23 => ?_) (fun h23 => ?_)
      · have hn : ¬ isBl (m_text e) := fun z => by
          rcases (u8_bl (hb e)).mpr ⟨by omega, z⟩ with y | y
          · exact h10 y
          · exact h23 y
        rw [runL_0 hn] at hq
        exact hq
      · refine wp_aload_n 27 d_Mo_ahead_26 rfl rfl ?_
        refine wp_dup 28 d_Mo_ahead_27 rfl rfl ?_
        refine wp_getfield 31 12 14 d_Mo_ahead_28 rfl fl_Mo_144 rfl rfl ?_
        refine wp_iconst 32 1 d_Mo_ahead_31 rfl (by decide) ?_
        refine wp_iadd 33 d_Mo_ahead_32 rfl ?_
        rw [nI_1]
        refine wp_putfield 36 12 14 _ d_Mo_ahead_33 rfl fp_Mo_144 rfl rfl (okP_int _) ?_
        refine hEq (hM m_at m_names m_status m_top m_bottom m_sort m_trayMany m_trays m_tape m_text m_taped ((nI L)) m_token m_from ((nI (e + 1))) m_value m_faultKind m_faultPlace m_faults m_seen m_areOdds m_opened m_depth m_counted m_eastBy m_northBy m_partBy m_wayFaults m_wayEast m_wayNorth m_olds m_wayMany m_oneOfSet m_twoOfSet m_farBy m_rowBy m_triedBy m_rowMany m_doneAt m_gotAt m_struckAt m_bestDeed m_misBy m_drawn m_ranSteps m_loops m_ran m_told1 m_isTold m_marks) rfl ?_
        refine wp_goto 0 d_Mo_ahead_36 (by decide) ?_
        have hy := ((u8_bl (hb e)).mp (Or.inr h23)).2
        rw [runL_1 hy] at hq
        exact ih (e + 1) (by omega) hq
set_option maxRecDepth 100000 in
set_option maxHeartbeats 4000000 in
theorem l_Mo_ahead_81 (hL : L ≤ 900) (hb : ∀ k, k < L → b8 (m_text k)) {w1 : Option Value} : ∀ (n e : Nat), e + n = L → WP Γ M_Mo_ahead 2 0 0 (hM m_at m_names m_status m_top m_bottom m_sort m_trayMany m_trays m_tape m_text m_taped ((nI L)) m_token m_from ((nI (e + runL isLe m_text n e))) m_value m_faultKind m_faultPlace m_faults m_seen m_areOdds m_opened m_depth m_counted m_eastBy m_northBy m_partBy m_wayFaults m_wayEast m_wayNorth m_olds m_wayMany m_oneOfSet m_twoOfSet m_farBy m_rowBy m_triedBy m_rowMany m_doneAt m_gotAt m_struckAt m_bestDeed m_misBy m_drawn m_ranSteps m_loops m_ran m_told1 m_isTold m_marks) 108 [some (.ref 0), w1] [] Q → WP Γ M_Mo_ahead 2 0 0 (hM m_at m_names m_status m_top m_bottom m_sort m_trayMany m_trays m_tape m_text m_taped ((nI L)) m_token m_from ((nI e)) m_value m_faultKind m_faultPlace m_faults m_seen m_areOdds m_opened m_depth m_counted m_eastBy m_northBy m_partBy m_wayFaults m_wayEast m_wayNorth m_olds m_wayMany m_oneOfSet m_twoOfSet m_farBy m_rowBy m_triedBy m_rowMany m_doneAt m_gotAt m_struckAt m_bestDeed m_misBy m_drawn m_ranSteps m_loops m_ran m_told1 m_isTold m_marks) 81 [some (.ref 0), w1] [] Q := by
  intro n
  induction n with
  | zero =>
    intro e he hq
    refine wp_aload_n 82 d_Mo_ahead_81 rfl rfl ?_
    refine wp_aload_n 83 d_Mo_ahead_82 rfl rfl ?_
    refine wp_getfield 86 12 14 d_Mo_ahead_83 rfl fl_Mo_144 rfl rfl ?_
    refine wp_V1 89 M_Mo_byteAt 1 d_Mo_ahead_86 rfl mv_Mo_byteAt lk_Mo_147 rfl rfl rfl rfl rfl ?_
    refine c_Mo_byteAt (L := L) (k := e) hL (by omega) ?_
    refine kI ?_
    refine wp_S1 92 M_Mo_isSmall 1 d_Mo_ahead_89 rfl ms_Mo_isSmall lk_Mo_159 rfl rfl ?_
    refine c_Mo_isSmall ?_
    refine kI ?_
    (first | refine wp_ifP_eq 108 95 d_Mo_ahead_92 rfl (by decide) (fun h92 => ?_) (fun h92 => ?_) | refine wp_if_eq 108 95 d_Mo_ahead_92 rfl (by decide) (fun h92 => ?_) (fun h92 => ?_))
    · exact hq
    · exact absurd ((u8_le (hb e)).mp h92) (fun z => by have := z.1; omega)
  | succ n ih =>
    intro e he hq
    refine wp_aload_n 82 d_Mo_ahead_81 rfl rfl ?_
    refine wp_aload_n 83 d_Mo_ahead_82 rfl rfl ?_
    refine wp_getfield 86 12 14 d_Mo_ahead_83 rfl fl_Mo_144 rfl rfl ?_
    refine wp_V1 89 M_Mo_byteAt 1 d_Mo_ahead_86 rfl mv_Mo_byteAt lk_Mo_147 rfl rfl rfl rfl rfl ?_
    refine c_Mo_byteAt (L := L) (k := e) hL (by omega) ?_
    refine kI ?_
    refine wp_S1 92 M_Mo_isSmall 1 d_Mo_ahead_89 rfl ms_Mo_isSmall lk_Mo_159 rfl rfl ?_
    refine c_Mo_isSmall ?_
    refine kI ?_
    (first | refine wp_ifP_eq 108 95 d_Mo_ahead_92 rfl (by decide) (fun h92 => ?_) (fun h92 => ?_) | refine wp_if_eq 108 95 d_Mo_ahead_92 rfl (by decide) (fun h92 => ?_) (fun h92 => ?_))
    · have hn : ¬ isLe (m_text e) := fun z => h92 ((u8_le (hb e)).mpr ⟨by omega, z⟩)
      rw [runL_0 hn] at hq
      exact hq
    · refine wp_aload_n 96 d_Mo_ahead_95 rfl rfl ?_
      refine wp_dup 97 d_Mo_ahead_96 rfl rfl ?_
      refine wp_getfield 100 12 14 d_Mo_ahead_97 rfl fl_Mo_144 rfl rfl ?_
      refine wp_iconst 101 1 d_Mo_ahead_100 rfl (by decide) ?_
      refine wp_iadd 102 d_Mo_ahead_101 rfl ?_
      rw [nI_1]
      refine wp_putfield 105 12 14 _ d_Mo_ahead_102 rfl fp_Mo_144 rfl rfl (okP_int _) ?_
      refine hEq (hM m_at m_names m_status m_top m_bottom m_sort m_trayMany m_trays m_tape m_text m_taped ((nI L)) m_token m_from ((nI (e + 1))) m_value m_faultKind m_faultPlace m_faults m_seen m_areOdds m_opened m_depth m_counted m_eastBy m_northBy m_partBy m_wayFaults m_wayEast m_wayNorth m_olds m_wayMany m_oneOfSet m_twoOfSet m_farBy m_rowBy m_triedBy m_rowMany m_doneAt m_gotAt m_struckAt m_bestDeed m_misBy m_drawn m_ranSteps m_loops m_ran m_told1 m_isTold m_marks) rfl ?_
      refine wp_goto 81 d_Mo_ahead_105 (by decide) ?_
      have hy := ((u8_le (hb e)).mp h92).2
      rw [runL_1 hy] at hq
      exact ih (e + 1) (by omega) hq
set_option maxRecDepth 100000 in
set_option maxHeartbeats 4000000 in
theorem l_Mo_ahead_128 (hL : L ≤ 900) (hb : ∀ k, k < L → b8 (m_text k)) {p : Nat} {w1 : Option Value} : ∀ (n i : Nat), p + i + n = L → WP Γ M_Mo_ahead 2 0 0 (hM m_at m_names m_status m_top m_bottom m_sort m_trayMany m_trays m_tape m_text m_taped ((nI L)) m_token m_from ((nI (p + (i + runL isDi m_text n (p + i))))) ((vdF m_text L p (i + runL isDi m_text n (p + i)))) m_faultKind m_faultPlace m_faults m_seen m_areOdds m_opened m_depth m_counted m_eastBy m_northBy m_partBy m_wayFaults m_wayEast m_wayNorth m_olds m_wayMany m_oneOfSet m_twoOfSet m_farBy m_rowBy m_triedBy m_rowMany m_doneAt m_gotAt m_struckAt m_bestDeed m_misBy m_drawn m_ranSteps m_loops m_ran m_told1 m_isTold m_marks) 183 [some (.ref 0), w1] [] Q → WP Γ M_Mo_ahead 2 0 0 (hM m_at m_names m_status m_top m_bottom m_sort m_trayMany m_trays m_tape m_text m_taped ((nI L)) m_token m_from ((nI (p + i))) ((vdF m_text L p i)) m_faultKind m_faultPlace m_faults m_seen m_areOdds m_opened m_depth m_counted m_eastBy m_northBy m_partBy m_wayFaults m_wayEast m_wayNorth m_olds m_wayMany m_oneOfSet m_twoOfSet m_farBy m_rowBy m_triedBy m_rowMany m_doneAt m_gotAt m_struckAt m_bestDeed m_misBy m_drawn m_ranSteps m_loops m_ran m_told1 m_isTold m_marks) 128 [some (.ref 0), w1] [] Q := by
  intro n
  induction n with
  | zero =>
    intro i he hq
    refine wp_aload_n 129 d_Mo_ahead_128 rfl rfl ?_
    refine wp_aload_n 130 d_Mo_ahead_129 rfl rfl ?_
    refine wp_getfield 133 12 14 d_Mo_ahead_130 rfl fl_Mo_144 rfl rfl ?_
    refine wp_V1 136 M_Mo_byteAt 1 d_Mo_ahead_133 rfl mv_Mo_byteAt lk_Mo_147 rfl rfl rfl rfl rfl ?_
    refine c_Mo_byteAt (L := L) (k := p + i) hL (by omega) ?_
    refine kI ?_
    refine wp_S1 139 M_Mo_isDigit 1 d_Mo_ahead_136 rfl ms_Mo_isDigit lk_Mo_162 rfl rfl ?_
    refine c_Mo_isDigit ?_
    refine kI ?_
    (first | refine wp_ifP_eq 183 142 d_Mo_ahead_139 rfl (by decide) (fun h139 => ?_) (fun h139 => ?_) | refine wp_if_eq 183 142 d_Mo_ahead_139 rfl (by decide) (fun h139 => ?_) (fun h139 => ?_))
    · exact hq
    · exact absurd ((u8_di (hb (p + i))).mp h139) (fun z => by have := z.1; omega)
  | succ n ih =>
    intro i he hq
    refine wp_aload_n 129 d_Mo_ahead_128 rfl rfl ?_
    refine wp_aload_n 130 d_Mo_ahead_129 rfl rfl ?_
    refine wp_getfield 133 12 14 d_Mo_ahead_130 rfl fl_Mo_144 rfl rfl ?_
    refine wp_V1 136 M_Mo_byteAt 1 d_Mo_ahead_133 rfl mv_Mo_byteAt lk_Mo_147 rfl rfl rfl rfl rfl ?_
    refine c_Mo_byteAt (L := L) (k := p + i) hL (by omega) ?_
    refine kI ?_
    refine wp_S1 139 M_Mo_isDigit 1 d_Mo_ahead_136 rfl ms_Mo_isDigit lk_Mo_162 rfl rfl ?_
    refine c_Mo_isDigit ?_
    refine kI ?_
    (first | refine wp_ifP_eq 183 142 d_Mo_ahead_139 rfl (by decide) (fun h139 => ?_) (fun h139 => ?_) | refine wp_if_eq 183 142 d_Mo_ahead_139 rfl (by decide) (fun h139 => ?_) (fun h139 => ?_))
    · have hn : ¬ isDi (m_text (p + i)) := fun z => h139 ((u8_di (hb (p + i))).mpr ⟨by omega, z⟩)
      rw [runL_0 hn] at hq
      exact hq
    · refine wp_aload_n 143 d_Mo_ahead_142 rfl rfl ?_
      refine wp_ldc 145 (100000 : Int32) d_Mo_ahead_143 rfl ct_Mo_165 ?_
      refine wp_bipush 147 10 d_Mo_ahead_145 rfl (by decide) ?_
      refine wp_aload_n 148 d_Mo_ahead_147 rfl rfl ?_
      refine wp_getfield 151 12 15 d_Mo_ahead_148 rfl fl_Mo_153 rfl rfl ?_
      refine wp_imul 152 d_Mo_ahead_151 rfl ?_
      refine wp_aload_n 153 d_Mo_ahead_152 rfl rfl ?_
      refine wp_aload_n 154 d_Mo_ahead_153 rfl rfl ?_
      refine wp_getfield 157 12 14 d_Mo_ahead_154 rfl fl_Mo_144 rfl rfl ?_
      refine wp_V1 160 M_Mo_byteAt 1 d_Mo_ahead_157 rfl mv_Mo_byteAt lk_Mo_147 rfl rfl rfl rfl rfl ?_
      refine c_Mo_byteAt (L := L) (k := p + i) hL (by omega) ?_
      refine kI ?_
      refine wp_iadd 161 d_Mo_ahead_160 rfl ?_
      refine wp_bipush 163 48 d_Mo_ahead_161 rfl (by decide) ?_
      refine wp_isub 164 d_Mo_ahead_163 rfl ?_
      refine wp_S2 167 M_JMath_min 1 d_Mo_ahead_164 rfl ms_JMath_min lk_Mo_166 rfl rfl ?_
      refine c_JMath_min ?_
      refine kI ?_
      refine wp_putfield 170 12 15 _ d_Mo_ahead_167 rfl fp_Mo_153 rfl rfl (okP_int _) ?_
      refine hEq (hM m_at m_names m_status m_top m_bottom m_sort m_trayMany m_trays m_tape m_text m_taped ((nI L)) m_token m_from ((nI (p + i))) ((vdF m_text L p (i + 1))) m_faultKind m_faultPlace m_faults m_seen m_areOdds m_opened m_depth m_counted m_eastBy m_northBy m_partBy m_wayFaults m_wayEast m_wayNorth m_olds m_wayMany m_oneOfSet m_twoOfSet m_farBy m_rowBy m_triedBy m_rowMany m_doneAt m_gotAt m_struckAt m_bestDeed m_misBy m_drawn m_ranSteps m_loops m_ran m_told1 m_isTold m_marks) rfl ?_
      refine wp_aload_n 171 d_Mo_ahead_170 rfl rfl ?_
      refine wp_dup 172 d_Mo_ahead_171 rfl rfl ?_
      refine wp_getfield 175 12 14 d_Mo_ahead_172 rfl fl_Mo_144 rfl rfl ?_
      refine wp_iconst 176 1 d_Mo_ahead_175 rfl (by decide) ?_
      refine wp_iadd 177 d_Mo_ahead_176 rfl ?_
      rw [nI_1]
      refine wp_putfield 180 12 14 _ d_Mo_ahead_177 rfl fp_Mo_144 rfl rfl (okP_int _) ?_
      refine hEq (hM m_at m_names m_status m_top m_bottom m_sort m_trayMany m_trays m_tape m_text m_taped ((nI L)) m_token m_from ((nI (p + (i + 1)))) ((vdF m_text L p (i + 1))) m_faultKind m_faultPlace m_faults m_seen m_areOdds m_opened m_depth m_counted m_eastBy m_northBy m_partBy m_wayFaults m_wayEast m_wayNorth m_olds m_wayMany m_oneOfSet m_twoOfSet m_farBy m_rowBy m_triedBy m_rowMany m_doneAt m_gotAt m_struckAt m_bestDeed m_misBy m_drawn m_ranSteps m_loops m_ran m_told1 m_isTold m_marks) rfl ?_
      refine wp_goto 128 d_Mo_ahead_180 (by decide) ?_
      have hy := ((u8_di (hb (p + i))).mp h139).2
      rw [show i + runL isDi m_text (n + 1) (p + i) = i + 1 + runL isDi m_text n (p + (i + 1)) from by have := runL_1 (n := n) hy; have e2 : p + i + 1 = p + (i + 1) := rfl; rw [e2] at this; omega] at hq
      exact ih (i + 1) (by omega) hq
set_option maxRecDepth 100000 in
set_option maxHeartbeats 4000000 in
theorem l_Mo_ahead_39 (hL : L ≤ 900) (hb : ∀ k, k < L → b8 (m_text k)) {p : Nat} {w1 : Option Value} (hp : p ≤ L) (hq : Q none (hM m_at m_names m_status m_top m_bottom m_sort m_trayMany m_trays m_tape m_text m_taped ((nI L)) ((ahG m_text L p).1) ((nI (ahG m_text L p).2.1)) ((nI (ahG m_text L p).2.2.1)) ((ahG m_text L p).2.2.2) m_faultKind m_faultPlace m_faults m_seen m_areOdds m_opened m_depth m_counted m_eastBy m_northBy m_partBy m_wayFaults m_wayEast m_wayNorth m_olds m_wayMany m_oneOfSet m_twoOfSet m_farBy m_rowBy m_triedBy m_rowMany m_doneAt m_gotAt m_struckAt m_bestDeed m_misBy m_drawn m_ranSteps m_loops m_ran m_told1 m_isTold m_marks)) : WP Γ M_Mo_ahead 2 0 0 (hM m_at m_names m_status m_top m_bottom m_sort m_trayMany m_trays m_tape m_text m_taped ((nI L)) m_token m_from ((nI p)) m_value m_faultKind m_faultPlace m_faults m_seen m_areOdds m_opened m_depth m_counted m_eastBy m_northBy m_partBy m_wayFaults m_wayEast m_wayNorth m_olds m_wayMany m_oneOfSet m_twoOfSet m_farBy m_rowBy m_triedBy m_rowMany m_doneAt m_gotAt m_struckAt m_bestDeed m_misBy m_drawn m_ranSteps m_loops m_ran m_told1 m_isTold m_marks) 39 [some (.ref 0), w1] [] Q := by
  refine wp_aload_n 40 d_Mo_ahead_39 rfl rfl ?_
  refine wp_aload_n 41 d_Mo_ahead_40 rfl rfl ?_
  refine wp_getfield 44 12 14 d_Mo_ahead_41 rfl fl_Mo_144 rfl rfl ?_
  refine wp_putfield 47 12 13 _ d_Mo_ahead_44 rfl fp_Mo_150 rfl rfl (okP_int _) ?_
  refine hEq (hM m_at m_names m_status m_top m_bottom m_sort m_trayMany m_trays m_tape m_text m_taped ((nI L)) m_token ((nI p)) ((nI p)) m_value m_faultKind m_faultPlace m_faults m_seen m_areOdds m_opened m_depth m_counted m_eastBy m_northBy m_partBy m_wayFaults m_wayEast m_wayNorth m_olds m_wayMany m_oneOfSet m_twoOfSet m_farBy m_rowBy m_triedBy m_rowMany m_doneAt m_gotAt m_struckAt m_bestDeed m_misBy m_drawn m_ranSteps m_loops m_ran m_told1 m_isTold m_marks) rfl ?_
  refine wp_aload_n 48 d_Mo_ahead_47 rfl rfl ?_
  refine wp_aload_n 49 d_Mo_ahead_48 rfl rfl ?_
  refine wp_getfield 52 12 14 d_Mo_ahead_49 rfl fl_Mo_144 rfl rfl ?_
  refine wp_V1 55 M_Mo_byteAt 1 d_Mo_ahead_52 rfl mv_Mo_byteAt lk_Mo_147 rfl rfl rfl rfl rfl ?_
  refine c_Mo_byteAt (L := L) (k := p) hL (by omega) ?_
  refine kI ?_
  refine wp_istore_1 56 d_Mo_ahead_55 rfl rfl rfl ?_
  refine wp_aload_n 57 d_Mo_ahead_56 rfl rfl ?_
  refine wp_iload_n 58 d_Mo_ahead_57 rfl rfl ?_
  refine wp_putfield 61 12 15 _ d_Mo_ahead_58 rfl fp_Mo_153 rfl rfl (okP_int _) ?_
  refine hEq (hM m_at m_names m_status m_top m_bottom m_sort m_trayMany m_trays m_tape m_text m_taped ((nI L)) m_token ((nI p)) ((nI p)) ((u8 m_text L p)) m_faultKind m_faultPlace m_faults m_seen m_areOdds m_opened m_depth m_counted m_eastBy m_northBy m_partBy m_wayFaults m_wayEast m_wayNorth m_olds m_wayMany m_oneOfSet m_twoOfSet m_farBy m_rowBy m_triedBy m_rowMany m_doneAt m_gotAt m_struckAt m_bestDeed m_misBy m_drawn m_ranSteps m_loops m_ran m_told1 m_isTold m_marks) rfl ?_
  refine wp_iload_n 62 d_Mo_ahead_61 rfl rfl ?_
  refine wp_iconst 63 (-1) d_Mo_ahead_62 rfl (by decide) ?_
  refine wp_icmp_ne 74 66 d_Mo_ahead_63 rfl (by decide) (fun h63 => ?_) (fun h63 => ?_)
  · have hp2 : p < L := Decidable.byContradiction (fun z => h63 ((u8_n (hb p)).mpr z))
    refine wp_iload_n 75 d_Mo_ahead_74 rfl rfl ?_
    refine wp_S1 78 M_Mo_isSmall 1 d_Mo_ahead_75 rfl ms_Mo_isSmall lk_Mo_159 rfl rfl ?_
    refine c_Mo_isSmall ?_
    refine kI ?_
    (first | refine wp_ifP_eq 116 81 d_Mo_ahead_78 rfl (by decide) (fun h78 => ?_) (fun h78 => ?_) | refine wp_if_eq 116 81 d_Mo_ahead_78 rfl (by decide) (fun h78 => ?_) (fun h78 => ?_))
    · refine wp_iload_n 117 d_Mo_ahead_116 rfl rfl ?_
      refine wp_S1 120 M_Mo_isDigit 1 d_Mo_ahead_117 rfl ms_Mo_isDigit lk_Mo_162 rfl rfl ?_
      refine c_Mo_isDigit ?_
      refine kI ?_
      (first | refine wp_ifP_eq 208 123 d_Mo_ahead_120 rfl (by decide) (fun h120 => ?_) (fun h120 => ?_) | refine wp_if_eq 208 123 d_Mo_ahead_120 rfl (by decide) (fun h120 => ?_) (fun h120 => ?_))
      · refine wp_aload_n 209 d_Mo_ahead_208 rfl rfl ?_
        refine wp_dup 210 d_Mo_ahead_209 rfl rfl ?_
        refine wp_getfield 213 12 14 d_Mo_ahead_210 rfl fl_Mo_144 rfl rfl ?_
        refine wp_iconst 214 1 d_Mo_ahead_213 rfl (by decide) ?_
        refine wp_iadd 215 d_Mo_ahead_214 rfl ?_
        rw [nI_1]
        refine wp_putfield 218 12 14 _ d_Mo_ahead_215 rfl fp_Mo_144 rfl rfl (okP_int _) ?_
        refine hEq (hM m_at m_names m_status m_top m_bottom m_sort m_trayMany m_trays m_tape m_text m_taped ((nI L)) m_token ((nI p)) ((nI (p + 1))) ((u8 m_text L p)) m_faultKind m_faultPlace m_faults m_seen m_areOdds m_opened m_depth m_counted m_eastBy m_northBy m_partBy m_wayFaults m_wayEast m_wayNorth m_olds m_wayMany m_oneOfSet m_twoOfSet m_farBy m_rowBy m_triedBy m_rowMany m_doneAt m_gotAt m_struckAt m_bestDeed m_misBy m_drawn m_ranSteps m_loops m_ran m_told1 m_isTold m_marks) rfl ?_
        refine wp_aload_n 219 d_Mo_ahead_218 rfl rfl ?_
        refine wp_iload_n 220 d_Mo_ahead_219 rfl rfl ?_
        refine wp_bipush 222 59 d_Mo_ahead_220 rfl (by decide) ?_
        refine wp_icmp_eq 243 225 d_Mo_ahead_222 rfl (by decide) (fun h222 => ?_) (fun h222 => ?_)
        · refine wp_iconst 244 4 d_Mo_ahead_243 rfl (by decide) ?_
          refine wp_goto 248 d_Mo_ahead_244 (by decide) ?_
          refine wp_putfield 251 12 12 _ d_Mo_ahead_248 rfl fp_Mo_156 rfl rfl (okP_int _) ?_
          dsimp only [List.set]
          refine wp_return d_Mo_ahead_251 rfl ?_
          have e : ahG m_text L p = (4, p, p + 1, u8 m_text L p) := by unfold ahG; rw [if_neg (fun z => z hp2), if_neg (fun z => h78 ((u8_le (hb p)).mpr ⟨hp2, z⟩)), if_neg (fun z => h120 ((u8_di (hb p)).mpr ⟨hp2, z⟩)), if_pos (Or.inl h222)]
          rw [e] at hq
          exact hq
        · refine wp_iload_n 226 d_Mo_ahead_225 rfl rfl ?_
          refine wp_bipush 228 60 d_Mo_ahead_226 rfl (by decide) ?_
          refine wp_icmp_eq 243 231 d_Mo_ahead_228 rfl (by decide) (fun h228 => ?_) (fun h228 => ?_)
          · refine wp_iconst 244 4 d_Mo_ahead_243 rfl (by decide) ?_
            refine wp_goto 248 d_Mo_ahead_244 (by decide) ?_
            refine wp_putfield 251 12 12 _ d_Mo_ahead_248 rfl fp_Mo_156 rfl rfl (okP_int _) ?_
            dsimp only [List.set]
            refine wp_return d_Mo_ahead_251 rfl ?_
            have e : ahG m_text L p = (4, p, p + 1, u8 m_text L p) := by unfold ahG; rw [if_neg (fun z => z hp2), if_neg (fun z => h78 ((u8_le (hb p)).mpr ⟨hp2, z⟩)), if_neg (fun z => h120 ((u8_di (hb p)).mpr ⟨hp2, z⟩)), if_pos (Or.inr (Or.inl h228))]
            rw [e] at hq
            exact hq
          · refine wp_iload_n 232 d_Mo_ahead_231 rfl rfl ?_
            refine wp_bipush 234 62 d_Mo_ahead_232 rfl (by decide) ?_
            refine wp_icmp_eq 243 237 d_Mo_ahead_234 rfl (by decide) (fun h234 => ?_) (fun h234 => ?_)
            · refine wp_iconst 244 4 d_Mo_ahead_243 rfl (by decide) ?_
              refine wp_goto 248 d_Mo_ahead_244 (by decide) ?_
              refine wp_putfield 251 12 12 _ d_Mo_ahead_248 rfl fp_Mo_156 rfl rfl (okP_int _) ?_
              dsimp only [List.set]
              refine wp_return d_Mo_ahead_251 rfl ?_
              have e : ahG m_text L p = (4, p, p + 1, u8 m_text L p) := by unfold ahG; rw [if_neg (fun z => z hp2), if_neg (fun z => h78 ((u8_le (hb p)).mpr ⟨hp2, z⟩)), if_neg (fun z => h120 ((u8_di (hb p)).mpr ⟨hp2, z⟩)), if_pos (Or.inr (Or.inr (Or.inl h234)))]
              rw [e] at hq
              exact hq
            · refine wp_iload_n 238 d_Mo_ahead_237 rfl rfl ?_
              refine wp_bipush 240 61 d_Mo_ahead_238 rfl (by decide) ?_
              refine wp_icmp_ne 247 243 d_Mo_ahead_240 rfl (by decide) (fun h240 => ?_) (fun h240 => ?_)
              · refine wp_iconst 248 1 d_Mo_ahead_247 rfl (by decide) ?_
                refine wp_putfield 251 12 12 _ d_Mo_ahead_248 rfl fp_Mo_156 rfl rfl (okP_int _) ?_
                dsimp only [List.set]
                refine wp_return d_Mo_ahead_251 rfl ?_
                have e : ahG m_text L p = (1, p, p + 1, u8 m_text L p) := by unfold ahG; rw [if_neg (fun z => z hp2), if_neg (fun z => h78 ((u8_le (hb p)).mpr ⟨hp2, z⟩)), if_neg (fun z => h120 ((u8_di (hb p)).mpr ⟨hp2, z⟩)), if_neg (fun z => by rcases z with z | z | z | z; exact h222 z; exact h228 z; exact h234 z; exact h240 z)]
                rw [e] at hq
                exact hq
              · refine wp_iconst 244 4 d_Mo_ahead_243 rfl (by decide) ?_
                refine wp_goto 248 d_Mo_ahead_244 (by decide) ?_
                refine wp_putfield 251 12 12 _ d_Mo_ahead_248 rfl fp_Mo_156 rfl rfl (okP_int _) ?_
                dsimp only [List.set]
                refine wp_return d_Mo_ahead_251 rfl ?_
                have e : ahG m_text L p = (4, p, p + 1, u8 m_text L p) := by unfold ahG; rw [if_neg (fun z => z hp2), if_neg (fun z => h78 ((u8_le (hb p)).mpr ⟨hp2, z⟩)), if_neg (fun z => h120 ((u8_di (hb p)).mpr ⟨hp2, z⟩)), if_pos (Or.inr (Or.inr (Or.inr h240)))]
                rw [e] at hq
                exact hq
      · refine wp_aload_n 124 d_Mo_ahead_123 rfl rfl ?_
        refine wp_iconst 125 0 d_Mo_ahead_124 rfl (by decide) ?_
        refine wp_putfield 128 12 15 _ d_Mo_ahead_125 rfl fp_Mo_153 rfl rfl (okP_int _) ?_
        refine hEq (hM m_at m_names m_status m_top m_bottom m_sort m_trayMany m_trays m_tape m_text m_taped ((nI L)) m_token ((nI p)) ((nI p)) (0) m_faultKind m_faultPlace m_faults m_seen m_areOdds m_opened m_depth m_counted m_eastBy m_northBy m_partBy m_wayFaults m_wayEast m_wayNorth m_olds m_wayMany m_oneOfSet m_twoOfSet m_farBy m_rowBy m_triedBy m_rowMany m_doneAt m_gotAt m_struckAt m_bestDeed m_misBy m_drawn m_ranSteps m_loops m_ran m_told1 m_isTold m_marks) rfl ?_
        refine l_Mo_ahead_128 hL hb (p := p) (L - p) 0 (by omega) ?_
        simp only [Nat.zero_add, Nat.add_zero]
        refine wp_aload_n 184 d_Mo_ahead_183 rfl rfl ?_
        refine wp_aload_n 185 d_Mo_ahead_184 rfl rfl ?_
        refine wp_getfield 188 12 14 d_Mo_ahead_185 rfl fl_Mo_144 rfl rfl ?_
        refine wp_aload_n 189 d_Mo_ahead_188 rfl rfl ?_
        refine wp_getfield 192 12 13 d_Mo_ahead_189 rfl fl_Mo_150 rfl rfl ?_
        refine wp_isub 193 d_Mo_ahead_192 rfl ?_
        rw [nI_subN (by omega), show p + (runL isDi m_text (L - p) p) - p = (runL isDi m_text (L - p) p) by omega]
        refine wp_iconst 194 4 d_Mo_ahead_193 rfl (by decide) ?_
        refine wp_icmp_le 201 197 d_Mo_ahead_194 rfl (by decide) (fun h194 => ?_) (fun h194 => ?_)
        · refine wp_iconst 202 3 d_Mo_ahead_201 rfl (by decide) ?_
          refine wp_putfield 205 12 12 _ d_Mo_ahead_202 rfl fp_Mo_156 rfl rfl (okP_int _) ?_
          refine hEq (hM m_at m_names m_status m_top m_bottom m_sort m_trayMany m_trays m_tape m_text m_taped ((nI L)) (3) ((nI p)) ((nI (p + (runL isDi m_text (L - p) p)))) ((vdF m_text L p (runL isDi m_text (L - p) p))) m_faultKind m_faultPlace m_faults m_seen m_areOdds m_opened m_depth m_counted m_eastBy m_northBy m_partBy m_wayFaults m_wayEast m_wayNorth m_olds m_wayMany m_oneOfSet m_twoOfSet m_farBy m_rowBy m_triedBy m_rowMany m_doneAt m_gotAt m_struckAt m_bestDeed m_misBy m_drawn m_ranSteps m_loops m_ran m_told1 m_isTold m_marks) rfl ?_
          refine wp_goto 251 d_Mo_ahead_205 (by decide) ?_
          refine wp_return d_Mo_ahead_251 rfl ?_
          have e : ahG m_text L p = (3, p, p + (runL isDi m_text (L - p) p), vdF m_text L p (runL isDi m_text (L - p) p)) := by unfold ahG; rw [if_neg (fun z => z hp2), if_neg (fun z => h78 ((u8_le (hb p)).mpr ⟨hp2, z⟩)), if_pos ((u8_di (hb p)).mp h120).2, if_neg (show ¬ 4 < (runL isDi m_text (L - p) p) from fun z => by have := nI_leN (a := 4) h194 (by omega) (by have := runL_le (P := isDi) (b := m_text) (L - p) p; omega); omega)]
          rw [e] at hq
          exact hq
        · refine wp_iconst 198 1 d_Mo_ahead_197 rfl (by decide) ?_
          refine wp_goto 202 d_Mo_ahead_198 (by decide) ?_
          refine wp_putfield 205 12 12 _ d_Mo_ahead_202 rfl fp_Mo_156 rfl rfl (okP_int _) ?_
          refine hEq (hM m_at m_names m_status m_top m_bottom m_sort m_trayMany m_trays m_tape m_text m_taped ((nI L)) (1) ((nI p)) ((nI (p + (runL isDi m_text (L - p) p)))) ((vdF m_text L p (runL isDi m_text (L - p) p))) m_faultKind m_faultPlace m_faults m_seen m_areOdds m_opened m_depth m_counted m_eastBy m_northBy m_partBy m_wayFaults m_wayEast m_wayNorth m_olds m_wayMany m_oneOfSet m_twoOfSet m_farBy m_rowBy m_triedBy m_rowMany m_doneAt m_gotAt m_struckAt m_bestDeed m_misBy m_drawn m_ranSteps m_loops m_ran m_told1 m_isTold m_marks) rfl ?_
          refine wp_goto 251 d_Mo_ahead_205 (by decide) ?_
          refine wp_return d_Mo_ahead_251 rfl ?_
          have e : ahG m_text L p = (1, p, p + (runL isDi m_text (L - p) p), vdF m_text L p (runL isDi m_text (L - p) p)) := by unfold ahG; rw [if_neg (fun z => z hp2), if_neg (fun z => h78 ((u8_le (hb p)).mpr ⟨hp2, z⟩)), if_pos ((u8_di (hb p)).mp h120).2, if_pos (show 4 < (runL isDi m_text (L - p) p) from nI_nleN (b := (runL isDi m_text (L - p) p)) (a := 4) (fun z => h194 z) (by omega) (by have := runL_le (P := isDi) (b := m_text) (L - p) p; omega))]
          rw [e] at hq
          exact hq
    · refine l_Mo_ahead_81 hL hb (L - p) p (by omega) ?_
      refine wp_aload_n 109 d_Mo_ahead_108 rfl rfl ?_
      refine wp_iconst 110 2 d_Mo_ahead_109 rfl (by decide) ?_
      refine wp_putfield 113 12 12 _ d_Mo_ahead_110 rfl fp_Mo_156 rfl rfl (okP_int _) ?_
      refine hEq (hM m_at m_names m_status m_top m_bottom m_sort m_trayMany m_trays m_tape m_text m_taped ((nI L)) (2) ((nI p)) ((nI (p + (runL isLe m_text (L - p) p)))) ((u8 m_text L p)) m_faultKind m_faultPlace m_faults m_seen m_areOdds m_opened m_depth m_counted m_eastBy m_northBy m_partBy m_wayFaults m_wayEast m_wayNorth m_olds m_wayMany m_oneOfSet m_twoOfSet m_farBy m_rowBy m_triedBy m_rowMany m_doneAt m_gotAt m_struckAt m_bestDeed m_misBy m_drawn m_ranSteps m_loops m_ran m_told1 m_isTold m_marks) rfl ?_
      refine wp_goto 251 d_Mo_ahead_113 (by decide) ?_
      refine wp_return d_Mo_ahead_251 rfl ?_
      have e : ahG m_text L p = (2, p, p + (runL isLe m_text (L - p) p), u8 m_text L p) := by unfold ahG; rw [if_neg (fun z => z hp2), if_pos ((u8_le (hb p)).mp h78).2]
      rw [e] at hq
      exact hq
  · rw [h63]
    refine wp_aload_n 67 d_Mo_ahead_66 rfl rfl ?_
    refine wp_iconst 68 0 d_Mo_ahead_67 rfl (by decide) ?_
    refine wp_putfield 71 12 12 _ d_Mo_ahead_68 rfl fp_Mo_156 rfl rfl (okP_int _) ?_
    refine hEq (hM m_at m_names m_status m_top m_bottom m_sort m_trayMany m_trays m_tape m_text m_taped ((nI L)) (0) ((nI p)) ((nI p)) ((-1)) m_faultKind m_faultPlace m_faults m_seen m_areOdds m_opened m_depth m_counted m_eastBy m_northBy m_partBy m_wayFaults m_wayEast m_wayNorth m_olds m_wayMany m_oneOfSet m_twoOfSet m_farBy m_rowBy m_triedBy m_rowMany m_doneAt m_gotAt m_struckAt m_bestDeed m_misBy m_drawn m_ranSteps m_loops m_ran m_told1 m_isTold m_marks) rfl ?_
    refine wp_goto 251 d_Mo_ahead_71 (by decide) ?_
    refine wp_return d_Mo_ahead_251 rfl ?_
    have e : ahG m_text L p = (0, p, p, -1) := if_pos ((u8_n (hb p)).mp h63)
    rw [e] at hq
    exact hq
set_option maxRecDepth 100000 in
set_option maxHeartbeats 4000000 in
theorem c_Mo_ahead {e : Nat} (hL : L ≤ 900) (hb : ∀ k, k < L → b8 (m_text k)) (he : e ≤ L) (hq : Q none (hM m_at m_names m_status m_top m_bottom m_sort m_trayMany m_trays m_tape m_text m_taped ((nI L)) ((ahF m_text L e).1) ((nI (ahF m_text L e).2.1)) ((nI (ahF m_text L e).2.2.1)) ((ahF m_text L e).2.2.2) m_faultKind m_faultPlace m_faults m_seen m_areOdds m_opened m_depth m_counted m_eastBy m_northBy m_partBy m_wayFaults m_wayEast m_wayNorth m_olds m_wayMany m_oneOfSet m_twoOfSet m_farBy m_rowBy m_triedBy m_rowMany m_doneAt m_gotAt m_struckAt m_bestDeed m_misBy m_drawn m_ranSteps m_loops m_ran m_told1 m_isTold m_marks)) : Call Γ M_Mo_ahead 2 0 0 [.ref 0] (hM m_at m_names m_status m_top m_bottom m_sort m_trayMany m_trays m_tape m_text m_taped ((nI L)) m_token m_from ((nI e)) m_value m_faultKind m_faultPlace m_faults m_seen m_areOdds m_opened m_depth m_counted m_eastBy m_northBy m_partBy m_wayFaults m_wayEast m_wayNorth m_olds m_wayMany m_oneOfSet m_twoOfSet m_farBy m_rowBy m_triedBy m_rowMany m_doneAt m_gotAt m_struckAt m_bestDeed m_misBy m_drawn m_ranSteps m_loops m_ran m_told1 m_isTold m_marks) Q := by
  refine call_intro (ls := [some (.ref 0), none]) rfl rfl rfl ?_
  refine l_Mo_ahead_0 hL hb (L - e) e (by omega) ?_
  have := runL_le (P := isBl) (b := m_text) (L - e) e
  exact l_Mo_ahead_39 hL hb (by omega) hq
end TAD
