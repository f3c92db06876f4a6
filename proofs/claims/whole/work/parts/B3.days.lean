/-! ===== the reference: DAYS ===== -/
section TB3
variable {Γ : Gm} {Q : Option Value → LH → Prop} {m_at m_sort m_trayMany m_tape m_text m_opened m_eastBy m_northBy m_partBy m_wayFaults m_wayEast m_wayNorth m_olds m_farBy m_rowBy m_triedBy m_doneAt m_gotAt m_struckAt m_bestDeed m_loops m_ran m_told1 : Nat → Int32} {m_names m_trays m_misBy : Nat → Int64} {m_status m_taped m_size m_token m_from m_end m_value m_faultKind m_faultPlace m_faults m_seen m_areOdds m_depth m_counted m_wayMany m_oneOfSet m_twoOfSet m_rowMany m_drawn m_ranSteps m_isTold m_marks : Int32} {m_top m_bottom : Int64} {L : Nat} {K : TK} {t : TW} {y : DY} {s : CS}
set_option maxRecDepth 100000 in
set_option maxHeartbeats 4000000 in
theorem l_Mo_days_102 {v : Int32} (hf : m_faults = 0) (hq : ∀ a9 : Nat → Int32, (∀ j, 82 ≤ j → j < 442 → a9 j = m_at (1800 + j)) → (∀ j, ¬ (82 ≤ j ∧ j < 442) → a9 j = m_at j) → Q (some (.int m_counted)) (hM (a9) m_names (0) m_top m_bottom m_sort m_trayMany m_trays m_tape m_text m_taped m_size m_token m_from m_end m_value (0) m_faultPlace m_faults m_seen m_areOdds m_opened m_depth m_counted m_eastBy m_northBy m_partBy m_wayFaults m_wayEast m_wayNorth m_olds m_wayMany m_oneOfSet m_twoOfSet m_farBy m_rowBy m_triedBy m_rowMany m_doneAt m_gotAt m_struckAt m_bestDeed m_misBy m_drawn m_ranSteps m_loops m_ran m_told1 m_isTold m_marks)) : ∀ (n i : Nat) (a : Nat → Int32), i + n = 442 → 82 ≤ i → (∀ j, 82 ≤ j → j < i → a j = m_at (1800 + j)) → (∀ j, ¬ (82 ≤ j ∧ j < i) → a j = m_at j) → WP Γ M_Mo_days 12 0 0 (hM (a) m_names m_status m_top m_bottom m_sort m_trayMany m_trays m_tape m_text m_taped m_size m_token m_from m_end m_value m_faultKind m_faultPlace m_faults m_seen m_areOdds m_opened m_depth m_counted m_eastBy m_northBy m_partBy m_wayFaults m_wayEast m_wayNorth m_olds m_wayMany m_oneOfSet m_twoOfSet m_farBy m_rowBy m_triedBy m_rowMany m_doneAt m_gotAt m_struckAt m_bestDeed m_misBy m_drawn m_ranSteps m_loops m_ran m_told1 m_isTold m_marks) 102 [some (.ref 0), some (.int v), some (.int 1), some (.int (nI i))] [] Q := by
  intro n
  induction n with
  | zero =>
    intro i a hi hi1 h0 h1
    refine wp_iload_n 103 d_Mo_days_102 rfl rfl ?_
    refine wp_sipush 106 442 d_Mo_days_103 rfl (by decide) ?_
    refine wp_icmp_ge 131 109 d_Mo_days_106 rfl (by decide) (fun h106 => ?_) (fun h106 => ?_)
    · refine wp_aload_n 132 d_Mo_days_131 rfl rfl ?_
      refine wp_aload_n 133 d_Mo_days_132 rfl rfl ?_
      refine wp_getfield 136 12 23 d_Mo_days_133 rfl fl_Mo_269 rfl rfl ?_
      refine wp_V1 139 M_Mo_taken 2 d_Mo_days_136 rfl mv_Mo_taken lk_Mo_260 rfl rfl rfl rfl rfl ?_
      refine c_Mo_taken (fun t0 => ?_) (fun t1 => ?_)
      · refine kI ?_
        refine wp_ireturn d_Mo_days_139 rfl ?_
        obtain rfl : i = 442 := by omega
        subst hf
        exact hq a (fun j j1 j2 => h0 j j1 j2) h1
      · refine kI ?_
        refine wp_ireturn d_Mo_days_139 rfl ?_
        rw [hf] at t1
        exact absurd (show (0 : Int32) ≤ 0 by decide) t1
    · exact absurd (nI_ltN (b := 442) (Int32.not_le.mp h106) (by omega) (by omega)) (by omega)
  | succ n ih =>
    intro i a hi hi1 h0 h1
    refine wp_iload_n 103 d_Mo_days_102 rfl rfl ?_
    refine wp_sipush 106 442 d_Mo_days_103 rfl (by decide) ?_
    refine wp_icmp_ge 131 109 d_Mo_days_106 rfl (by decide) (fun h106 => ?_) (fun h106 => ?_)
    · exact absurd (nI_leN (b := 442) h106 (by omega) (by omega)) (by omega)
    · refine wp_aload_n 110 d_Mo_days_109 rfl rfl ?_
      refine wp_getfield 113 12 0 d_Mo_days_110 rfl fl_Mo_7 rfl rfl ?_
      refine wp_iload_n 114 d_Mo_days_113 rfl rfl ?_
      refine wp_aload_n 115 d_Mo_days_114 rfl rfl ?_
      refine wp_getfield 118 12 0 d_Mo_days_115 rfl fl_Mo_7 rfl rfl ?_
      refine wp_sipush 121 1800 d_Mo_days_118 rfl (by decide) ?_
      refine wp_iload_n 122 d_Mo_days_121 rfl rfl ?_
      refine wp_iadd 123 d_Mo_days_122 rfl ?_
      rw [show (1800 : Int32) + nI i = nI (1800 + i) from nI_add 1800 _]
      refine wp_ialoadN 124 d_Mo_days_123 rfl rfl rfl (by omega) ?_
      refine wp_iastoreN 125 d_Mo_days_124 rfl rfl rfl (by omega) ?_
      refine hEq (hM (upd a i (a (1800 + i))) m_names m_status m_top m_bottom m_sort m_trayMany m_trays m_tape m_text m_taped m_size m_token m_from m_end m_value m_faultKind m_faultPlace m_faults m_seen m_areOdds m_opened m_depth m_counted m_eastBy m_northBy m_partBy m_wayFaults m_wayEast m_wayNorth m_olds m_wayMany m_oneOfSet m_twoOfSet m_farBy m_rowBy m_triedBy m_rowMany m_doneAt m_gotAt m_struckAt m_bestDeed m_misBy m_drawn m_ranSteps m_loops m_ran m_told1 m_isTold m_marks) rfl ?_
      first | refine wp_iincN_3 128 d_Mo_days_125 rfl rfl rfl ?_ | refine wp_iinc_3 128 1 d_Mo_days_125 rfl (by decide) rfl rfl ?_
      refine wp_goto 102 d_Mo_days_128 (by decide) ?_
      refine ih (i + 1) (upd a i (a (1800 + i))) (by omega) (by omega) (fun j j1 j2 => ?_) (fun j hj => ?_)
      · by_cases z : j = i
        · rw [z, upd_at]; exact h1 _ (by omega)
        · rw [upd_ne z]; exact h0 j j1 (by omega)
      · rw [upd_ne (by omega)]; exact h1 j (by omega)
set_option maxRecDepth 100000 in
set_option maxHeartbeats 4000000 in
theorem l_Mo_days_57g {v : Int32} (hf : m_faults = 0) (hd : m_depth = 0) (hq : ∀ a9 : Nat → Int32, a9 7 = m_at 1807 → (∀ j, 82 ≤ j → j < 442 → a9 j = m_at (1800 + j)) → (∀ j, ¬ j = 7 → ¬ (82 ≤ j ∧ j < 442) → a9 j = m_at j) → Q (some (.int m_counted)) (hM (a9) m_names (0) m_top m_bottom m_sort m_trayMany m_trays m_tape m_text m_taped m_size m_token m_from m_end m_value (0) m_faultPlace m_faults m_seen m_areOdds m_opened m_depth m_counted m_eastBy m_northBy m_partBy m_wayFaults m_wayEast m_wayNorth m_olds m_wayMany m_oneOfSet m_twoOfSet m_farBy m_rowBy m_triedBy m_rowMany m_doneAt m_gotAt m_struckAt m_bestDeed m_misBy m_drawn m_ranSteps m_loops m_ran m_told1 m_isTold m_marks)) : WP Γ M_Mo_days 12 0 0 (hM m_at m_names m_status m_top m_bottom m_sort m_trayMany m_trays m_tape m_text m_taped m_size m_token m_from m_end m_value m_faultKind m_faultPlace m_faults m_seen m_areOdds m_opened m_depth m_counted m_eastBy m_northBy m_partBy m_wayFaults m_wayEast m_wayNorth m_olds m_wayMany m_oneOfSet m_twoOfSet m_farBy m_rowBy m_triedBy m_rowMany m_doneAt m_gotAt m_struckAt m_bestDeed m_misBy m_drawn m_ranSteps m_loops m_ran m_told1 m_isTold m_marks) 57 [some (.ref 0), some (.int v), some (.int 1), none] [] Q := by
  refine wp_aload_n 58 d_Mo_days_57 rfl rfl ?_
  refine wp_getfield 61 12 18 d_Mo_days_58 rfl fl_Mo_181 rfl rfl ?_
  refine wp_if_ne 77 64 d_Mo_days_61 rfl (by decide) (fun h61 => ?_) (fun h61 => ?_)
  · exact absurd hf h61
  · refine wp_aload_n 65 d_Mo_days_64 rfl rfl ?_
    refine wp_getfield 68 12 22 d_Mo_days_65 rfl fl_Mo_266 rfl rfl ?_
    refine wp_if_le 77 71 d_Mo_days_68 rfl (by decide) (fun h68 => ?_) (fun h68 => ?_)
    · refine wp_aload_n 78 d_Mo_days_77 rfl rfl ?_
      refine wp_getfield 81 12 18 d_Mo_days_78 rfl fl_Mo_181 rfl rfl ?_
      refine wp_if_ne 131 84 d_Mo_days_81 rfl (by decide) (fun h81 => ?_) (fun h81 => ?_)
      · exact absurd hf h81
      · refine wp_aload_n 85 d_Mo_days_84 rfl rfl ?_
        refine wp_getfield 88 12 0 d_Mo_days_85 rfl fl_Mo_7 rfl rfl ?_
        refine wp_bipush 90 7 d_Mo_days_88 rfl (by decide) ?_
        refine wp_aload_n 91 d_Mo_days_90 rfl rfl ?_
        refine wp_getfield 94 12 0 d_Mo_days_91 rfl fl_Mo_7 rfl rfl ?_
        refine wp_sipush 97 1807 d_Mo_days_94 rfl (by decide) ?_
        refine wp_iaload 98 d_Mo_days_97 rfl rfl (vp_in_nI (n := 1807) (N := 2332) (by omega) (by omega)) ?_
        refine wp_iastore 99 d_Mo_days_98 rfl rfl (vp_in_nI (n := 7) (N := 2332) (by omega) (by omega)) ?_
        refine hEq (hM ((upd m_at 7 (m_at 1807))) m_names m_status m_top m_bottom m_sort m_trayMany m_trays m_tape m_text m_taped m_size m_token m_from m_end m_value m_faultKind m_faultPlace m_faults m_seen m_areOdds m_opened m_depth m_counted m_eastBy m_northBy m_partBy m_wayFaults m_wayEast m_wayNorth m_olds m_wayMany m_oneOfSet m_twoOfSet m_farBy m_rowBy m_triedBy m_rowMany m_doneAt m_gotAt m_struckAt m_bestDeed m_misBy m_drawn m_ranSteps m_loops m_ran m_told1 m_isTold m_marks) rfl ?_
        refine wp_bipush 101 82 d_Mo_days_99 rfl (by decide) ?_
        refine wp_istore_3 102 d_Mo_days_101 rfl rfl rfl ?_
        refine l_Mo_days_102 (m_at := upd m_at 7 (m_at 1807)) hf (fun a9 g1 g2 => hq a9 ?_ (fun j j1 j2 => (g1 j j1 j2).trans (upd_ne (by omega))) (fun j j1 j2 => (g2 j j2).trans (upd_ne j1))) 360 82 _ rfl (by omega) (fun j j1 j2 => absurd j1 (by omega)) (fun _ _ => rfl)
        rw [g2 7 (by omega)]
        exact upd_at
    · rw [hd] at h68
      exact absurd (show (0 : Int32) ≤ 0 by decide) h68
set_option maxRecDepth 100000 in
set_option maxHeartbeats 4000000 in
theorem l_Mo_days_57b {v : Int32} (hf : 0 < m_faults) (hq : Q (some (.int (-1))) (hM m_at m_names (9) m_top m_bottom m_sort m_trayMany m_trays m_tape m_text m_taped m_size m_token m_from m_end m_value (m_faults) m_faultPlace m_faults m_seen m_areOdds m_opened m_depth m_counted m_eastBy m_northBy m_partBy m_wayFaults m_wayEast m_wayNorth m_olds m_wayMany m_oneOfSet m_twoOfSet m_farBy m_rowBy m_triedBy m_rowMany m_doneAt m_gotAt m_struckAt m_bestDeed m_misBy m_drawn m_ranSteps m_loops m_ran m_told1 m_isTold m_marks)) : WP Γ M_Mo_days 12 0 0 (hM m_at m_names m_status m_top m_bottom m_sort m_trayMany m_trays m_tape m_text m_taped m_size m_token m_from m_end m_value m_faultKind m_faultPlace m_faults m_seen m_areOdds m_opened m_depth m_counted m_eastBy m_northBy m_partBy m_wayFaults m_wayEast m_wayNorth m_olds m_wayMany m_oneOfSet m_twoOfSet m_farBy m_rowBy m_triedBy m_rowMany m_doneAt m_gotAt m_struckAt m_bestDeed m_misBy m_drawn m_ranSteps m_loops m_ran m_told1 m_isTold m_marks) 57 [some (.ref 0), some (.int v), some (.int 0), none] [] Q := by
  refine wp_aload_n 58 d_Mo_days_57 rfl rfl ?_
  refine wp_getfield 61 12 18 d_Mo_days_58 rfl fl_Mo_181 rfl rfl ?_
  refine wp_if_ne 77 64 d_Mo_days_61 rfl (by decide) (fun h61 => ?_) (fun h61 => ?_)
  · refine wp_aload_n 78 d_Mo_days_77 rfl rfl ?_
    refine wp_getfield 81 12 18 d_Mo_days_78 rfl fl_Mo_181 rfl rfl ?_
    refine wp_if_ne 131 84 d_Mo_days_81 rfl (by decide) (fun h81 => ?_) (fun h81 => ?_)
    · refine wp_aload_n 132 d_Mo_days_131 rfl rfl ?_
      refine wp_aload_n 133 d_Mo_days_132 rfl rfl ?_
      refine wp_getfield 136 12 23 d_Mo_days_133 rfl fl_Mo_269 rfl rfl ?_
      refine wp_V1 139 M_Mo_taken 2 d_Mo_days_136 rfl mv_Mo_taken lk_Mo_260 rfl rfl rfl rfl rfl ?_
      refine c_Mo_taken (fun t0 => ?_) (fun t1 => ?_)
      · refine kI ?_
        refine wp_ireturn d_Mo_days_139 rfl ?_
        exact absurd hf (Int32.not_lt.mpr t0)
      · refine kI ?_
        refine wp_ireturn d_Mo_days_139 rfl ?_
        exact hq
    · exact absurd (h81 ▸ hf) (by decide)
  · exact absurd (h61 ▸ hf) (by decide)
set_option maxRecDepth 100000 in
set_option maxHeartbeats 4000000 in
theorem l_Mo_days_57e {v : Int32} (hL : L ≤ 900) (hb : ∀ k, k < L → b8 (m_text k)) (T : TKs co0_ m_text L K) (ha : s.a < K.nT) (hf : m_faults = 0) (hd : 0 < m_depth) (hq : Q (some (.int (-1))) (hM m_at m_names (9) m_top m_bottom m_sort m_trayMany m_trays m_tape m_text m_taped ((nI L)) ((gtF m_text L s.a).1) ((nI (gtF m_text L s.a).2.1)) ((nI (gtF m_text L s.a).2.2.1)) ((gtF m_text L s.a).2.2.2) ((csK (K.ki s.a))) ((K.st s.a)) ((csK (K.ki s.a))) m_seen m_areOdds m_opened m_depth m_counted m_eastBy m_northBy m_partBy m_wayFaults m_wayEast m_wayNorth m_olds m_wayMany m_oneOfSet m_twoOfSet m_farBy m_rowBy m_triedBy m_rowMany m_doneAt m_gotAt m_struckAt m_bestDeed m_misBy m_drawn m_ranSteps m_loops m_ran m_told1 m_isTold m_marks)) : WP Γ M_Mo_days 12 0 0 (hM m_at m_names m_status m_top m_bottom m_sort m_trayMany m_trays m_tape m_text m_taped ((nI L)) ((gtF m_text L s.a).1) ((nI (gtF m_text L s.a).2.1)) ((nI (gtF m_text L s.a).2.2.1)) ((gtF m_text L s.a).2.2.2) m_faultKind m_faultPlace m_faults m_seen m_areOdds m_opened m_depth m_counted m_eastBy m_northBy m_partBy m_wayFaults m_wayEast m_wayNorth m_olds m_wayMany m_oneOfSet m_twoOfSet m_farBy m_rowBy m_triedBy m_rowMany m_doneAt m_gotAt m_struckAt m_bestDeed m_misBy m_drawn m_ranSteps m_loops m_ran m_told1 m_isTold m_marks) 57 [some (.ref 0), some (.int v), some (.int 1), none] [] Q := by
  refine wp_aload_n 58 d_Mo_days_57 rfl rfl ?_
  refine wp_getfield 61 12 18 d_Mo_days_58 rfl fl_Mo_181 rfl rfl ?_
  refine wp_if_ne 77 64 d_Mo_days_61 rfl (by decide) (fun h61 => ?_) (fun h61 => ?_)
  · exact absurd hf h61
  · refine wp_aload_n 65 d_Mo_days_64 rfl rfl ?_
    refine wp_getfield 68 12 22 d_Mo_days_65 rfl fl_Mo_266 rfl rfl ?_
    refine wp_if_le 77 71 d_Mo_days_68 rfl (by decide) (fun h68 => ?_) (fun h68 => ?_)
    · exact absurd hd (Int32.not_lt.mpr h68)
    · refine wp_aload_n 72 d_Mo_days_71 rfl rfl ?_
      refine wp_iconst 73 2 d_Mo_days_72 rfl (by decide) ?_
      refine wp_V1 76 M_Mo_fails 1 d_Mo_days_73 rfl mv_Mo_fails lk_Mo_193 rfl rfl rfl rfl rfl ?_
      refine k_fails2 (s := s) hL hb T ha hf ?_
      refine kI ?_
      refine wp_pop 77 d_Mo_days_76 rfl rfl ?_
      refine wp_aload_n 78 d_Mo_days_77 rfl rfl ?_
      refine wp_getfield 81 12 18 d_Mo_days_78 rfl fl_Mo_181 rfl rfl ?_
      refine wp_if_ne 131 84 d_Mo_days_81 rfl (by decide) (fun h81 => ?_) (fun h81 => ?_)
      · refine wp_aload_n 132 d_Mo_days_131 rfl rfl ?_
        refine wp_aload_n 133 d_Mo_days_132 rfl rfl ?_
        refine wp_getfield 136 12 23 d_Mo_days_133 rfl fl_Mo_269 rfl rfl ?_
        refine wp_V1 139 M_Mo_taken 2 d_Mo_days_136 rfl mv_Mo_taken lk_Mo_260 rfl rfl rfl rfl rfl ?_
        refine c_Mo_taken (fun t0 => ?_) (fun t1 => ?_)
        · refine kI ?_
          refine wp_ireturn d_Mo_days_139 rfl ?_
          exact absurd (csK_p (k := K.ki s.a)) (Int32.not_lt.mpr t0)
        · refine kI ?_
          refine wp_ireturn d_Mo_days_139 rfl ?_
          exact hq
      · exact absurd (h81 ▸ csK_p (k := K.ki s.a)) (by decide)
theorem dNR_nR {K : TK} {k x z : Int32} {s : CS} {y : DY} (h : (dNR K k x z s y).1 = true) : (dNR K k x z s y).2.2.nR = y.nR + 1 := by
  revert h
  unfold dNR
  split
  · intro _; rfl
  · intro z; exact absurd z Bool.false_ne_true
theorem dBe_nR {K : TK} {t : TW} {s : CS} {y : DY} (h : (dBe K t s y).1 = true) : (dBe K t s y).2.2.nR = y.nR + 1 := by
  revert h
  unfold dBe
  split
  · split
    · intro z; exact absurd z Bool.false_ne_true
    · split
      · intro _; rfl
      · intro z; exact absurd z Bool.false_ne_true
  · intro z; exact absurd z Bool.false_ne_true
theorem dTe_nR {K : TK} {t : TW} {s : CS} {y : DY} (h : (dTe K t s y).1 = true) : (dTe K t s y).2.2.nR = y.nR + 1 := by
  revert h
  unfold dTe
  split
  · unfold dAt
    split
    · split
      · intro z; exact absurd z Bool.false_ne_true
      · intro _; rfl
    · intro z; exact absurd z Bool.false_ne_true
  · split
    · intro _; rfl
    · split
      · exact dNR_nR
      · split
        · split
          · intro z; exact absurd z Bool.false_ne_true
          · exact dNR_nR
        · intro z; exact absurd z Bool.false_ne_true
theorem dTu_nR {K : TK} {t : TW} {s : CS} {y : DY} (h : (dTu K t s y).1 = true) : (dTu K t s y).2.2.nR = y.nR + 1 := by
  revert h
  unfold dTu
  split
  · unfold dEn
    split
    · intro _; rfl
    · intro z; exact absurd z Bool.false_ne_true
  · unfold dSt
    split
    · split
      · split
        · intro z; exact absurd z Bool.false_ne_true
        · unfold dS2
          split
          · exact dNR_nR (y := dSp y)
          · split
            · exact dNR_nR (y := dSp y)
            · split
              · exact dNR_nR (y := dSp y)
              · split
                · exact dBe_nR (y := dSp y)
                · split
                  · intro _; rfl
                  · split
                    · exact dTe_nR (y := dOp (dSp y))
                    · split
                      · exact dNR_nR (y := dOp (dSp y))
                      · intro _; rfl
      · intro z; exact absurd z Bool.false_ne_true
    · intro z; exact absurd z Bool.false_ne_true
set_option maxRecDepth 100000 in
set_option maxHeartbeats 4000000 in
theorem l_Mo_days_38 {v : Int32} {R : Bool × CS × DY} (hL : L ≤ 900) (hb : ∀ k, k < L → b8 (m_text k)) (T : TKs co0_ m_text L K) (hf : m_faults = 0) (V : vT m_at t) (N : NS m_names 0 t) (hq1 : (∀ (a2 op2 : Nat → Int32), R.1 = true → a2 1807 = nI R.2.2.nR → RDr t.nW a2 R.2.2 → WFP R.2.2 → R.2.2.nD = 0 → frO a2 m_at → WP Γ M_Mo_days 12 0 0 (hM (a2) m_names m_status m_top m_bottom m_sort m_trayMany m_trays m_tape m_text m_taped ((nI L)) ((gtF m_text L R.2.1.a).1) ((nI (gtF m_text L R.2.1.a).2.1)) ((nI (gtF m_text L R.2.1.a).2.2.1)) ((gtF m_text L R.2.1.a).2.2.2) m_faultKind m_faultPlace m_faults m_seen m_areOdds (op2) (0) ((nI R.2.2.nS)) m_eastBy m_northBy m_partBy m_wayFaults m_wayEast m_wayNorth m_olds m_wayMany m_oneOfSet m_twoOfSet m_farBy m_rowBy m_triedBy m_rowMany m_doneAt m_gotAt m_struckAt m_bestDeed m_misBy m_drawn m_ranSteps m_loops m_ran m_told1 m_isTold m_marks) 57 [some (.ref 0), some (.int v), some (.int 1), none] [] Q)) (hqe : (∀ (s : CS) (a2 op2 : Nat → Int32) (z5 z6 : Int32), ¬ R.1 = true → R.2.1 = cCs K s → s.a < K.nT → 0 < z5 → frO a2 m_at → WP Γ M_Mo_days 12 0 0 (hM (a2) m_names m_status m_top m_bottom m_sort m_trayMany m_trays m_tape m_text m_taped ((nI L)) ((gtF m_text L s.a).1) ((nI (gtF m_text L s.a).2.1)) ((nI (gtF m_text L s.a).2.2.1)) ((gtF m_text L s.a).2.2.2) m_faultKind m_faultPlace m_faults m_seen m_areOdds (op2) (z5) (z6) m_eastBy m_northBy m_partBy m_wayFaults m_wayEast m_wayNorth m_olds m_wayMany m_oneOfSet m_twoOfSet m_farBy m_rowBy m_triedBy m_rowMany m_doneAt m_gotAt m_struckAt m_bestDeed m_misBy m_drawn m_ranSteps m_loops m_ran m_told1 m_isTold m_marks) 57 [some (.ref 0), some (.int v), some (.int 1), none] [] Q)) (hq0 : (∀ (a2 op2 : Nat → Int32) (z1 z2 z3 z4 z5 z6 : Int32), ¬ R.1 = true → frO a2 m_at → WP Γ M_Mo_days 12 0 0 (hM (a2) m_names m_status m_top m_bottom m_sort m_trayMany m_trays m_tape m_text m_taped ((nI L)) (z1) (z2) (z3) (z4) m_faultKind ((R.2.1).fp) ((R.2.1).fk) m_seen m_areOdds (op2) (z5) (z6) m_eastBy m_northBy m_partBy m_wayFaults m_wayEast m_wayNorth m_olds m_wayMany m_oneOfSet m_twoOfSet m_farBy m_rowBy m_triedBy m_rowMany m_doneAt m_gotAt m_struckAt m_bestDeed m_misBy m_drawn m_ranSteps m_loops m_ran m_told1 m_isTold m_marks) 57 [some (.ref 0), some (.int v), some (.int 0), none] [] Q)) : ∀ (N9 r : Nat), r < N9 → ∀ (s : CS) (y : DY) (a op : Nat → Int32), dpI K t r s y = R → 61 ≤ r + y.nR → DOk K s y → a 1807 = nI y.nR → RDr t.nW a y → WFP y → (∀ i, i < y.nD → op i = y.op i) → frO a m_at → WP Γ M_Mo_days 12 0 0 (hM (a) m_names m_status m_top m_bottom m_sort m_trayMany m_trays m_tape m_text m_taped ((nI L)) ((gtF m_text L s.a).1) ((nI (gtF m_text L s.a).2.1)) ((nI (gtF m_text L s.a).2.2.1)) ((gtF m_text L s.a).2.2.2) m_faultKind m_faultPlace m_faults m_seen m_areOdds (op) ((nI y.nD)) ((nI y.nS)) m_eastBy m_northBy m_partBy m_wayFaults m_wayEast m_wayNorth m_olds m_wayMany m_oneOfSet m_twoOfSet m_farBy m_rowBy m_triedBy m_rowMany m_doneAt m_gotAt m_struckAt m_bestDeed m_misBy m_drawn m_ranSteps m_loops m_ran m_told1 m_isTold m_marks) 38 [some (.ref 0), some (.int v), some (.int 1), none] [] Q := by
  intro N9
  induction N9 with
  | zero => intro r hr9; exact absurd hr9 (Nat.not_lt_zero _)
  | succ N9 ih0 =>
    intro r hr9 s y a op hR hm ok w7 RR W O f1
    have ih := fun r2 (h : r2 + 1 = r) => ih0 r2 (by omega)
    have ha := ok.1
    have A := ATk_of (s := s) hb T ha
    have o1 := ok.2.1
    have o2 := ok.2.2.1
    have o3 := ok.2.2.2.1
    have hr : ∃ r2, r = r2 + 1 := ⟨r - 1, by omega⟩
    refine wp_iload_n 39 d_Mo_days_38 rfl rfl ?_
    refine wp_if_eq 57 42 d_Mo_days_39 rfl (by decide) (fun h39 => ?_) (fun h39 => ?_)
    · exact absurd h39 (by decide)
    · refine wp_aload_n 43 d_Mo_days_42 rfl rfl ?_
      refine wp_getfield 46 12 12 d_Mo_days_43 rfl fl_Mo_156 rfl rfl ?_
      refine wp_if_eq 57 49 d_Mo_days_46 rfl (by decide) (fun h46 => ?_) (fun h46 => ?_)
      · obtain ⟨r2, rfl⟩ := hr
        have h0k : K.ki s.a = 0 := (ak_0 A).mpr h46
        have e : dpI K t (r2 + 1) s y = if y.nD = 0 then (true, s, y) else (false, cCs K s, y) := if_pos h0k
        rw [e] at hR
        by_cases c : y.nD = 0
        · rw [if_pos c] at hR
          subst hR
          rw [c]
          exact hq1 a op rfl w7 RR W c f1
        · rw [if_neg c] at hR
          subst hR
          exact hqe s a op _ _ Bool.false_ne_true rfl ha ((nI_ltI (a := 0) (by omega) (by omega)).mpr (by omega)) f1
      · refine wp_aload_n 50 d_Mo_days_49 rfl rfl ?_
        refine wp_V0 53 M_Mo_dayStep 11 d_Mo_days_50 rfl mv_Mo_dayStep lk_Mo_275 rfl rfl rfl rfl rfl ?_
        refine k_dayStep (m_at := a) (m_opened := op) (s := s) (t := t) (y := y) hL hb T ha hf (vT_82 V (fun j hj => f1 j (by omega))) N ok w7 RR W O (fun n1 a2 op2 v1 v2 v3 v4 v5 => ?_) (fun n8 a2 op2 z1 z2 z3 z4 z5 z6 v1 => ?_)
        · refine kI ?_
          refine wp_istore_2 54 d_Mo_days_53 rfl rfl rfl ?_
          refine wp_goto 38 d_Mo_days_54 (by decide) ?_
          obtain ⟨r2, rfl⟩ := hr
          have e := dpI_s (K := K) (t := t) (r := r2) (s := s) (y := y) (fun z => h46 ((ak_0 A).mp z))
          rw [if_pos n1] at e
          have ok2 := dUt_ok (t := t) ok
          have nR2 : (dUt K t s y).2.2.nR = y.nR + 1 := by
            have h1 := (dUt_1 n1).1
            rw [dUt_y rfl h1]
            exact dTu_nR h1
          exact ih r2 rfl _ _ a2 op2 (e.symm.trans hR) (by omega) ok2 v2 v3 v4 v5 (fun k hk => (v1 k hk).trans (f1 k hk))
        · refine kI ?_
          refine wp_istore_2 54 d_Mo_days_53 rfl rfl rfl ?_
          refine wp_goto 38 d_Mo_days_54 (by decide) ?_
          refine wp_iload_n 39 d_Mo_days_38 rfl rfl ?_
          refine wp_if_eq 57 42 d_Mo_days_39 rfl (by decide) (fun h39 => ?_) (fun h39 => ?_)
          · obtain ⟨r2, rfl⟩ := hr
            have e := dpI_s (K := K) (t := t) (r := r2) (s := s) (y := y) (fun z => h46 ((ak_0 A).mp z))
            rw [if_neg n8] at e
            rw [e] at hR
            subst hR
            exact hq0 a2 op2 _ _ _ _ _ _ n8 (fun k hk => (v1 k hk).trans (f1 k hk))
          · exact absurd rfl h39
set_option maxRecDepth 100000 in
set_option maxHeartbeats 4000000 in
theorem c_Mo_days {v : Int32} {n0 : Nat} {s0 : CS} {E : DW} {KK : Nat → TK} (hs0 : s0.a = 0) (hn : n0 ≤ 900) (hbt : ∀ k, k < n0 → b8 (m_tape k)) (hT : ∀ (L : Nat) (x : Nat → Int32), L ≤ n0 → (∀ j, j < L → x j = m_tape j) → TKs co0_ x L (KK L)) (V : vT m_at t) (N : NS m_names 0 t) (hE : ∀ j, vp_in (E.ds j) 60) (hq0 : ¬ (0 ≤ v ∧ v ≤ nI n0 ∧ v ≤ 300) → Q (some (.int (-1))) (hM m_at m_names (1) m_top m_bottom m_sort m_trayMany m_trays m_tape m_text ((nI n0)) m_size m_token m_from m_end m_value m_faultKind m_faultPlace m_faults m_seen m_areOdds m_opened m_depth m_counted m_eastBy m_northBy m_partBy m_wayFaults m_wayEast m_wayNorth m_olds m_wayMany m_oneOfSet m_twoOfSet m_farBy m_rowBy m_triedBy m_rowMany m_doneAt m_gotAt m_struckAt m_bestDeed m_misBy m_drawn m_ranSteps m_loops m_ran m_told1 m_isTold m_marks)) (hq9 : (∀ L, v = nI L → L ≤ n0 → L ≤ 300 → ¬ (dpI (KK L) t 301 s0 (dCl (dy0 E))).1 = true → ∀ (x a2 op2 : Nat → Int32) (z1 z2 z3 z4 z5 z6 : Int32), frO a2 m_at → Q (some (.int (-1))) (hM (a2) m_names (9) m_top m_bottom m_sort m_trayMany m_trays m_tape (x) (0) ((nI L)) (z1) (z2) (z3) (z4) (((dpI (KK L) t 301 s0 (dCl (dy0 E))).2.1).fk) (((dpI (KK L) t 301 s0 (dCl (dy0 E))).2.1).fp) (((dpI (KK L) t 301 s0 (dCl (dy0 E))).2.1).fk) (0) m_areOdds (op2) (z5) (z6) m_eastBy m_northBy m_partBy m_wayFaults m_wayEast m_wayNorth m_olds m_wayMany m_oneOfSet m_twoOfSet m_farBy m_rowBy m_triedBy m_rowMany m_doneAt m_gotAt m_struckAt m_bestDeed m_misBy m_drawn m_ranSteps m_loops m_ran m_told1 m_isTold m_marks))) (hq1 : (∀ L, v = nI L → L ≤ n0 → L ≤ 300 → (dpI (KK L) t 301 s0 (dCl (dy0 E))).1 = true → ∀ (x a2 op2 : Nat → Int32) (z1 z2 z3 z4 z5 z6 : Int32), vD t.nW a2 (dyD (dpI (KK L) t 301 s0 (dCl (dy0 E))).2.2) → (∀ k, k < 1800 → ¬ k = 7 → ¬ (82 ≤ k ∧ k < 442) → a2 k = m_at k) → Q (some (.int (nI (dpI (KK L) t 301 s0 (dCl (dy0 E))).2.2.nS))) (hM (a2) m_names (0) m_top m_bottom m_sort m_trayMany m_trays m_tape (x) (0) ((nI L)) (z1) (z2) (z3) (z4) (0) ((-1)) (0) (0) m_areOdds (op2) (z5) (z6) m_eastBy m_northBy m_partBy m_wayFaults m_wayEast m_wayNorth m_olds m_wayMany m_oneOfSet m_twoOfSet m_farBy m_rowBy m_triedBy m_rowMany m_doneAt m_gotAt m_struckAt m_bestDeed m_misBy m_drawn m_ranSteps m_loops m_ran m_told1 m_isTold m_marks))) : Call Γ M_Mo_days 12 0 0 [.ref 0, .int v] (hM m_at m_names m_status m_top m_bottom m_sort m_trayMany m_trays m_tape m_text ((nI n0)) m_size m_token m_from m_end m_value m_faultKind m_faultPlace m_faults m_seen m_areOdds m_opened m_depth m_counted m_eastBy m_northBy m_partBy m_wayFaults m_wayEast m_wayNorth m_olds m_wayMany m_oneOfSet m_twoOfSet m_farBy m_rowBy m_triedBy m_rowMany m_doneAt m_gotAt m_struckAt m_bestDeed m_misBy m_drawn m_ranSteps m_loops m_ran m_told1 m_isTold m_marks) Q := by
  refine call_intro (ls := [some (.ref 0), some (.int v), none, none]) rfl rfl rfl ?_
  refine wp_aload_n 1 d_Mo_days_0 rfl rfl ?_
  refine wp_iload_n 2 d_Mo_days_1 rfl rfl ?_
  refine wp_sipush 5 300 d_Mo_days_2 rfl (by decide) ?_
  refine wp_V2 8 M_Mo_begins 3 d_Mo_days_5 rfl mv_Mo_begins lk_Mo_253 rfl rfl rfl rfl rfl ?_
  refine c_Mo_begins (n := 0) (T := n0) (m9 := 300) hn (by omega) hbt (fun c0 => ?_) (fun L c1 c2 c3 x c4 c5 => ?_)
  · refine kI ?_
    refine wp_if_ne 17 11 d_Mo_days_8 rfl (by decide) (fun h8 => ?_) (fun h8 => ?_)
    · exact absurd rfl h8
    · refine wp_aload_n 12 d_Mo_days_11 rfl rfl ?_
      refine wp_iconst 13 1 d_Mo_days_12 rfl (by decide) ?_
      refine wp_V1 16 M_Mo_refuse 1 d_Mo_days_13 rfl mv_Mo_refuse lk_Mo_111 rfl rfl rfl rfl rfl ?_
      refine c_Mo_refuse ?_
      refine kI ?_
      refine wp_ireturn d_Mo_days_16 rfl ?_
      exact hq0 c0
  · refine kI ?_
    refine wp_if_ne 17 11 d_Mo_days_8 rfl (by decide) (fun h8 => ?_) (fun h8 => ?_)
    · refine wp_aload_n 18 d_Mo_days_17 rfl rfl ?_
      refine wp_getfield 21 12 0 d_Mo_days_18 rfl fl_Mo_7 rfl rfl ?_
      refine wp_sipush 24 1807 d_Mo_days_21 rfl (by decide) ?_
      refine wp_iconst 25 0 d_Mo_days_24 rfl (by decide) ?_
      refine wp_iastore 26 d_Mo_days_25 rfl rfl (vp_in_nI (n := 1807) (N := 2332) (by omega) (by omega)) ?_
      refine hEq (hM ((upd m_at 1807 0)) m_names m_status m_top m_bottom m_sort m_trayMany m_trays m_tape (x) (0) ((nI L)) ((gtF x L 0).1) ((nI (gtF x L 0).2.1)) ((nI (gtF x L 0).2.2.1)) ((gtF x L 0).2.2.2) m_faultKind ((-1)) (0) (0) m_areOdds m_opened m_depth m_counted m_eastBy m_northBy m_partBy m_wayFaults m_wayEast m_wayNorth m_olds m_wayMany m_oneOfSet m_twoOfSet m_farBy m_rowBy m_triedBy m_rowMany m_doneAt m_gotAt m_struckAt m_bestDeed m_misBy m_drawn m_ranSteps m_loops m_ran m_told1 m_isTold m_marks) rfl ?_
      refine wp_aload_n 27 d_Mo_days_26 rfl rfl ?_
      refine wp_iconst 28 0 d_Mo_days_27 rfl (by decide) ?_
      refine wp_putfield 31 12 22 _ d_Mo_days_28 rfl fp_Mo_266 rfl rfl (okP_int _) ?_
      refine hEq (hM ((upd m_at 1807 0)) m_names m_status m_top m_bottom m_sort m_trayMany m_trays m_tape (x) (0) ((nI L)) ((gtF x L 0).1) ((nI (gtF x L 0).2.1)) ((nI (gtF x L 0).2.2.1)) ((gtF x L 0).2.2.2) m_faultKind ((-1)) (0) (0) m_areOdds m_opened (0) m_counted m_eastBy m_northBy m_partBy m_wayFaults m_wayEast m_wayNorth m_olds m_wayMany m_oneOfSet m_twoOfSet m_farBy m_rowBy m_triedBy m_rowMany m_doneAt m_gotAt m_struckAt m_bestDeed m_misBy m_drawn m_ranSteps m_loops m_ran m_told1 m_isTold m_marks) rfl ?_
      refine wp_aload_n 32 d_Mo_days_31 rfl rfl ?_
      refine wp_iconst 33 0 d_Mo_days_32 rfl (by decide) ?_
      refine wp_putfield 36 12 23 _ d_Mo_days_33 rfl fp_Mo_269 rfl rfl (okP_int _) ?_
      refine hEq (hM ((upd m_at 1807 0)) m_names m_status m_top m_bottom m_sort m_trayMany m_trays m_tape (x) (0) ((nI L)) ((gtF x L 0).1) ((nI (gtF x L 0).2.1)) ((nI (gtF x L 0).2.2.1)) ((gtF x L 0).2.2.2) m_faultKind ((-1)) (0) (0) m_areOdds m_opened (0) (0) m_eastBy m_northBy m_partBy m_wayFaults m_wayEast m_wayNorth m_olds m_wayMany m_oneOfSet m_twoOfSet m_farBy m_rowBy m_triedBy m_rowMany m_doneAt m_gotAt m_struckAt m_bestDeed m_misBy m_drawn m_ranSteps m_loops m_ran m_told1 m_isTold m_marks) rfl ?_
      refine wp_iconst 37 1 d_Mo_days_36 rfl (by decide) ?_
      refine wp_istore_2 38 d_Mo_days_37 rfl rfl rfl ?_
      have hbx : ∀ k, k < L → b8 (x k) := fun k hk => by rw [c4 k hk]; exact hbt k (by omega)
      have T := hT L x c2 c4
      have hs1 : s0.a < (KK L).nT := by rw [hs0]; exact T.1.1
      have e0 : gtF x L 0 = gtF x L s0.a := by rw [hs0]
      have ok0 : DOk (KK L) s0 (dCl (dy0 E)) := ⟨hs1, Nat.le_refl _, Nat.zero_le _, Nat.zero_le _, fun j => v60 (n := 0) (by omega)⟩
      rw [e0]
      refine l_Mo_days_38 (m_text := x) (m_at := m_at) (m_faults := 0) (K := KK L) (L := L) (t := t) (R := (dpI (KK L) t 301 s0 (dCl (dy0 E)))) (by omega) hbx T rfl V N (fun a2 op2 r1 r2 r3 r4 r5 r6 => ?_) (fun s a2 op2 z5 z6 r1 r2 r3 r4 r6 => ?_) (fun a2 op2 z1 z2 z3 z4 z5 z6 r1 r6 => ?_) 302 301 (by omega) s0 (dCl (dy0 E)) (upd m_at 1807 0) m_opened rfl (by omega) ok0 upd_at (fun r hr => absurd hr (Nat.not_lt_zero _)) (WFP_0 rfl rfl) (fun i hi => absurd hi (Nat.not_lt_zero _)) (fun k hk => upd_ne (by omega))
      · refine l_Mo_days_57g rfl rfl (fun a9 g1 g2 g3 => ?_)
        have ok9 := (dpI_ok (t := t) 301 s0 (dCl (dy0 E)) ok0 hE).1
        have d9 : (dpI (KK L) t 301 s0 (dCl (dy0 E))).2.2.dth = 1 := dpI_dth 301 s0 (dCl (dy0 E))
        have k1 := ok9.2.1
        have k2 := ok9.2.2.1
        refine hq1 L c1 c2 c3 r1 x a9 op2 _ _ _ _ _ _ ⟨?_, fun _ => ⟨?_, fun r hr => ?_, WFP_D r4 r5⟩⟩ (fun k k1 k2 k3 => (g3 k k2 k3).trans (r6 k k1))
        · rw [g1, r2]
          show _ = if (dpI (KK L) t 301 s0 (dCl (dy0 E))).2.2.dth = 0 then -1 else nI (dpI (KK L) t 301 s0 (dCl (dy0 E))).2.2.nR
          rw [d9, if_neg (by decide)]
        · show (dpI (KK L) t 301 s0 (dCl (dy0 E))).2.2.nR ≤ 60
          omega
        · have hr2 : r < (dpI (KK L) t 301 s0 (dCl (dy0 E))).2.2.nR := hr
          refine ROW_mv (fun j hj => ?_) (r3 r hr)
          rw [g2 _ (by omega) (by omega)]
          congr 1
          omega
      · refine l_Mo_days_57e (K := KK L) (s := s) (by omega) hbx T r3 rfl r4 ?_
        have hz := hq9 L c1 c2 c3 r1 x a2 op2 (gtF x L s.a).1 (nI (gtF x L s.a).2.1) (nI (gtF x L s.a).2.2.1) (gtF x L s.a).2.2.2 z5 z6 r6
        rw [r2] at hz
        exact hz
      · refine l_Mo_days_57b (dpI_fk 301 s0 (dCl (dy0 E)) r1) ?_
        exact hq9 L c1 c2 c3 r1 x a2 op2 _ _ _ _ _ _ r6
    · exact absurd h8 (by decide)

end TB3
