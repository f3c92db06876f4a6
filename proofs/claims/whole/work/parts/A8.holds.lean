section TA8
variable {Γ : Gm} {Q : Option Value → LH → Prop} {m_at m_sort m_trayMany m_tape m_text m_opened m_eastBy m_northBy m_partBy m_wayFaults m_wayEast m_wayNorth m_olds m_farBy m_rowBy m_triedBy m_doneAt m_gotAt m_struckAt m_bestDeed m_loops m_ran m_told1 : Nat → Int32} {m_names m_trays m_misBy : Nat → Int64} {m_status m_taped m_size m_token m_from m_end m_value m_faultKind m_faultPlace m_faults m_seen m_areOdds m_depth m_counted m_wayMany m_oneOfSet m_twoOfSet m_rowMany m_drawn m_ranSteps m_isTold m_marks : Int32} {m_top m_bottom : Int64} {t : TW} {s : LSt}
set_option maxRecDepth 100000 in
set_option maxHeartbeats 4000000 in
theorem c_Mo_holds {p : Nat} {k f c : Int32} (V : vT m_at (tLt t s)) (hR : ROW t.nW m_at p k f c) (hp : p + 6 ≤ 2332) (hw : 1600 ≤ m_at p) (hq : ∀ sc : MS, Q (some (.int (hoV t.te t.fr t.to_ t.ea t.no t.nL t.nP s k f))) (hM m_at m_names m_status m_top m_bottom m_sort m_trayMany m_trays m_tape m_text m_taped m_size m_token m_from m_end m_value m_faultKind m_faultPlace m_faults m_seen m_areOdds m_opened m_depth m_counted (sc.2.1) (sc.2.2) (sc.1) m_wayFaults m_wayEast m_wayNorth m_olds m_wayMany m_oneOfSet m_twoOfSet m_farBy m_rowBy m_triedBy m_rowMany m_doneAt m_gotAt m_struckAt m_bestDeed m_misBy m_drawn m_ranSteps m_loops m_ran m_told1 m_isTold m_marks)) : Call Γ M_Mo_holds 8 0 0 [.ref 0, .int (nI p)] (hM m_at m_names m_status m_top m_bottom m_sort m_trayMany m_trays m_tape m_text m_taped m_size m_token m_from m_end m_value m_faultKind m_faultPlace m_faults m_seen m_areOdds m_opened m_depth m_counted m_eastBy m_northBy m_partBy m_wayFaults m_wayEast m_wayNorth m_olds m_wayMany m_oneOfSet m_twoOfSet m_farBy m_rowBy m_triedBy m_rowMany m_doneAt m_gotAt m_struckAt m_bestDeed m_misBy m_drawn m_ranSteps m_loops m_ran m_told1 m_isTold m_marks) Q := by
  refine call_intro (ls := [some (.ref 0), some (.int (nI p)), none, none]) rfl rfl rfl ?_
  refine wp_aload_n 1 d_Mo_holds_0 rfl rfl ?_
  refine wp_getfield 4 12 0 d_Mo_holds_1 rfl fl_Mo_7 rfl rfl ?_
  refine wp_iload_n 5 d_Mo_holds_4 rfl rfl ?_
  refine wp_iconst 6 1 d_Mo_holds_5 rfl (by decide) ?_
  refine wp_iadd 7 d_Mo_holds_6 rfl ?_
  rw [nI_1]
  refine wp_ialoadN 8 d_Mo_holds_7 rfl rfl rfl (by omega) ?_
  refine wp_istore_2 9 d_Mo_holds_8 rfl rfl rfl ?_
  refine wp_aload_n 10 d_Mo_holds_9 rfl rfl ?_
  refine wp_getfield 13 12 0 d_Mo_holds_10 rfl fl_Mo_7 rfl rfl ?_
  refine wp_iload_n 14 d_Mo_holds_13 rfl rfl ?_
  refine wp_ialoadN 15 d_Mo_holds_14 rfl rfl rfl (by omega) ?_
  refine wp_sipush 18 1600 d_Mo_holds_15 rfl (by decide) ?_
  refine wp_isub 19 d_Mo_holds_18 rfl ?_
  by_cases h19_0 : m_at p - 1600 = 20
  · refine wp_tabIn (off := 25) 44 20 d_Mo_holds_19 h19_0 (by decide) (by decide) (by decide) (by decide) ?_
    obtain ⟨rfl, hr2⟩ := ROW_h20 hR hw h19_0
    rw [show m_at (p + 1) = f from hr2]
    refine wp_aload_n 45 d_Mo_holds_44 rfl rfl ?_
    refine wp_getfield 48 12 0 d_Mo_holds_45 rfl fl_Mo_7 rfl rfl ?_
    refine wp_iconst 49 4 d_Mo_holds_48 rfl (by decide) ?_
    refine wp_iaload 50 d_Mo_holds_49 rfl rfl (vp_in_nI (n := 4) (N := 2332) (by omega) (by omega)) ?_
    rw [show m_at (4 : Int32).toNatClampNeg = s.2.2.1 from V.sd]
    refine wp_iload_n 51 d_Mo_holds_50 rfl rfl ?_
    refine wp_icmp_ne 58 54 d_Mo_holds_51 rfl (by decide) (fun h51 => ?_) (fun h51 => ?_)
    · refine wp_iconst 59 0 d_Mo_holds_58 rfl (by decide) ?_
      refine wp_zreturn d_Mo_holds_59 rfl (by first | rfl | exact nbP _) ?_
      have e : hoV t.te t.fr t.to_ t.ea t.no t.nL t.nP s 8 f = 0 := (if_pos rfl).trans (bP_f h51)
      have h9_ := hq (m_partBy, m_eastBy, m_northBy)
      rw [e] at h9_
      exact h9_
    · refine wp_iconst 55 1 d_Mo_holds_54 rfl (by decide) ?_
      refine wp_goto 59 d_Mo_holds_55 (by decide) ?_
      refine wp_zreturn d_Mo_holds_59 rfl (by first | rfl | exact nbP _) ?_
      have e : hoV t.te t.fr t.to_ t.ea t.no t.nL t.nP s 8 f = 1 := (if_pos rfl).trans (bP_t h51)
      have h9_ := hq (m_partBy, m_eastBy, m_northBy)
      rw [e] at h9_
      exact h9_
  by_cases h19_1 : m_at p - 1600 = 21
  · refine wp_tabIn (off := 41) 60 21 d_Mo_holds_19 h19_1 (by decide) (by decide) (by decide) (by decide) ?_
    obtain rfl := ROW_h21 hR hw h19_1
    refine wp_aload_n 61 d_Mo_holds_60 rfl rfl ?_
    refine wp_V0 64 M_Mo_isClosed 7 d_Mo_holds_61 rfl mv_Mo_isClosed lk_Mo_337 rfl rfl rfl rfl rfl ?_
    refine c_Mo_isClosed V (fun s2 h2 => ?_)
    refine kI ?_
    refine wp_zreturn d_Mo_holds_64 rfl (by first | rfl | exact nbP _) ?_
    have e : hoV t.te t.fr t.to_ t.ea t.no t.nL t.nP s 9 f = bP (tClo (tLt t s)) := (if_neg (by decide)).trans ((if_pos rfl).trans (rfl))
    have h9_ := hq s2
    rw [e] at h9_
    exact h9_
  by_cases h19_2 : m_at p - 1600 = 22
  · refine wp_tabIn (off := 46) 65 22 d_Mo_holds_19 h19_2 (by decide) (by decide) (by decide) (by decide) ?_
    obtain ⟨rfl, hr2⟩ := ROW_h22 hR hw h19_2
    rw [show m_at (p + 1) = f from hr2]
    refine wp_aload_n 66 d_Mo_holds_65 rfl rfl ?_
    refine wp_iconst 67 0 d_Mo_holds_66 rfl (by decide) ?_
    refine wp_V1 70 M_Mo_laysOut 6 d_Mo_holds_67 rfl mv_Mo_laysOut lk_Mo_315 rfl rfl rfl rfl rfl ?_
    refine c_lo0 V ?_
    refine kV ?_
    have hch := lm_0 V.ok V.in_ (m_partBy, m_eastBy, m_northBy)
    generalize lmF (tLt t s) False (m_partBy, m_eastBy, m_northBy) = s9 at hch ⊢
    refine wp_aload_n 71 d_Mo_holds_70 rfl rfl ?_
    refine wp_aload_n 72 d_Mo_holds_71 rfl rfl ?_
    refine wp_V0 75 M_Mo_missing 5 d_Mo_holds_72 rfl mv_Mo_missing lk_Mo_319 rfl rfl rfl rfl rfl ?_
    refine c_Mo_missing V ?_
    refine kI ?_
    refine wp_iload_n 76 d_Mo_holds_75 rfl rfl ?_
    refine wp_V2 79 M_Mo_isIn 1 d_Mo_holds_76 rfl mv_Mo_isIn lk_Mo_281 rfl rfl rfl rfl rfl ?_
    refine c_Mo_isIn ?_
    refine kI ?_
    refine wp_zreturn d_Mo_holds_79 rfl (by first | rfl | exact nbP _) ?_
    rw [mi_O V.ok hch]
    have e : hoV t.te t.fr t.to_ t.ea t.no t.nL t.nP s 10 f = bP (hs (tMi (tLt t s)) f) := (if_neg (by decide)).trans ((if_neg (by decide)).trans ((if_pos rfl).trans (rfl)))
    have h9_ := hq s9
    rw [e] at h9_
    exact h9_
  refine wp_tabOut 80 d_Mo_holds_19 (sw_o20 h19_0 h19_1 h19_2) (by decide) ?_
  refine wp_aload_n 81 d_Mo_holds_80 rfl rfl ?_
  refine wp_getfield 84 12 0 d_Mo_holds_81 rfl fl_Mo_7 rfl rfl ?_
  refine wp_iconst 85 5 d_Mo_holds_84 rfl (by decide) ?_
  refine wp_iaload 86 d_Mo_holds_85 rfl rfl (vp_in_nI (n := 5) (N := 2332) (by omega) (by omega)) ?_
  rw [show m_at (5 : Int32).toNatClampNeg = s.2.2.2.1 from V.go]
  refine wp_istore_3 87 d_Mo_holds_86 rfl rfl rfl ?_
  refine wp_aload_n 88 d_Mo_holds_87 rfl rfl ?_
  refine wp_getfield 91 12 0 d_Mo_holds_88 rfl fl_Mo_7 rfl rfl ?_
  refine wp_iload_n 92 d_Mo_holds_91 rfl rfl ?_
  refine wp_iconst 93 5 d_Mo_holds_92 rfl (by decide) ?_
  refine wp_iadd 94 d_Mo_holds_93 rfl ?_
  rw [show nI p + 5 = nI (p + 5) from nI_add p 5]
  refine wp_ialoadN 95 d_Mo_holds_94 rfl rfl rfl (by omega) ?_
  refine wp_bipush 97 60 d_Mo_holds_95 rfl (by decide) ?_
  refine wp_icmp_ne 120 100 d_Mo_holds_97 rfl (by decide) (fun h97 => ?_) (fun h97 => ?_)
  · refine wp_aload_n 121 d_Mo_holds_120 rfl rfl ?_
    refine wp_getfield 124 12 0 d_Mo_holds_121 rfl fl_Mo_7 rfl rfl ?_
    refine wp_iload_n 125 d_Mo_holds_124 rfl rfl ?_
    refine wp_iconst 126 5 d_Mo_holds_125 rfl (by decide) ?_
    refine wp_iadd 127 d_Mo_holds_126 rfl ?_
    rw [show nI p + 5 = nI (p + 5) from nI_add p 5]
    refine wp_ialoadN 128 d_Mo_holds_127 rfl rfl rfl (by omega) ?_
    refine wp_bipush 130 62 d_Mo_holds_128 rfl (by decide) ?_
    refine wp_icmp_ne 153 133 d_Mo_holds_130 rfl (by decide) (fun h130 => ?_) (fun h130 => ?_)
    · obtain ⟨rfl, hr2⟩ : k = 13 ∧ m_at (p + 2) = f := by
        rcases ROW_hd hR hw h19_0 h19_1 h19_2 with ⟨y1, y2, y3⟩ | ⟨y1, y2, y3⟩ | ⟨y1, y2, y3⟩
        · exact absurd y3 h97
        · exact absurd y3 h130
        · exact ⟨y1, y2⟩
      refine wp_iload_n 154 d_Mo_holds_153 rfl rfl ?_
      refine wp_aload_n 155 d_Mo_holds_154 rfl rfl ?_
      refine wp_getfield 158 12 0 d_Mo_holds_155 rfl fl_Mo_7 rfl rfl ?_
      refine wp_iload_n 159 d_Mo_holds_158 rfl rfl ?_
      refine wp_iconst 160 2 d_Mo_holds_159 rfl (by decide) ?_
      refine wp_iadd 161 d_Mo_holds_160 rfl ?_
      rw [show nI p + 2 = nI (p + 2) from nI_add p 2]
      refine wp_ialoadN 162 d_Mo_holds_161 rfl rfl rfl (by omega) ?_
      rw [hr2]
      refine wp_icmp_ne 169 165 d_Mo_holds_162 rfl (by decide) (fun h162 => ?_) (fun h162 => ?_)
      · refine wp_iconst 170 0 d_Mo_holds_169 rfl (by decide) ?_
        refine wp_zreturn d_Mo_holds_170 rfl (by first | rfl | exact nbP _) ?_
        have e : hoV t.te t.fr t.to_ t.ea t.no t.nL t.nP s 13 f = 0 := (if_neg (by decide)).trans ((if_neg (by decide)).trans ((if_neg (by decide)).trans ((if_neg (by decide)).trans ((if_neg (by decide)).trans (bP_f h162)))))
        have h9_ := hq (m_partBy, m_eastBy, m_northBy)
        rw [e] at h9_
        exact h9_
      · refine wp_iconst 166 1 d_Mo_holds_165 rfl (by decide) ?_
        refine wp_goto 170 d_Mo_holds_166 (by decide) ?_
        refine wp_zreturn d_Mo_holds_170 rfl (by first | rfl | exact nbP _) ?_
        have e : hoV t.te t.fr t.to_ t.ea t.no t.nL t.nP s 13 f = 1 := (if_neg (by decide)).trans ((if_neg (by decide)).trans ((if_neg (by decide)).trans ((if_neg (by decide)).trans ((if_neg (by decide)).trans (bP_t h162)))))
        have h9_ := hq (m_partBy, m_eastBy, m_northBy)
        rw [e] at h9_
        exact h9_
    · obtain ⟨rfl, hr2⟩ : k = 12 ∧ m_at (p + 2) = f := by
        rcases ROW_hd hR hw h19_0 h19_1 h19_2 with ⟨y1, y2, y3⟩ | ⟨y1, y2, y3⟩ | ⟨y1, y2, y3⟩
        · exact absurd y3 h97
        · exact ⟨y1, y2⟩
        · rw [y3] at h130; exact absurd h130 (by decide)
      refine wp_iload_n 134 d_Mo_holds_133 rfl rfl ?_
      refine wp_aload_n 135 d_Mo_holds_134 rfl rfl ?_
      refine wp_getfield 138 12 0 d_Mo_holds_135 rfl fl_Mo_7 rfl rfl ?_
      refine wp_iload_n 139 d_Mo_holds_138 rfl rfl ?_
      refine wp_iconst 140 2 d_Mo_holds_139 rfl (by decide) ?_
      refine wp_iadd 141 d_Mo_holds_140 rfl ?_
      rw [show nI p + 2 = nI (p + 2) from nI_add p 2]
      refine wp_ialoadN 142 d_Mo_holds_141 rfl rfl rfl (by omega) ?_
      rw [hr2]
      refine wp_icmp_le 149 145 d_Mo_holds_142 rfl (by decide) (fun h142 => ?_) (fun h142 => ?_)
      · refine wp_iconst 150 0 d_Mo_holds_149 rfl (by decide) ?_
        refine wp_goto 170 d_Mo_holds_150 (by decide) ?_
        refine wp_zreturn d_Mo_holds_170 rfl (by first | rfl | exact nbP _) ?_
        have e : hoV t.te t.fr t.to_ t.ea t.no t.nL t.nP s 12 f = 0 := (if_neg (by decide)).trans ((if_neg (by decide)).trans ((if_neg (by decide)).trans ((if_neg (by decide)).trans ((if_pos rfl).trans (bP_f (fun y => absurd h142 (Int32.not_le.mpr y)))))))
        have h9_ := hq (m_partBy, m_eastBy, m_northBy)
        rw [e] at h9_
        exact h9_
      · refine wp_iconst 146 1 d_Mo_holds_145 rfl (by decide) ?_
        refine wp_goto 170 d_Mo_holds_146 (by decide) ?_
        refine wp_zreturn d_Mo_holds_170 rfl (by first | rfl | exact nbP _) ?_
        have e : hoV t.te t.fr t.to_ t.ea t.no t.nL t.nP s 12 f = 1 := (if_neg (by decide)).trans ((if_neg (by decide)).trans ((if_neg (by decide)).trans ((if_neg (by decide)).trans ((if_pos rfl).trans (bP_t (Int32.not_le.mp h142))))))
        have h9_ := hq (m_partBy, m_eastBy, m_northBy)
        rw [e] at h9_
        exact h9_
  · obtain ⟨rfl, hr2⟩ : k = 11 ∧ m_at (p + 2) = f := by
      rcases ROW_hd hR hw h19_0 h19_1 h19_2 with ⟨y1, y2, y3⟩ | ⟨y1, y2, y3⟩ | ⟨y1, y2, y3⟩
      · exact ⟨y1, y2⟩
      · rw [y3] at h97; exact absurd h97 (by decide)
      · rw [y3] at h97; exact absurd h97 (by decide)
    refine wp_iload_n 101 d_Mo_holds_100 rfl rfl ?_
    refine wp_aload_n 102 d_Mo_holds_101 rfl rfl ?_
    refine wp_getfield 105 12 0 d_Mo_holds_102 rfl fl_Mo_7 rfl rfl ?_
    refine wp_iload_n 106 d_Mo_holds_105 rfl rfl ?_
    refine wp_iconst 107 2 d_Mo_holds_106 rfl (by decide) ?_
    refine wp_iadd 108 d_Mo_holds_107 rfl ?_
    rw [show nI p + 2 = nI (p + 2) from nI_add p 2]
    refine wp_ialoadN 109 d_Mo_holds_108 rfl rfl rfl (by omega) ?_
    rw [hr2]
    refine wp_icmp_ge 116 112 d_Mo_holds_109 rfl (by decide) (fun h109 => ?_) (fun h109 => ?_)
    · refine wp_iconst 117 0 d_Mo_holds_116 rfl (by decide) ?_
      refine wp_goto 170 d_Mo_holds_117 (by decide) ?_
      refine wp_zreturn d_Mo_holds_170 rfl (by first | rfl | exact nbP _) ?_
      have e : hoV t.te t.fr t.to_ t.ea t.no t.nL t.nP s 11 f = 0 := (if_neg (by decide)).trans ((if_neg (by decide)).trans ((if_neg (by decide)).trans ((if_pos rfl).trans (bP_f (fun y => absurd h109 (Int32.not_le.mpr y))))))
      have h9_ := hq (m_partBy, m_eastBy, m_northBy)
      rw [e] at h9_
      exact h9_
    · refine wp_iconst 113 1 d_Mo_holds_112 rfl (by decide) ?_
      refine wp_goto 170 d_Mo_holds_113 (by decide) ?_
      refine wp_zreturn d_Mo_holds_170 rfl (by first | rfl | exact nbP _) ?_
      have e : hoV t.te t.fr t.to_ t.ea t.no t.nL t.nP s 11 f = 1 := (if_neg (by decide)).trans ((if_neg (by decide)).trans ((if_neg (by decide)).trans ((if_pos rfl).trans (bP_t (Int32.not_le.mp h109)))))
      have h9_ := hq (m_partBy, m_eastBy, m_northBy)
      rw [e] at h9_
      exact h9_

set_option maxRecDepth 100000 in
set_option maxHeartbeats 4000000 in
theorem l_Mo_behindEnds_2 {D : DW} {nW : Nat} {w1 : Int32} (hat7 : m_at 7 = nI D.nR) (hn : D.nR ≤ 60) (hrow : ∀ r, r < D.nR → ROW nW m_at (82 + 6 * r) (D.dk r) (D.df r) (D.ds r)) (W : WFD D) : ∀ (n p : Nat) (lo : Nat → Int32) (w3 w4 : Option Value), p ≤ 60 → erD D n p lo → Q (some (.int (nI (er D n p lo).1))) (hM m_at m_names m_status m_top m_bottom m_sort m_trayMany m_trays m_tape m_text m_taped m_size m_token m_from m_end m_value m_faultKind m_faultPlace m_faults m_seen m_areOdds m_opened m_depth m_counted m_eastBy m_northBy m_partBy m_wayFaults m_wayEast m_wayNorth m_olds m_wayMany m_oneOfSet m_twoOfSet m_farBy m_rowBy m_triedBy m_rowMany m_doneAt m_gotAt m_struckAt m_bestDeed m_misBy m_drawn m_ranSteps ((er D n p lo).2) m_ran m_told1 m_isTold m_marks) → WP Γ M_Mo_behindEnds 1 0 0 (hM m_at m_names m_status m_top m_bottom m_sort m_trayMany m_trays m_tape m_text m_taped m_size m_token m_from m_end m_value m_faultKind m_faultPlace m_faults m_seen m_areOdds m_opened m_depth m_counted m_eastBy m_northBy m_partBy m_wayFaults m_wayEast m_wayNorth m_olds m_wayMany m_oneOfSet m_twoOfSet m_farBy m_rowBy m_triedBy m_rowMany m_doneAt m_gotAt m_struckAt m_bestDeed m_misBy m_drawn m_ranSteps (lo) m_ran m_told1 m_isTold m_marks) 2 [some (.ref 0), some (.int w1), some (.int (nI p)), w3, w4] [] Q := by
  intro n
  induction n with
  | zero =>
    intro p lo w3 w4 hp60 hd hq
    refine wp_iload_n 3 d_Mo_behindEnds_2 rfl rfl ?_
    refine wp_aload_n 4 d_Mo_behindEnds_3 rfl rfl ?_
    refine wp_getfield 7 12 0 d_Mo_behindEnds_4 rfl fl_Mo_7 rfl rfl ?_
    refine wp_bipush 9 7 d_Mo_behindEnds_7 rfl (by decide) ?_
    refine wp_iaload 10 d_Mo_behindEnds_9 rfl rfl (vp_in_nI (n := 7) (N := 2332) (by omega) (by omega)) ?_
    rw [show m_at (7 : Int32).toNatClampNeg = nI D.nR from hat7]
    refine wp_icmp_ge 115 13 d_Mo_behindEnds_10 rfl (by decide) (fun h10 => ?_) (fun h10 => ?_)
    · refine wp_iload_n 116 d_Mo_behindEnds_115 rfl rfl ?_
      refine wp_ireturn d_Mo_behindEnds_116 rfl ?_
      rw [er_no (fun y => absurd (nI_leN (b := D.nR) h10 (by omega) (by omega)) (by have := y.1; omega))] at hq
      exact hq
    · have hp9 : p < D.nR := nI_nleN h10 (by omega) (by omega)
      have hRp := hrow p hp9
      refine wp_aload_n 14 d_Mo_behindEnds_13 rfl rfl ?_
      refine wp_getfield 17 12 0 d_Mo_behindEnds_14 rfl fl_Mo_7 rfl rfl ?_
      refine wp_bipush 19 82 d_Mo_behindEnds_17 rfl (by decide) ?_
      refine wp_bipush 21 6 d_Mo_behindEnds_19 rfl (by decide) ?_
      refine wp_iload_n 22 d_Mo_behindEnds_21 rfl rfl ?_
      refine wp_imul 23 d_Mo_behindEnds_22 rfl ?_
      rw [show (6 : Int32) * nI p = nI (6 * p) from mulK 6 p]
      refine wp_iadd 24 d_Mo_behindEnds_23 rfl ?_
      rw [show (82 : Int32) + nI (6 * p) = nI (82 + 6 * p) from nI_add 82 _]
      refine wp_ialoadN 25 d_Mo_behindEnds_24 rfl rfl rfl (by omega) ?_
      refine wp_bipush 27 18 d_Mo_behindEnds_25 rfl (by decide) ?_
      refine wp_icmp_ne 115 30 d_Mo_behindEnds_27 rfl (by decide) (fun h27 => ?_) (fun h27 => ?_)
      · refine wp_iload_n 116 d_Mo_behindEnds_115 rfl rfl ?_
        refine wp_ireturn d_Mo_behindEnds_116 rfl ?_
        rw [er_no (fun y => h27 ((ROW_18 hRp).mpr y.2))] at hq
        exact hq
      · have hk7 := (ROW_18 hRp).mp h27
        exact absurd ⟨hp9, hk7⟩ hd
  | succ n ih =>
    intro p lo w3 w4 hp60 hd hq
    refine wp_iload_n 3 d_Mo_behindEnds_2 rfl rfl ?_
    refine wp_aload_n 4 d_Mo_behindEnds_3 rfl rfl ?_
    refine wp_getfield 7 12 0 d_Mo_behindEnds_4 rfl fl_Mo_7 rfl rfl ?_
    refine wp_bipush 9 7 d_Mo_behindEnds_7 rfl (by decide) ?_
    refine wp_iaload 10 d_Mo_behindEnds_9 rfl rfl (vp_in_nI (n := 7) (N := 2332) (by omega) (by omega)) ?_
    rw [show m_at (7 : Int32).toNatClampNeg = nI D.nR from hat7]
    refine wp_icmp_ge 115 13 d_Mo_behindEnds_10 rfl (by decide) (fun h10 => ?_) (fun h10 => ?_)
    · refine wp_iload_n 116 d_Mo_behindEnds_115 rfl rfl ?_
      refine wp_ireturn d_Mo_behindEnds_116 rfl ?_
      rw [er_no (fun y => absurd (nI_leN (b := D.nR) h10 (by omega) (by omega)) (by have := y.1; omega))] at hq
      exact hq
    · have hp9 : p < D.nR := nI_nleN h10 (by omega) (by omega)
      have hRp := hrow p hp9
      refine wp_aload_n 14 d_Mo_behindEnds_13 rfl rfl ?_
      refine wp_getfield 17 12 0 d_Mo_behindEnds_14 rfl fl_Mo_7 rfl rfl ?_
      refine wp_bipush 19 82 d_Mo_behindEnds_17 rfl (by decide) ?_
      refine wp_bipush 21 6 d_Mo_behindEnds_19 rfl (by decide) ?_
      refine wp_iload_n 22 d_Mo_behindEnds_21 rfl rfl ?_
      refine wp_imul 23 d_Mo_behindEnds_22 rfl ?_
      rw [show (6 : Int32) * nI p = nI (6 * p) from mulK 6 p]
      refine wp_iadd 24 d_Mo_behindEnds_23 rfl ?_
      rw [show (82 : Int32) + nI (6 * p) = nI (82 + 6 * p) from nI_add 82 _]
      refine wp_ialoadN 25 d_Mo_behindEnds_24 rfl rfl rfl (by omega) ?_
      refine wp_bipush 27 18 d_Mo_behindEnds_25 rfl (by decide) ?_
      refine wp_icmp_ne 115 30 d_Mo_behindEnds_27 rfl (by decide) (fun h27 => ?_) (fun h27 => ?_)
      · refine wp_iload_n 116 d_Mo_behindEnds_115 rfl rfl ?_
        refine wp_ireturn d_Mo_behindEnds_116 rfl ?_
        rw [er_no (fun y => h27 ((ROW_18 hRp).mpr y.2))] at hq
        exact hq
      · have hk7 := (ROW_18 hRp).mp h27
        obtain ⟨b, hb, hb1, hb2, hb3⟩ := W.2.1 p hp9 hk7
        have ha4 := ROW_4 hRp (Or.inl hk7)
        have hRb := hrow b (by omega)
        have ebg : bg D p = b := by unfold bg; rw [hb1]; exact nI_clamp (by omega)
        refine wp_aload_n 31 d_Mo_behindEnds_30 rfl rfl ?_
        refine wp_getfield 34 12 0 d_Mo_behindEnds_31 rfl fl_Mo_7 rfl rfl ?_
        refine wp_bipush 36 82 d_Mo_behindEnds_34 rfl (by decide) ?_
        refine wp_bipush 38 6 d_Mo_behindEnds_36 rfl (by decide) ?_
        refine wp_iload_n 39 d_Mo_behindEnds_38 rfl rfl ?_
        refine wp_imul 40 d_Mo_behindEnds_39 rfl ?_
        rw [show (6 : Int32) * nI p = nI (6 * p) from mulK 6 p]
        refine wp_iadd 41 d_Mo_behindEnds_40 rfl ?_
        rw [show (82 : Int32) + nI (6 * p) = nI (82 + 6 * p) from nI_add 82 _]
        refine wp_iconst 42 4 d_Mo_behindEnds_41 rfl (by decide) ?_
        refine wp_iadd 43 d_Mo_behindEnds_42 rfl ?_
        rw [show nI (82 + 6 * p) + 4 = nI (82 + 6 * p + 4) from nI_add _ 4]
        refine wp_ialoadN 44 d_Mo_behindEnds_43 rfl rfl rfl (by omega) ?_
        rw [ha4, hb1]
        refine wp_istore_3 45 d_Mo_behindEnds_44 rfl rfl rfl ?_
        refine wp_aload_n 46 d_Mo_behindEnds_45 rfl rfl ?_
        refine wp_getfield 49 12 0 d_Mo_behindEnds_46 rfl fl_Mo_7 rfl rfl ?_
        refine wp_bipush 51 82 d_Mo_behindEnds_49 rfl (by decide) ?_
        refine wp_bipush 53 6 d_Mo_behindEnds_51 rfl (by decide) ?_
        refine wp_iload_n 54 d_Mo_behindEnds_53 rfl rfl ?_
        refine wp_imul 55 d_Mo_behindEnds_54 rfl ?_
        rw [show (6 : Int32) * nI b = nI (6 * b) from mulK 6 b]
        refine wp_iadd 56 d_Mo_behindEnds_55 rfl ?_
        rw [show (82 : Int32) + nI (6 * b) = nI (82 + 6 * b) from nI_add 82 _]
        refine wp_ialoadN 57 d_Mo_behindEnds_56 rfl rfl rfl (by omega) ?_
        refine wp_bipush 59 17 d_Mo_behindEnds_57 rfl (by decide) ?_
        refine wp_icmp_ne 75 62 d_Mo_behindEnds_59 rfl (by decide) (fun h59 => ?_) (fun h59 => ?_)
        · refine wp_iconst 76 0 d_Mo_behindEnds_75 rfl (by decide) ?_
          refine wp_istore_4 78 d_Mo_behindEnds_76 rfl rfl rfl ?_
          refine wp_aload_n 79 d_Mo_behindEnds_78 rfl rfl ?_
          refine wp_getfield 82 12 45 d_Mo_behindEnds_79 rfl fl_Mo_92 rfl rfl ?_
          refine wp_iload_n 83 d_Mo_behindEnds_82 rfl rfl ?_
          refine wp_dup2 84 d_Mo_behindEnds_83 rfl rfl rfl ?_
          refine wp_ialoadN 85 d_Mo_behindEnds_84 rfl rfl rfl (by omega) ?_
          refine wp_iload 87 d_Mo_behindEnds_85 rfl rfl ?_
          refine wp_if_eq 94 90 d_Mo_behindEnds_87 rfl (by decide) (fun h87 => ?_) (fun h87 => ?_)
          · refine wp_iconst 95 0 d_Mo_behindEnds_94 rfl (by decide) ?_
            refine wp_isub 96 d_Mo_behindEnds_95 rfl ?_
            refine wp_iastoreN 97 d_Mo_behindEnds_96 rfl rfl rfl (by omega) ?_
            refine hEq (hM m_at m_names m_status m_top m_bottom m_sort m_trayMany m_trays m_tape m_text m_taped m_size m_token m_from m_end m_value m_faultKind m_faultPlace m_faults m_seen m_areOdds m_opened m_depth m_counted m_eastBy m_northBy m_partBy m_wayFaults m_wayEast m_wayNorth m_olds m_wayMany m_oneOfSet m_twoOfSet m_farBy m_rowBy m_triedBy m_rowMany m_doneAt m_gotAt m_struckAt m_bestDeed m_misBy m_drawn m_ranSteps (lo) m_ran m_told1 m_isTold m_marks) (congrArg (fun a => (hM m_at m_names m_status m_top m_bottom m_sort m_trayMany m_trays m_tape m_text m_taped m_size m_token m_from m_end m_value m_faultKind m_faultPlace m_faults m_seen m_areOdds m_opened m_depth m_counted m_eastBy m_northBy m_partBy m_wayFaults m_wayEast m_wayNorth m_olds m_wayMany m_oneOfSet m_twoOfSet m_farBy m_rowBy m_triedBy m_rowMany m_doneAt m_gotAt m_struckAt m_bestDeed m_misBy m_drawn m_ranSteps (a) m_ran m_told1 m_isTold m_marks)) (show upd lo b (lo b - 0) = lo from upd_self (Int32.sub_zero _).symm)) ?_
            refine wp_iload 99 d_Mo_behindEnds_97 rfl rfl ?_
            refine wp_if_eq 108 102 d_Mo_behindEnds_99 rfl (by decide) (fun h99 => ?_) (fun h99 => ?_)
            · refine wp_iload_n 109 d_Mo_behindEnds_108 rfl rfl ?_
              refine wp_iconst 110 1 d_Mo_behindEnds_109 rfl (by decide) ?_
              refine wp_iadd 111 d_Mo_behindEnds_110 rfl ?_
              rw [nI_1]
              refine wp_istore_2 112 d_Mo_behindEnds_111 rfl rfl rfl ?_
              refine wp_goto 2 d_Mo_behindEnds_112 (by decide) ?_
              have e : er D (n + 1) p lo = er D n (p + 1) lo := (if_pos ⟨hp9, hk7⟩).trans (by rw [ebg]; exact if_neg (fun y => h59 ((ROW_17 hRb).mpr y.1)))
              unfold erD at hd
              rw [e] at hd hq
              exact ih (p + 1) _ _ _ (by omega) hd hq
            · exact absurd rfl h99
          · exact absurd rfl h87
        · refine wp_aload_n 63 d_Mo_behindEnds_62 rfl rfl ?_
          refine wp_getfield 66 12 45 d_Mo_behindEnds_63 rfl fl_Mo_92 rfl rfl ?_
          refine wp_iload_n 67 d_Mo_behindEnds_66 rfl rfl ?_
          refine wp_ialoadN 68 d_Mo_behindEnds_67 rfl rfl rfl (by omega) ?_
          refine wp_if_le 75 71 d_Mo_behindEnds_68 rfl (by decide) (fun h68 => ?_) (fun h68 => ?_)
          · refine wp_iconst 76 0 d_Mo_behindEnds_75 rfl (by decide) ?_
            refine wp_istore_4 78 d_Mo_behindEnds_76 rfl rfl rfl ?_
            refine wp_aload_n 79 d_Mo_behindEnds_78 rfl rfl ?_
            refine wp_getfield 82 12 45 d_Mo_behindEnds_79 rfl fl_Mo_92 rfl rfl ?_
            refine wp_iload_n 83 d_Mo_behindEnds_82 rfl rfl ?_
            refine wp_dup2 84 d_Mo_behindEnds_83 rfl rfl rfl ?_
            refine wp_ialoadN 85 d_Mo_behindEnds_84 rfl rfl rfl (by omega) ?_
            refine wp_iload 87 d_Mo_behindEnds_85 rfl rfl ?_
            refine wp_if_eq 94 90 d_Mo_behindEnds_87 rfl (by decide) (fun h87 => ?_) (fun h87 => ?_)
            · refine wp_iconst 95 0 d_Mo_behindEnds_94 rfl (by decide) ?_
              refine wp_isub 96 d_Mo_behindEnds_95 rfl ?_
              refine wp_iastoreN 97 d_Mo_behindEnds_96 rfl rfl rfl (by omega) ?_
              refine hEq (hM m_at m_names m_status m_top m_bottom m_sort m_trayMany m_trays m_tape m_text m_taped m_size m_token m_from m_end m_value m_faultKind m_faultPlace m_faults m_seen m_areOdds m_opened m_depth m_counted m_eastBy m_northBy m_partBy m_wayFaults m_wayEast m_wayNorth m_olds m_wayMany m_oneOfSet m_twoOfSet m_farBy m_rowBy m_triedBy m_rowMany m_doneAt m_gotAt m_struckAt m_bestDeed m_misBy m_drawn m_ranSteps (lo) m_ran m_told1 m_isTold m_marks) (congrArg (fun a => (hM m_at m_names m_status m_top m_bottom m_sort m_trayMany m_trays m_tape m_text m_taped m_size m_token m_from m_end m_value m_faultKind m_faultPlace m_faults m_seen m_areOdds m_opened m_depth m_counted m_eastBy m_northBy m_partBy m_wayFaults m_wayEast m_wayNorth m_olds m_wayMany m_oneOfSet m_twoOfSet m_farBy m_rowBy m_triedBy m_rowMany m_doneAt m_gotAt m_struckAt m_bestDeed m_misBy m_drawn m_ranSteps (a) m_ran m_told1 m_isTold m_marks)) (show upd lo b (lo b - 0) = lo from upd_self (Int32.sub_zero _).symm)) ?_
              refine wp_iload 99 d_Mo_behindEnds_97 rfl rfl ?_
              refine wp_if_eq 108 102 d_Mo_behindEnds_99 rfl (by decide) (fun h99 => ?_) (fun h99 => ?_)
              · refine wp_iload_n 109 d_Mo_behindEnds_108 rfl rfl ?_
                refine wp_iconst 110 1 d_Mo_behindEnds_109 rfl (by decide) ?_
                refine wp_iadd 111 d_Mo_behindEnds_110 rfl ?_
                rw [nI_1]
                refine wp_istore_2 112 d_Mo_behindEnds_111 rfl rfl rfl ?_
                refine wp_goto 2 d_Mo_behindEnds_112 (by decide) ?_
                have hc6 : D.dk b = 6 := (ROW_17 hRb).mp h59
                have e : er D (n + 1) p lo = er D n (p + 1) lo := (if_pos ⟨hp9, hk7⟩).trans (by rw [ebg]; exact if_neg (fun y => absurd h68 (Int32.not_le.mpr y.2)))
                unfold erD at hd
                rw [e] at hd hq
                exact ih (p + 1) _ _ _ (by omega) hd hq
              · exact absurd rfl h99
            · exact absurd rfl h87
          · refine wp_iconst 72 1 d_Mo_behindEnds_71 rfl (by decide) ?_
            refine wp_goto 76 d_Mo_behindEnds_72 (by decide) ?_
            refine wp_istore_4 78 d_Mo_behindEnds_76 rfl rfl rfl ?_
            refine wp_aload_n 79 d_Mo_behindEnds_78 rfl rfl ?_
            refine wp_getfield 82 12 45 d_Mo_behindEnds_79 rfl fl_Mo_92 rfl rfl ?_
            refine wp_iload_n 83 d_Mo_behindEnds_82 rfl rfl ?_
            refine wp_dup2 84 d_Mo_behindEnds_83 rfl rfl rfl ?_
            refine wp_ialoadN 85 d_Mo_behindEnds_84 rfl rfl rfl (by omega) ?_
            refine wp_iload 87 d_Mo_behindEnds_85 rfl rfl ?_
            refine wp_if_eq 94 90 d_Mo_behindEnds_87 rfl (by decide) (fun h87 => ?_) (fun h87 => ?_)
            · exact absurd h87 (by decide)
            · refine wp_iconst 91 1 d_Mo_behindEnds_90 rfl (by decide) ?_
              refine wp_goto 95 d_Mo_behindEnds_91 (by decide) ?_
              refine wp_isub 96 d_Mo_behindEnds_95 rfl ?_
              refine wp_iastoreN 97 d_Mo_behindEnds_96 rfl rfl rfl (by omega) ?_
              refine hEq (hM m_at m_names m_status m_top m_bottom m_sort m_trayMany m_trays m_tape m_text m_taped m_size m_token m_from m_end m_value m_faultKind m_faultPlace m_faults m_seen m_areOdds m_opened m_depth m_counted m_eastBy m_northBy m_partBy m_wayFaults m_wayEast m_wayNorth m_olds m_wayMany m_oneOfSet m_twoOfSet m_farBy m_rowBy m_triedBy m_rowMany m_doneAt m_gotAt m_struckAt m_bestDeed m_misBy m_drawn m_ranSteps (upd lo b (lo b - 1)) m_ran m_told1 m_isTold m_marks) rfl ?_
              refine wp_iload 99 d_Mo_behindEnds_97 rfl rfl ?_
              refine wp_if_eq 108 102 d_Mo_behindEnds_99 rfl (by decide) (fun h99 => ?_) (fun h99 => ?_)
              · exact absurd h99 (by decide)
              · refine wp_iload_n 103 d_Mo_behindEnds_102 rfl rfl ?_
                refine wp_iconst 104 1 d_Mo_behindEnds_103 rfl (by decide) ?_
                refine wp_iadd 105 d_Mo_behindEnds_104 rfl ?_
                rw [nI_1]
                refine wp_goto 111 d_Mo_behindEnds_105 (by decide) ?_
                refine wp_istore_2 112 d_Mo_behindEnds_111 rfl rfl rfl ?_
                refine wp_goto 2 d_Mo_behindEnds_112 (by decide) ?_
                have hc6 : D.dk b = 6 := (ROW_17 hRb).mp h59
                have e : er D (n + 1) p lo = er D n (b + 1) (upd lo b (lo b - 1)) := (if_pos ⟨hp9, hk7⟩).trans (by rw [ebg]; exact if_pos ⟨hc6, Int32.not_le.mp h68⟩)
                unfold erD at hd
                rw [e] at hd hq
                exact ih (b + 1) _ _ _ (by omega) hd hq
set_option maxRecDepth 100000 in
set_option maxHeartbeats 4000000 in
theorem c_Mo_behindEnds {D : DW} {nW n p : Nat} (hat7 : m_at 7 = nI D.nR) (hn : D.nR ≤ 60) (hrow : ∀ r, r < D.nR → ROW nW m_at (82 + 6 * r) (D.dk r) (D.df r) (D.ds r)) (W : WFD D) (hp : p ≤ 60) (hd : erD D n p m_loops) (hq : Q (some (.int (nI (er D n p m_loops).1))) (hM m_at m_names m_status m_top m_bottom m_sort m_trayMany m_trays m_tape m_text m_taped m_size m_token m_from m_end m_value m_faultKind m_faultPlace m_faults m_seen m_areOdds m_opened m_depth m_counted m_eastBy m_northBy m_partBy m_wayFaults m_wayEast m_wayNorth m_olds m_wayMany m_oneOfSet m_twoOfSet m_farBy m_rowBy m_triedBy m_rowMany m_doneAt m_gotAt m_struckAt m_bestDeed m_misBy m_drawn m_ranSteps ((er D n p m_loops).2) m_ran m_told1 m_isTold m_marks)) : Call Γ M_Mo_behindEnds 1 0 0 [.ref 0, .int (nI p)] (hM m_at m_names m_status m_top m_bottom m_sort m_trayMany m_trays m_tape m_text m_taped m_size m_token m_from m_end m_value m_faultKind m_faultPlace m_faults m_seen m_areOdds m_opened m_depth m_counted m_eastBy m_northBy m_partBy m_wayFaults m_wayEast m_wayNorth m_olds m_wayMany m_oneOfSet m_twoOfSet m_farBy m_rowBy m_triedBy m_rowMany m_doneAt m_gotAt m_struckAt m_bestDeed m_misBy m_drawn m_ranSteps m_loops m_ran m_told1 m_isTold m_marks) Q := by
  refine call_intro (ls := [some (.ref 0), some (.int (nI p)), none, none, none]) rfl rfl rfl ?_
  refine wp_iload_n 1 d_Mo_behindEnds_0 rfl rfl ?_
  refine wp_istore_2 2 d_Mo_behindEnds_1 rfl rfl rfl ?_
  exact l_Mo_behindEnds_2 hat7 hn hrow W n p m_loops none none hp hd hq

end TA8
