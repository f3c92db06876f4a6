/-! ===== the reference: bridges, told ===== -/
theorem vT_sk {a : Nat → Int32} {t : TW} (V : vT a t) (v : Int32) : vT (upd a 6 v) (tSk t v) := by
  have e : ∀ j, ¬ j = 6 → upd a 6 v j = a j := fun j hj => if_neg hj
  refine ⟨⟨?_, ?_, ?_, ?_, ?_, ?_, if_pos rfl⟩, fun w hw => ?_, fun l hl => ?_, V.ok, V.in_⟩
  · rw [e 0 (by omega)]; exact V.P
  · rw [e 1 (by omega)]; exact V.W
  · rw [e 2 (by omega)]; exact V.L
  · rw [e 3 (by omega)]; exact V.od
  · rw [e 4 (by omega)]; exact V.sd
  · rw [e 5 (by omega)]; exact V.go
  · rw [e _ (by omega), e _ (by omega), e _ (by omega)]; exact V.wk hw
  · rw [e _ (by omega), e _ (by omega), e _ (by omega), e _ (by omega), e _ (by omega)]; exact V.leg hl
theorem upd_back {a : Nat → Int32} {k : Nat} {v x : Int32} (h : a k = x) : upd (upd a k v) k x = a := by
  funext j
  unfold upd
  split
  · rename_i e; rw [e]; exact h.symm
  · rfl
theorem cnP_7 {pb : Nat → Int32} : ∀ n, cnP pb n ≤ n
  | 0 => Nat.le_refl _
  | n + 1 => by
    have := cnP_7 (pb := pb) n
    simp only [cnP]
    split <;> omega
theorem brid_iff {t : TW} (I : tOK t) (J : tIn t) {l : Nat} (hl : l < t.nL) (hc : hs (tTh t) (nI l)) : nI (tPo t).2.2.2.2.1 < nI (tPo (tSk t (t.sk ||| bit (nI l)))).2.2.2.2.1 ↔ brP t.fr t.to_ t.nL t.nP (tTh t) l := by
  obtain ⟨A, ea⟩ := par_M I J
  obtain ⟨Bq, eb⟩ := par_M (t := tSk t (t.sk ||| bit (nI l))) I J
  have hL := I.hL
  have hP := I.hP
  have c1 := cnP_7 (pb := (tPo t).1) t.nP
  have c2 := cnP_7 (pb := (tPo (tSk t (t.sk ||| bit (nI l)))).1) t.nP
  have hb := bridge (t2 := tSk t (t.sk ||| bit (nI l))) I J hl rfl rfl rfl rfl (fun m hm => by rw [th_strike I hl, hs_and (by omega), hs_not (by omega), hs_bit (by omega) (by omega)]) hc A Bq
  rw [ea, eb]
  show nI (cnP (tPo t).1 t.nP) < nI (cnP (tPo (tSk t (t.sk ||| bit (nI l)))).1 t.nP) ↔ _
  rw [nI_ltI (by omega) (by omega), hb]
  show (¬ (pOf (tTh (tSk t (t.sk ||| bit (nI l)))) t.fr t.to_ t.nL t.nP).1 _ = (pOf (tTh (tSk t (t.sk ||| bit (nI l)))) t.fr t.to_ t.nL t.nP).1 _) ↔ _
  rw [th_strike I hl]
  exact ⟨fun z => ⟨hc, z⟩, fun z => z.2⟩
section T78
variable {Γ : Gm} {Q : Option Value → LH → Prop} {m_at m_sort m_trayMany m_tape m_text m_opened m_eastBy m_northBy m_partBy m_wayFaults m_wayEast m_wayNorth m_olds m_farBy m_rowBy m_triedBy m_doneAt m_gotAt m_struckAt m_bestDeed m_loops m_ran m_told1 : Nat → Int32} {m_names m_trays m_misBy : Nat → Int64} {m_status m_taped m_size m_token m_from m_end m_value m_faultKind m_faultPlace m_faults m_seen m_areOdds m_depth m_counted m_wayMany m_oneOfSet m_twoOfSet m_rowMany m_drawn m_ranSteps m_isTold m_marks : Int32} {m_top m_bottom : Int64} {t : TW}
set_option maxRecDepth 100000 in
set_option maxHeartbeats 4000000 in
theorem l_Mo_bridges_18 (V : vT m_at t) (hn : t.nL ≤ 12) : ∀ (r i : Nat) (s : MS), i + r = t.nL → (∀ s : MS, Q (some (.int (iorr (fun l => if brP t.fr t.to_ t.nL t.nP (tTh t) l then bit (nI l) else 0) t.nL))) (hM m_at m_names m_status m_top m_bottom m_sort m_trayMany m_trays m_tape m_text m_taped m_size m_token m_from m_end m_value m_faultKind m_faultPlace m_faults m_seen m_areOdds m_opened m_depth m_counted (s.2.1) (s.2.2) (s.1) m_wayFaults m_wayEast m_wayNorth m_olds m_wayMany m_oneOfSet m_twoOfSet m_farBy m_rowBy m_triedBy m_rowMany m_doneAt m_gotAt m_struckAt m_bestDeed m_misBy m_drawn m_ranSteps m_loops m_ran m_told1 m_isTold m_marks)) → WP Γ M_Mo_bridges 8 0 0 (hM m_at m_names m_status m_top m_bottom m_sort m_trayMany m_trays m_tape m_text m_taped m_size m_token m_from m_end m_value m_faultKind m_faultPlace m_faults m_seen m_areOdds m_opened m_depth m_counted (s.2.1) (s.2.2) (s.1) m_wayFaults m_wayEast m_wayNorth m_olds m_wayMany m_oneOfSet m_twoOfSet m_farBy m_rowBy m_triedBy m_rowMany m_doneAt m_gotAt m_struckAt m_bestDeed m_misBy m_drawn m_ranSteps m_loops m_ran m_told1 m_isTold m_marks) 18 [some (.ref 0), some (.int (iorr (fun l => if brP t.fr t.to_ t.nL t.nP (tTh t) l then bit (nI l) else 0) i)), some (.int (nI (tPo t).2.2.2.2.1)), some (.int t.sk), some (.int (nI i))] [] Q := by
  intro r
  induction r with
  | zero =>
    intro i s hi hinv
    have hq := hinv
    refine wp_iload 20 d_Mo_bridges_18 rfl rfl ?_
    refine wp_aload_n 21 d_Mo_bridges_20 rfl rfl ?_
    refine wp_getfield 24 12 0 d_Mo_bridges_21 rfl fl_Mo_7 rfl rfl ?_
    refine wp_iconst 25 2 d_Mo_bridges_24 rfl (by decide) ?_
    refine wp_iaload 26 d_Mo_bridges_25 rfl rfl (by first | exact vp_in_nI (n := 2) (N := 2332) (by omega) (by omega) | exact vp_in_nI (n := 6) (N := 2332) (by omega) (by omega)) ?_
    rw [show m_at (2 : Int32).toNatClampNeg = nI t.nL from V.L]
    refine wp_icmp_ge 87 29 d_Mo_bridges_26 rfl (by decide) (fun h26 => ?_) (fun h26 => ?_)
    · refine wp_iload_n 88 d_Mo_bridges_87 rfl rfl ?_
      refine wp_ireturn d_Mo_bridges_88 rfl ?_
      have e : i = t.nL := by omega
      subst e
      exact hq s
    · exact absurd ((nI_leI (a := t.nL) (by omega) (by omega)).mpr (by omega)) h26
  | succ r ih =>
    intro i s hi hinv
    have hq := hinv
    refine wp_iload 20 d_Mo_bridges_18 rfl rfl ?_
    refine wp_aload_n 21 d_Mo_bridges_20 rfl rfl ?_
    refine wp_getfield 24 12 0 d_Mo_bridges_21 rfl fl_Mo_7 rfl rfl ?_
    refine wp_iconst 25 2 d_Mo_bridges_24 rfl (by decide) ?_
    refine wp_iaload 26 d_Mo_bridges_25 rfl rfl (by first | exact vp_in_nI (n := 2) (N := 2332) (by omega) (by omega) | exact vp_in_nI (n := 6) (N := 2332) (by omega) (by omega)) ?_
    rw [show m_at (2 : Int32).toNatClampNeg = nI t.nL from V.L]
    refine wp_icmp_ge 87 29 d_Mo_bridges_26 rfl (by decide) (fun h26 => ?_) (fun h26 => ?_)
    · exact absurd (nI_leN (b := t.nL) h26 (by omega) (by omega)) (by omega)
    · refine wp_aload_n 30 d_Mo_bridges_29 rfl rfl ?_
      refine wp_iload 32 d_Mo_bridges_30 rfl rfl ?_
      refine wp_V1 35 M_Mo_counts 2 d_Mo_bridges_32 rfl mv_Mo_counts lk_Mo_300 rfl rfl rfl rfl rfl ?_
      refine c_Mo_counts V ?_
      refine kI ?_
      (first | refine wp_ifP_ne 41 38 d_Mo_bridges_35 rfl (by decide) (fun h35 => ?_) (fun h35 => ?_) | refine wp_if_ne 41 38 d_Mo_bridges_35 rfl (by decide) (fun h35 => ?_) (fun h35 => ?_))
      · refine wp_aload_n 42 d_Mo_bridges_41 rfl rfl ?_
        refine wp_getfield 45 12 0 d_Mo_bridges_42 rfl fl_Mo_7 rfl rfl ?_
        refine wp_bipush 47 6 d_Mo_bridges_45 rfl (by decide) ?_
        refine wp_iload_n 48 d_Mo_bridges_47 rfl rfl ?_
        refine wp_iconst 49 1 d_Mo_bridges_48 rfl (by decide) ?_
        refine wp_iload 51 d_Mo_bridges_49 rfl rfl ?_
        refine wp_ishl 52 d_Mo_bridges_51 rfl ?_
        refine wp_ior 53 d_Mo_bridges_52 rfl ?_
        refine wp_iastore 54 d_Mo_bridges_53 rfl rfl (by first | exact vp_in_nI (n := 2) (N := 2332) (by omega) (by omega) | exact vp_in_nI (n := 6) (N := 2332) (by omega) (by omega)) ?_
        refine hEq (hM (upd m_at 6 (t.sk ||| bit (nI i))) m_names m_status m_top m_bottom m_sort m_trayMany m_trays m_tape m_text m_taped m_size m_token m_from m_end m_value m_faultKind m_faultPlace m_faults m_seen m_areOdds m_opened m_depth m_counted (s.2.1) (s.2.2) (s.1) m_wayFaults m_wayEast m_wayNorth m_olds m_wayMany m_oneOfSet m_twoOfSet m_farBy m_rowBy m_triedBy m_rowMany m_doneAt m_gotAt m_struckAt m_bestDeed m_misBy m_drawn m_ranSteps m_loops m_ran m_told1 m_isTold m_marks) rfl ?_
        refine wp_iload_n 55 d_Mo_bridges_54 rfl rfl ?_
        refine wp_aload_n 56 d_Mo_bridges_55 rfl rfl ?_
        refine wp_V0 59 M_Mo_parts 7 d_Mo_bridges_56 rfl mv_Mo_parts lk_Mo_322 rfl rfl rfl rfl rfl ?_
        refine c_Mo_parts (vT_sk V (t.sk ||| bit (nI i))) (fun s2 h2 => ?_)
        refine kI ?_
        refine wp_iload_n 60 d_Mo_bridges_59 rfl rfl ?_
        refine wp_icmp_le 70 63 d_Mo_bridges_60 rfl (by decide) (fun h60 => ?_) (fun h60 => ?_)
        · refine wp_iconst 71 0 d_Mo_bridges_70 rfl (by decide) ?_
          refine wp_ior 72 d_Mo_bridges_71 rfl ?_
          refine wp_istore_1 73 d_Mo_bridges_72 rfl rfl rfl ?_
          refine wp_aload_n 74 d_Mo_bridges_73 rfl rfl ?_
          refine wp_getfield 77 12 0 d_Mo_bridges_74 rfl fl_Mo_7 rfl rfl ?_
          refine wp_bipush 79 6 d_Mo_bridges_77 rfl (by decide) ?_
          refine wp_iload_n 80 d_Mo_bridges_79 rfl rfl ?_
          refine wp_iastore 81 d_Mo_bridges_80 rfl rfl (by first | exact vp_in_nI (n := 2) (N := 2332) (by omega) (by omega) | exact vp_in_nI (n := 6) (N := 2332) (by omega) (by omega)) ?_
          refine hEq (hM m_at m_names m_status m_top m_bottom m_sort m_trayMany m_trays m_tape m_text m_taped m_size m_token m_from m_end m_value m_faultKind m_faultPlace m_faults m_seen m_areOdds m_opened m_depth m_counted (s2.2.1) (s2.2.2) (s2.1) m_wayFaults m_wayEast m_wayNorth m_olds m_wayMany m_oneOfSet m_twoOfSet m_farBy m_rowBy m_triedBy m_rowMany m_doneAt m_gotAt m_struckAt m_bestDeed m_misBy m_drawn m_ranSteps m_loops m_ran m_told1 m_isTold m_marks) (congrArg (fun a => (hM (a) m_names m_status m_top m_bottom m_sort m_trayMany m_trays m_tape m_text m_taped m_size m_token m_from m_end m_value m_faultKind m_faultPlace m_faults m_seen m_areOdds m_opened m_depth m_counted (s2.2.1) (s2.2.2) (s2.1) m_wayFaults m_wayEast m_wayNorth m_olds m_wayMany m_oneOfSet m_twoOfSet m_farBy m_rowBy m_triedBy m_rowMany m_doneAt m_gotAt m_struckAt m_bestDeed m_misBy m_drawn m_ranSteps m_loops m_ran m_told1 m_isTold m_marks)) (show upd (upd m_at 6 (t.sk ||| bit (nI i))) 6 t.sk = m_at from upd_back V.sk)) ?_
          first | refine wp_iincN_4 84 d_Mo_bridges_81 rfl rfl rfl ?_ | refine wp_iinc_4 84 1 d_Mo_bridges_81 rfl (by decide) rfl rfl ?_
          refine wp_goto 18 d_Mo_bridges_84 (by decide) ?_
          refine qL2 ?_ (ih (i + 1) _ (by omega) hq)
          simp only [iorr]
          rw [if_neg (fun z => absurd ((brid_iff V.ok V.in_ (by omega) ((moC_th V.ok (by omega)).mp h35)).mpr z) (Int32.not_lt.mpr h60))]
        · refine wp_iconst 64 1 d_Mo_bridges_63 rfl (by decide) ?_
          refine wp_iload 66 d_Mo_bridges_64 rfl rfl ?_
          refine wp_ishl 67 d_Mo_bridges_66 rfl ?_
          refine wp_goto 71 d_Mo_bridges_67 (by decide) ?_
          refine wp_ior 72 d_Mo_bridges_71 rfl ?_
          refine wp_istore_1 73 d_Mo_bridges_72 rfl rfl rfl ?_
          refine wp_aload_n 74 d_Mo_bridges_73 rfl rfl ?_
          refine wp_getfield 77 12 0 d_Mo_bridges_74 rfl fl_Mo_7 rfl rfl ?_
          refine wp_bipush 79 6 d_Mo_bridges_77 rfl (by decide) ?_
          refine wp_iload_n 80 d_Mo_bridges_79 rfl rfl ?_
          refine wp_iastore 81 d_Mo_bridges_80 rfl rfl (by first | exact vp_in_nI (n := 2) (N := 2332) (by omega) (by omega) | exact vp_in_nI (n := 6) (N := 2332) (by omega) (by omega)) ?_
          refine hEq (hM m_at m_names m_status m_top m_bottom m_sort m_trayMany m_trays m_tape m_text m_taped m_size m_token m_from m_end m_value m_faultKind m_faultPlace m_faults m_seen m_areOdds m_opened m_depth m_counted (s2.2.1) (s2.2.2) (s2.1) m_wayFaults m_wayEast m_wayNorth m_olds m_wayMany m_oneOfSet m_twoOfSet m_farBy m_rowBy m_triedBy m_rowMany m_doneAt m_gotAt m_struckAt m_bestDeed m_misBy m_drawn m_ranSteps m_loops m_ran m_told1 m_isTold m_marks) (congrArg (fun a => (hM (a) m_names m_status m_top m_bottom m_sort m_trayMany m_trays m_tape m_text m_taped m_size m_token m_from m_end m_value m_faultKind m_faultPlace m_faults m_seen m_areOdds m_opened m_depth m_counted (s2.2.1) (s2.2.2) (s2.1) m_wayFaults m_wayEast m_wayNorth m_olds m_wayMany m_oneOfSet m_twoOfSet m_farBy m_rowBy m_triedBy m_rowMany m_doneAt m_gotAt m_struckAt m_bestDeed m_misBy m_drawn m_ranSteps m_loops m_ran m_told1 m_isTold m_marks)) (show upd (upd m_at 6 (t.sk ||| bit (nI i))) 6 t.sk = m_at from upd_back V.sk)) ?_
          first | refine wp_iincN_4 84 d_Mo_bridges_81 rfl rfl rfl ?_ | refine wp_iinc_4 84 1 d_Mo_bridges_81 rfl (by decide) rfl rfl ?_
          refine wp_goto 18 d_Mo_bridges_84 (by decide) ?_
          refine qL2 ?_ (ih (i + 1) _ (by omega) hq)
          simp only [iorr]
          rw [if_pos ((brid_iff V.ok V.in_ (by omega) ((moC_th V.ok (by omega)).mp h35)).mp (Int32.not_le.mp h60))]
      · refine wp_goto 81 d_Mo_bridges_38 (by decide) ?_
        first | refine wp_iincN_4 84 d_Mo_bridges_81 rfl rfl rfl ?_ | refine wp_iinc_4 84 1 d_Mo_bridges_81 rfl (by decide) rfl rfl ?_
        refine wp_goto 18 d_Mo_bridges_84 (by decide) ?_
        refine qL2 ?_ (ih (i + 1) _ (by omega) hq)
        simp only [iorr]
        rw [if_neg (fun z => h35 ((moC_th V.ok (by omega)).mpr z.1))]
        rw [or_0]

set_option maxRecDepth 100000 in
set_option maxHeartbeats 4000000 in
theorem c_Mo_bridges (V : vT m_at t) (hq : ∀ s : MS, Q (some (.int (tBr t))) (hM m_at m_names m_status m_top m_bottom m_sort m_trayMany m_trays m_tape m_text m_taped m_size m_token m_from m_end m_value m_faultKind m_faultPlace m_faults m_seen m_areOdds m_opened m_depth m_counted (s.2.1) (s.2.2) (s.1) m_wayFaults m_wayEast m_wayNorth m_olds m_wayMany m_oneOfSet m_twoOfSet m_farBy m_rowBy m_triedBy m_rowMany m_doneAt m_gotAt m_struckAt m_bestDeed m_misBy m_drawn m_ranSteps m_loops m_ran m_told1 m_isTold m_marks)) : Call Γ M_Mo_bridges 8 0 0 [.ref 0] (hM m_at m_names m_status m_top m_bottom m_sort m_trayMany m_trays m_tape m_text m_taped m_size m_token m_from m_end m_value m_faultKind m_faultPlace m_faults m_seen m_areOdds m_opened m_depth m_counted m_eastBy m_northBy m_partBy m_wayFaults m_wayEast m_wayNorth m_olds m_wayMany m_oneOfSet m_twoOfSet m_farBy m_rowBy m_triedBy m_rowMany m_doneAt m_gotAt m_struckAt m_bestDeed m_misBy m_drawn m_ranSteps m_loops m_ran m_told1 m_isTold m_marks) Q := by
  refine call_intro (ls := [some (.ref 0), none, none, none, none]) rfl rfl rfl ?_
  refine wp_iconst 1 0 d_Mo_bridges_0 rfl (by decide) ?_
  refine wp_istore_1 2 d_Mo_bridges_1 rfl rfl rfl ?_
  refine wp_aload_n 3 d_Mo_bridges_2 rfl rfl ?_
  refine wp_V0 6 M_Mo_parts 7 d_Mo_bridges_3 rfl mv_Mo_parts lk_Mo_322 rfl rfl rfl rfl rfl ?_
  refine c_Mo_parts V (fun s2 h2 => ?_)
  refine kI ?_
  refine wp_istore_2 7 d_Mo_bridges_6 rfl rfl rfl ?_
  refine wp_aload_n 8 d_Mo_bridges_7 rfl rfl ?_
  refine wp_getfield 11 12 0 d_Mo_bridges_8 rfl fl_Mo_7 rfl rfl ?_
  refine wp_bipush 13 6 d_Mo_bridges_11 rfl (by decide) ?_
  refine wp_iaload 14 d_Mo_bridges_13 rfl rfl (by first | exact vp_in_nI (n := 2) (N := 2332) (by omega) (by omega) | exact vp_in_nI (n := 6) (N := 2332) (by omega) (by omega)) ?_
  rw [show m_at (6 : Int32).toNatClampNeg = t.sk from V.sk]
  refine wp_istore_3 15 d_Mo_bridges_14 rfl rfl rfl ?_
  refine wp_iconst 16 0 d_Mo_bridges_15 rfl (by decide) ?_
  refine wp_istore_4 18 d_Mo_bridges_16 rfl rfl rfl ?_
  exact l_Mo_bridges_18 V V.ok.hL t.nL 0 _ (by omega) hq

set_option maxRecDepth 100000 in
set_option maxHeartbeats 4000000 in
theorem c_Mo_told {w : Int32} (V : vT m_at t) (hq : ∀ s : MS, Q (some (.int (toF t w).2)) (hM m_at m_names ((toF t w).1) m_top m_bottom m_sort m_trayMany m_trays m_tape m_text m_taped m_size m_token m_from m_end m_value m_faultKind m_faultPlace m_faults m_seen m_areOdds m_opened m_depth m_counted (s.2.1) (s.2.2) (s.1) m_wayFaults m_wayEast m_wayNorth m_olds m_wayMany m_oneOfSet m_twoOfSet m_farBy m_rowBy m_triedBy m_rowMany m_doneAt m_gotAt m_struckAt m_bestDeed m_misBy m_drawn m_ranSteps m_loops m_ran m_told1 m_isTold m_marks)) : Call Γ M_Mo_told 9 0 0 [.ref 0, .int w] (hM m_at m_names m_status m_top m_bottom m_sort m_trayMany m_trays m_tape m_text m_taped m_size m_token m_from m_end m_value m_faultKind m_faultPlace m_faults m_seen m_areOdds m_opened m_depth m_counted m_eastBy m_northBy m_partBy m_wayFaults m_wayEast m_wayNorth m_olds m_wayMany m_oneOfSet m_twoOfSet m_farBy m_rowBy m_triedBy m_rowMany m_doneAt m_gotAt m_struckAt m_bestDeed m_misBy m_drawn m_ranSteps m_loops m_ran m_told1 m_isTold m_marks) Q := by
  refine call_intro (ls := [some (.ref 0), some (.int w)]) rfl rfl rfl ?_
  refine wp_iload_n 1 d_Mo_told_0 rfl rfl ?_
  by_cases h1_0 : w = 0
  · refine wp_tabIn (off := 63) 64 0 d_Mo_told_1 h1_0 (by decide) (by decide) (by decide) (by decide) ?_
    refine wp_aload_n 65 d_Mo_told_64 rfl rfl ?_
    refine wp_aload_n 66 d_Mo_told_65 rfl rfl ?_
    refine wp_getfield 69 12 0 d_Mo_told_66 rfl fl_Mo_7 rfl rfl ?_
    refine wp_iload_n 70 d_Mo_told_69 rfl rfl ?_
    refine wp_iaload 71 d_Mo_told_70 rfl rfl (by first | (rw [h1_0]; exact vp_in_nI (n := 0) (N := 2332) (by omega) (by omega)) | (rw [h1_1]; exact vp_in_nI (n := 1) (N := 2332) (by omega) (by omega)) | (rw [h1_2]; exact vp_in_nI (n := 2) (N := 2332) (by omega) (by omega)) | (rw [h1_3]; exact vp_in_nI (n := 3) (N := 2332) (by omega) (by omega)) | (rw [h1_5]; exact vp_in_nI (n := 5) (N := 2332) (by omega) (by omega))) ?_
    refine wp_V1 74 M_Mo_gives 1 d_Mo_told_71 rfl mv_Mo_gives lk_Mo_115 rfl rfl rfl rfl rfl ?_
    refine c_Mo_gives ?_
    refine kI ?_
    refine wp_ireturn d_Mo_told_74 rfl ?_
    rw [show m_at w.toNatClampNeg = nI t.nP from by rw [h1_0]; exact V.P]
    have e : toF t w = _ := (if_pos h1_0)
    have h9 := hq (m_partBy, m_eastBy, m_northBy)
    rw [e] at h9
    exact h9
  by_cases h1_1 : w = 1
  · refine wp_tabIn (off := 63) 64 1 d_Mo_told_1 h1_1 (by decide) (by decide) (by decide) (by decide) ?_
    refine wp_aload_n 65 d_Mo_told_64 rfl rfl ?_
    refine wp_aload_n 66 d_Mo_told_65 rfl rfl ?_
    refine wp_getfield 69 12 0 d_Mo_told_66 rfl fl_Mo_7 rfl rfl ?_
    refine wp_iload_n 70 d_Mo_told_69 rfl rfl ?_
    refine wp_iaload 71 d_Mo_told_70 rfl rfl (by first | (rw [h1_0]; exact vp_in_nI (n := 0) (N := 2332) (by omega) (by omega)) | (rw [h1_1]; exact vp_in_nI (n := 1) (N := 2332) (by omega) (by omega)) | (rw [h1_2]; exact vp_in_nI (n := 2) (N := 2332) (by omega) (by omega)) | (rw [h1_3]; exact vp_in_nI (n := 3) (N := 2332) (by omega) (by omega)) | (rw [h1_5]; exact vp_in_nI (n := 5) (N := 2332) (by omega) (by omega))) ?_
    refine wp_V1 74 M_Mo_gives 1 d_Mo_told_71 rfl mv_Mo_gives lk_Mo_115 rfl rfl rfl rfl rfl ?_
    refine c_Mo_gives ?_
    refine kI ?_
    refine wp_ireturn d_Mo_told_74 rfl ?_
    rw [show m_at w.toNatClampNeg = nI t.nW from by rw [h1_1]; exact V.W]
    have e : toF t w = _ := ((if_neg h1_0).trans (if_pos h1_1))
    have h9 := hq (m_partBy, m_eastBy, m_northBy)
    rw [e] at h9
    exact h9
  by_cases h1_2 : w = 2
  · refine wp_tabIn (off := 63) 64 2 d_Mo_told_1 h1_2 (by decide) (by decide) (by decide) (by decide) ?_
    refine wp_aload_n 65 d_Mo_told_64 rfl rfl ?_
    refine wp_aload_n 66 d_Mo_told_65 rfl rfl ?_
    refine wp_getfield 69 12 0 d_Mo_told_66 rfl fl_Mo_7 rfl rfl ?_
    refine wp_iload_n 70 d_Mo_told_69 rfl rfl ?_
    refine wp_iaload 71 d_Mo_told_70 rfl rfl (by first | (rw [h1_0]; exact vp_in_nI (n := 0) (N := 2332) (by omega) (by omega)) | (rw [h1_1]; exact vp_in_nI (n := 1) (N := 2332) (by omega) (by omega)) | (rw [h1_2]; exact vp_in_nI (n := 2) (N := 2332) (by omega) (by omega)) | (rw [h1_3]; exact vp_in_nI (n := 3) (N := 2332) (by omega) (by omega)) | (rw [h1_5]; exact vp_in_nI (n := 5) (N := 2332) (by omega) (by omega))) ?_
    refine wp_V1 74 M_Mo_gives 1 d_Mo_told_71 rfl mv_Mo_gives lk_Mo_115 rfl rfl rfl rfl rfl ?_
    refine c_Mo_gives ?_
    refine kI ?_
    refine wp_ireturn d_Mo_told_74 rfl ?_
    rw [show m_at w.toNatClampNeg = nI t.nL from by rw [h1_2]; exact V.L]
    have e : toF t w = _ := (((if_neg h1_0).trans (if_neg h1_1)).trans (if_pos h1_2))
    have h9 := hq (m_partBy, m_eastBy, m_northBy)
    rw [e] at h9
    exact h9
  by_cases h1_3 : w = 3
  · refine wp_tabIn (off := 63) 64 3 d_Mo_told_1 h1_3 (by decide) (by decide) (by decide) (by decide) ?_
    refine wp_aload_n 65 d_Mo_told_64 rfl rfl ?_
    refine wp_aload_n 66 d_Mo_told_65 rfl rfl ?_
    refine wp_getfield 69 12 0 d_Mo_told_66 rfl fl_Mo_7 rfl rfl ?_
    refine wp_iload_n 70 d_Mo_told_69 rfl rfl ?_
    refine wp_iaload 71 d_Mo_told_70 rfl rfl (by first | (rw [h1_0]; exact vp_in_nI (n := 0) (N := 2332) (by omega) (by omega)) | (rw [h1_1]; exact vp_in_nI (n := 1) (N := 2332) (by omega) (by omega)) | (rw [h1_2]; exact vp_in_nI (n := 2) (N := 2332) (by omega) (by omega)) | (rw [h1_3]; exact vp_in_nI (n := 3) (N := 2332) (by omega) (by omega)) | (rw [h1_5]; exact vp_in_nI (n := 5) (N := 2332) (by omega) (by omega))) ?_
    refine wp_V1 74 M_Mo_gives 1 d_Mo_told_71 rfl mv_Mo_gives lk_Mo_115 rfl rfl rfl rfl rfl ?_
    refine c_Mo_gives ?_
    refine kI ?_
    refine wp_ireturn d_Mo_told_74 rfl ?_
    rw [show m_at w.toNatClampNeg = t.od from by rw [h1_3]; exact V.od]
    have e : toF t w = _ := ((((if_neg h1_0).trans (if_neg h1_1)).trans (if_neg h1_2)).trans (if_pos h1_3))
    have h9 := hq (m_partBy, m_eastBy, m_northBy)
    rw [e] at h9
    exact h9
  by_cases h1_4 : w = 4
  · refine wp_tabIn (off := 74) 75 4 d_Mo_told_1 h1_4 (by decide) (by decide) (by decide) (by decide) ?_
    refine wp_aload_n 76 d_Mo_told_75 rfl rfl ?_
    refine wp_aload_n 77 d_Mo_told_76 rfl rfl ?_
    refine wp_getfield 80 12 0 d_Mo_told_77 rfl fl_Mo_7 rfl rfl ?_
    refine wp_iconst 81 4 d_Mo_told_80 rfl (by decide) ?_
    refine wp_iaload 82 d_Mo_told_81 rfl rfl (by first | exact vp_in_nI (n := 4) (N := 2332) (by omega) (by omega) | exact vp_in_nI (n := 6) (N := 2332) (by omega) (by omega) | exact vp_in_nI (n := 0) (N := 2332) (by omega) (by omega)) ?_
    refine wp_V1 85 M_Mo_orNone 2 d_Mo_told_82 rfl mv_Mo_orNone lk_Mo_325 rfl rfl rfl rfl rfl ?_
    refine c_Mo_orNone ?_
    refine kI ?_
    refine wp_ireturn d_Mo_told_85 rfl ?_
    rw [show m_at (4 : Int32).toNatClampNeg = t.sd from V.sd]
    by_cases hs4 : t.sd = -1
    · have e : toF t w = _ := ((((((if_neg h1_0).trans (if_neg h1_1)).trans (if_neg h1_2)).trans (if_neg h1_3)).trans (if_pos h1_4)).trans (if_pos hs4))
      have h9 := hq (m_partBy, m_eastBy, m_northBy)
      rw [e] at h9
      rw [if_pos hs4, hs4]
      exact h9
    · have e : toF t w = _ := ((((((if_neg h1_0).trans (if_neg h1_1)).trans (if_neg h1_2)).trans (if_neg h1_3)).trans (if_pos h1_4)).trans (if_neg hs4))
      have h9 := hq (m_partBy, m_eastBy, m_northBy)
      rw [e] at h9
      rw [if_neg hs4]
      exact h9
  by_cases h1_5 : w = 5
  · refine wp_tabIn (off := 63) 64 5 d_Mo_told_1 h1_5 (by decide) (by decide) (by decide) (by decide) ?_
    refine wp_aload_n 65 d_Mo_told_64 rfl rfl ?_
    refine wp_aload_n 66 d_Mo_told_65 rfl rfl ?_
    refine wp_getfield 69 12 0 d_Mo_told_66 rfl fl_Mo_7 rfl rfl ?_
    refine wp_iload_n 70 d_Mo_told_69 rfl rfl ?_
    refine wp_iaload 71 d_Mo_told_70 rfl rfl (by first | (rw [h1_0]; exact vp_in_nI (n := 0) (N := 2332) (by omega) (by omega)) | (rw [h1_1]; exact vp_in_nI (n := 1) (N := 2332) (by omega) (by omega)) | (rw [h1_2]; exact vp_in_nI (n := 2) (N := 2332) (by omega) (by omega)) | (rw [h1_3]; exact vp_in_nI (n := 3) (N := 2332) (by omega) (by omega)) | (rw [h1_5]; exact vp_in_nI (n := 5) (N := 2332) (by omega) (by omega))) ?_
    refine wp_V1 74 M_Mo_gives 1 d_Mo_told_71 rfl mv_Mo_gives lk_Mo_115 rfl rfl rfl rfl rfl ?_
    refine c_Mo_gives ?_
    refine kI ?_
    refine wp_ireturn d_Mo_told_74 rfl ?_
    rw [show m_at w.toNatClampNeg = t.go from by rw [h1_5]; exact V.go]
    have e : toF t w = _ := ((((((if_neg h1_0).trans (if_neg h1_1)).trans (if_neg h1_2)).trans (if_neg h1_3)).trans (if_neg h1_4)).trans (if_pos h1_5))
    have h9 := hq (m_partBy, m_eastBy, m_northBy)
    rw [e] at h9
    exact h9
  by_cases h1_6 : w = 6
  · refine wp_tabIn (off := 85) 86 6 d_Mo_told_1 h1_6 (by decide) (by decide) (by decide) (by decide) ?_
    refine wp_aload_n 87 d_Mo_told_86 rfl rfl ?_
    refine wp_aload_n 88 d_Mo_told_87 rfl rfl ?_
    refine wp_V0 91 M_Mo_lying 7 d_Mo_told_88 rfl mv_Mo_lying lk_Mo_328 rfl rfl rfl rfl rfl ?_
    refine c_Mo_lying V (fun s2 h2 => ?_)
    refine kI ?_
    refine wp_V1 94 M_Mo_gives 1 d_Mo_told_91 rfl mv_Mo_gives lk_Mo_115 rfl rfl rfl rfl rfl ?_
    refine c_Mo_gives ?_
    refine kI ?_
    refine wp_ireturn d_Mo_told_94 rfl ?_
    have e : toF t w = _ := ((((((((if_neg h1_0).trans (if_neg h1_1)).trans (if_neg h1_2)).trans (if_neg h1_3)).trans (if_neg h1_4)).trans (if_neg h1_5)).trans (if_pos h1_6)).trans (congrArg (Prod.mk 0) (if_pos h1_6)))
    have h9 := hq s2
    rw [e] at h9
    exact h9
  by_cases h1_7 : w = 7
  · refine wp_tabIn (off := 94) 95 7 d_Mo_told_1 h1_7 (by decide) (by decide) (by decide) (by decide) ?_
    refine wp_aload_n 96 d_Mo_told_95 rfl rfl ?_
    refine wp_aload_n 97 d_Mo_told_96 rfl rfl ?_
    refine wp_getfield 100 12 0 d_Mo_told_97 rfl fl_Mo_7 rfl rfl ?_
    refine wp_bipush 102 6 d_Mo_told_100 rfl (by decide) ?_
    refine wp_iaload 103 d_Mo_told_102 rfl rfl (by first | exact vp_in_nI (n := 4) (N := 2332) (by omega) (by omega) | exact vp_in_nI (n := 6) (N := 2332) (by omega) (by omega) | exact vp_in_nI (n := 0) (N := 2332) (by omega) (by omega)) ?_
    refine wp_V1 106 M_Mo_gives 1 d_Mo_told_103 rfl mv_Mo_gives lk_Mo_115 rfl rfl rfl rfl rfl ?_
    refine c_Mo_gives ?_
    refine kI ?_
    refine wp_ireturn d_Mo_told_106 rfl ?_
    rw [show m_at (6 : Int32).toNatClampNeg = t.sk from V.sk]
    have e : toF t w = _ := ((((((((if_neg h1_0).trans (if_neg h1_1)).trans (if_neg h1_2)).trans (if_neg h1_3)).trans (if_neg h1_4)).trans (if_neg h1_5)).trans (if_neg h1_6)).trans (if_pos h1_7))
    have h9 := hq (m_partBy, m_eastBy, m_northBy)
    rw [e] at h9
    exact h9
  by_cases h1_8 : w = 8
  · refine wp_tabIn (off := 106) 107 8 d_Mo_told_1 h1_8 (by decide) (by decide) (by decide) (by decide) ?_
    refine wp_aload_n 108 d_Mo_told_107 rfl rfl ?_
    refine wp_iconst 109 0 d_Mo_told_108 rfl (by decide) ?_
    refine wp_V1 112 M_Mo_laysOut 6 d_Mo_told_109 rfl mv_Mo_laysOut lk_Mo_315 rfl rfl rfl rfl rfl ?_
    refine c_lo0 V ?_
    refine kV ?_
    have h9_ := lm_0 V.ok V.in_ (m_partBy, m_eastBy, m_northBy)
    generalize lmF t False (m_partBy, m_eastBy, m_northBy) = s9 at h9_ ⊢
    refine wp_aload_n 113 d_Mo_told_112 rfl rfl ?_
    refine wp_aload_n 114 d_Mo_told_113 rfl rfl ?_
    refine wp_V0 117 M_Mo_missing 5 d_Mo_told_114 rfl mv_Mo_missing lk_Mo_319 rfl rfl rfl rfl rfl ?_
    refine c_Mo_missing V ?_
    refine kI ?_
    refine wp_V1 120 M_Mo_gives 1 d_Mo_told_117 rfl mv_Mo_gives lk_Mo_115 rfl rfl rfl rfl rfl ?_
    refine c_Mo_gives ?_
    refine kI ?_
    refine wp_ireturn d_Mo_told_120 rfl ?_
    rw [mi_O V.ok h9_]
    have e : toF t w = _ := ((((((((((if_neg h1_0).trans (if_neg h1_1)).trans (if_neg h1_2)).trans (if_neg h1_3)).trans (if_neg h1_4)).trans (if_neg h1_5)).trans (if_neg h1_6)).trans (if_neg h1_7)).trans (if_pos h1_8)).trans (congrArg (Prod.mk 0) (((if_neg (by rw [h1_8]; decide)).trans (if_pos h1_8)))))
    have h9 := hq s9
    rw [e] at h9
    exact h9
  by_cases h1_9 : w = 9
  · refine wp_tabIn (off := 120) 121 9 d_Mo_told_1 h1_9 (by decide) (by decide) (by decide) (by decide) ?_
    refine wp_aload_n 122 d_Mo_told_121 rfl rfl ?_
    refine wp_aload_n 123 d_Mo_told_122 rfl rfl ?_
    refine wp_V0 126 M_Mo_bridges 8 d_Mo_told_123 rfl mv_Mo_bridges lk_Mo_331 rfl rfl rfl rfl rfl ?_
    refine c_Mo_bridges V (fun s2 => ?_)
    refine kI ?_
    refine wp_V1 129 M_Mo_gives 1 d_Mo_told_126 rfl mv_Mo_gives lk_Mo_115 rfl rfl rfl rfl rfl ?_
    refine c_Mo_gives ?_
    refine kI ?_
    refine wp_ireturn d_Mo_told_129 rfl ?_
    have e : toF t w = _ := (((((((((((if_neg h1_0).trans (if_neg h1_1)).trans (if_neg h1_2)).trans (if_neg h1_3)).trans (if_neg h1_4)).trans (if_neg h1_5)).trans (if_neg h1_6)).trans (if_neg h1_7)).trans (if_neg h1_8)).trans (if_pos h1_9)).trans (congrArg (Prod.mk 0) (((((if_neg (by rw [h1_9]; decide)).trans (if_neg (by rw [h1_9]; decide))).trans (if_neg (by rw [h1_9]; decide))).trans (if_neg (by rw [h1_9]; decide))))))
    have h9 := hq s2
    rw [e] at h9
    exact h9
  by_cases h1_10 : w = 10
  · refine wp_tabIn (off := 129) 130 10 d_Mo_told_1 h1_10 (by decide) (by decide) (by decide) (by decide) ?_
    refine wp_aload_n 131 d_Mo_told_130 rfl rfl ?_
    refine wp_aload_n 132 d_Mo_told_131 rfl rfl ?_
    refine wp_V0 135 M_Mo_legsThere 3 d_Mo_told_132 rfl mv_Mo_legsThere lk_Mo_334 rfl rfl rfl rfl rfl ?_
    refine c_Mo_legsThere V ?_
    refine kI ?_
    refine wp_aload_n 136 d_Mo_told_135 rfl rfl ?_
    refine wp_getfield 139 12 0 d_Mo_told_136 rfl fl_Mo_7 rfl rfl ?_
    refine wp_iconst 140 0 d_Mo_told_139 rfl (by decide) ?_
    refine wp_iaload 141 d_Mo_told_140 rfl rfl (by first | exact vp_in_nI (n := 4) (N := 2332) (by omega) (by omega) | exact vp_in_nI (n := 6) (N := 2332) (by omega) (by omega) | exact vp_in_nI (n := 0) (N := 2332) (by omega) (by omega)) ?_
    rw [show m_at (0 : Int32).toNatClampNeg = nI t.nP from V.P]
    refine wp_isub 142 d_Mo_told_141 rfl ?_
    refine wp_aload_n 143 d_Mo_told_142 rfl rfl ?_
    refine wp_V0 146 M_Mo_parts 7 d_Mo_told_143 rfl mv_Mo_parts lk_Mo_322 rfl rfl rfl rfl rfl ?_
    refine c_Mo_parts V (fun s2 h2 => ?_)
    refine kI ?_
    refine wp_iadd 147 d_Mo_told_146 rfl ?_
    refine wp_V1 150 M_Mo_gives 1 d_Mo_told_147 rfl mv_Mo_gives lk_Mo_115 rfl rfl rfl rfl rfl ?_
    refine c_Mo_gives ?_
    refine kI ?_
    refine wp_ireturn d_Mo_told_150 rfl ?_
    have e : toF t w = _ := ((((((((((((if_neg h1_0).trans (if_neg h1_1)).trans (if_neg h1_2)).trans (if_neg h1_3)).trans (if_neg h1_4)).trans (if_neg h1_5)).trans (if_neg h1_6)).trans (if_neg h1_7)).trans (if_neg h1_8)).trans (if_neg h1_9)).trans (if_pos h1_10)).trans (congrArg (Prod.mk 0) ((((if_neg (by rw [h1_10]; decide)).trans (if_neg (by rw [h1_10]; decide))).trans (if_pos h1_10)))))
    have h9 := hq s2
    rw [e] at h9
    exact h9
  by_cases h1_11 : w = 11
  · refine wp_tabIn (off := 150) 151 11 d_Mo_told_1 h1_11 (by decide) (by decide) (by decide) (by decide) ?_
    refine wp_aload_n 152 d_Mo_told_151 rfl rfl ?_
    refine wp_aload_n 153 d_Mo_told_152 rfl rfl ?_
    refine wp_V0 156 M_Mo_isClosed 7 d_Mo_told_153 rfl mv_Mo_isClosed lk_Mo_337 rfl rfl rfl rfl rfl ?_
    refine c_Mo_isClosed V (fun s2 h2 => ?_)
    refine kI ?_
    (first | refine wp_ifP_eq 163 159 d_Mo_told_156 rfl (by decide) (fun h156 => ?_) (fun h156 => ?_) | refine wp_if_eq 163 159 d_Mo_told_156 rfl (by decide) (fun h156 => ?_) (fun h156 => ?_))
    · refine wp_iconst 164 0 d_Mo_told_163 rfl (by decide) ?_
      refine wp_V1 167 M_Mo_gives 1 d_Mo_told_164 rfl mv_Mo_gives lk_Mo_115 rfl rfl rfl rfl rfl ?_
      refine c_Mo_gives ?_
      refine kI ?_
      refine wp_ireturn d_Mo_told_167 rfl ?_
      have e : toF t w = _ := (((((((((((((if_neg h1_0).trans (if_neg h1_1)).trans (if_neg h1_2)).trans (if_neg h1_3)).trans (if_neg h1_4)).trans (if_neg h1_5)).trans (if_neg h1_6)).trans (if_neg h1_7)).trans (if_neg h1_8)).trans (if_neg h1_9)).trans (if_neg h1_10)).trans (if_pos h1_11)).trans (congrArg (Prod.mk 0) (((((((if_neg (by rw [h1_11]; decide)).trans (if_neg (by rw [h1_11]; decide))).trans (if_neg (by rw [h1_11]; decide))).trans (if_pos h1_11))).trans (bP_f h156)))))
      have h9 := hq s2
      rw [e] at h9
      exact h9
    · refine wp_iconst 160 1 d_Mo_told_159 rfl (by decide) ?_
      refine wp_goto 164 d_Mo_told_160 (by decide) ?_
      refine wp_V1 167 M_Mo_gives 1 d_Mo_told_164 rfl mv_Mo_gives lk_Mo_115 rfl rfl rfl rfl rfl ?_
      refine c_Mo_gives ?_
      refine kI ?_
      refine wp_ireturn d_Mo_told_167 rfl ?_
      have e : toF t w = _ := (((((((((((((if_neg h1_0).trans (if_neg h1_1)).trans (if_neg h1_2)).trans (if_neg h1_3)).trans (if_neg h1_4)).trans (if_neg h1_5)).trans (if_neg h1_6)).trans (if_neg h1_7)).trans (if_neg h1_8)).trans (if_neg h1_9)).trans (if_neg h1_10)).trans (if_pos h1_11)).trans (congrArg (Prod.mk 0) (((((((if_neg (by rw [h1_11]; decide)).trans (if_neg (by rw [h1_11]; decide))).trans (if_neg (by rw [h1_11]; decide))).trans (if_pos h1_11))).trans (bP_t h156)))))
      have h9 := hq s2
      rw [e] at h9
      exact h9
  refine wp_tabOut 168 d_Mo_told_1 (sw_out12 h1_0 h1_1 h1_2 h1_3 h1_4 h1_5 h1_6 h1_7 h1_8 h1_9 h1_10 h1_11) (by decide) ?_
  refine wp_aload_n 169 d_Mo_told_168 rfl rfl ?_
  refine wp_iconst 170 1 d_Mo_told_169 rfl (by decide) ?_
  refine wp_V1 173 M_Mo_refuse 1 d_Mo_told_170 rfl mv_Mo_refuse lk_Mo_111 rfl rfl rfl rfl rfl ?_
  refine c_Mo_refuse ?_
  refine kI ?_
  refine wp_ireturn d_Mo_told_173 rfl ?_
  have e : toF t w = _ := ((((((((((((if_neg h1_0).trans (if_neg h1_1)).trans (if_neg h1_2)).trans (if_neg h1_3)).trans (if_neg h1_4)).trans (if_neg h1_5)).trans (if_neg h1_6)).trans (if_neg h1_7)).trans (if_neg h1_8)).trans (if_neg h1_9)).trans (if_neg h1_10)).trans (if_neg h1_11))
  have h9 := hq (m_partBy, m_eastBy, m_northBy)
  rw [e] at h9
  exact h9

end T78
