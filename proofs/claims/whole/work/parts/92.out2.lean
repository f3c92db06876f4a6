/-! ===== the reference: out, outSet ===== -/
section T92
variable {Γ : Gm} {Q : Option Value → LH → Prop} {m_at m_sort m_trayMany m_tape m_text m_opened m_eastBy m_northBy m_partBy m_wayFaults m_wayEast m_wayNorth m_olds m_farBy m_rowBy m_triedBy m_doneAt m_gotAt m_struckAt m_bestDeed m_loops m_ran m_told1 : Nat → Int32} {m_names m_trays m_misBy : Nat → Int64} {m_status m_taped m_size m_token m_from m_end m_value m_faultKind m_faultPlace m_faults m_seen m_areOdds m_depth m_counted m_wayMany m_oneOfSet m_twoOfSet m_rowMany m_drawn m_ranSteps m_isTold m_marks : Int32} {m_top m_bottom : Int64} {t : TW}
set_option maxRecDepth 100000 in
set_option maxHeartbeats 4000000 in
theorem l_Mo_outBy_end (V : vT m_at t) {m i : Nat} {b v : Int32} {s : MS} (hb : ¬ b = -1) (hq : ∀ s : MS, Q (some (.int b)) (hM m_at m_names m_status m_top m_bottom m_sort m_trayMany m_trays m_tape m_text m_taped m_size m_token m_from m_end m_value m_faultKind m_faultPlace m_faults m_seen m_areOdds m_opened m_depth m_counted (s.2.1) (s.2.2) (s.1) m_wayFaults m_wayEast m_wayNorth m_olds m_wayMany m_oneOfSet m_twoOfSet m_farBy m_rowBy m_triedBy m_rowMany m_doneAt m_gotAt m_struckAt m_bestDeed m_misBy m_drawn m_ranSteps m_loops m_ran m_told1 m_isTold m_marks)) : WP Γ M_Mo_outBy 8 0 0 (hM (upd m_at 6 v) m_names m_status m_top m_bottom m_sort m_trayMany m_trays m_tape m_text m_taped m_size m_token m_from m_end m_value m_faultKind m_faultPlace m_faults m_seen m_areOdds m_opened m_depth m_counted (s.2.1) (s.2.2) (s.1) m_wayFaults m_wayEast m_wayNorth m_olds m_wayMany m_oneOfSet m_twoOfSet m_farBy m_rowBy m_triedBy m_rowMany m_doneAt m_gotAt m_struckAt m_bestDeed m_misBy m_drawn m_ranSteps m_loops m_ran m_told1 m_isTold m_marks) 13 [some (.ref 0), some (.int (nI m)), some (.int t.sk), some (.int (b)), some (.int (nI i))] [] Q := by
  refine wp_iload 15 d_Mo_outBy_13 rfl rfl ?_
  refine wp_iconst 16 1 d_Mo_outBy_15 rfl (by decide) ?_
  refine wp_aload_n 17 d_Mo_outBy_16 rfl rfl ?_
  refine wp_getfield 20 12 0 d_Mo_outBy_17 rfl fl_Mo_7 rfl rfl ?_
  refine wp_iconst 21 2 d_Mo_outBy_20 rfl (by decide) ?_
  refine wp_iaload 22 d_Mo_outBy_21 rfl rfl (by first | exact vp_in_nI (n := 2) (N := 2332) (by omega) (by omega) | exact vp_in_nI (n := 6) (N := 2332) (by omega) (by omega)) ?_
  rw [show upd m_at 6 v (2 : Int32).toNatClampNeg = nI t.nL from (if_neg (by decide)).trans V.L]
  refine wp_ishl 23 d_Mo_outBy_22 rfl ?_
  rw [show (1 : Int32) <<< (nI t.nL &&& 31) = nI (2 ^ t.nL) from bit_N13 t.nL (by have := V.ok.hL; omega)]
  refine wp_icmp_ge 77 26 d_Mo_outBy_23 rfl (by decide) (fun h23 => ?_) (fun h23 => ?_)
  · refine wp_aload_n 78 d_Mo_outBy_77 rfl rfl ?_
    refine wp_getfield 81 12 0 d_Mo_outBy_78 rfl fl_Mo_7 rfl rfl ?_
    refine wp_bipush 83 6 d_Mo_outBy_81 rfl (by decide) ?_
    refine wp_iload_n 84 d_Mo_outBy_83 rfl rfl ?_
    refine wp_iastore 85 d_Mo_outBy_84 rfl rfl (by first | exact vp_in_nI (n := 2) (N := 2332) (by omega) (by omega) | exact vp_in_nI (n := 6) (N := 2332) (by omega) (by omega)) ?_
    refine hEq (hM m_at m_names m_status m_top m_bottom m_sort m_trayMany m_trays m_tape m_text m_taped m_size m_token m_from m_end m_value m_faultKind m_faultPlace m_faults m_seen m_areOdds m_opened m_depth m_counted (s.2.1) (s.2.2) (s.1) m_wayFaults m_wayEast m_wayNorth m_olds m_wayMany m_oneOfSet m_twoOfSet m_farBy m_rowBy m_triedBy m_rowMany m_doneAt m_gotAt m_struckAt m_bestDeed m_misBy m_drawn m_ranSteps m_loops m_ran m_told1 m_isTold m_marks) (congrArg (fun a => (hM (a) m_names m_status m_top m_bottom m_sort m_trayMany m_trays m_tape m_text m_taped m_size m_token m_from m_end m_value m_faultKind m_faultPlace m_faults m_seen m_areOdds m_opened m_depth m_counted (s.2.1) (s.2.2) (s.1) m_wayFaults m_wayEast m_wayNorth m_olds m_wayMany m_oneOfSet m_twoOfSet m_farBy m_rowBy m_triedBy m_rowMany m_doneAt m_gotAt m_struckAt m_bestDeed m_misBy m_drawn m_ranSteps m_loops m_ran m_told1 m_isTold m_marks)) (show upd (upd m_at 6 v) 6 t.sk = m_at from upd_back V.sk)) ?_
    refine wp_iload_n 86 d_Mo_outBy_85 rfl rfl ?_
    refine wp_ireturn d_Mo_outBy_86 rfl ?_
    exact hq s
  · refine wp_iload_n 27 d_Mo_outBy_26 rfl rfl ?_
    refine wp_iconst 28 (-1) d_Mo_outBy_27 rfl (by decide) ?_
    refine wp_icmp_ne 77 31 d_Mo_outBy_28 rfl (by decide) (fun h28 => ?_) (fun h28 => ?_)
    · refine wp_aload_n 78 d_Mo_outBy_77 rfl rfl ?_
      refine wp_getfield 81 12 0 d_Mo_outBy_78 rfl fl_Mo_7 rfl rfl ?_
      refine wp_bipush 83 6 d_Mo_outBy_81 rfl (by decide) ?_
      refine wp_iload_n 84 d_Mo_outBy_83 rfl rfl ?_
      refine wp_iastore 85 d_Mo_outBy_84 rfl rfl (by first | exact vp_in_nI (n := 2) (N := 2332) (by omega) (by omega) | exact vp_in_nI (n := 6) (N := 2332) (by omega) (by omega)) ?_
      refine hEq (hM m_at m_names m_status m_top m_bottom m_sort m_trayMany m_trays m_tape m_text m_taped m_size m_token m_from m_end m_value m_faultKind m_faultPlace m_faults m_seen m_areOdds m_opened m_depth m_counted (s.2.1) (s.2.2) (s.1) m_wayFaults m_wayEast m_wayNorth m_olds m_wayMany m_oneOfSet m_twoOfSet m_farBy m_rowBy m_triedBy m_rowMany m_doneAt m_gotAt m_struckAt m_bestDeed m_misBy m_drawn m_ranSteps m_loops m_ran m_told1 m_isTold m_marks) (congrArg (fun a => (hM (a) m_names m_status m_top m_bottom m_sort m_trayMany m_trays m_tape m_text m_taped m_size m_token m_from m_end m_value m_faultKind m_faultPlace m_faults m_seen m_areOdds m_opened m_depth m_counted (s.2.1) (s.2.2) (s.1) m_wayFaults m_wayEast m_wayNorth m_olds m_wayMany m_oneOfSet m_twoOfSet m_farBy m_rowBy m_triedBy m_rowMany m_doneAt m_gotAt m_struckAt m_bestDeed m_misBy m_drawn m_ranSteps m_loops m_ran m_told1 m_isTold m_marks)) (show upd (upd m_at 6 v) 6 t.sk = m_at from upd_back V.sk)) ?_
      refine wp_iload_n 86 d_Mo_outBy_85 rfl rfl ?_
      refine wp_ireturn d_Mo_outBy_86 rfl ?_
      exact hq s
    · exact absurd h28 hb
set_option maxRecDepth 100000 in
set_option maxHeartbeats 4000000 in
theorem l_Mo_outBy_13 (V : vT m_at t) {m : Nat}  : ∀ (r i : Nat) (v : Int32) (s : MS), i + r = 2 ^ t.nL → ((∀ j, j < i → ¬ obP t m j) ∧ ∀ s : MS, Q (some (.int (obF t m))) (hM m_at m_names m_status m_top m_bottom m_sort m_trayMany m_trays m_tape m_text m_taped m_size m_token m_from m_end m_value m_faultKind m_faultPlace m_faults m_seen m_areOdds m_opened m_depth m_counted (s.2.1) (s.2.2) (s.1) m_wayFaults m_wayEast m_wayNorth m_olds m_wayMany m_oneOfSet m_twoOfSet m_farBy m_rowBy m_triedBy m_rowMany m_doneAt m_gotAt m_struckAt m_bestDeed m_misBy m_drawn m_ranSteps m_loops m_ran m_told1 m_isTold m_marks)) → WP Γ M_Mo_outBy 8 0 0 (hM (upd m_at 6 v) m_names m_status m_top m_bottom m_sort m_trayMany m_trays m_tape m_text m_taped m_size m_token m_from m_end m_value m_faultKind m_faultPlace m_faults m_seen m_areOdds m_opened m_depth m_counted (s.2.1) (s.2.2) (s.1) m_wayFaults m_wayEast m_wayNorth m_olds m_wayMany m_oneOfSet m_twoOfSet m_farBy m_rowBy m_triedBy m_rowMany m_doneAt m_gotAt m_struckAt m_bestDeed m_misBy m_drawn m_ranSteps m_loops m_ran m_told1 m_isTold m_marks) 13 [some (.ref 0), some (.int (nI m)), some (.int t.sk), some (.int (-1)), some (.int (nI i))] [] Q := by
  intro r
  induction r with
  | zero =>
    intro i v s hi hinv
    have h2L := pow_12 t.nL (by have := V.ok.hL; omega)
    obtain ⟨hno, hq⟩ := hinv
    refine wp_iload 15 d_Mo_outBy_13 rfl rfl ?_
    refine wp_iconst 16 1 d_Mo_outBy_15 rfl (by decide) ?_
    refine wp_aload_n 17 d_Mo_outBy_16 rfl rfl ?_
    refine wp_getfield 20 12 0 d_Mo_outBy_17 rfl fl_Mo_7 rfl rfl ?_
    refine wp_iconst 21 2 d_Mo_outBy_20 rfl (by decide) ?_
    refine wp_iaload 22 d_Mo_outBy_21 rfl rfl (by first | exact vp_in_nI (n := 2) (N := 2332) (by omega) (by omega) | exact vp_in_nI (n := 6) (N := 2332) (by omega) (by omega)) ?_
    rw [show upd m_at 6 v (2 : Int32).toNatClampNeg = nI t.nL from (if_neg (by decide)).trans V.L]
    refine wp_ishl 23 d_Mo_outBy_22 rfl ?_
    rw [show (1 : Int32) <<< (nI t.nL &&& 31) = nI (2 ^ t.nL) from bit_N13 t.nL (by have := V.ok.hL; omega)]
    refine wp_icmp_ge 77 26 d_Mo_outBy_23 rfl (by decide) (fun h23 => ?_) (fun h23 => ?_)
    · refine wp_aload_n 78 d_Mo_outBy_77 rfl rfl ?_
      refine wp_getfield 81 12 0 d_Mo_outBy_78 rfl fl_Mo_7 rfl rfl ?_
      refine wp_bipush 83 6 d_Mo_outBy_81 rfl (by decide) ?_
      refine wp_iload_n 84 d_Mo_outBy_83 rfl rfl ?_
      refine wp_iastore 85 d_Mo_outBy_84 rfl rfl (by first | exact vp_in_nI (n := 2) (N := 2332) (by omega) (by omega) | exact vp_in_nI (n := 6) (N := 2332) (by omega) (by omega)) ?_
      refine hEq (hM m_at m_names m_status m_top m_bottom m_sort m_trayMany m_trays m_tape m_text m_taped m_size m_token m_from m_end m_value m_faultKind m_faultPlace m_faults m_seen m_areOdds m_opened m_depth m_counted (s.2.1) (s.2.2) (s.1) m_wayFaults m_wayEast m_wayNorth m_olds m_wayMany m_oneOfSet m_twoOfSet m_farBy m_rowBy m_triedBy m_rowMany m_doneAt m_gotAt m_struckAt m_bestDeed m_misBy m_drawn m_ranSteps m_loops m_ran m_told1 m_isTold m_marks) (congrArg (fun a => (hM (a) m_names m_status m_top m_bottom m_sort m_trayMany m_trays m_tape m_text m_taped m_size m_token m_from m_end m_value m_faultKind m_faultPlace m_faults m_seen m_areOdds m_opened m_depth m_counted (s.2.1) (s.2.2) (s.1) m_wayFaults m_wayEast m_wayNorth m_olds m_wayMany m_oneOfSet m_twoOfSet m_farBy m_rowBy m_triedBy m_rowMany m_doneAt m_gotAt m_struckAt m_bestDeed m_misBy m_drawn m_ranSteps m_loops m_ran m_told1 m_isTold m_marks)) (show upd (upd m_at 6 v) 6 t.sk = m_at from upd_back V.sk)) ?_
      refine wp_iload_n 86 d_Mo_outBy_85 rfl rfl ?_
      refine wp_ireturn d_Mo_outBy_86 rfl ?_
      have e : obF t m = -1 := ffind_no (fun j _ hj => hno j (by omega))
      rw [e] at hq
      exact hq s
    · exact absurd ((nI_leI (a := 2 ^ t.nL) (by omega) (by omega)).mpr (by omega)) h23
  | succ r ih =>
    intro i v s hi hinv
    have h2L := pow_12 t.nL (by have := V.ok.hL; omega)
    obtain ⟨hno, hq⟩ := hinv
    refine wp_iload 15 d_Mo_outBy_13 rfl rfl ?_
    refine wp_iconst 16 1 d_Mo_outBy_15 rfl (by decide) ?_
    refine wp_aload_n 17 d_Mo_outBy_16 rfl rfl ?_
    refine wp_getfield 20 12 0 d_Mo_outBy_17 rfl fl_Mo_7 rfl rfl ?_
    refine wp_iconst 21 2 d_Mo_outBy_20 rfl (by decide) ?_
    refine wp_iaload 22 d_Mo_outBy_21 rfl rfl (by first | exact vp_in_nI (n := 2) (N := 2332) (by omega) (by omega) | exact vp_in_nI (n := 6) (N := 2332) (by omega) (by omega)) ?_
    rw [show upd m_at 6 v (2 : Int32).toNatClampNeg = nI t.nL from (if_neg (by decide)).trans V.L]
    refine wp_ishl 23 d_Mo_outBy_22 rfl ?_
    rw [show (1 : Int32) <<< (nI t.nL &&& 31) = nI (2 ^ t.nL) from bit_N13 t.nL (by have := V.ok.hL; omega)]
    refine wp_icmp_ge 77 26 d_Mo_outBy_23 rfl (by decide) (fun h23 => ?_) (fun h23 => ?_)
    · exact absurd (nI_leN (b := 2 ^ t.nL) h23 (by omega) (by omega)) (by omega)
    · refine wp_iload_n 27 d_Mo_outBy_26 rfl rfl ?_
      refine wp_iconst 28 (-1) d_Mo_outBy_27 rfl (by decide) ?_
      refine wp_icmp_ne 77 31 d_Mo_outBy_28 rfl (by decide) (fun h28 => ?_) (fun h28 => ?_)
      · exact absurd rfl h28
      · refine wp_iload 33 d_Mo_outBy_31 rfl rfl ?_
        refine wp_iload_n 34 d_Mo_outBy_33 rfl rfl ?_
        refine wp_iand 35 d_Mo_outBy_34 rfl ?_
        refine wp_if_ne 71 38 d_Mo_outBy_35 rfl (by decide) (fun h35 => ?_) (fun h35 => ?_)
        · first | refine wp_iincN_4 74 d_Mo_outBy_71 rfl rfl rfl ?_ | refine wp_iinc_4 74 1 d_Mo_outBy_71 rfl (by decide) rfl rfl ?_
          refine wp_goto 13 d_Mo_outBy_74 (by decide) ?_
          exact ih (i + 1) _ _ (by omega) ⟨fun j hj => (Nat.lt_or_ge j i).elim (hno j) (fun y z => by
            have e : j = i := by omega
            subst e
            exact h35 z.1.1), hq⟩
        · refine wp_iload 40 d_Mo_outBy_38 rfl rfl ?_
          refine wp_S1 43 M_Mo_bits 1 d_Mo_outBy_40 rfl ms_Mo_bits lk_Mo_363 rfl rfl ?_
          refine c_Mo_bits (vp_in_nI (by omega) (by omega)) ?_
          refine kI ?_
          refine wp_iload_n 44 d_Mo_outBy_43 rfl rfl ?_
          refine wp_icmp_eq 50 47 d_Mo_outBy_44 rfl (by decide) (fun h44 => ?_) (fun h44 => ?_)
          · refine wp_aload_n 51 d_Mo_outBy_50 rfl rfl ?_
            refine wp_getfield 54 12 0 d_Mo_outBy_51 rfl fl_Mo_7 rfl rfl ?_
            refine wp_bipush 56 6 d_Mo_outBy_54 rfl (by decide) ?_
            refine wp_iload_n 57 d_Mo_outBy_56 rfl rfl ?_
            refine wp_iload 59 d_Mo_outBy_57 rfl rfl ?_
            refine wp_ior 60 d_Mo_outBy_59 rfl ?_
            refine wp_iastore 61 d_Mo_outBy_60 rfl rfl (by first | exact vp_in_nI (n := 2) (N := 2332) (by omega) (by omega) | exact vp_in_nI (n := 6) (N := 2332) (by omega) (by omega)) ?_
            refine hEq (hM (upd m_at 6 (t.sk ||| nI i)) m_names m_status m_top m_bottom m_sort m_trayMany m_trays m_tape m_text m_taped m_size m_token m_from m_end m_value m_faultKind m_faultPlace m_faults m_seen m_areOdds m_opened m_depth m_counted (s.2.1) (s.2.2) (s.1) m_wayFaults m_wayEast m_wayNorth m_olds m_wayMany m_oneOfSet m_twoOfSet m_farBy m_rowBy m_triedBy m_rowMany m_doneAt m_gotAt m_struckAt m_bestDeed m_misBy m_drawn m_ranSteps m_loops m_ran m_told1 m_isTold m_marks) (congrArg (fun a => (hM (a) m_names m_status m_top m_bottom m_sort m_trayMany m_trays m_tape m_text m_taped m_size m_token m_from m_end m_value m_faultKind m_faultPlace m_faults m_seen m_areOdds m_opened m_depth m_counted (s.2.1) (s.2.2) (s.1) m_wayFaults m_wayEast m_wayNorth m_olds m_wayMany m_oneOfSet m_twoOfSet m_farBy m_rowBy m_triedBy m_rowMany m_doneAt m_gotAt m_struckAt m_bestDeed m_misBy m_drawn m_ranSteps m_loops m_ran m_told1 m_isTold m_marks)) (show upd (upd m_at 6 v) 6 (t.sk ||| nI i) = upd m_at 6 (t.sk ||| nI i) from upd2)) ?_
            refine wp_aload_n 62 d_Mo_outBy_61 rfl rfl ?_
            refine wp_V0 65 M_Mo_isClosed 7 d_Mo_outBy_62 rfl mv_Mo_isClosed lk_Mo_337 rfl rfl rfl rfl rfl ?_
            refine c_Mo_isClosed (vT_sk V (t.sk ||| nI i)) (fun s _ => ?_)
            refine kI ?_
            (first | refine wp_ifP_eq 71 68 d_Mo_outBy_65 rfl (by decide) (fun h65 => ?_) (fun h65 => ?_) | refine wp_if_eq 71 68 d_Mo_outBy_65 rfl (by decide) (fun h65 => ?_) (fun h65 => ?_))
            · first | refine wp_iincN_4 74 d_Mo_outBy_71 rfl rfl rfl ?_ | refine wp_iinc_4 74 1 d_Mo_outBy_71 rfl (by decide) rfl rfl ?_
              refine wp_goto 13 d_Mo_outBy_74 (by decide) ?_
              exact ih (i + 1) _ _ (by omega) ⟨fun j hj => (Nat.lt_or_ge j i).elim (hno j) (fun y z => by
                have e : j = i := by omega
                subst e
                exact h65 z.1.2), hq⟩
            · refine wp_iload 70 d_Mo_outBy_68 rfl rfl ?_
              refine wp_istore_3 71 d_Mo_outBy_70 rfl rfl rfl ?_
              first | refine wp_iincN_4 74 d_Mo_outBy_71 rfl rfl rfl ?_ | refine wp_iinc_4 74 1 d_Mo_outBy_71 rfl (by decide) rfl rfl ?_
              refine wp_goto 13 d_Mo_outBy_74 (by decide) ?_
              have e : obF t m = nI i := ffind_at (fun j _ hj => hno j hj) ⟨⟨h35, h65⟩, h44⟩ (by omega) (by omega)
              rw [e] at hq
              exact l_Mo_outBy_end V (nI_ne1 (by omega)) hq
          · refine wp_goto 71 d_Mo_outBy_47 (by decide) ?_
            first | refine wp_iincN_4 74 d_Mo_outBy_71 rfl rfl rfl ?_ | refine wp_iinc_4 74 1 d_Mo_outBy_71 rfl (by decide) rfl rfl ?_
            refine wp_goto 13 d_Mo_outBy_74 (by decide) ?_
            exact ih (i + 1) _ _ (by omega) ⟨fun j hj => (Nat.lt_or_ge j i).elim (hno j) (fun y z => by
              have e : j = i := by omega
              subst e
              exact h44 z.2), hq⟩

set_option maxRecDepth 100000 in
set_option maxHeartbeats 4000000 in
theorem c_Mo_outBy (V : vT m_at t) {m : Nat} (hq : ∀ s : MS, Q (some (.int (obF t m))) (hM m_at m_names m_status m_top m_bottom m_sort m_trayMany m_trays m_tape m_text m_taped m_size m_token m_from m_end m_value m_faultKind m_faultPlace m_faults m_seen m_areOdds m_opened m_depth m_counted (s.2.1) (s.2.2) (s.1) m_wayFaults m_wayEast m_wayNorth m_olds m_wayMany m_oneOfSet m_twoOfSet m_farBy m_rowBy m_triedBy m_rowMany m_doneAt m_gotAt m_struckAt m_bestDeed m_misBy m_drawn m_ranSteps m_loops m_ran m_told1 m_isTold m_marks)) : Call Γ M_Mo_outBy 8 0 0 [.ref 0, .int (nI m)] (hM m_at m_names m_status m_top m_bottom m_sort m_trayMany m_trays m_tape m_text m_taped m_size m_token m_from m_end m_value m_faultKind m_faultPlace m_faults m_seen m_areOdds m_opened m_depth m_counted m_eastBy m_northBy m_partBy m_wayFaults m_wayEast m_wayNorth m_olds m_wayMany m_oneOfSet m_twoOfSet m_farBy m_rowBy m_triedBy m_rowMany m_doneAt m_gotAt m_struckAt m_bestDeed m_misBy m_drawn m_ranSteps m_loops m_ran m_told1 m_isTold m_marks) Q := by
  refine call_intro (ls := [some (.ref 0), some (.int (nI m)), none, none, none]) rfl rfl rfl ?_
  refine wp_aload_n 1 d_Mo_outBy_0 rfl rfl ?_
  refine wp_getfield 4 12 0 d_Mo_outBy_1 rfl fl_Mo_7 rfl rfl ?_
  refine wp_bipush 6 6 d_Mo_outBy_4 rfl (by decide) ?_
  refine wp_iaload 7 d_Mo_outBy_6 rfl rfl (by first | exact vp_in_nI (n := 2) (N := 2332) (by omega) (by omega) | exact vp_in_nI (n := 6) (N := 2332) (by omega) (by omega)) ?_
  rw [show m_at (6 : Int32).toNatClampNeg = t.sk from V.sk]
  refine wp_istore_2 8 d_Mo_outBy_7 rfl rfl rfl ?_
  refine wp_iconst 9 (-1) d_Mo_outBy_8 rfl (by decide) ?_
  refine wp_istore_3 10 d_Mo_outBy_9 rfl rfl rfl ?_
  refine wp_iconst 11 0 d_Mo_outBy_10 rfl (by decide) ?_
  refine wp_istore_4 13 d_Mo_outBy_11 rfl rfl rfl ?_
  refine hEq (hM (upd m_at 6 t.sk) m_names m_status m_top m_bottom m_sort m_trayMany m_trays m_tape m_text m_taped m_size m_token m_from m_end m_value m_faultKind m_faultPlace m_faults m_seen m_areOdds m_opened m_depth m_counted ((m_partBy, m_eastBy, m_northBy).2.1) ((m_partBy, m_eastBy, m_northBy).2.2) ((m_partBy, m_eastBy, m_northBy).1) m_wayFaults m_wayEast m_wayNorth m_olds m_wayMany m_oneOfSet m_twoOfSet m_farBy m_rowBy m_triedBy m_rowMany m_doneAt m_gotAt m_struckAt m_bestDeed m_misBy m_drawn m_ranSteps m_loops m_ran m_told1 m_isTold m_marks) (congrArg (fun a => (hM (a) m_names m_status m_top m_bottom m_sort m_trayMany m_trays m_tape m_text m_taped m_size m_token m_from m_end m_value m_faultKind m_faultPlace m_faults m_seen m_areOdds m_opened m_depth m_counted m_eastBy m_northBy m_partBy m_wayFaults m_wayEast m_wayNorth m_olds m_wayMany m_oneOfSet m_twoOfSet m_farBy m_rowBy m_triedBy m_rowMany m_doneAt m_gotAt m_struckAt m_bestDeed m_misBy m_drawn m_ranSteps m_loops m_ran m_told1 m_isTold m_marks)) (show m_at = upd m_at 6 t.sk from (upd_self V.sk).symm)) ?_
  exact l_Mo_outBy_13 V (2 ^ t.nL) 0 t.sk (m_partBy, m_eastBy, m_northBy) (by omega) ⟨fun j hj => absurd hj (Nat.not_lt_zero j), hq⟩

set_option maxRecDepth 100000 in
set_option maxHeartbeats 4000000 in
theorem l_Mo_outOf_end {i : Nat} {b : Int32} {s : MS} (hb : ¬ b = -1) (hq : ∀ s : MS, Q (some (.int b)) (hM m_at m_names m_status m_top m_bottom m_sort m_trayMany m_trays m_tape m_text m_taped m_size m_token m_from m_end m_value m_faultKind m_faultPlace m_faults m_seen m_areOdds m_opened m_depth m_counted (s.2.1) (s.2.2) (s.1) m_wayFaults m_wayEast m_wayNorth m_olds m_wayMany m_oneOfSet m_twoOfSet m_farBy m_rowBy m_triedBy m_rowMany m_doneAt m_gotAt m_struckAt m_bestDeed m_misBy m_drawn m_ranSteps m_loops m_ran m_told1 m_isTold m_marks)) : WP Γ M_Mo_outOf 9 0 0 (hM m_at m_names m_status m_top m_bottom m_sort m_trayMany m_trays m_tape m_text m_taped m_size m_token m_from m_end m_value m_faultKind m_faultPlace m_faults m_seen m_areOdds m_opened m_depth m_counted (s.2.1) (s.2.2) (s.1) m_wayFaults m_wayEast m_wayNorth m_olds m_wayMany m_oneOfSet m_twoOfSet m_farBy m_rowBy m_triedBy m_rowMany m_doneAt m_gotAt m_struckAt m_bestDeed m_misBy m_drawn m_ranSteps m_loops m_ran m_told1 m_isTold m_marks) 4 [some (.ref 0), some (.int (b)), some (.int (nI i))] [] Q := by
  refine wp_iload_n 5 d_Mo_outOf_4 rfl rfl ?_
  refine wp_iconst 6 4 d_Mo_outOf_5 rfl (by decide) ?_
  refine wp_icmp_ge 26 9 d_Mo_outOf_6 rfl (by decide) (fun h6 => ?_) (fun h6 => ?_)
  · refine wp_iload_n 27 d_Mo_outOf_26 rfl rfl ?_
    refine wp_ireturn d_Mo_outOf_27 rfl ?_
    exact hq s
  · refine wp_iload_n 10 d_Mo_outOf_9 rfl rfl ?_
    refine wp_iconst 11 (-1) d_Mo_outOf_10 rfl (by decide) ?_
    refine wp_icmp_ne 26 14 d_Mo_outOf_11 rfl (by decide) (fun h11 => ?_) (fun h11 => ?_)
    · refine wp_iload_n 27 d_Mo_outOf_26 rfl rfl ?_
      refine wp_ireturn d_Mo_outOf_27 rfl ?_
      exact hq s
    · exact absurd h11 hb
set_option maxRecDepth 100000 in
set_option maxHeartbeats 4000000 in
theorem l_Mo_outOf_4 (V : vT m_at t)  : ∀ (r i : Nat) (s : MS), i + r = 4 → (∀ s : MS, Q (some (.int (ooR t r i))) (hM m_at m_names m_status m_top m_bottom m_sort m_trayMany m_trays m_tape m_text m_taped m_size m_token m_from m_end m_value m_faultKind m_faultPlace m_faults m_seen m_areOdds m_opened m_depth m_counted (s.2.1) (s.2.2) (s.1) m_wayFaults m_wayEast m_wayNorth m_olds m_wayMany m_oneOfSet m_twoOfSet m_farBy m_rowBy m_triedBy m_rowMany m_doneAt m_gotAt m_struckAt m_bestDeed m_misBy m_drawn m_ranSteps m_loops m_ran m_told1 m_isTold m_marks)) → WP Γ M_Mo_outOf 9 0 0 (hM m_at m_names m_status m_top m_bottom m_sort m_trayMany m_trays m_tape m_text m_taped m_size m_token m_from m_end m_value m_faultKind m_faultPlace m_faults m_seen m_areOdds m_opened m_depth m_counted (s.2.1) (s.2.2) (s.1) m_wayFaults m_wayEast m_wayNorth m_olds m_wayMany m_oneOfSet m_twoOfSet m_farBy m_rowBy m_triedBy m_rowMany m_doneAt m_gotAt m_struckAt m_bestDeed m_misBy m_drawn m_ranSteps m_loops m_ran m_told1 m_isTold m_marks) 4 [some (.ref 0), some (.int (-1)), some (.int (nI i))] [] Q := by
  intro r
  induction r with
  | zero =>
    intro i s hi hinv
    have hq := hinv
    refine wp_iload_n 5 d_Mo_outOf_4 rfl rfl ?_
    refine wp_iconst 6 4 d_Mo_outOf_5 rfl (by decide) ?_
    refine wp_icmp_ge 26 9 d_Mo_outOf_6 rfl (by decide) (fun h6 => ?_) (fun h6 => ?_)
    · refine wp_iload_n 27 d_Mo_outOf_26 rfl rfl ?_
      refine wp_ireturn d_Mo_outOf_27 rfl ?_
      exact hq s
    · exact absurd ((nI_leI (a := 4) (by omega) (by omega)).mpr (by omega)) h6
  | succ r ih =>
    intro i s hi hinv
    have hq := hinv
    refine wp_iload_n 5 d_Mo_outOf_4 rfl rfl ?_
    refine wp_iconst 6 4 d_Mo_outOf_5 rfl (by decide) ?_
    refine wp_icmp_ge 26 9 d_Mo_outOf_6 rfl (by decide) (fun h6 => ?_) (fun h6 => ?_)
    · exact absurd (nI_leN (b := 4) h6 (by omega) (by omega)) (by omega)
    · refine wp_iload_n 10 d_Mo_outOf_9 rfl rfl ?_
      refine wp_iconst 11 (-1) d_Mo_outOf_10 rfl (by decide) ?_
      refine wp_icmp_ne 26 14 d_Mo_outOf_11 rfl (by decide) (fun h11 => ?_) (fun h11 => ?_)
      · exact absurd rfl h11
      · refine wp_aload_n 15 d_Mo_outOf_14 rfl rfl ?_
        refine wp_iload_n 16 d_Mo_outOf_15 rfl rfl ?_
        refine wp_V1 19 M_Mo_outBy 8 d_Mo_outOf_16 rfl mv_Mo_outBy lk_Mo_383 rfl rfl rfl rfl rfl ?_
        refine c_Mo_outBy V (fun s => ?_)
        refine kI ?_
        refine wp_istore_1 20 d_Mo_outOf_19 rfl rfl rfl ?_
        first | refine wp_iincN_2 23 d_Mo_outOf_20 rfl rfl rfl ?_ | refine wp_iinc_2 23 1 d_Mo_outOf_20 rfl (by decide) rfl rfl ?_
        refine wp_goto 4 d_Mo_outOf_23 (by decide) ?_
        by_cases hb : obF t i = -1
        · have e : ooR t (r + 1) i = ooR t r (i + 1) := if_pos hb
          rw [e] at hq
          rw [hb]
          exact ih (i + 1) s (by omega) hq
        · have e : ooR t (r + 1) i = obF t i := if_neg hb
          rw [e] at hq
          exact l_Mo_outOf_end hb hq

set_option maxRecDepth 100000 in
set_option maxHeartbeats 4000000 in
theorem c_Mo_outOf (V : vT m_at t) (hq : ∀ s : MS, Q (some (.int (tOut t).2)) (hM m_at m_names m_status m_top m_bottom m_sort m_trayMany m_trays m_tape m_text m_taped m_size m_token m_from m_end m_value m_faultKind m_faultPlace m_faults m_seen m_areOdds m_opened m_depth m_counted (s.2.1) (s.2.2) (s.1) m_wayFaults m_wayEast m_wayNorth m_olds m_wayMany m_oneOfSet m_twoOfSet m_farBy m_rowBy m_triedBy m_rowMany m_doneAt m_gotAt m_struckAt m_bestDeed m_misBy m_drawn m_ranSteps m_loops m_ran m_told1 m_isTold m_marks)) : Call Γ M_Mo_outOf 9 0 0 [.ref 0] (hM m_at m_names m_status m_top m_bottom m_sort m_trayMany m_trays m_tape m_text m_taped m_size m_token m_from m_end m_value m_faultKind m_faultPlace m_faults m_seen m_areOdds m_opened m_depth m_counted m_eastBy m_northBy m_partBy m_wayFaults m_wayEast m_wayNorth m_olds m_wayMany m_oneOfSet m_twoOfSet m_farBy m_rowBy m_triedBy m_rowMany m_doneAt m_gotAt m_struckAt m_bestDeed m_misBy m_drawn m_ranSteps m_loops m_ran m_told1 m_isTold m_marks) Q := by
  refine call_intro (ls := [some (.ref 0), none, none]) rfl rfl rfl ?_
  refine wp_iconst 1 (-1) d_Mo_outOf_0 rfl (by decide) ?_
  refine wp_istore_1 2 d_Mo_outOf_1 rfl rfl rfl ?_
  refine wp_iconst 3 0 d_Mo_outOf_2 rfl (by decide) ?_
  refine wp_istore_2 4 d_Mo_outOf_3 rfl rfl rfl ?_
  exact l_Mo_outOf_4 V 4 0 (m_partBy, m_eastBy, m_northBy) (by omega) (by rw [← (oo_eq V.ok).1]; exact hq)

set_option maxRecDepth 100000 in
set_option maxHeartbeats 4000000 in
theorem c_Mo_out (V : vT m_at t) (hq : ∀ s : MS, Q (some (.int (ouF t).2)) (hM m_at m_names ((ouF t).1) m_top m_bottom m_sort m_trayMany m_trays m_tape m_text m_taped m_size m_token m_from m_end m_value m_faultKind m_faultPlace m_faults m_seen m_areOdds m_opened m_depth m_counted (s.2.1) (s.2.2) (s.1) m_wayFaults m_wayEast m_wayNorth m_olds m_wayMany m_oneOfSet m_twoOfSet m_farBy m_rowBy m_triedBy m_rowMany m_doneAt m_gotAt m_struckAt m_bestDeed m_misBy m_drawn m_ranSteps m_loops m_ran m_told1 m_isTold m_marks)) : Call Γ M_Mo_out 10 0 0 [.ref 0] (hM m_at m_names m_status m_top m_bottom m_sort m_trayMany m_trays m_tape m_text m_taped m_size m_token m_from m_end m_value m_faultKind m_faultPlace m_faults m_seen m_areOdds m_opened m_depth m_counted m_eastBy m_northBy m_partBy m_wayFaults m_wayEast m_wayNorth m_olds m_wayMany m_oneOfSet m_twoOfSet m_farBy m_rowBy m_triedBy m_rowMany m_doneAt m_gotAt m_struckAt m_bestDeed m_misBy m_drawn m_ranSteps m_loops m_ran m_told1 m_isTold m_marks) Q := by
  refine call_intro (ls := [some (.ref 0), none]) rfl rfl rfl ?_
  refine wp_aload_n 1 d_Mo_out_0 rfl rfl ?_
  refine wp_V0 4 M_Mo_outOf 9 d_Mo_out_1 rfl mv_Mo_outOf lk_Mo_386 rfl rfl rfl rfl rfl ?_
  refine c_Mo_outOf V (fun s => ?_)
  refine kI ?_
  refine wp_istore_1 5 d_Mo_out_4 rfl rfl rfl ?_
  refine wp_iload_n 6 d_Mo_out_5 rfl rfl ?_
  refine wp_iconst 7 (-1) d_Mo_out_6 rfl (by decide) ?_
  refine wp_icmp_ne 19 10 d_Mo_out_7 rfl (by decide) (fun h7 => ?_) (fun h7 => ?_)
  · refine wp_aload_n 20 d_Mo_out_19 rfl rfl ?_
    refine wp_iload_n 21 d_Mo_out_20 rfl rfl ?_
    refine wp_S1 24 M_Mo_bits 1 d_Mo_out_21 rfl ms_Mo_bits lk_Mo_363 rfl rfl ?_
    refine c_Mo_bits ((oo_eq V.ok).2 h7) ?_
    refine kI ?_
    refine wp_V1 27 M_Mo_gives 1 d_Mo_out_24 rfl mv_Mo_gives lk_Mo_115 rfl rfl rfl rfl rfl ?_
    refine c_Mo_gives ?_
    refine kI ?_
    refine wp_ireturn d_Mo_out_27 rfl ?_
    have e : ouF t = _ := (if_neg h7)
    have h9 := hq s
    rw [e] at h9
    exact h9
  · refine wp_aload_n 11 d_Mo_out_10 rfl rfl ?_
    refine wp_bipush 13 6 d_Mo_out_11 rfl (by decide) ?_
    refine wp_V1 16 M_Mo_refuse 1 d_Mo_out_13 rfl mv_Mo_refuse lk_Mo_111 rfl rfl rfl rfl rfl ?_
    refine c_Mo_refuse ?_
    refine kI ?_
    refine wp_goto 27 d_Mo_out_16 (by decide) ?_
    refine wp_ireturn d_Mo_out_27 rfl ?_
    have e : ouF t = _ := (if_pos h7)
    have h9 := hq s
    rw [e] at h9
    exact h9

set_option maxRecDepth 100000 in
set_option maxHeartbeats 4000000 in
theorem c_Mo_outSet (V : vT m_at t) (hq : ∀ s : MS, Q (some (.int (osF t).2)) (hM m_at m_names ((osF t).1) m_top m_bottom m_sort m_trayMany m_trays m_tape m_text m_taped m_size m_token m_from m_end m_value m_faultKind m_faultPlace m_faults m_seen m_areOdds m_opened m_depth m_counted (s.2.1) (s.2.2) (s.1) m_wayFaults m_wayEast m_wayNorth m_olds m_wayMany m_oneOfSet m_twoOfSet m_farBy m_rowBy m_triedBy m_rowMany m_doneAt m_gotAt m_struckAt m_bestDeed m_misBy m_drawn m_ranSteps m_loops m_ran m_told1 m_isTold m_marks)) : Call Γ M_Mo_outSet 10 0 0 [.ref 0] (hM m_at m_names m_status m_top m_bottom m_sort m_trayMany m_trays m_tape m_text m_taped m_size m_token m_from m_end m_value m_faultKind m_faultPlace m_faults m_seen m_areOdds m_opened m_depth m_counted m_eastBy m_northBy m_partBy m_wayFaults m_wayEast m_wayNorth m_olds m_wayMany m_oneOfSet m_twoOfSet m_farBy m_rowBy m_triedBy m_rowMany m_doneAt m_gotAt m_struckAt m_bestDeed m_misBy m_drawn m_ranSteps m_loops m_ran m_told1 m_isTold m_marks) Q := by
  refine call_intro (ls := [some (.ref 0)]) rfl rfl rfl ?_
  refine wp_aload_n 1 d_Mo_outSet_0 rfl rfl ?_
  refine wp_aload_n 2 d_Mo_outSet_1 rfl rfl ?_
  refine wp_V0 5 M_Mo_outOf 9 d_Mo_outSet_2 rfl mv_Mo_outOf lk_Mo_386 rfl rfl rfl rfl rfl ?_
  refine c_Mo_outOf V (fun s => ?_)
  refine kI ?_
  refine wp_V1 8 M_Mo_orNone 2 d_Mo_outSet_5 rfl mv_Mo_orNone lk_Mo_325 rfl rfl rfl rfl rfl ?_
  refine c_Mo_orNone ?_
  refine kI ?_
  refine wp_ireturn d_Mo_outSet_8 rfl ?_
  by_cases hb : (tOut t).2 = -1
  · have e : osF t = _ := if_pos hb
    have h9 := hq s
    rw [e] at h9
    rw [if_pos hb, hb]
    exact h9
  · have e : osF t = _ := if_neg hb
    have h9 := hq s
    rw [e] at h9
    rw [if_neg hb]
    exact h9

end T92
