/-! ===== the reference: new names ===== -/
theorem kw_2i {b : Nat → Int32} {L j : Nat} (h : ¬ kwR b L j = -1) : (gtF b L j).1 = 2 := Decidable.byContradiction (fun z => h (kw_n z))
abbrev isNm (b : Nat → Int32) (L j : Nat) : Prop := (gtF b L j).1 = 2 ∧ lnT b L j ≤ 8 ∧ kwR b L j = -1
/-- which of so many names stands there -/
def fnR (n : Nat → Int64) (b : Nat → Int32) (L j u v : Nat) : Int32 := ffind (fun k => n (u + k) = nmF b L (psF b L j) (lnT b L j)) 0 v
section TAN
variable {Γ : Gm} {Q : Option Value → LH → Prop} {m_at m_sort m_trayMany m_tape m_text m_opened m_eastBy m_northBy m_partBy m_wayFaults m_wayEast m_wayNorth m_olds m_farBy m_rowBy m_triedBy m_doneAt m_gotAt m_struckAt m_bestDeed m_loops m_ran m_told1 : Nat → Int32} {m_names m_trays m_misBy : Nat → Int64} {m_status m_taped m_size m_token m_from m_end m_value m_faultKind m_faultPlace m_faults m_seen m_areOdds m_depth m_counted m_wayMany m_oneOfSet m_twoOfSet m_rowMany m_drawn m_ranSteps m_isTold m_marks : Int32} {m_top m_bottom : Int64} {L j : Nat}
theorem c_findHereJ {u v : Nat} (hL : L ≤ 900) (hp : psF m_text L j ≤ L) (hu : u + v ≤ 66) (hq : Q (some (.int (fnR m_names m_text L j u v))) (hM m_at m_names m_status m_top m_bottom m_sort m_trayMany m_trays m_tape m_text m_taped ((nI L)) ((gtF m_text L j).1) ((nI (gtF m_text L j).2.1)) ((nI (gtF m_text L j).2.2.1)) ((gtF m_text L j).2.2.2) m_faultKind m_faultPlace m_faults m_seen m_areOdds m_opened m_depth m_counted m_eastBy m_northBy m_partBy m_wayFaults m_wayEast m_wayNorth m_olds m_wayMany m_oneOfSet m_twoOfSet m_farBy m_rowBy m_triedBy m_rowMany m_doneAt m_gotAt m_struckAt m_bestDeed m_misBy m_drawn m_ranSteps m_loops m_ran m_told1 m_isTold m_marks)) : Call Γ M_Mo_findHere 3 0 0 [.ref 0, .int (nI u), .int (nI v)] (hM m_at m_names m_status m_top m_bottom m_sort m_trayMany m_trays m_tape m_text m_taped ((nI L)) ((gtF m_text L j).1) ((nI (gtF m_text L j).2.1)) ((nI (gtF m_text L j).2.2.1)) ((gtF m_text L j).2.2.2) m_faultKind m_faultPlace m_faults m_seen m_areOdds m_opened m_depth m_counted m_eastBy m_northBy m_partBy m_wayFaults m_wayEast m_wayNorth m_olds m_wayMany m_oneOfSet m_twoOfSet m_farBy m_rowBy m_triedBy m_rowMany m_doneAt m_gotAt m_struckAt m_bestDeed m_misBy m_drawn m_ranSteps m_loops m_ran m_told1 m_isTold m_marks) Q := by
  have hf := g_fe (b := m_text) hp
  have e1 : (gtF m_text L j).2.2.1 = psF m_text L j + lnT m_text L j := by unfold lnT; omega
  rw [e1, hf.1] at hq ⊢
  exact c_Mo_findHere hL (by omega) hu hq
set_option maxRecDepth 100000 in
set_option maxHeartbeats 4000000 in
theorem c_Mo_isThere {c : Int32} (hL : L ≤ 900) (hb : ∀ k, k < L → b8 (m_text k)) (hp : psF m_text L j ≤ L) (hc : ¬ c = -1) (hq1 : kwR m_text L j = c → Q (some (.int 1)) (hM m_at m_names m_status m_top m_bottom m_sort m_trayMany m_trays m_tape m_text m_taped ((nI L)) ((gtF m_text L (j + 1)).1) ((nI (gtF m_text L (j + 1)).2.1)) ((nI (gtF m_text L (j + 1)).2.2.1)) ((gtF m_text L (j + 1)).2.2.2) m_faultKind m_faultPlace m_faults m_seen m_areOdds m_opened m_depth m_counted m_eastBy m_northBy m_partBy m_wayFaults m_wayEast m_wayNorth m_olds m_wayMany m_oneOfSet m_twoOfSet m_farBy m_rowBy m_triedBy m_rowMany m_doneAt m_gotAt m_struckAt m_bestDeed m_misBy m_drawn m_ranSteps m_loops m_ran m_told1 m_isTold m_marks)) (hq0 : ¬ kwR m_text L j = c → Q (some (.int 0)) (hM m_at m_names m_status m_top m_bottom m_sort m_trayMany m_trays m_tape m_text m_taped ((nI L)) ((gtF m_text L j).1) ((nI (gtF m_text L j).2.1)) ((nI (gtF m_text L j).2.2.1)) ((gtF m_text L j).2.2.2) m_faultKind m_faultPlace m_faults m_seen m_areOdds m_opened m_depth m_counted m_eastBy m_northBy m_partBy m_wayFaults m_wayEast m_wayNorth m_olds m_wayMany m_oneOfSet m_twoOfSet m_farBy m_rowBy m_triedBy m_rowMany m_doneAt m_gotAt m_struckAt m_bestDeed m_misBy m_drawn m_ranSteps m_loops m_ran m_told1 m_isTold m_marks)) : Call Γ M_Mo_isThere 7 0 0 [.ref 0, .int c] (hM m_at m_names m_status m_top m_bottom m_sort m_trayMany m_trays m_tape m_text m_taped ((nI L)) ((gtF m_text L j).1) ((nI (gtF m_text L j).2.1)) ((nI (gtF m_text L j).2.2.1)) ((gtF m_text L j).2.2.2) m_faultKind m_faultPlace m_faults m_seen m_areOdds m_opened m_depth m_counted m_eastBy m_northBy m_partBy m_wayFaults m_wayEast m_wayNorth m_olds m_wayMany m_oneOfSet m_twoOfSet m_farBy m_rowBy m_triedBy m_rowMany m_doneAt m_gotAt m_struckAt m_bestDeed m_misBy m_drawn m_ranSteps m_loops m_ran m_told1 m_isTold m_marks) Q := by
  refine call_intro (ls := [some (.ref 0), some (.int c)]) rfl rfl rfl ?_
  refine wp_aload_n 1 d_Mo_isThere_0 rfl rfl ?_
  refine wp_ldcS2 3 d_Mo_isThere_1 rfl rfl ?_
  refine wp_V1 6 M_Mo_inWords 6 d_Mo_isThere_3 rfl mv_Mo_inWords lk_Mo_196 rfl rfl rfl rfl rfl ?_
  refine c_inWordsJ hL hp ?_
  refine kI ?_
  refine wp_iload_n 7 d_Mo_isThere_6 rfl rfl ?_
  refine wp_icmp_eq 12 10 d_Mo_isThere_7 rfl (by decide) (fun h7 => ?_) (fun h7 => ?_)
  · have hlt := gt_lt (b := m_text) (L := L) (j := j) (by rw [kw_2i (by rw [h7]; exact hc)]; decide)
    refine wp_aload_n 13 d_Mo_isThere_12 rfl rfl ?_
    refine wp_V0 16 M_Mo_ahead 2 d_Mo_isThere_13 rfl mv_Mo_ahead lk_Mo_187 rfl rfl rfl rfl rfl ?_
    refine c_aheadJ hL hb hlt ?_
    refine kV ?_
    refine wp_iconst 17 1 d_Mo_isThere_16 rfl (by decide) ?_
    refine wp_zreturn d_Mo_isThere_17 rfl (by first | rfl | exact nbP _) ?_
    exact hq1 h7
  · refine wp_iconst 11 0 d_Mo_isThere_10 rfl (by decide) ?_
    refine wp_zreturn d_Mo_isThere_11 rfl (by first | rfl | exact nbP _) ?_
    exact hq0 h7

set_option maxRecDepth 100000 in
set_option maxHeartbeats 4000000 in
theorem c_Mo_newName {to_ nP nW : Nat} (hL : L ≤ 900) (hb : ∀ k, k < L → b8 (m_text k)) (hp : psF m_text L j ≤ L) (hf : m_faults = 0) (hto : to_ < 66) (hP : m_at 1800 = nI nP) (hW : m_at 1801 = nI nW) (hP7 : nP ≤ 7) (hW4 : nW ≤ 4) (hq1 : isNm m_text L j → fnR m_names m_text L j 44 nP = -1 → fnR m_names m_text L j 51 nW = -1 → Q (some (.int 1)) (hM m_at (vp_updL m_names to_ (nmF m_text L (psF m_text L j) (lnT m_text L j))) m_status m_top m_bottom m_sort m_trayMany m_trays m_tape m_text m_taped ((nI L)) ((gtF m_text L (j + 1)).1) ((nI (gtF m_text L (j + 1)).2.1)) ((nI (gtF m_text L (j + 1)).2.2.1)) ((gtF m_text L (j + 1)).2.2.2) m_faultKind m_faultPlace m_faults m_seen m_areOdds m_opened m_depth m_counted m_eastBy m_northBy m_partBy m_wayFaults m_wayEast m_wayNorth m_olds m_wayMany m_oneOfSet m_twoOfSet m_farBy m_rowBy m_triedBy m_rowMany m_doneAt m_gotAt m_struckAt m_bestDeed m_misBy m_drawn m_ranSteps m_loops m_ran m_told1 m_isTold m_marks)) (hq2 : ¬ isNm m_text L j → Q (some (.int 0)) (hM m_at m_names m_status m_top m_bottom m_sort m_trayMany m_trays m_tape m_text m_taped ((nI L)) ((gtF m_text L j).1) ((nI (gtF m_text L j).2.1)) ((nI (gtF m_text L j).2.2.1)) ((gtF m_text L j).2.2.2) m_faultKind ((nI (gtF m_text L j).2.1)) ((if (gtF m_text L j).1 = 1 then 1 else 2)) m_seen m_areOdds m_opened m_depth m_counted m_eastBy m_northBy m_partBy m_wayFaults m_wayEast m_wayNorth m_olds m_wayMany m_oneOfSet m_twoOfSet m_farBy m_rowBy m_triedBy m_rowMany m_doneAt m_gotAt m_struckAt m_bestDeed m_misBy m_drawn m_ranSteps m_loops m_ran m_told1 m_isTold m_marks)) (hq3 : isNm m_text L j → ¬ (fnR m_names m_text L j 44 nP = -1 ∧ fnR m_names m_text L j 51 nW = -1) → Q (some (.int 0)) (hM m_at m_names m_status m_top m_bottom m_sort m_trayMany m_trays m_tape m_text m_taped ((nI L)) ((gtF m_text L j).1) ((nI (gtF m_text L j).2.1)) ((nI (gtF m_text L j).2.2.1)) ((gtF m_text L j).2.2.2) m_faultKind ((nI (gtF m_text L j).2.1)) ((if (gtF m_text L j).1 = 1 then 1 else 3)) m_seen m_areOdds m_opened m_depth m_counted m_eastBy m_northBy m_partBy m_wayFaults m_wayEast m_wayNorth m_olds m_wayMany m_oneOfSet m_twoOfSet m_farBy m_rowBy m_triedBy m_rowMany m_doneAt m_gotAt m_struckAt m_bestDeed m_misBy m_drawn m_ranSteps m_loops m_ran m_told1 m_isTold m_marks)) : Call Γ M_Mo_newName 8 0 0 [.ref 0, .int (nI to_)] (hM m_at m_names m_status m_top m_bottom m_sort m_trayMany m_trays m_tape m_text m_taped ((nI L)) ((gtF m_text L j).1) ((nI (gtF m_text L j).2.1)) ((nI (gtF m_text L j).2.2.1)) ((gtF m_text L j).2.2.2) m_faultKind m_faultPlace m_faults m_seen m_areOdds m_opened m_depth m_counted m_eastBy m_northBy m_partBy m_wayFaults m_wayEast m_wayNorth m_olds m_wayMany m_oneOfSet m_twoOfSet m_farBy m_rowBy m_triedBy m_rowMany m_doneAt m_gotAt m_struckAt m_bestDeed m_misBy m_drawn m_ranSteps m_loops m_ran m_told1 m_isTold m_marks) Q := by
  refine call_intro (ls := [some (.ref 0), some (.int (nI to_))]) rfl rfl rfl ?_
  refine wp_aload_n 1 d_Mo_newName_0 rfl rfl ?_
  refine wp_ldcS2 3 d_Mo_newName_1 rfl rfl ?_
  refine wp_V1 6 M_Mo_isName 7 d_Mo_newName_3 rfl mv_Mo_isName lk_Mo_206 rfl rfl rfl rfl rfl ?_
  refine c_isNameJ hL hp ?_
  refine kI ?_
  (first | refine wp_ifP_ne 15 9 d_Mo_newName_6 rfl (by decide) (fun h6 => ?_) (fun h6 => ?_) | refine wp_if_ne 15 9 d_Mo_newName_6 rfl (by decide) (fun h6 => ?_) (fun h6 => ?_))
  · have hlt := gt_lt (b := m_text) (L := L) (j := j) (by rw [h6.1]; decide)
    refine wp_aload_n 16 d_Mo_newName_15 rfl rfl ?_
    refine wp_bipush 18 44 d_Mo_newName_16 rfl (by decide) ?_
    refine wp_aload_n 19 d_Mo_newName_18 rfl rfl ?_
    refine wp_getfield 22 12 0 d_Mo_newName_19 rfl fl_Mo_7 rfl rfl ?_
    refine wp_sipush 25 1800 d_Mo_newName_22 rfl (by decide) ?_
    refine wp_iaload 26 d_Mo_newName_25 rfl rfl (vp_in_nI (n := 1800) (N := 2332) (by omega) (by omega)) ?_
    rw [show m_at (1800 : Int32).toNatClampNeg = nI nP from hP]
    refine wp_V2 29 M_Mo_findHere 3 d_Mo_newName_26 rfl mv_Mo_findHere lk_Mo_210 rfl rfl rfl rfl rfl ?_
    refine c_findHereJ (u := 44) (v := nP) hL hp (by omega) ?_
    refine kI ?_
    refine wp_iconst 30 (-1) d_Mo_newName_29 rfl (by decide) ?_
    refine wp_icmp_ne 51 33 d_Mo_newName_30 rfl (by decide) (fun h30 => ?_) (fun h30 => ?_)
    · refine wp_aload_n 52 d_Mo_newName_51 rfl rfl ?_
      refine wp_iconst 53 3 d_Mo_newName_52 rfl (by decide) ?_
      refine wp_V1 56 M_Mo_fails 1 d_Mo_newName_53 rfl mv_Mo_fails lk_Mo_193 rfl rfl rfl rfl rfl ?_
      refine c_Mo_fails hf ?_
      refine kI ?_
      refine wp_zreturn d_Mo_newName_56 rfl (by first | rfl | exact nbP _) ?_
      exact hq3 h6 (fun z => h30 z.1)
    · refine wp_aload_n 34 d_Mo_newName_33 rfl rfl ?_
      refine wp_bipush 36 51 d_Mo_newName_34 rfl (by decide) ?_
      refine wp_aload_n 37 d_Mo_newName_36 rfl rfl ?_
      refine wp_getfield 40 12 0 d_Mo_newName_37 rfl fl_Mo_7 rfl rfl ?_
      refine wp_sipush 43 1801 d_Mo_newName_40 rfl (by decide) ?_
      refine wp_iaload 44 d_Mo_newName_43 rfl rfl (vp_in_nI (n := 1801) (N := 2332) (by omega) (by omega)) ?_
      rw [show m_at (1801 : Int32).toNatClampNeg = nI nW from hW]
      refine wp_V2 47 M_Mo_findHere 3 d_Mo_newName_44 rfl mv_Mo_findHere lk_Mo_210 rfl rfl rfl rfl rfl ?_
      refine c_findHereJ (u := 51) (v := nW) hL hp (by omega) ?_
      refine kI ?_
      refine wp_iconst 48 (-1) d_Mo_newName_47 rfl (by decide) ?_
      refine wp_icmp_eq 57 51 d_Mo_newName_48 rfl (by decide) (fun h48 => ?_) (fun h48 => ?_)
      · refine wp_aload_n 58 d_Mo_newName_57 rfl rfl ?_
        refine wp_getfield 61 12 1 d_Mo_newName_58 rfl fl_Mo_13 rfl rfl ?_
        refine wp_iload_n 62 d_Mo_newName_61 rfl rfl ?_
        refine wp_aload_n 63 d_Mo_newName_62 rfl rfl ?_
        refine wp_V0 66 M_Mo_nameHere 2 d_Mo_newName_63 rfl mv_Mo_nameHere lk_Mo_200 rfl rfl rfl rfl rfl ?_
        refine c_nameHereJ hL hp ?_
        refine kL ?_
        refine wp_lastoreN 67 d_Mo_newName_66 rfl rfl rfl (by omega) ?_
        refine hEq (hM m_at ((vp_updL m_names to_ (nmF m_text L (psF m_text L j) (lnT m_text L j)))) m_status m_top m_bottom m_sort m_trayMany m_trays m_tape m_text m_taped ((nI L)) ((gtF m_text L j).1) ((nI (gtF m_text L j).2.1)) ((nI (gtF m_text L j).2.2.1)) ((gtF m_text L j).2.2.2) m_faultKind m_faultPlace m_faults m_seen m_areOdds m_opened m_depth m_counted m_eastBy m_northBy m_partBy m_wayFaults m_wayEast m_wayNorth m_olds m_wayMany m_oneOfSet m_twoOfSet m_farBy m_rowBy m_triedBy m_rowMany m_doneAt m_gotAt m_struckAt m_bestDeed m_misBy m_drawn m_ranSteps m_loops m_ran m_told1 m_isTold m_marks) rfl ?_
        refine wp_aload_n 68 d_Mo_newName_67 rfl rfl ?_
        refine wp_V0 71 M_Mo_ahead 2 d_Mo_newName_68 rfl mv_Mo_ahead lk_Mo_187 rfl rfl rfl rfl rfl ?_
        refine c_aheadJ hL hb hlt ?_
        refine kV ?_
        refine wp_iconst 72 1 d_Mo_newName_71 rfl (by decide) ?_
        refine wp_zreturn d_Mo_newName_72 rfl (by first | rfl | exact nbP _) ?_
        exact hq1 h6 h30 h48
      · refine wp_aload_n 52 d_Mo_newName_51 rfl rfl ?_
        refine wp_iconst 53 3 d_Mo_newName_52 rfl (by decide) ?_
        refine wp_V1 56 M_Mo_fails 1 d_Mo_newName_53 rfl mv_Mo_fails lk_Mo_193 rfl rfl rfl rfl rfl ?_
        refine c_Mo_fails hf ?_
        refine kI ?_
        refine wp_zreturn d_Mo_newName_56 rfl (by first | rfl | exact nbP _) ?_
        exact hq3 h6 (fun z => h48 z.2)
  · refine wp_aload_n 10 d_Mo_newName_9 rfl rfl ?_
    refine wp_iconst 11 2 d_Mo_newName_10 rfl (by decide) ?_
    refine wp_V1 14 M_Mo_fails 1 d_Mo_newName_11 rfl mv_Mo_fails lk_Mo_193 rfl rfl rfl rfl rfl ?_
    refine c_Mo_fails hf ?_
    refine kI ?_
    refine wp_zreturn d_Mo_newName_14 rfl (by first | rfl | exact nbP _) ?_
    exact hq2 h6

set_option maxRecDepth 100000 in
set_option maxHeartbeats 4000000 in
theorem c_knownNW {to_ v : Nat} (hL : L ≤ 900) (hb : ∀ k, k < L → b8 (m_text k)) (hp : psF m_text L j ≤ L) (hf : m_faults = 0) (hto : to_ < 2332) (hv : m_at 1801 = nI v) (hv7 : v ≤ 4) (hq1 : isNm m_text L j → ¬ (fnR m_names m_text L j 51 v) = -1 → Q (some (.int 1)) (hM ((upd m_at to_ (fnR m_names m_text L j 51 v))) m_names m_status m_top m_bottom m_sort m_trayMany m_trays m_tape m_text m_taped ((nI L)) ((gtF m_text L (j + 1)).1) ((nI (gtF m_text L (j + 1)).2.1)) ((nI (gtF m_text L (j + 1)).2.2.1)) ((gtF m_text L (j + 1)).2.2.2) m_faultKind m_faultPlace m_faults m_seen m_areOdds m_opened m_depth m_counted m_eastBy m_northBy m_partBy m_wayFaults m_wayEast m_wayNorth m_olds m_wayMany m_oneOfSet m_twoOfSet m_farBy m_rowBy m_triedBy m_rowMany m_doneAt m_gotAt m_struckAt m_bestDeed m_misBy m_drawn m_ranSteps m_loops m_ran m_told1 m_isTold m_marks)) (hq2 : ¬ isNm m_text L j → Q (some (.int 0)) (hM m_at m_names m_status m_top m_bottom m_sort m_trayMany m_trays m_tape m_text m_taped ((nI L)) ((gtF m_text L j).1) ((nI (gtF m_text L j).2.1)) ((nI (gtF m_text L j).2.2.1)) ((gtF m_text L j).2.2.2) m_faultKind ((nI (gtF m_text L j).2.1)) ((if (gtF m_text L j).1 = 1 then 1 else 2)) m_seen m_areOdds m_opened m_depth m_counted m_eastBy m_northBy m_partBy m_wayFaults m_wayEast m_wayNorth m_olds m_wayMany m_oneOfSet m_twoOfSet m_farBy m_rowBy m_triedBy m_rowMany m_doneAt m_gotAt m_struckAt m_bestDeed m_misBy m_drawn m_ranSteps m_loops m_ran m_told1 m_isTold m_marks)) (hq3 : isNm m_text L j → (fnR m_names m_text L j 51 v) = -1 → Q (some (.int 0)) (hM ((upd m_at to_ (fnR m_names m_text L j 51 v))) m_names m_status m_top m_bottom m_sort m_trayMany m_trays m_tape m_text m_taped ((nI L)) ((gtF m_text L j).1) ((nI (gtF m_text L j).2.1)) ((nI (gtF m_text L j).2.2.1)) ((gtF m_text L j).2.2.2) m_faultKind ((nI (gtF m_text L j).2.1)) ((if (gtF m_text L j).1 = 1 then 1 else 3)) m_seen m_areOdds m_opened m_depth m_counted m_eastBy m_northBy m_partBy m_wayFaults m_wayEast m_wayNorth m_olds m_wayMany m_oneOfSet m_twoOfSet m_farBy m_rowBy m_triedBy m_rowMany m_doneAt m_gotAt m_struckAt m_bestDeed m_misBy m_drawn m_ranSteps m_loops m_ran m_told1 m_isTold m_marks)) : Call Γ M_Mo_knownTo 8 0 0 [.ref 0, .int 1800, .int 1, .int (nI to_)] (hM m_at m_names m_status m_top m_bottom m_sort m_trayMany m_trays m_tape m_text m_taped ((nI L)) ((gtF m_text L j).1) ((nI (gtF m_text L j).2.1)) ((nI (gtF m_text L j).2.2.1)) ((gtF m_text L j).2.2.2) m_faultKind m_faultPlace m_faults m_seen m_areOdds m_opened m_depth m_counted m_eastBy m_northBy m_partBy m_wayFaults m_wayEast m_wayNorth m_olds m_wayMany m_oneOfSet m_twoOfSet m_farBy m_rowBy m_triedBy m_rowMany m_doneAt m_gotAt m_struckAt m_bestDeed m_misBy m_drawn m_ranSteps m_loops m_ran m_told1 m_isTold m_marks) Q := by
  refine call_intro (ls := [some (.ref 0), some (.int 1800), some (.int 1), some (.int (nI to_)), none]) rfl rfl rfl ?_
  refine wp_aload_n 1 d_Mo_knownTo_0 rfl rfl ?_
  refine wp_ldcS2 3 d_Mo_knownTo_1 rfl rfl ?_
  refine wp_V1 6 M_Mo_isName 7 d_Mo_knownTo_3 rfl mv_Mo_isName lk_Mo_206 rfl rfl rfl rfl rfl ?_
  refine c_isNameJ hL hp ?_
  refine kI ?_
  (first | refine wp_ifP_ne 15 9 d_Mo_knownTo_6 rfl (by decide) (fun h6 => ?_) (fun h6 => ?_) | refine wp_if_ne 15 9 d_Mo_knownTo_6 rfl (by decide) (fun h6 => ?_) (fun h6 => ?_))
  · have hlt := gt_lt (b := m_text) (L := L) (j := j) (by rw [h6.1]; decide)
    refine wp_iload_n 16 d_Mo_knownTo_15 rfl rfl ?_
    refine wp_sipush 19 1800 d_Mo_knownTo_16 rfl (by decide) ?_
    refine wp_icmp_ne 27 22 d_Mo_knownTo_19 rfl (by decide) (fun h19 => ?_) (fun h19 => ?_)
    · exact absurd rfl h19
    · refine wp_bipush 24 44 d_Mo_knownTo_22 rfl (by decide) ?_
      refine wp_goto 28 d_Mo_knownTo_24 (by decide) ?_
      refine wp_istore_4 30 d_Mo_knownTo_28 rfl rfl rfl ?_
      refine wp_aload_n 31 d_Mo_knownTo_30 rfl rfl ?_
      refine wp_getfield 34 12 0 d_Mo_knownTo_31 rfl fl_Mo_7 rfl rfl ?_
      refine wp_iload_n 35 d_Mo_knownTo_34 rfl rfl ?_
      refine wp_iload_n 36 d_Mo_knownTo_35 rfl rfl ?_
      refine wp_if_eq 59 39 d_Mo_knownTo_36 rfl (by decide) (fun h36 => ?_) (fun h36 => ?_)
      · exact absurd h36 (by decide)
      · refine wp_aload_n 40 d_Mo_knownTo_39 rfl rfl ?_
        refine wp_iload 42 d_Mo_knownTo_40 rfl rfl ?_
        refine wp_bipush 44 7 d_Mo_knownTo_42 rfl (by decide) ?_
        refine wp_iadd 45 d_Mo_knownTo_44 rfl ?_
        rw [show (44 : Int32) + 7 = 51 from rfl]
        refine wp_aload_n 46 d_Mo_knownTo_45 rfl rfl ?_
        refine wp_getfield 49 12 0 d_Mo_knownTo_46 rfl fl_Mo_7 rfl rfl ?_
        refine wp_iload_n 50 d_Mo_knownTo_49 rfl rfl ?_
        refine wp_iconst 51 1 d_Mo_knownTo_50 rfl (by decide) ?_
        refine wp_iadd 52 d_Mo_knownTo_51 rfl ?_
        rw [show (1800 : Int32) + 1 = 1801 from rfl]
        refine wp_iaload 53 d_Mo_knownTo_52 rfl rfl (vp_in_nI (n := 1801) (N := 2332) (by omega) (by omega)) ?_
        rw [show m_at (1801 : Int32).toNatClampNeg = nI v from hv]
        refine wp_V2 56 M_Mo_findHere 3 d_Mo_knownTo_53 rfl mv_Mo_findHere lk_Mo_210 rfl rfl rfl rfl rfl ?_
        refine c_findHereJ (u := 51) (v := v) hL hp (by omega) ?_
        refine kI ?_
        refine wp_goto 73 d_Mo_knownTo_56 (by decide) ?_
        refine wp_iastoreN 74 d_Mo_knownTo_73 rfl rfl rfl (by omega) ?_
        refine hEq (hM ((upd m_at to_ (fnR m_names m_text L j 51 v))) m_names m_status m_top m_bottom m_sort m_trayMany m_trays m_tape m_text m_taped ((nI L)) ((gtF m_text L j).1) ((nI (gtF m_text L j).2.1)) ((nI (gtF m_text L j).2.2.1)) ((gtF m_text L j).2.2.2) m_faultKind m_faultPlace m_faults m_seen m_areOdds m_opened m_depth m_counted m_eastBy m_northBy m_partBy m_wayFaults m_wayEast m_wayNorth m_olds m_wayMany m_oneOfSet m_twoOfSet m_farBy m_rowBy m_triedBy m_rowMany m_doneAt m_gotAt m_struckAt m_bestDeed m_misBy m_drawn m_ranSteps m_loops m_ran m_told1 m_isTold m_marks) rfl ?_
        refine wp_aload_n 75 d_Mo_knownTo_74 rfl rfl ?_
        refine wp_getfield 78 12 0 d_Mo_knownTo_75 rfl fl_Mo_7 rfl rfl ?_
        refine wp_iload_n 79 d_Mo_knownTo_78 rfl rfl ?_
        refine wp_ialoadN 80 d_Mo_knownTo_79 rfl rfl rfl (by omega) ?_
        rw [upd_at]
        refine wp_iconst 81 (-1) d_Mo_knownTo_80 rfl (by decide) ?_
        refine wp_icmp_ne 90 84 d_Mo_knownTo_81 rfl (by decide) (fun h81 => ?_) (fun h81 => ?_)
        · refine wp_aload_n 91 d_Mo_knownTo_90 rfl rfl ?_
          refine wp_V0 94 M_Mo_ahead 2 d_Mo_knownTo_91 rfl mv_Mo_ahead lk_Mo_187 rfl rfl rfl rfl rfl ?_
          refine c_aheadJ hL hb hlt ?_
          refine kV ?_
          refine wp_iconst 95 1 d_Mo_knownTo_94 rfl (by decide) ?_
          refine wp_zreturn d_Mo_knownTo_95 rfl (by first | rfl | exact nbP _) ?_
          exact hq1 h6 h81
        · refine wp_aload_n 85 d_Mo_knownTo_84 rfl rfl ?_
          refine wp_iconst 86 3 d_Mo_knownTo_85 rfl (by decide) ?_
          refine wp_V1 89 M_Mo_fails 1 d_Mo_knownTo_86 rfl mv_Mo_fails lk_Mo_193 rfl rfl rfl rfl rfl ?_
          refine c_Mo_fails hf ?_
          refine kI ?_
          refine wp_zreturn d_Mo_knownTo_89 rfl (by first | rfl | exact nbP _) ?_
          exact hq3 h6 h81
  · refine wp_aload_n 10 d_Mo_knownTo_9 rfl rfl ?_
    refine wp_iconst 11 2 d_Mo_knownTo_10 rfl (by decide) ?_
    refine wp_V1 14 M_Mo_fails 1 d_Mo_knownTo_11 rfl mv_Mo_fails lk_Mo_193 rfl rfl rfl rfl rfl ?_
    refine c_Mo_fails hf ?_
    refine kI ?_
    refine wp_zreturn d_Mo_knownTo_14 rfl (by first | rfl | exact nbP _) ?_
    exact hq2 h6

set_option maxRecDepth 100000 in
set_option maxHeartbeats 4000000 in
theorem c_knownNP {to_ v : Nat} (hL : L ≤ 900) (hb : ∀ k, k < L → b8 (m_text k)) (hp : psF m_text L j ≤ L) (hf : m_faults = 0) (hto : to_ < 2332) (hv : m_at 1800 = nI v) (hv7 : v ≤ 7) (hq1 : isNm m_text L j → ¬ (fnR m_names m_text L j 44 v) = -1 → Q (some (.int 1)) (hM ((upd m_at to_ (fnR m_names m_text L j 44 v))) m_names m_status m_top m_bottom m_sort m_trayMany m_trays m_tape m_text m_taped ((nI L)) ((gtF m_text L (j + 1)).1) ((nI (gtF m_text L (j + 1)).2.1)) ((nI (gtF m_text L (j + 1)).2.2.1)) ((gtF m_text L (j + 1)).2.2.2) m_faultKind m_faultPlace m_faults m_seen m_areOdds m_opened m_depth m_counted m_eastBy m_northBy m_partBy m_wayFaults m_wayEast m_wayNorth m_olds m_wayMany m_oneOfSet m_twoOfSet m_farBy m_rowBy m_triedBy m_rowMany m_doneAt m_gotAt m_struckAt m_bestDeed m_misBy m_drawn m_ranSteps m_loops m_ran m_told1 m_isTold m_marks)) (hq2 : ¬ isNm m_text L j → Q (some (.int 0)) (hM m_at m_names m_status m_top m_bottom m_sort m_trayMany m_trays m_tape m_text m_taped ((nI L)) ((gtF m_text L j).1) ((nI (gtF m_text L j).2.1)) ((nI (gtF m_text L j).2.2.1)) ((gtF m_text L j).2.2.2) m_faultKind ((nI (gtF m_text L j).2.1)) ((if (gtF m_text L j).1 = 1 then 1 else 2)) m_seen m_areOdds m_opened m_depth m_counted m_eastBy m_northBy m_partBy m_wayFaults m_wayEast m_wayNorth m_olds m_wayMany m_oneOfSet m_twoOfSet m_farBy m_rowBy m_triedBy m_rowMany m_doneAt m_gotAt m_struckAt m_bestDeed m_misBy m_drawn m_ranSteps m_loops m_ran m_told1 m_isTold m_marks)) (hq3 : isNm m_text L j → (fnR m_names m_text L j 44 v) = -1 → Q (some (.int 0)) (hM ((upd m_at to_ (fnR m_names m_text L j 44 v))) m_names m_status m_top m_bottom m_sort m_trayMany m_trays m_tape m_text m_taped ((nI L)) ((gtF m_text L j).1) ((nI (gtF m_text L j).2.1)) ((nI (gtF m_text L j).2.2.1)) ((gtF m_text L j).2.2.2) m_faultKind ((nI (gtF m_text L j).2.1)) ((if (gtF m_text L j).1 = 1 then 1 else 3)) m_seen m_areOdds m_opened m_depth m_counted m_eastBy m_northBy m_partBy m_wayFaults m_wayEast m_wayNorth m_olds m_wayMany m_oneOfSet m_twoOfSet m_farBy m_rowBy m_triedBy m_rowMany m_doneAt m_gotAt m_struckAt m_bestDeed m_misBy m_drawn m_ranSteps m_loops m_ran m_told1 m_isTold m_marks)) : Call Γ M_Mo_knownTo 8 0 0 [.ref 0, .int 1800, .int 0, .int (nI to_)] (hM m_at m_names m_status m_top m_bottom m_sort m_trayMany m_trays m_tape m_text m_taped ((nI L)) ((gtF m_text L j).1) ((nI (gtF m_text L j).2.1)) ((nI (gtF m_text L j).2.2.1)) ((gtF m_text L j).2.2.2) m_faultKind m_faultPlace m_faults m_seen m_areOdds m_opened m_depth m_counted m_eastBy m_northBy m_partBy m_wayFaults m_wayEast m_wayNorth m_olds m_wayMany m_oneOfSet m_twoOfSet m_farBy m_rowBy m_triedBy m_rowMany m_doneAt m_gotAt m_struckAt m_bestDeed m_misBy m_drawn m_ranSteps m_loops m_ran m_told1 m_isTold m_marks) Q := by
  refine call_intro (ls := [some (.ref 0), some (.int 1800), some (.int 0), some (.int (nI to_)), none]) rfl rfl rfl ?_
  refine wp_aload_n 1 d_Mo_knownTo_0 rfl rfl ?_
  refine wp_ldcS2 3 d_Mo_knownTo_1 rfl rfl ?_
  refine wp_V1 6 M_Mo_isName 7 d_Mo_knownTo_3 rfl mv_Mo_isName lk_Mo_206 rfl rfl rfl rfl rfl ?_
  refine c_isNameJ hL hp ?_
  refine kI ?_
  (first | refine wp_ifP_ne 15 9 d_Mo_knownTo_6 rfl (by decide) (fun h6 => ?_) (fun h6 => ?_) | refine wp_if_ne 15 9 d_Mo_knownTo_6 rfl (by decide) (fun h6 => ?_) (fun h6 => ?_))
  · have hlt := gt_lt (b := m_text) (L := L) (j := j) (by rw [h6.1]; decide)
    refine wp_iload_n 16 d_Mo_knownTo_15 rfl rfl ?_
    refine wp_sipush 19 1800 d_Mo_knownTo_16 rfl (by decide) ?_
    refine wp_icmp_ne 27 22 d_Mo_knownTo_19 rfl (by decide) (fun h19 => ?_) (fun h19 => ?_)
    · exact absurd rfl h19
    · refine wp_bipush 24 44 d_Mo_knownTo_22 rfl (by decide) ?_
      refine wp_goto 28 d_Mo_knownTo_24 (by decide) ?_
      refine wp_istore_4 30 d_Mo_knownTo_28 rfl rfl rfl ?_
      refine wp_aload_n 31 d_Mo_knownTo_30 rfl rfl ?_
      refine wp_getfield 34 12 0 d_Mo_knownTo_31 rfl fl_Mo_7 rfl rfl ?_
      refine wp_iload_n 35 d_Mo_knownTo_34 rfl rfl ?_
      refine wp_iload_n 36 d_Mo_knownTo_35 rfl rfl ?_
      refine wp_if_eq 59 39 d_Mo_knownTo_36 rfl (by decide) (fun h36 => ?_) (fun h36 => ?_)
      · refine wp_aload_n 60 d_Mo_knownTo_59 rfl rfl ?_
        refine wp_iload 62 d_Mo_knownTo_60 rfl rfl ?_
        refine wp_aload_n 63 d_Mo_knownTo_62 rfl rfl ?_
        refine wp_getfield 66 12 0 d_Mo_knownTo_63 rfl fl_Mo_7 rfl rfl ?_
        refine wp_iload_n 67 d_Mo_knownTo_66 rfl rfl ?_
        refine wp_iconst 68 0 d_Mo_knownTo_67 rfl (by decide) ?_
        refine wp_iadd 69 d_Mo_knownTo_68 rfl ?_
        rw [show (1800 : Int32) + 0 = 1800 from rfl]
        refine wp_iaload 70 d_Mo_knownTo_69 rfl rfl (vp_in_nI (n := 1800) (N := 2332) (by omega) (by omega)) ?_
        rw [show m_at (1800 : Int32).toNatClampNeg = nI v from hv]
        refine wp_V2 73 M_Mo_findHere 3 d_Mo_knownTo_70 rfl mv_Mo_findHere lk_Mo_210 rfl rfl rfl rfl rfl ?_
        refine c_findHereJ (u := 44) (v := v) hL hp (by omega) ?_
        refine kI ?_
        refine wp_iastoreN 74 d_Mo_knownTo_73 rfl rfl rfl (by omega) ?_
        refine hEq (hM ((upd m_at to_ (fnR m_names m_text L j 44 v))) m_names m_status m_top m_bottom m_sort m_trayMany m_trays m_tape m_text m_taped ((nI L)) ((gtF m_text L j).1) ((nI (gtF m_text L j).2.1)) ((nI (gtF m_text L j).2.2.1)) ((gtF m_text L j).2.2.2) m_faultKind m_faultPlace m_faults m_seen m_areOdds m_opened m_depth m_counted m_eastBy m_northBy m_partBy m_wayFaults m_wayEast m_wayNorth m_olds m_wayMany m_oneOfSet m_twoOfSet m_farBy m_rowBy m_triedBy m_rowMany m_doneAt m_gotAt m_struckAt m_bestDeed m_misBy m_drawn m_ranSteps m_loops m_ran m_told1 m_isTold m_marks) rfl ?_
        refine wp_aload_n 75 d_Mo_knownTo_74 rfl rfl ?_
        refine wp_getfield 78 12 0 d_Mo_knownTo_75 rfl fl_Mo_7 rfl rfl ?_
        refine wp_iload_n 79 d_Mo_knownTo_78 rfl rfl ?_
        refine wp_ialoadN 80 d_Mo_knownTo_79 rfl rfl rfl (by omega) ?_
        rw [upd_at]
        refine wp_iconst 81 (-1) d_Mo_knownTo_80 rfl (by decide) ?_
        refine wp_icmp_ne 90 84 d_Mo_knownTo_81 rfl (by decide) (fun h81 => ?_) (fun h81 => ?_)
        · refine wp_aload_n 91 d_Mo_knownTo_90 rfl rfl ?_
          refine wp_V0 94 M_Mo_ahead 2 d_Mo_knownTo_91 rfl mv_Mo_ahead lk_Mo_187 rfl rfl rfl rfl rfl ?_
          refine c_aheadJ hL hb hlt ?_
          refine kV ?_
          refine wp_iconst 95 1 d_Mo_knownTo_94 rfl (by decide) ?_
          refine wp_zreturn d_Mo_knownTo_95 rfl (by first | rfl | exact nbP _) ?_
          exact hq1 h6 h81
        · refine wp_aload_n 85 d_Mo_knownTo_84 rfl rfl ?_
          refine wp_iconst 86 3 d_Mo_knownTo_85 rfl (by decide) ?_
          refine wp_V1 89 M_Mo_fails 1 d_Mo_knownTo_86 rfl mv_Mo_fails lk_Mo_193 rfl rfl rfl rfl rfl ?_
          refine c_Mo_fails hf ?_
          refine kI ?_
          refine wp_zreturn d_Mo_knownTo_89 rfl (by first | rfl | exact nbP _) ?_
          exact hq3 h6 h81
      · exact absurd rfl h36
  · refine wp_aload_n 10 d_Mo_knownTo_9 rfl rfl ?_
    refine wp_iconst 11 2 d_Mo_knownTo_10 rfl (by decide) ?_
    refine wp_V1 14 M_Mo_fails 1 d_Mo_knownTo_11 rfl mv_Mo_fails lk_Mo_193 rfl rfl rfl rfl rfl ?_
    refine c_Mo_fails hf ?_
    refine kI ?_
    refine wp_zreturn d_Mo_knownTo_14 rfl (by first | rfl | exact nbP _) ?_
    exact hq2 h6

set_option maxRecDepth 100000 in
set_option maxHeartbeats 4000000 in
theorem c_knownTWk {to_ v : Nat} (hL : L ≤ 900) (hb : ∀ k, k < L → b8 (m_text k)) (hp : psF m_text L j ≤ L) (hf : m_faults = 0) (hto : to_ < 2332) (hv : m_at 1 = nI v) (hv7 : v ≤ 4) (hq1 : isNm m_text L j → ¬ (fnR m_names m_text L j 7 v) = -1 → Q (some (.int 1)) (hM ((upd m_at to_ (fnR m_names m_text L j 7 v))) m_names m_status m_top m_bottom m_sort m_trayMany m_trays m_tape m_text m_taped ((nI L)) ((gtF m_text L (j + 1)).1) ((nI (gtF m_text L (j + 1)).2.1)) ((nI (gtF m_text L (j + 1)).2.2.1)) ((gtF m_text L (j + 1)).2.2.2) m_faultKind m_faultPlace m_faults m_seen m_areOdds m_opened m_depth m_counted m_eastBy m_northBy m_partBy m_wayFaults m_wayEast m_wayNorth m_olds m_wayMany m_oneOfSet m_twoOfSet m_farBy m_rowBy m_triedBy m_rowMany m_doneAt m_gotAt m_struckAt m_bestDeed m_misBy m_drawn m_ranSteps m_loops m_ran m_told1 m_isTold m_marks)) (hq2 : ¬ isNm m_text L j → Q (some (.int 0)) (hM m_at m_names m_status m_top m_bottom m_sort m_trayMany m_trays m_tape m_text m_taped ((nI L)) ((gtF m_text L j).1) ((nI (gtF m_text L j).2.1)) ((nI (gtF m_text L j).2.2.1)) ((gtF m_text L j).2.2.2) m_faultKind ((nI (gtF m_text L j).2.1)) ((if (gtF m_text L j).1 = 1 then 1 else 2)) m_seen m_areOdds m_opened m_depth m_counted m_eastBy m_northBy m_partBy m_wayFaults m_wayEast m_wayNorth m_olds m_wayMany m_oneOfSet m_twoOfSet m_farBy m_rowBy m_triedBy m_rowMany m_doneAt m_gotAt m_struckAt m_bestDeed m_misBy m_drawn m_ranSteps m_loops m_ran m_told1 m_isTold m_marks)) (hq3 : isNm m_text L j → (fnR m_names m_text L j 7 v) = -1 → Q (some (.int 0)) (hM ((upd m_at to_ (fnR m_names m_text L j 7 v))) m_names m_status m_top m_bottom m_sort m_trayMany m_trays m_tape m_text m_taped ((nI L)) ((gtF m_text L j).1) ((nI (gtF m_text L j).2.1)) ((nI (gtF m_text L j).2.2.1)) ((gtF m_text L j).2.2.2) m_faultKind ((nI (gtF m_text L j).2.1)) ((if (gtF m_text L j).1 = 1 then 1 else 3)) m_seen m_areOdds m_opened m_depth m_counted m_eastBy m_northBy m_partBy m_wayFaults m_wayEast m_wayNorth m_olds m_wayMany m_oneOfSet m_twoOfSet m_farBy m_rowBy m_triedBy m_rowMany m_doneAt m_gotAt m_struckAt m_bestDeed m_misBy m_drawn m_ranSteps m_loops m_ran m_told1 m_isTold m_marks)) : Call Γ M_Mo_knownTo 8 0 0 [.ref 0, .int 0, .int 1, .int (nI to_)] (hM m_at m_names m_status m_top m_bottom m_sort m_trayMany m_trays m_tape m_text m_taped ((nI L)) ((gtF m_text L j).1) ((nI (gtF m_text L j).2.1)) ((nI (gtF m_text L j).2.2.1)) ((gtF m_text L j).2.2.2) m_faultKind m_faultPlace m_faults m_seen m_areOdds m_opened m_depth m_counted m_eastBy m_northBy m_partBy m_wayFaults m_wayEast m_wayNorth m_olds m_wayMany m_oneOfSet m_twoOfSet m_farBy m_rowBy m_triedBy m_rowMany m_doneAt m_gotAt m_struckAt m_bestDeed m_misBy m_drawn m_ranSteps m_loops m_ran m_told1 m_isTold m_marks) Q := by
  refine call_intro (ls := [some (.ref 0), some (.int 0), some (.int 1), some (.int (nI to_)), none]) rfl rfl rfl ?_
  refine wp_aload_n 1 d_Mo_knownTo_0 rfl rfl ?_
  refine wp_ldcS2 3 d_Mo_knownTo_1 rfl rfl ?_
  refine wp_V1 6 M_Mo_isName 7 d_Mo_knownTo_3 rfl mv_Mo_isName lk_Mo_206 rfl rfl rfl rfl rfl ?_
  refine c_isNameJ hL hp ?_
  refine kI ?_
  (first | refine wp_ifP_ne 15 9 d_Mo_knownTo_6 rfl (by decide) (fun h6 => ?_) (fun h6 => ?_) | refine wp_if_ne 15 9 d_Mo_knownTo_6 rfl (by decide) (fun h6 => ?_) (fun h6 => ?_))
  · have hlt := gt_lt (b := m_text) (L := L) (j := j) (by rw [h6.1]; decide)
    refine wp_iload_n 16 d_Mo_knownTo_15 rfl rfl ?_
    refine wp_sipush 19 1800 d_Mo_knownTo_16 rfl (by decide) ?_
    refine wp_icmp_ne 27 22 d_Mo_knownTo_19 rfl (by decide) (fun h19 => ?_) (fun h19 => ?_)
    · refine wp_iconst 28 0 d_Mo_knownTo_27 rfl (by decide) ?_
      refine wp_istore_4 30 d_Mo_knownTo_28 rfl rfl rfl ?_
      refine wp_aload_n 31 d_Mo_knownTo_30 rfl rfl ?_
      refine wp_getfield 34 12 0 d_Mo_knownTo_31 rfl fl_Mo_7 rfl rfl ?_
      refine wp_iload_n 35 d_Mo_knownTo_34 rfl rfl ?_
      refine wp_iload_n 36 d_Mo_knownTo_35 rfl rfl ?_
      refine wp_if_eq 59 39 d_Mo_knownTo_36 rfl (by decide) (fun h36 => ?_) (fun h36 => ?_)
      · exact absurd h36 (by decide)
      · refine wp_aload_n 40 d_Mo_knownTo_39 rfl rfl ?_
        refine wp_iload 42 d_Mo_knownTo_40 rfl rfl ?_
        refine wp_bipush 44 7 d_Mo_knownTo_42 rfl (by decide) ?_
        refine wp_iadd 45 d_Mo_knownTo_44 rfl ?_
        rw [show (0 : Int32) + 7 = 7 from rfl]
        refine wp_aload_n 46 d_Mo_knownTo_45 rfl rfl ?_
        refine wp_getfield 49 12 0 d_Mo_knownTo_46 rfl fl_Mo_7 rfl rfl ?_
        refine wp_iload_n 50 d_Mo_knownTo_49 rfl rfl ?_
        refine wp_iconst 51 1 d_Mo_knownTo_50 rfl (by decide) ?_
        refine wp_iadd 52 d_Mo_knownTo_51 rfl ?_
        rw [show (0 : Int32) + 1 = 1 from rfl]
        refine wp_iaload 53 d_Mo_knownTo_52 rfl rfl (vp_in_nI (n := 1) (N := 2332) (by omega) (by omega)) ?_
        rw [show m_at (1 : Int32).toNatClampNeg = nI v from hv]
        refine wp_V2 56 M_Mo_findHere 3 d_Mo_knownTo_53 rfl mv_Mo_findHere lk_Mo_210 rfl rfl rfl rfl rfl ?_
        refine c_findHereJ (u := 7) (v := v) hL hp (by omega) ?_
        refine kI ?_
        refine wp_goto 73 d_Mo_knownTo_56 (by decide) ?_
        refine wp_iastoreN 74 d_Mo_knownTo_73 rfl rfl rfl (by omega) ?_
        refine hEq (hM ((upd m_at to_ (fnR m_names m_text L j 7 v))) m_names m_status m_top m_bottom m_sort m_trayMany m_trays m_tape m_text m_taped ((nI L)) ((gtF m_text L j).1) ((nI (gtF m_text L j).2.1)) ((nI (gtF m_text L j).2.2.1)) ((gtF m_text L j).2.2.2) m_faultKind m_faultPlace m_faults m_seen m_areOdds m_opened m_depth m_counted m_eastBy m_northBy m_partBy m_wayFaults m_wayEast m_wayNorth m_olds m_wayMany m_oneOfSet m_twoOfSet m_farBy m_rowBy m_triedBy m_rowMany m_doneAt m_gotAt m_struckAt m_bestDeed m_misBy m_drawn m_ranSteps m_loops m_ran m_told1 m_isTold m_marks) rfl ?_
        refine wp_aload_n 75 d_Mo_knownTo_74 rfl rfl ?_
        refine wp_getfield 78 12 0 d_Mo_knownTo_75 rfl fl_Mo_7 rfl rfl ?_
        refine wp_iload_n 79 d_Mo_knownTo_78 rfl rfl ?_
        refine wp_ialoadN 80 d_Mo_knownTo_79 rfl rfl rfl (by omega) ?_
        rw [upd_at]
        refine wp_iconst 81 (-1) d_Mo_knownTo_80 rfl (by decide) ?_
        refine wp_icmp_ne 90 84 d_Mo_knownTo_81 rfl (by decide) (fun h81 => ?_) (fun h81 => ?_)
        · refine wp_aload_n 91 d_Mo_knownTo_90 rfl rfl ?_
          refine wp_V0 94 M_Mo_ahead 2 d_Mo_knownTo_91 rfl mv_Mo_ahead lk_Mo_187 rfl rfl rfl rfl rfl ?_
          refine c_aheadJ hL hb hlt ?_
          refine kV ?_
          refine wp_iconst 95 1 d_Mo_knownTo_94 rfl (by decide) ?_
          refine wp_zreturn d_Mo_knownTo_95 rfl (by first | rfl | exact nbP _) ?_
          exact hq1 h6 h81
        · refine wp_aload_n 85 d_Mo_knownTo_84 rfl rfl ?_
          refine wp_iconst 86 3 d_Mo_knownTo_85 rfl (by decide) ?_
          refine wp_V1 89 M_Mo_fails 1 d_Mo_knownTo_86 rfl mv_Mo_fails lk_Mo_193 rfl rfl rfl rfl rfl ?_
          refine c_Mo_fails hf ?_
          refine kI ?_
          refine wp_zreturn d_Mo_knownTo_89 rfl (by first | rfl | exact nbP _) ?_
          exact hq3 h6 h81
    · exact absurd h19 (by decide)
  · refine wp_aload_n 10 d_Mo_knownTo_9 rfl rfl ?_
    refine wp_iconst 11 2 d_Mo_knownTo_10 rfl (by decide) ?_
    refine wp_V1 14 M_Mo_fails 1 d_Mo_knownTo_11 rfl mv_Mo_fails lk_Mo_193 rfl rfl rfl rfl rfl ?_
    refine c_Mo_fails hf ?_
    refine kI ?_
    refine wp_zreturn d_Mo_knownTo_14 rfl (by first | rfl | exact nbP _) ?_
    exact hq2 h6

set_option maxRecDepth 100000 in
set_option maxHeartbeats 4000000 in
theorem c_knownTPl {to_ v : Nat} (hL : L ≤ 900) (hb : ∀ k, k < L → b8 (m_text k)) (hp : psF m_text L j ≤ L) (hf : m_faults = 0) (hto : to_ < 2332) (hv : m_at 0 = nI v) (hv7 : v ≤ 7) (hq1 : isNm m_text L j → ¬ (fnR m_names m_text L j 0 v) = -1 → Q (some (.int 1)) (hM ((upd m_at to_ (fnR m_names m_text L j 0 v))) m_names m_status m_top m_bottom m_sort m_trayMany m_trays m_tape m_text m_taped ((nI L)) ((gtF m_text L (j + 1)).1) ((nI (gtF m_text L (j + 1)).2.1)) ((nI (gtF m_text L (j + 1)).2.2.1)) ((gtF m_text L (j + 1)).2.2.2) m_faultKind m_faultPlace m_faults m_seen m_areOdds m_opened m_depth m_counted m_eastBy m_northBy m_partBy m_wayFaults m_wayEast m_wayNorth m_olds m_wayMany m_oneOfSet m_twoOfSet m_farBy m_rowBy m_triedBy m_rowMany m_doneAt m_gotAt m_struckAt m_bestDeed m_misBy m_drawn m_ranSteps m_loops m_ran m_told1 m_isTold m_marks)) (hq2 : ¬ isNm m_text L j → Q (some (.int 0)) (hM m_at m_names m_status m_top m_bottom m_sort m_trayMany m_trays m_tape m_text m_taped ((nI L)) ((gtF m_text L j).1) ((nI (gtF m_text L j).2.1)) ((nI (gtF m_text L j).2.2.1)) ((gtF m_text L j).2.2.2) m_faultKind ((nI (gtF m_text L j).2.1)) ((if (gtF m_text L j).1 = 1 then 1 else 2)) m_seen m_areOdds m_opened m_depth m_counted m_eastBy m_northBy m_partBy m_wayFaults m_wayEast m_wayNorth m_olds m_wayMany m_oneOfSet m_twoOfSet m_farBy m_rowBy m_triedBy m_rowMany m_doneAt m_gotAt m_struckAt m_bestDeed m_misBy m_drawn m_ranSteps m_loops m_ran m_told1 m_isTold m_marks)) (hq3 : isNm m_text L j → (fnR m_names m_text L j 0 v) = -1 → Q (some (.int 0)) (hM ((upd m_at to_ (fnR m_names m_text L j 0 v))) m_names m_status m_top m_bottom m_sort m_trayMany m_trays m_tape m_text m_taped ((nI L)) ((gtF m_text L j).1) ((nI (gtF m_text L j).2.1)) ((nI (gtF m_text L j).2.2.1)) ((gtF m_text L j).2.2.2) m_faultKind ((nI (gtF m_text L j).2.1)) ((if (gtF m_text L j).1 = 1 then 1 else 3)) m_seen m_areOdds m_opened m_depth m_counted m_eastBy m_northBy m_partBy m_wayFaults m_wayEast m_wayNorth m_olds m_wayMany m_oneOfSet m_twoOfSet m_farBy m_rowBy m_triedBy m_rowMany m_doneAt m_gotAt m_struckAt m_bestDeed m_misBy m_drawn m_ranSteps m_loops m_ran m_told1 m_isTold m_marks)) : Call Γ M_Mo_knownTo 8 0 0 [.ref 0, .int 0, .int 0, .int (nI to_)] (hM m_at m_names m_status m_top m_bottom m_sort m_trayMany m_trays m_tape m_text m_taped ((nI L)) ((gtF m_text L j).1) ((nI (gtF m_text L j).2.1)) ((nI (gtF m_text L j).2.2.1)) ((gtF m_text L j).2.2.2) m_faultKind m_faultPlace m_faults m_seen m_areOdds m_opened m_depth m_counted m_eastBy m_northBy m_partBy m_wayFaults m_wayEast m_wayNorth m_olds m_wayMany m_oneOfSet m_twoOfSet m_farBy m_rowBy m_triedBy m_rowMany m_doneAt m_gotAt m_struckAt m_bestDeed m_misBy m_drawn m_ranSteps m_loops m_ran m_told1 m_isTold m_marks) Q := by
  refine call_intro (ls := [some (.ref 0), some (.int 0), some (.int 0), some (.int (nI to_)), none]) rfl rfl rfl ?_
  refine wp_aload_n 1 d_Mo_knownTo_0 rfl rfl ?_
  refine wp_ldcS2 3 d_Mo_knownTo_1 rfl rfl ?_
  refine wp_V1 6 M_Mo_isName 7 d_Mo_knownTo_3 rfl mv_Mo_isName lk_Mo_206 rfl rfl rfl rfl rfl ?_
  refine c_isNameJ hL hp ?_
  refine kI ?_
  (first | refine wp_ifP_ne 15 9 d_Mo_knownTo_6 rfl (by decide) (fun h6 => ?_) (fun h6 => ?_) | refine wp_if_ne 15 9 d_Mo_knownTo_6 rfl (by decide) (fun h6 => ?_) (fun h6 => ?_))
  · have hlt := gt_lt (b := m_text) (L := L) (j := j) (by rw [h6.1]; decide)
    refine wp_iload_n 16 d_Mo_knownTo_15 rfl rfl ?_
    refine wp_sipush 19 1800 d_Mo_knownTo_16 rfl (by decide) ?_
    refine wp_icmp_ne 27 22 d_Mo_knownTo_19 rfl (by decide) (fun h19 => ?_) (fun h19 => ?_)
    · refine wp_iconst 28 0 d_Mo_knownTo_27 rfl (by decide) ?_
      refine wp_istore_4 30 d_Mo_knownTo_28 rfl rfl rfl ?_
      refine wp_aload_n 31 d_Mo_knownTo_30 rfl rfl ?_
      refine wp_getfield 34 12 0 d_Mo_knownTo_31 rfl fl_Mo_7 rfl rfl ?_
      refine wp_iload_n 35 d_Mo_knownTo_34 rfl rfl ?_
      refine wp_iload_n 36 d_Mo_knownTo_35 rfl rfl ?_
      refine wp_if_eq 59 39 d_Mo_knownTo_36 rfl (by decide) (fun h36 => ?_) (fun h36 => ?_)
      · refine wp_aload_n 60 d_Mo_knownTo_59 rfl rfl ?_
        refine wp_iload 62 d_Mo_knownTo_60 rfl rfl ?_
        refine wp_aload_n 63 d_Mo_knownTo_62 rfl rfl ?_
        refine wp_getfield 66 12 0 d_Mo_knownTo_63 rfl fl_Mo_7 rfl rfl ?_
        refine wp_iload_n 67 d_Mo_knownTo_66 rfl rfl ?_
        refine wp_iconst 68 0 d_Mo_knownTo_67 rfl (by decide) ?_
        refine wp_iadd 69 d_Mo_knownTo_68 rfl ?_
        rw [show (0 : Int32) + 0 = 0 from rfl]
        refine wp_iaload 70 d_Mo_knownTo_69 rfl rfl (vp_in_nI (n := 0) (N := 2332) (by omega) (by omega)) ?_
        rw [show m_at (0 : Int32).toNatClampNeg = nI v from hv]
        refine wp_V2 73 M_Mo_findHere 3 d_Mo_knownTo_70 rfl mv_Mo_findHere lk_Mo_210 rfl rfl rfl rfl rfl ?_
        refine c_findHereJ (u := 0) (v := v) hL hp (by omega) ?_
        refine kI ?_
        refine wp_iastoreN 74 d_Mo_knownTo_73 rfl rfl rfl (by omega) ?_
        refine hEq (hM ((upd m_at to_ (fnR m_names m_text L j 0 v))) m_names m_status m_top m_bottom m_sort m_trayMany m_trays m_tape m_text m_taped ((nI L)) ((gtF m_text L j).1) ((nI (gtF m_text L j).2.1)) ((nI (gtF m_text L j).2.2.1)) ((gtF m_text L j).2.2.2) m_faultKind m_faultPlace m_faults m_seen m_areOdds m_opened m_depth m_counted m_eastBy m_northBy m_partBy m_wayFaults m_wayEast m_wayNorth m_olds m_wayMany m_oneOfSet m_twoOfSet m_farBy m_rowBy m_triedBy m_rowMany m_doneAt m_gotAt m_struckAt m_bestDeed m_misBy m_drawn m_ranSteps m_loops m_ran m_told1 m_isTold m_marks) rfl ?_
        refine wp_aload_n 75 d_Mo_knownTo_74 rfl rfl ?_
        refine wp_getfield 78 12 0 d_Mo_knownTo_75 rfl fl_Mo_7 rfl rfl ?_
        refine wp_iload_n 79 d_Mo_knownTo_78 rfl rfl ?_
        refine wp_ialoadN 80 d_Mo_knownTo_79 rfl rfl rfl (by omega) ?_
        rw [upd_at]
        refine wp_iconst 81 (-1) d_Mo_knownTo_80 rfl (by decide) ?_
        refine wp_icmp_ne 90 84 d_Mo_knownTo_81 rfl (by decide) (fun h81 => ?_) (fun h81 => ?_)
        · refine wp_aload_n 91 d_Mo_knownTo_90 rfl rfl ?_
          refine wp_V0 94 M_Mo_ahead 2 d_Mo_knownTo_91 rfl mv_Mo_ahead lk_Mo_187 rfl rfl rfl rfl rfl ?_
          refine c_aheadJ hL hb hlt ?_
          refine kV ?_
          refine wp_iconst 95 1 d_Mo_knownTo_94 rfl (by decide) ?_
          refine wp_zreturn d_Mo_knownTo_95 rfl (by first | rfl | exact nbP _) ?_
          exact hq1 h6 h81
        · refine wp_aload_n 85 d_Mo_knownTo_84 rfl rfl ?_
          refine wp_iconst 86 3 d_Mo_knownTo_85 rfl (by decide) ?_
          refine wp_V1 89 M_Mo_fails 1 d_Mo_knownTo_86 rfl mv_Mo_fails lk_Mo_193 rfl rfl rfl rfl rfl ?_
          refine c_Mo_fails hf ?_
          refine kI ?_
          refine wp_zreturn d_Mo_knownTo_89 rfl (by first | rfl | exact nbP _) ?_
          exact hq3 h6 h81
      · exact absurd rfl h36
    · exact absurd h19 (by decide)
  · refine wp_aload_n 10 d_Mo_knownTo_9 rfl rfl ?_
    refine wp_iconst 11 2 d_Mo_knownTo_10 rfl (by decide) ?_
    refine wp_V1 14 M_Mo_fails 1 d_Mo_knownTo_11 rfl mv_Mo_fails lk_Mo_193 rfl rfl rfl rfl rfl ?_
    refine c_Mo_fails hf ?_
    refine kI ?_
    refine wp_zreturn d_Mo_knownTo_14 rfl (by first | rfl | exact nbP _) ?_
    exact hq2 h6

end TAN
