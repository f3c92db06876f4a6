/-! ===== the reference: a place of a town ===== -/
def plA (a : Nat → Int32) (nP : Nat) : Nat → Int32 := upd (if nP = 0 then upd a 1804 0 else a) 1800 (nI (nP + 1))
section TAP
variable {Γ : Gm} {Q : Option Value → LH → Prop} {m_at m_sort m_trayMany m_tape m_text m_opened m_eastBy m_northBy m_partBy m_wayFaults m_wayEast m_wayNorth m_olds m_farBy m_rowBy m_triedBy m_doneAt m_gotAt m_struckAt m_bestDeed m_loops m_ran m_told1 : Nat → Int32} {m_names m_trays m_misBy : Nat → Int64} {m_status m_taped m_size m_token m_from m_end m_value m_faultKind m_faultPlace m_faults m_seen m_areOdds m_depth m_counted m_wayMany m_oneOfSet m_twoOfSet m_rowMany m_drawn m_ranSteps m_isTold m_marks : Int32} {m_top m_bottom : Int64} {L j : Nat}
set_option maxRecDepth 100000 in
set_option maxHeartbeats 4000000 in
theorem c_Mo_aPlace {nP nW : Nat} (hL : L ≤ 900) (hb : ∀ k, k < L → b8 (m_text k)) (hlt : psF m_text L j < L) (hf : m_faults = 0) (hP : m_at 1800 = nI nP) (hW : m_at 1801 = nI nW) (hP7 : nP ≤ 7) (hW4 : nW ≤ 4) (hq1 : nP < 7 → isNm m_text L (j + 1) → fnR m_names m_text L (j + 1) 44 nP = -1 → fnR m_names m_text L (j + 1) 51 nW = -1 → Q (some (.int 1)) (hM ((plA m_at nP)) ((vp_updL m_names (44 + nP) (nmF m_text L (psF m_text L (j + 1)) (lnT m_text L (j + 1))))) m_status m_top m_bottom m_sort m_trayMany m_trays m_tape m_text m_taped ((nI L)) ((gtF m_text L (j + 1 + 1)).1) ((nI (gtF m_text L (j + 1 + 1)).2.1)) ((nI (gtF m_text L (j + 1 + 1)).2.2.1)) ((gtF m_text L (j + 1 + 1)).2.2.2) m_faultKind m_faultPlace m_faults m_seen m_areOdds m_opened m_depth m_counted m_eastBy m_northBy m_partBy m_wayFaults m_wayEast m_wayNorth m_olds m_wayMany m_oneOfSet m_twoOfSet m_farBy m_rowBy m_triedBy m_rowMany m_doneAt m_gotAt m_struckAt m_bestDeed m_misBy m_drawn m_ranSteps m_loops m_ran m_told1 m_isTold m_marks)) (hq6 : ¬ nP < 7 → Q (some (.int 0)) (hM m_at m_names m_status m_top m_bottom m_sort m_trayMany m_trays m_tape m_text m_taped ((nI L)) ((gtF m_text L j).1) ((nI (gtF m_text L j).2.1)) ((nI (gtF m_text L j).2.2.1)) ((gtF m_text L j).2.2.2) m_faultKind ((nI (gtF m_text L j).2.1)) ((if (gtF m_text L j).1 = 1 then 1 else 6)) m_seen m_areOdds m_opened m_depth m_counted m_eastBy m_northBy m_partBy m_wayFaults m_wayEast m_wayNorth m_olds m_wayMany m_oneOfSet m_twoOfSet m_farBy m_rowBy m_triedBy m_rowMany m_doneAt m_gotAt m_struckAt m_bestDeed m_misBy m_drawn m_ranSteps m_loops m_ran m_told1 m_isTold m_marks)) (hq2 : nP < 7 → ¬ isNm m_text L (j + 1) → Q (some (.int 0)) (hM m_at m_names m_status m_top m_bottom m_sort m_trayMany m_trays m_tape m_text m_taped ((nI L)) ((gtF m_text L (j + 1)).1) ((nI (gtF m_text L (j + 1)).2.1)) ((nI (gtF m_text L (j + 1)).2.2.1)) ((gtF m_text L (j + 1)).2.2.2) m_faultKind ((nI (gtF m_text L (j + 1)).2.1)) ((if (gtF m_text L (j + 1)).1 = 1 then 1 else 2)) m_seen m_areOdds m_opened m_depth m_counted m_eastBy m_northBy m_partBy m_wayFaults m_wayEast m_wayNorth m_olds m_wayMany m_oneOfSet m_twoOfSet m_farBy m_rowBy m_triedBy m_rowMany m_doneAt m_gotAt m_struckAt m_bestDeed m_misBy m_drawn m_ranSteps m_loops m_ran m_told1 m_isTold m_marks)) (hq3 : nP < 7 → isNm m_text L (j + 1) → ¬ (fnR m_names m_text L (j + 1) 44 nP = -1 ∧ fnR m_names m_text L (j + 1) 51 nW = -1) → Q (some (.int 0)) (hM m_at m_names m_status m_top m_bottom m_sort m_trayMany m_trays m_tape m_text m_taped ((nI L)) ((gtF m_text L (j + 1)).1) ((nI (gtF m_text L (j + 1)).2.1)) ((nI (gtF m_text L (j + 1)).2.2.1)) ((gtF m_text L (j + 1)).2.2.2) m_faultKind ((nI (gtF m_text L (j + 1)).2.1)) ((if (gtF m_text L (j + 1)).1 = 1 then 1 else 3)) m_seen m_areOdds m_opened m_depth m_counted m_eastBy m_northBy m_partBy m_wayFaults m_wayEast m_wayNorth m_olds m_wayMany m_oneOfSet m_twoOfSet m_farBy m_rowBy m_triedBy m_rowMany m_doneAt m_gotAt m_struckAt m_bestDeed m_misBy m_drawn m_ranSteps m_loops m_ran m_told1 m_isTold m_marks)) : Call Γ M_Mo_aPlace 9 0 0 [.ref 0] (hM m_at m_names m_status m_top m_bottom m_sort m_trayMany m_trays m_tape m_text m_taped ((nI L)) ((gtF m_text L j).1) ((nI (gtF m_text L j).2.1)) ((nI (gtF m_text L j).2.2.1)) ((gtF m_text L j).2.2.2) m_faultKind m_faultPlace m_faults m_seen m_areOdds m_opened m_depth m_counted m_eastBy m_northBy m_partBy m_wayFaults m_wayEast m_wayNorth m_olds m_wayMany m_oneOfSet m_twoOfSet m_farBy m_rowBy m_triedBy m_rowMany m_doneAt m_gotAt m_struckAt m_bestDeed m_misBy m_drawn m_ranSteps m_loops m_ran m_told1 m_isTold m_marks) Q := by
  refine call_intro (ls := [some (.ref 0), none]) rfl rfl rfl ?_
  refine wp_aload_n 1 d_Mo_aPlace_0 rfl rfl ?_
  refine wp_getfield 4 12 0 d_Mo_aPlace_1 rfl fl_Mo_7 rfl rfl ?_
  refine wp_sipush 7 1800 d_Mo_aPlace_4 rfl (by decide) ?_
  refine wp_iaload 8 d_Mo_aPlace_7 rfl rfl (vp_in_nI (n := 1800) (N := 2332) (by omega) (by omega)) ?_
  rw [show m_at (1800 : Int32).toNatClampNeg = nI nP from hP]
  refine wp_istore_1 9 d_Mo_aPlace_8 rfl rfl rfl ?_
  refine wp_iload_n 10 d_Mo_aPlace_9 rfl rfl ?_
  refine wp_bipush 12 7 d_Mo_aPlace_10 rfl (by decide) ?_
  refine wp_icmp_ne 22 15 d_Mo_aPlace_12 rfl (by decide) (fun h12 => ?_) (fun h12 => ?_)
  · have hP6 : nP < 7 := by
      rcases Nat.lt_or_ge nP 7 with z | z
      · exact z
      · exact absurd (show nI nP = 7 from by rw [show nP = 7 by omega]; rfl) h12
    refine wp_aload_n 23 d_Mo_aPlace_22 rfl rfl ?_
    refine wp_V0 26 M_Mo_ahead 2 d_Mo_aPlace_23 rfl mv_Mo_ahead lk_Mo_187 rfl rfl rfl rfl rfl ?_
    refine c_aheadJ hL hb hlt ?_
    refine kV ?_
    refine wp_aload_n 27 d_Mo_aPlace_26 rfl rfl ?_
    refine wp_bipush 29 44 d_Mo_aPlace_27 rfl (by decide) ?_
    refine wp_iload_n 30 d_Mo_aPlace_29 rfl rfl ?_
    refine wp_iadd 31 d_Mo_aPlace_30 rfl ?_
    rw [show (44 : Int32) + nI nP = nI (44 + nP) from nI_add 44 _]
    refine wp_V1 34 M_Mo_newName 8 d_Mo_aPlace_31 rfl mv_Mo_newName lk_Mo_213 rfl rfl rfl rfl rfl ?_
    refine c_Mo_newName (j := j + 1) (nP := nP) (nW := nW) hL hb (ps_1 hlt) hf (by omega) hP hW hP7 hW4 (fun n1 n2 n3 => ?_) (fun n8 => ?_) (fun n8 n9 => ?_)
    · refine kI ?_
      refine wp_if_ne 39 37 d_Mo_aPlace_34 rfl (by decide) (fun h34 => ?_) (fun h34 => ?_)
      · refine wp_iload_n 40 d_Mo_aPlace_39 rfl rfl ?_
        refine wp_if_ne 52 43 d_Mo_aPlace_40 rfl (by decide) (fun h40 => ?_) (fun h40 => ?_)
        · refine wp_aload_n 53 d_Mo_aPlace_52 rfl rfl ?_
          refine wp_getfield 56 12 0 d_Mo_aPlace_53 rfl fl_Mo_7 rfl rfl ?_
          refine wp_sipush 59 1800 d_Mo_aPlace_56 rfl (by decide) ?_
          refine wp_dup2 60 d_Mo_aPlace_59 rfl rfl rfl ?_
          refine wp_iaload 61 d_Mo_aPlace_60 rfl rfl (vp_in_nI (n := 1800) (N := 2332) (by omega) (by omega)) ?_
          first | rw [show m_at (1800 : Int32).toNatClampNeg = nI nP from hP] | rw [show upd m_at 1804 0 (1800 : Int32).toNatClampNeg = nI nP from (upd_ne (by decide)).trans hP]
          refine wp_iconst 62 1 d_Mo_aPlace_61 rfl (by decide) ?_
          refine wp_iadd 63 d_Mo_aPlace_62 rfl ?_
          rw [nI_1]
          refine wp_iastore 64 d_Mo_aPlace_63 rfl rfl (vp_in_nI (n := 1800) (N := 2332) (by omega) (by omega)) ?_
          refine hEq (hM ((upd m_at 1800 (nI (nP + 1)))) ((vp_updL m_names (44 + nP) (nmF m_text L (psF m_text L (j + 1)) (lnT m_text L (j + 1))))) m_status m_top m_bottom m_sort m_trayMany m_trays m_tape m_text m_taped ((nI L)) ((gtF m_text L (j + 1 + 1)).1) ((nI (gtF m_text L (j + 1 + 1)).2.1)) ((nI (gtF m_text L (j + 1 + 1)).2.2.1)) ((gtF m_text L (j + 1 + 1)).2.2.2) m_faultKind m_faultPlace m_faults m_seen m_areOdds m_opened m_depth m_counted m_eastBy m_northBy m_partBy m_wayFaults m_wayEast m_wayNorth m_olds m_wayMany m_oneOfSet m_twoOfSet m_farBy m_rowBy m_triedBy m_rowMany m_doneAt m_gotAt m_struckAt m_bestDeed m_misBy m_drawn m_ranSteps m_loops m_ran m_told1 m_isTold m_marks) rfl ?_
          refine wp_iconst 65 1 d_Mo_aPlace_64 rfl (by decide) ?_
          refine wp_zreturn d_Mo_aPlace_65 rfl (by first | rfl | exact nbP _) ?_
          have hz := hq1 hP6 n1 n2 n3
          unfold plA at hz
          rw [if_neg (show ¬ nP = 0 from fun z => h40 (by rw [z]; rfl))] at hz
          exact hz
        · refine wp_aload_n 44 d_Mo_aPlace_43 rfl rfl ?_
          refine wp_getfield 47 12 0 d_Mo_aPlace_44 rfl fl_Mo_7 rfl rfl ?_
          refine wp_sipush 50 1804 d_Mo_aPlace_47 rfl (by decide) ?_
          refine wp_iconst 51 0 d_Mo_aPlace_50 rfl (by decide) ?_
          refine wp_iastore 52 d_Mo_aPlace_51 rfl rfl (vp_in_nI (n := 1804) (N := 2332) (by omega) (by omega)) ?_
          refine hEq (hM ((upd m_at 1804 0)) ((vp_updL m_names (44 + nP) (nmF m_text L (psF m_text L (j + 1)) (lnT m_text L (j + 1))))) m_status m_top m_bottom m_sort m_trayMany m_trays m_tape m_text m_taped ((nI L)) ((gtF m_text L (j + 1 + 1)).1) ((nI (gtF m_text L (j + 1 + 1)).2.1)) ((nI (gtF m_text L (j + 1 + 1)).2.2.1)) ((gtF m_text L (j + 1 + 1)).2.2.2) m_faultKind m_faultPlace m_faults m_seen m_areOdds m_opened m_depth m_counted m_eastBy m_northBy m_partBy m_wayFaults m_wayEast m_wayNorth m_olds m_wayMany m_oneOfSet m_twoOfSet m_farBy m_rowBy m_triedBy m_rowMany m_doneAt m_gotAt m_struckAt m_bestDeed m_misBy m_drawn m_ranSteps m_loops m_ran m_told1 m_isTold m_marks) rfl ?_
          refine wp_aload_n 53 d_Mo_aPlace_52 rfl rfl ?_
          refine wp_getfield 56 12 0 d_Mo_aPlace_53 rfl fl_Mo_7 rfl rfl ?_
          refine wp_sipush 59 1800 d_Mo_aPlace_56 rfl (by decide) ?_
          refine wp_dup2 60 d_Mo_aPlace_59 rfl rfl rfl ?_
          refine wp_iaload 61 d_Mo_aPlace_60 rfl rfl (vp_in_nI (n := 1800) (N := 2332) (by omega) (by omega)) ?_
          first | rw [show m_at (1800 : Int32).toNatClampNeg = nI nP from hP] | rw [show upd m_at 1804 0 (1800 : Int32).toNatClampNeg = nI nP from (upd_ne (by decide)).trans hP]
          refine wp_iconst 62 1 d_Mo_aPlace_61 rfl (by decide) ?_
          refine wp_iadd 63 d_Mo_aPlace_62 rfl ?_
          rw [nI_1]
          refine wp_iastore 64 d_Mo_aPlace_63 rfl rfl (vp_in_nI (n := 1800) (N := 2332) (by omega) (by omega)) ?_
          refine hEq (hM ((upd (upd m_at 1804 0) 1800 (nI (nP + 1)))) ((vp_updL m_names (44 + nP) (nmF m_text L (psF m_text L (j + 1)) (lnT m_text L (j + 1))))) m_status m_top m_bottom m_sort m_trayMany m_trays m_tape m_text m_taped ((nI L)) ((gtF m_text L (j + 1 + 1)).1) ((nI (gtF m_text L (j + 1 + 1)).2.1)) ((nI (gtF m_text L (j + 1 + 1)).2.2.1)) ((gtF m_text L (j + 1 + 1)).2.2.2) m_faultKind m_faultPlace m_faults m_seen m_areOdds m_opened m_depth m_counted m_eastBy m_northBy m_partBy m_wayFaults m_wayEast m_wayNorth m_olds m_wayMany m_oneOfSet m_twoOfSet m_farBy m_rowBy m_triedBy m_rowMany m_doneAt m_gotAt m_struckAt m_bestDeed m_misBy m_drawn m_ranSteps m_loops m_ran m_told1 m_isTold m_marks) rfl ?_
          refine wp_iconst 65 1 d_Mo_aPlace_64 rfl (by decide) ?_
          refine wp_zreturn d_Mo_aPlace_65 rfl (by first | rfl | exact nbP _) ?_
          have hz := hq1 hP6 n1 n2 n3
          unfold plA at hz
          rw [if_pos (show nP = 0 from nI_ij (b := 0) h40 (by omega) (by omega))] at hz
          exact hz
      · exact absurd h34 (by decide)
    · refine kI ?_
      refine wp_if_ne 39 37 d_Mo_aPlace_34 rfl (by decide) (fun h34 => ?_) (fun h34 => ?_)
      · exact absurd rfl h34
      · refine wp_iconst 38 0 d_Mo_aPlace_37 rfl (by decide) ?_
        refine wp_zreturn d_Mo_aPlace_38 rfl (by first | rfl | exact nbP _) ?_
        exact hq2 hP6 n8
    · refine kI ?_
      refine wp_if_ne 39 37 d_Mo_aPlace_34 rfl (by decide) (fun h34 => ?_) (fun h34 => ?_)
      · exact absurd rfl h34
      · refine wp_iconst 38 0 d_Mo_aPlace_37 rfl (by decide) ?_
        refine wp_zreturn d_Mo_aPlace_38 rfl (by first | rfl | exact nbP _) ?_
        exact hq3 hP6 n8 n9
  · refine wp_aload_n 16 d_Mo_aPlace_15 rfl rfl ?_
    refine wp_bipush 18 6 d_Mo_aPlace_16 rfl (by decide) ?_
    refine wp_V1 21 M_Mo_fails 1 d_Mo_aPlace_18 rfl mv_Mo_fails lk_Mo_193 rfl rfl rfl rfl rfl ?_
    refine c_Mo_fails hf ?_
    refine kI ?_
    refine wp_zreturn d_Mo_aPlace_21 rfl (by first | rfl | exact nbP _) ?_
    exact hq6 (fun z => absurd (nI_ij (b := 7) h12 (by omega) (by omega)) (by omega))

end TAP
