/-! ===== the reference: paces ===== -/
theorem ps_1 {b : Nat → Int32} {L j : Nat} (h : psF b L j < L) : psF b L (j + 1) ≤ L := (skF_in (tkN_in h).2).2
theorem upd_2 {a : Nat → Int32} {k : Nat} {x y : Int32} : upd (upd a k x) k y = upd a k y := by
  funext i
  by_cases z : i = k
  · rw [z, upd_at, upd_at]
  · rw [upd_ne z, upd_ne z, upd_ne z]
section TAO
variable {Γ : Gm} {Q : Option Value → LH → Prop} {m_at m_sort m_trayMany m_tape m_text m_opened m_eastBy m_northBy m_partBy m_wayFaults m_wayEast m_wayNorth m_olds m_farBy m_rowBy m_triedBy m_doneAt m_gotAt m_struckAt m_bestDeed m_loops m_ran m_told1 : Nat → Int32} {m_names m_trays m_misBy : Nat → Int64} {m_status m_taped m_size m_token m_from m_end m_value m_faultKind m_faultPlace m_faults m_seen m_areOdds m_depth m_counted m_wayMany m_oneOfSet m_twoOfSet m_rowMany m_drawn m_ranSteps m_isTold m_marks : Int32} {m_top m_bottom : Int64} {L j : Nat}
set_option maxRecDepth 100000 in
set_option maxHeartbeats 4000000 in
theorem c_Mo_paced {to_ : Nat} {ww bk : Int32} (hL : L ≤ 900) (hb : ∀ k, k < L → b8 (m_text k)) (hp : psF m_text L j ≤ L) (hf : m_faults = 0) (hto : to_ < 2332) (hw1 : ¬ ww = -1) (hw2 : ¬ bk = -1) (hqa : (kwR m_text L j = ww ∨ kwR m_text L j = bk) → ¬ kwR m_text L j = bk → (gtF m_text L (j + 1)).1 = 3 → 0 ≤ (gtF m_text L (j + 1)).2.2.2 → (gtF m_text L (j + 1)).2.2.2 ≤ 99 → Q (some (.int 1)) (hM ((upd m_at to_ (gtF m_text L (j + 1)).2.2.2)) m_names m_status m_top m_bottom m_sort m_trayMany m_trays m_tape m_text m_taped ((nI L)) ((gtF m_text L (j + 1 + 1)).1) ((nI (gtF m_text L (j + 1 + 1)).2.1)) ((nI (gtF m_text L (j + 1 + 1)).2.2.1)) ((gtF m_text L (j + 1 + 1)).2.2.2) m_faultKind m_faultPlace m_faults m_seen m_areOdds m_opened m_depth m_counted m_eastBy m_northBy m_partBy m_wayFaults m_wayEast m_wayNorth m_olds m_wayMany m_oneOfSet m_twoOfSet m_farBy m_rowBy m_triedBy m_rowMany m_doneAt m_gotAt m_struckAt m_bestDeed m_misBy m_drawn m_ranSteps m_loops m_ran m_told1 m_isTold m_marks)) (hqb : kwR m_text L j = bk → (gtF m_text L (j + 1)).1 = 3 → 0 ≤ (gtF m_text L (j + 1)).2.2.2 → (gtF m_text L (j + 1)).2.2.2 ≤ 99 → Q (some (.int 1)) (hM ((upd m_at to_ (-(gtF m_text L (j + 1)).2.2.2))) m_names m_status m_top m_bottom m_sort m_trayMany m_trays m_tape m_text m_taped ((nI L)) ((gtF m_text L (j + 1 + 1)).1) ((nI (gtF m_text L (j + 1 + 1)).2.1)) ((nI (gtF m_text L (j + 1 + 1)).2.2.1)) ((gtF m_text L (j + 1 + 1)).2.2.2) m_faultKind m_faultPlace m_faults m_seen m_areOdds m_opened m_depth m_counted m_eastBy m_northBy m_partBy m_wayFaults m_wayEast m_wayNorth m_olds m_wayMany m_oneOfSet m_twoOfSet m_farBy m_rowBy m_triedBy m_rowMany m_doneAt m_gotAt m_struckAt m_bestDeed m_misBy m_drawn m_ranSteps m_loops m_ran m_told1 m_isTold m_marks)) (hq2 : ¬ (kwR m_text L j = ww ∨ kwR m_text L j = bk) → Q (some (.int 0)) (hM m_at m_names m_status m_top m_bottom m_sort m_trayMany m_trays m_tape m_text m_taped ((nI L)) ((gtF m_text L j).1) ((nI (gtF m_text L j).2.1)) ((nI (gtF m_text L j).2.2.1)) ((gtF m_text L j).2.2.2) m_faultKind ((nI (gtF m_text L j).2.1)) ((if (gtF m_text L j).1 = 1 then 1 else 2)) m_seen m_areOdds m_opened m_depth m_counted m_eastBy m_northBy m_partBy m_wayFaults m_wayEast m_wayNorth m_olds m_wayMany m_oneOfSet m_twoOfSet m_farBy m_rowBy m_triedBy m_rowMany m_doneAt m_gotAt m_struckAt m_bestDeed m_misBy m_drawn m_ranSteps m_loops m_ran m_told1 m_isTold m_marks)) (hqn : (kwR m_text L j = ww ∨ kwR m_text L j = bk) → ¬ (gtF m_text L (j + 1)).1 = 3 → Q (some (.int 0)) (hM m_at m_names m_status m_top m_bottom m_sort m_trayMany m_trays m_tape m_text m_taped ((nI L)) ((gtF m_text L (j + 1)).1) ((nI (gtF m_text L (j + 1)).2.1)) ((nI (gtF m_text L (j + 1)).2.2.1)) ((gtF m_text L (j + 1)).2.2.2) m_faultKind ((nI (gtF m_text L (j + 1)).2.1)) ((if (gtF m_text L (j + 1)).1 = 1 then 1 else 2)) m_seen m_areOdds m_opened m_depth m_counted m_eastBy m_northBy m_partBy m_wayFaults m_wayEast m_wayNorth m_olds m_wayMany m_oneOfSet m_twoOfSet m_farBy m_rowBy m_triedBy m_rowMany m_doneAt m_gotAt m_struckAt m_bestDeed m_misBy m_drawn m_ranSteps m_loops m_ran m_told1 m_isTold m_marks)) (hq4 : (kwR m_text L j = ww ∨ kwR m_text L j = bk) → (gtF m_text L (j + 1)).1 = 3 → ¬ (0 ≤ (gtF m_text L (j + 1)).2.2.2 ∧ (gtF m_text L (j + 1)).2.2.2 ≤ 99) → Q (some (.int 0)) (hM m_at m_names m_status m_top m_bottom m_sort m_trayMany m_trays m_tape m_text m_taped ((nI L)) ((gtF m_text L (j + 1)).1) ((nI (gtF m_text L (j + 1)).2.1)) ((nI (gtF m_text L (j + 1)).2.2.1)) ((gtF m_text L (j + 1)).2.2.2) m_faultKind ((nI (gtF m_text L (j + 1)).2.1)) ((if (gtF m_text L (j + 1)).1 = 1 then 1 else 4)) m_seen m_areOdds m_opened m_depth m_counted m_eastBy m_northBy m_partBy m_wayFaults m_wayEast m_wayNorth m_olds m_wayMany m_oneOfSet m_twoOfSet m_farBy m_rowBy m_triedBy m_rowMany m_doneAt m_gotAt m_struckAt m_bestDeed m_misBy m_drawn m_ranSteps m_loops m_ran m_told1 m_isTold m_marks)) : Call Γ M_Mo_paced 7 0 0 [.ref 0, .int ww, .int bk, .int (nI to_)] (hM m_at m_names m_status m_top m_bottom m_sort m_trayMany m_trays m_tape m_text m_taped ((nI L)) ((gtF m_text L j).1) ((nI (gtF m_text L j).2.1)) ((nI (gtF m_text L j).2.2.1)) ((gtF m_text L j).2.2.2) m_faultKind m_faultPlace m_faults m_seen m_areOdds m_opened m_depth m_counted m_eastBy m_northBy m_partBy m_wayFaults m_wayEast m_wayNorth m_olds m_wayMany m_oneOfSet m_twoOfSet m_farBy m_rowBy m_triedBy m_rowMany m_doneAt m_gotAt m_struckAt m_bestDeed m_misBy m_drawn m_ranSteps m_loops m_ran m_told1 m_isTold m_marks) Q := by
  refine call_intro (ls := [some (.ref 0), some (.int ww), some (.int bk), some (.int (nI to_)), none]) rfl rfl rfl ?_
  refine wp_aload_n 1 d_Mo_paced_0 rfl rfl ?_
  refine wp_ldcS2 3 d_Mo_paced_1 rfl rfl ?_
  refine wp_V1 6 M_Mo_inWords 6 d_Mo_paced_3 rfl mv_Mo_inWords lk_Mo_196 rfl rfl rfl rfl rfl ?_
  refine c_inWordsJ hL hp ?_
  refine kI ?_
  refine wp_istore_4 8 d_Mo_paced_6 rfl rfl rfl ?_
  refine wp_iload 10 d_Mo_paced_8 rfl rfl ?_
  refine wp_iload_n 11 d_Mo_paced_10 rfl rfl ?_
  refine wp_icmp_eq 26 14 d_Mo_paced_11 rfl (by decide) (fun h11 => ?_) (fun h11 => ?_)
  · have hw : (kwR m_text L j = ww ∨ kwR m_text L j = bk) := Or.inl h11
    have hlt := gt_lt (b := m_text) (L := L) (j := j) (by rw [kw_2i (by rw [h11]; exact hw1)]; decide)
    refine wp_aload_n 27 d_Mo_paced_26 rfl rfl ?_
    refine wp_V0 30 M_Mo_ahead 2 d_Mo_paced_27 rfl mv_Mo_ahead lk_Mo_187 rfl rfl rfl rfl rfl ?_
    refine c_aheadJ hL hb hlt ?_
    refine kV ?_
    refine wp_aload_n 31 d_Mo_paced_30 rfl rfl ?_
    refine wp_iload_n 32 d_Mo_paced_31 rfl rfl ?_
    refine wp_iconst 33 0 d_Mo_paced_32 rfl (by decide) ?_
    refine wp_bipush 35 99 d_Mo_paced_33 rfl (by decide) ?_
    refine wp_V3 38 M_Mo_number 3 d_Mo_paced_35 rfl mv_Mo_number lk_Mo_222 rfl rfl rfl rfl rfl ?_
    refine c_Mo_number (j := j + 1) hL hb hto hf (fun n1 n2 n3 => ?_) (fun n8 => ?_) (fun n8 n9 => ?_)
    · refine kI ?_
      refine wp_if_ne 43 41 d_Mo_paced_38 rfl (by decide) (fun h38 => ?_) (fun h38 => ?_)
      · refine wp_iload 45 d_Mo_paced_43 rfl rfl ?_
        refine wp_iload_n 46 d_Mo_paced_45 rfl rfl ?_
        refine wp_icmp_ne 62 49 d_Mo_paced_46 rfl (by decide) (fun h46 => ?_) (fun h46 => ?_)
        · refine wp_iconst 63 1 d_Mo_paced_62 rfl (by decide) ?_
          refine wp_zreturn d_Mo_paced_63 rfl (by first | rfl | exact nbP _) ?_
          exact hqa hw h46 n1 n2 n3
        · refine wp_aload_n 50 d_Mo_paced_49 rfl rfl ?_
          refine wp_getfield 53 12 0 d_Mo_paced_50 rfl fl_Mo_7 rfl rfl ?_
          refine wp_iload_n 54 d_Mo_paced_53 rfl rfl ?_
          refine wp_aload_n 55 d_Mo_paced_54 rfl rfl ?_
          refine wp_getfield 58 12 0 d_Mo_paced_55 rfl fl_Mo_7 rfl rfl ?_
          refine wp_iload_n 59 d_Mo_paced_58 rfl rfl ?_
          refine wp_ialoadN 60 d_Mo_paced_59 rfl rfl rfl (by omega) ?_
          rw [upd_at]
          refine wp_ineg 61 d_Mo_paced_60 rfl ?_
          refine wp_iastoreN 62 d_Mo_paced_61 rfl rfl rfl (by omega) ?_
          refine hEq (hM ((upd (upd m_at to_ (gtF m_text L (j + 1)).2.2.2) to_ (-(gtF m_text L (j + 1)).2.2.2))) m_names m_status m_top m_bottom m_sort m_trayMany m_trays m_tape m_text m_taped ((nI L)) ((gtF m_text L (j + 1 + 1)).1) ((nI (gtF m_text L (j + 1 + 1)).2.1)) ((nI (gtF m_text L (j + 1 + 1)).2.2.1)) ((gtF m_text L (j + 1 + 1)).2.2.2) m_faultKind m_faultPlace m_faults m_seen m_areOdds m_opened m_depth m_counted m_eastBy m_northBy m_partBy m_wayFaults m_wayEast m_wayNorth m_olds m_wayMany m_oneOfSet m_twoOfSet m_farBy m_rowBy m_triedBy m_rowMany m_doneAt m_gotAt m_struckAt m_bestDeed m_misBy m_drawn m_ranSteps m_loops m_ran m_told1 m_isTold m_marks) rfl ?_
          rw [upd_2]
          refine wp_iconst 63 1 d_Mo_paced_62 rfl (by decide) ?_
          refine wp_zreturn d_Mo_paced_63 rfl (by first | rfl | exact nbP _) ?_
          exact hqb h46 n1 n2 n3
      · exact absurd h38 (by decide)
    · refine kI ?_
      refine wp_if_ne 43 41 d_Mo_paced_38 rfl (by decide) (fun h38 => ?_) (fun h38 => ?_)
      · exact absurd rfl h38
      · refine wp_iconst 42 0 d_Mo_paced_41 rfl (by decide) ?_
        refine wp_zreturn d_Mo_paced_42 rfl (by first | rfl | exact nbP _) ?_
        exact hqn hw n8
    · refine kI ?_
      refine wp_if_ne 43 41 d_Mo_paced_38 rfl (by decide) (fun h38 => ?_) (fun h38 => ?_)
      · exact absurd rfl h38
      · refine wp_iconst 42 0 d_Mo_paced_41 rfl (by decide) ?_
        refine wp_zreturn d_Mo_paced_42 rfl (by first | rfl | exact nbP _) ?_
        exact hq4 hw n8 n9
  · refine wp_iload 16 d_Mo_paced_14 rfl rfl ?_
    refine wp_iload_n 17 d_Mo_paced_16 rfl rfl ?_
    refine wp_icmp_eq 26 20 d_Mo_paced_17 rfl (by decide) (fun h17 => ?_) (fun h17 => ?_)
    · have hw : (kwR m_text L j = ww ∨ kwR m_text L j = bk) := Or.inr h17
      have hlt := gt_lt (b := m_text) (L := L) (j := j) (by rw [kw_2i (by rw [h17]; exact hw2)]; decide)
      refine wp_aload_n 27 d_Mo_paced_26 rfl rfl ?_
      refine wp_V0 30 M_Mo_ahead 2 d_Mo_paced_27 rfl mv_Mo_ahead lk_Mo_187 rfl rfl rfl rfl rfl ?_
      refine c_aheadJ hL hb hlt ?_
      refine kV ?_
      refine wp_aload_n 31 d_Mo_paced_30 rfl rfl ?_
      refine wp_iload_n 32 d_Mo_paced_31 rfl rfl ?_
      refine wp_iconst 33 0 d_Mo_paced_32 rfl (by decide) ?_
      refine wp_bipush 35 99 d_Mo_paced_33 rfl (by decide) ?_
      refine wp_V3 38 M_Mo_number 3 d_Mo_paced_35 rfl mv_Mo_number lk_Mo_222 rfl rfl rfl rfl rfl ?_
      refine c_Mo_number (j := j + 1) hL hb hto hf (fun n1 n2 n3 => ?_) (fun n8 => ?_) (fun n8 n9 => ?_)
      · refine kI ?_
        refine wp_if_ne 43 41 d_Mo_paced_38 rfl (by decide) (fun h38 => ?_) (fun h38 => ?_)
        · refine wp_iload 45 d_Mo_paced_43 rfl rfl ?_
          refine wp_iload_n 46 d_Mo_paced_45 rfl rfl ?_
          refine wp_icmp_ne 62 49 d_Mo_paced_46 rfl (by decide) (fun h46 => ?_) (fun h46 => ?_)
          · refine wp_iconst 63 1 d_Mo_paced_62 rfl (by decide) ?_
            refine wp_zreturn d_Mo_paced_63 rfl (by first | rfl | exact nbP _) ?_
            exact hqa hw h46 n1 n2 n3
          · refine wp_aload_n 50 d_Mo_paced_49 rfl rfl ?_
            refine wp_getfield 53 12 0 d_Mo_paced_50 rfl fl_Mo_7 rfl rfl ?_
            refine wp_iload_n 54 d_Mo_paced_53 rfl rfl ?_
            refine wp_aload_n 55 d_Mo_paced_54 rfl rfl ?_
            refine wp_getfield 58 12 0 d_Mo_paced_55 rfl fl_Mo_7 rfl rfl ?_
            refine wp_iload_n 59 d_Mo_paced_58 rfl rfl ?_
            refine wp_ialoadN 60 d_Mo_paced_59 rfl rfl rfl (by omega) ?_
            rw [upd_at]
            refine wp_ineg 61 d_Mo_paced_60 rfl ?_
            refine wp_iastoreN 62 d_Mo_paced_61 rfl rfl rfl (by omega) ?_
            refine hEq (hM ((upd (upd m_at to_ (gtF m_text L (j + 1)).2.2.2) to_ (-(gtF m_text L (j + 1)).2.2.2))) m_names m_status m_top m_bottom m_sort m_trayMany m_trays m_tape m_text m_taped ((nI L)) ((gtF m_text L (j + 1 + 1)).1) ((nI (gtF m_text L (j + 1 + 1)).2.1)) ((nI (gtF m_text L (j + 1 + 1)).2.2.1)) ((gtF m_text L (j + 1 + 1)).2.2.2) m_faultKind m_faultPlace m_faults m_seen m_areOdds m_opened m_depth m_counted m_eastBy m_northBy m_partBy m_wayFaults m_wayEast m_wayNorth m_olds m_wayMany m_oneOfSet m_twoOfSet m_farBy m_rowBy m_triedBy m_rowMany m_doneAt m_gotAt m_struckAt m_bestDeed m_misBy m_drawn m_ranSteps m_loops m_ran m_told1 m_isTold m_marks) rfl ?_
            rw [upd_2]
            refine wp_iconst 63 1 d_Mo_paced_62 rfl (by decide) ?_
            refine wp_zreturn d_Mo_paced_63 rfl (by first | rfl | exact nbP _) ?_
            exact hqb h46 n1 n2 n3
        · exact absurd h38 (by decide)
      · refine kI ?_
        refine wp_if_ne 43 41 d_Mo_paced_38 rfl (by decide) (fun h38 => ?_) (fun h38 => ?_)
        · exact absurd rfl h38
        · refine wp_iconst 42 0 d_Mo_paced_41 rfl (by decide) ?_
          refine wp_zreturn d_Mo_paced_42 rfl (by first | rfl | exact nbP _) ?_
          exact hqn hw n8
      · refine kI ?_
        refine wp_if_ne 43 41 d_Mo_paced_38 rfl (by decide) (fun h38 => ?_) (fun h38 => ?_)
        · exact absurd rfl h38
        · refine wp_iconst 42 0 d_Mo_paced_41 rfl (by decide) ?_
          refine wp_zreturn d_Mo_paced_42 rfl (by first | rfl | exact nbP _) ?_
          exact hq4 hw n8 n9
    · refine wp_aload_n 21 d_Mo_paced_20 rfl rfl ?_
      refine wp_iconst 22 2 d_Mo_paced_21 rfl (by decide) ?_
      refine wp_V1 25 M_Mo_fails 1 d_Mo_paced_22 rfl mv_Mo_fails lk_Mo_193 rfl rfl rfl rfl rfl ?_
      refine c_Mo_fails hf ?_
      refine kI ?_
      refine wp_zreturn d_Mo_paced_25 rfl (by first | rfl | exact nbP _) ?_
      exact hq2 (fun z => by rcases z with z | z; exact h11 z; exact h17 z)

end TAO
