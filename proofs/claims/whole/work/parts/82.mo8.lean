/-! ===== the reference: what is done, 3 ===== -/
theorem gd_in {t : TW} (J : tIn t) {k : Nat} (hk : k < t.nL) (hk2 : k < 2 ^ 31 := by omega) : goD t (nI k) = -1 ∨ inR (goD t (nI k)) (nI t.nP) := by
  unfold goD
  rw [nI_clamp hk2]
  split
  · exact Or.inr (J.1 k hk).2.2.1
  · exact Or.inr (J.1 k hk).2.1
theorem vT_s4 {a t} (V : vT a t) {x : Int32} (h : x = -1 ∨ inR x (nI t.nP)) : vT (upd a 4 x) (tSg t x t.go) := by
  have h2 := vT_go V (y := t.go) h
  rw [show upd (upd a 4 x) 5 t.go = upd a 4 x from by
    funext j
    by_cases e : j = 5
    · rw [e, upd_at, upd_ne (by omega)]; exact V.go.symm
    · rw [upd_ne e]] at h2
  exact h2
theorem go_in {t : TW} (J : tIn t) {k : Nat} (hk : k < t.nL) (h : t.sd = t.fr k ∨ t.sd = t.to_ k) : (t.fr k + t.to_ k - t.sd) = -1 ∨ inR (t.fr k + t.to_ k - t.sd) (nI t.nP) := by
  rw [go_sum h]
  split
  · exact Or.inr (J.1 k hk).2.2.1
  · exact Or.inr (J.1 k hk).2.1
section T82
variable {Γ : Gm} {Q : Option Value → LH → Prop} {m_at m_sort m_trayMany m_tape m_text m_opened m_eastBy m_northBy m_partBy m_wayFaults m_wayEast m_wayNorth m_olds m_farBy m_rowBy m_triedBy m_doneAt m_gotAt m_struckAt m_bestDeed m_loops m_ran m_told1 : Nat → Int32} {m_names m_trays m_misBy : Nat → Int64} {m_status m_taped m_size m_token m_from m_end m_value m_faultKind m_faultPlace m_faults m_seen m_areOdds m_depth m_counted m_wayMany m_oneOfSet m_twoOfSet m_rowMany m_drawn m_ranSteps m_isTold m_marks : Int32} {m_top m_bottom : Int64} {t : TW}
set_option maxRecDepth 100000 in
set_option maxHeartbeats 4000000 in
theorem c_Mo_goesAlong {k : Nat} (V : vT m_at t) (hk : k < 12) (hq0 : ¬ canGo t.fr t.to_ (nI t.nL) t.sk t.sd (nI k) → Q (some (.int 0)) (hM m_at m_names m_status m_top m_bottom m_sort m_trayMany m_trays m_tape m_text m_taped m_size m_token m_from m_end m_value m_faultKind m_faultPlace m_faults m_seen m_areOdds m_opened m_depth m_counted m_eastBy m_northBy m_partBy m_wayFaults m_wayEast m_wayNorth m_olds m_wayMany m_oneOfSet m_twoOfSet m_farBy m_rowBy m_triedBy m_rowMany m_doneAt m_gotAt m_struckAt m_bestDeed m_misBy m_drawn m_ranSteps m_loops m_ran m_told1 m_isTold m_marks)) (hq1 : canGo t.fr t.to_ (nI t.nL) t.sk t.sd (nI k) → Q (some (.int 1)) (hM (upd (upd m_at 4 (goD t (nI k))) 5 (t.go + yA t.ea t.no t.fa t.te k)) m_names m_status m_top m_bottom m_sort m_trayMany m_trays m_tape m_text m_taped m_size m_token m_from m_end m_value m_faultKind m_faultPlace m_faults m_seen m_areOdds m_opened m_depth m_counted m_eastBy m_northBy m_partBy m_wayFaults m_wayEast m_wayNorth m_olds m_wayMany m_oneOfSet m_twoOfSet m_farBy m_rowBy m_triedBy m_rowMany m_doneAt m_gotAt m_struckAt m_bestDeed m_misBy m_drawn m_ranSteps m_loops m_ran m_told1 m_isTold m_marks)) : Call Γ M_Mo_goesAlong 5 0 0 [.ref 0, .int (nI k)] (hM m_at m_names m_status m_top m_bottom m_sort m_trayMany m_trays m_tape m_text m_taped m_size m_token m_from m_end m_value m_faultKind m_faultPlace m_faults m_seen m_areOdds m_opened m_depth m_counted m_eastBy m_northBy m_partBy m_wayFaults m_wayEast m_wayNorth m_olds m_wayMany m_oneOfSet m_twoOfSet m_farBy m_rowBy m_triedBy m_rowMany m_doneAt m_gotAt m_struckAt m_bestDeed m_misBy m_drawn m_ranSteps m_loops m_ran m_told1 m_isTold m_marks) Q := by
  have hL12 := V.ok.hL
  refine call_intro (ls := [some (.ref 0), some (.int (nI k)), none]) rfl rfl rfl ?_
  refine wp_aload_n 1 d_Mo_goesAlong_0 rfl rfl ?_
  refine wp_getfield 4 12 0 d_Mo_goesAlong_1 rfl fl_Mo_7 rfl rfl ?_
  refine wp_iconst 5 4 d_Mo_goesAlong_4 rfl (by decide) ?_
  refine wp_iaload 6 d_Mo_goesAlong_5 rfl rfl (by first | exact vp_in_nI (n := 4) (N := 2332) (by omega) (by omega) | exact vp_in_nI (n := 5) (N := 2332) (by omega) (by omega)) ?_
  rw [show m_at (4 : Int32).toNatClampNeg = t.sd from V.sd]
  refine wp_istore_2 7 d_Mo_goesAlong_6 rfl rfl rfl ?_
  refine wp_aload_n 8 d_Mo_goesAlong_7 rfl rfl ?_
  refine wp_iload_n 9 d_Mo_goesAlong_8 rfl rfl ?_
  refine wp_V1 12 M_Mo_counts 2 d_Mo_goesAlong_9 rfl mv_Mo_counts lk_Mo_300 rfl rfl rfl rfl rfl ?_
  refine c_Mo_counts V ?_
  refine kI ?_
  (first | refine wp_ifP_eq 35 15 d_Mo_goesAlong_12 rfl (by decide) (fun h12 => ?_) (fun h12 => ?_) | refine wp_if_eq 35 15 d_Mo_goesAlong_12 rfl (by decide) (fun h12 => ?_) (fun h12 => ?_))
  · refine wp_iconst 36 0 d_Mo_goesAlong_35 rfl (by decide) ?_
    refine wp_zreturn d_Mo_goesAlong_36 rfl (by first | rfl | exact nbP _) ?_
    exact hq0 (fun z => h12 ((cgC (by omega) hL12).mpr ⟨z.1, z.2.1⟩))
  · have hkl : k < t.nL := nI_ltN h12.1 (by omega) (by omega)
    refine wp_aload_n 16 d_Mo_goesAlong_15 rfl rfl ?_
    refine wp_iload_n 17 d_Mo_goesAlong_16 rfl rfl ?_
    refine wp_iconst 18 1 d_Mo_goesAlong_17 rfl (by decide) ?_
    refine wp_V2 21 M_Mo_legOf 2 d_Mo_goesAlong_18 rfl mv_Mo_legOf lk_Mo_287 rfl rfl rfl rfl rfl ?_
    refine c_leg1 V hkl ?_
    refine kI ?_
    refine wp_iload_n 22 d_Mo_goesAlong_21 rfl rfl ?_
    refine wp_icmp_eq 37 25 d_Mo_goesAlong_22 rfl (by decide) (fun h22 => ?_) (fun h22 => ?_)
    · refine wp_aload_n 38 d_Mo_goesAlong_37 rfl rfl ?_
      refine wp_getfield 41 12 0 d_Mo_goesAlong_38 rfl fl_Mo_7 rfl rfl ?_
      refine wp_iconst 42 4 d_Mo_goesAlong_41 rfl (by decide) ?_
      refine wp_aload_n 43 d_Mo_goesAlong_42 rfl rfl ?_
      refine wp_iload_n 44 d_Mo_goesAlong_43 rfl rfl ?_
      refine wp_iconst 45 1 d_Mo_goesAlong_44 rfl (by decide) ?_
      refine wp_V2 48 M_Mo_legOf 2 d_Mo_goesAlong_45 rfl mv_Mo_legOf lk_Mo_287 rfl rfl rfl rfl rfl ?_
      refine c_leg1 V hkl ?_
      refine kI ?_
      refine wp_aload_n 49 d_Mo_goesAlong_48 rfl rfl ?_
      refine wp_iload_n 50 d_Mo_goesAlong_49 rfl rfl ?_
      refine wp_iconst 51 2 d_Mo_goesAlong_50 rfl (by decide) ?_
      refine wp_V2 54 M_Mo_legOf 2 d_Mo_goesAlong_51 rfl mv_Mo_legOf lk_Mo_287 rfl rfl rfl rfl rfl ?_
      refine c_leg2 V hkl ?_
      refine kI ?_
      refine wp_iadd 55 d_Mo_goesAlong_54 rfl ?_
      refine wp_iload_n 56 d_Mo_goesAlong_55 rfl rfl ?_
      refine wp_isub 57 d_Mo_goesAlong_56 rfl ?_
      refine wp_iastore 58 d_Mo_goesAlong_57 rfl rfl (by first | exact vp_in_nI (n := 4) (N := 2332) (by omega) (by omega) | exact vp_in_nI (n := 5) (N := 2332) (by omega) (by omega)) ?_
      refine hEq (hM (upd m_at 4 (t.fr k + t.to_ k - t.sd)) m_names m_status m_top m_bottom m_sort m_trayMany m_trays m_tape m_text m_taped m_size m_token m_from m_end m_value m_faultKind m_faultPlace m_faults m_seen m_areOdds m_opened m_depth m_counted m_eastBy m_northBy m_partBy m_wayFaults m_wayEast m_wayNorth m_olds m_wayMany m_oneOfSet m_twoOfSet m_farBy m_rowBy m_triedBy m_rowMany m_doneAt m_gotAt m_struckAt m_bestDeed m_misBy m_drawn m_ranSteps m_loops m_ran m_told1 m_isTold m_marks) rfl ?_
      refine wp_aload_n 59 d_Mo_goesAlong_58 rfl rfl ?_
      refine wp_getfield 62 12 0 d_Mo_goesAlong_59 rfl fl_Mo_7 rfl rfl ?_
      refine wp_iconst 63 5 d_Mo_goesAlong_62 rfl (by decide) ?_
      refine wp_dup2 64 d_Mo_goesAlong_63 rfl rfl rfl ?_
      refine wp_iaload 65 d_Mo_goesAlong_64 rfl rfl (by first | exact vp_in_nI (n := 4) (N := 2332) (by omega) (by omega) | exact vp_in_nI (n := 5) (N := 2332) (by omega) (by omega)) ?_
      rw [show upd m_at 4 (t.fr k + t.to_ k - t.sd) (5 : Int32).toNatClampNeg = t.go from V.go]
      refine wp_aload_n 66 d_Mo_goesAlong_65 rfl rfl ?_
      refine wp_iload_n 67 d_Mo_goesAlong_66 rfl rfl ?_
      refine wp_V1 70 M_Mo_yardsOf 4 d_Mo_goesAlong_67 rfl mv_Mo_yardsOf lk_Mo_375 rfl rfl rfl rfl rfl ?_
      refine c_Mo_yardsOf (t := tSg t (t.fr k + t.to_ k - t.sd) t.go) (vT_s4 V (go_in V.in_ hkl (Or.inl h22.symm))) hkl ?_
      rw [show yY (tSg t (t.fr k + t.to_ k - t.sd) t.go) k = yA t.ea t.no t.fa t.te k from yY_eq V.ok V.in_ hkl]
      refine kI ?_
      refine wp_iadd 71 d_Mo_goesAlong_70 rfl ?_
      refine wp_iastore 72 d_Mo_goesAlong_71 rfl rfl (by first | exact vp_in_nI (n := 4) (N := 2332) (by omega) (by omega) | exact vp_in_nI (n := 5) (N := 2332) (by omega) (by omega)) ?_
      refine hEq (hM (upd (upd m_at 4 (t.fr k + t.to_ k - t.sd)) 5 (t.go + yA t.ea t.no t.fa t.te k)) m_names m_status m_top m_bottom m_sort m_trayMany m_trays m_tape m_text m_taped m_size m_token m_from m_end m_value m_faultKind m_faultPlace m_faults m_seen m_areOdds m_opened m_depth m_counted m_eastBy m_northBy m_partBy m_wayFaults m_wayEast m_wayNorth m_olds m_wayMany m_oneOfSet m_twoOfSet m_farBy m_rowBy m_triedBy m_rowMany m_doneAt m_gotAt m_struckAt m_bestDeed m_misBy m_drawn m_ranSteps m_loops m_ran m_told1 m_isTold m_marks) rfl ?_
      refine wp_iconst 73 1 d_Mo_goesAlong_72 rfl (by decide) ?_
      refine wp_zreturn d_Mo_goesAlong_73 rfl (by first | rfl | exact nbP _) ?_
      have hcg : canGo t.fr t.to_ (nI t.nL) t.sk t.sd (nI k) := ⟨((cgC (by omega) hL12).mp h12).1, h12.2, by rw [nI_clamp (by omega)]; exact Or.inl h22.symm⟩
      have e1 : goD t (nI k) = t.fr k + t.to_ k - t.sd := by unfold goD; rw [nI_clamp (by omega)]; exact (go_sum (Or.inl h22.symm)).symm
      have h9_ := hq1 hcg
      rw [e1] at h9_
      exact h9_
    · refine wp_aload_n 26 d_Mo_goesAlong_25 rfl rfl ?_
      refine wp_iload_n 27 d_Mo_goesAlong_26 rfl rfl ?_
      refine wp_iconst 28 2 d_Mo_goesAlong_27 rfl (by decide) ?_
      refine wp_V2 31 M_Mo_legOf 2 d_Mo_goesAlong_28 rfl mv_Mo_legOf lk_Mo_287 rfl rfl rfl rfl rfl ?_
      refine c_leg2 V hkl ?_
      refine kI ?_
      refine wp_iload_n 32 d_Mo_goesAlong_31 rfl rfl ?_
      refine wp_icmp_eq 37 35 d_Mo_goesAlong_32 rfl (by decide) (fun h32 => ?_) (fun h32 => ?_)
      · refine wp_aload_n 38 d_Mo_goesAlong_37 rfl rfl ?_
        refine wp_getfield 41 12 0 d_Mo_goesAlong_38 rfl fl_Mo_7 rfl rfl ?_
        refine wp_iconst 42 4 d_Mo_goesAlong_41 rfl (by decide) ?_
        refine wp_aload_n 43 d_Mo_goesAlong_42 rfl rfl ?_
        refine wp_iload_n 44 d_Mo_goesAlong_43 rfl rfl ?_
        refine wp_iconst 45 1 d_Mo_goesAlong_44 rfl (by decide) ?_
        refine wp_V2 48 M_Mo_legOf 2 d_Mo_goesAlong_45 rfl mv_Mo_legOf lk_Mo_287 rfl rfl rfl rfl rfl ?_
        refine c_leg1 V hkl ?_
        refine kI ?_
        refine wp_aload_n 49 d_Mo_goesAlong_48 rfl rfl ?_
        refine wp_iload_n 50 d_Mo_goesAlong_49 rfl rfl ?_
        refine wp_iconst 51 2 d_Mo_goesAlong_50 rfl (by decide) ?_
        refine wp_V2 54 M_Mo_legOf 2 d_Mo_goesAlong_51 rfl mv_Mo_legOf lk_Mo_287 rfl rfl rfl rfl rfl ?_
        refine c_leg2 V hkl ?_
        refine kI ?_
        refine wp_iadd 55 d_Mo_goesAlong_54 rfl ?_
        refine wp_iload_n 56 d_Mo_goesAlong_55 rfl rfl ?_
        refine wp_isub 57 d_Mo_goesAlong_56 rfl ?_
        refine wp_iastore 58 d_Mo_goesAlong_57 rfl rfl (by first | exact vp_in_nI (n := 4) (N := 2332) (by omega) (by omega) | exact vp_in_nI (n := 5) (N := 2332) (by omega) (by omega)) ?_
        refine hEq (hM (upd m_at 4 (t.fr k + t.to_ k - t.sd)) m_names m_status m_top m_bottom m_sort m_trayMany m_trays m_tape m_text m_taped m_size m_token m_from m_end m_value m_faultKind m_faultPlace m_faults m_seen m_areOdds m_opened m_depth m_counted m_eastBy m_northBy m_partBy m_wayFaults m_wayEast m_wayNorth m_olds m_wayMany m_oneOfSet m_twoOfSet m_farBy m_rowBy m_triedBy m_rowMany m_doneAt m_gotAt m_struckAt m_bestDeed m_misBy m_drawn m_ranSteps m_loops m_ran m_told1 m_isTold m_marks) rfl ?_
        refine wp_aload_n 59 d_Mo_goesAlong_58 rfl rfl ?_
        refine wp_getfield 62 12 0 d_Mo_goesAlong_59 rfl fl_Mo_7 rfl rfl ?_
        refine wp_iconst 63 5 d_Mo_goesAlong_62 rfl (by decide) ?_
        refine wp_dup2 64 d_Mo_goesAlong_63 rfl rfl rfl ?_
        refine wp_iaload 65 d_Mo_goesAlong_64 rfl rfl (by first | exact vp_in_nI (n := 4) (N := 2332) (by omega) (by omega) | exact vp_in_nI (n := 5) (N := 2332) (by omega) (by omega)) ?_
        rw [show upd m_at 4 (t.fr k + t.to_ k - t.sd) (5 : Int32).toNatClampNeg = t.go from V.go]
        refine wp_aload_n 66 d_Mo_goesAlong_65 rfl rfl ?_
        refine wp_iload_n 67 d_Mo_goesAlong_66 rfl rfl ?_
        refine wp_V1 70 M_Mo_yardsOf 4 d_Mo_goesAlong_67 rfl mv_Mo_yardsOf lk_Mo_375 rfl rfl rfl rfl rfl ?_
        refine c_Mo_yardsOf (t := tSg t (t.fr k + t.to_ k - t.sd) t.go) (vT_s4 V (go_in V.in_ hkl (Or.inr h32.symm))) hkl ?_
        rw [show yY (tSg t (t.fr k + t.to_ k - t.sd) t.go) k = yA t.ea t.no t.fa t.te k from yY_eq V.ok V.in_ hkl]
        refine kI ?_
        refine wp_iadd 71 d_Mo_goesAlong_70 rfl ?_
        refine wp_iastore 72 d_Mo_goesAlong_71 rfl rfl (by first | exact vp_in_nI (n := 4) (N := 2332) (by omega) (by omega) | exact vp_in_nI (n := 5) (N := 2332) (by omega) (by omega)) ?_
        refine hEq (hM (upd (upd m_at 4 (t.fr k + t.to_ k - t.sd)) 5 (t.go + yA t.ea t.no t.fa t.te k)) m_names m_status m_top m_bottom m_sort m_trayMany m_trays m_tape m_text m_taped m_size m_token m_from m_end m_value m_faultKind m_faultPlace m_faults m_seen m_areOdds m_opened m_depth m_counted m_eastBy m_northBy m_partBy m_wayFaults m_wayEast m_wayNorth m_olds m_wayMany m_oneOfSet m_twoOfSet m_farBy m_rowBy m_triedBy m_rowMany m_doneAt m_gotAt m_struckAt m_bestDeed m_misBy m_drawn m_ranSteps m_loops m_ran m_told1 m_isTold m_marks) rfl ?_
        refine wp_iconst 73 1 d_Mo_goesAlong_72 rfl (by decide) ?_
        refine wp_zreturn d_Mo_goesAlong_73 rfl (by first | rfl | exact nbP _) ?_
        have hcg : canGo t.fr t.to_ (nI t.nL) t.sk t.sd (nI k) := ⟨((cgC (by omega) hL12).mp h12).1, h12.2, by rw [nI_clamp (by omega)]; exact Or.inr h32.symm⟩
        have e1 : goD t (nI k) = t.fr k + t.to_ k - t.sd := by unfold goD; rw [nI_clamp (by omega)]; exact (go_sum (Or.inr h32.symm)).symm
        have h9_ := hq1 hcg
        rw [e1] at h9_
        exact h9_
      · refine wp_iconst 36 0 d_Mo_goesAlong_35 rfl (by decide) ?_
        refine wp_zreturn d_Mo_goesAlong_36 rfl (by first | rfl | exact nbP _) ?_
        exact hq0 (fun z => z.2.2.elim (fun y => h22 (by rw [nI_clamp (by omega)] at y; exact y.symm)) (fun y => h32 (by rw [nI_clamp (by omega)] at y; exact y.symm)))

set_option maxRecDepth 100000 in
set_option maxHeartbeats 4000000 in
theorem c_Mo_go {l : Int32} (V : vT m_at t) (hq : ∀ a2, vT a2 (goF t l).2.2 → frA m_at a2 → Q (some (.int (goF t l).1)) (hM (a2) m_names ((goF t l).2.1) m_top m_bottom m_sort m_trayMany m_trays m_tape m_text m_taped m_size m_token m_from m_end m_value m_faultKind m_faultPlace m_faults m_seen m_areOdds m_opened m_depth m_counted m_eastBy m_northBy m_partBy m_wayFaults m_wayEast m_wayNorth m_olds m_wayMany m_oneOfSet m_twoOfSet m_farBy m_rowBy m_triedBy m_rowMany m_doneAt m_gotAt m_struckAt m_bestDeed m_misBy m_drawn m_ranSteps m_loops m_ran m_told1 m_isTold m_marks)) : Call Γ M_Mo_go 6 0 0 [.ref 0, .int l] (hM m_at m_names m_status m_top m_bottom m_sort m_trayMany m_trays m_tape m_text m_taped m_size m_token m_from m_end m_value m_faultKind m_faultPlace m_faults m_seen m_areOdds m_opened m_depth m_counted m_eastBy m_northBy m_partBy m_wayFaults m_wayEast m_wayNorth m_olds m_wayMany m_oneOfSet m_twoOfSet m_farBy m_rowBy m_triedBy m_rowMany m_doneAt m_gotAt m_struckAt m_bestDeed m_misBy m_drawn m_ranSteps m_loops m_ran m_told1 m_isTold m_marks) Q := by
  have hL12 := V.ok.hL
  have hP7 := V.ok.hP
  have hW4 := V.ok.hW
  refine call_intro (ls := [some (.ref 0), some (.int l)]) rfl rfl rfl ?_
  refine wp_aload_n 1 d_Mo_go_0 rfl rfl ?_
  refine wp_iload_n 2 d_Mo_go_1 rfl rfl ?_
  refine wp_V1 5 M_Mo_isLeg 1 d_Mo_go_2 rfl mv_Mo_isLeg lk_Mo_346 rfl rfl rfl rfl rfl ?_
  refine c_Mo_isLeg V ?_
  refine kI ?_
  (first | refine wp_ifP_ne 14 8 d_Mo_go_5 rfl (by decide) (fun h5 => ?_) (fun h5 => ?_) | refine wp_if_ne 14 8 d_Mo_go_5 rfl (by decide) (fun h5 => ?_) (fun h5 => ?_))
  · obtain ⟨k, hkl, rfl⟩ := inR_ex h5 (by omega)
    refine wp_aload_n 15 d_Mo_go_14 rfl rfl ?_
    refine wp_iload_n 16 d_Mo_go_15 rfl rfl ?_
    refine wp_V1 19 M_Mo_goesAlong 5 d_Mo_go_16 rfl mv_Mo_goesAlong lk_Mo_378 rfl rfl rfl rfl rfl ?_
    refine c_Mo_goesAlong V (by omega) (fun hn => ?_) (fun hy => ?_)
    · refine kI ?_
      refine wp_if_eq 35 22 d_Mo_go_19 rfl (by decide) (fun h19 => ?_) (fun h19 => ?_)
      · refine wp_aload_n 36 d_Mo_go_35 rfl rfl ?_
        refine wp_bipush 38 7 d_Mo_go_36 rfl (by decide) ?_
        refine wp_V1 41 M_Mo_refuse 1 d_Mo_go_38 rfl mv_Mo_refuse lk_Mo_111 rfl rfl rfl rfl rfl ?_
        refine c_Mo_refuse ?_
        refine kI ?_
        refine wp_ireturn d_Mo_go_41 rfl ?_
        have e : (goF t (nI k)) = _ := ((if_pos h5).trans (if_neg hn))
        rw [e] at hq
        exact hq m_at (V) (frA.rf)
      · exact absurd rfl h19
    · refine kI ?_
      refine wp_if_eq 35 22 d_Mo_go_19 rfl (by decide) (fun h19 => ?_) (fun h19 => ?_)
      · exact absurd h19 (by decide)
      · refine wp_aload_n 23 d_Mo_go_22 rfl rfl ?_
        refine wp_aload_n 24 d_Mo_go_23 rfl rfl ?_
        refine wp_getfield 27 12 0 d_Mo_go_24 rfl fl_Mo_7 rfl rfl ?_
        refine wp_iconst 28 4 d_Mo_go_27 rfl (by decide) ?_
        refine wp_iaload 29 d_Mo_go_28 rfl rfl (by first | exact vp_in_nI (n := 4) (N := 2332) (by omega) (by omega) | exact vp_in_nI (n := 5) (N := 2332) (by omega) (by omega)) ?_
        refine wp_V1 32 M_Mo_gives 1 d_Mo_go_29 rfl mv_Mo_gives lk_Mo_115 rfl rfl rfl rfl rfl ?_
        refine c_Mo_gives ?_
        refine kI ?_
        refine wp_goto 41 d_Mo_go_32 (by decide) ?_
        refine wp_ireturn d_Mo_go_41 rfl ?_
        rw [show upd (upd m_at 4 (goD t (nI k))) 5 (t.go + yA t.ea t.no t.fa t.te k) (4 : Int32).toNatClampNeg = goD t (nI k) from (upd_ne (by decide)).trans upd_at]
        have e : goF t (nI k) = (goD t (nI k), 0, tSg t (goD t (nI k)) (t.go + yA t.ea t.no t.fa t.te k)) := (if_pos h5).trans ((if_pos hy).trans (by rw [nI_clamp (by omega : k < 2 ^ 31)]))
        rw [e] at hq
        exact hq _ (vT_go V (gd_in V.in_ hkl (by omega))) ((frA.rf.u (by omega) (by omega)).u (by omega) (by omega))
  · refine wp_aload_n 9 d_Mo_go_8 rfl rfl ?_
    refine wp_iconst 10 1 d_Mo_go_9 rfl (by decide) ?_
    refine wp_V1 13 M_Mo_refuse 1 d_Mo_go_10 rfl mv_Mo_refuse lk_Mo_111 rfl rfl rfl rfl rfl ?_
    refine c_Mo_refuse ?_
    refine kI ?_
    refine wp_ireturn d_Mo_go_13 rfl ?_
    have e : (goF t l) = _ := (if_neg h5)
    rw [e] at hq
    exact hq m_at (V) (frA.rf)

end T82
