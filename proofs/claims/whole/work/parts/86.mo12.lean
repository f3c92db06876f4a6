/-! ===== the reference: TRAYS, 2; lived, fault ===== -/
theorem le4 {b : Int32} (h : 3 < b) : 4 ≤ b := by
  have a := Int32.lt_iff_toInt_lt.mp h
  have c : (3 : Int32).toInt = 3 := rfl
  have d : (4 : Int32).toInt = 4 := rfl
  exact Int32.le_iff_toInt_le.mpr (by omega)
theorem lt4 {b : Int32} (h : ¬ 3 < b) : b < 4 := by
  by_cases z : b < 4
  · exact z
  · exact absurd (Int32.lt_of_lt_of_le (by decide) (Int32.not_lt.mp z)) h
theorem lt61 {b : Int32} (h : b < 61) : b ≤ 60 := by
  have a := Int32.lt_iff_toInt_lt.mp h
  have c : (60 : Int32).toInt = 60 := rfl
  have d : (61 : Int32).toInt = 61 := rfl
  exact Int32.le_iff_toInt_le.mpr (by omega)
def zrT (k : Nat) (i : Nat) (f : Nat → Int64) : Nat → Int64 := vp_updL f (60 * k + i) 0
theorem zrT_at {k m : Nat} : ∀ (r i : Nat) (f : Nat → Int64), i + r = m → ∀ j, iterN (zrT k) r i f j = if 60 * k + i ≤ j ∧ j < 60 * k + m then 0 else f j
  | 0, i, f, hi, j => by
    rw [if_neg (by omega)]; rfl
  | r + 1, i, f, hi, j => by
    simp only [iterN]
    rw [zrT_at (m := m) r (i + 1) _ (by omega) j]
    by_cases e : j = 60 * k + i
    · rw [if_neg (by omega), if_pos (by omega), e]; exact if_pos rfl
    · rw [show zrT k i f j = f j from if_neg e]
      by_cases z : 60 * k + (i + 1) ≤ j ∧ j < 60 * k + m
      · rw [if_pos z, if_pos (by omega)]
      · rw [if_neg z, if_neg (by omega)]
theorem vY_tray {so tm : Nat → Int32} {tr : Nat → Int64} {Y : Nat → YT} (v : vY so tm tr Y) {k m : Nat} {b : Int32} (hk : k < 4) (hm : m ≤ 60) : vY (upd so k b) (upd tm k (nI m)) (iterN (zrT k) m 0 tr) (updY Y k (yB (Y k) b m)) := by
  intro j hj
  obtain ⟨g1, g2, g3, g4⟩ := v j hj
  by_cases e : j = k
  · subst e
    rw [show updY Y j (yB (Y j) b m) j = yB (Y j) b m from if_pos rfl, upd_at, upd_at]
    refine ⟨rfl, (if_neg (by show ¬ (1 : Int32) = 0; decide)).symm, hm, fun i hi _ => ?_⟩
    rw [zrT_at (m := m) m 0 tr (by omega), if_pos (by have : i < m := hi; omega)]
    show (0 : Int64) = if i < 60 then 0 else (Y j).yn i
    rw [if_pos (by have : i < m := hi; omega)]
  · rw [show updY Y k (yB (Y k) b m) j = Y j from if_neg e, upd_ne e, upd_ne e]
    refine ⟨g1, g2, g3, fun i hi hz => ?_⟩
    rw [zrT_at (m := m) m 0 tr (by omega), if_neg (by omega)]
    exact g4 i hi hz
section T86
variable {Γ : Gm} {Q : Option Value → LH → Prop} {m_at m_sort m_trayMany m_tape m_text m_opened m_eastBy m_northBy m_partBy m_wayFaults m_wayEast m_wayNorth m_olds m_farBy m_rowBy m_triedBy m_doneAt m_gotAt m_struckAt m_bestDeed m_loops m_ran m_told1 : Nat → Int32} {m_names m_trays m_misBy : Nat → Int64} {m_status m_taped m_size m_token m_from m_end m_value m_faultKind m_faultPlace m_faults m_seen m_areOdds m_depth m_counted m_wayMany m_oneOfSet m_twoOfSet m_rowMany m_drawn m_ranSteps m_isTold m_marks : Int32} {m_top m_bottom : Int64} {Y : Nat → YT}
set_option maxRecDepth 100000 in
set_option maxHeartbeats 4000000 in
theorem l_Mo_tray_49 {so tm : Nat → Int32} {k m : Nat} {b : Int32} (hk : k < 4) (hm : m ≤ 60) : ∀ (r i : Nat) (f : Nat → Int64), i + r = m → WP Γ M_Mo_tray 2 0 0 (hM m_at m_names m_status m_top m_bottom (so) (tm) (iterN (zrT k) r i f) m_tape m_text m_taped m_size m_token m_from m_end m_value m_faultKind m_faultPlace m_faults m_seen m_areOdds m_opened m_depth m_counted m_eastBy m_northBy m_partBy m_wayFaults m_wayEast m_wayNorth m_olds m_wayMany m_oneOfSet m_twoOfSet m_farBy m_rowBy m_triedBy m_rowMany m_doneAt m_gotAt m_struckAt m_bestDeed m_misBy m_drawn m_ranSteps m_loops m_ran m_told1 m_isTold m_marks) 74 [some (.ref 0), some (.int (nI k)), some (.int b), some (.int (nI m)), some (.int (nI m))] [] Q → WP Γ M_Mo_tray 2 0 0 (hM m_at m_names m_status m_top m_bottom (so) (tm) (f) m_tape m_text m_taped m_size m_token m_from m_end m_value m_faultKind m_faultPlace m_faults m_seen m_areOdds m_opened m_depth m_counted m_eastBy m_northBy m_partBy m_wayFaults m_wayEast m_wayNorth m_olds m_wayMany m_oneOfSet m_twoOfSet m_farBy m_rowBy m_triedBy m_rowMany m_doneAt m_gotAt m_struckAt m_bestDeed m_misBy m_drawn m_ranSteps m_loops m_ran m_told1 m_isTold m_marks) 49 [some (.ref 0), some (.int (nI k)), some (.int b), some (.int (nI m)), some (.int (nI i))] [] Q := by
  intro r
  induction r with
  | zero =>
    intro i f hi hinv
    have hq := hinv
    refine wp_iload 51 d_Mo_tray_49 rfl rfl ?_
    refine wp_iload_n 52 d_Mo_tray_51 rfl rfl ?_
    refine wp_icmp_ge 74 55 d_Mo_tray_52 rfl (by decide) (fun h52 => ?_) (fun h52 => ?_)
    · have e : i = m := by omega
      subst e
      exact hq
    · exact absurd ((nI_leI (a := m) (by omega) (by omega)).mpr (by omega)) h52
  | succ r ih =>
    intro i f hi hinv
    have hq := hinv
    refine wp_iload 51 d_Mo_tray_49 rfl rfl ?_
    refine wp_iload_n 52 d_Mo_tray_51 rfl rfl ?_
    refine wp_icmp_ge 74 55 d_Mo_tray_52 rfl (by decide) (fun h52 => ?_) (fun h52 => ?_)
    · exact absurd (nI_leN (b := m) h52 (by omega) (by omega)) (by omega)
    · refine wp_aload_n 56 d_Mo_tray_55 rfl rfl ?_
      refine wp_getfield 59 12 7 d_Mo_tray_56 rfl fl_Mo_27 rfl rfl ?_
      refine wp_bipush 61 60 d_Mo_tray_59 rfl (by decide) ?_
      refine wp_iload_n 62 d_Mo_tray_61 rfl rfl ?_
      refine wp_imul 63 d_Mo_tray_62 rfl ?_
      rw [mul60]
      refine wp_iload 65 d_Mo_tray_63 rfl rfl ?_
      refine wp_iadd 66 d_Mo_tray_65 rfl ?_
      rw [show (nI (60 * k) + nI i) = nI (60 * k + i) from nI_add _ _]
      refine wp_lconst 67 0 d_Mo_tray_66 rfl (by decide) ?_
      refine wp_lastoreN 68 d_Mo_tray_67 rfl rfl rfl (by omega) ?_
      refine hEq (hM m_at m_names m_status m_top m_bottom (so) (tm) (zrT k i f) m_tape m_text m_taped m_size m_token m_from m_end m_value m_faultKind m_faultPlace m_faults m_seen m_areOdds m_opened m_depth m_counted m_eastBy m_northBy m_partBy m_wayFaults m_wayEast m_wayNorth m_olds m_wayMany m_oneOfSet m_twoOfSet m_farBy m_rowBy m_triedBy m_rowMany m_doneAt m_gotAt m_struckAt m_bestDeed m_misBy m_drawn m_ranSteps m_loops m_ran m_told1 m_isTold m_marks) rfl ?_
      first | refine wp_iincN_4 71 d_Mo_tray_68 rfl rfl rfl ?_ | refine wp_iinc_4 71 1 d_Mo_tray_68 rfl (by decide) rfl rfl ?_
      refine wp_goto 49 d_Mo_tray_71 (by decide) ?_
      exact ih (i + 1) _ (by omega) hq

theorem lt5b {b : Int32} (h : b < 5) : b ≤ 4 := by
  have a := Int32.lt_iff_toInt_lt.mp h
  have c : (4 : Int32).toInt = 4 := rfl
  have d : (5 : Int32).toInt = 5 := rfl
  exact Int32.le_iff_toInt_le.mpr (by omega)
set_option maxRecDepth 100000 in
set_option maxHeartbeats 4000000 in
theorem c_Mo_tray {a b c : Int32} (v : vY m_sort m_trayMany m_trays Y) (hq : ∀ so2 tm2 tr2, vY so2 tm2 tr2 (trF Y a b c).2.2 → Q (some (.int (trF Y a b c).1)) (hM m_at m_names ((trF Y a b c).2.1) m_top m_bottom (so2) (tm2) (tr2) m_tape m_text m_taped m_size m_token m_from m_end m_value m_faultKind m_faultPlace m_faults m_seen m_areOdds m_opened m_depth m_counted m_eastBy m_northBy m_partBy m_wayFaults m_wayEast m_wayNorth m_olds m_wayMany m_oneOfSet m_twoOfSet m_farBy m_rowBy m_triedBy m_rowMany m_doneAt m_gotAt m_struckAt m_bestDeed m_misBy m_drawn m_ranSteps m_loops m_ran m_told1 m_isTold m_marks)) : Call Γ M_Mo_tray 2 0 0 [.ref 0, .int a, .int b, .int c] (hM m_at m_names m_status m_top m_bottom m_sort m_trayMany m_trays m_tape m_text m_taped m_size m_token m_from m_end m_value m_faultKind m_faultPlace m_faults m_seen m_areOdds m_opened m_depth m_counted m_eastBy m_northBy m_partBy m_wayFaults m_wayEast m_wayNorth m_olds m_wayMany m_oneOfSet m_twoOfSet m_farBy m_rowBy m_triedBy m_rowMany m_doneAt m_gotAt m_struckAt m_bestDeed m_misBy m_drawn m_ranSteps m_loops m_ran m_told1 m_isTold m_marks) Q := by
  refine call_intro (ls := [some (.ref 0), some (.int a), some (.int b), some (.int c), none]) rfl rfl rfl ?_
  refine wp_iload_n 1 d_Mo_tray_0 rfl rfl ?_
  refine wp_S1 4 M_Mo_isTray 1 d_Mo_tray_1 rfl ms_Mo_isTray lk_Mo_122 rfl rfl ?_
  refine c_Mo_isTray ?_
  refine kI ?_
  (first | refine wp_ifP_eq 26 7 d_Mo_tray_4 rfl (by decide) (fun h4 => ?_) (fun h4 => ?_) | refine wp_if_eq 26 7 d_Mo_tray_4 rfl (by decide) (fun h4 => ?_) (fun h4 => ?_))
  · refine wp_aload_n 27 d_Mo_tray_26 rfl rfl ?_
    refine wp_iconst 28 1 d_Mo_tray_27 rfl (by decide) ?_
    refine wp_V1 31 M_Mo_is 1 d_Mo_tray_28 rfl mv_Mo_is lk_Mo_118 rfl rfl rfl rfl rfl ?_
    refine c_Mo_is ?_
    refine kI ?_
    refine wp_zreturn d_Mo_tray_31 rfl (by first | rfl | exact nbP _) ?_
    have e : trF Y a b c = _ := if_neg (fun z => h4 z.1)
    rw [e] at hq
    rw [bP_f (by decide)]
    exact hq _ _ _ v
  · refine wp_iload_n 8 d_Mo_tray_7 rfl rfl ?_
    refine wp_if_lt 26 11 d_Mo_tray_8 rfl (by decide) (fun h8 => ?_) (fun h8 => ?_)
    · refine wp_aload_n 27 d_Mo_tray_26 rfl rfl ?_
      refine wp_iconst 28 1 d_Mo_tray_27 rfl (by decide) ?_
      refine wp_V1 31 M_Mo_is 1 d_Mo_tray_28 rfl mv_Mo_is lk_Mo_118 rfl rfl rfl rfl rfl ?_
      refine c_Mo_is ?_
      refine kI ?_
      refine wp_zreturn d_Mo_tray_31 rfl (by first | rfl | exact nbP _) ?_
      have e : trF Y a b c = _ := if_neg (fun z => absurd h8 (Int32.not_lt.mpr z.2.1.1))
      rw [e] at hq
      rw [bP_f (by decide)]
      exact hq _ _ _ v
    · refine wp_iload_n 12 d_Mo_tray_11 rfl rfl ?_
      refine wp_iconst 13 3 d_Mo_tray_12 rfl (by decide) ?_
      refine wp_icmp_gt 26 16 d_Mo_tray_13 rfl (by decide) (fun h13 => ?_) (fun h13 => ?_)
      · refine wp_aload_n 27 d_Mo_tray_26 rfl rfl ?_
        refine wp_iconst 28 1 d_Mo_tray_27 rfl (by decide) ?_
        refine wp_V1 31 M_Mo_is 1 d_Mo_tray_28 rfl mv_Mo_is lk_Mo_118 rfl rfl rfl rfl rfl ?_
        refine c_Mo_is ?_
        refine kI ?_
        refine wp_zreturn d_Mo_tray_31 rfl (by first | rfl | exact nbP _) ?_
        have e : trF Y a b c = _ := if_neg (fun z => absurd z.2.1.2 (Int32.not_lt.mpr (le4 h13)))
        rw [e] at hq
        rw [bP_f (by decide)]
        exact hq _ _ _ v
      · refine wp_iload_n 17 d_Mo_tray_16 rfl rfl ?_
        refine wp_if_lt 26 20 d_Mo_tray_17 rfl (by decide) (fun h17 => ?_) (fun h17 => ?_)
        · refine wp_aload_n 27 d_Mo_tray_26 rfl rfl ?_
          refine wp_iconst 28 1 d_Mo_tray_27 rfl (by decide) ?_
          refine wp_V1 31 M_Mo_is 1 d_Mo_tray_28 rfl mv_Mo_is lk_Mo_118 rfl rfl rfl rfl rfl ?_
          refine c_Mo_is ?_
          refine kI ?_
          refine wp_zreturn d_Mo_tray_31 rfl (by first | rfl | exact nbP _) ?_
          have e : trF Y a b c = _ := if_neg (fun z => absurd h17 (Int32.not_lt.mpr z.2.2.1))
          rw [e] at hq
          rw [bP_f (by decide)]
          exact hq _ _ _ v
        · refine wp_iload_n 21 d_Mo_tray_20 rfl rfl ?_
          refine wp_bipush 23 60 d_Mo_tray_21 rfl (by decide) ?_
          refine wp_icmp_le 32 26 d_Mo_tray_23 rfl (by decide) (fun h23 => ?_) (fun h23 => ?_)
          · obtain ⟨k, hk, rfl⟩ := inR_ex (n := 4) h4 (by omega)
            obtain ⟨m, hm, rfl⟩ := nI_of h17
            have hm60 : m ≤ 60 := nI_leN (a := 60) h23 (by omega) (by omega)
            refine wp_aload_n 33 d_Mo_tray_32 rfl rfl ?_
            refine wp_getfield 36 12 5 d_Mo_tray_33 rfl fl_Mo_21 rfl rfl ?_
            refine wp_iload_n 37 d_Mo_tray_36 rfl rfl ?_
            refine wp_iload_n 38 d_Mo_tray_37 rfl rfl ?_
            refine wp_iastoreN 39 d_Mo_tray_38 rfl rfl rfl (by omega) ?_
            refine hEq (hM m_at m_names m_status m_top m_bottom (upd m_sort k b) m_trayMany m_trays m_tape m_text m_taped m_size m_token m_from m_end m_value m_faultKind m_faultPlace m_faults m_seen m_areOdds m_opened m_depth m_counted m_eastBy m_northBy m_partBy m_wayFaults m_wayEast m_wayNorth m_olds m_wayMany m_oneOfSet m_twoOfSet m_farBy m_rowBy m_triedBy m_rowMany m_doneAt m_gotAt m_struckAt m_bestDeed m_misBy m_drawn m_ranSteps m_loops m_ran m_told1 m_isTold m_marks) rfl ?_
            refine wp_aload_n 40 d_Mo_tray_39 rfl rfl ?_
            refine wp_getfield 43 12 6 d_Mo_tray_40 rfl fl_Mo_24 rfl rfl ?_
            refine wp_iload_n 44 d_Mo_tray_43 rfl rfl ?_
            refine wp_iload_n 45 d_Mo_tray_44 rfl rfl ?_
            refine wp_iastoreN 46 d_Mo_tray_45 rfl rfl rfl (by omega) ?_
            refine hEq (hM m_at m_names m_status m_top m_bottom (upd m_sort k b) (upd m_trayMany k (nI m)) m_trays m_tape m_text m_taped m_size m_token m_from m_end m_value m_faultKind m_faultPlace m_faults m_seen m_areOdds m_opened m_depth m_counted m_eastBy m_northBy m_partBy m_wayFaults m_wayEast m_wayNorth m_olds m_wayMany m_oneOfSet m_twoOfSet m_farBy m_rowBy m_triedBy m_rowMany m_doneAt m_gotAt m_struckAt m_bestDeed m_misBy m_drawn m_ranSteps m_loops m_ran m_told1 m_isTold m_marks) rfl ?_
            refine wp_iconst 47 0 d_Mo_tray_46 rfl (by decide) ?_
            refine wp_istore_4 49 d_Mo_tray_47 rfl rfl rfl ?_
            refine l_Mo_tray_49 hk hm60 m 0 m_trays (by omega) ?_
            refine wp_aload_n 75 d_Mo_tray_74 rfl rfl ?_
            refine wp_iconst 76 0 d_Mo_tray_75 rfl (by decide) ?_
            refine wp_V1 79 M_Mo_is 1 d_Mo_tray_76 rfl mv_Mo_is lk_Mo_118 rfl rfl rfl rfl rfl ?_
            refine c_Mo_is ?_
            refine kI ?_
            refine wp_zreturn d_Mo_tray_79 rfl (by first | rfl | exact nbP _) ?_
            rw [bP_t rfl]
            have e : trF Y (nI k) b (nI m) = (1, 0, updY Y k (yB (Y k) b m)) := (if_pos ⟨h4, ⟨Int32.not_lt.mp h8, lt4 h13⟩, ⟨Int32.not_lt.mp h17, (nI_ltI (a := m) (b := 61) (by omega) (by omega)).mpr (by omega)⟩⟩).trans (by rw [nI_clamp (by omega : k < 2 ^ 31), nI_clamp (by omega : m < 2 ^ 31)])
            rw [e] at hq
            exact hq _ _ _ (vY_tray v hk hm60)
          · refine wp_aload_n 27 d_Mo_tray_26 rfl rfl ?_
            refine wp_iconst 28 1 d_Mo_tray_27 rfl (by decide) ?_
            refine wp_V1 31 M_Mo_is 1 d_Mo_tray_28 rfl mv_Mo_is lk_Mo_118 rfl rfl rfl rfl rfl ?_
            refine c_Mo_is ?_
            refine kI ?_
            refine wp_zreturn d_Mo_tray_31 rfl (by first | rfl | exact nbP _) ?_
            have e : trF Y a b c = _ := if_neg (fun z => h23 (lt61 z.2.2.2))
            rw [e] at hq
            rw [bP_f (by decide)]
            exact hq _ _ _ v

set_option maxRecDepth 100000 in
set_option maxHeartbeats 4000000 in
theorem c_Mo_fault {w : Int32} (hq : Q (some (.int (if w = 0 then m_faultKind else if w = 1 then m_faultPlace else -1))) (hM m_at m_names m_status m_top m_bottom m_sort m_trayMany m_trays m_tape m_text m_taped m_size m_token m_from m_end m_value m_faultKind m_faultPlace m_faults m_seen m_areOdds m_opened m_depth m_counted m_eastBy m_northBy m_partBy m_wayFaults m_wayEast m_wayNorth m_olds m_wayMany m_oneOfSet m_twoOfSet m_farBy m_rowBy m_triedBy m_rowMany m_doneAt m_gotAt m_struckAt m_bestDeed m_misBy m_drawn m_ranSteps m_loops m_ran m_told1 m_isTold m_marks)) : Call Γ M_Mo_fault 1 0 0 [.ref 0, .int w] (hM m_at m_names m_status m_top m_bottom m_sort m_trayMany m_trays m_tape m_text m_taped m_size m_token m_from m_end m_value m_faultKind m_faultPlace m_faults m_seen m_areOdds m_opened m_depth m_counted m_eastBy m_northBy m_partBy m_wayFaults m_wayEast m_wayNorth m_olds m_wayMany m_oneOfSet m_twoOfSet m_farBy m_rowBy m_triedBy m_rowMany m_doneAt m_gotAt m_struckAt m_bestDeed m_misBy m_drawn m_ranSteps m_loops m_ran m_told1 m_isTold m_marks) Q := by
  refine call_intro (ls := [some (.ref 0), some (.int w)]) rfl rfl rfl ?_
  refine wp_iload_n 1 d_Mo_fault_0 rfl rfl ?_
  refine wp_if_ne 11 4 d_Mo_fault_1 rfl (by decide) (fun h1 => ?_) (fun h1 => ?_)
  · refine wp_iload_n 12 d_Mo_fault_11 rfl rfl ?_
    refine wp_iconst 13 1 d_Mo_fault_12 rfl (by decide) ?_
    refine wp_icmp_ne 23 16 d_Mo_fault_13 rfl (by decide) (fun h13 => ?_) (fun h13 => ?_)
    · refine wp_iconst 24 (-1) d_Mo_fault_23 rfl (by decide) ?_
      refine wp_ireturn d_Mo_fault_24 rfl ?_
      rw [if_neg h1, if_neg h13] at hq
      exact hq
    · refine wp_aload_n 17 d_Mo_fault_16 rfl rfl ?_
      refine wp_getfield 20 12 17 d_Mo_fault_17 rfl fl_Mo_41 rfl rfl ?_
      refine wp_goto 24 d_Mo_fault_20 (by decide) ?_
      refine wp_ireturn d_Mo_fault_24 rfl ?_
      rw [if_neg h1, if_pos h13] at hq
      exact hq
  · refine wp_aload_n 5 d_Mo_fault_4 rfl rfl ?_
    refine wp_getfield 8 12 16 d_Mo_fault_5 rfl fl_Mo_37 rfl rfl ?_
    refine wp_goto 24 d_Mo_fault_8 (by decide) ?_
    refine wp_ireturn d_Mo_fault_24 rfl ?_
    rw [if_pos h1] at hq
    exact hq

set_option maxRecDepth 100000 in
set_option maxHeartbeats 4000000 in
theorem c_Mo_lived {w : Int32} (hq : Q (some (.int (ldF m_told1 m_isTold w).2)) (hM m_at m_names ((ldF m_told1 m_isTold w).1) m_top m_bottom m_sort m_trayMany m_trays m_tape m_text m_taped m_size m_token m_from m_end m_value m_faultKind m_faultPlace m_faults m_seen m_areOdds m_opened m_depth m_counted m_eastBy m_northBy m_partBy m_wayFaults m_wayEast m_wayNorth m_olds m_wayMany m_oneOfSet m_twoOfSet m_farBy m_rowBy m_triedBy m_rowMany m_doneAt m_gotAt m_struckAt m_bestDeed m_misBy m_drawn m_ranSteps m_loops m_ran m_told1 m_isTold m_marks)) : Call Γ M_Mo_lived 2 0 0 [.ref 0, .int w] (hM m_at m_names m_status m_top m_bottom m_sort m_trayMany m_trays m_tape m_text m_taped m_size m_token m_from m_end m_value m_faultKind m_faultPlace m_faults m_seen m_areOdds m_opened m_depth m_counted m_eastBy m_northBy m_partBy m_wayFaults m_wayEast m_wayNorth m_olds m_wayMany m_oneOfSet m_twoOfSet m_farBy m_rowBy m_triedBy m_rowMany m_doneAt m_gotAt m_struckAt m_bestDeed m_misBy m_drawn m_ranSteps m_loops m_ran m_told1 m_isTold m_marks) Q := by
  refine call_intro (ls := [some (.ref 0), some (.int w)]) rfl rfl rfl ?_
  refine wp_iload_n 1 d_Mo_lived_0 rfl rfl ?_
  refine wp_if_lt 9 4 d_Mo_lived_1 rfl (by decide) (fun h1 => ?_) (fun h1 => ?_)
  · refine wp_aload_n 10 d_Mo_lived_9 rfl rfl ?_
    refine wp_iconst 11 1 d_Mo_lived_10 rfl (by decide) ?_
    refine wp_V1 14 M_Mo_refuse 1 d_Mo_lived_11 rfl mv_Mo_refuse lk_Mo_111 rfl rfl rfl rfl rfl ?_
    refine c_Mo_refuse ?_
    refine kI ?_
    refine wp_goto 43 d_Mo_lived_14 (by decide) ?_
    refine wp_ireturn d_Mo_lived_43 rfl ?_
    have e : ldF m_told1 m_isTold w = _ := (if_neg (fun z => absurd h1 (Int32.not_lt.mpr z.1)))
    rw [e] at hq
    exact hq
  · refine wp_iload_n 5 d_Mo_lived_4 rfl rfl ?_
    refine wp_iconst 6 4 d_Mo_lived_5 rfl (by decide) ?_
    refine wp_icmp_le 17 9 d_Mo_lived_6 rfl (by decide) (fun h6 => ?_) (fun h6 => ?_)
    · refine wp_aload_n 18 d_Mo_lived_17 rfl rfl ?_
      refine wp_getfield 21 12 48 d_Mo_lived_18 rfl fl_Mo_490 rfl rfl ?_
      refine wp_if_eq 37 24 d_Mo_lived_21 rfl (by decide) (fun h21 => ?_) (fun h21 => ?_)
      · refine wp_aload_n 38 d_Mo_lived_37 rfl rfl ?_
        refine wp_bipush 40 6 d_Mo_lived_38 rfl (by decide) ?_
        refine wp_V1 43 M_Mo_refuse 1 d_Mo_lived_40 rfl mv_Mo_refuse lk_Mo_111 rfl rfl rfl rfl rfl ?_
        refine c_Mo_refuse ?_
        refine kI ?_
        refine wp_ireturn d_Mo_lived_43 rfl ?_
        have e : ldF m_told1 m_isTold w = _ := ((if_pos ⟨Int32.not_lt.mp h1, lt5 h6⟩).trans (if_pos h21))
        rw [e] at hq
        exact hq
      · refine wp_aload_n 25 d_Mo_lived_24 rfl rfl ?_
        refine wp_aload_n 26 d_Mo_lived_25 rfl rfl ?_
        refine wp_getfield 29 12 47 d_Mo_lived_26 rfl fl_Mo_98 rfl rfl ?_
        refine wp_iload_n 30 d_Mo_lived_29 rfl rfl ?_
        refine wp_iaload 31 d_Mo_lived_30 rfl rfl (inR_in (n := 5) ⟨Int32.not_lt.mp h1, lt5 h6⟩ (by omega) (by omega)) ?_
        refine wp_V1 34 M_Mo_gives 1 d_Mo_lived_31 rfl mv_Mo_gives lk_Mo_115 rfl rfl rfl rfl rfl ?_
        refine c_Mo_gives ?_
        refine kI ?_
        refine wp_goto 43 d_Mo_lived_34 (by decide) ?_
        refine wp_ireturn d_Mo_lived_43 rfl ?_
        have e : ldF m_told1 m_isTold w = _ := ((if_pos ⟨Int32.not_lt.mp h1, lt5 h6⟩).trans (if_neg h21))
        rw [e] at hq
        exact hq
    · refine wp_aload_n 10 d_Mo_lived_9 rfl rfl ?_
      refine wp_iconst 11 1 d_Mo_lived_10 rfl (by decide) ?_
      refine wp_V1 14 M_Mo_refuse 1 d_Mo_lived_11 rfl mv_Mo_refuse lk_Mo_111 rfl rfl rfl rfl rfl ?_
      refine c_Mo_refuse ?_
      refine kI ?_
      refine wp_goto 43 d_Mo_lived_14 (by decide) ?_
      refine wp_ireturn d_Mo_lived_43 rfl ?_
      have e : ldF m_told1 m_isTold w = _ := (if_neg (fun z => h6 (lt5b z.2)))
      rw [e] at hq
      exact hq

end T86
