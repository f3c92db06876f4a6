/-! ===== the reference: loops over what lies ===== -/
def mvS (t : TW) (s : MS) (l : Nat) : Int32 := misV s.2.1 s.2.2 (tE_ t) (tN_ t) t.fr t.to_ l
abbrev moM (t : TW) (s : MS) (l : Nat) : Prop := (nI l < nI t.nL ∧ ¬ hs t.sk (nI l)) ∧ ¬ s.1 (t.fr l).toNatClampNeg = -1 ∧ 0 < mvS t s l
def moMi (t : TW) (s : MS) : Int32 := iorr (fun l => if moM t s l then bit (nI l) else 0) t.nL
def moLi (t : TW) (s : MS) : Int32 := iorr (fun p => if ¬ s.1 p = -1 then bit (nI p) else 0) t.nP
def moPa (t : TW) (s : MS) : Int32 := isum (fun p => if s.1 p = nI p then 1 else 0) t.nP
def moTh (t : TW) : Int32 := isum (fun l => if nI l < nI t.nL ∧ ¬ hs t.sk (nI l) then 1 else 0) t.nL
section T72
variable {Γ : Gm} {Q : Option Value → LH → Prop} {m_at m_sort m_trayMany m_tape m_text m_opened m_eastBy m_northBy m_partBy m_wayFaults m_wayEast m_wayNorth m_olds m_farBy m_rowBy m_triedBy m_doneAt m_gotAt m_struckAt m_bestDeed m_loops m_ran m_told1 : Nat → Int32} {m_names m_trays m_misBy : Nat → Int64} {m_status m_taped m_size m_token m_from m_end m_value m_faultKind m_faultPlace m_faults m_seen m_areOdds m_depth m_counted m_wayMany m_oneOfSet m_twoOfSet m_rowMany m_drawn m_ranSteps m_isTold m_marks : Int32} {m_top m_bottom : Int64} {t : TW}
theorem nI_ne1 {n : Nat} (h : n < 2 ^ 31) : ¬ nI n = -1 := fun z => absurd (show (-1 : Int32) < 0 by decide) (by rw [← z]; exact Int32.not_lt.mpr (show nI 0 ≤ nI n from (nI_leI (by omega) (by omega)).mpr (by omega)))
set_option maxRecDepth 100000 in
set_option maxHeartbeats 4000000 in
theorem l_Mo_spreads_2 (V : vT m_at t) : ∀ (f r i : Nat) (pb eb nb : Nat → Int32), i + r = t.nL → (∀ j, j < i → ¬ moP t pb j) → spD t f (pb, eb, nb) → Q none (hM m_at m_names m_status m_top m_bottom m_sort m_trayMany m_trays m_tape m_text m_taped m_size m_token m_from m_end m_value m_faultKind m_faultPlace m_faults m_seen m_areOdds m_opened m_depth m_counted ((spI t f (pb, eb, nb)).2.1) ((spI t f (pb, eb, nb)).2.2) ((spI t f (pb, eb, nb)).1) m_wayFaults m_wayEast m_wayNorth m_olds m_wayMany m_oneOfSet m_twoOfSet m_farBy m_rowBy m_triedBy m_rowMany m_doneAt m_gotAt m_struckAt m_bestDeed m_misBy m_drawn m_ranSteps m_loops m_ran m_told1 m_isTold m_marks) → WP Γ M_Mo_spreads 5 0 0 (hM m_at m_names m_status m_top m_bottom m_sort m_trayMany m_trays m_tape m_text m_taped m_size m_token m_from m_end m_value m_faultKind m_faultPlace m_faults m_seen m_areOdds m_opened m_depth m_counted (eb) (nb) (pb) m_wayFaults m_wayEast m_wayNorth m_olds m_wayMany m_oneOfSet m_twoOfSet m_farBy m_rowBy m_triedBy m_rowMany m_doneAt m_gotAt m_struckAt m_bestDeed m_misBy m_drawn m_ranSteps m_loops m_ran m_told1 m_isTold m_marks) 2 [some (.ref 0), some (.int (nI i))] [] Q := by
  have hL12 := V.ok.hL
  intro f
  induction f with
  | zero =>
    intro r
    induction r with
    | zero =>
      intro i pb eb nb hi hno hd hq
      refine wp_iload_n 3 d_Mo_spreads_2 rfl rfl ?_
      refine wp_aload_n 4 d_Mo_spreads_3 rfl rfl ?_
      refine wp_getfield 7 12 0 d_Mo_spreads_4 rfl fl_Mo_7 rfl rfl ?_
      refine wp_iconst 8 2 d_Mo_spreads_7 rfl (by decide) ?_
      refine wp_iaload 9 d_Mo_spreads_8 rfl rfl (vp_in_nI (n := 2) (N := 2332) (by omega) (by omega)) ?_
      rw [show m_at (2 : Int32).toNatClampNeg = nI t.nL from V.L]
      refine wp_icmp_ge 31 12 d_Mo_spreads_9 rfl (by decide) (fun h9 => ?_) (fun h9 => ?_)
      · refine wp_return d_Mo_spreads_31 rfl ?_
        have hn : moF t pb = -1 := ffind_no (fun j _ hj => hno j (by omega))
        have e : spI t 0 (pb, eb, nb) = (pb, eb, nb) := rfl
        rw [e] at hq
        exact hq
      · exact absurd ((nI_leI (a := t.nL) (by omega) (by omega)).mpr (by omega)) h9
    | succ r ihr =>
      intro i pb eb nb hi hno hd hq
      refine wp_iload_n 3 d_Mo_spreads_2 rfl rfl ?_
      refine wp_aload_n 4 d_Mo_spreads_3 rfl rfl ?_
      refine wp_getfield 7 12 0 d_Mo_spreads_4 rfl fl_Mo_7 rfl rfl ?_
      refine wp_iconst 8 2 d_Mo_spreads_7 rfl (by decide) ?_
      refine wp_iaload 9 d_Mo_spreads_8 rfl rfl (vp_in_nI (n := 2) (N := 2332) (by omega) (by omega)) ?_
      rw [show m_at (2 : Int32).toNatClampNeg = nI t.nL from V.L]
      refine wp_icmp_ge 31 12 d_Mo_spreads_9 rfl (by decide) (fun h9 => ?_) (fun h9 => ?_)
      · exact absurd (nI_leN (b := t.nL) h9 (by omega) (by omega)) (by omega)
      · refine wp_aload_n 13 d_Mo_spreads_12 rfl rfl ?_
        refine wp_iload_n 14 d_Mo_spreads_13 rfl rfl ?_
        refine wp_V1 17 M_Mo_lays 4 d_Mo_spreads_14 rfl mv_Mo_lays lk_Mo_306 rfl rfl rfl rfl rfl ?_
        refine c_Mo_lays V (by omega) (fun hp => ?_) (fun hn => ?_)
        · refine kI ?_
          refine wp_if_eq 24 20 d_Mo_spreads_17 rfl (by decide) (fun h17 => absurd h17 (by decide)) (fun h17 => ?_)
          refine wp_iconst 21 0 d_Mo_spreads_20 rfl (by decide) ?_
          refine wp_goto 27 d_Mo_spreads_21 (by decide) ?_
          refine wp_istore_1 28 d_Mo_spreads_27 rfl rfl rfl ?_
          refine wp_goto 2 d_Mo_spreads_28 (by decide) ?_
          exact absurd hp (ffind_neg (k := 0) (by omega) hd i (by omega) (by omega))
        · refine kI ?_
          refine wp_if_eq 24 20 d_Mo_spreads_17 rfl (by decide) (fun h17 => ?_) (fun h17 => absurd rfl h17)
          refine wp_iload_n 25 d_Mo_spreads_24 rfl rfl ?_
          refine wp_iconst 26 1 d_Mo_spreads_25 rfl (by decide) ?_
          refine wp_iadd 27 d_Mo_spreads_26 rfl ?_
          rw [nI_1]
          refine wp_istore_1 28 d_Mo_spreads_27 rfl rfl rfl ?_
          refine wp_goto 2 d_Mo_spreads_28 (by decide) ?_
          exact ihr (i + 1) _ _ _ (by omega) (fun j hj => by
            rcases Nat.lt_or_ge j i with z | z
            · exact hno j z
            · rw [show j = i by omega]; exact hn) hd hq
  | succ f ihf =>
    intro r
    induction r with
    | zero =>
      intro i pb eb nb hi hno hd hq
      refine wp_iload_n 3 d_Mo_spreads_2 rfl rfl ?_
      refine wp_aload_n 4 d_Mo_spreads_3 rfl rfl ?_
      refine wp_getfield 7 12 0 d_Mo_spreads_4 rfl fl_Mo_7 rfl rfl ?_
      refine wp_iconst 8 2 d_Mo_spreads_7 rfl (by decide) ?_
      refine wp_iaload 9 d_Mo_spreads_8 rfl rfl (vp_in_nI (n := 2) (N := 2332) (by omega) (by omega)) ?_
      rw [show m_at (2 : Int32).toNatClampNeg = nI t.nL from V.L]
      refine wp_icmp_ge 31 12 d_Mo_spreads_9 rfl (by decide) (fun h9 => ?_) (fun h9 => ?_)
      · refine wp_return d_Mo_spreads_31 rfl ?_
        have hn : moF t pb = -1 := ffind_no (fun j _ hj => hno j (by omega))
        have e : spI t (f + 1) (pb, eb, nb) = (pb, eb, nb) := if_pos hn
        rw [e] at hq
        exact hq
      · exact absurd ((nI_leI (a := t.nL) (by omega) (by omega)).mpr (by omega)) h9
    | succ r ihr =>
      intro i pb eb nb hi hno hd hq
      refine wp_iload_n 3 d_Mo_spreads_2 rfl rfl ?_
      refine wp_aload_n 4 d_Mo_spreads_3 rfl rfl ?_
      refine wp_getfield 7 12 0 d_Mo_spreads_4 rfl fl_Mo_7 rfl rfl ?_
      refine wp_iconst 8 2 d_Mo_spreads_7 rfl (by decide) ?_
      refine wp_iaload 9 d_Mo_spreads_8 rfl rfl (vp_in_nI (n := 2) (N := 2332) (by omega) (by omega)) ?_
      rw [show m_at (2 : Int32).toNatClampNeg = nI t.nL from V.L]
      refine wp_icmp_ge 31 12 d_Mo_spreads_9 rfl (by decide) (fun h9 => ?_) (fun h9 => ?_)
      · exact absurd (nI_leN (b := t.nL) h9 (by omega) (by omega)) (by omega)
      · refine wp_aload_n 13 d_Mo_spreads_12 rfl rfl ?_
        refine wp_iload_n 14 d_Mo_spreads_13 rfl rfl ?_
        refine wp_V1 17 M_Mo_lays 4 d_Mo_spreads_14 rfl mv_Mo_lays lk_Mo_306 rfl rfl rfl rfl rfl ?_
        refine c_Mo_lays V (by omega) (fun hp => ?_) (fun hn => ?_)
        · refine kI ?_
          refine wp_if_eq 24 20 d_Mo_spreads_17 rfl (by decide) (fun h17 => absurd h17 (by decide)) (fun h17 => ?_)
          refine wp_iconst 21 0 d_Mo_spreads_20 rfl (by decide) ?_
          refine wp_goto 27 d_Mo_spreads_21 (by decide) ?_
          refine wp_istore_1 28 d_Mo_spreads_27 rfl rfl rfl ?_
          refine wp_goto 2 d_Mo_spreads_28 (by decide) ?_
          have e0 : moF t pb = nI i := ffind_at (fun j _ hj => hno j hj) hp (by omega) (by omega)
          have e : spI t (f + 1) (pb, eb, nb) = spI t f (moL t i (pb, eb, nb)) := (if_neg (by rw [show ((pb, eb, nb) : MS).1 = pb from rfl, e0]; exact nI_ne1 (by omega))).trans (by rw [show ((pb, eb, nb) : MS).1 = pb from rfl, e0, nI_clamp (by omega)])
          rw [e] at hq
          refine ihf t.nL 0 _ _ _ (by omega) (fun j h => absurd h (Nat.not_lt_zero j)) ?_ hq
          unfold spD at hd ⊢
          rw [e] at hd
          exact hd
        · refine kI ?_
          refine wp_if_eq 24 20 d_Mo_spreads_17 rfl (by decide) (fun h17 => ?_) (fun h17 => absurd rfl h17)
          refine wp_iload_n 25 d_Mo_spreads_24 rfl rfl ?_
          refine wp_iconst 26 1 d_Mo_spreads_25 rfl (by decide) ?_
          refine wp_iadd 27 d_Mo_spreads_26 rfl ?_
          rw [nI_1]
          refine wp_istore_1 28 d_Mo_spreads_27 rfl rfl rfl ?_
          refine wp_goto 2 d_Mo_spreads_28 (by decide) ?_
          exact ihr (i + 1) _ _ _ (by omega) (fun j hj => by
            rcases Nat.lt_or_ge j i with z | z
            · exact hno j z
            · rw [show j = i by omega]; exact hn) hd hq
set_option maxRecDepth 100000 in
set_option maxHeartbeats 4000000 in
theorem c_Mo_spreads (V : vT m_at t) (hq : Q none (hM m_at m_names m_status m_top m_bottom m_sort m_trayMany m_trays m_tape m_text m_taped m_size m_token m_from m_end m_value m_faultKind m_faultPlace m_faults m_seen m_areOdds m_opened m_depth m_counted ((spI t 7 (m_partBy, m_eastBy, m_northBy)).2.1) ((spI t 7 (m_partBy, m_eastBy, m_northBy)).2.2) ((spI t 7 (m_partBy, m_eastBy, m_northBy)).1) m_wayFaults m_wayEast m_wayNorth m_olds m_wayMany m_oneOfSet m_twoOfSet m_farBy m_rowBy m_triedBy m_rowMany m_doneAt m_gotAt m_struckAt m_bestDeed m_misBy m_drawn m_ranSteps m_loops m_ran m_told1 m_isTold m_marks)) : Call Γ M_Mo_spreads 5 0 0 [.ref 0] (hM m_at m_names m_status m_top m_bottom m_sort m_trayMany m_trays m_tape m_text m_taped m_size m_token m_from m_end m_value m_faultKind m_faultPlace m_faults m_seen m_areOdds m_opened m_depth m_counted m_eastBy m_northBy m_partBy m_wayFaults m_wayEast m_wayNorth m_olds m_wayMany m_oneOfSet m_twoOfSet m_farBy m_rowBy m_triedBy m_rowMany m_doneAt m_gotAt m_struckAt m_bestDeed m_misBy m_drawn m_ranSteps m_loops m_ran m_told1 m_isTold m_marks) Q := by
  refine call_intro (ls := [some (.ref 0), none]) rfl rfl rfl ?_
  refine wp_iconst 1 0 d_Mo_spreads_0 rfl (by decide) ?_
  refine wp_istore_1 2 d_Mo_spreads_1 rfl rfl rfl ?_
  exact l_Mo_spreads_2 V 7 t.nL 0 _ _ _ (by omega) (fun j h => absurd h (Nat.not_lt_zero j)) (spD_of V.ok 7 _ (cnU_le 7)) hq

set_option maxRecDepth 100000 in
set_option maxHeartbeats 4000000 in
theorem l_Mo_laysOut_2 {b : Int32}  : ∀ (r i : Nat) , i + r = 7 → WP Γ M_Mo_laysOut 6 0 0 (hM m_at m_names m_status m_top m_bottom m_sort m_trayMany m_trays m_tape m_text m_taped m_size m_token m_from m_end m_value m_faultKind m_faultPlace m_faults m_seen m_areOdds m_opened m_depth m_counted m_eastBy m_northBy (fil 7 (-1) m_partBy) m_wayFaults m_wayEast m_wayNorth m_olds m_wayMany m_oneOfSet m_twoOfSet m_farBy m_rowBy m_triedBy m_rowMany m_doneAt m_gotAt m_struckAt m_bestDeed m_misBy m_drawn m_ranSteps m_loops m_ran m_told1 m_isTold m_marks) 21 [some (.ref 0), some (.int b), some (.int (nI 7))] [] Q → WP Γ M_Mo_laysOut 6 0 0 (hM m_at m_names m_status m_top m_bottom m_sort m_trayMany m_trays m_tape m_text m_taped m_size m_token m_from m_end m_value m_faultKind m_faultPlace m_faults m_seen m_areOdds m_opened m_depth m_counted m_eastBy m_northBy (fun j => if j < i then -1 else m_partBy j) m_wayFaults m_wayEast m_wayNorth m_olds m_wayMany m_oneOfSet m_twoOfSet m_farBy m_rowBy m_triedBy m_rowMany m_doneAt m_gotAt m_struckAt m_bestDeed m_misBy m_drawn m_ranSteps m_loops m_ran m_told1 m_isTold m_marks) 2 [some (.ref 0), some (.int b), some (.int (nI i))] [] Q := by
  intro r
  induction r with
  | zero =>
    intro i  hi hinv
    have hq := hinv
    refine wp_iload_n 3 d_Mo_laysOut_2 rfl rfl ?_
    refine wp_bipush 5 7 d_Mo_laysOut_3 rfl (by decide) ?_
    refine wp_icmp_ge 21 8 d_Mo_laysOut_5 rfl (by decide) (fun h5 => ?_) (fun h5 => ?_)
    · have e : i = 7 := by omega
      subst e
      exact hq
    · exact absurd ((nI_leI (a := 7) (by omega) (by omega)).mpr (by omega)) h5
  | succ r ih =>
    intro i  hi hinv
    have hq := hinv
    refine wp_iload_n 3 d_Mo_laysOut_2 rfl rfl ?_
    refine wp_bipush 5 7 d_Mo_laysOut_3 rfl (by decide) ?_
    refine wp_icmp_ge 21 8 d_Mo_laysOut_5 rfl (by decide) (fun h5 => ?_) (fun h5 => ?_)
    · exact absurd (nI_leN (b := 7) h5 (by omega) (by omega)) (by omega)
    · refine wp_aload_n 9 d_Mo_laysOut_8 rfl rfl ?_
      refine wp_getfield 12 12 26 d_Mo_laysOut_9 rfl fl_Mo_53 rfl rfl ?_
      refine wp_iload_n 13 d_Mo_laysOut_12 rfl rfl ?_
      refine wp_iconst 14 (-1) d_Mo_laysOut_13 rfl (by decide) ?_
      refine wp_iastoreN 15 d_Mo_laysOut_14 rfl rfl rfl (by omega) ?_
      refine hEq (hM m_at m_names m_status m_top m_bottom m_sort m_trayMany m_trays m_tape m_text m_taped m_size m_token m_from m_end m_value m_faultKind m_faultPlace m_faults m_seen m_areOdds m_opened m_depth m_counted m_eastBy m_northBy (fun j => if j < i + 1 then -1 else m_partBy j) m_wayFaults m_wayEast m_wayNorth m_olds m_wayMany m_oneOfSet m_twoOfSet m_farBy m_rowBy m_triedBy m_rowMany m_doneAt m_gotAt m_struckAt m_bestDeed m_misBy m_drawn m_ranSteps m_loops m_ran m_told1 m_isTold m_marks) (by rw [show upd (fun j => if j < i then (-1 : Int32) else m_partBy j) i (-1) = fun j => if j < i + 1 then -1 else m_partBy j from upd_lt (f := fun _ => -1)]; rfl) ?_
      first | refine wp_iincN_2 18 d_Mo_laysOut_15 rfl rfl rfl ?_ | refine wp_iinc_2 18 1 d_Mo_laysOut_15 rfl (by decide) rfl rfl ?_
      refine wp_goto 2 d_Mo_laysOut_18 (by decide) ?_
      exact ih (i + 1) (by omega) hq

set_option maxRecDepth 100000 in
set_option maxHeartbeats 4000000 in
theorem l_lo1 (V : vT m_at t) (hP : t.nP ≤ 7) : ∀ (r i : Nat) (pb eb nb : Nat → Int32), i + r = t.nP → Q none (hM m_at m_names m_status m_top m_bottom m_sort m_trayMany m_trays m_tape m_text m_taped m_size m_token m_from m_end m_value m_faultKind m_faultPlace m_faults m_seen m_areOdds m_opened m_depth m_counted ((iterN (loG t True) r i (pb, eb, nb)).2.1) ((iterN (loG t True) r i (pb, eb, nb)).2.2) ((iterN (loG t True) r i (pb, eb, nb)).1) m_wayFaults m_wayEast m_wayNorth m_olds m_wayMany m_oneOfSet m_twoOfSet m_farBy m_rowBy m_triedBy m_rowMany m_doneAt m_gotAt m_struckAt m_bestDeed m_misBy m_drawn m_ranSteps m_loops m_ran m_told1 m_isTold m_marks) → WP Γ M_Mo_laysOut 6 0 0 (hM m_at m_names m_status m_top m_bottom m_sort m_trayMany m_trays m_tape m_text m_taped m_size m_token m_from m_end m_value m_faultKind m_faultPlace m_faults m_seen m_areOdds m_opened m_depth m_counted (eb) (nb) (pb) m_wayFaults m_wayEast m_wayNorth m_olds m_wayMany m_oneOfSet m_twoOfSet m_farBy m_rowBy m_triedBy m_rowMany m_doneAt m_gotAt m_struckAt m_bestDeed m_misBy m_drawn m_ranSteps m_loops m_ran m_told1 m_isTold m_marks) 23 [some (.ref 0), some (.int 1), some (.int (nI i))] [] Q := by
  intro r
  induction r with
  | zero =>
    intro i pb eb nb hi hinv
    have hq := hinv
    refine wp_iload_n 24 d_Mo_laysOut_23 rfl rfl ?_
    refine wp_aload_n 25 d_Mo_laysOut_24 rfl rfl ?_
    refine wp_getfield 28 12 0 d_Mo_laysOut_25 rfl fl_Mo_7 rfl rfl ?_
    refine wp_iconst 29 0 d_Mo_laysOut_28 rfl (by decide) ?_
    refine wp_iaload 30 d_Mo_laysOut_29 rfl rfl (vp_in_nI (n := 0) (N := 2332) (by omega) (by omega)) ?_
    rw [show m_at (0 : Int32).toNatClampNeg = nI t.nP from V.P]
    refine wp_icmp_ge 83 33 d_Mo_laysOut_30 rfl (by decide) (fun h30 => ?_) (fun h30 => ?_)
    · refine wp_return d_Mo_laysOut_83 rfl ?_
      exact hq
    · exact absurd ((nI_leI (a := t.nP) (by omega) (by omega)).mpr (by omega)) h30
  | succ r ih =>
    intro i pb eb nb hi hinv
    have hq := hinv
    refine wp_iload_n 24 d_Mo_laysOut_23 rfl rfl ?_
    refine wp_aload_n 25 d_Mo_laysOut_24 rfl rfl ?_
    refine wp_getfield 28 12 0 d_Mo_laysOut_25 rfl fl_Mo_7 rfl rfl ?_
    refine wp_iconst 29 0 d_Mo_laysOut_28 rfl (by decide) ?_
    refine wp_iaload 30 d_Mo_laysOut_29 rfl rfl (vp_in_nI (n := 0) (N := 2332) (by omega) (by omega)) ?_
    rw [show m_at (0 : Int32).toNatClampNeg = nI t.nP from V.P]
    refine wp_icmp_ge 83 33 d_Mo_laysOut_30 rfl (by decide) (fun h30 => ?_) (fun h30 => ?_)
    · exact absurd (nI_leN (b := t.nP) h30 (by omega) (by omega)) (by omega)
    · refine wp_aload_n 34 d_Mo_laysOut_33 rfl rfl ?_
      refine wp_iload_n 35 d_Mo_laysOut_34 rfl rfl ?_
      refine wp_V1 38 M_Mo_isLying 1 d_Mo_laysOut_35 rfl mv_Mo_isLying lk_Mo_303 rfl rfl rfl rfl rfl ?_
      refine c_Mo_isLying (vp_in_nI (by omega) (by omega)) ?_
      rw [nI_clamp (by omega : i < 2 ^ 31)]
      refine kI ?_
      (first | refine wp_ifP_ne 77 41 d_Mo_laysOut_38 rfl (by decide) (fun h38 => ?_) (fun h38 => ?_) | refine wp_if_ne 77 41 d_Mo_laysOut_38 rfl (by decide) (fun h38 => ?_) (fun h38 => ?_))
      · first | refine wp_iincN_2 80 d_Mo_laysOut_77 rfl rfl rfl ?_ | refine wp_iinc_2 80 1 d_Mo_laysOut_77 rfl (by decide) rfl rfl ?_
        refine wp_goto 23 d_Mo_laysOut_80 (by decide) ?_
        have e : loG t True i (pb, eb, nb) = _ := if_pos (Or.inl h38)
        rw [show iterN (loG t True) (r + 1) i (pb, eb, nb) = iterN (loG t True) r (i + 1) (loG t True i (pb, eb, nb)) from rfl, e] at hq
        exact ih (i + 1) _ _ _ (by omega) hq
      · refine wp_iload_n 42 d_Mo_laysOut_41 rfl rfl ?_
        refine wp_if_le 52 45 d_Mo_laysOut_42 rfl (by decide) (fun h42 => ?_) (fun h42 => ?_)
        · refine wp_aload_n 53 d_Mo_laysOut_52 rfl rfl ?_
          refine wp_getfield 56 12 26 d_Mo_laysOut_53 rfl fl_Mo_53 rfl rfl ?_
          refine wp_iload_n 57 d_Mo_laysOut_56 rfl rfl ?_
          refine wp_iload_n 58 d_Mo_laysOut_57 rfl rfl ?_
          refine wp_iastore 59 d_Mo_laysOut_58 rfl rfl (vp_in_nI (N := 7) (by omega) (by omega)) ?_
          rw [nI_clamp (by omega : i < 2 ^ 31)]
          refine hEq (hM m_at m_names m_status m_top m_bottom m_sort m_trayMany m_trays m_tape m_text m_taped m_size m_token m_from m_end m_value m_faultKind m_faultPlace m_faults m_seen m_areOdds m_opened m_depth m_counted (eb) (nb) (upd pb i (nI i)) m_wayFaults m_wayEast m_wayNorth m_olds m_wayMany m_oneOfSet m_twoOfSet m_farBy m_rowBy m_triedBy m_rowMany m_doneAt m_gotAt m_struckAt m_bestDeed m_misBy m_drawn m_ranSteps m_loops m_ran m_told1 m_isTold m_marks) rfl ?_
          refine wp_aload_n 60 d_Mo_laysOut_59 rfl rfl ?_
          refine wp_getfield 63 12 24 d_Mo_laysOut_60 rfl fl_Mo_47 rfl rfl ?_
          refine wp_iload_n 64 d_Mo_laysOut_63 rfl rfl ?_
          refine wp_iconst 65 0 d_Mo_laysOut_64 rfl (by decide) ?_
          refine wp_iastore 66 d_Mo_laysOut_65 rfl rfl (vp_in_nI (N := 7) (by omega) (by omega)) ?_
          rw [nI_clamp (by omega : i < 2 ^ 31)]
          refine hEq (hM m_at m_names m_status m_top m_bottom m_sort m_trayMany m_trays m_tape m_text m_taped m_size m_token m_from m_end m_value m_faultKind m_faultPlace m_faults m_seen m_areOdds m_opened m_depth m_counted (upd eb i 0) (nb) (upd pb i (nI i)) m_wayFaults m_wayEast m_wayNorth m_olds m_wayMany m_oneOfSet m_twoOfSet m_farBy m_rowBy m_triedBy m_rowMany m_doneAt m_gotAt m_struckAt m_bestDeed m_misBy m_drawn m_ranSteps m_loops m_ran m_told1 m_isTold m_marks) rfl ?_
          refine wp_aload_n 67 d_Mo_laysOut_66 rfl rfl ?_
          refine wp_getfield 70 12 25 d_Mo_laysOut_67 rfl fl_Mo_50 rfl rfl ?_
          refine wp_iload_n 71 d_Mo_laysOut_70 rfl rfl ?_
          refine wp_iconst 72 0 d_Mo_laysOut_71 rfl (by decide) ?_
          refine wp_iastore 73 d_Mo_laysOut_72 rfl rfl (vp_in_nI (N := 7) (by omega) (by omega)) ?_
          rw [nI_clamp (by omega : i < 2 ^ 31)]
          refine hEq (hM m_at m_names m_status m_top m_bottom m_sort m_trayMany m_trays m_tape m_text m_taped m_size m_token m_from m_end m_value m_faultKind m_faultPlace m_faults m_seen m_areOdds m_opened m_depth m_counted (upd eb i 0) (upd nb i 0) (upd pb i (nI i)) m_wayFaults m_wayEast m_wayNorth m_olds m_wayMany m_oneOfSet m_twoOfSet m_farBy m_rowBy m_triedBy m_rowMany m_doneAt m_gotAt m_struckAt m_bestDeed m_misBy m_drawn m_ranSteps m_loops m_ran m_told1 m_isTold m_marks) rfl ?_
          refine wp_aload_n 74 d_Mo_laysOut_73 rfl rfl ?_
          refine wp_V0 77 M_Mo_spreads 5 d_Mo_laysOut_74 rfl mv_Mo_spreads lk_Mo_309 rfl rfl rfl rfl rfl ?_
          refine c_Mo_spreads V ?_
          refine kV ?_
          first | refine wp_iincN_2 80 d_Mo_laysOut_77 rfl rfl rfl ?_ | refine wp_iinc_2 80 1 d_Mo_laysOut_77 rfl (by decide) rfl rfl ?_
          refine wp_goto 23 d_Mo_laysOut_80 (by decide) ?_
          have e : loG t True i (pb, eb, nb) = _ := if_neg (fun z => z.elim h38 (fun y => y.2 trivial))
          rw [show iterN (loG t True) (r + 1) i (pb, eb, nb) = iterN (loG t True) r (i + 1) (loG t True i (pb, eb, nb)) from rfl, e] at hq
          exact ih (i + 1) _ _ _ (by omega) hq
        · refine wp_iload_n 46 d_Mo_laysOut_45 rfl rfl ?_
          refine wp_if_ne 52 49 d_Mo_laysOut_46 rfl (by decide) (fun h46 => ?_) (fun h46 => ?_)
          · refine wp_aload_n 53 d_Mo_laysOut_52 rfl rfl ?_
            refine wp_getfield 56 12 26 d_Mo_laysOut_53 rfl fl_Mo_53 rfl rfl ?_
            refine wp_iload_n 57 d_Mo_laysOut_56 rfl rfl ?_
            refine wp_iload_n 58 d_Mo_laysOut_57 rfl rfl ?_
            refine wp_iastore 59 d_Mo_laysOut_58 rfl rfl (vp_in_nI (N := 7) (by omega) (by omega)) ?_
            rw [nI_clamp (by omega : i < 2 ^ 31)]
            refine hEq (hM m_at m_names m_status m_top m_bottom m_sort m_trayMany m_trays m_tape m_text m_taped m_size m_token m_from m_end m_value m_faultKind m_faultPlace m_faults m_seen m_areOdds m_opened m_depth m_counted (eb) (nb) (upd pb i (nI i)) m_wayFaults m_wayEast m_wayNorth m_olds m_wayMany m_oneOfSet m_twoOfSet m_farBy m_rowBy m_triedBy m_rowMany m_doneAt m_gotAt m_struckAt m_bestDeed m_misBy m_drawn m_ranSteps m_loops m_ran m_told1 m_isTold m_marks) rfl ?_
            refine wp_aload_n 60 d_Mo_laysOut_59 rfl rfl ?_
            refine wp_getfield 63 12 24 d_Mo_laysOut_60 rfl fl_Mo_47 rfl rfl ?_
            refine wp_iload_n 64 d_Mo_laysOut_63 rfl rfl ?_
            refine wp_iconst 65 0 d_Mo_laysOut_64 rfl (by decide) ?_
            refine wp_iastore 66 d_Mo_laysOut_65 rfl rfl (vp_in_nI (N := 7) (by omega) (by omega)) ?_
            rw [nI_clamp (by omega : i < 2 ^ 31)]
            refine hEq (hM m_at m_names m_status m_top m_bottom m_sort m_trayMany m_trays m_tape m_text m_taped m_size m_token m_from m_end m_value m_faultKind m_faultPlace m_faults m_seen m_areOdds m_opened m_depth m_counted (upd eb i 0) (nb) (upd pb i (nI i)) m_wayFaults m_wayEast m_wayNorth m_olds m_wayMany m_oneOfSet m_twoOfSet m_farBy m_rowBy m_triedBy m_rowMany m_doneAt m_gotAt m_struckAt m_bestDeed m_misBy m_drawn m_ranSteps m_loops m_ran m_told1 m_isTold m_marks) rfl ?_
            refine wp_aload_n 67 d_Mo_laysOut_66 rfl rfl ?_
            refine wp_getfield 70 12 25 d_Mo_laysOut_67 rfl fl_Mo_50 rfl rfl ?_
            refine wp_iload_n 71 d_Mo_laysOut_70 rfl rfl ?_
            refine wp_iconst 72 0 d_Mo_laysOut_71 rfl (by decide) ?_
            refine wp_iastore 73 d_Mo_laysOut_72 rfl rfl (vp_in_nI (N := 7) (by omega) (by omega)) ?_
            rw [nI_clamp (by omega : i < 2 ^ 31)]
            refine hEq (hM m_at m_names m_status m_top m_bottom m_sort m_trayMany m_trays m_tape m_text m_taped m_size m_token m_from m_end m_value m_faultKind m_faultPlace m_faults m_seen m_areOdds m_opened m_depth m_counted (upd eb i 0) (upd nb i 0) (upd pb i (nI i)) m_wayFaults m_wayEast m_wayNorth m_olds m_wayMany m_oneOfSet m_twoOfSet m_farBy m_rowBy m_triedBy m_rowMany m_doneAt m_gotAt m_struckAt m_bestDeed m_misBy m_drawn m_ranSteps m_loops m_ran m_told1 m_isTold m_marks) rfl ?_
            refine wp_aload_n 74 d_Mo_laysOut_73 rfl rfl ?_
            refine wp_V0 77 M_Mo_spreads 5 d_Mo_laysOut_74 rfl mv_Mo_spreads lk_Mo_309 rfl rfl rfl rfl rfl ?_
            refine c_Mo_spreads V ?_
            refine kV ?_
            first | refine wp_iincN_2 80 d_Mo_laysOut_77 rfl rfl rfl ?_ | refine wp_iinc_2 80 1 d_Mo_laysOut_77 rfl (by decide) rfl rfl ?_
            refine wp_goto 23 d_Mo_laysOut_80 (by decide) ?_
            have e : loG t True i (pb, eb, nb) = _ := if_neg (fun z => z.elim h38 (fun y => y.2 trivial))
            rw [show iterN (loG t True) (r + 1) i (pb, eb, nb) = iterN (loG t True) r (i + 1) (loG t True i (pb, eb, nb)) from rfl, e] at hq
            exact ih (i + 1) _ _ _ (by omega) hq
          · exact absurd h46 (by decide)

set_option maxRecDepth 100000 in
set_option maxHeartbeats 4000000 in
theorem c_lo1 (V : vT m_at t) (hq : Q none (hM m_at m_names m_status m_top m_bottom m_sort m_trayMany m_trays m_tape m_text m_taped m_size m_token m_from m_end m_value m_faultKind m_faultPlace m_faults m_seen m_areOdds m_opened m_depth m_counted ((lmF t True (m_partBy, m_eastBy, m_northBy)).2.1) ((lmF t True (m_partBy, m_eastBy, m_northBy)).2.2) ((lmF t True (m_partBy, m_eastBy, m_northBy)).1) m_wayFaults m_wayEast m_wayNorth m_olds m_wayMany m_oneOfSet m_twoOfSet m_farBy m_rowBy m_triedBy m_rowMany m_doneAt m_gotAt m_struckAt m_bestDeed m_misBy m_drawn m_ranSteps m_loops m_ran m_told1 m_isTold m_marks)) : Call Γ M_Mo_laysOut 6 0 0 [.ref 0, .int 1] (hM m_at m_names m_status m_top m_bottom m_sort m_trayMany m_trays m_tape m_text m_taped m_size m_token m_from m_end m_value m_faultKind m_faultPlace m_faults m_seen m_areOdds m_opened m_depth m_counted m_eastBy m_northBy m_partBy m_wayFaults m_wayEast m_wayNorth m_olds m_wayMany m_oneOfSet m_twoOfSet m_farBy m_rowBy m_triedBy m_rowMany m_doneAt m_gotAt m_struckAt m_bestDeed m_misBy m_drawn m_ranSteps m_loops m_ran m_told1 m_isTold m_marks) Q := by
  refine call_intro (ls := [some (.ref 0), some (.int 1), none]) rfl rfl rfl ?_
  refine wp_iconst 1 0 d_Mo_laysOut_0 rfl (by decide) ?_
  refine wp_istore_2 2 d_Mo_laysOut_1 rfl rfl rfl ?_
  refine hEq (hM m_at m_names m_status m_top m_bottom m_sort m_trayMany m_trays m_tape m_text m_taped m_size m_token m_from m_end m_value m_faultKind m_faultPlace m_faults m_seen m_areOdds m_opened m_depth m_counted m_eastBy m_northBy (fun j => if j < 0 then -1 else m_partBy j) m_wayFaults m_wayEast m_wayNorth m_olds m_wayMany m_oneOfSet m_twoOfSet m_farBy m_rowBy m_triedBy m_rowMany m_doneAt m_gotAt m_struckAt m_bestDeed m_misBy m_drawn m_ranSteps m_loops m_ran m_told1 m_isTold m_marks) (by rw [show (fun j => if j < 0 then (-1 : Int32) else m_partBy j) = m_partBy from funext (fun j => if_neg (Nat.not_lt_zero j))]) ?_
  refine l_Mo_laysOut_2 7 0 (by omega) ?_
  refine wp_iconst 22 0 d_Mo_laysOut_21 rfl (by decide) ?_
  refine wp_istore_2 23 d_Mo_laysOut_22 rfl rfl rfl ?_
  exact l_lo1 V V.ok.hP t.nP 0 _ _ _ (by omega) hq

set_option maxRecDepth 100000 in
set_option maxHeartbeats 4000000 in
theorem l_lo0 (V : vT m_at t) (hP : t.nP ≤ 7) : ∀ (r i : Nat) (pb eb nb : Nat → Int32), i + r = t.nP → Q none (hM m_at m_names m_status m_top m_bottom m_sort m_trayMany m_trays m_tape m_text m_taped m_size m_token m_from m_end m_value m_faultKind m_faultPlace m_faults m_seen m_areOdds m_opened m_depth m_counted ((iterN (loG t False) r i (pb, eb, nb)).2.1) ((iterN (loG t False) r i (pb, eb, nb)).2.2) ((iterN (loG t False) r i (pb, eb, nb)).1) m_wayFaults m_wayEast m_wayNorth m_olds m_wayMany m_oneOfSet m_twoOfSet m_farBy m_rowBy m_triedBy m_rowMany m_doneAt m_gotAt m_struckAt m_bestDeed m_misBy m_drawn m_ranSteps m_loops m_ran m_told1 m_isTold m_marks) → WP Γ M_Mo_laysOut 6 0 0 (hM m_at m_names m_status m_top m_bottom m_sort m_trayMany m_trays m_tape m_text m_taped m_size m_token m_from m_end m_value m_faultKind m_faultPlace m_faults m_seen m_areOdds m_opened m_depth m_counted (eb) (nb) (pb) m_wayFaults m_wayEast m_wayNorth m_olds m_wayMany m_oneOfSet m_twoOfSet m_farBy m_rowBy m_triedBy m_rowMany m_doneAt m_gotAt m_struckAt m_bestDeed m_misBy m_drawn m_ranSteps m_loops m_ran m_told1 m_isTold m_marks) 23 [some (.ref 0), some (.int 0), some (.int (nI i))] [] Q := by
  intro r
  induction r with
  | zero =>
    intro i pb eb nb hi hinv
    have hq := hinv
    refine wp_iload_n 24 d_Mo_laysOut_23 rfl rfl ?_
    refine wp_aload_n 25 d_Mo_laysOut_24 rfl rfl ?_
    refine wp_getfield 28 12 0 d_Mo_laysOut_25 rfl fl_Mo_7 rfl rfl ?_
    refine wp_iconst 29 0 d_Mo_laysOut_28 rfl (by decide) ?_
    refine wp_iaload 30 d_Mo_laysOut_29 rfl rfl (vp_in_nI (n := 0) (N := 2332) (by omega) (by omega)) ?_
    rw [show m_at (0 : Int32).toNatClampNeg = nI t.nP from V.P]
    refine wp_icmp_ge 83 33 d_Mo_laysOut_30 rfl (by decide) (fun h30 => ?_) (fun h30 => ?_)
    · refine wp_return d_Mo_laysOut_83 rfl ?_
      exact hq
    · exact absurd ((nI_leI (a := t.nP) (by omega) (by omega)).mpr (by omega)) h30
  | succ r ih =>
    intro i pb eb nb hi hinv
    have hq := hinv
    refine wp_iload_n 24 d_Mo_laysOut_23 rfl rfl ?_
    refine wp_aload_n 25 d_Mo_laysOut_24 rfl rfl ?_
    refine wp_getfield 28 12 0 d_Mo_laysOut_25 rfl fl_Mo_7 rfl rfl ?_
    refine wp_iconst 29 0 d_Mo_laysOut_28 rfl (by decide) ?_
    refine wp_iaload 30 d_Mo_laysOut_29 rfl rfl (vp_in_nI (n := 0) (N := 2332) (by omega) (by omega)) ?_
    rw [show m_at (0 : Int32).toNatClampNeg = nI t.nP from V.P]
    refine wp_icmp_ge 83 33 d_Mo_laysOut_30 rfl (by decide) (fun h30 => ?_) (fun h30 => ?_)
    · exact absurd (nI_leN (b := t.nP) h30 (by omega) (by omega)) (by omega)
    · refine wp_aload_n 34 d_Mo_laysOut_33 rfl rfl ?_
      refine wp_iload_n 35 d_Mo_laysOut_34 rfl rfl ?_
      refine wp_V1 38 M_Mo_isLying 1 d_Mo_laysOut_35 rfl mv_Mo_isLying lk_Mo_303 rfl rfl rfl rfl rfl ?_
      refine c_Mo_isLying (vp_in_nI (by omega) (by omega)) ?_
      rw [nI_clamp (by omega : i < 2 ^ 31)]
      refine kI ?_
      (first | refine wp_ifP_ne 77 41 d_Mo_laysOut_38 rfl (by decide) (fun h38 => ?_) (fun h38 => ?_) | refine wp_if_ne 77 41 d_Mo_laysOut_38 rfl (by decide) (fun h38 => ?_) (fun h38 => ?_))
      · first | refine wp_iincN_2 80 d_Mo_laysOut_77 rfl rfl rfl ?_ | refine wp_iinc_2 80 1 d_Mo_laysOut_77 rfl (by decide) rfl rfl ?_
        refine wp_goto 23 d_Mo_laysOut_80 (by decide) ?_
        have e : loG t False i (pb, eb, nb) = _ := if_pos (Or.inl h38)
        rw [show iterN (loG t False) (r + 1) i (pb, eb, nb) = iterN (loG t False) r (i + 1) (loG t False i (pb, eb, nb)) from rfl, e] at hq
        exact ih (i + 1) _ _ _ (by omega) hq
      · refine wp_iload_n 42 d_Mo_laysOut_41 rfl rfl ?_
        refine wp_if_le 52 45 d_Mo_laysOut_42 rfl (by decide) (fun h42 => ?_) (fun h42 => ?_)
        · refine wp_aload_n 53 d_Mo_laysOut_52 rfl rfl ?_
          refine wp_getfield 56 12 26 d_Mo_laysOut_53 rfl fl_Mo_53 rfl rfl ?_
          refine wp_iload_n 57 d_Mo_laysOut_56 rfl rfl ?_
          refine wp_iload_n 58 d_Mo_laysOut_57 rfl rfl ?_
          refine wp_iastore 59 d_Mo_laysOut_58 rfl rfl (vp_in_nI (N := 7) (by omega) (by omega)) ?_
          rw [nI_clamp (by omega : i < 2 ^ 31)]
          refine hEq (hM m_at m_names m_status m_top m_bottom m_sort m_trayMany m_trays m_tape m_text m_taped m_size m_token m_from m_end m_value m_faultKind m_faultPlace m_faults m_seen m_areOdds m_opened m_depth m_counted (eb) (nb) (upd pb i (nI i)) m_wayFaults m_wayEast m_wayNorth m_olds m_wayMany m_oneOfSet m_twoOfSet m_farBy m_rowBy m_triedBy m_rowMany m_doneAt m_gotAt m_struckAt m_bestDeed m_misBy m_drawn m_ranSteps m_loops m_ran m_told1 m_isTold m_marks) rfl ?_
          refine wp_aload_n 60 d_Mo_laysOut_59 rfl rfl ?_
          refine wp_getfield 63 12 24 d_Mo_laysOut_60 rfl fl_Mo_47 rfl rfl ?_
          refine wp_iload_n 64 d_Mo_laysOut_63 rfl rfl ?_
          refine wp_iconst 65 0 d_Mo_laysOut_64 rfl (by decide) ?_
          refine wp_iastore 66 d_Mo_laysOut_65 rfl rfl (vp_in_nI (N := 7) (by omega) (by omega)) ?_
          rw [nI_clamp (by omega : i < 2 ^ 31)]
          refine hEq (hM m_at m_names m_status m_top m_bottom m_sort m_trayMany m_trays m_tape m_text m_taped m_size m_token m_from m_end m_value m_faultKind m_faultPlace m_faults m_seen m_areOdds m_opened m_depth m_counted (upd eb i 0) (nb) (upd pb i (nI i)) m_wayFaults m_wayEast m_wayNorth m_olds m_wayMany m_oneOfSet m_twoOfSet m_farBy m_rowBy m_triedBy m_rowMany m_doneAt m_gotAt m_struckAt m_bestDeed m_misBy m_drawn m_ranSteps m_loops m_ran m_told1 m_isTold m_marks) rfl ?_
          refine wp_aload_n 67 d_Mo_laysOut_66 rfl rfl ?_
          refine wp_getfield 70 12 25 d_Mo_laysOut_67 rfl fl_Mo_50 rfl rfl ?_
          refine wp_iload_n 71 d_Mo_laysOut_70 rfl rfl ?_
          refine wp_iconst 72 0 d_Mo_laysOut_71 rfl (by decide) ?_
          refine wp_iastore 73 d_Mo_laysOut_72 rfl rfl (vp_in_nI (N := 7) (by omega) (by omega)) ?_
          rw [nI_clamp (by omega : i < 2 ^ 31)]
          refine hEq (hM m_at m_names m_status m_top m_bottom m_sort m_trayMany m_trays m_tape m_text m_taped m_size m_token m_from m_end m_value m_faultKind m_faultPlace m_faults m_seen m_areOdds m_opened m_depth m_counted (upd eb i 0) (upd nb i 0) (upd pb i (nI i)) m_wayFaults m_wayEast m_wayNorth m_olds m_wayMany m_oneOfSet m_twoOfSet m_farBy m_rowBy m_triedBy m_rowMany m_doneAt m_gotAt m_struckAt m_bestDeed m_misBy m_drawn m_ranSteps m_loops m_ran m_told1 m_isTold m_marks) rfl ?_
          refine wp_aload_n 74 d_Mo_laysOut_73 rfl rfl ?_
          refine wp_V0 77 M_Mo_spreads 5 d_Mo_laysOut_74 rfl mv_Mo_spreads lk_Mo_309 rfl rfl rfl rfl rfl ?_
          refine c_Mo_spreads V ?_
          refine kV ?_
          first | refine wp_iincN_2 80 d_Mo_laysOut_77 rfl rfl rfl ?_ | refine wp_iinc_2 80 1 d_Mo_laysOut_77 rfl (by decide) rfl rfl ?_
          refine wp_goto 23 d_Mo_laysOut_80 (by decide) ?_
          have e : loG t False i (pb, eb, nb) = _ := if_neg (fun z => z.elim h38 (fun y => absurd (nI_leN (a := 0) h42 (by omega) (by omega)) (by omega)))
          rw [show iterN (loG t False) (r + 1) i (pb, eb, nb) = iterN (loG t False) r (i + 1) (loG t False i (pb, eb, nb)) from rfl, e] at hq
          exact ih (i + 1) _ _ _ (by omega) hq
        · refine wp_iload_n 46 d_Mo_laysOut_45 rfl rfl ?_
          refine wp_if_ne 52 49 d_Mo_laysOut_46 rfl (by decide) (fun h46 => ?_) (fun h46 => ?_)
          · exact absurd rfl h46
          · refine wp_goto 77 d_Mo_laysOut_49 (by decide) ?_
            first | refine wp_iincN_2 80 d_Mo_laysOut_77 rfl rfl rfl ?_ | refine wp_iinc_2 80 1 d_Mo_laysOut_77 rfl (by decide) rfl rfl ?_
            refine wp_goto 23 d_Mo_laysOut_80 (by decide) ?_
            have e : loG t False i (pb, eb, nb) = _ := if_pos (Or.inr ⟨nI_ltN (a := 0) (Int32.not_le.mp h42) (by omega) (by omega), fun z => z⟩)
            rw [show iterN (loG t False) (r + 1) i (pb, eb, nb) = iterN (loG t False) r (i + 1) (loG t False i (pb, eb, nb)) from rfl, e] at hq
            exact ih (i + 1) _ _ _ (by omega) hq

set_option maxRecDepth 100000 in
set_option maxHeartbeats 4000000 in
theorem c_lo0 (V : vT m_at t) (hq : Q none (hM m_at m_names m_status m_top m_bottom m_sort m_trayMany m_trays m_tape m_text m_taped m_size m_token m_from m_end m_value m_faultKind m_faultPlace m_faults m_seen m_areOdds m_opened m_depth m_counted ((lmF t False (m_partBy, m_eastBy, m_northBy)).2.1) ((lmF t False (m_partBy, m_eastBy, m_northBy)).2.2) ((lmF t False (m_partBy, m_eastBy, m_northBy)).1) m_wayFaults m_wayEast m_wayNorth m_olds m_wayMany m_oneOfSet m_twoOfSet m_farBy m_rowBy m_triedBy m_rowMany m_doneAt m_gotAt m_struckAt m_bestDeed m_misBy m_drawn m_ranSteps m_loops m_ran m_told1 m_isTold m_marks)) : Call Γ M_Mo_laysOut 6 0 0 [.ref 0, .int 0] (hM m_at m_names m_status m_top m_bottom m_sort m_trayMany m_trays m_tape m_text m_taped m_size m_token m_from m_end m_value m_faultKind m_faultPlace m_faults m_seen m_areOdds m_opened m_depth m_counted m_eastBy m_northBy m_partBy m_wayFaults m_wayEast m_wayNorth m_olds m_wayMany m_oneOfSet m_twoOfSet m_farBy m_rowBy m_triedBy m_rowMany m_doneAt m_gotAt m_struckAt m_bestDeed m_misBy m_drawn m_ranSteps m_loops m_ran m_told1 m_isTold m_marks) Q := by
  refine call_intro (ls := [some (.ref 0), some (.int 0), none]) rfl rfl rfl ?_
  refine wp_iconst 1 0 d_Mo_laysOut_0 rfl (by decide) ?_
  refine wp_istore_2 2 d_Mo_laysOut_1 rfl rfl rfl ?_
  refine hEq (hM m_at m_names m_status m_top m_bottom m_sort m_trayMany m_trays m_tape m_text m_taped m_size m_token m_from m_end m_value m_faultKind m_faultPlace m_faults m_seen m_areOdds m_opened m_depth m_counted m_eastBy m_northBy (fun j => if j < 0 then -1 else m_partBy j) m_wayFaults m_wayEast m_wayNorth m_olds m_wayMany m_oneOfSet m_twoOfSet m_farBy m_rowBy m_triedBy m_rowMany m_doneAt m_gotAt m_struckAt m_bestDeed m_misBy m_drawn m_ranSteps m_loops m_ran m_told1 m_isTold m_marks) (by rw [show (fun j => if j < 0 then (-1 : Int32) else m_partBy j) = m_partBy from funext (fun j => if_neg (Nat.not_lt_zero j))]) ?_
  refine l_Mo_laysOut_2 7 0 (by omega) ?_
  refine wp_iconst 22 0 d_Mo_laysOut_21 rfl (by decide) ?_
  refine wp_istore_2 23 d_Mo_laysOut_22 rfl rfl rfl ?_
  exact l_lo0 V V.ok.hP t.nP 0 _ _ _ (by omega) hq

set_option maxRecDepth 100000 in
set_option maxHeartbeats 4000000 in
theorem c_Mo_missOf (V : vT m_at t) {l : Nat} (hl : l < t.nL) (hq : Q (some (.int (mvS t (m_partBy, m_eastBy, m_northBy) l))) (hM m_at m_names m_status m_top m_bottom m_sort m_trayMany m_trays m_tape m_text m_taped m_size m_token m_from m_end m_value m_faultKind m_faultPlace m_faults m_seen m_areOdds m_opened m_depth m_counted m_eastBy m_northBy m_partBy m_wayFaults m_wayEast m_wayNorth m_olds m_wayMany m_oneOfSet m_twoOfSet m_farBy m_rowBy m_triedBy m_rowMany m_doneAt m_gotAt m_struckAt m_bestDeed m_misBy m_drawn m_ranSteps m_loops m_ran m_told1 m_isTold m_marks)) : Call Γ M_Mo_missOf 4 0 0 [.ref 0, .int (nI l)] (hM m_at m_names m_status m_top m_bottom m_sort m_trayMany m_trays m_tape m_text m_taped m_size m_token m_from m_end m_value m_faultKind m_faultPlace m_faults m_seen m_areOdds m_opened m_depth m_counted m_eastBy m_northBy m_partBy m_wayFaults m_wayEast m_wayNorth m_olds m_wayMany m_oneOfSet m_twoOfSet m_farBy m_rowBy m_triedBy m_rowMany m_doneAt m_gotAt m_struckAt m_bestDeed m_misBy m_drawn m_ranSteps m_loops m_ran m_told1 m_isTold m_marks) Q := by
  refine call_intro (ls := [some (.ref 0), some (.int (nI l)), none, none]) rfl rfl rfl ?_
  refine wp_aload_n 1 d_Mo_missOf_0 rfl rfl ?_
  refine wp_iload_n 2 d_Mo_missOf_1 rfl rfl ?_
  refine wp_iconst 3 1 d_Mo_missOf_2 rfl (by decide) ?_
  refine wp_V2 6 M_Mo_legOf 2 d_Mo_missOf_3 rfl mv_Mo_legOf lk_Mo_287 rfl rfl rfl rfl rfl ?_
  refine c_leg1 V hl ?_
  refine kI ?_
  refine wp_istore_2 7 d_Mo_missOf_6 rfl rfl rfl ?_
  refine wp_aload_n 8 d_Mo_missOf_7 rfl rfl ?_
  refine wp_iload_n 9 d_Mo_missOf_8 rfl rfl ?_
  refine wp_iconst 10 2 d_Mo_missOf_9 rfl (by decide) ?_
  refine wp_V2 13 M_Mo_legOf 2 d_Mo_missOf_10 rfl mv_Mo_legOf lk_Mo_287 rfl rfl rfl rfl rfl ?_
  refine c_leg2 V hl ?_
  refine kI ?_
  refine wp_istore_3 14 d_Mo_missOf_13 rfl rfl rfl ?_
  refine wp_aload_n 15 d_Mo_missOf_14 rfl rfl ?_
  refine wp_getfield 18 12 24 d_Mo_missOf_15 rfl fl_Mo_47 rfl rfl ?_
  refine wp_iload_n 19 d_Mo_missOf_18 rfl rfl ?_
  refine wp_iaload 20 d_Mo_missOf_19 rfl rfl (by first | exact V.ok.fr l | exact V.ok.to_ l) ?_
  refine wp_aload_n 21 d_Mo_missOf_20 rfl rfl ?_
  refine wp_getfield 24 12 24 d_Mo_missOf_21 rfl fl_Mo_47 rfl rfl ?_
  refine wp_iload_n 25 d_Mo_missOf_24 rfl rfl ?_
  refine wp_iaload 26 d_Mo_missOf_25 rfl rfl (by first | exact V.ok.fr l | exact V.ok.to_ l) ?_
  refine wp_isub 27 d_Mo_missOf_26 rfl ?_
  refine wp_aload_n 28 d_Mo_missOf_27 rfl rfl ?_
  refine wp_iload_n 29 d_Mo_missOf_28 rfl rfl ?_
  refine wp_iconst 30 0 d_Mo_missOf_29 rfl (by decide) ?_
  refine wp_V2 33 M_Mo_right 3 d_Mo_missOf_30 rfl mv_Mo_right lk_Mo_293 rfl rfl rfl rfl rfl ?_
  refine c_right0 V hl ?_
  refine kI ?_
  refine wp_isub 34 d_Mo_missOf_33 rfl ?_
  refine wp_S1 37 M_Mo_plainly 2 d_Mo_missOf_34 rfl ms_Mo_plainly lk_Mo_297 rfl rfl ?_
  refine c_Mo_plainly ?_
  refine kI ?_
  refine wp_aload_n 38 d_Mo_missOf_37 rfl rfl ?_
  refine wp_getfield 41 12 25 d_Mo_missOf_38 rfl fl_Mo_50 rfl rfl ?_
  refine wp_iload_n 42 d_Mo_missOf_41 rfl rfl ?_
  refine wp_iaload 43 d_Mo_missOf_42 rfl rfl (by first | exact V.ok.fr l | exact V.ok.to_ l) ?_
  refine wp_aload_n 44 d_Mo_missOf_43 rfl rfl ?_
  refine wp_getfield 47 12 25 d_Mo_missOf_44 rfl fl_Mo_50 rfl rfl ?_
  refine wp_iload_n 48 d_Mo_missOf_47 rfl rfl ?_
  refine wp_iaload 49 d_Mo_missOf_48 rfl rfl (by first | exact V.ok.fr l | exact V.ok.to_ l) ?_
  refine wp_isub 50 d_Mo_missOf_49 rfl ?_
  refine wp_aload_n 51 d_Mo_missOf_50 rfl rfl ?_
  refine wp_iload_n 52 d_Mo_missOf_51 rfl rfl ?_
  refine wp_iconst 53 1 d_Mo_missOf_52 rfl (by decide) ?_
  refine wp_V2 56 M_Mo_right 3 d_Mo_missOf_53 rfl mv_Mo_right lk_Mo_293 rfl rfl rfl rfl rfl ?_
  refine c_right1 V hl ?_
  refine kI ?_
  refine wp_isub 57 d_Mo_missOf_56 rfl ?_
  refine wp_S1 60 M_Mo_plainly 2 d_Mo_missOf_57 rfl ms_Mo_plainly lk_Mo_297 rfl rfl ?_
  refine c_Mo_plainly ?_
  refine kI ?_
  refine wp_iadd 61 d_Mo_missOf_60 rfl ?_
  refine wp_ireturn d_Mo_missOf_61 rfl ?_
  exact hq

set_option maxRecDepth 100000 in
set_option maxHeartbeats 4000000 in
theorem l_Mo_missing_4 (V : vT m_at t) (hn : t.nL ≤ 12) : ∀ (r i : Nat) , i + r = t.nL → Q (some (.int (iorr (fun l => if moM t (m_partBy, m_eastBy, m_northBy) l then bit (nI l) else 0) t.nL))) (hM m_at m_names m_status m_top m_bottom m_sort m_trayMany m_trays m_tape m_text m_taped m_size m_token m_from m_end m_value m_faultKind m_faultPlace m_faults m_seen m_areOdds m_opened m_depth m_counted m_eastBy m_northBy m_partBy m_wayFaults m_wayEast m_wayNorth m_olds m_wayMany m_oneOfSet m_twoOfSet m_farBy m_rowBy m_triedBy m_rowMany m_doneAt m_gotAt m_struckAt m_bestDeed m_misBy m_drawn m_ranSteps m_loops m_ran m_told1 m_isTold m_marks) → WP Γ M_Mo_missing 5 0 0 (hM m_at m_names m_status m_top m_bottom m_sort m_trayMany m_trays m_tape m_text m_taped m_size m_token m_from m_end m_value m_faultKind m_faultPlace m_faults m_seen m_areOdds m_opened m_depth m_counted m_eastBy m_northBy m_partBy m_wayFaults m_wayEast m_wayNorth m_olds m_wayMany m_oneOfSet m_twoOfSet m_farBy m_rowBy m_triedBy m_rowMany m_doneAt m_gotAt m_struckAt m_bestDeed m_misBy m_drawn m_ranSteps m_loops m_ran m_told1 m_isTold m_marks) 4 [some (.ref 0), some (.int (iorr (fun l => if moM t (m_partBy, m_eastBy, m_northBy) l then bit (nI l) else 0) i)), some (.int (nI i))] [] Q := by
  intro r
  induction r with
  | zero =>
    intro i  hi hinv
    have hq := hinv
    refine wp_iload_n 5 d_Mo_missing_4 rfl rfl ?_
    refine wp_aload_n 6 d_Mo_missing_5 rfl rfl ?_
    refine wp_getfield 9 12 0 d_Mo_missing_6 rfl fl_Mo_7 rfl rfl ?_
    refine wp_iconst 10 2 d_Mo_missing_9 rfl (by decide) ?_
    refine wp_iaload 11 d_Mo_missing_10 rfl rfl (vp_in_nI (n := 2) (N := 2332) (by omega) (by omega)) ?_
    rw [show m_at (2 : Int32).toNatClampNeg = nI t.nL from V.L]
    refine wp_icmp_ge 59 14 d_Mo_missing_11 rfl (by decide) (fun h11 => ?_) (fun h11 => ?_)
    · refine wp_iload_n 60 d_Mo_missing_59 rfl rfl ?_
      refine wp_ireturn d_Mo_missing_60 rfl ?_
      have e : i = t.nL := by omega
      subst e
      exact hq
    · exact absurd ((nI_leI (a := t.nL) (by omega) (by omega)).mpr (by omega)) h11
  | succ r ih =>
    intro i  hi hinv
    have hq := hinv
    refine wp_iload_n 5 d_Mo_missing_4 rfl rfl ?_
    refine wp_aload_n 6 d_Mo_missing_5 rfl rfl ?_
    refine wp_getfield 9 12 0 d_Mo_missing_6 rfl fl_Mo_7 rfl rfl ?_
    refine wp_iconst 10 2 d_Mo_missing_9 rfl (by decide) ?_
    refine wp_iaload 11 d_Mo_missing_10 rfl rfl (vp_in_nI (n := 2) (N := 2332) (by omega) (by omega)) ?_
    rw [show m_at (2 : Int32).toNatClampNeg = nI t.nL from V.L]
    refine wp_icmp_ge 59 14 d_Mo_missing_11 rfl (by decide) (fun h11 => ?_) (fun h11 => ?_)
    · exact absurd (nI_leN (b := t.nL) h11 (by omega) (by omega)) (by omega)
    · refine wp_iload_n 15 d_Mo_missing_14 rfl rfl ?_
      refine wp_aload_n 16 d_Mo_missing_15 rfl rfl ?_
      refine wp_iload_n 17 d_Mo_missing_16 rfl rfl ?_
      refine wp_V1 20 M_Mo_counts 2 d_Mo_missing_17 rfl mv_Mo_counts lk_Mo_300 rfl rfl rfl rfl rfl ?_
      refine c_Mo_counts V ?_
      refine kI ?_
      (first | refine wp_ifP_eq 50 23 d_Mo_missing_20 rfl (by decide) (fun h20 => ?_) (fun h20 => ?_) | refine wp_if_eq 50 23 d_Mo_missing_20 rfl (by decide) (fun h20 => ?_) (fun h20 => ?_))
      · refine wp_iconst 51 0 d_Mo_missing_50 rfl (by decide) ?_
        refine wp_ior 52 d_Mo_missing_51 rfl ?_
        refine wp_istore_1 53 d_Mo_missing_52 rfl rfl rfl ?_
        first | refine wp_iincN_2 56 d_Mo_missing_53 rfl rfl rfl ?_ | refine wp_iinc_2 56 1 d_Mo_missing_53 rfl (by decide) rfl rfl ?_
        refine wp_goto 4 d_Mo_missing_56 (by decide) ?_
        refine qL2 ?_ (ih (i + 1) (by omega) hq)
        simp only [iorr]
        rw [show (if moM t (m_partBy, m_eastBy, m_northBy) i then bit (nI i) else 0) = _ from if_neg (fun z => h20 z.1)]
      · refine wp_aload_n 24 d_Mo_missing_23 rfl rfl ?_
        refine wp_aload_n 25 d_Mo_missing_24 rfl rfl ?_
        refine wp_iload_n 26 d_Mo_missing_25 rfl rfl ?_
        refine wp_iconst 27 1 d_Mo_missing_26 rfl (by decide) ?_
        refine wp_V2 30 M_Mo_legOf 2 d_Mo_missing_27 rfl mv_Mo_legOf lk_Mo_287 rfl rfl rfl rfl rfl ?_
        refine c_leg1 V (by omega) ?_
        refine kI ?_
        refine wp_V1 33 M_Mo_isLying 1 d_Mo_missing_30 rfl mv_Mo_isLying lk_Mo_303 rfl rfl rfl rfl rfl ?_
        refine c_Mo_isLying (V.ok.fr i) ?_
        refine kI ?_
        (first | refine wp_ifP_eq 50 36 d_Mo_missing_33 rfl (by decide) (fun h33 => ?_) (fun h33 => ?_) | refine wp_if_eq 50 36 d_Mo_missing_33 rfl (by decide) (fun h33 => ?_) (fun h33 => ?_))
        · refine wp_iconst 51 0 d_Mo_missing_50 rfl (by decide) ?_
          refine wp_ior 52 d_Mo_missing_51 rfl ?_
          refine wp_istore_1 53 d_Mo_missing_52 rfl rfl rfl ?_
          first | refine wp_iincN_2 56 d_Mo_missing_53 rfl rfl rfl ?_ | refine wp_iinc_2 56 1 d_Mo_missing_53 rfl (by decide) rfl rfl ?_
          refine wp_goto 4 d_Mo_missing_56 (by decide) ?_
          refine qL2 ?_ (ih (i + 1) (by omega) hq)
          simp only [iorr]
          rw [show (if moM t (m_partBy, m_eastBy, m_northBy) i then bit (nI i) else 0) = _ from if_neg (fun z => h33 z.2.1)]
        · refine wp_aload_n 37 d_Mo_missing_36 rfl rfl ?_
          refine wp_iload_n 38 d_Mo_missing_37 rfl rfl ?_
          refine wp_V1 41 M_Mo_missOf 4 d_Mo_missing_38 rfl mv_Mo_missOf lk_Mo_312 rfl rfl rfl rfl rfl ?_
          refine c_Mo_missOf V (by omega) ?_
          refine kI ?_
          refine wp_if_le 50 44 d_Mo_missing_41 rfl (by decide) (fun h41 => ?_) (fun h41 => ?_)
          · refine wp_iconst 51 0 d_Mo_missing_50 rfl (by decide) ?_
            refine wp_ior 52 d_Mo_missing_51 rfl ?_
            refine wp_istore_1 53 d_Mo_missing_52 rfl rfl rfl ?_
            first | refine wp_iincN_2 56 d_Mo_missing_53 rfl rfl rfl ?_ | refine wp_iinc_2 56 1 d_Mo_missing_53 rfl (by decide) rfl rfl ?_
            refine wp_goto 4 d_Mo_missing_56 (by decide) ?_
            refine qL2 ?_ (ih (i + 1) (by omega) hq)
            simp only [iorr]
            rw [show (if moM t (m_partBy, m_eastBy, m_northBy) i then bit (nI i) else 0) = _ from if_neg (fun z => absurd z.2.2 (Int32.not_lt.mpr h41))]
          · refine wp_iconst 45 1 d_Mo_missing_44 rfl (by decide) ?_
            refine wp_iload_n 46 d_Mo_missing_45 rfl rfl ?_
            refine wp_ishl 47 d_Mo_missing_46 rfl ?_
            refine wp_goto 51 d_Mo_missing_47 (by decide) ?_
            refine wp_ior 52 d_Mo_missing_51 rfl ?_
            refine wp_istore_1 53 d_Mo_missing_52 rfl rfl rfl ?_
            first | refine wp_iincN_2 56 d_Mo_missing_53 rfl rfl rfl ?_ | refine wp_iinc_2 56 1 d_Mo_missing_53 rfl (by decide) rfl rfl ?_
            refine wp_goto 4 d_Mo_missing_56 (by decide) ?_
            refine qL2 ?_ (ih (i + 1) (by omega) hq)
            simp only [iorr]
            rw [show (if moM t (m_partBy, m_eastBy, m_northBy) i then bit (nI i) else 0) = _ from if_pos ⟨h20, h33, Int32.not_le.mp h41⟩]

set_option maxRecDepth 100000 in
set_option maxHeartbeats 4000000 in
theorem c_Mo_missing (V : vT m_at t) (hq : Q (some (.int (moMi t (m_partBy, m_eastBy, m_northBy)))) (hM m_at m_names m_status m_top m_bottom m_sort m_trayMany m_trays m_tape m_text m_taped m_size m_token m_from m_end m_value m_faultKind m_faultPlace m_faults m_seen m_areOdds m_opened m_depth m_counted m_eastBy m_northBy m_partBy m_wayFaults m_wayEast m_wayNorth m_olds m_wayMany m_oneOfSet m_twoOfSet m_farBy m_rowBy m_triedBy m_rowMany m_doneAt m_gotAt m_struckAt m_bestDeed m_misBy m_drawn m_ranSteps m_loops m_ran m_told1 m_isTold m_marks)) : Call Γ M_Mo_missing 5 0 0 [.ref 0] (hM m_at m_names m_status m_top m_bottom m_sort m_trayMany m_trays m_tape m_text m_taped m_size m_token m_from m_end m_value m_faultKind m_faultPlace m_faults m_seen m_areOdds m_opened m_depth m_counted m_eastBy m_northBy m_partBy m_wayFaults m_wayEast m_wayNorth m_olds m_wayMany m_oneOfSet m_twoOfSet m_farBy m_rowBy m_triedBy m_rowMany m_doneAt m_gotAt m_struckAt m_bestDeed m_misBy m_drawn m_ranSteps m_loops m_ran m_told1 m_isTold m_marks) Q := by
  refine call_intro (ls := [some (.ref 0), none, none]) rfl rfl rfl ?_
  refine wp_iconst 1 0 d_Mo_missing_0 rfl (by decide) ?_
  refine wp_istore_1 2 d_Mo_missing_1 rfl rfl rfl ?_
  refine wp_iconst 3 0 d_Mo_missing_2 rfl (by decide) ?_
  refine wp_istore_2 4 d_Mo_missing_3 rfl rfl rfl ?_
  exact l_Mo_missing_4 V V.ok.hL t.nL 0 (by omega) hq

end T72
