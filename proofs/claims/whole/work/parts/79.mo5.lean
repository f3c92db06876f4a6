/-! ===== the reference: walker, leg, place, apart, joined ===== -/
theorem fa_id {f : Int32} (h : inR f 24) : tB f + 4 * lB f + 8 * (sB f - 1) = f := by
  have : ∀ i, i < 24 → tB (nI i) + 4 * lB (nI i) + 8 * (sB (nI i) - 1) = nI i := by decide +kernel
  obtain ⟨i, hi, rfl⟩ := inR_ex (n := 24) h (by omega)
  exact this i hi
theorem lB_01 {f : Int32} (h : inR f 24) : lB f = bP (lB f = 1) := by
  have : ∀ i, i < 24 → lB (nI i) = bP (lB (nI i) = 1) := by decide +kernel
  obtain ⟨i, hi, rfl⟩ := inR_ex (n := 24) h (by omega)
  exact this i hi
theorem w3 {w : Int32} (h0 : ¬ w < 0) (h1 : w < 3) : w = 0 ∨ w = 1 ∨ w = 2 := by
  obtain ⟨i, hi, rfl⟩ := inR_ex (n := 3) ⟨Int32.not_lt.mp h0, h1⟩ (by omega)
  match i, hi with
  | 0, _ => exact Or.inl rfl
  | 1, _ => exact Or.inr (Or.inl rfl)
  | 2, _ => exact Or.inr (Or.inr rfl)
theorem w5 {w : Int32} (h0 : ¬ w < 0) (h1 : w < 5) : w = 0 ∨ w = 1 ∨ w = 2 ∨ w = 3 ∨ w = 4 := by
  obtain ⟨i, hi, rfl⟩ := inR_ex (n := 5) ⟨Int32.not_lt.mp h0, h1⟩ (by omega)
  match i, hi with
  | 0, _ => exact Or.inl rfl
  | 1, _ => exact Or.inr (Or.inl rfl)
  | 2, _ => exact Or.inr (Or.inr (Or.inl rfl))
  | 3, _ => exact Or.inr (Or.inr (Or.inr (Or.inl rfl)))
  | 4, _ => exact Or.inr (Or.inr (Or.inr (Or.inr rfl)))
theorem wlt {w : Int32} {n : Nat} (h : ¬ w < 0) (h2 : w < nI n) (h3 : ∀ i, i < n → ¬ w = nI i) : False := by
  obtain ⟨i, hi, rfl⟩ := nI_of h
  exact h3 i ((nI_ltI hi (by
    rcases Nat.lt_or_ge n (2 ^ 31) with z | z
    · exact z
    · exact absurd rfl (h3 i (by omega)))).mp h2) rfl
section T79
variable {Γ : Gm} {Q : Option Value → LH → Prop} {m_at m_sort m_trayMany m_tape m_text m_opened m_eastBy m_northBy m_partBy m_wayFaults m_wayEast m_wayNorth m_olds m_farBy m_rowBy m_triedBy m_doneAt m_gotAt m_struckAt m_bestDeed m_loops m_ran m_told1 : Nat → Int32} {m_names m_trays m_misBy : Nat → Int64} {m_status m_taped m_size m_token m_from m_end m_value m_faultKind m_faultPlace m_faults m_seen m_areOdds m_depth m_counted m_wayMany m_oneOfSet m_twoOfSet m_rowMany m_drawn m_ranSteps m_isTold m_marks : Int32} {m_top m_bottom : Int64} {t : TW}
theorem inR_lt {x : Int32} {n : Nat} (h : inR x (nI n)) (hn : n < 2 ^ 31) : x.toNatClampNeg < n := by
  obtain ⟨i, hi, rfl⟩ := inR_ex h hn
  rw [nI_clamp (by omega)]; exact hi
theorem lt5 {w : Int32} (h : w ≤ 4) : w < 5 := by
  by_cases z : w < 5
  · exact z
  · exact absurd (Int32.le_trans (Int32.not_lt.mp z) h) (by decide)
theorem w56 {w : Int32} (h0 : 5 ≤ w) (h1 : w < 7) : w = 5 ∨ w = 6 := by
  obtain ⟨i, hi, rfl⟩ := inR_ex (n := 7) ⟨Int32.le_trans (by decide) h0, h1⟩ (by omega)
  match i, hi, h0 with
  | 0, _, h => exact absurd h (by decide)
  | 1, _, h => exact absurd h (by decide)
  | 2, _, h => exact absurd h (by decide)
  | 3, _, h => exact absurd h (by decide)
  | 4, _, h => exact absurd h (by decide)
  | 5, _, _ => exact Or.inl rfl
  | 6, _, _ => exact Or.inr rfl
theorem w7 {w : Int32} (h0 : 7 ≤ w) (h1 : w ≤ 7) : w = 7 := Int32.le_antisymm h1 h0
theorem w1 {w : Int32} (h : w < 2) : w ≤ 1 := by
  by_cases z : w ≤ 1
  · exact z
  · have h1 := Int32.not_le.mp z
    have a := Int32.lt_iff_toInt_lt.mp h
    have b := Int32.lt_iff_toInt_lt.mp h1
    have c : (2 : Int32).toInt = 2 := rfl
    have d : (1 : Int32).toInt = 1 := rfl
    omega
theorem w2 {w : Int32} (h : w ≤ 1) : w < 2 := by
  by_cases z : w < 2
  · exact z
  · exact absurd (Int32.le_trans (Int32.not_lt.mp z) h) (by decide)
set_option maxRecDepth 100000 in
set_option maxHeartbeats 4000000 in
theorem c_Mo_faultOf {w : Int32} (V : vT m_at t) (hw : inR w (nI t.nW)) (hq : Q (some (.int (t.fa w.toNatClampNeg))) (hM m_at m_names m_status m_top m_bottom m_sort m_trayMany m_trays m_tape m_text m_taped m_size m_token m_from m_end m_value m_faultKind m_faultPlace m_faults m_seen m_areOdds m_opened m_depth m_counted m_eastBy m_northBy m_partBy m_wayFaults m_wayEast m_wayNorth m_olds m_wayMany m_oneOfSet m_twoOfSet m_farBy m_rowBy m_triedBy m_rowMany m_doneAt m_gotAt m_struckAt m_bestDeed m_misBy m_drawn m_ranSteps m_loops m_ran m_told1 m_isTold m_marks)) : Call Γ M_Mo_faultOf 3 0 0 [.ref 0, .int w] (hM m_at m_names m_status m_top m_bottom m_sort m_trayMany m_trays m_tape m_text m_taped m_size m_token m_from m_end m_value m_faultKind m_faultPlace m_faults m_seen m_areOdds m_opened m_depth m_counted m_eastBy m_northBy m_partBy m_wayFaults m_wayEast m_wayNorth m_olds m_wayMany m_oneOfSet m_twoOfSet m_farBy m_rowBy m_triedBy m_rowMany m_doneAt m_gotAt m_struckAt m_bestDeed m_misBy m_drawn m_ranSteps m_loops m_ran m_told1 m_isTold m_marks) Q := by
  refine call_intro (ls := [some (.ref 0), some (.int w)]) rfl rfl rfl ?_
  refine wp_aload_n 1 d_Mo_faultOf_0 rfl rfl ?_
  refine wp_iload_n 2 d_Mo_faultOf_1 rfl rfl ?_
  refine wp_iconst 3 0 d_Mo_faultOf_2 rfl (by decide) ?_
  refine wp_V2 6 M_Mo_walkerOf 2 d_Mo_faultOf_3 rfl mv_Mo_walkerOf lk_Mo_290 rfl rfl rfl rfl rfl ?_
  refine c_wk0 V hw ?_
  refine kI ?_
  refine wp_iconst 7 4 d_Mo_faultOf_6 rfl (by decide) ?_
  refine wp_aload_n 8 d_Mo_faultOf_7 rfl rfl ?_
  refine wp_iload_n 9 d_Mo_faultOf_8 rfl rfl ?_
  refine wp_iconst 10 1 d_Mo_faultOf_9 rfl (by decide) ?_
  refine wp_V2 13 M_Mo_walkerOf 2 d_Mo_faultOf_10 rfl mv_Mo_walkerOf lk_Mo_290 rfl rfl rfl rfl rfl ?_
  refine c_wk1 V hw ?_
  refine kI ?_
  refine wp_imul 14 d_Mo_faultOf_13 rfl ?_
  refine wp_iadd 15 d_Mo_faultOf_14 rfl ?_
  refine wp_bipush 17 8 d_Mo_faultOf_15 rfl (by decide) ?_
  refine wp_aload_n 18 d_Mo_faultOf_17 rfl rfl ?_
  refine wp_iload_n 19 d_Mo_faultOf_18 rfl rfl ?_
  refine wp_iconst 20 2 d_Mo_faultOf_19 rfl (by decide) ?_
  refine wp_V2 23 M_Mo_walkerOf 2 d_Mo_faultOf_20 rfl mv_Mo_walkerOf lk_Mo_290 rfl rfl rfl rfl rfl ?_
  refine c_wk2 V hw ?_
  refine kI ?_
  refine wp_iconst 24 1 d_Mo_faultOf_23 rfl (by decide) ?_
  refine wp_isub 25 d_Mo_faultOf_24 rfl ?_
  refine wp_imul 26 d_Mo_faultOf_25 rfl ?_
  refine wp_iadd 27 d_Mo_faultOf_26 rfl ?_
  refine wp_ireturn d_Mo_faultOf_27 rfl ?_
  rw [fa_id (V.in_.2.1 _ (inR_lt hw (by have := V.ok.hW; omega)))]
  exact hq

set_option maxRecDepth 100000 in
set_option maxHeartbeats 4000000 in
theorem l_Mo_walker_59 (V : vT m_at t) {j : Nat} {w : Int32} (hn : t.nL ≤ 12) : ∀ (r i : Nat) , i + r = t.nL → WP Γ M_Mo_walker 4 0 0 (hM m_at m_names m_status m_top m_bottom m_sort m_trayMany m_trays m_tape m_text m_taped m_size m_token m_from m_end m_value m_faultKind m_faultPlace m_faults m_seen m_areOdds m_opened m_depth m_counted m_eastBy m_northBy m_partBy m_wayFaults m_wayEast m_wayNorth m_olds m_wayMany m_oneOfSet m_twoOfSet m_farBy m_rowBy m_triedBy m_rowMany m_doneAt m_gotAt m_struckAt m_bestDeed m_misBy m_drawn m_ranSteps m_loops m_ran m_told1 m_isTold m_marks) 98 [some (.ref 0), some (.int (nI j)), some (.int w), some (.int (iorr (fun l => if t.te l = nI j then bit (nI l) else 0) t.nL)), some (.int (nI t.nL))] [] Q → WP Γ M_Mo_walker 4 0 0 (hM m_at m_names m_status m_top m_bottom m_sort m_trayMany m_trays m_tape m_text m_taped m_size m_token m_from m_end m_value m_faultKind m_faultPlace m_faults m_seen m_areOdds m_opened m_depth m_counted m_eastBy m_northBy m_partBy m_wayFaults m_wayEast m_wayNorth m_olds m_wayMany m_oneOfSet m_twoOfSet m_farBy m_rowBy m_triedBy m_rowMany m_doneAt m_gotAt m_struckAt m_bestDeed m_misBy m_drawn m_ranSteps m_loops m_ran m_told1 m_isTold m_marks) 59 [some (.ref 0), some (.int (nI j)), some (.int w), some (.int (iorr (fun l => if t.te l = nI j then bit (nI l) else 0) i)), some (.int (nI i))] [] Q := by
  intro r
  induction r with
  | zero =>
    intro i  hi hinv
    have hq := hinv
    refine wp_iload 61 d_Mo_walker_59 rfl rfl ?_
    refine wp_aload_n 62 d_Mo_walker_61 rfl rfl ?_
    refine wp_getfield 65 12 0 d_Mo_walker_62 rfl fl_Mo_7 rfl rfl ?_
    refine wp_iconst 66 2 d_Mo_walker_65 rfl (by decide) ?_
    refine wp_iaload 67 d_Mo_walker_66 rfl rfl (vp_in_nI (n := 2) (N := 2332) (by omega) (by omega)) ?_
    rw [show m_at (2 : Int32).toNatClampNeg = nI t.nL from V.L]
    refine wp_icmp_ge 98 70 d_Mo_walker_67 rfl (by decide) (fun h67 => ?_) (fun h67 => ?_)
    · have e : i = t.nL := by omega
      subst e
      exact hq
    · exact absurd ((nI_leI (a := t.nL) (by omega) (by omega)).mpr (by omega)) h67
  | succ r ih =>
    intro i  hi hinv
    have hq := hinv
    refine wp_iload 61 d_Mo_walker_59 rfl rfl ?_
    refine wp_aload_n 62 d_Mo_walker_61 rfl rfl ?_
    refine wp_getfield 65 12 0 d_Mo_walker_62 rfl fl_Mo_7 rfl rfl ?_
    refine wp_iconst 66 2 d_Mo_walker_65 rfl (by decide) ?_
    refine wp_iaload 67 d_Mo_walker_66 rfl rfl (vp_in_nI (n := 2) (N := 2332) (by omega) (by omega)) ?_
    rw [show m_at (2 : Int32).toNatClampNeg = nI t.nL from V.L]
    refine wp_icmp_ge 98 70 d_Mo_walker_67 rfl (by decide) (fun h67 => ?_) (fun h67 => ?_)
    · exact absurd (nI_leN (b := t.nL) h67 (by omega) (by omega)) (by omega)
    · refine wp_iload_n 71 d_Mo_walker_70 rfl rfl ?_
      refine wp_aload_n 72 d_Mo_walker_71 rfl rfl ?_
      refine wp_iload 74 d_Mo_walker_72 rfl rfl ?_
      refine wp_iconst 75 0 d_Mo_walker_74 rfl (by decide) ?_
      refine wp_V2 78 M_Mo_legOf 2 d_Mo_walker_75 rfl mv_Mo_legOf lk_Mo_287 rfl rfl rfl rfl rfl ?_
      refine c_leg0 V (by omega) ?_
      refine kI ?_
      refine wp_iload_n 79 d_Mo_walker_78 rfl rfl ?_
      refine wp_icmp_ne 89 82 d_Mo_walker_79 rfl (by decide) (fun h79 => ?_) (fun h79 => ?_)
      · refine wp_iconst 90 0 d_Mo_walker_89 rfl (by decide) ?_
        refine wp_ior 91 d_Mo_walker_90 rfl ?_
        refine wp_istore_3 92 d_Mo_walker_91 rfl rfl rfl ?_
        first | refine wp_iincN_4 95 d_Mo_walker_92 rfl rfl rfl ?_ | refine wp_iinc_4 95 1 d_Mo_walker_92 rfl (by decide) rfl rfl ?_
        refine wp_goto 59 d_Mo_walker_95 (by decide) ?_
        refine qL2 ?_ (ih (i + 1) (by omega) hq)
        simp only [iorr]
        rw [if_neg h79]
      · refine wp_iconst 83 1 d_Mo_walker_82 rfl (by decide) ?_
        refine wp_iload 85 d_Mo_walker_83 rfl rfl ?_
        refine wp_ishl 86 d_Mo_walker_85 rfl ?_
        refine wp_goto 90 d_Mo_walker_86 (by decide) ?_
        refine wp_ior 91 d_Mo_walker_90 rfl ?_
        refine wp_istore_3 92 d_Mo_walker_91 rfl rfl rfl ?_
        first | refine wp_iincN_4 95 d_Mo_walker_92 rfl rfl rfl ?_ | refine wp_iinc_4 95 1 d_Mo_walker_92 rfl (by decide) rfl rfl ?_
        refine wp_goto 59 d_Mo_walker_95 (by decide) ?_
        refine qL2 ?_ (ih (i + 1) (by omega) hq)
        simp only [iorr]
        rw [if_pos h79]

set_option maxRecDepth 100000 in
set_option maxHeartbeats 4000000 in
theorem c_Mo_walker {a w : Int32} (V : vT m_at t) (hq : ∀ s : MS, Q (some (.int (waF t a w).2)) (hM m_at m_names ((waF t a w).1) m_top m_bottom m_sort m_trayMany m_trays m_tape m_text m_taped m_size m_token m_from m_end m_value m_faultKind m_faultPlace m_faults m_seen m_areOdds m_opened m_depth m_counted (s.2.1) (s.2.2) (s.1) m_wayFaults m_wayEast m_wayNorth m_olds m_wayMany m_oneOfSet m_twoOfSet m_farBy m_rowBy m_triedBy m_rowMany m_doneAt m_gotAt m_struckAt m_bestDeed m_misBy m_drawn m_ranSteps m_loops m_ran m_told1 m_isTold m_marks)) : Call Γ M_Mo_walker 4 0 0 [.ref 0, .int a, .int w] (hM m_at m_names m_status m_top m_bottom m_sort m_trayMany m_trays m_tape m_text m_taped m_size m_token m_from m_end m_value m_faultKind m_faultPlace m_faults m_seen m_areOdds m_opened m_depth m_counted m_eastBy m_northBy m_partBy m_wayFaults m_wayEast m_wayNorth m_olds m_wayMany m_oneOfSet m_twoOfSet m_farBy m_rowBy m_triedBy m_rowMany m_doneAt m_gotAt m_struckAt m_bestDeed m_misBy m_drawn m_ranSteps m_loops m_ran m_told1 m_isTold m_marks) Q := by
  refine call_intro (ls := [some (.ref 0), some (.int a), some (.int w), none, none]) rfl rfl rfl ?_
  refine wp_aload_n 1 d_Mo_walker_0 rfl rfl ?_
  refine wp_iload_n 2 d_Mo_walker_1 rfl rfl ?_
  refine wp_V1 5 M_Mo_isWalker 1 d_Mo_walker_2 rfl mv_Mo_isWalker lk_Mo_340 rfl rfl rfl rfl rfl ?_
  refine c_Mo_isWalker V ?_
  refine kI ?_
  (first | refine wp_ifP_eq 17 8 d_Mo_walker_5 rfl (by decide) (fun h5 => ?_) (fun h5 => ?_) | refine wp_if_eq 17 8 d_Mo_walker_5 rfl (by decide) (fun h5 => ?_) (fun h5 => ?_))
  · refine wp_aload_n 18 d_Mo_walker_17 rfl rfl ?_
    refine wp_iconst 19 1 d_Mo_walker_18 rfl (by decide) ?_
    refine wp_V1 22 M_Mo_refuse 1 d_Mo_walker_19 rfl mv_Mo_refuse lk_Mo_111 rfl rfl rfl rfl rfl ?_
    refine c_Mo_refuse ?_
    refine kI ?_
    refine wp_ireturn d_Mo_walker_22 rfl ?_
    have e : waF t a w = _ := (if_neg h5)
    have h9 := hq (m_partBy, m_eastBy, m_northBy)
    rw [e] at h9
    exact h9
  · refine wp_iload_n 9 d_Mo_walker_8 rfl rfl ?_
    refine wp_if_lt 17 12 d_Mo_walker_9 rfl (by decide) (fun h9 => ?_) (fun h9 => ?_)
    · refine wp_aload_n 18 d_Mo_walker_17 rfl rfl ?_
      refine wp_iconst 19 1 d_Mo_walker_18 rfl (by decide) ?_
      refine wp_V1 22 M_Mo_refuse 1 d_Mo_walker_19 rfl mv_Mo_refuse lk_Mo_111 rfl rfl rfl rfl rfl ?_
      refine c_Mo_refuse ?_
      refine kI ?_
      refine wp_ireturn d_Mo_walker_22 rfl ?_
      obtain ⟨l, hl, rfl⟩ := inR_ex h5 (by have := V.ok.hW; omega)
      have e : waF t (nI l) w = _ := (((if_pos h5).trans (congrArg (fun k => waG t k w) (nI_clamp (by have := V.ok.hW; omega)))).trans ((show waG t l w = (1, -1) from by unfold waG; rw [if_neg (fun z => by rw [z] at h9; exact absurd h9 (by decide)), if_neg (fun z => by rw [z] at h9; exact absurd h9 (by decide)), if_neg (fun z => by rw [z] at h9; exact absurd h9 (by decide)), if_neg (fun z => by rw [z] at h9; exact absurd h9 (by decide)), if_neg (fun z => by rw [z] at h9; exact absurd h9 (by decide))])))
      have h9 := hq (m_partBy, m_eastBy, m_northBy)
      rw [e] at h9
      exact h9
    · refine wp_iload_n 13 d_Mo_walker_12 rfl rfl ?_
      refine wp_iconst 14 4 d_Mo_walker_13 rfl (by decide) ?_
      refine wp_icmp_le 23 17 d_Mo_walker_14 rfl (by decide) (fun h14 => ?_) (fun h14 => ?_)
      · refine wp_iload_n 24 d_Mo_walker_23 rfl rfl ?_
        refine wp_iconst 25 3 d_Mo_walker_24 rfl (by decide) ?_
        refine wp_icmp_ge 39 28 d_Mo_walker_25 rfl (by decide) (fun h25 => ?_) (fun h25 => ?_)
        · refine wp_iload_n 40 d_Mo_walker_39 rfl rfl ?_
          refine wp_iconst 41 3 d_Mo_walker_40 rfl (by decide) ?_
          refine wp_icmp_ne 54 44 d_Mo_walker_41 rfl (by decide) (fun h41 => ?_) (fun h41 => ?_)
          · refine wp_iconst 55 0 d_Mo_walker_54 rfl (by decide) ?_
            refine wp_istore_3 56 d_Mo_walker_55 rfl rfl rfl ?_
            refine wp_iconst 57 0 d_Mo_walker_56 rfl (by decide) ?_
            refine wp_istore_4 59 d_Mo_walker_57 rfl rfl rfl ?_
            obtain ⟨j, hj, rfl⟩ := inR_ex h5 (by have := V.ok.hW; omega)
            have hw4 : w = 4 := by
              rcases w5 h9 (lt5 h14) with z | z | z | z | z
              · rw [z] at h25; exact absurd h25 (by decide)
              · rw [z] at h25; exact absurd h25 (by decide)
              · rw [z] at h25; exact absurd h25 (by decide)
              · exact absurd z h41
              · exact z
            refine l_Mo_walker_59 V V.ok.hL t.nL 0 (by omega) ?_
            refine wp_aload_n 99 d_Mo_walker_98 rfl rfl ?_
            refine wp_iload_n 100 d_Mo_walker_99 rfl rfl ?_
            refine wp_V1 103 M_Mo_gives 1 d_Mo_walker_100 rfl mv_Mo_gives lk_Mo_115 rfl rfl rfl rfl rfl ?_
            refine c_Mo_gives ?_
            refine kI ?_
            refine wp_ireturn d_Mo_walker_103 rfl ?_
            have e : waF t (nI j) w = (0, iorr (fun l => if t.te l = nI j then bit (nI l) else 0) t.nL) := (if_pos h5).trans ((congrArg (fun k => waG t k w) (nI_clamp (by have := V.ok.hW; omega))).trans (show waG t j w = _ from by subst hw4; rfl))
            have h9_ := hq (m_partBy, m_eastBy, m_northBy)
            rw [e] at h9_
            exact h9_
          · refine wp_aload_n 45 d_Mo_walker_44 rfl rfl ?_
            refine wp_aload_n 46 d_Mo_walker_45 rfl rfl ?_
            refine wp_iload_n 47 d_Mo_walker_46 rfl rfl ?_
            refine wp_V1 50 M_Mo_faultOf 3 d_Mo_walker_47 rfl mv_Mo_faultOf lk_Mo_343 rfl rfl rfl rfl rfl ?_
            refine c_Mo_faultOf V h5 ?_
            refine kI ?_
            refine wp_V1 53 M_Mo_gives 1 d_Mo_walker_50 rfl mv_Mo_gives lk_Mo_115 rfl rfl rfl rfl rfl ?_
            refine c_Mo_gives ?_
            refine kI ?_
            refine wp_ireturn d_Mo_walker_53 rfl ?_
            have e : waF t a w = _ := ((if_pos h5).trans ((show waG t a.toNatClampNeg w = (0, t.fa a.toNatClampNeg) from by subst h41; rfl)))
            have h9 := hq (m_partBy, m_eastBy, m_northBy)
            rw [e] at h9
            exact h9
        · rcases w3 h9 (Int32.not_le.mp h25) with rfl | rfl | rfl
          · refine wp_aload_n 29 d_Mo_walker_28 rfl rfl ?_
            refine wp_aload_n 30 d_Mo_walker_29 rfl rfl ?_
            refine wp_iload_n 31 d_Mo_walker_30 rfl rfl ?_
            refine wp_iload_n 32 d_Mo_walker_31 rfl rfl ?_
            refine wp_V2 35 M_Mo_walkerOf 2 d_Mo_walker_32 rfl mv_Mo_walkerOf lk_Mo_290 rfl rfl rfl rfl rfl ?_
            refine c_wk0 V h5 ?_
            refine kI ?_
            refine wp_V1 38 M_Mo_gives 1 d_Mo_walker_35 rfl mv_Mo_gives lk_Mo_115 rfl rfl rfl rfl rfl ?_
            refine c_Mo_gives ?_
            refine kI ?_
            refine wp_ireturn d_Mo_walker_38 rfl ?_
            have e : waF t a 0 = (0, tB (t.fa a.toNatClampNeg)) := (if_pos h5).trans (if_pos rfl)
            have h9_ := hq (m_partBy, m_eastBy, m_northBy)
            rw [e] at h9_
            exact h9_
          · refine wp_aload_n 29 d_Mo_walker_28 rfl rfl ?_
            refine wp_aload_n 30 d_Mo_walker_29 rfl rfl ?_
            refine wp_iload_n 31 d_Mo_walker_30 rfl rfl ?_
            refine wp_iload_n 32 d_Mo_walker_31 rfl rfl ?_
            refine wp_V2 35 M_Mo_walkerOf 2 d_Mo_walker_32 rfl mv_Mo_walkerOf lk_Mo_290 rfl rfl rfl rfl rfl ?_
            refine c_wk1 V h5 ?_
            refine kI ?_
            refine wp_V1 38 M_Mo_gives 1 d_Mo_walker_35 rfl mv_Mo_gives lk_Mo_115 rfl rfl rfl rfl rfl ?_
            refine c_Mo_gives ?_
            refine kI ?_
            refine wp_ireturn d_Mo_walker_38 rfl ?_
            have e : waF t a 1 = (0, lB (t.fa a.toNatClampNeg)) := (if_pos h5).trans (((if_neg (by decide)).trans (if_pos rfl)).trans (congrArg (Prod.mk 0) (lB_01 (V.in_.2.1 _ (inR_lt h5 (by have := V.ok.hW; omega)))).symm))
            have h9_ := hq (m_partBy, m_eastBy, m_northBy)
            rw [e] at h9_
            exact h9_
          · refine wp_aload_n 29 d_Mo_walker_28 rfl rfl ?_
            refine wp_aload_n 30 d_Mo_walker_29 rfl rfl ?_
            refine wp_iload_n 31 d_Mo_walker_30 rfl rfl ?_
            refine wp_iload_n 32 d_Mo_walker_31 rfl rfl ?_
            refine wp_V2 35 M_Mo_walkerOf 2 d_Mo_walker_32 rfl mv_Mo_walkerOf lk_Mo_290 rfl rfl rfl rfl rfl ?_
            refine c_wk2 V h5 ?_
            refine kI ?_
            refine wp_V1 38 M_Mo_gives 1 d_Mo_walker_35 rfl mv_Mo_gives lk_Mo_115 rfl rfl rfl rfl rfl ?_
            refine c_Mo_gives ?_
            refine kI ?_
            refine wp_ireturn d_Mo_walker_38 rfl ?_
            have e : waF t a 2 = (0, sB (t.fa a.toNatClampNeg)) := (if_pos h5).trans (((if_neg (by decide)).trans (if_neg (by decide))).trans (if_pos rfl))
            have h9_ := hq (m_partBy, m_eastBy, m_northBy)
            rw [e] at h9_
            exact h9_
      · refine wp_aload_n 18 d_Mo_walker_17 rfl rfl ?_
        refine wp_iconst 19 1 d_Mo_walker_18 rfl (by decide) ?_
        refine wp_V1 22 M_Mo_refuse 1 d_Mo_walker_19 rfl mv_Mo_refuse lk_Mo_111 rfl rfl rfl rfl rfl ?_
        refine c_Mo_refuse ?_
        refine kI ?_
        refine wp_ireturn d_Mo_walker_22 rfl ?_
        obtain ⟨l, hl, rfl⟩ := inR_ex h5 (by have := V.ok.hW; omega)
        have e : waF t (nI l) w = _ := (((if_pos h5).trans (congrArg (fun k => waG t k w) (nI_clamp (by have := V.ok.hW; omega)))).trans ((show waG t l w = (1, -1) from by unfold waG; rw [if_neg (fun z => by rw [z] at h14; exact absurd h14 (by decide)), if_neg (fun z => by rw [z] at h14; exact absurd h14 (by decide)), if_neg (fun z => by rw [z] at h14; exact absurd h14 (by decide)), if_neg (fun z => by rw [z] at h14; exact absurd h14 (by decide)), if_neg (fun z => by rw [z] at h14; exact absurd h14 (by decide))])))
        have h9 := hq (m_partBy, m_eastBy, m_northBy)
        rw [e] at h9
        exact h9

set_option maxRecDepth 100000 in
set_option maxHeartbeats 4000000 in
theorem c_Mo_leg {a w : Int32} (V : vT m_at t) (hq : ∀ s : MS, Q (some (.int (leF t a w).2)) (hM m_at m_names ((leF t a w).1) m_top m_bottom m_sort m_trayMany m_trays m_tape m_text m_taped m_size m_token m_from m_end m_value m_faultKind m_faultPlace m_faults m_seen m_areOdds m_opened m_depth m_counted (s.2.1) (s.2.2) (s.1) m_wayFaults m_wayEast m_wayNorth m_olds m_wayMany m_oneOfSet m_twoOfSet m_farBy m_rowBy m_triedBy m_rowMany m_doneAt m_gotAt m_struckAt m_bestDeed m_misBy m_drawn m_ranSteps m_loops m_ran m_told1 m_isTold m_marks)) : Call Γ M_Mo_leg 7 0 0 [.ref 0, .int a, .int w] (hM m_at m_names m_status m_top m_bottom m_sort m_trayMany m_trays m_tape m_text m_taped m_size m_token m_from m_end m_value m_faultKind m_faultPlace m_faults m_seen m_areOdds m_opened m_depth m_counted m_eastBy m_northBy m_partBy m_wayFaults m_wayEast m_wayNorth m_olds m_wayMany m_oneOfSet m_twoOfSet m_farBy m_rowBy m_triedBy m_rowMany m_doneAt m_gotAt m_struckAt m_bestDeed m_misBy m_drawn m_ranSteps m_loops m_ran m_told1 m_isTold m_marks) Q := by
  refine call_intro (ls := [some (.ref 0), some (.int a), some (.int w), none]) rfl rfl rfl ?_
  refine wp_aload_n 1 d_Mo_leg_0 rfl rfl ?_
  refine wp_iload_n 2 d_Mo_leg_1 rfl rfl ?_
  refine wp_V1 5 M_Mo_isLeg 1 d_Mo_leg_2 rfl mv_Mo_isLeg lk_Mo_346 rfl rfl rfl rfl rfl ?_
  refine c_Mo_isLeg V ?_
  refine kI ?_
  (first | refine wp_ifP_eq 18 8 d_Mo_leg_5 rfl (by decide) (fun h5 => ?_) (fun h5 => ?_) | refine wp_if_eq 18 8 d_Mo_leg_5 rfl (by decide) (fun h5 => ?_) (fun h5 => ?_))
  · refine wp_aload_n 19 d_Mo_leg_18 rfl rfl ?_
    refine wp_iconst 20 1 d_Mo_leg_19 rfl (by decide) ?_
    refine wp_V1 23 M_Mo_refuse 1 d_Mo_leg_20 rfl mv_Mo_refuse lk_Mo_111 rfl rfl rfl rfl rfl ?_
    refine c_Mo_refuse ?_
    refine kI ?_
    refine wp_ireturn d_Mo_leg_23 rfl ?_
    have e : leF t a w = _ := (if_neg h5)
    have h9 := hq (m_partBy, m_eastBy, m_northBy)
    rw [e] at h9
    exact h9
  · refine wp_iload_n 9 d_Mo_leg_8 rfl rfl ?_
    refine wp_if_lt 18 12 d_Mo_leg_9 rfl (by decide) (fun h9 => ?_) (fun h9 => ?_)
    · refine wp_aload_n 19 d_Mo_leg_18 rfl rfl ?_
      refine wp_iconst 20 1 d_Mo_leg_19 rfl (by decide) ?_
      refine wp_V1 23 M_Mo_refuse 1 d_Mo_leg_20 rfl mv_Mo_refuse lk_Mo_111 rfl rfl rfl rfl rfl ?_
      refine c_Mo_refuse ?_
      refine kI ?_
      refine wp_ireturn d_Mo_leg_23 rfl ?_
      obtain ⟨l, hl, rfl⟩ := inR_ex h5 (by have := V.ok.hL; omega)
      have e : leF t (nI l) w = _ := (((if_pos h5).trans (congrArg (fun k => leG t k w) (nI_clamp (by have := V.ok.hL; omega)))).trans ((show leG t l w = (1, -1) from by unfold leG; rw [if_neg (fun z => by rw [z] at h9; exact absurd h9 (by decide)), if_neg (fun z => by rw [z] at h9; exact absurd h9 (by decide)), if_neg (fun z => by rw [z] at h9; exact absurd h9 (by decide)), if_neg (fun z => by rw [z] at h9; exact absurd h9 (by decide)), if_neg (fun z => by rw [z] at h9; exact absurd h9 (by decide)), if_neg (fun z => by rw [z] at h9; exact absurd h9 (by decide)), if_neg (fun z => by rw [z] at h9; exact absurd h9 (by decide)), if_neg (fun z => by rw [z] at h9; exact absurd h9 (by decide))])))
      have h9 := hq (m_partBy, m_eastBy, m_northBy)
      rw [e] at h9
      exact h9
    · refine wp_iload_n 13 d_Mo_leg_12 rfl rfl ?_
      refine wp_bipush 15 7 d_Mo_leg_13 rfl (by decide) ?_
      refine wp_icmp_le 24 18 d_Mo_leg_15 rfl (by decide) (fun h15 => ?_) (fun h15 => ?_)
      · refine wp_iload_n 25 d_Mo_leg_24 rfl rfl ?_
        refine wp_iconst 26 5 d_Mo_leg_25 rfl (by decide) ?_
        refine wp_icmp_ge 40 29 d_Mo_leg_26 rfl (by decide) (fun h26 => ?_) (fun h26 => ?_)
        · refine wp_iload_n 41 d_Mo_leg_40 rfl rfl ?_
          refine wp_bipush 43 7 d_Mo_leg_41 rfl (by decide) ?_
          refine wp_icmp_ge 67 46 d_Mo_leg_43 rfl (by decide) (fun h43 => ?_) (fun h43 => ?_)
          · obtain ⟨l, hl, rfl⟩ := inR_ex h5 (by have := V.ok.hL; omega)
            have hw7 : w = 7 := w7 h43 h15
            refine wp_aload_n 68 d_Mo_leg_67 rfl rfl ?_
            refine wp_iconst 69 0 d_Mo_leg_68 rfl (by decide) ?_
            refine wp_V1 72 M_Mo_laysOut 6 d_Mo_leg_69 rfl mv_Mo_laysOut lk_Mo_315 rfl rfl rfl rfl rfl ?_
            refine c_lo0 V ?_
            refine kV ?_
            have hch := lm_0 V.ok V.in_ (m_partBy, m_eastBy, m_northBy)
            generalize lmF t False (m_partBy, m_eastBy, m_northBy) = s9 at hch ⊢
            refine wp_aload_n 73 d_Mo_leg_72 rfl rfl ?_
            refine wp_iload_n 74 d_Mo_leg_73 rfl rfl ?_
            refine wp_V1 77 M_Mo_counts 2 d_Mo_leg_74 rfl mv_Mo_counts lk_Mo_300 rfl rfl rfl rfl rfl ?_
            refine c_Mo_counts V ?_
            refine kI ?_
            (first | refine wp_ifP_eq 97 80 d_Mo_leg_77 rfl (by decide) (fun h77 => ?_) (fun h77 => ?_) | refine wp_if_eq 97 80 d_Mo_leg_77 rfl (by decide) (fun h77 => ?_) (fun h77 => ?_))
            · refine wp_iconst 98 0 d_Mo_leg_97 rfl (by decide) ?_
              refine wp_istore_3 99 d_Mo_leg_98 rfl rfl rfl ?_
              refine wp_iload_n 100 d_Mo_leg_99 rfl rfl ?_
              refine wp_if_eq 115 103 d_Mo_leg_100 rfl (by decide) (fun h100 => ?_) (fun h100 => ?_)
              · refine wp_aload_n 116 d_Mo_leg_115 rfl rfl ?_
                refine wp_bipush 118 6 d_Mo_leg_116 rfl (by decide) ?_
                refine wp_V1 121 M_Mo_refuse 1 d_Mo_leg_118 rfl mv_Mo_refuse lk_Mo_111 rfl rfl rfl rfl rfl ?_
                refine c_Mo_refuse ?_
                refine kI ?_
                refine wp_ireturn d_Mo_leg_121 rfl ?_
                have e : leF t (nI l) w = _ := (if_pos h5).trans ((congrArg (fun k => leG t k w) (nI_clamp (by have := V.ok.hL; omega))).trans (show leG t l w = (if canM (tPo t).1 t.fr t.to_ (tTh t) l then (0, tMs t l) else (6, -1)) from by subst hw7; rfl))
                have h9_ := hq s9
                rw [e] at h9_
                rw [if_neg (fun z => h77 ((moC_th V.ok hl).mpr ((can_O V.ok hch hl).mp z).1))] at h9_
                exact h9_
              · exact absurd rfl h100
            · refine wp_aload_n 81 d_Mo_leg_80 rfl rfl ?_
              refine wp_aload_n 82 d_Mo_leg_81 rfl rfl ?_
              refine wp_iload_n 83 d_Mo_leg_82 rfl rfl ?_
              refine wp_iconst 84 1 d_Mo_leg_83 rfl (by decide) ?_
              refine wp_V2 87 M_Mo_legOf 2 d_Mo_leg_84 rfl mv_Mo_legOf lk_Mo_287 rfl rfl rfl rfl rfl ?_
              refine c_leg1 V hl ?_
              refine kI ?_
              refine wp_V1 90 M_Mo_isLying 1 d_Mo_leg_87 rfl mv_Mo_isLying lk_Mo_303 rfl rfl rfl rfl rfl ?_
              refine c_Mo_isLying (V.ok.fr l) ?_
              refine kI ?_
              (first | refine wp_ifP_eq 97 93 d_Mo_leg_90 rfl (by decide) (fun h90 => ?_) (fun h90 => ?_) | refine wp_if_eq 97 93 d_Mo_leg_90 rfl (by decide) (fun h90 => ?_) (fun h90 => ?_))
              · refine wp_iconst 98 0 d_Mo_leg_97 rfl (by decide) ?_
                refine wp_istore_3 99 d_Mo_leg_98 rfl rfl rfl ?_
                refine wp_iload_n 100 d_Mo_leg_99 rfl rfl ?_
                refine wp_if_eq 115 103 d_Mo_leg_100 rfl (by decide) (fun h100 => ?_) (fun h100 => ?_)
                · refine wp_aload_n 116 d_Mo_leg_115 rfl rfl ?_
                  refine wp_bipush 118 6 d_Mo_leg_116 rfl (by decide) ?_
                  refine wp_V1 121 M_Mo_refuse 1 d_Mo_leg_118 rfl mv_Mo_refuse lk_Mo_111 rfl rfl rfl rfl rfl ?_
                  refine c_Mo_refuse ?_
                  refine kI ?_
                  refine wp_ireturn d_Mo_leg_121 rfl ?_
                  have e : leF t (nI l) w = _ := (if_pos h5).trans ((congrArg (fun k => leG t k w) (nI_clamp (by have := V.ok.hL; omega))).trans (show leG t l w = (if canM (tPo t).1 t.fr t.to_ (tTh t) l then (0, tMs t l) else (6, -1)) from by subst hw7; rfl))
                  have h9_ := hq s9
                  rw [e] at h9_
                  rw [if_neg (fun z => h90 ((can_O V.ok hch hl).mp z).2)] at h9_
                  exact h9_
                · exact absurd rfl h100
              · refine wp_iconst 94 1 d_Mo_leg_93 rfl (by decide) ?_
                refine wp_goto 98 d_Mo_leg_94 (by decide) ?_
                refine wp_istore_3 99 d_Mo_leg_98 rfl rfl rfl ?_
                refine wp_iload_n 100 d_Mo_leg_99 rfl rfl ?_
                refine wp_if_eq 115 103 d_Mo_leg_100 rfl (by decide) (fun h100 => ?_) (fun h100 => ?_)
                · exact absurd h100 (by decide)
                · refine wp_aload_n 104 d_Mo_leg_103 rfl rfl ?_
                  refine wp_aload_n 105 d_Mo_leg_104 rfl rfl ?_
                  refine wp_iload_n 106 d_Mo_leg_105 rfl rfl ?_
                  refine wp_V1 109 M_Mo_missOf 4 d_Mo_leg_106 rfl mv_Mo_missOf lk_Mo_312 rfl rfl rfl rfl rfl ?_
                  refine c_Mo_missOf V hl ?_
                  refine kI ?_
                  refine wp_V1 112 M_Mo_gives 1 d_Mo_leg_109 rfl mv_Mo_gives lk_Mo_115 rfl rfl rfl rfl rfl ?_
                  refine c_Mo_gives ?_
                  refine kI ?_
                  refine wp_goto 121 d_Mo_leg_112 (by decide) ?_
                  refine wp_ireturn d_Mo_leg_121 rfl ?_
                  have hcm := (can_O V.ok hch hl).mpr ⟨(moC_th V.ok hl).mp h77, h90⟩
                  rw [mv_O V.ok hch hl hcm]
                  have e : leF t (nI l) w = _ := (if_pos h5).trans ((congrArg (fun k => leG t k w) (nI_clamp (by have := V.ok.hL; omega))).trans (show leG t l w = (if canM (tPo t).1 t.fr t.to_ (tTh t) l then (0, tMs t l) else (6, -1)) from by subst hw7; rfl))
                  have h9_ := hq s9
                  rw [e] at h9_
                  rw [if_pos hcm] at h9_
                  exact h9_
          · obtain ⟨l, hl, rfl⟩ := inR_ex h5 (by have := V.ok.hL; omega)
            rcases w56 h26 (Int32.not_le.mp h43) with rfl | rfl
            · refine wp_aload_n 47 d_Mo_leg_46 rfl rfl ?_
              refine wp_aload_n 48 d_Mo_leg_47 rfl rfl ?_
              refine wp_iload_n 49 d_Mo_leg_48 rfl rfl ?_
              refine wp_iload_n 50 d_Mo_leg_49 rfl rfl ?_
              refine wp_bipush 52 6 d_Mo_leg_50 rfl (by decide) ?_
              refine wp_icmp_ne 59 55 d_Mo_leg_52 rfl (by decide) (fun h52 => ?_) (fun h52 => absurd h52 (by decide))
              refine wp_iconst 60 0 d_Mo_leg_59 rfl (by decide) ?_
              refine wp_V2 63 M_Mo_right 3 d_Mo_leg_60 rfl mv_Mo_right lk_Mo_293 rfl rfl rfl rfl rfl ?_
              refine c_right0 V hl ?_
              refine kI ?_
              refine wp_V1 66 M_Mo_gives 1 d_Mo_leg_63 rfl mv_Mo_gives lk_Mo_115 rfl rfl rfl rfl rfl ?_
              refine c_Mo_gives ?_
              refine kI ?_
              refine wp_ireturn d_Mo_leg_66 rfl ?_
              have e : leF t (nI l) 5 = (0, tE_ t l) := (if_pos h5).trans ((congrArg (fun k => leG t k 5) (nI_clamp (by have := V.ok.hL; omega))).trans rfl)
              have h9_ := hq (m_partBy, m_eastBy, m_northBy)
              rw [e] at h9_
              exact h9_
            · refine wp_aload_n 47 d_Mo_leg_46 rfl rfl ?_
              refine wp_aload_n 48 d_Mo_leg_47 rfl rfl ?_
              refine wp_iload_n 49 d_Mo_leg_48 rfl rfl ?_
              refine wp_iload_n 50 d_Mo_leg_49 rfl rfl ?_
              refine wp_bipush 52 6 d_Mo_leg_50 rfl (by decide) ?_
              refine wp_icmp_ne 59 55 d_Mo_leg_52 rfl (by decide) (fun h52 => absurd rfl h52) (fun h52 => ?_)
              refine wp_iconst 56 1 d_Mo_leg_55 rfl (by decide) ?_
              refine wp_goto 60 d_Mo_leg_56 (by decide) ?_
              refine wp_V2 63 M_Mo_right 3 d_Mo_leg_60 rfl mv_Mo_right lk_Mo_293 rfl rfl rfl rfl rfl ?_
              refine c_right1 V hl ?_
              refine kI ?_
              refine wp_V1 66 M_Mo_gives 1 d_Mo_leg_63 rfl mv_Mo_gives lk_Mo_115 rfl rfl rfl rfl rfl ?_
              refine c_Mo_gives ?_
              refine kI ?_
              refine wp_ireturn d_Mo_leg_66 rfl ?_
              have e : leF t (nI l) 6 = (0, tN_ t l) := (if_pos h5).trans ((congrArg (fun k => leG t k 6) (nI_clamp (by have := V.ok.hL; omega))).trans rfl)
              have h9_ := hq (m_partBy, m_eastBy, m_northBy)
              rw [e] at h9_
              exact h9_
        · obtain ⟨l, hl, rfl⟩ := inR_ex h5 (by have := V.ok.hL; omega)
          rcases w5 h9 (Int32.not_le.mp h26) with rfl | rfl | rfl | rfl | rfl
          · refine wp_aload_n 30 d_Mo_leg_29 rfl rfl ?_
            refine wp_aload_n 31 d_Mo_leg_30 rfl rfl ?_
            refine wp_iload_n 32 d_Mo_leg_31 rfl rfl ?_
            refine wp_iload_n 33 d_Mo_leg_32 rfl rfl ?_
            refine wp_V2 36 M_Mo_legOf 2 d_Mo_leg_33 rfl mv_Mo_legOf lk_Mo_287 rfl rfl rfl rfl rfl ?_
            refine c_leg0 V hl ?_
            refine kI ?_
            refine wp_V1 39 M_Mo_gives 1 d_Mo_leg_36 rfl mv_Mo_gives lk_Mo_115 rfl rfl rfl rfl rfl ?_
            refine c_Mo_gives ?_
            refine kI ?_
            refine wp_ireturn d_Mo_leg_39 rfl ?_
            have e : leF t (nI l) 0 = (0, t.te l) := (if_pos h5).trans ((congrArg (fun k => leG t k 0) (nI_clamp (by have := V.ok.hL; omega))).trans rfl)
            have h9_ := hq (m_partBy, m_eastBy, m_northBy)
            rw [e] at h9_
            exact h9_
          · refine wp_aload_n 30 d_Mo_leg_29 rfl rfl ?_
            refine wp_aload_n 31 d_Mo_leg_30 rfl rfl ?_
            refine wp_iload_n 32 d_Mo_leg_31 rfl rfl ?_
            refine wp_iload_n 33 d_Mo_leg_32 rfl rfl ?_
            refine wp_V2 36 M_Mo_legOf 2 d_Mo_leg_33 rfl mv_Mo_legOf lk_Mo_287 rfl rfl rfl rfl rfl ?_
            refine c_leg1 V hl ?_
            refine kI ?_
            refine wp_V1 39 M_Mo_gives 1 d_Mo_leg_36 rfl mv_Mo_gives lk_Mo_115 rfl rfl rfl rfl rfl ?_
            refine c_Mo_gives ?_
            refine kI ?_
            refine wp_ireturn d_Mo_leg_39 rfl ?_
            have e : leF t (nI l) 1 = (0, t.fr l) := (if_pos h5).trans ((congrArg (fun k => leG t k 1) (nI_clamp (by have := V.ok.hL; omega))).trans rfl)
            have h9_ := hq (m_partBy, m_eastBy, m_northBy)
            rw [e] at h9_
            exact h9_
          · refine wp_aload_n 30 d_Mo_leg_29 rfl rfl ?_
            refine wp_aload_n 31 d_Mo_leg_30 rfl rfl ?_
            refine wp_iload_n 32 d_Mo_leg_31 rfl rfl ?_
            refine wp_iload_n 33 d_Mo_leg_32 rfl rfl ?_
            refine wp_V2 36 M_Mo_legOf 2 d_Mo_leg_33 rfl mv_Mo_legOf lk_Mo_287 rfl rfl rfl rfl rfl ?_
            refine c_leg2 V hl ?_
            refine kI ?_
            refine wp_V1 39 M_Mo_gives 1 d_Mo_leg_36 rfl mv_Mo_gives lk_Mo_115 rfl rfl rfl rfl rfl ?_
            refine c_Mo_gives ?_
            refine kI ?_
            refine wp_ireturn d_Mo_leg_39 rfl ?_
            have e : leF t (nI l) 2 = (0, t.to_ l) := (if_pos h5).trans ((congrArg (fun k => leG t k 2) (nI_clamp (by have := V.ok.hL; omega))).trans rfl)
            have h9_ := hq (m_partBy, m_eastBy, m_northBy)
            rw [e] at h9_
            exact h9_
          · refine wp_aload_n 30 d_Mo_leg_29 rfl rfl ?_
            refine wp_aload_n 31 d_Mo_leg_30 rfl rfl ?_
            refine wp_iload_n 32 d_Mo_leg_31 rfl rfl ?_
            refine wp_iload_n 33 d_Mo_leg_32 rfl rfl ?_
            refine wp_V2 36 M_Mo_legOf 2 d_Mo_leg_33 rfl mv_Mo_legOf lk_Mo_287 rfl rfl rfl rfl rfl ?_
            refine c_leg3 V hl ?_
            refine kI ?_
            refine wp_V1 39 M_Mo_gives 1 d_Mo_leg_36 rfl mv_Mo_gives lk_Mo_115 rfl rfl rfl rfl rfl ?_
            refine c_Mo_gives ?_
            refine kI ?_
            refine wp_ireturn d_Mo_leg_39 rfl ?_
            have e : leF t (nI l) 3 = (0, t.ea l) := (if_pos h5).trans ((congrArg (fun k => leG t k 3) (nI_clamp (by have := V.ok.hL; omega))).trans rfl)
            have h9_ := hq (m_partBy, m_eastBy, m_northBy)
            rw [e] at h9_
            exact h9_
          · refine wp_aload_n 30 d_Mo_leg_29 rfl rfl ?_
            refine wp_aload_n 31 d_Mo_leg_30 rfl rfl ?_
            refine wp_iload_n 32 d_Mo_leg_31 rfl rfl ?_
            refine wp_iload_n 33 d_Mo_leg_32 rfl rfl ?_
            refine wp_V2 36 M_Mo_legOf 2 d_Mo_leg_33 rfl mv_Mo_legOf lk_Mo_287 rfl rfl rfl rfl rfl ?_
            refine c_leg4 V hl ?_
            refine kI ?_
            refine wp_V1 39 M_Mo_gives 1 d_Mo_leg_36 rfl mv_Mo_gives lk_Mo_115 rfl rfl rfl rfl rfl ?_
            refine c_Mo_gives ?_
            refine kI ?_
            refine wp_ireturn d_Mo_leg_39 rfl ?_
            have e : leF t (nI l) 4 = (0, t.no l) := (if_pos h5).trans ((congrArg (fun k => leG t k 4) (nI_clamp (by have := V.ok.hL; omega))).trans rfl)
            have h9_ := hq (m_partBy, m_eastBy, m_northBy)
            rw [e] at h9_
            exact h9_
      · refine wp_aload_n 19 d_Mo_leg_18 rfl rfl ?_
        refine wp_iconst 20 1 d_Mo_leg_19 rfl (by decide) ?_
        refine wp_V1 23 M_Mo_refuse 1 d_Mo_leg_20 rfl mv_Mo_refuse lk_Mo_111 rfl rfl rfl rfl rfl ?_
        refine c_Mo_refuse ?_
        refine kI ?_
        refine wp_ireturn d_Mo_leg_23 rfl ?_
        obtain ⟨l, hl, rfl⟩ := inR_ex h5 (by have := V.ok.hL; omega)
        have e : leF t (nI l) w = _ := (((if_pos h5).trans (congrArg (fun k => leG t k w) (nI_clamp (by have := V.ok.hL; omega)))).trans ((show leG t l w = (1, -1) from by unfold leG; rw [if_neg (fun z => by rw [z] at h15; exact absurd h15 (by decide)), if_neg (fun z => by rw [z] at h15; exact absurd h15 (by decide)), if_neg (fun z => by rw [z] at h15; exact absurd h15 (by decide)), if_neg (fun z => by rw [z] at h15; exact absurd h15 (by decide)), if_neg (fun z => by rw [z] at h15; exact absurd h15 (by decide)), if_neg (fun z => by rw [z] at h15; exact absurd h15 (by decide)), if_neg (fun z => by rw [z] at h15; exact absurd h15 (by decide)), if_neg (fun z => by rw [z] at h15; exact absurd h15 (by decide))])))
        have h9 := hq (m_partBy, m_eastBy, m_northBy)
        rw [e] at h9
        exact h9

set_option maxRecDepth 100000 in
set_option maxHeartbeats 4000000 in
theorem c_Mo_place {a w : Int32} (V : vT m_at t) (hq : ∀ s : MS, Q (some (.int (plF t a w).2)) (hM m_at m_names ((plF t a w).1) m_top m_bottom m_sort m_trayMany m_trays m_tape m_text m_taped m_size m_token m_from m_end m_value m_faultKind m_faultPlace m_faults m_seen m_areOdds m_opened m_depth m_counted (s.2.1) (s.2.2) (s.1) m_wayFaults m_wayEast m_wayNorth m_olds m_wayMany m_oneOfSet m_twoOfSet m_farBy m_rowBy m_triedBy m_rowMany m_doneAt m_gotAt m_struckAt m_bestDeed m_misBy m_drawn m_ranSteps m_loops m_ran m_told1 m_isTold m_marks)) : Call Γ M_Mo_place 7 0 0 [.ref 0, .int a, .int w] (hM m_at m_names m_status m_top m_bottom m_sort m_trayMany m_trays m_tape m_text m_taped m_size m_token m_from m_end m_value m_faultKind m_faultPlace m_faults m_seen m_areOdds m_opened m_depth m_counted m_eastBy m_northBy m_partBy m_wayFaults m_wayEast m_wayNorth m_olds m_wayMany m_oneOfSet m_twoOfSet m_farBy m_rowBy m_triedBy m_rowMany m_doneAt m_gotAt m_struckAt m_bestDeed m_misBy m_drawn m_ranSteps m_loops m_ran m_told1 m_isTold m_marks) Q := by
  refine call_intro (ls := [some (.ref 0), some (.int a), some (.int w)]) rfl rfl rfl ?_
  refine wp_aload_n 1 d_Mo_place_0 rfl rfl ?_
  refine wp_iload_n 2 d_Mo_place_1 rfl rfl ?_
  refine wp_V1 5 M_Mo_isPlace 1 d_Mo_place_2 rfl mv_Mo_isPlace lk_Mo_278 rfl rfl rfl rfl rfl ?_
  refine c_Mo_isPlace V ?_
  refine kI ?_
  (first | refine wp_ifP_eq 17 8 d_Mo_place_5 rfl (by decide) (fun h5 => ?_) (fun h5 => ?_) | refine wp_if_eq 17 8 d_Mo_place_5 rfl (by decide) (fun h5 => ?_) (fun h5 => ?_))
  · refine wp_aload_n 18 d_Mo_place_17 rfl rfl ?_
    refine wp_iconst 19 1 d_Mo_place_18 rfl (by decide) ?_
    refine wp_V1 22 M_Mo_refuse 1 d_Mo_place_19 rfl mv_Mo_refuse lk_Mo_111 rfl rfl rfl rfl rfl ?_
    refine c_Mo_refuse ?_
    refine kI ?_
    refine wp_ireturn d_Mo_place_22 rfl ?_
    have e : plF t a w = _ := (if_neg (fun z => h5 z.1))
    have h9 := hq (m_partBy, m_eastBy, m_northBy)
    rw [e] at h9
    exact h9
  · refine wp_iload_n 9 d_Mo_place_8 rfl rfl ?_
    refine wp_if_lt 17 12 d_Mo_place_9 rfl (by decide) (fun h9 => ?_) (fun h9 => ?_)
    · refine wp_aload_n 18 d_Mo_place_17 rfl rfl ?_
      refine wp_iconst 19 1 d_Mo_place_18 rfl (by decide) ?_
      refine wp_V1 22 M_Mo_refuse 1 d_Mo_place_19 rfl mv_Mo_refuse lk_Mo_111 rfl rfl rfl rfl rfl ?_
      refine c_Mo_refuse ?_
      refine kI ?_
      refine wp_ireturn d_Mo_place_22 rfl ?_
      have e : plF t a w = _ := (if_neg (fun z => absurd h9 (Int32.not_lt.mpr z.2.1)))
      have h9 := hq (m_partBy, m_eastBy, m_northBy)
      rw [e] at h9
      exact h9
    · refine wp_iload_n 13 d_Mo_place_12 rfl rfl ?_
      refine wp_iconst 14 1 d_Mo_place_13 rfl (by decide) ?_
      refine wp_icmp_le 23 17 d_Mo_place_14 rfl (by decide) (fun h14 => ?_) (fun h14 => ?_)
      · have ha7 : a.toNatClampNeg < 7 := Nat.lt_of_lt_of_le (inR_lt h5 (by have := V.ok.hP; omega)) V.ok.hP
        refine wp_aload_n 24 d_Mo_place_23 rfl rfl ?_
        refine wp_iconst 25 0 d_Mo_place_24 rfl (by decide) ?_
        refine wp_V1 28 M_Mo_laysOut 6 d_Mo_place_25 rfl mv_Mo_laysOut lk_Mo_315 rfl rfl rfl rfl rfl ?_
        refine c_lo0 V ?_
        refine kV ?_
        have hch := lm_0 V.ok V.in_ (m_partBy, m_eastBy, m_northBy)
        generalize lmF t False (m_partBy, m_eastBy, m_northBy) = s9 at hch ⊢
        refine wp_aload_n 29 d_Mo_place_28 rfl rfl ?_
        refine wp_iload_n 30 d_Mo_place_29 rfl rfl ?_
        refine wp_V1 33 M_Mo_isLying 1 d_Mo_place_30 rfl mv_Mo_isLying lk_Mo_303 rfl rfl rfl rfl rfl ?_
        refine c_Mo_isLying (inR_in h5 V.ok.hP (by omega)) ?_
        refine kI ?_
        (first | refine wp_ifP_ne 43 36 d_Mo_place_33 rfl (by decide) (fun h33 => ?_) (fun h33 => ?_) | refine wp_if_ne 43 36 d_Mo_place_33 rfl (by decide) (fun h33 => ?_) (fun h33 => ?_))
        · refine wp_aload_n 44 d_Mo_place_43 rfl rfl ?_
          refine wp_iload_n 45 d_Mo_place_44 rfl rfl ?_
          refine wp_if_ne 57 48 d_Mo_place_45 rfl (by decide) (fun h45 => ?_) (fun h45 => ?_)
          · refine wp_aload_n 58 d_Mo_place_57 rfl rfl ?_
            refine wp_getfield 61 12 25 d_Mo_place_58 rfl fl_Mo_50 rfl rfl ?_
            refine wp_iload_n 62 d_Mo_place_61 rfl rfl ?_
            refine wp_iaload 63 d_Mo_place_62 rfl rfl (inR_in h5 V.ok.hP (by omega)) ?_
            refine wp_V1 66 M_Mo_gives 1 d_Mo_place_63 rfl mv_Mo_gives lk_Mo_115 rfl rfl rfl rfl rfl ?_
            refine c_Mo_gives ?_
            refine kI ?_
            refine wp_ireturn d_Mo_place_66 rfl ?_
            have hw2 : inR w 2 := ⟨Int32.not_lt.mp h9, w2 h14⟩
            have hlp := (lp_O hch ha7).mp h33
            obtain ⟨hx, hy⟩ := (hch.2.1 _ ha7 hlp).2
            rw [hy]
            have e : plF t a w = _ := (((if_pos ⟨h5, hw2⟩).trans (if_pos hlp)).trans (congrArg (Prod.mk 0) (if_neg h45)))
            have h9 := hq s9
            rw [e] at h9
            exact h9
          · refine wp_aload_n 49 d_Mo_place_48 rfl rfl ?_
            refine wp_getfield 52 12 24 d_Mo_place_49 rfl fl_Mo_47 rfl rfl ?_
            refine wp_iload_n 53 d_Mo_place_52 rfl rfl ?_
            refine wp_iaload 54 d_Mo_place_53 rfl rfl (inR_in h5 V.ok.hP (by omega)) ?_
            refine wp_goto 63 d_Mo_place_54 (by decide) ?_
            refine wp_V1 66 M_Mo_gives 1 d_Mo_place_63 rfl mv_Mo_gives lk_Mo_115 rfl rfl rfl rfl rfl ?_
            refine c_Mo_gives ?_
            refine kI ?_
            refine wp_ireturn d_Mo_place_66 rfl ?_
            have hw2 : inR w 2 := ⟨Int32.not_lt.mp h9, w2 h14⟩
            have hlp := (lp_O hch ha7).mp h33
            obtain ⟨hx, hy⟩ := (hch.2.1 _ ha7 hlp).2
            rw [hx]
            have e : plF t a w = _ := (((if_pos ⟨h5, hw2⟩).trans (if_pos hlp)).trans (congrArg (Prod.mk 0) (if_pos h45)))
            have h9 := hq s9
            rw [e] at h9
            exact h9
        · refine wp_aload_n 37 d_Mo_place_36 rfl rfl ?_
          refine wp_bipush 39 6 d_Mo_place_37 rfl (by decide) ?_
          refine wp_V1 42 M_Mo_refuse 1 d_Mo_place_39 rfl mv_Mo_refuse lk_Mo_111 rfl rfl rfl rfl rfl ?_
          refine c_Mo_refuse ?_
          refine kI ?_
          refine wp_ireturn d_Mo_place_42 rfl ?_
          have hw2 : inR w 2 := ⟨Int32.not_lt.mp h9, w2 h14⟩
          have e : plF t a w = _ := ((if_pos ⟨h5, hw2⟩).trans (if_neg (fun z => h33 ((lp_O hch ha7).mpr z))))
          have h9 := hq s9
          rw [e] at h9
          exact h9
      · refine wp_aload_n 18 d_Mo_place_17 rfl rfl ?_
        refine wp_iconst 19 1 d_Mo_place_18 rfl (by decide) ?_
        refine wp_V1 22 M_Mo_refuse 1 d_Mo_place_19 rfl mv_Mo_refuse lk_Mo_111 rfl rfl rfl rfl rfl ?_
        refine c_Mo_refuse ?_
        refine kI ?_
        refine wp_ireturn d_Mo_place_22 rfl ?_
        have e : plF t a w = _ := (if_neg (fun z => absurd z.2.2 (fun y => h14 (w1 y))))
        have h9 := hq (m_partBy, m_eastBy, m_northBy)
        rw [e] at h9
        exact h9

set_option maxRecDepth 100000 in
set_option maxHeartbeats 4000000 in
theorem c_Mo_apart {a b : Int32} (V : vT m_at t) (hq : ∀ s : MS, Q (some (.int (apF t a b).2)) (hM m_at m_names ((apF t a b).1) m_top m_bottom m_sort m_trayMany m_trays m_tape m_text m_taped m_size m_token m_from m_end m_value m_faultKind m_faultPlace m_faults m_seen m_areOdds m_opened m_depth m_counted (s.2.1) (s.2.2) (s.1) m_wayFaults m_wayEast m_wayNorth m_olds m_wayMany m_oneOfSet m_twoOfSet m_farBy m_rowBy m_triedBy m_rowMany m_doneAt m_gotAt m_struckAt m_bestDeed m_misBy m_drawn m_ranSteps m_loops m_ran m_told1 m_isTold m_marks)) : Call Γ M_Mo_apart 7 0 0 [.ref 0, .int a, .int b] (hM m_at m_names m_status m_top m_bottom m_sort m_trayMany m_trays m_tape m_text m_taped m_size m_token m_from m_end m_value m_faultKind m_faultPlace m_faults m_seen m_areOdds m_opened m_depth m_counted m_eastBy m_northBy m_partBy m_wayFaults m_wayEast m_wayNorth m_olds m_wayMany m_oneOfSet m_twoOfSet m_farBy m_rowBy m_triedBy m_rowMany m_doneAt m_gotAt m_struckAt m_bestDeed m_misBy m_drawn m_ranSteps m_loops m_ran m_told1 m_isTold m_marks) Q := by
  refine call_intro (ls := [some (.ref 0), some (.int a), some (.int b)]) rfl rfl rfl ?_
  refine wp_aload_n 1 d_Mo_apart_0 rfl rfl ?_
  refine wp_iload_n 2 d_Mo_apart_1 rfl rfl ?_
  refine wp_V1 5 M_Mo_isPlace 1 d_Mo_apart_2 rfl mv_Mo_isPlace lk_Mo_278 rfl rfl rfl rfl rfl ?_
  refine c_Mo_isPlace V ?_
  refine kI ?_
  (first | refine wp_ifP_eq 16 8 d_Mo_apart_5 rfl (by decide) (fun h5 => ?_) (fun h5 => ?_) | refine wp_if_eq 16 8 d_Mo_apart_5 rfl (by decide) (fun h5 => ?_) (fun h5 => ?_))
  · refine wp_aload_n 17 d_Mo_apart_16 rfl rfl ?_
    refine wp_iconst 18 1 d_Mo_apart_17 rfl (by decide) ?_
    refine wp_V1 21 M_Mo_refuse 1 d_Mo_apart_18 rfl mv_Mo_refuse lk_Mo_111 rfl rfl rfl rfl rfl ?_
    refine c_Mo_refuse ?_
    refine kI ?_
    refine wp_ireturn d_Mo_apart_21 rfl ?_
    have e : apF t a b = _ := (if_neg (fun z => h5 z.1))
    have h9 := hq (m_partBy, m_eastBy, m_northBy)
    rw [e] at h9
    exact h9
  · refine wp_aload_n 9 d_Mo_apart_8 rfl rfl ?_
    refine wp_iload_n 10 d_Mo_apart_9 rfl rfl ?_
    refine wp_V1 13 M_Mo_isPlace 1 d_Mo_apart_10 rfl mv_Mo_isPlace lk_Mo_278 rfl rfl rfl rfl rfl ?_
    refine c_Mo_isPlace V ?_
    refine kI ?_
    (first | refine wp_ifP_ne 22 16 d_Mo_apart_13 rfl (by decide) (fun h13 => ?_) (fun h13 => ?_) | refine wp_if_ne 22 16 d_Mo_apart_13 rfl (by decide) (fun h13 => ?_) (fun h13 => ?_))
    · have ha7 : a.toNatClampNeg < 7 := Nat.lt_of_lt_of_le (inR_lt h5 (by have := V.ok.hP; omega)) V.ok.hP
      have hb7 : b.toNatClampNeg < 7 := Nat.lt_of_lt_of_le (inR_lt h13 (by have := V.ok.hP; omega)) V.ok.hP
      refine wp_aload_n 23 d_Mo_apart_22 rfl rfl ?_
      refine wp_iconst 24 0 d_Mo_apart_23 rfl (by decide) ?_
      refine wp_V1 27 M_Mo_laysOut 6 d_Mo_apart_24 rfl mv_Mo_laysOut lk_Mo_315 rfl rfl rfl rfl rfl ?_
      refine c_lo0 V ?_
      refine kV ?_
      have hch := lm_0 V.ok V.in_ (m_partBy, m_eastBy, m_northBy)
      generalize lmF t False (m_partBy, m_eastBy, m_northBy) = s9 at hch ⊢
      refine wp_aload_n 28 d_Mo_apart_27 rfl rfl ?_
      refine wp_iload_n 29 d_Mo_apart_28 rfl rfl ?_
      refine wp_V1 32 M_Mo_isLying 1 d_Mo_apart_29 rfl mv_Mo_isLying lk_Mo_303 rfl rfl rfl rfl rfl ?_
      refine c_Mo_isLying (inR_in h5 V.ok.hP (by omega)) ?_
      refine kI ?_
      (first | refine wp_ifP_eq 43 35 d_Mo_apart_32 rfl (by decide) (fun h32 => ?_) (fun h32 => ?_) | refine wp_if_eq 43 35 d_Mo_apart_32 rfl (by decide) (fun h32 => ?_) (fun h32 => ?_))
      · refine wp_aload_n 44 d_Mo_apart_43 rfl rfl ?_
        refine wp_bipush 46 6 d_Mo_apart_44 rfl (by decide) ?_
        refine wp_V1 49 M_Mo_refuse 1 d_Mo_apart_46 rfl mv_Mo_refuse lk_Mo_111 rfl rfl rfl rfl rfl ?_
        refine c_Mo_refuse ?_
        refine kI ?_
        refine wp_ireturn d_Mo_apart_49 rfl ?_
        have e : apF t a b = _ := ((if_pos ⟨h5, h13⟩).trans (if_neg (fun z => h32 ((lp_O hch ha7).mpr z.1))))
        have h9 := hq s9
        rw [e] at h9
        exact h9
      · refine wp_aload_n 36 d_Mo_apart_35 rfl rfl ?_
        refine wp_iload_n 37 d_Mo_apart_36 rfl rfl ?_
        refine wp_V1 40 M_Mo_isLying 1 d_Mo_apart_37 rfl mv_Mo_isLying lk_Mo_303 rfl rfl rfl rfl rfl ?_
        refine c_Mo_isLying (inR_in h13 V.ok.hP (by omega)) ?_
        refine kI ?_
        (first | refine wp_ifP_ne 50 43 d_Mo_apart_40 rfl (by decide) (fun h40 => ?_) (fun h40 => ?_) | refine wp_if_ne 50 43 d_Mo_apart_40 rfl (by decide) (fun h40 => ?_) (fun h40 => ?_))
        · refine wp_aload_n 51 d_Mo_apart_50 rfl rfl ?_
          refine wp_aload_n 52 d_Mo_apart_51 rfl rfl ?_
          refine wp_getfield 55 12 24 d_Mo_apart_52 rfl fl_Mo_47 rfl rfl ?_
          refine wp_iload_n 56 d_Mo_apart_55 rfl rfl ?_
          refine wp_iaload 57 d_Mo_apart_56 rfl rfl (by first | exact inR_in h5 V.ok.hP (by omega) | exact inR_in h13 V.ok.hP (by omega)) ?_
          refine wp_aload_n 58 d_Mo_apart_57 rfl rfl ?_
          refine wp_getfield 61 12 24 d_Mo_apart_58 rfl fl_Mo_47 rfl rfl ?_
          refine wp_iload_n 62 d_Mo_apart_61 rfl rfl ?_
          refine wp_iaload 63 d_Mo_apart_62 rfl rfl (by first | exact inR_in h5 V.ok.hP (by omega) | exact inR_in h13 V.ok.hP (by omega)) ?_
          refine wp_isub 64 d_Mo_apart_63 rfl ?_
          refine wp_S1 67 M_Mo_plainly 2 d_Mo_apart_64 rfl ms_Mo_plainly lk_Mo_297 rfl rfl ?_
          refine c_Mo_plainly ?_
          refine kI ?_
          refine wp_aload_n 68 d_Mo_apart_67 rfl rfl ?_
          refine wp_getfield 71 12 25 d_Mo_apart_68 rfl fl_Mo_50 rfl rfl ?_
          refine wp_iload_n 72 d_Mo_apart_71 rfl rfl ?_
          refine wp_iaload 73 d_Mo_apart_72 rfl rfl (by first | exact inR_in h5 V.ok.hP (by omega) | exact inR_in h13 V.ok.hP (by omega)) ?_
          refine wp_aload_n 74 d_Mo_apart_73 rfl rfl ?_
          refine wp_getfield 77 12 25 d_Mo_apart_74 rfl fl_Mo_50 rfl rfl ?_
          refine wp_iload_n 78 d_Mo_apart_77 rfl rfl ?_
          refine wp_iaload 79 d_Mo_apart_78 rfl rfl (by first | exact inR_in h5 V.ok.hP (by omega) | exact inR_in h13 V.ok.hP (by omega)) ?_
          refine wp_isub 80 d_Mo_apart_79 rfl ?_
          refine wp_S1 83 M_Mo_plainly 2 d_Mo_apart_80 rfl ms_Mo_plainly lk_Mo_297 rfl rfl ?_
          refine c_Mo_plainly ?_
          refine kI ?_
          refine wp_iadd 84 d_Mo_apart_83 rfl ?_
          refine wp_V1 87 M_Mo_gives 1 d_Mo_apart_84 rfl mv_Mo_gives lk_Mo_115 rfl rfl rfl rfl rfl ?_
          refine c_Mo_gives ?_
          refine kI ?_
          refine wp_ireturn d_Mo_apart_87 rfl ?_
          have hla := (lp_O hch ha7).mp h32
          have hlb := (lp_O hch hb7).mp h40
          obtain ⟨hx, hy⟩ := (hch.2.1 _ ha7 hla).2
          obtain ⟨kx, ky⟩ := (hch.2.1 _ hb7 hlb).2
          rw [hx, hy, kx, ky]
          have e : apF t a b = _ := ((if_pos ⟨h5, h13⟩).trans (if_pos ⟨hla, hlb⟩))
          have h9 := hq s9
          rw [e] at h9
          exact h9
        · refine wp_aload_n 44 d_Mo_apart_43 rfl rfl ?_
          refine wp_bipush 46 6 d_Mo_apart_44 rfl (by decide) ?_
          refine wp_V1 49 M_Mo_refuse 1 d_Mo_apart_46 rfl mv_Mo_refuse lk_Mo_111 rfl rfl rfl rfl rfl ?_
          refine c_Mo_refuse ?_
          refine kI ?_
          refine wp_ireturn d_Mo_apart_49 rfl ?_
          have e : apF t a b = _ := ((if_pos ⟨h5, h13⟩).trans (if_neg (fun z => h40 ((lp_O hch hb7).mpr z.2))))
          have h9 := hq s9
          rw [e] at h9
          exact h9
    · refine wp_aload_n 17 d_Mo_apart_16 rfl rfl ?_
      refine wp_iconst 18 1 d_Mo_apart_17 rfl (by decide) ?_
      refine wp_V1 21 M_Mo_refuse 1 d_Mo_apart_18 rfl mv_Mo_refuse lk_Mo_111 rfl rfl rfl rfl rfl ?_
      refine c_Mo_refuse ?_
      refine kI ?_
      refine wp_ireturn d_Mo_apart_21 rfl ?_
      have e : apF t a b = _ := (if_neg (fun z => h13 z.2))
      have h9 := hq (m_partBy, m_eastBy, m_northBy)
      rw [e] at h9
      exact h9

set_option maxRecDepth 100000 in
set_option maxHeartbeats 4000000 in
theorem c_Mo_joined {a b : Int32} (V : vT m_at t) (hq : ∀ s : MS, Q (some (.int (joF t a b).2)) (hM m_at m_names ((joF t a b).1) m_top m_bottom m_sort m_trayMany m_trays m_tape m_text m_taped m_size m_token m_from m_end m_value m_faultKind m_faultPlace m_faults m_seen m_areOdds m_opened m_depth m_counted (s.2.1) (s.2.2) (s.1) m_wayFaults m_wayEast m_wayNorth m_olds m_wayMany m_oneOfSet m_twoOfSet m_farBy m_rowBy m_triedBy m_rowMany m_doneAt m_gotAt m_struckAt m_bestDeed m_misBy m_drawn m_ranSteps m_loops m_ran m_told1 m_isTold m_marks)) : Call Γ M_Mo_joined 7 0 0 [.ref 0, .int a, .int b] (hM m_at m_names m_status m_top m_bottom m_sort m_trayMany m_trays m_tape m_text m_taped m_size m_token m_from m_end m_value m_faultKind m_faultPlace m_faults m_seen m_areOdds m_opened m_depth m_counted m_eastBy m_northBy m_partBy m_wayFaults m_wayEast m_wayNorth m_olds m_wayMany m_oneOfSet m_twoOfSet m_farBy m_rowBy m_triedBy m_rowMany m_doneAt m_gotAt m_struckAt m_bestDeed m_misBy m_drawn m_ranSteps m_loops m_ran m_told1 m_isTold m_marks) Q := by
  refine call_intro (ls := [some (.ref 0), some (.int a), some (.int b)]) rfl rfl rfl ?_
  refine wp_aload_n 1 d_Mo_joined_0 rfl rfl ?_
  refine wp_iload_n 2 d_Mo_joined_1 rfl rfl ?_
  refine wp_V1 5 M_Mo_isPlace 1 d_Mo_joined_2 rfl mv_Mo_isPlace lk_Mo_278 rfl rfl rfl rfl rfl ?_
  refine c_Mo_isPlace V ?_
  refine kI ?_
  (first | refine wp_ifP_eq 16 8 d_Mo_joined_5 rfl (by decide) (fun h5 => ?_) (fun h5 => ?_) | refine wp_if_eq 16 8 d_Mo_joined_5 rfl (by decide) (fun h5 => ?_) (fun h5 => ?_))
  · refine wp_aload_n 17 d_Mo_joined_16 rfl rfl ?_
    refine wp_iconst 18 1 d_Mo_joined_17 rfl (by decide) ?_
    refine wp_V1 21 M_Mo_refuse 1 d_Mo_joined_18 rfl mv_Mo_refuse lk_Mo_111 rfl rfl rfl rfl rfl ?_
    refine c_Mo_refuse ?_
    refine kI ?_
    refine wp_ireturn d_Mo_joined_21 rfl ?_
    have e : joF t a b = _ := (if_neg (fun z => h5 z.1))
    have h9 := hq (m_partBy, m_eastBy, m_northBy)
    rw [e] at h9
    exact h9
  · refine wp_aload_n 9 d_Mo_joined_8 rfl rfl ?_
    refine wp_iload_n 10 d_Mo_joined_9 rfl rfl ?_
    refine wp_V1 13 M_Mo_isPlace 1 d_Mo_joined_10 rfl mv_Mo_isPlace lk_Mo_278 rfl rfl rfl rfl rfl ?_
    refine c_Mo_isPlace V ?_
    refine kI ?_
    (first | refine wp_ifP_ne 22 16 d_Mo_joined_13 rfl (by decide) (fun h13 => ?_) (fun h13 => ?_) | refine wp_if_ne 22 16 d_Mo_joined_13 rfl (by decide) (fun h13 => ?_) (fun h13 => ?_))
    · have ha7 : a.toNatClampNeg < 7 := Nat.lt_of_lt_of_le (inR_lt h5 (by have := V.ok.hP; omega)) V.ok.hP
      have hb7 : b.toNatClampNeg < 7 := Nat.lt_of_lt_of_le (inR_lt h13 (by have := V.ok.hP; omega)) V.ok.hP
      refine wp_aload_n 23 d_Mo_joined_22 rfl rfl ?_
      refine wp_iconst 24 1 d_Mo_joined_23 rfl (by decide) ?_
      refine wp_V1 27 M_Mo_laysOut 6 d_Mo_joined_24 rfl mv_Mo_laysOut lk_Mo_315 rfl rfl rfl rfl rfl ?_
      refine c_lo1 V ?_
      refine kV ?_
      have hch := lm_all V.ok V.in_ (m_partBy, m_eastBy, m_northBy)
      generalize lmF t True (m_partBy, m_eastBy, m_northBy) = s9 at hch ⊢
      refine wp_aload_n 28 d_Mo_joined_27 rfl rfl ?_
      refine wp_aload_n 29 d_Mo_joined_28 rfl rfl ?_
      refine wp_getfield 32 12 26 d_Mo_joined_29 rfl fl_Mo_53 rfl rfl ?_
      refine wp_iload_n 33 d_Mo_joined_32 rfl rfl ?_
      refine wp_iaload 34 d_Mo_joined_33 rfl rfl (by first | exact inR_in h5 V.ok.hP (by omega) | exact inR_in h13 V.ok.hP (by omega)) ?_
      refine wp_aload_n 35 d_Mo_joined_34 rfl rfl ?_
      refine wp_getfield 38 12 26 d_Mo_joined_35 rfl fl_Mo_53 rfl rfl ?_
      refine wp_iload_n 39 d_Mo_joined_38 rfl rfl ?_
      refine wp_iaload 40 d_Mo_joined_39 rfl rfl (by first | exact inR_in h5 V.ok.hP (by omega) | exact inR_in h13 V.ok.hP (by omega)) ?_
      refine wp_icmp_ne 47 43 d_Mo_joined_40 rfl (by decide) (fun h40 => ?_) (fun h40 => ?_)
      · refine wp_iconst 48 0 d_Mo_joined_47 rfl (by decide) ?_
        refine wp_V1 51 M_Mo_gives 1 d_Mo_joined_48 rfl mv_Mo_gives lk_Mo_115 rfl rfl rfl rfl rfl ?_
        refine c_Mo_gives ?_
        refine kI ?_
        refine wp_ireturn d_Mo_joined_51 rfl ?_
        rw [hch.1 _ ha7, hch.1 _ hb7] at h40
        have e : joF t a b = _ := ((if_pos ⟨h5, h13⟩).trans (congrArg (Prod.mk 0) (bP_f h40)))
        have h9 := hq s9
        rw [e] at h9
        exact h9
      · refine wp_iconst 44 1 d_Mo_joined_43 rfl (by decide) ?_
        refine wp_goto 48 d_Mo_joined_44 (by decide) ?_
        refine wp_V1 51 M_Mo_gives 1 d_Mo_joined_48 rfl mv_Mo_gives lk_Mo_115 rfl rfl rfl rfl rfl ?_
        refine c_Mo_gives ?_
        refine kI ?_
        refine wp_ireturn d_Mo_joined_51 rfl ?_
        rw [hch.1 _ ha7, hch.1 _ hb7] at h40
        have e : joF t a b = _ := ((if_pos ⟨h5, h13⟩).trans (congrArg (Prod.mk 0) (bP_t h40)))
        have h9 := hq s9
        rw [e] at h9
        exact h9
    · refine wp_aload_n 17 d_Mo_joined_16 rfl rfl ?_
      refine wp_iconst 18 1 d_Mo_joined_17 rfl (by decide) ?_
      refine wp_V1 21 M_Mo_refuse 1 d_Mo_joined_18 rfl mv_Mo_refuse lk_Mo_111 rfl rfl rfl rfl rfl ?_
      refine c_Mo_refuse ?_
      refine kI ?_
      refine wp_ireturn d_Mo_joined_21 rfl ?_
      have e : joF t a b = _ := (if_neg (fun z => h13 z.2))
      have h9 := hq (m_partBy, m_eastBy, m_northBy)
      rw [e] at h9
      exact h9

end T79
