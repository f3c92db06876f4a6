/-! ===== the reference: what is done, 2 ===== -/
theorem paE {x : Int32} (h : isPa x) : ∃ i, i < 199 ∧ x = nI i - 99 := by
  have c : ((-99 : Int32)).toInt = -99 := rfl
  have d : ((99 : Int32)).toInt = 99 := rfl
  unfold isPa at h
  rw [Int32.lt_iff_toInt_lt, Int32.lt_iff_toInt_lt, c, d] at h
  refine ⟨(x.toInt + 99).toNat, by omega, ?_⟩
  apply Int32.toInt_inj.mp
  rw [Int32.toInt_sub, nI_toInt (by omega), d]
  have e : (((x.toInt + 99).toNat : Int) - 99) = x.toInt := by omega
  rw [e]
  exact (Int.bmod_eq_of_le (by omega) (by omega)).symm
theorem aB_fin : ∀ i, i < 199 → aB (-(nI i - 99)) = aB (nI i - 99) ∧ ∀ s, s < 3 → aB (nI (s + 1) * (nI i - 99)) = nI (s + 1) * aB (nI i - 99) ∧ aB (nI (s + 1) * -(nI i - 99)) = nI (s + 1) * aB (nI i - 99) := by decide +kernel
theorem sB_fin {f : Int32} (h : inR f 24) : ∃ s, s < 3 ∧ sB f = nI (s + 1) := by
  have : ∀ i, i < 24 → (i / 8 < 3 ∧ sB (nI i) = nI (i / 8 + 1)) := by decide +kernel
  obtain ⟨i, hi, rfl⟩ := inR_ex (n := 24) h (by omega)
  exact ⟨i / 8, this i hi⟩
theorem yy_gen {e n f : Int32} (he : isPa e) (hn : isPa n) (hf : inR f 24) : aB (rE e n f) + aB (rN e n f) = sB f * (aB e + aB n) := by
  obtain ⟨s, hs3, es⟩ := sB_fin hf
  obtain ⟨i, hi, rfl⟩ := paE he
  obtain ⟨j, hj, rfl⟩ := paE hn
  obtain ⟨a1, a2⟩ := aB_fin i hi
  obtain ⟨b1, b2⟩ := aB_fin j hj
  obtain ⟨a3, a4⟩ := a2 s hs3
  obtain ⟨b3, b4⟩ := b2 s hs3
  unfold rE rN
  rw [es, Int32.mul_add]
  by_cases hl : lB f = 1
  · rw [if_pos hl, Int32.neg_neg]
    by_cases h0 : tB f = 0
    · rw [if_pos h0, if_pos h0, a4, b3]
    · by_cases h1 : tB f = 1
      · rw [if_neg h0, if_neg h0, if_pos h1, if_pos h1, b3, a3, Int32.add_comm]
      · by_cases h2 : tB f = 2
        · rw [if_neg h0, if_neg h0, if_neg h1, if_neg h1, if_pos h2, if_pos h2, a3, b4]
        · rw [if_neg h0, if_neg h0, if_neg h1, if_neg h1, if_neg h2, if_neg h2, b4, a4, Int32.add_comm]
  · rw [if_neg hl]
    by_cases h0 : tB f = 0
    · rw [if_pos h0, if_pos h0, a3, b3]
    · by_cases h1 : tB f = 1
      · rw [if_neg h0, if_neg h0, if_pos h1, if_pos h1, b3, a4, Int32.add_comm]
      · by_cases h2 : tB f = 2
        · rw [if_neg h0, if_neg h0, if_neg h1, if_neg h1, if_pos h2, if_pos h2, a4, b4]
        · rw [if_neg h0, if_neg h0, if_neg h1, if_neg h1, if_neg h2, if_neg h2, b4, a3, Int32.add_comm]
theorem yY_eq {t : TW} (I : tOK t) (J : tIn t) {l : Nat} (hl : l < t.nL) : yY t l = yA t.ea t.no t.fa t.te l := by
  obtain ⟨p1, p2⟩ := J.2.2.2.2 l hl
  exact yy_gen p1 p2 (J.2.1 _ (inR_lt (J.1 l hl).1 (by have := I.hW; omega)))
theorem cgC {t : TW} {k : Nat} (hk : k < 2 ^ 31) (hL : t.nL ≤ 12) : (nI k < nI t.nL ∧ ¬ hs t.sk (nI k)) ↔ (inR (nI k) (nI t.nL) ∧ ¬ hs t.sk (nI k)) := ⟨fun z => ⟨⟨show nI 0 ≤ nI k from (nI_leI (by omega) hk).mpr (by omega), z.1⟩, z.2⟩, fun z => ⟨z.1.2, z.2⟩⟩
theorem go_sum {a b c : Int32} (h : c = a ∨ c = b) : a + b - c = if c = a then b else a := by
  by_cases z : c = a
  · rw [if_pos z, z, Int32.sub_eq_add_neg, Int32.add_comm a b, Int32.add_assoc, ← Int32.sub_eq_add_neg, Int32.sub_self, Int32.add_zero]
  · rw [if_neg z, h.resolve_left z, Int32.sub_eq_add_neg, Int32.add_assoc, ← Int32.sub_eq_add_neg, Int32.sub_self, Int32.add_zero]
section T81
variable {Γ : Gm} {Q : Option Value → LH → Prop} {m_at m_sort m_trayMany m_tape m_text m_opened m_eastBy m_northBy m_partBy m_wayFaults m_wayEast m_wayNorth m_olds m_farBy m_rowBy m_triedBy m_doneAt m_gotAt m_struckAt m_bestDeed m_loops m_ran m_told1 : Nat → Int32} {m_names m_trays m_misBy : Nat → Int64} {m_status m_taped m_size m_token m_from m_end m_value m_faultKind m_faultPlace m_faults m_seen m_areOdds m_depth m_counted m_wayMany m_oneOfSet m_twoOfSet m_rowMany m_drawn m_ranSteps m_isTold m_marks : Int32} {m_top m_bottom : Int64} {t : TW}
theorem sk_lo {t : TW} (hs4 : vp_in t.sk 4096) {l : Int32} (h : inR l (nI t.nL)) (hL : t.nL ≤ 12) : vp_in (t.sk ||| bit l) 4096 ∧ vp_in (t.sk &&& (bit l ^^^ (-1))) 4096 := by
  refine ⟨?_, and_in hs4⟩
  obtain ⟨k, hk, rfl⟩ := inR_ex h (by omega)
  obtain ⟨i, hi, e⟩ := vp_in_of hs4 (by omega)
  rw [e]
  have h1 : ∀ a, a < 64 → ∀ b, b < 64 → ∀ k, k < 12 → (¬ (nI (64 * a + b) ||| bit (nI k)) < 0 ∧ (nI (64 * a + b) ||| bit (nI k)).toNatClampNeg < 4096) := by decide +kernel
  have h2 := h1 (i / 64) (by omega) (i % 64) (by omega) k (by omega)
  rw [show 64 * (i / 64) + i % 64 = i by omega] at h2
  intro z
  rcases z with z | z
  · exact h2.1 z
  · omega
set_option maxRecDepth 100000 in
set_option maxHeartbeats 4000000 in
theorem c_Mo_strike {l : Int32} (V : vT m_at t) (hs4 : vp_in t.sk 4096) (hq : ∀ a2, vT a2 (stF t l).2.2 → frA m_at a2 → Q (some (.int (stF t l).1)) (hM (a2) m_names ((stF t l).2.1) m_top m_bottom m_sort m_trayMany m_trays m_tape m_text m_taped m_size m_token m_from m_end m_value m_faultKind m_faultPlace m_faults m_seen m_areOdds m_opened m_depth m_counted m_eastBy m_northBy m_partBy m_wayFaults m_wayEast m_wayNorth m_olds m_wayMany m_oneOfSet m_twoOfSet m_farBy m_rowBy m_triedBy m_rowMany m_doneAt m_gotAt m_struckAt m_bestDeed m_misBy m_drawn m_ranSteps m_loops m_ran m_told1 m_isTold m_marks)) : Call Γ M_Mo_strike 4 0 0 [.ref 0, .int l] (hM m_at m_names m_status m_top m_bottom m_sort m_trayMany m_trays m_tape m_text m_taped m_size m_token m_from m_end m_value m_faultKind m_faultPlace m_faults m_seen m_areOdds m_opened m_depth m_counted m_eastBy m_northBy m_partBy m_wayFaults m_wayEast m_wayNorth m_olds m_wayMany m_oneOfSet m_twoOfSet m_farBy m_rowBy m_triedBy m_rowMany m_doneAt m_gotAt m_struckAt m_bestDeed m_misBy m_drawn m_ranSteps m_loops m_ran m_told1 m_isTold m_marks) Q := by
  have hL12 := V.ok.hL
  have hP7 := V.ok.hP
  have hW4 := V.ok.hW
  refine call_intro (ls := [some (.ref 0), some (.int l)]) rfl rfl rfl ?_
  refine wp_aload_n 1 d_Mo_strike_0 rfl rfl ?_
  refine wp_iload_n 2 d_Mo_strike_1 rfl rfl ?_
  refine wp_V1 5 M_Mo_isLeg 1 d_Mo_strike_2 rfl mv_Mo_isLeg lk_Mo_346 rfl rfl rfl rfl rfl ?_
  refine c_Mo_isLeg V ?_
  refine kI ?_
  (first | refine wp_ifP_ne 14 8 d_Mo_strike_5 rfl (by decide) (fun h5 => ?_) (fun h5 => ?_) | refine wp_if_ne 14 8 d_Mo_strike_5 rfl (by decide) (fun h5 => ?_) (fun h5 => ?_))
  · refine wp_aload_n 15 d_Mo_strike_14 rfl rfl ?_
    refine wp_iload_n 16 d_Mo_strike_15 rfl rfl ?_
    refine wp_V1 19 M_Mo_strikes 3 d_Mo_strike_16 rfl mv_Mo_strikes lk_Mo_360 rfl rfl rfl rfl rfl ?_
    refine c_Mo_strikes V (fun hn => ?_) (fun hy => ?_)
    · refine kI ?_
      refine wp_if_eq 39 22 d_Mo_strike_19 rfl (by decide) (fun h19 => ?_) (fun h19 => ?_)
      · refine wp_aload_n 40 d_Mo_strike_39 rfl rfl ?_
        refine wp_bipush 42 7 d_Mo_strike_40 rfl (by decide) ?_
        refine wp_V1 45 M_Mo_refuse 1 d_Mo_strike_42 rfl mv_Mo_refuse lk_Mo_111 rfl rfl rfl rfl rfl ?_
        refine c_Mo_refuse ?_
        refine kI ?_
        refine wp_ireturn d_Mo_strike_45 rfl ?_
        have e : (stF t l) = _ := ((if_pos h5).trans (if_pos (Decidable.of_not_not (fun z => hn ⟨h5.2, z⟩))))
        rw [e] at hq
        exact hq m_at (V) (frA.rf)
      · exact absurd rfl h19
    · refine kI ?_
      refine wp_if_eq 39 22 d_Mo_strike_19 rfl (by decide) (fun h19 => ?_) (fun h19 => ?_)
      · exact absurd h19 (by decide)
      · refine wp_aload_n 23 d_Mo_strike_22 rfl rfl ?_
        refine wp_aload_n 24 d_Mo_strike_23 rfl rfl ?_
        refine wp_getfield 27 12 0 d_Mo_strike_24 rfl fl_Mo_7 rfl rfl ?_
        refine wp_bipush 29 6 d_Mo_strike_27 rfl (by decide) ?_
        refine wp_iaload 30 d_Mo_strike_29 rfl rfl (vp_in_nI (n := 6) (N := 2332) (by omega) (by omega)) ?_
        rw [show upd m_at 6 (t.sk ||| bit l) (6 : Int32).toNatClampNeg = t.sk ||| bit l from upd_at]
        refine wp_S1 33 M_Mo_bits 1 d_Mo_strike_30 rfl ms_Mo_bits lk_Mo_363 rfl rfl ?_
        refine c_Mo_bits (sk_lo hs4 h5 hL12).1 ?_
        refine kI ?_
        refine wp_V1 36 M_Mo_gives 1 d_Mo_strike_33 rfl mv_Mo_gives lk_Mo_115 rfl rfl rfl rfl rfl ?_
        refine c_Mo_gives ?_
        refine kI ?_
        refine wp_goto 45 d_Mo_strike_36 (by decide) ?_
        refine wp_ireturn d_Mo_strike_45 rfl ?_
        have e : (stF t l) = _ := ((if_pos h5).trans (if_neg (hy.2)))
        rw [e] at hq
        exact hq (upd m_at 6 (t.sk ||| bit l)) (vT_sk V _) (frA.rf.u (by omega) (by omega))
  · refine wp_aload_n 9 d_Mo_strike_8 rfl rfl ?_
    refine wp_iconst 10 1 d_Mo_strike_9 rfl (by decide) ?_
    refine wp_V1 13 M_Mo_refuse 1 d_Mo_strike_10 rfl mv_Mo_refuse lk_Mo_111 rfl rfl rfl rfl rfl ?_
    refine c_Mo_refuse ?_
    refine kI ?_
    refine wp_ireturn d_Mo_strike_13 rfl ?_
    have e : (stF t l) = _ := (if_neg h5)
    rw [e] at hq
    exact hq m_at (V) (frA.rf)

set_option maxRecDepth 100000 in
set_option maxHeartbeats 4000000 in
theorem c_Mo_restore {l : Int32} (V : vT m_at t) (hs4 : vp_in t.sk 4096) (hq : ∀ a2, vT a2 (rsF t l).2.2 → frA m_at a2 → Q (some (.int (rsF t l).1)) (hM (a2) m_names ((rsF t l).2.1) m_top m_bottom m_sort m_trayMany m_trays m_tape m_text m_taped m_size m_token m_from m_end m_value m_faultKind m_faultPlace m_faults m_seen m_areOdds m_opened m_depth m_counted m_eastBy m_northBy m_partBy m_wayFaults m_wayEast m_wayNorth m_olds m_wayMany m_oneOfSet m_twoOfSet m_farBy m_rowBy m_triedBy m_rowMany m_doneAt m_gotAt m_struckAt m_bestDeed m_misBy m_drawn m_ranSteps m_loops m_ran m_told1 m_isTold m_marks)) : Call Γ M_Mo_restore 4 0 0 [.ref 0, .int l] (hM m_at m_names m_status m_top m_bottom m_sort m_trayMany m_trays m_tape m_text m_taped m_size m_token m_from m_end m_value m_faultKind m_faultPlace m_faults m_seen m_areOdds m_opened m_depth m_counted m_eastBy m_northBy m_partBy m_wayFaults m_wayEast m_wayNorth m_olds m_wayMany m_oneOfSet m_twoOfSet m_farBy m_rowBy m_triedBy m_rowMany m_doneAt m_gotAt m_struckAt m_bestDeed m_misBy m_drawn m_ranSteps m_loops m_ran m_told1 m_isTold m_marks) Q := by
  have hL12 := V.ok.hL
  have hP7 := V.ok.hP
  have hW4 := V.ok.hW
  refine call_intro (ls := [some (.ref 0), some (.int l)]) rfl rfl rfl ?_
  refine wp_aload_n 1 d_Mo_restore_0 rfl rfl ?_
  refine wp_iload_n 2 d_Mo_restore_1 rfl rfl ?_
  refine wp_V1 5 M_Mo_isLeg 1 d_Mo_restore_2 rfl mv_Mo_isLeg lk_Mo_346 rfl rfl rfl rfl rfl ?_
  refine c_Mo_isLeg V ?_
  refine kI ?_
  (first | refine wp_ifP_ne 14 8 d_Mo_restore_5 rfl (by decide) (fun h5 => ?_) (fun h5 => ?_) | refine wp_if_ne 14 8 d_Mo_restore_5 rfl (by decide) (fun h5 => ?_) (fun h5 => ?_))
  · refine wp_aload_n 15 d_Mo_restore_14 rfl rfl ?_
    refine wp_iload_n 16 d_Mo_restore_15 rfl rfl ?_
    refine wp_V1 19 M_Mo_restores1 2 d_Mo_restore_16 rfl mv_Mo_restores1 lk_Mo_366 rfl rfl rfl rfl rfl ?_
    refine c_Mo_restores1 V (fun hn => ?_) (fun hy => ?_)
    · refine kI ?_
      refine wp_if_eq 39 22 d_Mo_restore_19 rfl (by decide) (fun h19 => ?_) (fun h19 => ?_)
      · refine wp_aload_n 40 d_Mo_restore_39 rfl rfl ?_
        refine wp_bipush 42 7 d_Mo_restore_40 rfl (by decide) ?_
        refine wp_V1 45 M_Mo_refuse 1 d_Mo_restore_42 rfl mv_Mo_refuse lk_Mo_111 rfl rfl rfl rfl rfl ?_
        refine c_Mo_refuse ?_
        refine kI ?_
        refine wp_ireturn d_Mo_restore_45 rfl ?_
        have e : (rsF t l) = _ := ((if_pos h5).trans (if_neg hn))
        rw [e] at hq
        exact hq m_at (V) (frA.rf)
      · exact absurd rfl h19
    · refine kI ?_
      refine wp_if_eq 39 22 d_Mo_restore_19 rfl (by decide) (fun h19 => ?_) (fun h19 => ?_)
      · exact absurd h19 (by decide)
      · refine wp_aload_n 23 d_Mo_restore_22 rfl rfl ?_
        refine wp_aload_n 24 d_Mo_restore_23 rfl rfl ?_
        refine wp_getfield 27 12 0 d_Mo_restore_24 rfl fl_Mo_7 rfl rfl ?_
        refine wp_bipush 29 6 d_Mo_restore_27 rfl (by decide) ?_
        refine wp_iaload 30 d_Mo_restore_29 rfl rfl (vp_in_nI (n := 6) (N := 2332) (by omega) (by omega)) ?_
        rw [show upd m_at 6 (t.sk &&& (bit l ^^^ (-1))) (6 : Int32).toNatClampNeg = t.sk &&& (bit l ^^^ (-1)) from upd_at]
        refine wp_S1 33 M_Mo_bits 1 d_Mo_restore_30 rfl ms_Mo_bits lk_Mo_363 rfl rfl ?_
        refine c_Mo_bits (sk_lo hs4 h5 hL12).2 ?_
        refine kI ?_
        refine wp_V1 36 M_Mo_gives 1 d_Mo_restore_33 rfl mv_Mo_gives lk_Mo_115 rfl rfl rfl rfl rfl ?_
        refine c_Mo_gives ?_
        refine kI ?_
        refine wp_goto 45 d_Mo_restore_36 (by decide) ?_
        refine wp_ireturn d_Mo_restore_45 rfl ?_
        have e : (rsF t l) = _ := ((if_pos h5).trans (if_pos hy))
        rw [e] at hq
        exact hq (upd m_at 6 (t.sk &&& (bit l ^^^ (-1)))) (vT_sk V _) (frA.rf.u (by omega) (by omega))
  · refine wp_aload_n 9 d_Mo_restore_8 rfl rfl ?_
    refine wp_iconst 10 1 d_Mo_restore_9 rfl (by decide) ?_
    refine wp_V1 13 M_Mo_refuse 1 d_Mo_restore_10 rfl mv_Mo_refuse lk_Mo_111 rfl rfl rfl rfl rfl ?_
    refine c_Mo_refuse ?_
    refine kI ?_
    refine wp_ireturn d_Mo_restore_13 rfl ?_
    have e : (rsF t l) = _ := (if_neg h5)
    rw [e] at hq
    exact hq m_at (V) (frA.rf)

set_option maxRecDepth 100000 in
set_option maxHeartbeats 4000000 in
theorem c_Mo_rule {a : Int32} (V : vT m_at t) (hq : ∀ a2, vT a2 (ruF t a).2.2 → frA m_at a2 → Q (some (.int (ruF t a).1)) (hM (a2) m_names ((ruF t a).2.1) m_top m_bottom m_sort m_trayMany m_trays m_tape m_text m_taped m_size m_token m_from m_end m_value m_faultKind m_faultPlace m_faults m_seen m_areOdds m_opened m_depth m_counted m_eastBy m_northBy m_partBy m_wayFaults m_wayEast m_wayNorth m_olds m_wayMany m_oneOfSet m_twoOfSet m_farBy m_rowBy m_triedBy m_rowMany m_doneAt m_gotAt m_struckAt m_bestDeed m_misBy m_drawn m_ranSteps m_loops m_ran m_told1 m_isTold m_marks)) : Call Γ M_Mo_rule 2 0 0 [.ref 0, .int a] (hM m_at m_names m_status m_top m_bottom m_sort m_trayMany m_trays m_tape m_text m_taped m_size m_token m_from m_end m_value m_faultKind m_faultPlace m_faults m_seen m_areOdds m_opened m_depth m_counted m_eastBy m_northBy m_partBy m_wayFaults m_wayEast m_wayNorth m_olds m_wayMany m_oneOfSet m_twoOfSet m_farBy m_rowBy m_triedBy m_rowMany m_doneAt m_gotAt m_struckAt m_bestDeed m_misBy m_drawn m_ranSteps m_loops m_ran m_told1 m_isTold m_marks) Q := by
  have hL12 := V.ok.hL
  have hP7 := V.ok.hP
  have hW4 := V.ok.hW
  refine call_intro (ls := [some (.ref 0), some (.int a)]) rfl rfl rfl ?_
  refine wp_iload_n 1 d_Mo_rule_0 rfl rfl ?_
  refine wp_i2l 2 d_Mo_rule_1 rfl ?_
  refine wp_lconst 3 0 d_Mo_rule_2 rfl (by decide) ?_
  refine wp_ldc2 6 (16 : Int64) d_Mo_rule_3 rfl ct_Mo_381 ?_
  refine wp_S3 9 M_Mo_isFrom 1 d_Mo_rule_6 rfl ms_Mo_isFrom lk_Mo_356 rfl rfl ?_
  refine c_Mo_isFrom ?_
  refine kI ?_
  (first | refine wp_ifP_ne 18 12 d_Mo_rule_9 rfl (by decide) (fun h9 => ?_) (fun h9 => ?_) | refine wp_if_ne 18 12 d_Mo_rule_9 rfl (by decide) (fun h9 => ?_) (fun h9 => ?_))
  · refine wp_aload_n 19 d_Mo_rule_18 rfl rfl ?_
    refine wp_getfield 22 12 0 d_Mo_rule_19 rfl fl_Mo_7 rfl rfl ?_
    refine wp_iconst 23 3 d_Mo_rule_22 rfl (by decide) ?_
    refine wp_iload_n 24 d_Mo_rule_23 rfl rfl ?_
    refine wp_iastore 25 d_Mo_rule_24 rfl rfl (vp_in_nI (n := 3) (N := 2332) (by omega) (by omega)) ?_
    refine hEq (hM (upd m_at 3 a) m_names m_status m_top m_bottom m_sort m_trayMany m_trays m_tape m_text m_taped m_size m_token m_from m_end m_value m_faultKind m_faultPlace m_faults m_seen m_areOdds m_opened m_depth m_counted m_eastBy m_northBy m_partBy m_wayFaults m_wayEast m_wayNorth m_olds m_wayMany m_oneOfSet m_twoOfSet m_farBy m_rowBy m_triedBy m_rowMany m_doneAt m_gotAt m_struckAt m_bestDeed m_misBy m_drawn m_ranSteps m_loops m_ran m_told1 m_isTold m_marks) rfl ?_
    refine wp_aload_n 26 d_Mo_rule_25 rfl rfl ?_
    refine wp_iconst 27 0 d_Mo_rule_26 rfl (by decide) ?_
    refine wp_V1 30 M_Mo_is 1 d_Mo_rule_27 rfl mv_Mo_is lk_Mo_118 rfl rfl rfl rfl rfl ?_
    refine c_Mo_is ?_
    refine kI ?_
    refine wp_zreturn d_Mo_rule_30 rfl (by first | rfl | exact nbP _) ?_
    rw [bP_t rfl]
    have e : (ruF t a) = _ := (if_pos (in16.mp h9))
    rw [e] at hq
    exact hq (upd m_at 3 a) (vT_odd V (in16.mp h9)) (frA.rf.u (by omega) (by omega))
  · refine wp_aload_n 13 d_Mo_rule_12 rfl rfl ?_
    refine wp_iconst 14 1 d_Mo_rule_13 rfl (by decide) ?_
    refine wp_V1 17 M_Mo_is 1 d_Mo_rule_14 rfl mv_Mo_is lk_Mo_118 rfl rfl rfl rfl rfl ?_
    refine c_Mo_is ?_
    refine kI ?_
    refine wp_zreturn d_Mo_rule_17 rfl (by first | rfl | exact nbP _) ?_
    rw [bP_f (by decide)]
    have e : (ruF t a) = _ := (if_neg (fun z => h9 (in16.mpr z)))
    rw [e] at hq
    exact hq m_at (V) (frA.rf)

end T81
