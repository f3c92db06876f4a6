/-! ===== the reference: TRAYS ===== -/
/-- the class's TRAYS in the reference's cells -/
def vY (so tm : Nat → Int32) (tr : Nat → Int64) (Y : Nat → YT) : Prop := ∀ k, k < 4 → so k = (Y k).yso ∧ tm k = (if (Y k).yth = 0 then -1 else nI (Y k).nM) ∧ (Y k).nM ≤ 60 ∧ ∀ i, i < (Y k).nM → ¬ (Y k).yth = 0 → tr (60 * k + i) = (Y k).yn i
theorem mul60 (k : Nat) : (60 : Int32) * nI k = nI (60 * k) := by
  apply Int32.toInt_inj.mp
  rw [Int32.toInt_mul]
  show Int.bmod ((60 : Int32).toInt * (Int32.ofNat k).toInt) _ = (Int32.ofNat (60 * k)).toInt
  rw [Int32.toInt_ofNat', Int32.toInt_ofNat', show (60 : Int32).toInt = 60 from rfl]
  simp
section T85
variable {Γ : Gm} {Q : Option Value → LH → Prop} {m_at m_sort m_trayMany m_tape m_text m_opened m_eastBy m_northBy m_partBy m_wayFaults m_wayEast m_wayNorth m_olds m_farBy m_rowBy m_triedBy m_doneAt m_gotAt m_struckAt m_bestDeed m_loops m_ran m_told1 : Nat → Int32} {m_names m_trays m_misBy : Nat → Int64} {m_status m_taped m_size m_token m_from m_end m_value m_faultKind m_faultPlace m_faults m_seen m_areOdds m_depth m_counted m_wayMany m_oneOfSet m_twoOfSet m_rowMany m_drawn m_ranSteps m_isTold m_marks : Int32} {m_top m_bottom : Int64} {Y : Nat → YT}
set_option maxRecDepth 100000 in
set_option maxHeartbeats 4000000 in
theorem c_Mo_wrongPlace {a b : Int32} (v : vY m_sort m_trayMany m_trays Y) (hq : Q (some (.int (spF Y a b))) (hM m_at m_names m_status m_top m_bottom m_sort m_trayMany m_trays m_tape m_text m_taped m_size m_token m_from m_end m_value m_faultKind m_faultPlace m_faults m_seen m_areOdds m_opened m_depth m_counted m_eastBy m_northBy m_partBy m_wayFaults m_wayEast m_wayNorth m_olds m_wayMany m_oneOfSet m_twoOfSet m_farBy m_rowBy m_triedBy m_rowMany m_doneAt m_gotAt m_struckAt m_bestDeed m_misBy m_drawn m_ranSteps m_loops m_ran m_told1 m_isTold m_marks)) : Call Γ M_Mo_wrongPlace 2 0 0 [.ref 0, .int a, .int b] (hM m_at m_names m_status m_top m_bottom m_sort m_trayMany m_trays m_tape m_text m_taped m_size m_token m_from m_end m_value m_faultKind m_faultPlace m_faults m_seen m_areOdds m_opened m_depth m_counted m_eastBy m_northBy m_partBy m_wayFaults m_wayEast m_wayNorth m_olds m_wayMany m_oneOfSet m_twoOfSet m_farBy m_rowBy m_triedBy m_rowMany m_doneAt m_gotAt m_struckAt m_bestDeed m_misBy m_drawn m_ranSteps m_loops m_ran m_told1 m_isTold m_marks) Q := by
  refine call_intro (ls := [some (.ref 0), some (.int a), some (.int b)]) rfl rfl rfl ?_
  refine wp_iload_n 1 d_Mo_wrongPlace_0 rfl rfl ?_
  refine wp_S1 4 M_Mo_isTray 1 d_Mo_wrongPlace_1 rfl ms_Mo_isTray lk_Mo_122 rfl rfl ?_
  refine c_Mo_isTray ?_
  refine kI ?_
  (first | refine wp_ifP_ne 11 7 d_Mo_wrongPlace_4 rfl (by decide) (fun h4 => ?_) (fun h4 => ?_) | refine wp_if_ne 11 7 d_Mo_wrongPlace_4 rfl (by decide) (fun h4 => ?_) (fun h4 => ?_))
  · refine wp_aload_n 12 d_Mo_wrongPlace_11 rfl rfl ?_
    refine wp_getfield 15 12 6 d_Mo_wrongPlace_12 rfl fl_Mo_24 rfl rfl ?_
    refine wp_iload_n 16 d_Mo_wrongPlace_15 rfl rfl ?_
    refine wp_iaload 17 d_Mo_wrongPlace_16 rfl rfl (inR_in (n := 4) h4 (by omega) (by omega)) ?_
    refine wp_iconst 18 (-1) d_Mo_wrongPlace_17 rfl (by decide) ?_
    refine wp_icmp_ne 25 21 d_Mo_wrongPlace_18 rfl (by decide) (fun h18 => ?_) (fun h18 => ?_)
    · refine wp_iload_n 26 d_Mo_wrongPlace_25 rfl rfl ?_
      refine wp_if_lt 39 29 d_Mo_wrongPlace_26 rfl (by decide) (fun h26 => ?_) (fun h26 => ?_)
      · refine wp_iconst 40 3 d_Mo_wrongPlace_39 rfl (by decide) ?_
        refine wp_goto 44 d_Mo_wrongPlace_40 (by decide) ?_
        refine wp_ireturn d_Mo_wrongPlace_44 rfl ?_
        obtain ⟨k, hk, rfl⟩ := inR_ex (n := 4) h4 (by omega)
        obtain ⟨g1, g2, g3, g4⟩ := v k hk
        have ek : (nI k).toNatClampNeg = k := nI_clamp (by omega)
        rw [ek, g2] at h18
        have hz : ¬ (Y k).yth = 0 := fun z => h18 (by rw [if_pos z])
        have e : spF Y (nI k) b = 3 := (if_pos h4).trans (by rw [ek, if_neg hz]; exact if_neg (fun z => absurd h26 (Int32.not_lt.mpr z.1)))
        rw [e] at hq
        exact hq
      · refine wp_iload_n 30 d_Mo_wrongPlace_29 rfl rfl ?_
        refine wp_aload_n 31 d_Mo_wrongPlace_30 rfl rfl ?_
        refine wp_getfield 34 12 6 d_Mo_wrongPlace_31 rfl fl_Mo_24 rfl rfl ?_
        refine wp_iload_n 35 d_Mo_wrongPlace_34 rfl rfl ?_
        refine wp_iaload 36 d_Mo_wrongPlace_35 rfl rfl (inR_in (n := 4) h4 (by omega) (by omega)) ?_
        refine wp_icmp_lt 43 39 d_Mo_wrongPlace_36 rfl (by decide) (fun h36 => ?_) (fun h36 => ?_)
        · refine wp_iconst 44 0 d_Mo_wrongPlace_43 rfl (by decide) ?_
          refine wp_ireturn d_Mo_wrongPlace_44 rfl ?_
          obtain ⟨k, hk, rfl⟩ := inR_ex (n := 4) h4 (by omega)
          obtain ⟨g1, g2, g3, g4⟩ := v k hk
          have ek : (nI k).toNatClampNeg = k := nI_clamp (by omega)
          rw [ek, g2] at h18
          have hz : ¬ (Y k).yth = 0 := fun z => h18 (by rw [if_pos z])
          rw [ek, g2, if_neg hz] at h36
          have e : spF Y (nI k) b = 0 := (if_pos h4).trans (by rw [ek, if_neg hz]; exact if_pos ⟨Int32.not_lt.mp h26, h36⟩)
          rw [e] at hq
          exact hq
        · refine wp_iconst 40 3 d_Mo_wrongPlace_39 rfl (by decide) ?_
          refine wp_goto 44 d_Mo_wrongPlace_40 (by decide) ?_
          refine wp_ireturn d_Mo_wrongPlace_44 rfl ?_
          obtain ⟨k, hk, rfl⟩ := inR_ex (n := 4) h4 (by omega)
          obtain ⟨g1, g2, g3, g4⟩ := v k hk
          have ek : (nI k).toNatClampNeg = k := nI_clamp (by omega)
          rw [ek, g2] at h18
          have hz : ¬ (Y k).yth = 0 := fun z => h18 (by rw [if_pos z])
          rw [ek, g2, if_neg hz] at h36
          have e : spF Y (nI k) b = 3 := (if_pos h4).trans (by rw [ek, if_neg hz]; exact if_neg (fun z => h36 z.2))
          rw [e] at hq
          exact hq
    · refine wp_iconst 22 2 d_Mo_wrongPlace_21 rfl (by decide) ?_
      refine wp_goto 44 d_Mo_wrongPlace_22 (by decide) ?_
      refine wp_ireturn d_Mo_wrongPlace_44 rfl ?_
      obtain ⟨k, hk, rfl⟩ := inR_ex (n := 4) h4 (by omega)
      obtain ⟨g1, g2, g3, g4⟩ := v k hk
      have ek : (nI k).toNatClampNeg = k := nI_clamp (by omega)
      rw [ek, g2] at h18
      have e : spF Y (nI k) b = 2 := (if_pos h4).trans (if_pos (by rw [ek]; exact Decidable.of_not_not (fun z => by rw [if_neg z] at h18; exact nI_ne1 (by omega) h18)))
      rw [e] at hq
      exact hq
  · refine wp_iconst 8 1 d_Mo_wrongPlace_7 rfl (by decide) ?_
    refine wp_goto 44 d_Mo_wrongPlace_8 (by decide) ?_
    refine wp_ireturn d_Mo_wrongPlace_44 rfl ?_
    have e : spF Y a b = _ := if_neg h4
    rw [e] at hq
    exact hq

theorem spF_ge {Y : Nat → YT} {a b : Int32} (h : spF Y a b ≤ 0) : spF Y a b = 0 := by
  unfold spF at h ⊢
  split
  · split
    · rename_i h1 h2; rw [if_pos h1, if_pos h2] at h; exact absurd h (by decide)
    · split
      · rfl
      · rename_i h1 h2 h3; rw [if_pos h1, if_neg h2, if_neg h3] at h; exact absurd h (by decide)
  · rename_i h1; rw [if_neg h1] at h; exact absurd h (by decide)
set_option maxRecDepth 100000 in
set_option maxHeartbeats 4000000 in
theorem c_Mo_read {a b : Int32} (v : vY m_sort m_trayMany m_trays Y) (hq : Q (some (.long (rdF Y a b).1)) (hM m_at m_names ((rdF Y a b).2) m_top m_bottom m_sort m_trayMany m_trays m_tape m_text m_taped m_size m_token m_from m_end m_value m_faultKind m_faultPlace m_faults m_seen m_areOdds m_opened m_depth m_counted m_eastBy m_northBy m_partBy m_wayFaults m_wayEast m_wayNorth m_olds m_wayMany m_oneOfSet m_twoOfSet m_farBy m_rowBy m_triedBy m_rowMany m_doneAt m_gotAt m_struckAt m_bestDeed m_misBy m_drawn m_ranSteps m_loops m_ran m_told1 m_isTold m_marks)) : Call Γ M_Mo_read 3 0 0 [.ref 0, .int a, .int b] (hM m_at m_names m_status m_top m_bottom m_sort m_trayMany m_trays m_tape m_text m_taped m_size m_token m_from m_end m_value m_faultKind m_faultPlace m_faults m_seen m_areOdds m_opened m_depth m_counted m_eastBy m_northBy m_partBy m_wayFaults m_wayEast m_wayNorth m_olds m_wayMany m_oneOfSet m_twoOfSet m_farBy m_rowBy m_triedBy m_rowMany m_doneAt m_gotAt m_struckAt m_bestDeed m_misBy m_drawn m_ranSteps m_loops m_ran m_told1 m_isTold m_marks) Q := by
  refine call_intro (ls := [some (.ref 0), some (.int a), some (.int b)]) rfl rfl rfl ?_
  refine wp_aload_n 1 d_Mo_read_0 rfl rfl ?_
  refine wp_aload_n 2 d_Mo_read_1 rfl rfl ?_
  refine wp_iload_n 3 d_Mo_read_2 rfl rfl ?_
  refine wp_iload_n 4 d_Mo_read_3 rfl rfl ?_
  refine wp_V2 7 M_Mo_wrongPlace 2 d_Mo_read_4 rfl mv_Mo_wrongPlace lk_Mo_125 rfl rfl rfl rfl rfl ?_
  refine c_Mo_wrongPlace v ?_
  refine kI ?_
  refine wp_putfield 10 12 2 _ d_Mo_read_7 rfl fp_Mo_105 rfl rfl (okP_int _) ?_
  refine hEq (hM m_at m_names (spF Y a b) m_top m_bottom m_sort m_trayMany m_trays m_tape m_text m_taped m_size m_token m_from m_end m_value m_faultKind m_faultPlace m_faults m_seen m_areOdds m_opened m_depth m_counted m_eastBy m_northBy m_partBy m_wayFaults m_wayEast m_wayNorth m_olds m_wayMany m_oneOfSet m_twoOfSet m_farBy m_rowBy m_triedBy m_rowMany m_doneAt m_gotAt m_struckAt m_bestDeed m_misBy m_drawn m_ranSteps m_loops m_ran m_told1 m_isTold m_marks) rfl ?_
  refine wp_aload_n 11 d_Mo_read_10 rfl rfl ?_
  refine wp_getfield 14 12 2 d_Mo_read_11 rfl fl_Mo_105 rfl rfl ?_
  refine wp_if_le 23 17 d_Mo_read_14 rfl (by decide) (fun h14 => ?_) (fun h14 => ?_)
  · have h0_ := spF_ge h14
    obtain ⟨hA, hth, hB⟩ := spF_in h0_
    obtain ⟨k, hk, rfl⟩ := inR_ex (n := 4) hA (by omega)
    obtain ⟨g1, g2, g3, g4⟩ := v k hk
    have ek : (nI k).toNatClampNeg = k := nI_clamp (by omega)
    rw [ek] at hth hB
    obtain ⟨i, hi, rfl⟩ := inR_ex hB (by omega)
    have ei : (nI i).toNatClampNeg = i := nI_clamp (by omega)
    refine wp_aload_n 24 d_Mo_read_23 rfl rfl ?_
    refine wp_getfield 27 12 7 d_Mo_read_24 rfl fl_Mo_27 rfl rfl ?_
    refine wp_bipush 29 60 d_Mo_read_27 rfl (by decide) ?_
    refine wp_iload_n 30 d_Mo_read_29 rfl rfl ?_
    refine wp_imul 31 d_Mo_read_30 rfl ?_
    rw [mul60]
    refine wp_iload_n 32 d_Mo_read_31 rfl rfl ?_
    refine wp_iadd 33 d_Mo_read_32 rfl ?_
    rw [show (nI (60 * k) + nI i) = nI (60 * k + i) from nI_add _ _]
    refine wp_laloadN 34 d_Mo_read_33 rfl rfl rfl (by omega) ?_
    refine wp_lreturn d_Mo_read_34 rfl ?_
    have e : rdF Y (nI k) (nI i) = _ := if_pos h0_
    rw [e, ek, ei, ← g4 i hi hth] at hq
    rw [h0_]
    exact hq
  · refine wp_ldc2 20 (-1 : Int64) d_Mo_read_17 rfl ct_Mo_133 ?_
    refine wp_goto 34 d_Mo_read_20 (by decide) ?_
    refine wp_lreturn d_Mo_read_34 rfl ?_
    have hne : ¬ spF Y a b = 0 := fun z => h14 (by rw [z]; decide)
    have e : rdF Y a b = _ := if_neg hne
    rw [e] at hq
    exact hq

theorem vY_put {so tm : Nat → Int32} {tr : Nat → Int64} {Y : Nat → YT} (v : vY so tm tr Y) {k i : Nat} (hk : k < 4) (hi : i < (Y k).nM) (w : Int64) : vY so tm (vp_updL tr (60 * k + i) (cutR (so k) w)) (updY Y k (yP (Y k) (nI i) w)) := by
  intro j hj
  obtain ⟨g1, g2, g3, g4⟩ := v j hj
  have hk3 := (v k hk).2.2.1
  by_cases e : j = k
  · subst e
    rw [show updY Y j (yP (Y j) (nI i) w) j = yP (Y j) (nI i) w from if_pos rfl]
    refine ⟨g1, g2, g3, fun m hm hz => ?_⟩
    show vp_updL tr (60 * j + i) (cutR (so j) w) (60 * j + m) = (if inR (nI i) (nI (Y j).nM) then vp_updL (Y j).yn (nI i).toNatClampNeg (cutR (Y j).yso w) else (Y j).yn) m
    rw [if_pos (inR_N hi (by omega)), nI_clamp (by omega), g1]
    by_cases z : m = i
    · rw [z, show vp_updL tr (60 * j + i) (cutR (Y j).yso w) (60 * j + i) = _ from if_pos rfl, show vp_updL (Y j).yn i (cutR (Y j).yso w) i = _ from if_pos rfl]
    · rw [show vp_updL tr (60 * j + i) (cutR (Y j).yso w) (60 * j + m) = tr (60 * j + m) from if_neg (by omega), show vp_updL (Y j).yn i (cutR (Y j).yso w) m = (Y j).yn m from if_neg z]
      exact g4 m hm hz
  · rw [show updY Y k (yP (Y k) (nI i) w) j = Y j from if_neg e]
    refine ⟨g1, g2, g3, fun m hm hz => ?_⟩
    rw [show vp_updL tr (60 * k + i) (cutR (so k) w) (60 * j + m) = tr (60 * j + m) from if_neg (by omega)]
    exact g4 m hm hz
set_option maxRecDepth 100000 in
set_option maxHeartbeats 4000000 in
theorem c_Mo_write {a b : Int32} {w : Int64} (v : vY m_sort m_trayMany m_trays Y) (hq : ∀ tr2, vY m_sort m_trayMany tr2 (wrF Y a b w).2.2 → Q (some (.int (wrF Y a b w).1)) (hM m_at m_names ((wrF Y a b w).2.1) m_top m_bottom m_sort m_trayMany (tr2) m_tape m_text m_taped m_size m_token m_from m_end m_value m_faultKind m_faultPlace m_faults m_seen m_areOdds m_opened m_depth m_counted m_eastBy m_northBy m_partBy m_wayFaults m_wayEast m_wayNorth m_olds m_wayMany m_oneOfSet m_twoOfSet m_farBy m_rowBy m_triedBy m_rowMany m_doneAt m_gotAt m_struckAt m_bestDeed m_misBy m_drawn m_ranSteps m_loops m_ran m_told1 m_isTold m_marks)) : Call Γ M_Mo_write 3 0 0 [.ref 0, .int a, .int b, .long w] (hM m_at m_names m_status m_top m_bottom m_sort m_trayMany m_trays m_tape m_text m_taped m_size m_token m_from m_end m_value m_faultKind m_faultPlace m_faults m_seen m_areOdds m_opened m_depth m_counted m_eastBy m_northBy m_partBy m_wayFaults m_wayEast m_wayNorth m_olds m_wayMany m_oneOfSet m_twoOfSet m_farBy m_rowBy m_triedBy m_rowMany m_doneAt m_gotAt m_struckAt m_bestDeed m_misBy m_drawn m_ranSteps m_loops m_ran m_told1 m_isTold m_marks) Q := by
  refine call_intro (ls := [some (.ref 0), some (.int a), some (.int b), some (.long w), none, none]) rfl rfl rfl ?_
  refine wp_aload_n 1 d_Mo_write_0 rfl rfl ?_
  refine wp_iload_n 2 d_Mo_write_1 rfl rfl ?_
  refine wp_iload_n 3 d_Mo_write_2 rfl rfl ?_
  refine wp_V2 6 M_Mo_wrongPlace 2 d_Mo_write_3 rfl mv_Mo_wrongPlace lk_Mo_125 rfl rfl rfl rfl rfl ?_
  refine c_Mo_wrongPlace v ?_
  refine kI ?_
  refine wp_istore_5 8 d_Mo_write_6 rfl rfl rfl ?_
  refine wp_iload 10 d_Mo_write_8 rfl rfl ?_
  refine wp_if_ne 34 13 d_Mo_write_10 rfl (by decide) (fun h10 => ?_) (fun h10 => ?_)
  · refine wp_aload_n 35 d_Mo_write_34 rfl rfl ?_
    refine wp_iload 37 d_Mo_write_35 rfl rfl ?_
    refine wp_V1 40 M_Mo_is 1 d_Mo_write_37 rfl mv_Mo_is lk_Mo_118 rfl rfl rfl rfl rfl ?_
    refine c_Mo_is ?_
    refine kI ?_
    refine wp_zreturn d_Mo_write_40 rfl (by first | rfl | exact nbP _) ?_
    have e : wrF Y a b w = _ := if_neg h10
    rw [e] at hq
    rw [bP_f h10]
    exact hq _ v
  · obtain ⟨hA, hth, hB⟩ := spF_in h10
    obtain ⟨k, hk, rfl⟩ := inR_ex (n := 4) hA (by omega)
    obtain ⟨g1, g2, g3, g4⟩ := v k hk
    have ek : (nI k).toNatClampNeg = k := nI_clamp (by omega)
    rw [ek] at hth hB
    obtain ⟨i, hi, rfl⟩ := inR_ex hB (by omega)
    have ei : (nI i).toNatClampNeg = i := nI_clamp (by omega)
    refine wp_aload_n 14 d_Mo_write_13 rfl rfl ?_
    refine wp_getfield 17 12 7 d_Mo_write_14 rfl fl_Mo_27 rfl rfl ?_
    refine wp_bipush 19 60 d_Mo_write_17 rfl (by decide) ?_
    refine wp_iload_n 20 d_Mo_write_19 rfl rfl ?_
    refine wp_imul 21 d_Mo_write_20 rfl ?_
    rw [mul60]
    refine wp_iload_n 22 d_Mo_write_21 rfl rfl ?_
    refine wp_iadd 23 d_Mo_write_22 rfl ?_
    rw [show (nI (60 * k) + nI i) = nI (60 * k + i) from nI_add _ _]
    refine wp_lload_n 24 d_Mo_write_23 rfl rfl ?_
    refine wp_aload_n 25 d_Mo_write_24 rfl rfl ?_
    refine wp_getfield 28 12 5 d_Mo_write_25 rfl fl_Mo_21 rfl rfl ?_
    refine wp_iload_n 29 d_Mo_write_28 rfl rfl ?_
    refine wp_ialoadN 30 d_Mo_write_29 rfl rfl rfl (by omega) ?_
    refine wp_S2 33 M_Mo_cut 1 d_Mo_write_30 rfl ms_Mo_cut lk_Mo_129 rfl rfl ?_
    refine c_Mo_cut ?_
    refine kL ?_
    refine wp_lastoreN 34 d_Mo_write_33 rfl rfl rfl (by omega) ?_
    refine hEq (hM m_at m_names m_status m_top m_bottom m_sort m_trayMany (vp_updL m_trays (60 * k + i) (cutR (m_sort k) w)) m_tape m_text m_taped m_size m_token m_from m_end m_value m_faultKind m_faultPlace m_faults m_seen m_areOdds m_opened m_depth m_counted m_eastBy m_northBy m_partBy m_wayFaults m_wayEast m_wayNorth m_olds m_wayMany m_oneOfSet m_twoOfSet m_farBy m_rowBy m_triedBy m_rowMany m_doneAt m_gotAt m_struckAt m_bestDeed m_misBy m_drawn m_ranSteps m_loops m_ran m_told1 m_isTold m_marks) rfl ?_
    refine wp_aload_n 35 d_Mo_write_34 rfl rfl ?_
    refine wp_iload 37 d_Mo_write_35 rfl rfl ?_
    refine wp_V1 40 M_Mo_is 1 d_Mo_write_37 rfl mv_Mo_is lk_Mo_118 rfl rfl rfl rfl rfl ?_
    refine c_Mo_is ?_
    refine kI ?_
    refine wp_zreturn d_Mo_write_40 rfl (by first | rfl | exact nbP _) ?_
    have e : wrF Y (nI k) (nI i) w = (1, 0, updY Y k (yP (Y k) (nI i) w)) := (if_pos h10).trans (by rw [ek])
    rw [e] at hq
    rw [h10, bP_t rfl]
    exact hq _ (vY_put v hk hi w)

end T85
