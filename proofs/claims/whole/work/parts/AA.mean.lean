/-! ===== the reference: live, mean ===== -/
theorem vT_82 {a b : Nat → Int32} {t : TW} (V : vT a t) (e : ∀ j, j < 82 → b j = a j) : vT b t := by
  have hW := V.ok.hW
  have hL := V.ok.hL
  refine ⟨⟨?_, ?_, ?_, ?_, ?_, ?_, ?_⟩, fun w hw => ?_, fun l hl => ?_, V.ok, V.in_⟩
  · rw [e 0 (by omega)]; exact V.P
  · rw [e 1 (by omega)]; exact V.W
  · rw [e 2 (by omega)]; exact V.L
  · rw [e 3 (by omega)]; exact V.od
  · rw [e 4 (by omega)]; exact V.sd
  · rw [e 5 (by omega)]; exact V.go
  · rw [e 6 (by omega)]; exact V.sk
  · rw [e _ (by omega), e _ (by omega), e _ (by omega)]; exact V.wk hw
  · rw [e _ (by omega), e _ (by omega), e _ (by omega), e _ (by omega), e _ (by omega)]; exact V.leg hl
theorem vD_0 {nW : Nat} {a : Nat → Int32} {D : DW} (h : vD nW a D) (e : a 7 = -1) : D.dth = 0 := by
  by_cases z : D.dth = 0
  · exact z
  · have hn := (h.2 z).1
    rw [h.1, if_neg z] at e
    have e2 := congrArg Int32.toInt e
    rw [nI_toInt (by omega)] at e2
    have k : (-1 : Int32).toInt = -1 := rfl
    omega
theorem vD_1 {nW : Nat} {a : Nat → Int32} {D : DW} (h : vD nW a D) (z : ¬ D.dth = 0) : a 7 = nI D.nR := by rw [h.1, if_neg z]
theorem ok10 {x : Int32} (h : inR x 10000) : okDr x := by
  have c : ((0 : Int32)).toInt = 0 := rfl
  have d : ((10000 : Int32)).toInt = 10000 := rfl
  obtain ⟨h1, h2⟩ := h
  have h1 := Int32.le_iff_toInt_le.mp h1
  have h2 := Int32.lt_iff_toInt_lt.mp h2
  unfold okDr
  omega
theorem in9999 {x : Int32} : ((0 : Int64) ≤ x.toInt64 ∧ x.toInt64 ≤ 9999) ↔ inR x 10000 := inC rfl
theorem in120 {x : Int32} : ((1 : Int64) ≤ x.toInt64 ∧ x.toInt64 ≤ 20) ↔ (¬ x < 1 ∧ ¬ 20 < x) := by
  have a : ((1 : Int64)).toInt = 1 := rfl
  have b : ((20 : Int64)).toInt = 20 := rfl
  have c : ((1 : Int32)).toInt = 1 := rfl
  have d : ((20 : Int32)).toInt = 20 := rfl
  rw [Int64.le_iff_toInt_le, Int64.le_iff_toInt_le, Int32.toInt_toInt64, a, b, Int32.lt_iff_toInt_lt, Int32.lt_iff_toInt_lt, c, d]
  omega
theorem me_nI {a b : Int32} (h : meC a b) : ∃ q m, a = nI q ∧ b = nI m ∧ 1 ≤ m ∧ m ≤ 20 ∧ q + m ≤ 10000 := by
  obtain ⟨h1, h2, h3, h4⟩ := h
  obtain ⟨q, hq, rfl⟩ := inR_ex (n := 10000) h1 (by omega)
  have c : ((1 : Int32)).toInt = 1 := rfl
  have d : ((20 : Int32)).toInt = 20 := rfl
  have g : ((9999 : Int32)).toInt = 9999 := rfl
  rw [Int32.lt_iff_toInt_lt, c] at h2
  rw [Int32.lt_iff_toInt_lt, d] at h3
  obtain ⟨m, hm, rfl⟩ := nI_of (x := b) (fun z => by have := Int32.lt_iff_toInt_lt.mp z; have k : (0 : Int32).toInt = 0 := rfl; omega)
  rw [nI_toInt hm] at h2 h3
  have e : nI q + nI m - 1 = nI (q + m - 1) := by
    rw [nI_add, show q + m = q + m - 1 + 1 by omega]
    exact nI_pred _
  rw [e, Int32.lt_iff_toInt_lt, g, nI_toInt (by omega)] at h4
  exact ⟨q, m, rfl, rfl, by omega, by omega, by omega⟩
theorem add12 {x : Int32} {w : Int64} {i : Nat} (h : vp_in x 4096) (h0 : 0 ≤ w.toInt) (h1 : w.toInt ≤ 12 * i) (hi : i ≤ 20) : 0 ≤ (w + (bcR x).toInt64).toInt ∧ (w + (bcR x).toInt64).toInt ≤ 12 * (i + 1 : Nat) := by
  obtain ⟨q, hq, rfl⟩ := vp_in_of h (by omega)
  obtain ⟨e1, e2⟩ := bcn_ok hq
  have e : (w + (bcR (nI q)).toInt64).toInt = w.toInt + bcn q := by
    rw [Int64.toInt_add, Int32.toInt_toInt64, e1, nI_toInt (by omega)]
    apply Int.bmod_eq_of_le <;> omega
  rw [e]
  omega
section TAA
variable {Γ : Gm} {Q : Option Value → LH → Prop} {m_at m_sort m_trayMany m_tape m_text m_opened m_eastBy m_northBy m_partBy m_wayFaults m_wayEast m_wayNorth m_olds m_farBy m_rowBy m_triedBy m_doneAt m_gotAt m_struckAt m_bestDeed m_loops m_ran m_told1 : Nat → Int32} {m_names m_trays m_misBy : Nat → Int64} {m_status m_taped m_size m_token m_from m_end m_value m_faultKind m_faultPlace m_faults m_seen m_areOdds m_depth m_counted m_wayMany m_oneOfSet m_twoOfSet m_rowMany m_drawn m_ranSteps m_isTold m_marks : Int32} {m_top m_bottom : Int64} {t : TW} {s : LSt}
set_option maxRecDepth 100000 in
set_option maxHeartbeats 4000000 in
theorem l_Mo_live_43 {sd : Int32} (hq : ∀ (x : Nat → Int32) (w2 : Option Value), (∀ j, j < 5 → x j = m_ran j) → WP Γ M_Mo_live 10 0 0 (hM m_at m_names m_status m_top m_bottom m_sort m_trayMany m_trays m_tape m_text m_taped m_size m_token m_from m_end m_value m_faultKind m_faultPlace m_faults m_seen m_areOdds m_opened m_depth m_counted m_eastBy m_northBy m_partBy m_wayFaults m_wayEast m_wayNorth m_olds m_wayMany m_oneOfSet m_twoOfSet m_farBy m_rowBy m_triedBy m_rowMany m_doneAt m_gotAt m_struckAt m_bestDeed m_misBy m_drawn m_ranSteps m_loops m_ran (x) m_isTold m_marks) 66 [some (.ref 0), some (.int sd), w2] [] Q) : ∀ (n i : Nat) (x : Nat → Int32), i + n = 5 → (∀ j, j < i → x j = m_ran j) → WP Γ M_Mo_live 10 0 0 (hM m_at m_names m_status m_top m_bottom m_sort m_trayMany m_trays m_tape m_text m_taped m_size m_token m_from m_end m_value m_faultKind m_faultPlace m_faults m_seen m_areOdds m_opened m_depth m_counted m_eastBy m_northBy m_partBy m_wayFaults m_wayEast m_wayNorth m_olds m_wayMany m_oneOfSet m_twoOfSet m_farBy m_rowBy m_triedBy m_rowMany m_doneAt m_gotAt m_struckAt m_bestDeed m_misBy m_drawn m_ranSteps m_loops m_ran (x) m_isTold m_marks) 43 [some (.ref 0), some (.int sd), some (.int (nI i))] [] Q := by
  intro n
  induction n with
  | zero =>
    intro i x hi h0
    refine wp_iload_n 44 d_Mo_live_43 rfl rfl ?_
    refine wp_iconst 45 5 d_Mo_live_44 rfl (by decide) ?_
    refine wp_icmp_ge 66 48 d_Mo_live_45 rfl (by decide) (fun h45 => ?_) (fun h45 => ?_)
    · exact hq x _ (fun j hj => h0 j (by omega))
    · exact absurd (nI_ltN (b := 5) (Int32.not_le.mp h45) (by omega) (by omega)) (by omega)
  | succ n ih =>
    intro i x hi h0
    refine wp_iload_n 44 d_Mo_live_43 rfl rfl ?_
    refine wp_iconst 45 5 d_Mo_live_44 rfl (by decide) ?_
    refine wp_icmp_ge 66 48 d_Mo_live_45 rfl (by decide) (fun h45 => ?_) (fun h45 => ?_)
    · exact absurd (nI_leN (b := 5) h45 (by omega) (by omega)) (by omega)
    · refine wp_aload_n 49 d_Mo_live_48 rfl rfl ?_
      refine wp_getfield 52 12 47 d_Mo_live_49 rfl fl_Mo_98 rfl rfl ?_
      refine wp_iload_n 53 d_Mo_live_52 rfl rfl ?_
      refine wp_aload_n 54 d_Mo_live_53 rfl rfl ?_
      refine wp_getfield 57 12 46 d_Mo_live_54 rfl fl_Mo_95 rfl rfl ?_
      refine wp_iload_n 58 d_Mo_live_57 rfl rfl ?_
      refine wp_ialoadN 59 d_Mo_live_58 rfl rfl rfl (by omega) ?_
      refine wp_iastoreN 60 d_Mo_live_59 rfl rfl rfl (by omega) ?_
      refine hEq (hM m_at m_names m_status m_top m_bottom m_sort m_trayMany m_trays m_tape m_text m_taped m_size m_token m_from m_end m_value m_faultKind m_faultPlace m_faults m_seen m_areOdds m_opened m_depth m_counted m_eastBy m_northBy m_partBy m_wayFaults m_wayEast m_wayNorth m_olds m_wayMany m_oneOfSet m_twoOfSet m_farBy m_rowBy m_triedBy m_rowMany m_doneAt m_gotAt m_struckAt m_bestDeed m_misBy m_drawn m_ranSteps m_loops m_ran (upd x i (m_ran i)) m_isTold m_marks) rfl ?_
      first | refine wp_iincN_2 63 d_Mo_live_60 rfl rfl rfl ?_ | refine wp_iinc_2 63 1 d_Mo_live_60 rfl (by decide) rfl rfl ?_
      refine wp_goto 43 d_Mo_live_63 (by decide) ?_
      refine ih (i + 1) (upd x i (m_ran i)) (by omega) (fun j hj => ?_)
      by_cases z : j = i
      · rw [z, upd_at]
      · rw [upd_ne z]; exact h0 j (by omega)
set_option maxRecDepth 100000 in
set_option maxHeartbeats 4000000 in
theorem c_Mo_live {D : DW} {sd : Int32} {lco lro : Nat → Int32} (V : vT m_at t) (K : SKo t) (hD : vD t.nW m_at D) (hq0 : ∀ v : Int32, (¬ inR sd 10000 ∧ v = 1) ∨ (inR sd 10000 ∧ D.dth = 0 ∧ v = 6) → Q (some (.int (-1))) (hM m_at m_names (v) m_top m_bottom m_sort m_trayMany m_trays m_tape m_text m_taped m_size m_token m_from m_end m_value m_faultKind m_faultPlace m_faults m_seen m_areOdds m_opened m_depth m_counted m_eastBy m_northBy m_partBy m_wayFaults m_wayEast m_wayNorth m_olds m_wayMany m_oneOfSet m_twoOfSet m_farBy m_rowBy m_triedBy m_rowMany m_doneAt m_gotAt m_struckAt m_bestDeed m_misBy m_drawn m_ranSteps m_loops m_ran m_told1 m_isTold m_marks)) (hq1 : inR sd 10000 → ¬ D.dth = 0 → ∀ (a2 r2 l2 x2 : Nat → Int32) (d2 : Int32) (sc : MS), vT a2 (tLt t (tLv t D sd lco lro).2) → frA m_at a2 → SKo (tLt t (tLv t D sd lco lro).2) → (∀ j, j < 5 → x2 j = (tLv t D sd lco lro).2.2.2.2.2.1 j) → Q (some (.int (tLv t D sd lco lro).1)) (hM (a2) m_names (0) m_top m_bottom m_sort m_trayMany m_trays m_tape m_text m_taped m_size m_token m_from m_end m_value m_faultKind m_faultPlace m_faults m_seen m_areOdds m_opened m_depth m_counted (sc.2.1) (sc.2.2) (sc.1) m_wayFaults m_wayEast m_wayNorth m_olds m_wayMany m_oneOfSet m_twoOfSet m_farBy m_rowBy m_triedBy m_rowMany m_doneAt m_gotAt m_struckAt m_bestDeed m_misBy (d2) ((tLv t D sd lco lro).1) (l2) (r2) (x2) (1) m_marks)) : Call Γ M_Mo_live 10 0 0 [.ref 0, .int sd] (hM m_at m_names m_status m_top m_bottom m_sort m_trayMany m_trays m_tape m_text m_taped m_size m_token m_from m_end m_value m_faultKind m_faultPlace m_faults m_seen m_areOdds m_opened m_depth m_counted m_eastBy m_northBy m_partBy m_wayFaults m_wayEast m_wayNorth m_olds m_wayMany m_oneOfSet m_twoOfSet m_farBy m_rowBy m_triedBy m_rowMany m_doneAt m_gotAt m_struckAt m_bestDeed m_misBy m_drawn m_ranSteps m_loops m_ran m_told1 m_isTold m_marks) Q := by
  refine call_intro (ls := [some (.ref 0), some (.int sd), none]) rfl rfl rfl ?_
  refine wp_iload_n 1 d_Mo_live_0 rfl rfl ?_
  refine wp_i2l 2 d_Mo_live_1 rfl ?_
  refine wp_lconst 3 0 d_Mo_live_2 rfl (by decide) ?_
  refine wp_ldc2 6 (9999 : Int64) d_Mo_live_3 rfl ct_Mo_485 ?_
  refine wp_S3 9 M_Mo_isFrom 1 d_Mo_live_6 rfl ms_Mo_isFrom lk_Mo_356 rfl rfl ?_
  refine c_Mo_isFrom ?_
  refine kI ?_
  (first | refine wp_ifP_ne 18 12 d_Mo_live_9 rfl (by decide) (fun h9 => ?_) (fun h9 => ?_) | refine wp_if_ne 18 12 d_Mo_live_9 rfl (by decide) (fun h9 => ?_) (fun h9 => ?_))
  · have h9_ := in9999.mp h9
    refine wp_aload_n 19 d_Mo_live_18 rfl rfl ?_
    refine wp_getfield 22 12 0 d_Mo_live_19 rfl fl_Mo_7 rfl rfl ?_
    refine wp_bipush 24 7 d_Mo_live_22 rfl (by decide) ?_
    refine wp_iaload 25 d_Mo_live_24 rfl rfl (vp_in_nI (n := 7) (N := 2332) (by omega) (by omega)) ?_
    rw [show m_at (7 : Int32).toNatClampNeg = m_at 7 from rfl]
    refine wp_iconst 26 (-1) d_Mo_live_25 rfl (by decide) ?_
    refine wp_icmp_ne 36 29 d_Mo_live_26 rfl (by decide) (fun h26 => ?_) (fun h26 => ?_)
    · have hdt : ¬ D.dth = 0 := fun z => h26 (by rw [hD.1, if_pos z])
      refine wp_aload_n 37 d_Mo_live_36 rfl rfl ?_
      refine wp_iload_n 38 d_Mo_live_37 rfl rfl ?_
      refine wp_V1 41 M_Mo_lives 9 d_Mo_live_38 rfl mv_Mo_lives lk_Mo_487 rfl rfl rfl rfl rfl ?_
      obtain ⟨hn, hrow, W⟩ := hD.2 hdt
      refine c_Mo_lives (lco := lco) (lro := lro) V K (ok10 h9_) hn (vD_1 hD hdt) hrow W (fun a2 r2 l2 d2 sc v2 f2 c2 k2 => ?_)
      refine kV ?_
      refine wp_iconst 42 0 d_Mo_live_41 rfl (by decide) ?_
      refine wp_istore_2 43 d_Mo_live_42 rfl rfl rfl ?_
      refine l_Mo_live_43 (fun x2 w2 hx => ?_) 5 0 m_told1 rfl (fun j hj => absurd hj (by omega))
      refine wp_aload_n 67 d_Mo_live_66 rfl rfl ?_
      refine wp_iconst 68 1 d_Mo_live_67 rfl (by decide) ?_
      refine wp_putfield 71 12 48 _ d_Mo_live_68 rfl fp_Mo_490 rfl rfl (fun _ => ⟨rfl, rfl⟩) ?_
      refine hEq (hM (a2) m_names m_status m_top m_bottom m_sort m_trayMany m_trays m_tape m_text m_taped m_size m_token m_from m_end m_value m_faultKind m_faultPlace m_faults m_seen m_areOdds m_opened m_depth m_counted (sc.2.1) (sc.2.2) (sc.1) m_wayFaults m_wayEast m_wayNorth m_olds m_wayMany m_oneOfSet m_twoOfSet m_farBy m_rowBy m_triedBy m_rowMany m_doneAt m_gotAt m_struckAt m_bestDeed m_misBy (d2) ((tLv t D sd lco lro).1) (l2) (r2) (x2) (1) m_marks) rfl ?_
      refine wp_aload_n 72 d_Mo_live_71 rfl rfl ?_
      refine wp_aload_n 73 d_Mo_live_72 rfl rfl ?_
      refine wp_getfield 76 12 44 d_Mo_live_73 rfl fl_Mo_473 rfl rfl ?_
      refine wp_V1 79 M_Mo_gives 1 d_Mo_live_76 rfl mv_Mo_gives lk_Mo_115 rfl rfl rfl rfl rfl ?_
      refine c_Mo_gives ?_
      refine kI ?_
      refine wp_ireturn d_Mo_live_79 rfl ?_
      exact hq1 h9_ hdt a2 r2 l2 x2 d2 sc v2 f2 k2 (fun j hj => (hx j hj).trans (c2 j hj))
    · refine wp_aload_n 30 d_Mo_live_29 rfl rfl ?_
      refine wp_bipush 32 6 d_Mo_live_30 rfl (by decide) ?_
      refine wp_V1 35 M_Mo_refuse 1 d_Mo_live_32 rfl mv_Mo_refuse lk_Mo_111 rfl rfl rfl rfl rfl ?_
      refine c_Mo_refuse ?_
      refine kI ?_
      refine wp_ireturn d_Mo_live_35 rfl ?_
      exact hq0 6 (Or.inr ⟨h9_, vD_0 hD h26, rfl⟩)
  · refine wp_aload_n 13 d_Mo_live_12 rfl rfl ?_
    refine wp_iconst 14 1 d_Mo_live_13 rfl (by decide) ?_
    refine wp_V1 17 M_Mo_refuse 1 d_Mo_live_14 rfl mv_Mo_refuse lk_Mo_111 rfl rfl rfl rfl rfl ?_
    refine c_Mo_refuse ?_
    refine kI ?_
    refine wp_ireturn d_Mo_live_17 rfl ?_
    exact hq0 1 (Or.inl ⟨fun z => h9 (in9999.mpr z), rfl⟩)

set_option maxRecDepth 100000 in
set_option maxHeartbeats 4000000 in
theorem l_Mo_keeps_2 (hq : ∀ a : Nat → Int32, (∀ j, j < 82 → a (2250 + j) = m_at j) → (∀ j, j < 2250 → a j = m_at j) → Q none (hM (a) m_names m_status m_top m_bottom m_sort m_trayMany m_trays m_tape m_text m_taped m_size m_token m_from m_end m_value m_faultKind m_faultPlace m_faults m_seen m_areOdds m_opened m_depth m_counted m_eastBy m_northBy m_partBy m_wayFaults m_wayEast m_wayNorth m_olds m_wayMany m_oneOfSet m_twoOfSet m_farBy m_rowBy m_triedBy m_rowMany m_doneAt m_gotAt m_struckAt m_bestDeed m_misBy m_drawn m_ranSteps m_loops m_ran m_told1 m_isTold m_marks)) : ∀ (n i : Nat) (a : Nat → Int32), i + n = 82 → (∀ j, j < i → a (2250 + j) = m_at j) → (∀ j, j < 2250 → a j = m_at j) → WP Γ M_Mo_keeps 1 0 0 (hM (a) m_names m_status m_top m_bottom m_sort m_trayMany m_trays m_tape m_text m_taped m_size m_token m_from m_end m_value m_faultKind m_faultPlace m_faults m_seen m_areOdds m_opened m_depth m_counted m_eastBy m_northBy m_partBy m_wayFaults m_wayEast m_wayNorth m_olds m_wayMany m_oneOfSet m_twoOfSet m_farBy m_rowBy m_triedBy m_rowMany m_doneAt m_gotAt m_struckAt m_bestDeed m_misBy m_drawn m_ranSteps m_loops m_ran m_told1 m_isTold m_marks) 2 [some (.ref 0), some (.int 2250), some (.int (nI i))] [] Q := by
  intro n
  induction n with
  | zero =>
    intro i a hi h0 h1
    refine wp_iload_n 3 d_Mo_keeps_2 rfl rfl ?_
    refine wp_bipush 5 82 d_Mo_keeps_3 rfl (by decide) ?_
    refine wp_icmp_ge 28 8 d_Mo_keeps_5 rfl (by decide) (fun h5 => ?_) (fun h5 => ?_)
    · refine wp_return d_Mo_keeps_28 rfl ?_
      exact hq a (fun j hj => h0 j (by omega)) h1
    · exact absurd (nI_ltN (b := 82) (Int32.not_le.mp h5) (by omega) (by omega)) (by omega)
  | succ n ih =>
    intro i a hi h0 h1
    refine wp_iload_n 3 d_Mo_keeps_2 rfl rfl ?_
    refine wp_bipush 5 82 d_Mo_keeps_3 rfl (by decide) ?_
    refine wp_icmp_ge 28 8 d_Mo_keeps_5 rfl (by decide) (fun h5 => ?_) (fun h5 => ?_)
    · exact absurd (nI_leN (b := 82) h5 (by omega) (by omega)) (by omega)
    · refine wp_aload_n 9 d_Mo_keeps_8 rfl rfl ?_
      refine wp_getfield 12 12 0 d_Mo_keeps_9 rfl fl_Mo_7 rfl rfl ?_
      refine wp_iload_n 13 d_Mo_keeps_12 rfl rfl ?_
      refine wp_iload_n 14 d_Mo_keeps_13 rfl rfl ?_
      refine wp_iadd 15 d_Mo_keeps_14 rfl ?_
      rw [show (2250 : Int32) + nI i = nI (2250 + i) from nI_add 2250 _]
      refine wp_aload_n 16 d_Mo_keeps_15 rfl rfl ?_
      refine wp_getfield 19 12 0 d_Mo_keeps_16 rfl fl_Mo_7 rfl rfl ?_
      refine wp_iload_n 20 d_Mo_keeps_19 rfl rfl ?_
      refine wp_ialoadN 21 d_Mo_keeps_20 rfl rfl rfl (by omega) ?_
      refine wp_iastoreN 22 d_Mo_keeps_21 rfl rfl rfl (by omega) ?_
      refine hEq (hM (upd a (2250 + i) (a i)) m_names m_status m_top m_bottom m_sort m_trayMany m_trays m_tape m_text m_taped m_size m_token m_from m_end m_value m_faultKind m_faultPlace m_faults m_seen m_areOdds m_opened m_depth m_counted m_eastBy m_northBy m_partBy m_wayFaults m_wayEast m_wayNorth m_olds m_wayMany m_oneOfSet m_twoOfSet m_farBy m_rowBy m_triedBy m_rowMany m_doneAt m_gotAt m_struckAt m_bestDeed m_misBy m_drawn m_ranSteps m_loops m_ran m_told1 m_isTold m_marks) rfl ?_
      first | refine wp_iincN_2 25 d_Mo_keeps_22 rfl rfl rfl ?_ | refine wp_iinc_2 25 1 d_Mo_keeps_22 rfl (by decide) rfl rfl ?_
      refine wp_goto 2 d_Mo_keeps_25 (by decide) ?_
      refine ih (i + 1) (upd a (2250 + i) (a i)) (by omega) (fun j hj => ?_) (fun j hj => ?_)
      by_cases z : j = i
      · rw [z, upd_at]; exact h1 i (by omega)
      · rw [upd_ne (by omega)]; exact h0 j (by omega)
      rw [upd_ne (by omega)]; exact h1 j hj
set_option maxRecDepth 100000 in
set_option maxHeartbeats 4000000 in
theorem c_Mo_keeps (hq : ∀ a : Nat → Int32, (∀ j, j < 82 → a (2250 + j) = m_at j) → (∀ j, j < 2250 → a j = m_at j) → Q none (hM (a) m_names m_status m_top m_bottom m_sort m_trayMany m_trays m_tape m_text m_taped m_size m_token m_from m_end m_value m_faultKind m_faultPlace m_faults m_seen m_areOdds m_opened m_depth m_counted m_eastBy m_northBy m_partBy m_wayFaults m_wayEast m_wayNorth m_olds m_wayMany m_oneOfSet m_twoOfSet m_farBy m_rowBy m_triedBy m_rowMany m_doneAt m_gotAt m_struckAt m_bestDeed m_misBy m_drawn m_ranSteps m_loops m_ran m_told1 m_isTold m_marks)) : Call Γ M_Mo_keeps 1 0 0 [.ref 0, .int 2250] (hM m_at m_names m_status m_top m_bottom m_sort m_trayMany m_trays m_tape m_text m_taped m_size m_token m_from m_end m_value m_faultKind m_faultPlace m_faults m_seen m_areOdds m_opened m_depth m_counted m_eastBy m_northBy m_partBy m_wayFaults m_wayEast m_wayNorth m_olds m_wayMany m_oneOfSet m_twoOfSet m_farBy m_rowBy m_triedBy m_rowMany m_doneAt m_gotAt m_struckAt m_bestDeed m_misBy m_drawn m_ranSteps m_loops m_ran m_told1 m_isTold m_marks) Q := by
  refine call_intro (ls := [some (.ref 0), some (.int 2250), none]) rfl rfl rfl ?_
  refine wp_iconst 1 0 d_Mo_keeps_0 rfl (by decide) ?_
  refine wp_istore_2 2 d_Mo_keeps_1 rfl rfl rfl ?_
  exact l_Mo_keeps_2 hq 82 0 m_at rfl (fun j hj => absurd hj (by omega)) (fun _ _ => rfl)

set_option maxRecDepth 100000 in
set_option maxHeartbeats 4000000 in
theorem l_Mo_brings_2 (hq : ∀ a : Nat → Int32, (∀ j, j < 82 → a j = m_at (2250 + j)) → (∀ j, 82 ≤ j → a j = m_at j) → Q none (hM (a) m_names m_status m_top m_bottom m_sort m_trayMany m_trays m_tape m_text m_taped m_size m_token m_from m_end m_value m_faultKind m_faultPlace m_faults m_seen m_areOdds m_opened m_depth m_counted m_eastBy m_northBy m_partBy m_wayFaults m_wayEast m_wayNorth m_olds m_wayMany m_oneOfSet m_twoOfSet m_farBy m_rowBy m_triedBy m_rowMany m_doneAt m_gotAt m_struckAt m_bestDeed m_misBy m_drawn m_ranSteps m_loops m_ran m_told1 m_isTold m_marks)) : ∀ (n i : Nat) (a : Nat → Int32), i + n = 82 → (∀ j, j < i → a j = m_at (2250 + j)) → (∀ j, 82 ≤ j → a j = m_at j) → WP Γ M_Mo_brings 1 0 0 (hM (a) m_names m_status m_top m_bottom m_sort m_trayMany m_trays m_tape m_text m_taped m_size m_token m_from m_end m_value m_faultKind m_faultPlace m_faults m_seen m_areOdds m_opened m_depth m_counted m_eastBy m_northBy m_partBy m_wayFaults m_wayEast m_wayNorth m_olds m_wayMany m_oneOfSet m_twoOfSet m_farBy m_rowBy m_triedBy m_rowMany m_doneAt m_gotAt m_struckAt m_bestDeed m_misBy m_drawn m_ranSteps m_loops m_ran m_told1 m_isTold m_marks) 2 [some (.ref 0), some (.int 2250), some (.int (nI i))] [] Q := by
  intro n
  induction n with
  | zero =>
    intro i a hi h0 h1
    refine wp_iload_n 3 d_Mo_brings_2 rfl rfl ?_
    refine wp_bipush 5 82 d_Mo_brings_3 rfl (by decide) ?_
    refine wp_icmp_ge 28 8 d_Mo_brings_5 rfl (by decide) (fun h5 => ?_) (fun h5 => ?_)
    · refine wp_return d_Mo_brings_28 rfl ?_
      exact hq a (fun j hj => h0 j (by omega)) h1
    · exact absurd (nI_ltN (b := 82) (Int32.not_le.mp h5) (by omega) (by omega)) (by omega)
  | succ n ih =>
    intro i a hi h0 h1
    refine wp_iload_n 3 d_Mo_brings_2 rfl rfl ?_
    refine wp_bipush 5 82 d_Mo_brings_3 rfl (by decide) ?_
    refine wp_icmp_ge 28 8 d_Mo_brings_5 rfl (by decide) (fun h5 => ?_) (fun h5 => ?_)
    · exact absurd (nI_leN (b := 82) h5 (by omega) (by omega)) (by omega)
    · refine wp_aload_n 9 d_Mo_brings_8 rfl rfl ?_
      refine wp_getfield 12 12 0 d_Mo_brings_9 rfl fl_Mo_7 rfl rfl ?_
      refine wp_iload_n 13 d_Mo_brings_12 rfl rfl ?_
      refine wp_aload_n 14 d_Mo_brings_13 rfl rfl ?_
      refine wp_getfield 17 12 0 d_Mo_brings_14 rfl fl_Mo_7 rfl rfl ?_
      refine wp_iload_n 18 d_Mo_brings_17 rfl rfl ?_
      refine wp_iload_n 19 d_Mo_brings_18 rfl rfl ?_
      refine wp_iadd 20 d_Mo_brings_19 rfl ?_
      rw [show (2250 : Int32) + nI i = nI (2250 + i) from nI_add 2250 _]
      refine wp_ialoadN 21 d_Mo_brings_20 rfl rfl rfl (by omega) ?_
      refine wp_iastoreN 22 d_Mo_brings_21 rfl rfl rfl (by omega) ?_
      refine hEq (hM (upd a i (a (2250 + i))) m_names m_status m_top m_bottom m_sort m_trayMany m_trays m_tape m_text m_taped m_size m_token m_from m_end m_value m_faultKind m_faultPlace m_faults m_seen m_areOdds m_opened m_depth m_counted m_eastBy m_northBy m_partBy m_wayFaults m_wayEast m_wayNorth m_olds m_wayMany m_oneOfSet m_twoOfSet m_farBy m_rowBy m_triedBy m_rowMany m_doneAt m_gotAt m_struckAt m_bestDeed m_misBy m_drawn m_ranSteps m_loops m_ran m_told1 m_isTold m_marks) rfl ?_
      first | refine wp_iincN_2 25 d_Mo_brings_22 rfl rfl rfl ?_ | refine wp_iinc_2 25 1 d_Mo_brings_22 rfl (by decide) rfl rfl ?_
      refine wp_goto 2 d_Mo_brings_25 (by decide) ?_
      refine ih (i + 1) (upd a i (a (2250 + i))) (by omega) (fun j hj => ?_) (fun j hj => ?_)
      by_cases z : j = i
      · rw [z, upd_at]; exact h1 (2250 + i) (by omega)
      · rw [upd_ne z]; exact h0 j (by omega)
      rw [upd_ne (by omega)]; exact h1 j hj
set_option maxRecDepth 100000 in
set_option maxHeartbeats 4000000 in
theorem c_Mo_brings (hq : ∀ a : Nat → Int32, (∀ j, j < 82 → a j = m_at (2250 + j)) → (∀ j, 82 ≤ j → a j = m_at j) → Q none (hM (a) m_names m_status m_top m_bottom m_sort m_trayMany m_trays m_tape m_text m_taped m_size m_token m_from m_end m_value m_faultKind m_faultPlace m_faults m_seen m_areOdds m_opened m_depth m_counted m_eastBy m_northBy m_partBy m_wayFaults m_wayEast m_wayNorth m_olds m_wayMany m_oneOfSet m_twoOfSet m_farBy m_rowBy m_triedBy m_rowMany m_doneAt m_gotAt m_struckAt m_bestDeed m_misBy m_drawn m_ranSteps m_loops m_ran m_told1 m_isTold m_marks)) : Call Γ M_Mo_brings 1 0 0 [.ref 0, .int 2250] (hM m_at m_names m_status m_top m_bottom m_sort m_trayMany m_trays m_tape m_text m_taped m_size m_token m_from m_end m_value m_faultKind m_faultPlace m_faults m_seen m_areOdds m_opened m_depth m_counted m_eastBy m_northBy m_partBy m_wayFaults m_wayEast m_wayNorth m_olds m_wayMany m_oneOfSet m_twoOfSet m_farBy m_rowBy m_triedBy m_rowMany m_doneAt m_gotAt m_struckAt m_bestDeed m_misBy m_drawn m_ranSteps m_loops m_ran m_told1 m_isTold m_marks) Q := by
  refine call_intro (ls := [some (.ref 0), some (.int 2250), none]) rfl rfl rfl ?_
  refine wp_iconst 1 0 d_Mo_brings_0 rfl (by decide) ?_
  refine wp_istore_2 2 d_Mo_brings_1 rfl rfl rfl ?_
  exact l_Mo_brings_2 hq 82 0 m_at rfl (fun j hj => absurd hj (by omega)) (fun _ _ => rfl)

set_option maxRecDepth 100000 in
set_option maxHeartbeats 8000000 in
theorem l_Mo_mean_71 {D : DW} {sd : Int32} {q m : Nat} (hm : m ≤ 20) (hsd : sd = nI q) (hqm : q + m ≤ 10000) (V : vT m_at t) (K : SKo t) (hn : D.nR ≤ 60) (h7_ : m_at 7 = nI D.nR) (hrow : ∀ r, r < D.nR → ROW t.nW m_at (82 + 6 * r) (D.dk r) (D.df r) (D.ds r)) (W : WFD D) : ∀ (n i : Nat) (S : TW) (lco lro : Nat → Int32) (w : Int64) (a r lo : Nat → Int32) (rs dr : Int32) (sc : MS), i + n = m → tOK S → (∀ j, j < 2250 → a j = m_at j) → (∀ j, j < 82 → a (2250 + j) = m_at j) → 0 ≤ w.toInt → w.toInt ≤ 12 * i → (∀ (a2 r2 l2 : Nat → Int32) (rs2 d2 : Int32) (sc : MS), (∀ j, j < 2250 → a2 j = m_at j) → 0 ≤ (iterN (mnG t D sd) n i (w, S, lco, lro)).1.toInt → (iterN (mnG t D sd) n i (w, S, lco, lro)).1.toInt ≤ 12 * m → WP Γ M_Mo_mean 10 0 0 (hM (a2) m_names m_status m_top m_bottom m_sort m_trayMany m_trays m_tape m_text m_taped m_size m_token m_from m_end m_value m_faultKind m_faultPlace m_faults m_seen m_areOdds m_opened m_depth m_counted (sc.2.1) (sc.2.2) (sc.1) m_wayFaults m_wayEast m_wayNorth m_olds m_wayMany m_oneOfSet m_twoOfSet m_farBy m_rowBy m_triedBy m_rowMany m_doneAt m_gotAt m_struckAt m_bestDeed m_misBy (d2) (rs2) (l2) (r2) m_told1 m_isTold m_marks) 109 [some (.ref 0), some (.int sd), some (.int (nI m)), some (.long (iterN (mnG t D sd) n i (w, S, lco, lro)).1), none, some (.int (nI m))] [] Q) → WP Γ M_Mo_mean 10 0 0 (hM (a) m_names m_status m_top m_bottom m_sort m_trayMany m_trays m_tape m_text m_taped m_size m_token m_from m_end m_value m_faultKind m_faultPlace m_faults m_seen m_areOdds m_opened m_depth m_counted (sc.2.1) (sc.2.2) (sc.1) m_wayFaults m_wayEast m_wayNorth m_olds m_wayMany m_oneOfSet m_twoOfSet m_farBy m_rowBy m_triedBy m_rowMany m_doneAt m_gotAt m_struckAt m_bestDeed m_misBy (dr) (rs) (lo) (r) m_told1 m_isTold m_marks) 71 [some (.ref 0), some (.int sd), some (.int (nI m)), some (.long w), none, some (.int (nI i))] [] Q := by
  intro n
  induction n with
  | zero =>
    intro i S lco lro w a r lo rs dr sc hi hS ha hb hw0 hw1 hq
    refine wp_iload 73 d_Mo_mean_71 rfl rfl ?_
    refine wp_iload_n 74 d_Mo_mean_73 rfl rfl ?_
    refine wp_icmp_ge 109 77 d_Mo_mean_74 rfl (by decide) (fun h74 => ?_) (fun h74 => ?_)
    · obtain rfl : i = m := by omega
      exact hq a r lo rs dr sc ha hw0 hw1
    · exact absurd (nI_ltN (Int32.not_le.mp h74) (by omega) (by omega)) (by omega)
  | succ n ih =>
    intro i S lco lro w a r lo rs dr sc hi hS ha hb hw0 hw1 hq
    refine wp_iload 73 d_Mo_mean_71 rfl rfl ?_
    refine wp_iload_n 74 d_Mo_mean_73 rfl rfl ?_
    refine wp_icmp_ge 109 77 d_Mo_mean_74 rfl (by decide) (fun h74 => ?_) (fun h74 => ?_)
    · exact absurd (nI_leN h74 (by omega) (by omega)) (by omega)
    · refine wp_aload_n 78 d_Mo_mean_77 rfl rfl ?_
      refine wp_iload_n 79 d_Mo_mean_78 rfl rfl ?_
      refine wp_iload 81 d_Mo_mean_79 rfl rfl ?_
      refine wp_iadd 82 d_Mo_mean_81 rfl ?_
      refine wp_V1 85 M_Mo_lives 9 d_Mo_mean_82 rfl mv_Mo_lives lk_Mo_487 rfl rfl rfl rfl rfl ?_
      have Va : vT a t := vT_82 V (fun j hj => ha j (by omega))
      have V2 : vT a (tCp t S) := vT_tCp Va hS
      have h7a : a 7 = nI D.nR := (ha 7 (by omega)).trans h7_
      have hrow2 : ∀ r, r < D.nR → ROW t.nW a (82 + 6 * r) (D.dk r) (D.df r) (D.ds r) := fun r hr9 => ROW_fr (fun j hj _ => ha j (by omega)) (hrow r hr9)
      have hsd2 : okDr (sd + nI i) := by
        rw [hsd, nI_add]
        refine ⟨?_, ?_⟩ <;> rw [nI_toInt (by omega)] <;> omega
      refine c_Mo_lives (t := tCp t S) (D := D) (lco := lco) (lro := lro) V2 K hsd2 hn h7a hrow2 W (fun a2 r2 l2 d2 sc2 v2 f2 c2 k2 => ?_)
      refine kV ?_
      refine wp_lload_n 86 d_Mo_mean_85 rfl rfl ?_
      refine wp_aload_n 87 d_Mo_mean_86 rfl rfl ?_
      refine wp_V0 90 M_Mo_lying 7 d_Mo_mean_87 rfl mv_Mo_lying lk_Mo_328 rfl rfl rfl rfl rfl ?_
      refine c_Mo_lying v2 (fun sc3 hch3 => ?_)
      refine kI ?_
      refine wp_S1 93 M_Mo_bits 1 d_Mo_mean_90 rfl ms_Mo_bits lk_Mo_363 rfl rfl ?_
      refine c_Mo_bits (tLi_in (tLt_OK (tCp_OK V.ok hS))) ?_
      refine kI ?_
      refine wp_i2l 94 d_Mo_mean_93 rfl ?_
      refine wp_ladd 95 d_Mo_mean_94 rfl ?_
      refine wp_lstore_3 96 d_Mo_mean_95 rfl rfl rfl ?_
      refine wp_aload_n 97 d_Mo_mean_96 rfl rfl ?_
      refine wp_sipush 100 2250 d_Mo_mean_97 rfl (by decide) ?_
      refine wp_V1 103 M_Mo_brings 1 d_Mo_mean_100 rfl mv_Mo_brings lk_Mo_496 rfl rfl rfl rfl rfl ?_
      refine c_Mo_brings (fun a3 g1 g2 => ?_)
      refine kV ?_
      first | refine wp_iincN_5 106 d_Mo_mean_103 rfl rfl rfl ?_ | refine wp_iinc_5 106 1 d_Mo_mean_103 rfl (by decide) rfl rfl ?_
      refine wp_goto 71 d_Mo_mean_106 (by decide) ?_
      have hin := tLi_in (tLt_OK (r := (mnR t D sd i (w, S, lco, lro)).2) (tCp_OK V.ok hS))
      obtain ⟨w0, w1⟩ := add12 hin hw0 hw1 (by omega)
      exact ih (i + 1) (tLt (tCp t S) (mnR t D sd i (w, S, lco, lro)).2) (mnR t D sd i (w, S, lco, lro)).2.2.2.2.2.1 (mnR t D sd i (w, S, lco, lro)).2.2.2.2.2.2.1 _ a3 r2 l2 _ d2 sc3 (by omega) (tLt_OK (tCp_OK V.ok hS)) (fun j hj => by
        rcases Nat.lt_or_ge j 82 with z | z
        · rw [g1 j z, f2 _ (Or.inr (by omega))]; exact hb j z
        · rw [g2 j z, f2 j (Or.inr z)]; exact ha j hj) (fun j hj => by
        rw [g2 _ (by omega), f2 _ (Or.inr (by omega))]; exact hb j hj) w0 w1 hq
set_option maxRecDepth 100000 in
set_option maxHeartbeats 4000000 in
theorem c_Mo_mean {D : DW} {a b : Int32} {S : TW} {lco lro : Nat → Int32} (V : vT m_at t) (K : SKo t) (hD : vD t.nW m_at D) (hS : tOK S) (hq0 : ∀ v : Int32, (¬ meC a b ∧ v = 1) ∨ (meC a b ∧ D.dth = 0 ∧ v = 6) → Q (some (.int 0)) (hM m_at m_names (v) m_top m_bottom m_sort m_trayMany m_trays m_tape m_text m_taped m_size m_token m_from m_end m_value m_faultKind m_faultPlace m_faults m_seen m_areOdds m_opened m_depth m_counted m_eastBy m_northBy m_partBy m_wayFaults m_wayEast m_wayNorth m_olds m_wayMany m_oneOfSet m_twoOfSet m_farBy m_rowBy m_triedBy m_rowMany m_doneAt m_gotAt m_struckAt m_bestDeed m_misBy m_drawn m_ranSteps m_loops m_ran m_told1 m_isTold m_marks)) (hq1 : meC a b → ¬ D.dth = 0 → ∀ (a2 r2 l2 : Nat → Int32) (rs2 d2 : Int32) (sc : MS), (∀ j, j < 2250 → a2 j = m_at j) → Q (some (.int 1)) (hM (a2) m_names (0) ((frT (mnF t D a b.toNatClampNeg S lco lro) b.toInt64 m_top)) ((frB (mnF t D a b.toNatClampNeg S lco lro) b.toInt64 m_bottom)) m_sort m_trayMany m_trays m_tape m_text m_taped m_size m_token m_from m_end m_value m_faultKind m_faultPlace m_faults m_seen m_areOdds m_opened m_depth m_counted (sc.2.1) (sc.2.2) (sc.1) m_wayFaults m_wayEast m_wayNorth m_olds m_wayMany m_oneOfSet m_twoOfSet m_farBy m_rowBy m_triedBy m_rowMany m_doneAt m_gotAt m_struckAt m_bestDeed m_misBy (d2) (rs2) (l2) (r2) m_told1 m_isTold m_marks)) : Call Γ M_Mo_mean 10 0 0 [.ref 0, .int a, .int b] (hM m_at m_names m_status m_top m_bottom m_sort m_trayMany m_trays m_tape m_text m_taped m_size m_token m_from m_end m_value m_faultKind m_faultPlace m_faults m_seen m_areOdds m_opened m_depth m_counted m_eastBy m_northBy m_partBy m_wayFaults m_wayEast m_wayNorth m_olds m_wayMany m_oneOfSet m_twoOfSet m_farBy m_rowBy m_triedBy m_rowMany m_doneAt m_gotAt m_struckAt m_bestDeed m_misBy m_drawn m_ranSteps m_loops m_ran m_told1 m_isTold m_marks) Q := by
  refine call_intro (ls := [some (.ref 0), some (.int a), some (.int b), none, none, none]) rfl rfl rfl ?_
  refine wp_iload_n 1 d_Mo_mean_0 rfl rfl ?_
  refine wp_i2l 2 d_Mo_mean_1 rfl ?_
  refine wp_lconst 3 0 d_Mo_mean_2 rfl (by decide) ?_
  refine wp_ldc2 6 (9999 : Int64) d_Mo_mean_3 rfl ct_Mo_485 ?_
  refine wp_S3 9 M_Mo_isFrom 1 d_Mo_mean_6 rfl ms_Mo_isFrom lk_Mo_356 rfl rfl ?_
  refine c_Mo_isFrom ?_
  refine kI ?_
  (first | refine wp_ifP_eq 35 12 d_Mo_mean_9 rfl (by decide) (fun h9 => ?_) (fun h9 => ?_) | refine wp_if_eq 35 12 d_Mo_mean_9 rfl (by decide) (fun h9 => ?_) (fun h9 => ?_))
  · refine wp_aload_n 36 d_Mo_mean_35 rfl rfl ?_
    refine wp_iconst 37 1 d_Mo_mean_36 rfl (by decide) ?_
    refine wp_V1 40 M_Mo_is 1 d_Mo_mean_37 rfl mv_Mo_is lk_Mo_118 rfl rfl rfl rfl rfl ?_
    refine c_Mo_is ?_
    refine kI ?_
    rw [show bP ((1 : Int32) = 0) = 0 from rfl]
    refine wp_zreturn d_Mo_mean_40 rfl (by first | rfl | exact nbP _) ?_
    exact hq0 1 (Or.inl ⟨fun z => h9 (in9999.mpr z.1), rfl⟩)
  · refine wp_iload_n 13 d_Mo_mean_12 rfl rfl ?_
    refine wp_i2l 14 d_Mo_mean_13 rfl ?_
    refine wp_lconst 15 1 d_Mo_mean_14 rfl (by decide) ?_
    refine wp_ldc2 18 (20 : Int64) d_Mo_mean_15 rfl ct_Mo_439 ?_
    refine wp_S3 21 M_Mo_isFrom 1 d_Mo_mean_18 rfl ms_Mo_isFrom lk_Mo_356 rfl rfl ?_
    refine c_Mo_isFrom ?_
    refine kI ?_
    (first | refine wp_ifP_eq 35 24 d_Mo_mean_21 rfl (by decide) (fun h21 => ?_) (fun h21 => ?_) | refine wp_if_eq 35 24 d_Mo_mean_21 rfl (by decide) (fun h21 => ?_) (fun h21 => ?_))
    · refine wp_aload_n 36 d_Mo_mean_35 rfl rfl ?_
      refine wp_iconst 37 1 d_Mo_mean_36 rfl (by decide) ?_
      refine wp_V1 40 M_Mo_is 1 d_Mo_mean_37 rfl mv_Mo_is lk_Mo_118 rfl rfl rfl rfl rfl ?_
      refine c_Mo_is ?_
      refine kI ?_
      rw [show bP ((1 : Int32) = 0) = 0 from rfl]
      refine wp_zreturn d_Mo_mean_40 rfl (by first | rfl | exact nbP _) ?_
      exact hq0 1 (Or.inl ⟨fun z => h21 (in120.mpr ⟨z.2.1, z.2.2.1⟩), rfl⟩)
    · refine wp_iload_n 25 d_Mo_mean_24 rfl rfl ?_
      refine wp_iload_n 26 d_Mo_mean_25 rfl rfl ?_
      refine wp_iadd 27 d_Mo_mean_26 rfl ?_
      refine wp_iconst 28 1 d_Mo_mean_27 rfl (by decide) ?_
      refine wp_isub 29 d_Mo_mean_28 rfl ?_
      refine wp_sipush 32 9999 d_Mo_mean_29 rfl (by decide) ?_
      refine wp_icmp_le 41 35 d_Mo_mean_32 rfl (by decide) (fun h32 => ?_) (fun h32 => ?_)
      · have hme : meC a b := ⟨in9999.mp h9, (in120.mp h21).1, (in120.mp h21).2, fun z => absurd h32 (Int32.not_le.mpr z)⟩
        refine wp_aload_n 42 d_Mo_mean_41 rfl rfl ?_
        refine wp_getfield 45 12 0 d_Mo_mean_42 rfl fl_Mo_7 rfl rfl ?_
        refine wp_bipush 47 7 d_Mo_mean_45 rfl (by decide) ?_
        refine wp_iaload 48 d_Mo_mean_47 rfl rfl (vp_in_nI (n := 7) (N := 2332) (by omega) (by omega)) ?_
        rw [show m_at (7 : Int32).toNatClampNeg = m_at 7 from rfl]
        refine wp_iconst 49 (-1) d_Mo_mean_48 rfl (by decide) ?_
        refine wp_icmp_ne 59 52 d_Mo_mean_49 rfl (by decide) (fun h49 => ?_) (fun h49 => ?_)
        · have hdt : ¬ D.dth = 0 := fun z => h49 (by rw [hD.1, if_pos z])
          obtain ⟨hn, hrow, W⟩ := hD.2 hdt
          obtain ⟨q, m, rfl, rfl, m1, m2, m3⟩ := me_nI hme
          refine wp_aload_n 60 d_Mo_mean_59 rfl rfl ?_
          refine wp_sipush 63 2250 d_Mo_mean_60 rfl (by decide) ?_
          refine wp_V1 66 M_Mo_keeps 1 d_Mo_mean_63 rfl mv_Mo_keeps lk_Mo_493 rfl rfl rfl rfl rfl ?_
          refine c_Mo_keeps (fun a1 g1 g2 => ?_)
          refine kV ?_
          refine wp_lconst 67 0 d_Mo_mean_66 rfl (by decide) ?_
          refine wp_lstore_3 68 d_Mo_mean_67 rfl rfl rfl ?_
          refine wp_iconst 69 0 d_Mo_mean_68 rfl (by decide) ?_
          refine wp_istore_5 71 d_Mo_mean_69 rfl rfl rfl ?_
          refine l_Mo_mean_71 (sd := nI q) (q := q) (m := m) (D := D) (by omega) rfl (by omega) V K hn (vD_1 hD hdt) hrow W m 0 S lco lro 0 a1 m_ran m_loops m_ranSteps m_drawn (m_partBy, m_eastBy, m_northBy) (by omega) hS g2 g1 (by decide) (by decide) (fun a2 r2 l2 rs2 d2 sc e2 x0 x1 => ?_)
          refine wp_aload_n 110 d_Mo_mean_109 rfl rfl ?_
          refine wp_lload_n 111 d_Mo_mean_110 rfl rfl ?_
          refine wp_iload_n 112 d_Mo_mean_111 rfl rfl ?_
          refine wp_i2l 113 d_Mo_mean_112 rfl ?_
          refine wp_V2 116 M_Mo_tellsBy 2 d_Mo_mean_113 rfl mv_Mo_tellsBy lk_Mo_407 rfl rfl rfl rfl rfl ?_
          refine c_tells (gcd_ok x0 (by rw [Int32.toInt_toInt64, nI_toInt (by omega)]; omega) (by rw [Int32.toInt_toInt64, nI_toInt (by omega)]; omega)) ?_
          refine kI ?_
          refine wp_zreturn d_Mo_mean_116 rfl (by first | rfl | exact nbP _) ?_
          have ec : (nI m).toNatClampNeg = m := nI_clamp (by omega)
          have hz := hq1 hme hdt a2 r2 l2 rs2 d2 sc e2
          rw [ec] at hz
          exact hz
        · refine wp_aload_n 53 d_Mo_mean_52 rfl rfl ?_
          refine wp_bipush 55 6 d_Mo_mean_53 rfl (by decide) ?_
          refine wp_V1 58 M_Mo_is 1 d_Mo_mean_55 rfl mv_Mo_is lk_Mo_118 rfl rfl rfl rfl rfl ?_
          refine c_Mo_is ?_
          refine kI ?_
          rw [show bP ((6 : Int32) = 0) = 0 from rfl]
          refine wp_zreturn d_Mo_mean_58 rfl (by first | rfl | exact nbP _) ?_
          exact hq0 6 (Or.inr ⟨hme, vD_0 hD h49, rfl⟩)
      · refine wp_aload_n 36 d_Mo_mean_35 rfl rfl ?_
        refine wp_iconst 37 1 d_Mo_mean_36 rfl (by decide) ?_
        refine wp_V1 40 M_Mo_is 1 d_Mo_mean_37 rfl mv_Mo_is lk_Mo_118 rfl rfl rfl rfl rfl ?_
        refine c_Mo_is ?_
        refine kI ?_
        rw [show bP ((1 : Int32) = 0) = 0 from rfl]
        refine wp_zreturn d_Mo_mean_40 rfl (by first | rfl | exact nbP _) ?_
        exact hq0 1 (Or.inl ⟨fun z => h32 (Int32.not_lt.mp z.2.2.2), rfl⟩)

end TAA
