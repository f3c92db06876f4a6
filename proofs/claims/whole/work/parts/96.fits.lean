/-! ===== the reference: FITS ===== -/
theorem inC {x d : Int32} {c : Int64} (h : c.toInt + 1 = d.toInt) : ((0 : Int64) ≤ x.toInt64 ∧ x.toInt64 ≤ c) ↔ inR x d := by
  have a : ((0 : Int64)).toInt = 0 := rfl
  have b : ((0 : Int32)).toInt = 0 := rfl
  rw [Int64.le_iff_toInt_le, Int64.le_iff_toInt_le, Int32.toInt_toInt64, a]
  unfold inR
  rw [Int32.le_iff_toInt_le, Int32.lt_iff_toInt_lt, b]
  omega
theorem isS_c : ∀ w, w < 5 → (((1 : Int64) <<< ((nI w).toInt64 &&& 63)) - 1).toInt + 1 = (bit (nI w)).toInt := by decide +kernel
theorem bit_16 : ∀ w, w < 5 → bit (nI w) = nI (2 ^ w) ∧ 2 ^ w ≤ 16 := by decide +kernel
theorem lt23 {x : Int32} : 2 < x ↔ 3 ≤ x := by
  have a : (2 : Int32).toInt = 2 := rfl
  have b : (3 : Int32).toInt = 3 := rfl
  rw [Int32.lt_iff_toInt_lt, Int32.le_iff_toInt_le, a, b]; omega
theorem ws_in {t : TW} (I : tOK t) {s : Int32} (h : inR s (bit (nI t.nW))) : vp_in s 4096 := by
  have hW := I.hW
  obtain ⟨e, e2⟩ := bit_16 t.nW (by omega)
  rw [e] at h
  exact inR_in h (by omega) (by omega)
theorem div24 : ∀ i, i < 576 → nI i / 24 = nI (i / 24) ∧ nI i - nI i / 24 * 24 = nI (i % 24) := by decide +kernel
theorem mulK (k n : Nat) : nI k * nI n = nI (k * n) := pk_mul k n
theorem vT_fa {a : Nat → Int32} {t : TW} {fa : Nat → Int32} (V : vT a (tFa t fa)) (J : tIn t) (h : ∀ j, j < t.nW → fa j = t.fa j) : vT a t := by
  refine ⟨V.1, fun w hw => ?_, V.2.2.1, V.ok, J⟩
  have := V.wk (w := w) hw
  rw [show (tFa t fa).fa w = t.fa w from h w hw] at this
  exact this
theorem vT_tf {a : Nat → Int32} {t : TW} (V : vT a t) : vT a (tFa t t.fa) := V
theorem frA_be {m a : Nat → Int32} {w : Nat} {f : Int32} (h : frA m a) (hw : w < 4) : frA m (beU a w f) := fun j hj => by rw [beU_ne (by omega)]; exact h j hj
def FI0 (t : TW) (on ot : Int32) (fa : Nat → Int32) : Prop := ∀ j, j < t.nW → ¬ nI j = ot → ¬ nI j = on → fa j = t.fa j
theorem FI0_u {t : TW} {on ot : Int32} {fa : Nat → Int32} {a : Nat} {v : Int32} (I : tOK t) (h : FI0 t on ot fa) (ha : nI a = on ∨ nI a = ot) : FI0 t on ot (upd fa a v) := fun j hj h1 h2 => by
  rw [upd_ne (fun e => by subst e; exact ha.elim h2 h1)]; exact h j hj h1 h2
theorem FIT_a {t : TW} {f g : Nat} {fa : Nat → Int32} (I : tOK t) (h : FI0 t (-1) (-1) fa) : FIT t (-1) (-1) f g fa := fun w hw => by
  have hW := I.hW
  rw [if_neg (nI_ne1 (by omega)), if_neg (nI_ne1 (by omega))]
  exact h w hw (nI_ne1 (by omega)) (nI_ne1 (by omega))
theorem FIT_b {t : TW} {a f g : Nat} {fa : Nat → Int32} (I : tOK t) (ha : a < t.nW) (h : FI0 t (nI a) (-1) fa) : FIT t (nI a) (-1) f g (upd fa a (nI f)) := fun w hw => by
  have hW := I.hW
  rw [if_neg (nI_ne1 (by omega))]
  by_cases e : w = a
  · rw [e, if_pos rfl, upd_at]
  · rw [if_neg (fun z => e (nI_ij z (by omega) (by omega))), upd_ne e]
    exact h w hw (nI_ne1 (by omega)) (fun z => e (nI_ij z (by omega) (by omega)))
theorem FIT_c {t : TW} {a b f g : Nat} {fa : Nat → Int32} (I : tOK t) (ha : a < t.nW) (hb : b < t.nW) (h : FI0 t (nI a) (nI b) fa) : FIT t (nI a) (nI b) f g (upd (upd fa a (nI f)) b (nI g)) := fun w hw => by
  have hW := I.hW
  by_cases e : w = b
  · rw [e, if_pos rfl, upd_at]
  · rw [if_neg (fun z => e (nI_ij z (by omega) (by omega))), upd_ne e]
    by_cases e2 : w = a
    · rw [e2, if_pos rfl, upd_at]
    · rw [if_neg (fun z => e2 (nI_ij z (by omega) (by omega))), upd_ne e2]
      exact h w hw (fun z => e (nI_ij z (by omega) (by omega))) (fun z => e2 (nI_ij z (by omega) (by omega)))
theorem wsG_n {t : TW} {on ot : Int32} {nG i : Nat} {w : WS} (h : w.2.2.2 ≤ i) : (wsG t on ot nG i w).2.2.2 ≤ i + 1 := by
  unfold wsG
  split
  · show w.2.2.2 + 1 ≤ i + 1; omega
  · omega
def fiV (on ot : Int32) (its : Nat) (w : Int32) : Int32 := if ot = -1 then nI its else if w = on then nI (its / 24) else nI (its % 24)
theorem fiV_eq {t : TW} (I : tOK t) {set w : Int32} {its : Nat} (hw : inR w (nI t.nW)) (hs_ : hs set w) : fiV (tPk t set).1 (tPk t set).2 its w = if w = (tPk t set).1 then nI (its / wsN (tPk t set).2) else nI (its % wsN (tPk t set).2) := by
  have hW := I.hW
  obtain ⟨k, hk, rfl⟩ := inR_ex hw (by omega)
  unfold fiV wsN
  rcases tPk_I I set with ⟨h1, h2, h3⟩ | ⟨a, ha, h1, h2, ⟨h3, h4⟩ | ⟨b, hb, h3, h4, h5⟩⟩
  · exact absurd hs_ (h3 k hk)
  · rw [h3, if_pos rfl, if_pos rfl, h1, if_pos (by rw [h4 k hk hs_]), Nat.div_one]
  · rw [h3, if_neg (nI_ne1 (by omega)), if_neg (nI_ne1 (by omega))]
section T96
variable {Γ : Gm} {Q : Option Value → LH → Prop} {m_at m_sort m_trayMany m_tape m_text m_opened m_eastBy m_northBy m_partBy m_wayFaults m_wayEast m_wayNorth m_olds m_farBy m_rowBy m_triedBy m_doneAt m_gotAt m_struckAt m_bestDeed m_loops m_ran m_told1 : Nat → Int32} {m_names m_trays m_misBy : Nat → Int64} {m_status m_taped m_size m_token m_from m_end m_value m_faultKind m_faultPlace m_faults m_seen m_areOdds m_depth m_counted m_wayMany m_oneOfSet m_twoOfSet m_rowMany m_drawn m_ranSteps m_isTold m_marks : Int32} {m_top m_bottom : Int64} {t : TW}
set_option maxRecDepth 100000 in
set_option maxHeartbeats 4000000 in
theorem c_Mo_isSet {s : Int32} (V : vT m_at t) (hq : Q (some (.int (bP (isWs t s)))) (hM m_at m_names m_status m_top m_bottom m_sort m_trayMany m_trays m_tape m_text m_taped m_size m_token m_from m_end m_value m_faultKind m_faultPlace m_faults m_seen m_areOdds m_opened m_depth m_counted m_eastBy m_northBy m_partBy m_wayFaults m_wayEast m_wayNorth m_olds m_wayMany m_oneOfSet m_twoOfSet m_farBy m_rowBy m_triedBy m_rowMany m_doneAt m_gotAt m_struckAt m_bestDeed m_misBy m_drawn m_ranSteps m_loops m_ran m_told1 m_isTold m_marks)) : Call Γ M_Mo_isSet 2 0 0 [.ref 0, .int s] (hM m_at m_names m_status m_top m_bottom m_sort m_trayMany m_trays m_tape m_text m_taped m_size m_token m_from m_end m_value m_faultKind m_faultPlace m_faults m_seen m_areOdds m_opened m_depth m_counted m_eastBy m_northBy m_partBy m_wayFaults m_wayEast m_wayNorth m_olds m_wayMany m_oneOfSet m_twoOfSet m_farBy m_rowBy m_triedBy m_rowMany m_doneAt m_gotAt m_struckAt m_bestDeed m_misBy m_drawn m_ranSteps m_loops m_ran m_told1 m_isTold m_marks) Q := by
  refine call_intro (ls := [some (.ref 0), some (.int s)]) rfl rfl rfl ?_
  refine wp_iload_n 1 d_Mo_isSet_0 rfl rfl ?_
  refine wp_i2l 2 d_Mo_isSet_1 rfl ?_
  refine wp_lconst 3 0 d_Mo_isSet_2 rfl (by decide) ?_
  refine wp_lconst 4 1 d_Mo_isSet_3 rfl (by decide) ?_
  refine wp_aload_n 5 d_Mo_isSet_4 rfl rfl ?_
  refine wp_getfield 8 12 0 d_Mo_isSet_5 rfl fl_Mo_7 rfl rfl ?_
  refine wp_iconst 9 1 d_Mo_isSet_8 rfl (by decide) ?_
  refine wp_iaload 10 d_Mo_isSet_9 rfl rfl (vp_in_nI (n := 1) (N := 2332) (by omega) (by omega)) ?_
  rw [show m_at (1 : Int32).toNatClampNeg = nI t.nW from V.W]
  refine wp_lshl 11 d_Mo_isSet_10 rfl ?_
  refine wp_lconst 12 1 d_Mo_isSet_11 rfl (by decide) ?_
  refine wp_lsub 13 d_Mo_isSet_12 rfl ?_
  refine wp_S3 16 M_Mo_isFrom 1 d_Mo_isSet_13 rfl ms_Mo_isFrom lk_Mo_356 rfl rfl ?_
  refine c_Mo_isFrom ?_
  refine kI ?_
  (first | refine wp_ifP_eq 31 19 d_Mo_isSet_16 rfl (by decide) (fun h16 => ?_) (fun h16 => ?_) | refine wp_if_eq 31 19 d_Mo_isSet_16 rfl (by decide) (fun h16 => ?_) (fun h16 => ?_))
  · refine wp_iconst 32 0 d_Mo_isSet_31 rfl (by decide) ?_
    refine wp_zreturn d_Mo_isSet_32 rfl (by first | rfl | exact nbP _) ?_
    exact bq0 (fun z => h16 ((inC (isS_c t.nW (by have := V.ok.hW; omega))).mpr z.1)) hq
  · have hin := (inC (isS_c t.nW (by have := V.ok.hW; omega))).mp h16
    refine wp_iload_n 20 d_Mo_isSet_19 rfl rfl ?_
    refine wp_S1 23 M_Mo_bits 1 d_Mo_isSet_20 rfl ms_Mo_bits lk_Mo_363 rfl rfl ?_
    refine c_Mo_bits (ws_in V.ok hin) ?_
    refine kI ?_
    refine wp_iconst 24 3 d_Mo_isSet_23 rfl (by decide) ?_
    refine wp_icmp_ge 31 27 d_Mo_isSet_24 rfl (by decide) (fun h24 => ?_) (fun h24 => ?_)
    · refine wp_iconst 32 0 d_Mo_isSet_31 rfl (by decide) ?_
      refine wp_zreturn d_Mo_isSet_32 rfl (by first | rfl | exact nbP _) ?_
      exact bq0 (fun z => z.2 (lt23.mpr h24)) hq
    · refine wp_iconst 28 1 d_Mo_isSet_27 rfl (by decide) ?_
      refine wp_goto 32 d_Mo_isSet_28 (by decide) ?_
      refine wp_zreturn d_Mo_isSet_32 rfl (by first | rfl | exact nbP _) ?_
      exact bq1 ⟨hin, fun z => h24 (lt23.mp z)⟩ hq

set_option maxRecDepth 100000 in
set_option maxHeartbeats 4000000 in
theorem l_Mo_laysWays_12 (V : vT m_at t) {set : Int32} (hW : t.nW ≤ 4) : ∀ (r i : Nat) (od : Nat → Int32) (p : Int32 × Int32), i + r = t.nW → ((∀ j, j < i → od j = t.fa j) ∧ (∀ od2 : Nat → Int32, (∀ j, j < t.nW → od2 j = t.fa j) → WP Γ M_Mo_laysWays 8 0 0 (hM m_at m_names m_status m_top m_bottom m_sort m_trayMany m_trays m_tape m_text m_taped m_size m_token m_from m_end m_value m_faultKind m_faultPlace m_faults m_seen m_areOdds m_opened m_depth m_counted m_eastBy m_northBy m_partBy m_wayFaults m_wayEast m_wayNorth (od2) m_wayMany ((iterN (pkG set) r i p).1) ((iterN (pkG set) r i p).2) m_farBy m_rowBy m_triedBy m_rowMany m_doneAt m_gotAt m_struckAt m_bestDeed m_misBy m_drawn m_ranSteps m_loops m_ran m_told1 m_isTold m_marks) 72 [some (.ref 0), some (.int set), some (.int (nI t.nW)), none, none] [] Q)) → WP Γ M_Mo_laysWays 8 0 0 (hM m_at m_names m_status m_top m_bottom m_sort m_trayMany m_trays m_tape m_text m_taped m_size m_token m_from m_end m_value m_faultKind m_faultPlace m_faults m_seen m_areOdds m_opened m_depth m_counted m_eastBy m_northBy m_partBy m_wayFaults m_wayEast m_wayNorth (od) m_wayMany (p.1) (p.2) m_farBy m_rowBy m_triedBy m_rowMany m_doneAt m_gotAt m_struckAt m_bestDeed m_misBy m_drawn m_ranSteps m_loops m_ran m_told1 m_isTold m_marks) 12 [some (.ref 0), some (.int set), some (.int (nI i)), none, none] [] Q := by
  intro r
  induction r with
  | zero =>
    intro i od p hi hinv
    obtain ⟨hod, hq⟩ := hinv
    refine wp_iload_n 13 d_Mo_laysWays_12 rfl rfl ?_
    refine wp_aload_n 14 d_Mo_laysWays_13 rfl rfl ?_
    refine wp_getfield 17 12 0 d_Mo_laysWays_14 rfl fl_Mo_7 rfl rfl ?_
    refine wp_iconst 18 1 d_Mo_laysWays_17 rfl (by decide) ?_
    refine wp_iaload 19 d_Mo_laysWays_18 rfl rfl (vp_in_nI (n := 1) (N := 2332) (by omega) (by omega)) ?_
    rw [show m_at (1 : Int32).toNatClampNeg = nI t.nW from V.W]
    refine wp_icmp_ge 72 22 d_Mo_laysWays_19 rfl (by decide) (fun h19 => ?_) (fun h19 => ?_)
    · have e : i = t.nW := by omega
      subst e
      exact hq _ hod
    · exact absurd ((nI_leI (a := t.nW) (by omega) (by omega)).mpr (by omega)) h19
  | succ r ih =>
    intro i od p hi hinv
    obtain ⟨hod, hq⟩ := hinv
    refine wp_iload_n 13 d_Mo_laysWays_12 rfl rfl ?_
    refine wp_aload_n 14 d_Mo_laysWays_13 rfl rfl ?_
    refine wp_getfield 17 12 0 d_Mo_laysWays_14 rfl fl_Mo_7 rfl rfl ?_
    refine wp_iconst 18 1 d_Mo_laysWays_17 rfl (by decide) ?_
    refine wp_iaload 19 d_Mo_laysWays_18 rfl rfl (vp_in_nI (n := 1) (N := 2332) (by omega) (by omega)) ?_
    rw [show m_at (1 : Int32).toNatClampNeg = nI t.nW from V.W]
    refine wp_icmp_ge 72 22 d_Mo_laysWays_19 rfl (by decide) (fun h19 => ?_) (fun h19 => ?_)
    · exact absurd (nI_leN (b := t.nW) h19 (by omega) (by omega)) (by omega)
    · refine wp_aload_n 23 d_Mo_laysWays_22 rfl rfl ?_
      refine wp_getfield 26 12 30 d_Mo_laysWays_23 rfl fl_Mo_65 rfl rfl ?_
      refine wp_iload_n 27 d_Mo_laysWays_26 rfl rfl ?_
      refine wp_aload_n 28 d_Mo_laysWays_27 rfl rfl ?_
      refine wp_iload_n 29 d_Mo_laysWays_28 rfl rfl ?_
      refine wp_V1 32 M_Mo_faultOf 3 d_Mo_laysWays_29 rfl mv_Mo_faultOf lk_Mo_343 rfl rfl rfl rfl rfl ?_
      refine c_Mo_faultOf V (inR_N (by omega) (by omega)) ?_
      rw [nI_clamp (by omega : i < 2 ^ 31)]
      refine kI ?_
      refine wp_iastoreN 33 d_Mo_laysWays_32 rfl rfl rfl (by omega) ?_
      refine hEq (hM m_at m_names m_status m_top m_bottom m_sort m_trayMany m_trays m_tape m_text m_taped m_size m_token m_from m_end m_value m_faultKind m_faultPlace m_faults m_seen m_areOdds m_opened m_depth m_counted m_eastBy m_northBy m_partBy m_wayFaults m_wayEast m_wayNorth (upd od i (t.fa i)) m_wayMany (p.1) (p.2) m_farBy m_rowBy m_triedBy m_rowMany m_doneAt m_gotAt m_struckAt m_bestDeed m_misBy m_drawn m_ranSteps m_loops m_ran m_told1 m_isTold m_marks) rfl ?_
      refine wp_aload_n 34 d_Mo_laysWays_33 rfl rfl ?_
      refine wp_iload_n 35 d_Mo_laysWays_34 rfl rfl ?_
      refine wp_iload_n 36 d_Mo_laysWays_35 rfl rfl ?_
      refine wp_V2 39 M_Mo_isIn 1 d_Mo_laysWays_36 rfl mv_Mo_isIn lk_Mo_281 rfl rfl rfl rfl rfl ?_
      refine c_Mo_isIn ?_
      refine kI ?_
      (first | refine wp_ifP_ne 45 42 d_Mo_laysWays_39 rfl (by decide) (fun h39 => ?_) (fun h39 => ?_) | refine wp_if_ne 45 42 d_Mo_laysWays_39 rfl (by decide) (fun h39 => ?_) (fun h39 => ?_))
      · refine wp_aload_n 46 d_Mo_laysWays_45 rfl rfl ?_
        refine wp_getfield 49 12 32 d_Mo_laysWays_46 rfl fl_Mo_389 rfl rfl ?_
        refine wp_iconst 50 (-1) d_Mo_laysWays_49 rfl (by decide) ?_
        refine wp_icmp_ne 61 53 d_Mo_laysWays_50 rfl (by decide) (fun h50 => ?_) (fun h50 => ?_)
        · refine wp_aload_n 62 d_Mo_laysWays_61 rfl rfl ?_
          refine wp_iload_n 63 d_Mo_laysWays_62 rfl rfl ?_
          refine wp_putfield 66 12 33 _ d_Mo_laysWays_63 rfl fp_Mo_392 rfl rfl (okP_int _) ?_
          refine hEq (hM m_at m_names m_status m_top m_bottom m_sort m_trayMany m_trays m_tape m_text m_taped m_size m_token m_from m_end m_value m_faultKind m_faultPlace m_faults m_seen m_areOdds m_opened m_depth m_counted m_eastBy m_northBy m_partBy m_wayFaults m_wayEast m_wayNorth (upd od i (t.fa i)) m_wayMany (p.1) (nI i) m_farBy m_rowBy m_triedBy m_rowMany m_doneAt m_gotAt m_struckAt m_bestDeed m_misBy m_drawn m_ranSteps m_loops m_ran m_told1 m_isTold m_marks) rfl ?_
          first | refine wp_iincN_2 69 d_Mo_laysWays_66 rfl rfl rfl ?_ | refine wp_iinc_2 69 1 d_Mo_laysWays_66 rfl (by decide) rfl rfl ?_
          refine wp_goto 12 d_Mo_laysWays_69 (by decide) ?_
          have e : pkG set i p = (p.1, nI i) := (if_pos h39).trans (if_neg h50)
          refine ih (i + 1) (upd od i (t.fa i)) (p.1, nI i) (by omega) ⟨fun j hj => ?_, by rw [← e]; exact hq⟩
          by_cases z : j = i
          · rw [z, upd_at]
          · rw [upd_ne z]; exact hod j (by omega)
        · refine wp_aload_n 54 d_Mo_laysWays_53 rfl rfl ?_
          refine wp_iload_n 55 d_Mo_laysWays_54 rfl rfl ?_
          refine wp_putfield 58 12 32 _ d_Mo_laysWays_55 rfl fp_Mo_389 rfl rfl (okP_int _) ?_
          refine hEq (hM m_at m_names m_status m_top m_bottom m_sort m_trayMany m_trays m_tape m_text m_taped m_size m_token m_from m_end m_value m_faultKind m_faultPlace m_faults m_seen m_areOdds m_opened m_depth m_counted m_eastBy m_northBy m_partBy m_wayFaults m_wayEast m_wayNorth (upd od i (t.fa i)) m_wayMany (nI i) (p.2) m_farBy m_rowBy m_triedBy m_rowMany m_doneAt m_gotAt m_struckAt m_bestDeed m_misBy m_drawn m_ranSteps m_loops m_ran m_told1 m_isTold m_marks) rfl ?_
          refine wp_goto 66 d_Mo_laysWays_58 (by decide) ?_
          first | refine wp_iincN_2 69 d_Mo_laysWays_66 rfl rfl rfl ?_ | refine wp_iinc_2 69 1 d_Mo_laysWays_66 rfl (by decide) rfl rfl ?_
          refine wp_goto 12 d_Mo_laysWays_69 (by decide) ?_
          have e : pkG set i p = (nI i, p.2) := (if_pos h39).trans (if_pos h50)
          refine ih (i + 1) (upd od i (t.fa i)) (nI i, p.2) (by omega) ⟨fun j hj => ?_, by rw [← e]; exact hq⟩
          by_cases z : j = i
          · rw [z, upd_at]
          · rw [upd_ne z]; exact hod j (by omega)
      · refine wp_goto 66 d_Mo_laysWays_42 (by decide) ?_
        first | refine wp_iincN_2 69 d_Mo_laysWays_66 rfl rfl rfl ?_ | refine wp_iinc_2 69 1 d_Mo_laysWays_66 rfl (by decide) rfl rfl ?_
        refine wp_goto 12 d_Mo_laysWays_69 (by decide) ?_
        have e : pkG set i p = p := if_neg h39
        refine ih (i + 1) (upd od i (t.fa i)) p (by omega) ⟨fun j hj => ?_, by rw [← e]; exact hq⟩
        by_cases z : j = i
        · rw [z, upd_at]
        · rw [upd_ne z]; exact hod j (by omega)

set_option maxRecDepth 100000 in
set_option maxHeartbeats 4000000 in
theorem l_Mo_laysWays_188 {a od wf X Y : Nat → Int32} {on ot set all its : Int32} {n : Nat} {s : MS} (hP0 : a 0 = nI t.nP) (hP : t.nP ≤ 7) (hn : n < 576) (hX : ∀ p, p < t.nP → s.2.1 p = X p ∧ s.2.2 p = Y p) : ∀ (r i : Nat) (we wn : Nat → Int32), i + r = t.nP → WP Γ M_Mo_laysWays 8 0 0 (hM (a) m_names m_status m_top m_bottom m_sort m_trayMany m_trays m_tape m_text m_taped m_size m_token m_from m_end m_value m_faultKind m_faultPlace m_faults m_seen m_areOdds m_opened m_depth m_counted (s.2.1) (s.2.2) (s.1) (wf) (iterN (cpW n X) r i we) (iterN (cpW n Y) r i wn) (od) (nI n) (on) (ot) m_farBy m_rowBy m_triedBy m_rowMany m_doneAt m_gotAt m_struckAt m_bestDeed m_misBy m_drawn m_ranSteps m_loops m_ran m_told1 m_isTold m_marks) 249 [some (.ref 0), some (.int set), some (.int all), some (.int its), some (.int (nI t.nP))] [] Q → WP Γ M_Mo_laysWays 8 0 0 (hM (a) m_names m_status m_top m_bottom m_sort m_trayMany m_trays m_tape m_text m_taped m_size m_token m_from m_end m_value m_faultKind m_faultPlace m_faults m_seen m_areOdds m_opened m_depth m_counted (s.2.1) (s.2.2) (s.1) (wf) (we) (wn) (od) (nI n) (on) (ot) m_farBy m_rowBy m_triedBy m_rowMany m_doneAt m_gotAt m_struckAt m_bestDeed m_misBy m_drawn m_ranSteps m_loops m_ran m_told1 m_isTold m_marks) 188 [some (.ref 0), some (.int set), some (.int all), some (.int its), some (.int (nI i))] [] Q := by
  intro r
  induction r with
  | zero =>
    intro i we wn hi hinv
    have hq := hinv
    refine wp_iload 190 d_Mo_laysWays_188 rfl rfl ?_
    refine wp_aload_n 191 d_Mo_laysWays_190 rfl rfl ?_
    refine wp_getfield 194 12 0 d_Mo_laysWays_191 rfl fl_Mo_7 rfl rfl ?_
    refine wp_iconst 195 0 d_Mo_laysWays_194 rfl (by decide) ?_
    refine wp_iaload 196 d_Mo_laysWays_195 rfl rfl (vp_in_nI (n := 0) (N := 2332) (by omega) (by omega)) ?_
    rw [show a (0 : Int32).toNatClampNeg = nI t.nP from hP0]
    refine wp_icmp_ge 249 199 d_Mo_laysWays_196 rfl (by decide) (fun h196 => ?_) (fun h196 => ?_)
    · have e : i = t.nP := by omega
      subst e
      exact hq
    · exact absurd ((nI_leI (a := t.nP) (by omega) (by omega)).mpr (by omega)) h196
  | succ r ih =>
    intro i we wn hi hinv
    have hq := hinv
    refine wp_iload 190 d_Mo_laysWays_188 rfl rfl ?_
    refine wp_aload_n 191 d_Mo_laysWays_190 rfl rfl ?_
    refine wp_getfield 194 12 0 d_Mo_laysWays_191 rfl fl_Mo_7 rfl rfl ?_
    refine wp_iconst 195 0 d_Mo_laysWays_194 rfl (by decide) ?_
    refine wp_iaload 196 d_Mo_laysWays_195 rfl rfl (vp_in_nI (n := 0) (N := 2332) (by omega) (by omega)) ?_
    rw [show a (0 : Int32).toNatClampNeg = nI t.nP from hP0]
    refine wp_icmp_ge 249 199 d_Mo_laysWays_196 rfl (by decide) (fun h196 => ?_) (fun h196 => ?_)
    · exact absurd (nI_leN (b := t.nP) h196 (by omega) (by omega)) (by omega)
    · refine wp_aload_n 200 d_Mo_laysWays_199 rfl rfl ?_
      refine wp_getfield 203 12 28 d_Mo_laysWays_200 rfl fl_Mo_59 rfl rfl ?_
      refine wp_bipush 205 7 d_Mo_laysWays_203 rfl (by decide) ?_
      refine wp_aload_n 206 d_Mo_laysWays_205 rfl rfl ?_
      refine wp_getfield 209 12 31 d_Mo_laysWays_206 rfl fl_Mo_395 rfl rfl ?_
      refine wp_imul 210 d_Mo_laysWays_209 rfl ?_
      rw [show (7 : Int32) * nI n = nI (7 * n) from mulK 7 n]
      refine wp_iload 212 d_Mo_laysWays_210 rfl rfl ?_
      refine wp_iadd 213 d_Mo_laysWays_212 rfl ?_
      rw [show nI (7 * n) + nI i = nI (7 * n + i) from nI_add _ _]
      refine wp_aload_n 214 d_Mo_laysWays_213 rfl rfl ?_
      refine wp_getfield 217 12 24 d_Mo_laysWays_214 rfl fl_Mo_47 rfl rfl ?_
      refine wp_iload 219 d_Mo_laysWays_217 rfl rfl ?_
      refine wp_ialoadN 220 d_Mo_laysWays_219 rfl rfl rfl (by omega) ?_
      rw [(hX i (by omega)).1]
      refine wp_iastoreN 221 d_Mo_laysWays_220 rfl rfl rfl (by omega) ?_
      refine hEq (hM (a) m_names m_status m_top m_bottom m_sort m_trayMany m_trays m_tape m_text m_taped m_size m_token m_from m_end m_value m_faultKind m_faultPlace m_faults m_seen m_areOdds m_opened m_depth m_counted (s.2.1) (s.2.2) (s.1) (wf) (cpW n X i we) (wn) (od) (nI n) (on) (ot) m_farBy m_rowBy m_triedBy m_rowMany m_doneAt m_gotAt m_struckAt m_bestDeed m_misBy m_drawn m_ranSteps m_loops m_ran m_told1 m_isTold m_marks) rfl ?_
      refine wp_aload_n 222 d_Mo_laysWays_221 rfl rfl ?_
      refine wp_getfield 225 12 29 d_Mo_laysWays_222 rfl fl_Mo_62 rfl rfl ?_
      refine wp_bipush 227 7 d_Mo_laysWays_225 rfl (by decide) ?_
      refine wp_aload_n 228 d_Mo_laysWays_227 rfl rfl ?_
      refine wp_getfield 231 12 31 d_Mo_laysWays_228 rfl fl_Mo_395 rfl rfl ?_
      refine wp_imul 232 d_Mo_laysWays_231 rfl ?_
      rw [show (7 : Int32) * nI n = nI (7 * n) from mulK 7 n]
      refine wp_iload 234 d_Mo_laysWays_232 rfl rfl ?_
      refine wp_iadd 235 d_Mo_laysWays_234 rfl ?_
      rw [show nI (7 * n) + nI i = nI (7 * n + i) from nI_add _ _]
      refine wp_aload_n 236 d_Mo_laysWays_235 rfl rfl ?_
      refine wp_getfield 239 12 25 d_Mo_laysWays_236 rfl fl_Mo_50 rfl rfl ?_
      refine wp_iload 241 d_Mo_laysWays_239 rfl rfl ?_
      refine wp_ialoadN 242 d_Mo_laysWays_241 rfl rfl rfl (by omega) ?_
      rw [(hX i (by omega)).2]
      refine wp_iastoreN 243 d_Mo_laysWays_242 rfl rfl rfl (by omega) ?_
      refine hEq (hM (a) m_names m_status m_top m_bottom m_sort m_trayMany m_trays m_tape m_text m_taped m_size m_token m_from m_end m_value m_faultKind m_faultPlace m_faults m_seen m_areOdds m_opened m_depth m_counted (s.2.1) (s.2.2) (s.1) (wf) (cpW n X i we) (cpW n Y i wn) (od) (nI n) (on) (ot) m_farBy m_rowBy m_triedBy m_rowMany m_doneAt m_gotAt m_struckAt m_bestDeed m_misBy m_drawn m_ranSteps m_loops m_ran m_told1 m_isTold m_marks) rfl ?_
      first | refine wp_iincN_4 246 d_Mo_laysWays_243 rfl rfl rfl ?_ | refine wp_iinc_4 246 1 d_Mo_laysWays_243 rfl (by decide) rfl rfl ?_
      refine wp_goto 188 d_Mo_laysWays_246 (by decide) ?_
      exact ih (i + 1) _ _ (by omega) hq

set_option maxRecDepth 100000 in
set_option maxHeartbeats 4000000 in
theorem l_Mo_laysWays_108 {od : Nat → Int32} {on ot set : Int32} (I : tOK t) (J : tIn t) (hon : on = -1 ∨ ∃ a, a < t.nW ∧ on = nI a) (hot : ot = -1 ∨ ∃ b, b < t.nW ∧ ot = nI b) (h1_ : on = -1 → ot = -1) (hN : wsN on * wsN ot ≤ 576) : ∀ (r i : Nat) (a fa : Nat → Int32) (w : WS) (s : MS) (w4 : Option Value), i + r = wsN on * wsN ot → (vT a (tFa t fa) ∧ frA m_at a ∧ FI0 t on ot fa ∧ w.2.2.2 ≤ i ∧ (∀ (a2 fa2 : Nat → Int32) (s2 : MS) (x4 : Option Value), vT a2 (tFa t fa2) → frA m_at a2 → WP Γ M_Mo_laysWays 8 0 0 (hM (a2) m_names m_status m_top m_bottom m_sort m_trayMany m_trays m_tape m_text m_taped m_size m_token m_from m_end m_value m_faultKind m_faultPlace m_faults m_seen m_areOdds m_opened m_depth m_counted (s2.2.1) (s2.2.2) (s2.1) ((iterN (wsG t on ot (wsN ot)) r i w).1) ((iterN (wsG t on ot (wsN ot)) r i w).2.1) ((iterN (wsG t on ot (wsN ot)) r i w).2.2.1) (od) (nI (iterN (wsG t on ot (wsN ot)) r i w).2.2.2) (on) (ot) m_farBy m_rowBy m_triedBy m_rowMany m_doneAt m_gotAt m_struckAt m_bestDeed m_misBy m_drawn m_ranSteps m_loops m_ran m_told1 m_isTold m_marks) 265 [some (.ref 0), some (.int set), some (.int (nI (wsN on * wsN ot))), some (.int (nI (wsN on * wsN ot))), x4] [] Q)) → WP Γ M_Mo_laysWays 8 0 0 (hM (a) m_names m_status m_top m_bottom m_sort m_trayMany m_trays m_tape m_text m_taped m_size m_token m_from m_end m_value m_faultKind m_faultPlace m_faults m_seen m_areOdds m_opened m_depth m_counted (s.2.1) (s.2.2) (s.1) (w.1) (w.2.1) (w.2.2.1) (od) (nI w.2.2.2) (on) (ot) m_farBy m_rowBy m_triedBy m_rowMany m_doneAt m_gotAt m_struckAt m_bestDeed m_misBy m_drawn m_ranSteps m_loops m_ran m_told1 m_isTold m_marks) 108 [some (.ref 0), some (.int set), some (.int (nI (wsN on * wsN ot))), some (.int (nI i)), w4] [] Q := by
  intro r
  induction r with
  | zero =>
    intro i a fa w s w4 hi hinv
    obtain ⟨Va, hfr, hF0, hwn, hq⟩ := hinv
    refine wp_iload_n 109 d_Mo_laysWays_108 rfl rfl ?_
    refine wp_iload_n 110 d_Mo_laysWays_109 rfl rfl ?_
    refine wp_icmp_ge 265 113 d_Mo_laysWays_110 rfl (by decide) (fun h110 => ?_) (fun h110 => ?_)
    · have e : i = wsN on * wsN ot := by omega
      subst e
      exact hq _ _ _ _ Va hfr
    · exact absurd ((nI_leI (a := wsN on * wsN ot) (by omega) (by omega)).mpr (by omega)) h110
  | succ r ih =>
    intro i a fa w s w4 hi hinv
    obtain ⟨Va, hfr, hF0, hwn, hq⟩ := hinv
    refine wp_iload_n 109 d_Mo_laysWays_108 rfl rfl ?_
    refine wp_iload_n 110 d_Mo_laysWays_109 rfl rfl ?_
    refine wp_icmp_ge 265 113 d_Mo_laysWays_110 rfl (by decide) (fun h110 => ?_) (fun h110 => ?_)
    · exact absurd (nI_leN (b := wsN on * wsN ot) h110 (by omega) (by omega)) (by omega)
    · refine wp_aload_n 114 d_Mo_laysWays_113 rfl rfl ?_
      refine wp_getfield 117 12 32 d_Mo_laysWays_114 rfl fl_Mo_389 rfl rfl ?_
      refine wp_iconst 118 (-1) d_Mo_laysWays_117 rfl (by decide) ?_
      refine wp_icmp_eq 145 121 d_Mo_laysWays_118 rfl (by decide) (fun h118 => ?_) (fun h118 => ?_)
      · have hot := h1_ h118
        subst h118
        subst hot
        have hi1 : i < 1 := by rw [show wsN (-1) * wsN (-1) = 1 from rfl] at hi; omega
        refine wp_aload_n 146 d_Mo_laysWays_145 rfl rfl ?_
        refine wp_getfield 149 12 33 d_Mo_laysWays_146 rfl fl_Mo_392 rfl rfl ?_
        refine wp_iconst 150 (-1) d_Mo_laysWays_149 rfl (by decide) ?_
        refine wp_icmp_eq 165 153 d_Mo_laysWays_150 rfl (by decide) (fun h150 => ?_) (fun h150 => ?_)
        · have V2 : vT (a) (tFa t (fa)) := Va
          have hfr2 : frA m_at (a) := hfr
          have hF2 : FI0 t (-1) (-1) (fa) := hF0
          have hFT : FIT t (-1) (-1) (i / wsN (-1)) (i % wsN (-1)) (fa) := FIT_a I hF0
          obtain ⟨hC, hXY⟩ := fit_C I J hFT
          refine wp_aload_n 166 d_Mo_laysWays_165 rfl rfl ?_
          refine wp_V0 169 M_Mo_isClosed 7 d_Mo_laysWays_166 rfl mv_Mo_isClosed lk_Mo_337 rfl rfl rfl rfl rfl ?_
          refine c_Mo_isClosed V2 (fun s2 hch => ?_)
          refine kI ?_
          (first | refine wp_ifP_ne 175 172 d_Mo_laysWays_169 rfl (by decide) (fun h169 => ?_) (fun h169 => ?_) | refine wp_if_ne 175 172 d_Mo_laysWays_169 rfl (by decide) (fun h169 => ?_) (fun h169 => ?_))
          · refine wp_aload_n 176 d_Mo_laysWays_175 rfl rfl ?_
            refine wp_getfield 179 12 27 d_Mo_laysWays_176 rfl fl_Mo_56 rfl rfl ?_
            refine wp_aload_n 180 d_Mo_laysWays_179 rfl rfl ?_
            refine wp_getfield 183 12 31 d_Mo_laysWays_180 rfl fl_Mo_395 rfl rfl ?_
            refine wp_iload_n 184 d_Mo_laysWays_183 rfl rfl ?_
            refine wp_iastoreN 185 d_Mo_laysWays_184 rfl rfl rfl (by omega) ?_
            refine hEq (hM (a) m_names m_status m_top m_bottom m_sort m_trayMany m_trays m_tape m_text m_taped m_size m_token m_from m_end m_value m_faultKind m_faultPlace m_faults m_seen m_areOdds m_opened m_depth m_counted (s2.2.1) (s2.2.2) (s2.1) (upd w.1 w.2.2.2 (nI i)) (w.2.1) (w.2.2.1) (od) (nI w.2.2.2) (-1) (-1) m_farBy m_rowBy m_triedBy m_rowMany m_doneAt m_gotAt m_struckAt m_bestDeed m_misBy m_drawn m_ranSteps m_loops m_ran m_told1 m_isTold m_marks) rfl ?_
            refine wp_iconst 186 0 d_Mo_laysWays_185 rfl (by decide) ?_
            refine wp_istore_4 188 d_Mo_laysWays_186 rfl rfl rfl ?_
            refine l_Mo_laysWays_188 (t := t) V2.P I.hP (by omega) (X := (fX t (-1) (-1) (i / wsN (-1)) (i % wsN (-1)))) (Y := (fY t (-1) (-1) (i / wsN (-1)) (i % wsN (-1)))) (fun q hq_ => ⟨(hch.2.2.1 q hq_).1.trans (hXY q (by have := I.hP; omega)).1, (hch.2.2.1 q hq_).2.trans (hXY q (by have := I.hP; omega)).2⟩) t.nP 0 w.2.1 w.2.2.1 (by omega) ?_
            refine wp_aload_n 250 d_Mo_laysWays_249 rfl rfl ?_
            refine wp_dup 251 d_Mo_laysWays_250 rfl rfl ?_
            refine wp_getfield 254 12 31 d_Mo_laysWays_251 rfl fl_Mo_395 rfl rfl ?_
            refine wp_iconst 255 1 d_Mo_laysWays_254 rfl (by decide) ?_
            refine wp_iadd 256 d_Mo_laysWays_255 rfl ?_
            rw [nI_1]
            refine wp_putfield 259 12 31 _ d_Mo_laysWays_256 rfl fp_Mo_395 rfl rfl (okP_int _) ?_
            refine hEq (hM (a) m_names m_status m_top m_bottom m_sort m_trayMany m_trays m_tape m_text m_taped m_size m_token m_from m_end m_value m_faultKind m_faultPlace m_faults m_seen m_areOdds m_opened m_depth m_counted (s2.2.1) (s2.2.2) (s2.1) (upd w.1 w.2.2.2 (nI i)) (iterN (cpW w.2.2.2 (fX t (-1) (-1) (i / wsN (-1)) (i % wsN (-1)))) t.nP 0 w.2.1) (iterN (cpW w.2.2.2 (fY t (-1) (-1) (i / wsN (-1)) (i % wsN (-1)))) t.nP 0 w.2.2.1) (od) (nI (w.2.2.2 + 1)) (-1) (-1) m_farBy m_rowBy m_triedBy m_rowMany m_doneAt m_gotAt m_struckAt m_bestDeed m_misBy m_drawn m_ranSteps m_loops m_ran m_told1 m_isTold m_marks) rfl ?_
            first | refine wp_iincN_3 262 d_Mo_laysWays_259 rfl rfl rfl ?_ | refine wp_iinc_3 262 1 d_Mo_laysWays_259 rfl (by decide) rfl rfl ?_
            refine wp_goto 108 d_Mo_laysWays_262 (by decide) ?_
            have e : wsG t (-1) (-1) (wsN (-1)) i w = (upd w.1 w.2.2.2 (nI i), iterN (cpW w.2.2.2 (fX t (-1) (-1) (i / wsN (-1)) (i % wsN (-1)))) t.nP 0 w.2.1, iterN (cpW w.2.2.2 (fY t (-1) (-1) (i / wsN (-1)) (i % wsN (-1)))) t.nP 0 w.2.2.1, w.2.2.2 + 1) := if_pos (hC.mp h169)
            exact ih (i + 1) (a) (fa) (upd w.1 w.2.2.2 (nI i), iterN (cpW w.2.2.2 (fX t (-1) (-1) (i / wsN (-1)) (i % wsN (-1)))) t.nP 0 w.2.1, iterN (cpW w.2.2.2 (fY t (-1) (-1) (i / wsN (-1)) (i % wsN (-1)))) t.nP 0 w.2.2.1, w.2.2.2 + 1) s2 _ (by omega) ⟨V2, hfr2, hF2, by show w.2.2.2 + 1 ≤ i + 1; omega, by rw [← e]; exact hq⟩
          · refine wp_goto 259 d_Mo_laysWays_172 (by decide) ?_
            first | refine wp_iincN_3 262 d_Mo_laysWays_259 rfl rfl rfl ?_ | refine wp_iinc_3 262 1 d_Mo_laysWays_259 rfl (by decide) rfl rfl ?_
            refine wp_goto 108 d_Mo_laysWays_262 (by decide) ?_
            have e : wsG t (-1) (-1) (wsN (-1)) i w = w := if_neg (fun z => h169 (hC.mpr z))
            exact ih (i + 1) (a) (fa) w s2 _ (by omega) ⟨V2, hfr2, hF2, by omega, by rw [← e]; exact hq⟩
        · exact absurd rfl h150
      · obtain ⟨a_, ha_, rfl⟩ := hon.resolve_left h118
        have hW4 := I.hW
        have eN1 : wsN (nI a_) = 24 := if_neg (nI_ne1 (by omega))
        refine wp_aload_n 122 d_Mo_laysWays_121 rfl rfl ?_
        refine wp_aload_n 123 d_Mo_laysWays_122 rfl rfl ?_
        refine wp_getfield 126 12 32 d_Mo_laysWays_123 rfl fl_Mo_389 rfl rfl ?_
        refine wp_aload_n 127 d_Mo_laysWays_126 rfl rfl ?_
        refine wp_getfield 130 12 33 d_Mo_laysWays_127 rfl fl_Mo_392 rfl rfl ?_
        refine wp_iconst 131 (-1) d_Mo_laysWays_130 rfl (by decide) ?_
        refine wp_icmp_ne 138 134 d_Mo_laysWays_131 rfl (by decide) (fun h131 => ?_) (fun h131 => ?_)
        · obtain ⟨b_, hb_, rfl⟩ := hot.resolve_left h131
          have eN2 : wsN (nI b_) = 24 := if_neg (nI_ne1 (by omega))
          have hi1 : i < 576 := by rw [eN1, eN2] at hi; omega
          refine wp_iload_n 139 d_Mo_laysWays_138 rfl rfl ?_
          refine wp_bipush 141 24 d_Mo_laysWays_139 rfl (by decide) ?_
          refine wp_idiv 142 d_Mo_laysWays_141 rfl (by decide) ?_
          rw [(div24 i (by omega)).1]
          refine wp_V2 145 M_Mo_believes 2 d_Mo_laysWays_142 rfl mv_Mo_believes lk_Mo_371 rfl rfl rfl rfl rfl ?_
          refine c_Mo_believes (by omega) ?_
          refine kV ?_
          refine wp_aload_n 146 d_Mo_laysWays_145 rfl rfl ?_
          refine wp_getfield 149 12 33 d_Mo_laysWays_146 rfl fl_Mo_392 rfl rfl ?_
          refine wp_iconst 150 (-1) d_Mo_laysWays_149 rfl (by decide) ?_
          refine wp_icmp_eq 165 153 d_Mo_laysWays_150 rfl (by decide) (fun h150 => ?_) (fun h150 => ?_)
          · exact absurd h150 h131
          · refine wp_aload_n 154 d_Mo_laysWays_153 rfl rfl ?_
            refine wp_aload_n 155 d_Mo_laysWays_154 rfl rfl ?_
            refine wp_getfield 158 12 33 d_Mo_laysWays_155 rfl fl_Mo_392 rfl rfl ?_
            refine wp_iload_n 159 d_Mo_laysWays_158 rfl rfl ?_
            refine wp_bipush 161 24 d_Mo_laysWays_159 rfl (by decide) ?_
            refine wp_irem 162 d_Mo_laysWays_161 rfl (by decide) ?_
            rw [(div24 i (by omega)).2]
            refine wp_V2 165 M_Mo_believes 2 d_Mo_laysWays_162 rfl mv_Mo_believes lk_Mo_371 rfl rfl rfl rfl rfl ?_
            refine c_Mo_believes (by omega) ?_
            refine kV ?_
            have hi24 : i / 24 < 24 := by omega
            have V2 : vT (beU (beU a a_ (nI (i / 24))) b_ (nI (i % 24))) (tFa t (upd (upd fa a_ (nI (i / 24))) b_ (nI (i % 24)))) := vT_be (vT_be Va ha_ (inR_N (n := 24) (by omega) (by omega))) hb_ (inR_N (n := 24) (Nat.mod_lt _ (by omega)) (by omega))
            have hfr2 : frA m_at (beU (beU a a_ (nI (i / 24))) b_ (nI (i % 24))) := frA_be (frA_be hfr (by omega)) (by omega)
            have hF2 : FI0 t (nI a_) (nI b_) (upd (upd fa a_ (nI (i / 24))) b_ (nI (i % 24))) := FI0_u I (FI0_u I hF0 (Or.inl rfl)) (Or.inr rfl)
            have hFT : FIT t (nI a_) (nI b_) (i / wsN (nI b_)) (i % wsN (nI b_)) (upd (upd fa a_ (nI (i / 24))) b_ (nI (i % 24))) := by rw [show wsN (nI b_) = 24 from if_neg (nI_ne1 (by omega))]; exact FIT_c I ha_ hb_ hF0
            obtain ⟨hC, hXY⟩ := fit_C I J hFT
            refine wp_aload_n 166 d_Mo_laysWays_165 rfl rfl ?_
            refine wp_V0 169 M_Mo_isClosed 7 d_Mo_laysWays_166 rfl mv_Mo_isClosed lk_Mo_337 rfl rfl rfl rfl rfl ?_
            refine c_Mo_isClosed V2 (fun s2 hch => ?_)
            refine kI ?_
            (first | refine wp_ifP_ne 175 172 d_Mo_laysWays_169 rfl (by decide) (fun h169 => ?_) (fun h169 => ?_) | refine wp_if_ne 175 172 d_Mo_laysWays_169 rfl (by decide) (fun h169 => ?_) (fun h169 => ?_))
            · refine wp_aload_n 176 d_Mo_laysWays_175 rfl rfl ?_
              refine wp_getfield 179 12 27 d_Mo_laysWays_176 rfl fl_Mo_56 rfl rfl ?_
              refine wp_aload_n 180 d_Mo_laysWays_179 rfl rfl ?_
              refine wp_getfield 183 12 31 d_Mo_laysWays_180 rfl fl_Mo_395 rfl rfl ?_
              refine wp_iload_n 184 d_Mo_laysWays_183 rfl rfl ?_
              refine wp_iastoreN 185 d_Mo_laysWays_184 rfl rfl rfl (by omega) ?_
              refine hEq (hM (beU (beU a a_ (nI (i / 24))) b_ (nI (i % 24))) m_names m_status m_top m_bottom m_sort m_trayMany m_trays m_tape m_text m_taped m_size m_token m_from m_end m_value m_faultKind m_faultPlace m_faults m_seen m_areOdds m_opened m_depth m_counted (s2.2.1) (s2.2.2) (s2.1) (upd w.1 w.2.2.2 (nI i)) (w.2.1) (w.2.2.1) (od) (nI w.2.2.2) (nI a_) (nI b_) m_farBy m_rowBy m_triedBy m_rowMany m_doneAt m_gotAt m_struckAt m_bestDeed m_misBy m_drawn m_ranSteps m_loops m_ran m_told1 m_isTold m_marks) rfl ?_
              refine wp_iconst 186 0 d_Mo_laysWays_185 rfl (by decide) ?_
              refine wp_istore_4 188 d_Mo_laysWays_186 rfl rfl rfl ?_
              refine l_Mo_laysWays_188 (t := t) V2.P I.hP (by omega) (X := (fX t (nI a_) (nI b_) (i / wsN (nI b_)) (i % wsN (nI b_)))) (Y := (fY t (nI a_) (nI b_) (i / wsN (nI b_)) (i % wsN (nI b_)))) (fun q hq_ => ⟨(hch.2.2.1 q hq_).1.trans (hXY q (by have := I.hP; omega)).1, (hch.2.2.1 q hq_).2.trans (hXY q (by have := I.hP; omega)).2⟩) t.nP 0 w.2.1 w.2.2.1 (by omega) ?_
              refine wp_aload_n 250 d_Mo_laysWays_249 rfl rfl ?_
              refine wp_dup 251 d_Mo_laysWays_250 rfl rfl ?_
              refine wp_getfield 254 12 31 d_Mo_laysWays_251 rfl fl_Mo_395 rfl rfl ?_
              refine wp_iconst 255 1 d_Mo_laysWays_254 rfl (by decide) ?_
              refine wp_iadd 256 d_Mo_laysWays_255 rfl ?_
              rw [nI_1]
              refine wp_putfield 259 12 31 _ d_Mo_laysWays_256 rfl fp_Mo_395 rfl rfl (okP_int _) ?_
              refine hEq (hM (beU (beU a a_ (nI (i / 24))) b_ (nI (i % 24))) m_names m_status m_top m_bottom m_sort m_trayMany m_trays m_tape m_text m_taped m_size m_token m_from m_end m_value m_faultKind m_faultPlace m_faults m_seen m_areOdds m_opened m_depth m_counted (s2.2.1) (s2.2.2) (s2.1) (upd w.1 w.2.2.2 (nI i)) (iterN (cpW w.2.2.2 (fX t (nI a_) (nI b_) (i / wsN (nI b_)) (i % wsN (nI b_)))) t.nP 0 w.2.1) (iterN (cpW w.2.2.2 (fY t (nI a_) (nI b_) (i / wsN (nI b_)) (i % wsN (nI b_)))) t.nP 0 w.2.2.1) (od) (nI (w.2.2.2 + 1)) (nI a_) (nI b_) m_farBy m_rowBy m_triedBy m_rowMany m_doneAt m_gotAt m_struckAt m_bestDeed m_misBy m_drawn m_ranSteps m_loops m_ran m_told1 m_isTold m_marks) rfl ?_
              first | refine wp_iincN_3 262 d_Mo_laysWays_259 rfl rfl rfl ?_ | refine wp_iinc_3 262 1 d_Mo_laysWays_259 rfl (by decide) rfl rfl ?_
              refine wp_goto 108 d_Mo_laysWays_262 (by decide) ?_
              have e : wsG t (nI a_) (nI b_) (wsN (nI b_)) i w = (upd w.1 w.2.2.2 (nI i), iterN (cpW w.2.2.2 (fX t (nI a_) (nI b_) (i / wsN (nI b_)) (i % wsN (nI b_)))) t.nP 0 w.2.1, iterN (cpW w.2.2.2 (fY t (nI a_) (nI b_) (i / wsN (nI b_)) (i % wsN (nI b_)))) t.nP 0 w.2.2.1, w.2.2.2 + 1) := if_pos (hC.mp h169)
              exact ih (i + 1) (beU (beU a a_ (nI (i / 24))) b_ (nI (i % 24))) (upd (upd fa a_ (nI (i / 24))) b_ (nI (i % 24))) (upd w.1 w.2.2.2 (nI i), iterN (cpW w.2.2.2 (fX t (nI a_) (nI b_) (i / wsN (nI b_)) (i % wsN (nI b_)))) t.nP 0 w.2.1, iterN (cpW w.2.2.2 (fY t (nI a_) (nI b_) (i / wsN (nI b_)) (i % wsN (nI b_)))) t.nP 0 w.2.2.1, w.2.2.2 + 1) s2 _ (by omega) ⟨V2, hfr2, hF2, by show w.2.2.2 + 1 ≤ i + 1; omega, by rw [← e]; exact hq⟩
            · refine wp_goto 259 d_Mo_laysWays_172 (by decide) ?_
              first | refine wp_iincN_3 262 d_Mo_laysWays_259 rfl rfl rfl ?_ | refine wp_iinc_3 262 1 d_Mo_laysWays_259 rfl (by decide) rfl rfl ?_
              refine wp_goto 108 d_Mo_laysWays_262 (by decide) ?_
              have e : wsG t (nI a_) (nI b_) (wsN (nI b_)) i w = w := if_neg (fun z => h169 (hC.mpr z))
              exact ih (i + 1) (beU (beU a a_ (nI (i / 24))) b_ (nI (i % 24))) (upd (upd fa a_ (nI (i / 24))) b_ (nI (i % 24))) w s2 _ (by omega) ⟨V2, hfr2, hF2, by omega, by rw [← e]; exact hq⟩
        · subst h131
          have hi1 : i < 24 := by rw [eN1, show wsN (-1) = 1 from rfl] at hi; omega
          refine wp_iload_n 135 d_Mo_laysWays_134 rfl rfl ?_
          refine wp_goto 142 d_Mo_laysWays_135 (by decide) ?_
          refine wp_V2 145 M_Mo_believes 2 d_Mo_laysWays_142 rfl mv_Mo_believes lk_Mo_371 rfl rfl rfl rfl rfl ?_
          refine c_Mo_believes (by omega) ?_
          refine kV ?_
          refine wp_aload_n 146 d_Mo_laysWays_145 rfl rfl ?_
          refine wp_getfield 149 12 33 d_Mo_laysWays_146 rfl fl_Mo_392 rfl rfl ?_
          refine wp_iconst 150 (-1) d_Mo_laysWays_149 rfl (by decide) ?_
          refine wp_icmp_eq 165 153 d_Mo_laysWays_150 rfl (by decide) (fun h150 => ?_) (fun h150 => ?_)
          · have V2 : vT (beU a a_ (nI i)) (tFa t (upd fa a_ (nI i))) := vT_be Va ha_ (inR_N (n := 24) (by omega) (by omega))
            have hfr2 : frA m_at (beU a a_ (nI i)) := frA_be hfr (by omega)
            have hF2 : FI0 t (nI a_) (-1) (upd fa a_ (nI i)) := FI0_u I hF0 (Or.inl rfl)
            have hFT : FIT t (nI a_) (-1) (i / wsN (-1)) (i % wsN (-1)) (upd fa a_ (nI i)) := by rw [show wsN (-1) = 1 from rfl, Nat.div_one]; exact FIT_b I ha_ hF0
            obtain ⟨hC, hXY⟩ := fit_C I J hFT
            refine wp_aload_n 166 d_Mo_laysWays_165 rfl rfl ?_
            refine wp_V0 169 M_Mo_isClosed 7 d_Mo_laysWays_166 rfl mv_Mo_isClosed lk_Mo_337 rfl rfl rfl rfl rfl ?_
            refine c_Mo_isClosed V2 (fun s2 hch => ?_)
            refine kI ?_
            (first | refine wp_ifP_ne 175 172 d_Mo_laysWays_169 rfl (by decide) (fun h169 => ?_) (fun h169 => ?_) | refine wp_if_ne 175 172 d_Mo_laysWays_169 rfl (by decide) (fun h169 => ?_) (fun h169 => ?_))
            · refine wp_aload_n 176 d_Mo_laysWays_175 rfl rfl ?_
              refine wp_getfield 179 12 27 d_Mo_laysWays_176 rfl fl_Mo_56 rfl rfl ?_
              refine wp_aload_n 180 d_Mo_laysWays_179 rfl rfl ?_
              refine wp_getfield 183 12 31 d_Mo_laysWays_180 rfl fl_Mo_395 rfl rfl ?_
              refine wp_iload_n 184 d_Mo_laysWays_183 rfl rfl ?_
              refine wp_iastoreN 185 d_Mo_laysWays_184 rfl rfl rfl (by omega) ?_
              refine hEq (hM (beU a a_ (nI i)) m_names m_status m_top m_bottom m_sort m_trayMany m_trays m_tape m_text m_taped m_size m_token m_from m_end m_value m_faultKind m_faultPlace m_faults m_seen m_areOdds m_opened m_depth m_counted (s2.2.1) (s2.2.2) (s2.1) (upd w.1 w.2.2.2 (nI i)) (w.2.1) (w.2.2.1) (od) (nI w.2.2.2) (nI a_) (-1) m_farBy m_rowBy m_triedBy m_rowMany m_doneAt m_gotAt m_struckAt m_bestDeed m_misBy m_drawn m_ranSteps m_loops m_ran m_told1 m_isTold m_marks) rfl ?_
              refine wp_iconst 186 0 d_Mo_laysWays_185 rfl (by decide) ?_
              refine wp_istore_4 188 d_Mo_laysWays_186 rfl rfl rfl ?_
              refine l_Mo_laysWays_188 (t := t) V2.P I.hP (by omega) (X := (fX t (nI a_) (-1) (i / wsN (-1)) (i % wsN (-1)))) (Y := (fY t (nI a_) (-1) (i / wsN (-1)) (i % wsN (-1)))) (fun q hq_ => ⟨(hch.2.2.1 q hq_).1.trans (hXY q (by have := I.hP; omega)).1, (hch.2.2.1 q hq_).2.trans (hXY q (by have := I.hP; omega)).2⟩) t.nP 0 w.2.1 w.2.2.1 (by omega) ?_
              refine wp_aload_n 250 d_Mo_laysWays_249 rfl rfl ?_
              refine wp_dup 251 d_Mo_laysWays_250 rfl rfl ?_
              refine wp_getfield 254 12 31 d_Mo_laysWays_251 rfl fl_Mo_395 rfl rfl ?_
              refine wp_iconst 255 1 d_Mo_laysWays_254 rfl (by decide) ?_
              refine wp_iadd 256 d_Mo_laysWays_255 rfl ?_
              rw [nI_1]
              refine wp_putfield 259 12 31 _ d_Mo_laysWays_256 rfl fp_Mo_395 rfl rfl (okP_int _) ?_
              refine hEq (hM (beU a a_ (nI i)) m_names m_status m_top m_bottom m_sort m_trayMany m_trays m_tape m_text m_taped m_size m_token m_from m_end m_value m_faultKind m_faultPlace m_faults m_seen m_areOdds m_opened m_depth m_counted (s2.2.1) (s2.2.2) (s2.1) (upd w.1 w.2.2.2 (nI i)) (iterN (cpW w.2.2.2 (fX t (nI a_) (-1) (i / wsN (-1)) (i % wsN (-1)))) t.nP 0 w.2.1) (iterN (cpW w.2.2.2 (fY t (nI a_) (-1) (i / wsN (-1)) (i % wsN (-1)))) t.nP 0 w.2.2.1) (od) (nI (w.2.2.2 + 1)) (nI a_) (-1) m_farBy m_rowBy m_triedBy m_rowMany m_doneAt m_gotAt m_struckAt m_bestDeed m_misBy m_drawn m_ranSteps m_loops m_ran m_told1 m_isTold m_marks) rfl ?_
              first | refine wp_iincN_3 262 d_Mo_laysWays_259 rfl rfl rfl ?_ | refine wp_iinc_3 262 1 d_Mo_laysWays_259 rfl (by decide) rfl rfl ?_
              refine wp_goto 108 d_Mo_laysWays_262 (by decide) ?_
              have e : wsG t (nI a_) (-1) (wsN (-1)) i w = (upd w.1 w.2.2.2 (nI i), iterN (cpW w.2.2.2 (fX t (nI a_) (-1) (i / wsN (-1)) (i % wsN (-1)))) t.nP 0 w.2.1, iterN (cpW w.2.2.2 (fY t (nI a_) (-1) (i / wsN (-1)) (i % wsN (-1)))) t.nP 0 w.2.2.1, w.2.2.2 + 1) := if_pos (hC.mp h169)
              exact ih (i + 1) (beU a a_ (nI i)) (upd fa a_ (nI i)) (upd w.1 w.2.2.2 (nI i), iterN (cpW w.2.2.2 (fX t (nI a_) (-1) (i / wsN (-1)) (i % wsN (-1)))) t.nP 0 w.2.1, iterN (cpW w.2.2.2 (fY t (nI a_) (-1) (i / wsN (-1)) (i % wsN (-1)))) t.nP 0 w.2.2.1, w.2.2.2 + 1) s2 _ (by omega) ⟨V2, hfr2, hF2, by show w.2.2.2 + 1 ≤ i + 1; omega, by rw [← e]; exact hq⟩
            · refine wp_goto 259 d_Mo_laysWays_172 (by decide) ?_
              first | refine wp_iincN_3 262 d_Mo_laysWays_259 rfl rfl rfl ?_ | refine wp_iinc_3 262 1 d_Mo_laysWays_259 rfl (by decide) rfl rfl ?_
              refine wp_goto 108 d_Mo_laysWays_262 (by decide) ?_
              have e : wsG t (nI a_) (-1) (wsN (-1)) i w = w := if_neg (fun z => h169 (hC.mpr z))
              exact ih (i + 1) (beU a a_ (nI i)) (upd fa a_ (nI i)) w s2 _ (by omega) ⟨V2, hfr2, hF2, by omega, by rw [← e]; exact hq⟩
          · exact absurd rfl h150

set_option maxRecDepth 100000 in
set_option maxHeartbeats 4000000 in
theorem l_Mo_laysWays_267 {od : Nat → Int32} {set all : Int32} {w4 : Option Value} (hW : t.nW ≤ 4) (J : tIn t) (hod : ∀ j, j < t.nW → od j = t.fa j) : ∀ (r i : Nat) (a fa : Nat → Int32), i + r = t.nW → (vT a (tFa t fa) ∧ frA m_at a ∧ (∀ j, j < i → fa j = t.fa j) ∧ ∀ a2, vT a2 t → frA m_at a2 → Q none (hM (a2) m_names m_status m_top m_bottom m_sort m_trayMany m_trays m_tape m_text m_taped m_size m_token m_from m_end m_value m_faultKind m_faultPlace m_faults m_seen m_areOdds m_opened m_depth m_counted m_eastBy m_northBy m_partBy m_wayFaults m_wayEast m_wayNorth (od) m_wayMany m_oneOfSet m_twoOfSet m_farBy m_rowBy m_triedBy m_rowMany m_doneAt m_gotAt m_struckAt m_bestDeed m_misBy m_drawn m_ranSteps m_loops m_ran m_told1 m_isTold m_marks)) → WP Γ M_Mo_laysWays 8 0 0 (hM (a) m_names m_status m_top m_bottom m_sort m_trayMany m_trays m_tape m_text m_taped m_size m_token m_from m_end m_value m_faultKind m_faultPlace m_faults m_seen m_areOdds m_opened m_depth m_counted m_eastBy m_northBy m_partBy m_wayFaults m_wayEast m_wayNorth (od) m_wayMany m_oneOfSet m_twoOfSet m_farBy m_rowBy m_triedBy m_rowMany m_doneAt m_gotAt m_struckAt m_bestDeed m_misBy m_drawn m_ranSteps m_loops m_ran m_told1 m_isTold m_marks) 267 [some (.ref 0), some (.int set), some (.int all), some (.int (nI i)), w4] [] Q := by
  intro r
  induction r with
  | zero =>
    intro i a fa hi hinv
    obtain ⟨Va, hfr, hfa, hq⟩ := hinv
    refine wp_iload_n 268 d_Mo_laysWays_267 rfl rfl ?_
    refine wp_aload_n 269 d_Mo_laysWays_268 rfl rfl ?_
    refine wp_getfield 272 12 0 d_Mo_laysWays_269 rfl fl_Mo_7 rfl rfl ?_
    refine wp_iconst 273 1 d_Mo_laysWays_272 rfl (by decide) ?_
    refine wp_iaload 274 d_Mo_laysWays_273 rfl rfl (vp_in_nI (n := 1) (N := 2332) (by omega) (by omega)) ?_
    rw [show a (1 : Int32).toNatClampNeg = nI t.nW from Va.W]
    refine wp_icmp_ge 294 277 d_Mo_laysWays_274 rfl (by decide) (fun h274 => ?_) (fun h274 => ?_)
    · refine wp_return d_Mo_laysWays_294 rfl ?_
      have e : i = t.nW := by omega
      subst e
      exact hq a (vT_fa Va J hfa) hfr
    · exact absurd ((nI_leI (a := t.nW) (by omega) (by omega)).mpr (by omega)) h274
  | succ r ih =>
    intro i a fa hi hinv
    obtain ⟨Va, hfr, hfa, hq⟩ := hinv
    refine wp_iload_n 268 d_Mo_laysWays_267 rfl rfl ?_
    refine wp_aload_n 269 d_Mo_laysWays_268 rfl rfl ?_
    refine wp_getfield 272 12 0 d_Mo_laysWays_269 rfl fl_Mo_7 rfl rfl ?_
    refine wp_iconst 273 1 d_Mo_laysWays_272 rfl (by decide) ?_
    refine wp_iaload 274 d_Mo_laysWays_273 rfl rfl (vp_in_nI (n := 1) (N := 2332) (by omega) (by omega)) ?_
    rw [show a (1 : Int32).toNatClampNeg = nI t.nW from Va.W]
    refine wp_icmp_ge 294 277 d_Mo_laysWays_274 rfl (by decide) (fun h274 => ?_) (fun h274 => ?_)
    · exact absurd (nI_leN (b := t.nW) h274 (by omega) (by omega)) (by omega)
    · refine wp_aload_n 278 d_Mo_laysWays_277 rfl rfl ?_
      refine wp_iload_n 279 d_Mo_laysWays_278 rfl rfl ?_
      refine wp_aload_n 280 d_Mo_laysWays_279 rfl rfl ?_
      refine wp_getfield 283 12 30 d_Mo_laysWays_280 rfl fl_Mo_65 rfl rfl ?_
      refine wp_iload_n 284 d_Mo_laysWays_283 rfl rfl ?_
      refine wp_ialoadN 285 d_Mo_laysWays_284 rfl rfl rfl (by omega) ?_
      rw [hod i (by omega)]
      refine wp_V2 288 M_Mo_believes 2 d_Mo_laysWays_285 rfl mv_Mo_believes lk_Mo_371 rfl rfl rfl rfl rfl ?_
      refine c_Mo_believes (by omega) ?_
      refine kV ?_
      first | refine wp_iincN_3 291 d_Mo_laysWays_288 rfl rfl rfl ?_ | refine wp_iinc_3 291 1 d_Mo_laysWays_288 rfl (by decide) rfl rfl ?_
      refine wp_goto 267 d_Mo_laysWays_291 (by decide) ?_
      refine ih (i + 1) (beU a i (t.fa i)) (upd fa i (t.fa i)) (by omega) ⟨vT_be Va (by show i < t.nW; omega) (J.2.1 i (by omega)), frA_be hfr (by omega), fun j hj => ?_, hq⟩
      by_cases z : j = i
      · rw [z, upd_at]
      · rw [upd_ne z]; exact hfa j (by omega)

theorem tPk_f {t : TW} (I : tOK t) (set : Int32) : ((tPk t set).1 = -1 ∨ ∃ a, a < t.nW ∧ (tPk t set).1 = nI a) ∧ ((tPk t set).2 = -1 ∨ ∃ b, b < t.nW ∧ (tPk t set).2 = nI b) ∧ ((tPk t set).1 = -1 → (tPk t set).2 = -1) ∧ wsN (tPk t set).1 * wsN (tPk t set).2 ≤ 576 := by
  have hW := I.hW
  have hN : ∀ x : Int32, wsN x ≤ 24 := fun x => by unfold wsN; split <;> omega
  have hm := Nat.mul_le_mul (hN (tPk t set).1) (hN (tPk t set).2)
  rcases tPk_I I set with ⟨h1, h2, h3⟩ | ⟨a, ha, h1, h2, ⟨h3, h4⟩ | ⟨b, hb, h3, h4, h5⟩⟩
  · exact ⟨Or.inl h1, Or.inl h2, fun _ => h2, hm⟩
  · exact ⟨Or.inr ⟨a, ha, h1⟩, Or.inl h3, fun _ => h3, hm⟩
  · exact ⟨Or.inr ⟨a, ha, h1⟩, Or.inr ⟨b, hb, h3⟩, fun z => absurd (h1.symm.trans z) (nI_ne1 (by omega)), hm⟩
set_option maxRecDepth 100000 in
set_option maxHeartbeats 4000000 in
theorem c_Mo_laysWays {set : Int32} (V : vT m_at t) (hq : ∀ (a2 o2 : Nat → Int32) (s2 : MS), vT a2 t → frA m_at a2 → Q none (hM (a2) m_names m_status m_top m_bottom m_sort m_trayMany m_trays m_tape m_text m_taped m_size m_token m_from m_end m_value m_faultKind m_faultPlace m_faults m_seen m_areOdds m_opened m_depth m_counted (s2.2.1) (s2.2.2) (s2.1) ((wsA t set (m_wayFaults, m_wayEast, m_wayNorth, 0)).1) ((wsA t set (m_wayFaults, m_wayEast, m_wayNorth, 0)).2.1) ((wsA t set (m_wayFaults, m_wayEast, m_wayNorth, 0)).2.2.1) (o2) (nI (wsA t set (m_wayFaults, m_wayEast, m_wayNorth, 0)).2.2.2) ((tPk t set).1) ((tPk t set).2) m_farBy m_rowBy m_triedBy m_rowMany m_doneAt m_gotAt m_struckAt m_bestDeed m_misBy m_drawn m_ranSteps m_loops m_ran m_told1 m_isTold m_marks)) : Call Γ M_Mo_laysWays 8 0 0 [.ref 0, .int set] (hM m_at m_names m_status m_top m_bottom m_sort m_trayMany m_trays m_tape m_text m_taped m_size m_token m_from m_end m_value m_faultKind m_faultPlace m_faults m_seen m_areOdds m_opened m_depth m_counted m_eastBy m_northBy m_partBy m_wayFaults m_wayEast m_wayNorth m_olds m_wayMany m_oneOfSet m_twoOfSet m_farBy m_rowBy m_triedBy m_rowMany m_doneAt m_gotAt m_struckAt m_bestDeed m_misBy m_drawn m_ranSteps m_loops m_ran m_told1 m_isTold m_marks) Q := by
  obtain ⟨p1, p2, p3, p4⟩ := tPk_f V.ok set
  refine call_intro (ls := [some (.ref 0), some (.int set), none, none, none]) rfl rfl rfl ?_
  refine wp_aload_n 1 d_Mo_laysWays_0 rfl rfl ?_
  refine wp_iconst 2 (-1) d_Mo_laysWays_1 rfl (by decide) ?_
  refine wp_putfield 5 12 32 _ d_Mo_laysWays_2 rfl fp_Mo_389 rfl rfl (okP_int _) ?_
  refine hEq (hM m_at m_names m_status m_top m_bottom m_sort m_trayMany m_trays m_tape m_text m_taped m_size m_token m_from m_end m_value m_faultKind m_faultPlace m_faults m_seen m_areOdds m_opened m_depth m_counted m_eastBy m_northBy m_partBy m_wayFaults m_wayEast m_wayNorth m_olds m_wayMany (-1) m_twoOfSet m_farBy m_rowBy m_triedBy m_rowMany m_doneAt m_gotAt m_struckAt m_bestDeed m_misBy m_drawn m_ranSteps m_loops m_ran m_told1 m_isTold m_marks) rfl ?_
  refine wp_aload_n 6 d_Mo_laysWays_5 rfl rfl ?_
  refine wp_iconst 7 (-1) d_Mo_laysWays_6 rfl (by decide) ?_
  refine wp_putfield 10 12 33 _ d_Mo_laysWays_7 rfl fp_Mo_392 rfl rfl (okP_int _) ?_
  refine hEq (hM m_at m_names m_status m_top m_bottom m_sort m_trayMany m_trays m_tape m_text m_taped m_size m_token m_from m_end m_value m_faultKind m_faultPlace m_faults m_seen m_areOdds m_opened m_depth m_counted m_eastBy m_northBy m_partBy m_wayFaults m_wayEast m_wayNorth m_olds m_wayMany (-1) (-1) m_farBy m_rowBy m_triedBy m_rowMany m_doneAt m_gotAt m_struckAt m_bestDeed m_misBy m_drawn m_ranSteps m_loops m_ran m_told1 m_isTold m_marks) rfl ?_
  refine wp_iconst 11 0 d_Mo_laysWays_10 rfl (by decide) ?_
  refine wp_istore_2 12 d_Mo_laysWays_11 rfl rfl rfl ?_
  refine l_Mo_laysWays_12 V V.ok.hW t.nW 0 m_olds (-1, -1) (by omega) ⟨fun j hj => absurd hj (Nat.not_lt_zero j), fun od2 hod2 => ?_⟩
  refine hEq (hM m_at m_names m_status m_top m_bottom m_sort m_trayMany m_trays m_tape m_text m_taped m_size m_token m_from m_end m_value m_faultKind m_faultPlace m_faults m_seen m_areOdds m_opened m_depth m_counted m_eastBy m_northBy m_partBy m_wayFaults m_wayEast m_wayNorth (od2) m_wayMany ((tPk t set).1) ((tPk t set).2) m_farBy m_rowBy m_triedBy m_rowMany m_doneAt m_gotAt m_struckAt m_bestDeed m_misBy m_drawn m_ranSteps m_loops m_ran m_told1 m_isTold m_marks) rfl ?_
  refine wp_aload_n 73 d_Mo_laysWays_72 rfl rfl ?_
  refine wp_iconst 74 0 d_Mo_laysWays_73 rfl (by decide) ?_
  refine wp_putfield 77 12 31 _ d_Mo_laysWays_74 rfl fp_Mo_395 rfl rfl (okP_int _) ?_
  refine hEq (hM m_at m_names m_status m_top m_bottom m_sort m_trayMany m_trays m_tape m_text m_taped m_size m_token m_from m_end m_value m_faultKind m_faultPlace m_faults m_seen m_areOdds m_opened m_depth m_counted m_eastBy m_northBy m_partBy m_wayFaults m_wayEast m_wayNorth (od2) (nI 0) ((tPk t set).1) ((tPk t set).2) m_farBy m_rowBy m_triedBy m_rowMany m_doneAt m_gotAt m_struckAt m_bestDeed m_misBy m_drawn m_ranSteps m_loops m_ran m_told1 m_isTold m_marks) rfl ?_
  refine wp_aload_n 78 d_Mo_laysWays_77 rfl rfl ?_
  refine wp_getfield 81 12 32 d_Mo_laysWays_78 rfl fl_Mo_389 rfl rfl ?_
  refine wp_iconst 82 (-1) d_Mo_laysWays_81 rfl (by decide) ?_
  refine wp_icmp_ne 89 85 d_Mo_laysWays_82 rfl (by decide) (fun h82 => ?_) (fun h82 => ?_)
  · refine wp_aload_n 90 d_Mo_laysWays_89 rfl rfl ?_
    refine wp_getfield 93 12 33 d_Mo_laysWays_90 rfl fl_Mo_392 rfl rfl ?_
    refine wp_iconst 94 (-1) d_Mo_laysWays_93 rfl (by decide) ?_
    refine wp_icmp_ne 102 97 d_Mo_laysWays_94 rfl (by decide) (fun h94 => ?_) (fun h94 => ?_)
    · refine wp_sipush 105 576 d_Mo_laysWays_102 rfl (by decide) ?_
      rw [show (576 : Int32) = nI (wsN (tPk t set).1 * wsN (tPk t set).2) from by rw [show wsN (tPk t set).1 = 24 from if_neg h82, show wsN (tPk t set).2 = 24 from if_neg h94]; rfl]
      refine wp_istore_2 106 d_Mo_laysWays_105 rfl rfl rfl ?_
      refine wp_iconst 107 0 d_Mo_laysWays_106 rfl (by decide) ?_
      refine wp_istore_3 108 d_Mo_laysWays_107 rfl rfl rfl ?_
      refine l_Mo_laysWays_108 V.ok V.in_ p1 p2 p3 p4 (wsN (tPk t set).1 * wsN (tPk t set).2) 0 m_at t.fa (m_wayFaults, m_wayEast, m_wayNorth, 0) (m_partBy, m_eastBy, m_northBy) none (by omega) ⟨vT_tf V, frA.rf, fun _ _ _ _ => rfl, Nat.le_refl _, fun a2 fa2 s2 x4 V2 hfr2 => ?_⟩
      refine wp_iconst 266 0 d_Mo_laysWays_265 rfl (by decide) ?_
      refine wp_istore_3 267 d_Mo_laysWays_266 rfl rfl rfl ?_
      exact l_Mo_laysWays_267 V.ok.hW V.in_ hod2 t.nW 0 a2 fa2 (by omega) ⟨V2, frA.rf, fun j hj => absurd hj (Nat.not_lt_zero j), fun a9 V9 hfr9 => hq a9 od2 s2 V9 (fun j hj => (hfr9 j hj).trans (hfr2 j hj))⟩
    · refine wp_bipush 99 24 d_Mo_laysWays_97 rfl (by decide) ?_
      refine wp_goto 105 d_Mo_laysWays_99 (by decide) ?_
      rw [show (24 : Int32) = nI (wsN (tPk t set).1 * wsN (tPk t set).2) from by rw [h94, show wsN (tPk t set).1 = 24 from if_neg h82]; rfl]
      refine wp_istore_2 106 d_Mo_laysWays_105 rfl rfl rfl ?_
      refine wp_iconst 107 0 d_Mo_laysWays_106 rfl (by decide) ?_
      refine wp_istore_3 108 d_Mo_laysWays_107 rfl rfl rfl ?_
      refine l_Mo_laysWays_108 V.ok V.in_ p1 p2 p3 p4 (wsN (tPk t set).1 * wsN (tPk t set).2) 0 m_at t.fa (m_wayFaults, m_wayEast, m_wayNorth, 0) (m_partBy, m_eastBy, m_northBy) none (by omega) ⟨vT_tf V, frA.rf, fun _ _ _ _ => rfl, Nat.le_refl _, fun a2 fa2 s2 x4 V2 hfr2 => ?_⟩
      refine wp_iconst 266 0 d_Mo_laysWays_265 rfl (by decide) ?_
      refine wp_istore_3 267 d_Mo_laysWays_266 rfl rfl rfl ?_
      exact l_Mo_laysWays_267 V.ok.hW V.in_ hod2 t.nW 0 a2 fa2 (by omega) ⟨V2, frA.rf, fun j hj => absurd hj (Nat.not_lt_zero j), fun a9 V9 hfr9 => hq a9 od2 s2 V9 (fun j hj => (hfr9 j hj).trans (hfr2 j hj))⟩
  · refine wp_iconst 86 1 d_Mo_laysWays_85 rfl (by decide) ?_
    refine wp_goto 105 d_Mo_laysWays_86 (by decide) ?_
    rw [show (1 : Int32) = nI (wsN (tPk t set).1 * wsN (tPk t set).2) from by rw [h82, p3 h82]; rfl]
    refine wp_istore_2 106 d_Mo_laysWays_105 rfl rfl rfl ?_
    refine wp_iconst 107 0 d_Mo_laysWays_106 rfl (by decide) ?_
    refine wp_istore_3 108 d_Mo_laysWays_107 rfl rfl rfl ?_
    refine l_Mo_laysWays_108 V.ok V.in_ p1 p2 p3 p4 (wsN (tPk t set).1 * wsN (tPk t set).2) 0 m_at t.fa (m_wayFaults, m_wayEast, m_wayNorth, 0) (m_partBy, m_eastBy, m_northBy) none (by omega) ⟨vT_tf V, frA.rf, fun _ _ _ _ => rfl, Nat.le_refl _, fun a2 fa2 s2 x4 V2 hfr2 => ?_⟩
    refine wp_iconst 266 0 d_Mo_laysWays_265 rfl (by decide) ?_
    refine wp_istore_3 267 d_Mo_laysWays_266 rfl rfl rfl ?_
    exact l_Mo_laysWays_267 V.ok.hW V.in_ hod2 t.nW 0 a2 fa2 (by omega) ⟨V2, frA.rf, fun j hj => absurd hj (Nat.not_lt_zero j), fun a9 V9 hfr9 => hq a9 od2 s2 V9 (fun j hj => (hfr9 j hj).trans (hfr2 j hj))⟩

set_option maxRecDepth 100000 in
set_option maxHeartbeats 4000000 in
theorem c_Mo_faultIn {k its : Nat} {w : Int32} (hk : k < 576) (hi : its < 576) (hv : m_wayFaults k = nI its) (hq : Q (some (.int (fiV m_oneOfSet m_twoOfSet its w))) (hM m_at m_names m_status m_top m_bottom m_sort m_trayMany m_trays m_tape m_text m_taped m_size m_token m_from m_end m_value m_faultKind m_faultPlace m_faults m_seen m_areOdds m_opened m_depth m_counted m_eastBy m_northBy m_partBy m_wayFaults m_wayEast m_wayNorth m_olds m_wayMany m_oneOfSet m_twoOfSet m_farBy m_rowBy m_triedBy m_rowMany m_doneAt m_gotAt m_struckAt m_bestDeed m_misBy m_drawn m_ranSteps m_loops m_ran m_told1 m_isTold m_marks)) : Call Γ M_Mo_faultIn 1 0 0 [.ref 0, .int (nI k), .int w] (hM m_at m_names m_status m_top m_bottom m_sort m_trayMany m_trays m_tape m_text m_taped m_size m_token m_from m_end m_value m_faultKind m_faultPlace m_faults m_seen m_areOdds m_opened m_depth m_counted m_eastBy m_northBy m_partBy m_wayFaults m_wayEast m_wayNorth m_olds m_wayMany m_oneOfSet m_twoOfSet m_farBy m_rowBy m_triedBy m_rowMany m_doneAt m_gotAt m_struckAt m_bestDeed m_misBy m_drawn m_ranSteps m_loops m_ran m_told1 m_isTold m_marks) Q := by
  refine call_intro (ls := [some (.ref 0), some (.int (nI k)), some (.int w), none]) rfl rfl rfl ?_
  refine wp_aload_n 1 d_Mo_faultIn_0 rfl rfl ?_
  refine wp_getfield 4 12 27 d_Mo_faultIn_1 rfl fl_Mo_56 rfl rfl ?_
  refine wp_iload_n 5 d_Mo_faultIn_4 rfl rfl ?_
  refine wp_ialoadN 6 d_Mo_faultIn_5 rfl rfl rfl (by omega) ?_
  rw [hv]
  refine wp_istore_3 7 d_Mo_faultIn_6 rfl rfl rfl ?_
  refine wp_aload_n 8 d_Mo_faultIn_7 rfl rfl ?_
  refine wp_getfield 11 12 33 d_Mo_faultIn_8 rfl fl_Mo_392 rfl rfl ?_
  refine wp_iconst 12 (-1) d_Mo_faultIn_11 rfl (by decide) ?_
  refine wp_icmp_ne 19 15 d_Mo_faultIn_12 rfl (by decide) (fun h12 => ?_) (fun h12 => ?_)
  · refine wp_iload_n 20 d_Mo_faultIn_19 rfl rfl ?_
    refine wp_aload_n 21 d_Mo_faultIn_20 rfl rfl ?_
    refine wp_getfield 24 12 32 d_Mo_faultIn_21 rfl fl_Mo_389 rfl rfl ?_
    refine wp_icmp_ne 34 27 d_Mo_faultIn_24 rfl (by decide) (fun h24 => ?_) (fun h24 => ?_)
    · refine wp_iload_n 35 d_Mo_faultIn_34 rfl rfl ?_
      refine wp_bipush 37 24 d_Mo_faultIn_35 rfl (by decide) ?_
      refine wp_irem 38 d_Mo_faultIn_37 rfl (by decide) ?_
      rw [(div24 its hi).2]
      refine wp_ireturn d_Mo_faultIn_38 rfl ?_
      refine qI hq ?_
      unfold fiV
      rw [if_neg h12, if_neg h24]
    · refine wp_iload_n 28 d_Mo_faultIn_27 rfl rfl ?_
      refine wp_bipush 30 24 d_Mo_faultIn_28 rfl (by decide) ?_
      refine wp_idiv 31 d_Mo_faultIn_30 rfl (by decide) ?_
      rw [(div24 its hi).1]
      refine wp_goto 38 d_Mo_faultIn_31 (by decide) ?_
      refine wp_ireturn d_Mo_faultIn_38 rfl ?_
      refine qI hq ?_
      unfold fiV
      rw [if_neg h12, if_pos h24]
  · refine wp_iload_n 16 d_Mo_faultIn_15 rfl rfl ?_
    refine wp_goto 38 d_Mo_faultIn_16 (by decide) ?_
    refine wp_ireturn d_Mo_faultIn_38 rfl ?_
    refine qI hq ?_
    unfold fiV
    rw [if_pos h12]

set_option maxRecDepth 100000 in
set_option maxHeartbeats 4000000 in
theorem c_Mo_fits {s : Int32} (V : vT m_at t) (U : UT) (hq : ∀ (a2 o2 : Nat → Int32) (w2 : WS) (q2 x2 y2 : Int32) (s2 : MS), vT a2 t → frA m_at a2 → Q (some (.int (ftF t U s).2)) (hM (a2) m_names ((ftF t U s).1) m_top m_bottom m_sort m_trayMany m_trays m_tape m_text m_taped m_size m_token m_from m_end m_value m_faultKind m_faultPlace m_faults m_seen m_areOdds m_opened m_depth m_counted (s2.2.1) (s2.2.2) (s2.1) (w2.1) (w2.2.1) (w2.2.2.1) (o2) (q2) (x2) (y2) m_farBy m_rowBy m_triedBy m_rowMany m_doneAt m_gotAt m_struckAt m_bestDeed m_misBy m_drawn m_ranSteps m_loops m_ran m_told1 m_isTold m_marks)) : Call Γ M_Mo_fits 9 0 0 [.ref 0, .int s] (hM m_at m_names m_status m_top m_bottom m_sort m_trayMany m_trays m_tape m_text m_taped m_size m_token m_from m_end m_value m_faultKind m_faultPlace m_faults m_seen m_areOdds m_opened m_depth m_counted m_eastBy m_northBy m_partBy m_wayFaults m_wayEast m_wayNorth m_olds m_wayMany m_oneOfSet m_twoOfSet m_farBy m_rowBy m_triedBy m_rowMany m_doneAt m_gotAt m_struckAt m_bestDeed m_misBy m_drawn m_ranSteps m_loops m_ran m_told1 m_isTold m_marks) Q := by
  refine call_intro (ls := [some (.ref 0), some (.int s)]) rfl rfl rfl ?_
  refine wp_aload_n 1 d_Mo_fits_0 rfl rfl ?_
  refine wp_iload_n 2 d_Mo_fits_1 rfl rfl ?_
  refine wp_V1 5 M_Mo_isSet 2 d_Mo_fits_2 rfl mv_Mo_isSet lk_Mo_398 rfl rfl rfl rfl rfl ?_
  refine c_Mo_isSet V ?_
  refine kI ?_
  (first | refine wp_ifP_ne 14 8 d_Mo_fits_5 rfl (by decide) (fun h5 => ?_) (fun h5 => ?_) | refine wp_if_ne 14 8 d_Mo_fits_5 rfl (by decide) (fun h5 => ?_) (fun h5 => ?_))
  · refine wp_aload_n 15 d_Mo_fits_14 rfl rfl ?_
    refine wp_iload_n 16 d_Mo_fits_15 rfl rfl ?_
    refine wp_V1 19 M_Mo_laysWays 8 d_Mo_fits_16 rfl mv_Mo_laysWays lk_Mo_401 rfl rfl rfl rfl rfl ?_
    refine c_Mo_laysWays V (fun a2 o2 s2 V2 hfr2 => ?_)
    refine kV ?_
    refine wp_aload_n 20 d_Mo_fits_19 rfl rfl ?_
    refine wp_aload_n 21 d_Mo_fits_20 rfl rfl ?_
    refine wp_getfield 24 12 31 d_Mo_fits_21 rfl fl_Mo_395 rfl rfl ?_
    refine wp_V1 27 M_Mo_gives 1 d_Mo_fits_24 rfl mv_Mo_gives lk_Mo_115 rfl rfl rfl rfl rfl ?_
    refine c_Mo_gives ?_
    refine kI ?_
    refine wp_ireturn d_Mo_fits_27 rfl ?_
    have R := RW_all V.ok s (m_wayFaults, m_wayEast, m_wayNorth, 0) U
    have hn9 : (wsA t s (m_wayFaults, m_wayEast, m_wayNorth, 0)).2.2.2 = (tWs t U s).2.2.1 := R.1.1
    have hn8 : (wsA t s (m_wayFaults, m_wayEast, m_wayNorth, 0)).2.2.2 ≤ 576 := Nat.le_trans R.1.2 (tPk_f V.ok s).2.2.2
    have e : ftF t U s = _ := (if_pos h5)
    have h9 := hq a2 o2 (wsA t s (m_wayFaults, m_wayEast, m_wayNorth, 0)) (nI (wsA t s (m_wayFaults, m_wayEast, m_wayNorth, 0)).2.2.2) (tPk t s).1 (tPk t s).2 s2 V2 hfr2
    rw [e, ← hn9] at h9
    exact h9
  · refine wp_aload_n 9 d_Mo_fits_8 rfl rfl ?_
    refine wp_iconst 10 1 d_Mo_fits_9 rfl (by decide) ?_
    refine wp_V1 13 M_Mo_refuse 1 d_Mo_fits_10 rfl mv_Mo_refuse lk_Mo_111 rfl rfl rfl rfl rfl ?_
    refine c_Mo_refuse ?_
    refine kI ?_
    refine wp_ireturn d_Mo_fits_13 rfl ?_
    have e : ftF t U s = _ := (if_neg h5)
    have h9 := hq m_at m_olds (m_wayFaults, m_wayEast, m_wayNorth, 0) m_wayMany m_oneOfSet m_twoOfSet (m_partBy, m_eastBy, m_northBy) V frA.rf
    rw [e] at h9
    exact h9

set_option maxRecDepth 100000 in
set_option maxHeartbeats 4000000 in
theorem c_Mo_firstFault {s w : Int32} (V : vT m_at t) (U : UT) (hq : ∀ (a2 o2 : Nat → Int32) (w2 : WS) (q2 x2 y2 : Int32) (s2 : MS), vT a2 t → frA m_at a2 → Q (some (.int (ffF t U s w).2)) (hM (a2) m_names ((ffF t U s w).1) m_top m_bottom m_sort m_trayMany m_trays m_tape m_text m_taped m_size m_token m_from m_end m_value m_faultKind m_faultPlace m_faults m_seen m_areOdds m_opened m_depth m_counted (s2.2.1) (s2.2.2) (s2.1) (w2.1) (w2.2.1) (w2.2.2.1) (o2) (q2) (x2) (y2) m_farBy m_rowBy m_triedBy m_rowMany m_doneAt m_gotAt m_struckAt m_bestDeed m_misBy m_drawn m_ranSteps m_loops m_ran m_told1 m_isTold m_marks)) : Call Γ M_Mo_firstFault 9 0 0 [.ref 0, .int s, .int w] (hM m_at m_names m_status m_top m_bottom m_sort m_trayMany m_trays m_tape m_text m_taped m_size m_token m_from m_end m_value m_faultKind m_faultPlace m_faults m_seen m_areOdds m_opened m_depth m_counted m_eastBy m_northBy m_partBy m_wayFaults m_wayEast m_wayNorth m_olds m_wayMany m_oneOfSet m_twoOfSet m_farBy m_rowBy m_triedBy m_rowMany m_doneAt m_gotAt m_struckAt m_bestDeed m_misBy m_drawn m_ranSteps m_loops m_ran m_told1 m_isTold m_marks) Q := by
  refine call_intro (ls := [some (.ref 0), some (.int s), some (.int w)]) rfl rfl rfl ?_
  refine wp_aload_n 1 d_Mo_firstFault_0 rfl rfl ?_
  refine wp_iload_n 2 d_Mo_firstFault_1 rfl rfl ?_
  refine wp_V1 5 M_Mo_isSet 2 d_Mo_firstFault_2 rfl mv_Mo_isSet lk_Mo_398 rfl rfl rfl rfl rfl ?_
  refine c_Mo_isSet V ?_
  refine kI ?_
  (first | refine wp_ifP_eq 16 8 d_Mo_firstFault_5 rfl (by decide) (fun h5 => ?_) (fun h5 => ?_) | refine wp_if_eq 16 8 d_Mo_firstFault_5 rfl (by decide) (fun h5 => ?_) (fun h5 => ?_))
  · refine wp_aload_n 17 d_Mo_firstFault_16 rfl rfl ?_
    refine wp_iconst 18 1 d_Mo_firstFault_17 rfl (by decide) ?_
    refine wp_V1 21 M_Mo_refuse 1 d_Mo_firstFault_18 rfl mv_Mo_refuse lk_Mo_111 rfl rfl rfl rfl rfl ?_
    refine c_Mo_refuse ?_
    refine kI ?_
    refine wp_ireturn d_Mo_firstFault_21 rfl ?_
    have e : ffF t U s w = _ := (if_neg (fun z => h5 z.1))
    have h9 := hq m_at m_olds (m_wayFaults, m_wayEast, m_wayNorth, 0) m_wayMany m_oneOfSet m_twoOfSet (m_partBy, m_eastBy, m_northBy) V frA.rf
    rw [e] at h9
    exact h9
  · refine wp_aload_n 9 d_Mo_firstFault_8 rfl rfl ?_
    refine wp_iload_n 10 d_Mo_firstFault_9 rfl rfl ?_
    refine wp_V1 13 M_Mo_isWalker 1 d_Mo_firstFault_10 rfl mv_Mo_isWalker lk_Mo_340 rfl rfl rfl rfl rfl ?_
    refine c_Mo_isWalker V ?_
    refine kI ?_
    (first | refine wp_ifP_ne 22 16 d_Mo_firstFault_13 rfl (by decide) (fun h13 => ?_) (fun h13 => ?_) | refine wp_if_ne 22 16 d_Mo_firstFault_13 rfl (by decide) (fun h13 => ?_) (fun h13 => ?_))
    · refine wp_aload_n 23 d_Mo_firstFault_22 rfl rfl ?_
      refine wp_iload_n 24 d_Mo_firstFault_23 rfl rfl ?_
      refine wp_V1 27 M_Mo_laysWays 8 d_Mo_firstFault_24 rfl mv_Mo_laysWays lk_Mo_401 rfl rfl rfl rfl rfl ?_
      refine c_Mo_laysWays V (fun a2 o2 s2 V2 hfr2 => ?_)
      refine kV ?_
      refine wp_aload_n 28 d_Mo_firstFault_27 rfl rfl ?_
      refine wp_getfield 31 12 31 d_Mo_firstFault_28 rfl fl_Mo_395 rfl rfl ?_
      refine wp_if_ne 41 34 d_Mo_firstFault_31 rfl (by decide) (fun h31 => ?_) (fun h31 => ?_)
      · refine wp_aload_n 42 d_Mo_firstFault_41 rfl rfl ?_
        refine wp_iload_n 43 d_Mo_firstFault_42 rfl rfl ?_
        refine wp_iload_n 44 d_Mo_firstFault_43 rfl rfl ?_
        refine wp_V2 47 M_Mo_isIn 1 d_Mo_firstFault_44 rfl mv_Mo_isIn lk_Mo_281 rfl rfl rfl rfl rfl ?_
        refine c_Mo_isIn ?_
        refine kI ?_
        (first | refine wp_ifP_eq 63 50 d_Mo_firstFault_47 rfl (by decide) (fun h47 => ?_) (fun h47 => ?_) | refine wp_if_eq 63 50 d_Mo_firstFault_47 rfl (by decide) (fun h47 => ?_) (fun h47 => ?_))
        · refine wp_aload_n 64 d_Mo_firstFault_63 rfl rfl ?_
          refine wp_bipush 66 7 d_Mo_firstFault_64 rfl (by decide) ?_
          refine wp_V1 69 M_Mo_refuse 1 d_Mo_firstFault_66 rfl mv_Mo_refuse lk_Mo_111 rfl rfl rfl rfl rfl ?_
          refine c_Mo_refuse ?_
          refine kI ?_
          refine wp_ireturn d_Mo_firstFault_69 rfl ?_
          have R := RW_all V.ok s (m_wayFaults, m_wayEast, m_wayNorth, 0) U
          have hn9 : (wsA t s (m_wayFaults, m_wayEast, m_wayNorth, 0)).2.2.2 = (tWs t U s).2.2.1 := R.1.1
          have hn8 : (wsA t s (m_wayFaults, m_wayEast, m_wayNorth, 0)).2.2.2 ≤ 576 := Nat.le_trans R.1.2 (tPk_f V.ok s).2.2.2
          have e : ffF t U s w = _ := (((if_pos ⟨h5, h13⟩).trans (if_neg (fun z => h31 (by rw [hn9]; exact z)))).trans (if_neg h47))
          have h9 := hq a2 o2 (wsA t s (m_wayFaults, m_wayEast, m_wayNorth, 0)) (nI (wsA t s (m_wayFaults, m_wayEast, m_wayNorth, 0)).2.2.2) (tPk t s).1 (tPk t s).2 s2 V2 hfr2
          rw [e] at h9
          exact h9
        · have R := RW_all V.ok s (m_wayFaults, m_wayEast, m_wayNorth, 0) U
          have hn9 : (wsA t s (m_wayFaults, m_wayEast, m_wayNorth, 0)).2.2.2 = (tWs t U s).2.2.1 := R.1.1
          have hn8 : (wsA t s (m_wayFaults, m_wayEast, m_wayNorth, 0)).2.2.2 ≤ 576 := Nat.le_trans R.1.2 (tPk_f V.ok s).2.2.2
          have hpos : 0 < (wsA t s (m_wayFaults, m_wayEast, m_wayNorth, 0)).2.2.2 := Nat.pos_of_ne_zero (fun z => h31 (by rw [z]; rfl))
          refine wp_aload_n 51 d_Mo_firstFault_50 rfl rfl ?_
          refine wp_aload_n 52 d_Mo_firstFault_51 rfl rfl ?_
          refine wp_iconst 53 0 d_Mo_firstFault_52 rfl (by decide) ?_
          refine wp_iload_n 54 d_Mo_firstFault_53 rfl rfl ?_
          refine wp_V2 57 M_Mo_faultIn 1 d_Mo_firstFault_54 rfl mv_Mo_faultIn lk_Mo_404 rfl rfl rfl rfl rfl ?_
          refine c_Mo_faultIn (k := 0) (its := ixW (wsA t s (m_wayFaults, m_wayEast, m_wayNorth, 0)) 0) (by omega) (R.2.1 0 hpos).1 (R.2.1 0 hpos).2.1 ?_
          refine kI ?_
          refine wp_V1 60 M_Mo_gives 1 d_Mo_firstFault_57 rfl mv_Mo_gives lk_Mo_115 rfl rfl rfl rfl rfl ?_
          refine c_Mo_gives ?_
          refine kI ?_
          refine wp_goto 69 d_Mo_firstFault_60 (by decide) ?_
          refine wp_ireturn d_Mo_firstFault_69 rfl ?_
          have e : ffF t U s w = _ := (((if_pos ⟨h5, h13⟩).trans (if_neg (fun z => h31 (by rw [hn9]; exact z)))).trans (if_pos h47))
          have h9 := hq a2 o2 (wsA t s (m_wayFaults, m_wayEast, m_wayNorth, 0)) (nI (wsA t s (m_wayFaults, m_wayEast, m_wayNorth, 0)).2.2.2) (tPk t s).1 (tPk t s).2 s2 V2 hfr2
          rw [e] at h9
          obtain ⟨r4a, r4b⟩ := R.2.2.2 hpos
          rw [fiV_eq V.ok h13 h47]
          rw [r4a, r4b] at h9
          exact h9
      · refine wp_aload_n 35 d_Mo_firstFault_34 rfl rfl ?_
        refine wp_bipush 37 6 d_Mo_firstFault_35 rfl (by decide) ?_
        refine wp_V1 40 M_Mo_refuse 1 d_Mo_firstFault_37 rfl mv_Mo_refuse lk_Mo_111 rfl rfl rfl rfl rfl ?_
        refine c_Mo_refuse ?_
        refine kI ?_
        refine wp_ireturn d_Mo_firstFault_40 rfl ?_
        have R := RW_all V.ok s (m_wayFaults, m_wayEast, m_wayNorth, 0) U
        have hn9 : (wsA t s (m_wayFaults, m_wayEast, m_wayNorth, 0)).2.2.2 = (tWs t U s).2.2.1 := R.1.1
        have hn8 : (wsA t s (m_wayFaults, m_wayEast, m_wayNorth, 0)).2.2.2 ≤ 576 := Nat.le_trans R.1.2 (tPk_f V.ok s).2.2.2
        have e : ffF t U s w = _ := ((if_pos ⟨h5, h13⟩).trans (if_pos (by rw [← hn9]; exact h31)))
        have h9 := hq a2 o2 (wsA t s (m_wayFaults, m_wayEast, m_wayNorth, 0)) (nI (wsA t s (m_wayFaults, m_wayEast, m_wayNorth, 0)).2.2.2) (tPk t s).1 (tPk t s).2 s2 V2 hfr2
        rw [e] at h9
        exact h9
    · refine wp_aload_n 17 d_Mo_firstFault_16 rfl rfl ?_
      refine wp_iconst 18 1 d_Mo_firstFault_17 rfl (by decide) ?_
      refine wp_V1 21 M_Mo_refuse 1 d_Mo_firstFault_18 rfl mv_Mo_refuse lk_Mo_111 rfl rfl rfl rfl rfl ?_
      refine c_Mo_refuse ?_
      refine kI ?_
      refine wp_ireturn d_Mo_firstFault_21 rfl ?_
      have e : ffF t U s w = _ := (if_neg (fun z => h13 z.2))
      have h9 := hq m_at m_olds (m_wayFaults, m_wayEast, m_wayNorth, 0) m_wayMany m_oneOfSet m_twoOfSet (m_partBy, m_eastBy, m_northBy) V frA.rf
      rw [e] at h9
      exact h9

set_option maxRecDepth 100000 in
set_option maxHeartbeats 4000000 in
theorem l_Mo_oddsThat_75 {s x f : Int32} {w : WS} (hn : w.2.2.2 ≤ 576) (hw : ∀ k, k < w.2.2.2 → ixW w k < 576 ∧ w.1 k = nI (ixW w k)) : ∀ (r i : Nat) , i + r = w.2.2.2 → WP Γ M_Mo_oddsThat 9 0 0 (hM m_at m_names m_status m_top m_bottom m_sort m_trayMany m_trays m_tape m_text m_taped m_size m_token m_from m_end m_value m_faultKind m_faultPlace m_faults m_seen m_areOdds m_opened m_depth m_counted m_eastBy m_northBy m_partBy (w.1) m_wayEast m_wayNorth m_olds (nI w.2.2.2) ((tPk t s).1) ((tPk t s).2) m_farBy m_rowBy m_triedBy m_rowMany m_doneAt m_gotAt m_struckAt m_bestDeed m_misBy m_drawn m_ranSteps m_loops m_ran m_told1 m_isTold m_marks) 111 [some (.ref 0), some (.int s), some (.int x), some (.int f), some (.int (isum (fun k => if fiV (tPk t s).1 (tPk t s).2 (ixW w k) x = f then 1 else 0) w.2.2.2)), some (.int (nI w.2.2.2))] [] Q → WP Γ M_Mo_oddsThat 9 0 0 (hM m_at m_names m_status m_top m_bottom m_sort m_trayMany m_trays m_tape m_text m_taped m_size m_token m_from m_end m_value m_faultKind m_faultPlace m_faults m_seen m_areOdds m_opened m_depth m_counted m_eastBy m_northBy m_partBy (w.1) m_wayEast m_wayNorth m_olds (nI w.2.2.2) ((tPk t s).1) ((tPk t s).2) m_farBy m_rowBy m_triedBy m_rowMany m_doneAt m_gotAt m_struckAt m_bestDeed m_misBy m_drawn m_ranSteps m_loops m_ran m_told1 m_isTold m_marks) 75 [some (.ref 0), some (.int s), some (.int x), some (.int f), some (.int (isum (fun k => if fiV (tPk t s).1 (tPk t s).2 (ixW w k) x = f then 1 else 0) i)), some (.int (nI i))] [] Q := by
  intro r
  induction r with
  | zero =>
    intro i  hi hinv
    have hq := hinv
    refine wp_iload 77 d_Mo_oddsThat_75 rfl rfl ?_
    refine wp_aload_n 78 d_Mo_oddsThat_77 rfl rfl ?_
    refine wp_getfield 81 12 31 d_Mo_oddsThat_78 rfl fl_Mo_395 rfl rfl ?_
    refine wp_icmp_ge 111 84 d_Mo_oddsThat_81 rfl (by decide) (fun h81 => ?_) (fun h81 => ?_)
    · have e : i = w.2.2.2 := by omega
      rw [e]
      exact hq
    · exact absurd ((nI_leI (a := w.2.2.2) (by omega) (by omega)).mpr (by omega)) h81
  | succ r ih =>
    intro i  hi hinv
    have hq := hinv
    refine wp_iload 77 d_Mo_oddsThat_75 rfl rfl ?_
    refine wp_aload_n 78 d_Mo_oddsThat_77 rfl rfl ?_
    refine wp_getfield 81 12 31 d_Mo_oddsThat_78 rfl fl_Mo_395 rfl rfl ?_
    refine wp_icmp_ge 111 84 d_Mo_oddsThat_81 rfl (by decide) (fun h81 => ?_) (fun h81 => ?_)
    · exact absurd (nI_leN (b := w.2.2.2) h81 (by omega) (by omega)) (by omega)
    · refine wp_iload 86 d_Mo_oddsThat_84 rfl rfl ?_
      refine wp_aload_n 87 d_Mo_oddsThat_86 rfl rfl ?_
      refine wp_iload 89 d_Mo_oddsThat_87 rfl rfl ?_
      refine wp_iload_n 90 d_Mo_oddsThat_89 rfl rfl ?_
      refine wp_V2 93 M_Mo_faultIn 1 d_Mo_oddsThat_90 rfl mv_Mo_faultIn lk_Mo_404 rfl rfl rfl rfl rfl ?_
      refine c_Mo_faultIn (its := ixW w i) (by omega) (hw i (by omega)).1 (hw i (by omega)).2 ?_
      refine kI ?_
      refine wp_iload_n 94 d_Mo_oddsThat_93 rfl rfl ?_
      refine wp_icmp_ne 101 97 d_Mo_oddsThat_94 rfl (by decide) (fun h94 => ?_) (fun h94 => ?_)
      · refine wp_iconst 102 0 d_Mo_oddsThat_101 rfl (by decide) ?_
        refine wp_iadd 103 d_Mo_oddsThat_102 rfl ?_
        refine wp_istore_4 105 d_Mo_oddsThat_103 rfl rfl rfl ?_
        first | refine wp_iincN_5 108 d_Mo_oddsThat_105 rfl rfl rfl ?_ | refine wp_iinc_5 108 1 d_Mo_oddsThat_105 rfl (by decide) rfl rfl ?_
        refine wp_goto 75 d_Mo_oddsThat_108 (by decide) ?_
        refine qL2 ?_ (ih (i + 1) (by omega) hq)
        simp only [isum]
        rw [if_neg h94]
      · refine wp_iconst 98 1 d_Mo_oddsThat_97 rfl (by decide) ?_
        refine wp_goto 102 d_Mo_oddsThat_98 (by decide) ?_
        refine wp_iadd 103 d_Mo_oddsThat_102 rfl ?_
        refine wp_istore_4 105 d_Mo_oddsThat_103 rfl rfl rfl ?_
        first | refine wp_iincN_5 108 d_Mo_oddsThat_105 rfl rfl rfl ?_ | refine wp_iinc_5 108 1 d_Mo_oddsThat_105 rfl (by decide) rfl rfl ?_
        refine wp_goto 75 d_Mo_oddsThat_108 (by decide) ?_
        refine qL2 ?_ (ih (i + 1) (by omega) hq)
        simp only [isum]
        rw [if_pos h94]

set_option maxRecDepth 100000 in
set_option maxHeartbeats 4000000 in
theorem c_Mo_oddsThat {s x f : Int32} (V : vT m_at t) (U : UT) (hq0 : ∀ v, odS t U s x f = v → ¬ v = 0 → ∀ (a2 o2 : Nat → Int32) (w2 : WS) (q2 x2 y2 : Int32) (s2 : MS), vT a2 t → frA m_at a2 → Q (some (.int 0)) (hM (a2) m_names (v) m_top m_bottom m_sort m_trayMany m_trays m_tape m_text m_taped m_size m_token m_from m_end m_value m_faultKind m_faultPlace m_faults m_seen m_areOdds m_opened m_depth m_counted (s2.2.1) (s2.2.2) (s2.1) (w2.1) (w2.2.1) (w2.2.2.1) (o2) (q2) (x2) (y2) m_farBy m_rowBy m_triedBy m_rowMany m_doneAt m_gotAt m_struckAt m_bestDeed m_misBy m_drawn m_ranSteps m_loops m_ran m_told1 m_isTold m_marks)) (hq1 : odS t U s x f = 0 → ∀ (a2 o2 : Nat → Int32) (w2 : WS) (q2 x2 y2 : Int32) (s2 : MS), vT a2 t → frA m_at a2 → Q (some (.int 1)) (hM (a2) m_names (0) (frT (odA t U s x f) (odB t U s) m_top) (frB (odA t U s x f) (odB t U s) m_bottom) m_sort m_trayMany m_trays m_tape m_text m_taped m_size m_token m_from m_end m_value m_faultKind m_faultPlace m_faults m_seen m_areOdds m_opened m_depth m_counted (s2.2.1) (s2.2.2) (s2.1) (w2.1) (w2.2.1) (w2.2.2.1) (o2) (q2) (x2) (y2) m_farBy m_rowBy m_triedBy m_rowMany m_doneAt m_gotAt m_struckAt m_bestDeed m_misBy m_drawn m_ranSteps m_loops m_ran m_told1 m_isTold m_marks)) : Call Γ M_Mo_oddsThat 9 0 0 [.ref 0, .int s, .int x, .int f] (hM m_at m_names m_status m_top m_bottom m_sort m_trayMany m_trays m_tape m_text m_taped m_size m_token m_from m_end m_value m_faultKind m_faultPlace m_faults m_seen m_areOdds m_opened m_depth m_counted m_eastBy m_northBy m_partBy m_wayFaults m_wayEast m_wayNorth m_olds m_wayMany m_oneOfSet m_twoOfSet m_farBy m_rowBy m_triedBy m_rowMany m_doneAt m_gotAt m_struckAt m_bestDeed m_misBy m_drawn m_ranSteps m_loops m_ran m_told1 m_isTold m_marks) Q := by
  refine call_intro (ls := [some (.ref 0), some (.int s), some (.int x), some (.int f), none, none]) rfl rfl rfl ?_
  refine wp_aload_n 1 d_Mo_oddsThat_0 rfl rfl ?_
  refine wp_iload_n 2 d_Mo_oddsThat_1 rfl rfl ?_
  refine wp_V1 5 M_Mo_isSet 2 d_Mo_oddsThat_2 rfl mv_Mo_isSet lk_Mo_398 rfl rfl rfl rfl rfl ?_
  refine c_Mo_isSet V ?_
  refine kI ?_
  (first | refine wp_ifP_eq 28 8 d_Mo_oddsThat_5 rfl (by decide) (fun h5 => ?_) (fun h5 => ?_) | refine wp_if_eq 28 8 d_Mo_oddsThat_5 rfl (by decide) (fun h5 => ?_) (fun h5 => ?_))
  · refine wp_aload_n 29 d_Mo_oddsThat_28 rfl rfl ?_
    refine wp_iconst 30 1 d_Mo_oddsThat_29 rfl (by decide) ?_
    refine wp_V1 33 M_Mo_is 1 d_Mo_oddsThat_30 rfl mv_Mo_is lk_Mo_118 rfl rfl rfl rfl rfl ?_
    refine c_Mo_is ?_
    refine kI ?_
    refine wp_zreturn d_Mo_oddsThat_33 rfl (by first | rfl | exact nbP _) ?_
    have e : odS t U s x f = 1 := if_neg (fun z => h5 z.1)
    rw [bP_f (by decide)]
    exact hq0 1 e (by decide) m_at m_olds (m_wayFaults, m_wayEast, m_wayNorth, 0) m_wayMany m_oneOfSet m_twoOfSet (m_partBy, m_eastBy, m_northBy) V frA.rf
  · refine wp_aload_n 9 d_Mo_oddsThat_8 rfl rfl ?_
    refine wp_iload_n 10 d_Mo_oddsThat_9 rfl rfl ?_
    refine wp_V1 13 M_Mo_isWalker 1 d_Mo_oddsThat_10 rfl mv_Mo_isWalker lk_Mo_340 rfl rfl rfl rfl rfl ?_
    refine c_Mo_isWalker V ?_
    refine kI ?_
    (first | refine wp_ifP_eq 28 16 d_Mo_oddsThat_13 rfl (by decide) (fun h13 => ?_) (fun h13 => ?_) | refine wp_if_eq 28 16 d_Mo_oddsThat_13 rfl (by decide) (fun h13 => ?_) (fun h13 => ?_))
    · refine wp_aload_n 29 d_Mo_oddsThat_28 rfl rfl ?_
      refine wp_iconst 30 1 d_Mo_oddsThat_29 rfl (by decide) ?_
      refine wp_V1 33 M_Mo_is 1 d_Mo_oddsThat_30 rfl mv_Mo_is lk_Mo_118 rfl rfl rfl rfl rfl ?_
      refine c_Mo_is ?_
      refine kI ?_
      refine wp_zreturn d_Mo_oddsThat_33 rfl (by first | rfl | exact nbP _) ?_
      have e : odS t U s x f = 1 := if_neg (fun z => h13 z.2.1)
      rw [bP_f (by decide)]
      exact hq0 1 e (by decide) m_at m_olds (m_wayFaults, m_wayEast, m_wayNorth, 0) m_wayMany m_oneOfSet m_twoOfSet (m_partBy, m_eastBy, m_northBy) V frA.rf
    · refine wp_iload_n 17 d_Mo_oddsThat_16 rfl rfl ?_
      refine wp_i2l 18 d_Mo_oddsThat_17 rfl ?_
      refine wp_lconst 19 0 d_Mo_oddsThat_18 rfl (by decide) ?_
      refine wp_ldc2 22 (23 : Int64) d_Mo_oddsThat_19 rfl ct_Mo_369 ?_
      refine wp_S3 25 M_Mo_isFrom 1 d_Mo_oddsThat_22 rfl ms_Mo_isFrom lk_Mo_356 rfl rfl ?_
      refine c_Mo_isFrom ?_
      refine kI ?_
      (first | refine wp_ifP_ne 34 28 d_Mo_oddsThat_25 rfl (by decide) (fun h25 => ?_) (fun h25 => ?_) | refine wp_if_ne 34 28 d_Mo_oddsThat_25 rfl (by decide) (fun h25 => ?_) (fun h25 => ?_))
      · refine wp_aload_n 35 d_Mo_oddsThat_34 rfl rfl ?_
        refine wp_iload_n 36 d_Mo_oddsThat_35 rfl rfl ?_
        refine wp_V1 39 M_Mo_laysWays 8 d_Mo_oddsThat_36 rfl mv_Mo_laysWays lk_Mo_401 rfl rfl rfl rfl rfl ?_
        refine c_Mo_laysWays V (fun a2 o2 s2 V2 hfr2 => ?_)
        refine kV ?_
        refine wp_aload_n 40 d_Mo_oddsThat_39 rfl rfl ?_
        refine wp_getfield 43 12 31 d_Mo_oddsThat_40 rfl fl_Mo_395 rfl rfl ?_
        refine wp_if_ne 53 46 d_Mo_oddsThat_43 rfl (by decide) (fun h43 => ?_) (fun h43 => ?_)
        · refine wp_aload_n 54 d_Mo_oddsThat_53 rfl rfl ?_
          refine wp_iload_n 55 d_Mo_oddsThat_54 rfl rfl ?_
          refine wp_iload_n 56 d_Mo_oddsThat_55 rfl rfl ?_
          refine wp_V2 59 M_Mo_isIn 1 d_Mo_oddsThat_56 rfl mv_Mo_isIn lk_Mo_281 rfl rfl rfl rfl rfl ?_
          refine c_Mo_isIn ?_
          refine kI ?_
          (first | refine wp_ifP_ne 69 62 d_Mo_oddsThat_59 rfl (by decide) (fun h59 => ?_) (fun h59 => ?_) | refine wp_if_ne 69 62 d_Mo_oddsThat_59 rfl (by decide) (fun h59 => ?_) (fun h59 => ?_))
          · refine wp_iconst 70 0 d_Mo_oddsThat_69 rfl (by decide) ?_
            refine wp_istore_4 72 d_Mo_oddsThat_70 rfl rfl rfl ?_
            refine wp_iconst 73 0 d_Mo_oddsThat_72 rfl (by decide) ?_
            refine wp_istore_5 75 d_Mo_oddsThat_73 rfl rfl rfl ?_
            have R := RW_all V.ok s (m_wayFaults, m_wayEast, m_wayNorth, 0) U
            have hn9 : (wsA t s (m_wayFaults, m_wayEast, m_wayNorth, 0)).2.2.2 = (tWs t U s).2.2.1 := R.1.1
            have hn8 : (wsA t s (m_wayFaults, m_wayEast, m_wayNorth, 0)).2.2.2 ≤ 576 := Nat.le_trans R.1.2 (tPk_f V.ok s).2.2.2
            have e0_ : odS t U s x f = 0 := (if_pos ⟨h5, h13, in23.mp h25⟩).trans ((if_neg (fun z => h43 (by rw [hn9]; exact z))).trans (if_pos h59))
            refine l_Mo_oddsThat_75 (w := (wsA t s (m_wayFaults, m_wayEast, m_wayNorth, 0))) hn8 (fun k hk => ⟨(R.2.1 k hk).1, (R.2.1 k hk).2.1⟩) (wsA t s (m_wayFaults, m_wayEast, m_wayNorth, 0)).2.2.2 0 (by omega) ?_
            have hpos : 0 < (wsA t s (m_wayFaults, m_wayEast, m_wayNorth, 0)).2.2.2 := Nat.pos_of_ne_zero (fun z => h43 (by rw [z]; rfl))
            obtain ⟨f_, hf_, rfl⟩ := inR_ex (n := 24) (in23.mp h25) (by omega)
            have es : isum (fun k => if fiV (tPk t s).1 (tPk t s).2 (ixW (wsA t s (m_wayFaults, m_wayEast, m_wayNorth, 0)) k) x = nI f_ then 1 else 0) (wsA t s (m_wayFaults, m_wayEast, m_wayNorth, 0)).2.2.2 = (if x = (tPk t s).1 then (tWs t U s).1 f_ else (tWs t U s).2.1 f_) := by
              obtain ⟨r1, r2⟩ := R.2.2.1 f_ hf_
              by_cases z : x = (tPk t s).1
              · rw [if_pos z, r1]
                refine isum_congr (fun k hk => ?_)
                rw [fiV_eq V.ok h13 h59, if_pos z]
                by_cases y : ixW (wsA t s (m_wayFaults, m_wayEast, m_wayNorth, 0)) k / wsN (tPk t s).2 = f_
                · rw [if_pos y, if_pos (by rw [y])]
                · rw [if_neg y, if_neg (fun q => y (nI_ij q (by have := (R.2.1 k hk).2.2.1; omega) (by omega)))]
              · rw [if_neg z, r2]
                refine isum_congr (fun k hk => ?_)
                rw [fiV_eq V.ok h13 h59, if_neg z]
                by_cases y : ixW (wsA t s (m_wayFaults, m_wayEast, m_wayNorth, 0)) k % wsN (tPk t s).2 = f_
                · rw [if_pos y, if_pos (by rw [y])]
                · rw [if_neg y, if_neg (fun q => y (nI_ij q (by have := (R.2.1 k hk).2.2.2.1; omega) (by omega)))]
            obtain ⟨mm, hm1, hm2⟩ := isum_bd (B := 1) (f := fun k => if fiV (tPk t s).1 (tPk t s).2 (ixW (wsA t s (m_wayFaults, m_wayEast, m_wayNorth, 0)) k) x = nI f_ then (1 : Int32) else 0) (wsA t s (m_wayFaults, m_wayEast, m_wayNorth, 0)).2.2.2 (fun l _ => by
              by_cases z : fiV (tPk t s).1 (tPk t s).2 (ixW (wsA t s (m_wayFaults, m_wayEast, m_wayNorth, 0)) l) x = nI f_
              · simp only [if_pos z]; exact ⟨1, by omega, rfl⟩
              · simp only [if_neg z]; exact ⟨0, by omega, rfl⟩)
            have hg : cdD 100 (nI mm).toInt64 (nI (wsA t s (m_wayFaults, m_wayEast, m_wayNorth, 0)).2.2.2).toInt64 ∧ 0 < cdF (nI mm).toInt64 (nI (wsA t s (m_wayFaults, m_wayEast, m_wayNorth, 0)).2.2.2).toInt64 := frN hpos (by omega) (by omega)
            have h9 := hq1 e0_ a2 o2 (wsA t s (m_wayFaults, m_wayEast, m_wayNorth, 0)) (nI (wsA t s (m_wayFaults, m_wayEast, m_wayNorth, 0)).2.2.2) (tPk t s).1 (tPk t s).2 s2 V2 hfr2
            have eA : odA t U s x (nI f_) = (nI mm).toInt64 := by
              unfold odA
              rw [nI_clamp (by omega : f_ < 2 ^ 31), ← hm2, es]
            have eB : odB t U s = (nI (wsA t s (m_wayFaults, m_wayEast, m_wayNorth, 0)).2.2.2).toInt64 := by unfold odB; rw [← hn9]
            rw [eA, eB] at h9
            rw [hm2]
            refine wp_aload_n 112 d_Mo_oddsThat_111 rfl rfl ?_
            refine wp_iload 114 d_Mo_oddsThat_112 rfl rfl ?_
            refine wp_i2l 115 d_Mo_oddsThat_114 rfl ?_
            refine wp_aload_n 116 d_Mo_oddsThat_115 rfl rfl ?_
            refine wp_getfield 119 12 31 d_Mo_oddsThat_116 rfl fl_Mo_395 rfl rfl ?_
            refine wp_i2l 120 d_Mo_oddsThat_119 rfl ?_
            refine wp_V2 123 M_Mo_tellsBy 2 d_Mo_oddsThat_120 rfl mv_Mo_tellsBy lk_Mo_407 rfl rfl rfl rfl rfl ?_
            refine c_tells hg ?_
            refine kI ?_
            refine wp_zreturn d_Mo_oddsThat_123 rfl (by first | rfl | exact nbP _) ?_
            exact h9
          · refine wp_aload_n 63 d_Mo_oddsThat_62 rfl rfl ?_
            refine wp_bipush 65 7 d_Mo_oddsThat_63 rfl (by decide) ?_
            refine wp_V1 68 M_Mo_is 1 d_Mo_oddsThat_65 rfl mv_Mo_is lk_Mo_118 rfl rfl rfl rfl rfl ?_
            refine c_Mo_is ?_
            refine kI ?_
            refine wp_zreturn d_Mo_oddsThat_68 rfl (by first | rfl | exact nbP _) ?_
            have R := RW_all V.ok s (m_wayFaults, m_wayEast, m_wayNorth, 0) U
            have hn9 : (wsA t s (m_wayFaults, m_wayEast, m_wayNorth, 0)).2.2.2 = (tWs t U s).2.2.1 := R.1.1
            have hn8 : (wsA t s (m_wayFaults, m_wayEast, m_wayNorth, 0)).2.2.2 ≤ 576 := Nat.le_trans R.1.2 (tPk_f V.ok s).2.2.2
            have e : odS t U s x f = 7 := (if_pos ⟨h5, h13, in23.mp h25⟩ : odS t U s x f = _).trans ((if_neg (fun z => h43 (by rw [hn9]; exact z))).trans (if_neg h59))
            rw [bP_f (by decide)]
            exact hq0 7 e (by decide) a2 o2 (wsA t s (m_wayFaults, m_wayEast, m_wayNorth, 0)) (nI (wsA t s (m_wayFaults, m_wayEast, m_wayNorth, 0)).2.2.2) (tPk t s).1 (tPk t s).2 s2 V2 hfr2
        · refine wp_aload_n 47 d_Mo_oddsThat_46 rfl rfl ?_
          refine wp_bipush 49 6 d_Mo_oddsThat_47 rfl (by decide) ?_
          refine wp_V1 52 M_Mo_is 1 d_Mo_oddsThat_49 rfl mv_Mo_is lk_Mo_118 rfl rfl rfl rfl rfl ?_
          refine c_Mo_is ?_
          refine kI ?_
          refine wp_zreturn d_Mo_oddsThat_52 rfl (by first | rfl | exact nbP _) ?_
          have R := RW_all V.ok s (m_wayFaults, m_wayEast, m_wayNorth, 0) U
          have hn9 : (wsA t s (m_wayFaults, m_wayEast, m_wayNorth, 0)).2.2.2 = (tWs t U s).2.2.1 := R.1.1
          have hn8 : (wsA t s (m_wayFaults, m_wayEast, m_wayNorth, 0)).2.2.2 ≤ 576 := Nat.le_trans R.1.2 (tPk_f V.ok s).2.2.2
          have e : odS t U s x f = 6 := (if_pos ⟨h5, h13, in23.mp h25⟩ : odS t U s x f = _).trans (if_pos (by rw [← hn9]; exact h43))
          rw [bP_f (by decide)]
          exact hq0 6 e (by decide) a2 o2 (wsA t s (m_wayFaults, m_wayEast, m_wayNorth, 0)) (nI (wsA t s (m_wayFaults, m_wayEast, m_wayNorth, 0)).2.2.2) (tPk t s).1 (tPk t s).2 s2 V2 hfr2
      · refine wp_aload_n 29 d_Mo_oddsThat_28 rfl rfl ?_
        refine wp_iconst 30 1 d_Mo_oddsThat_29 rfl (by decide) ?_
        refine wp_V1 33 M_Mo_is 1 d_Mo_oddsThat_30 rfl mv_Mo_is lk_Mo_118 rfl rfl rfl rfl rfl ?_
        refine c_Mo_is ?_
        refine kI ?_
        refine wp_zreturn d_Mo_oddsThat_33 rfl (by first | rfl | exact nbP _) ?_
        have e : odS t U s x f = 1 := if_neg (fun z => h25 (in23.mpr z.2.2))
        rw [bP_f (by decide)]
        exact hq0 1 e (by decide) m_at m_olds (m_wayFaults, m_wayEast, m_wayNorth, 0) m_wayMany m_oneOfSet m_twoOfSet (m_partBy, m_eastBy, m_northBy) V frA.rf

end T96
