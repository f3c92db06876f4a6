/-! ===== the reference: legs of a town at the class's cursor ===== -/
theorem tKW_y {K : TK} {t : TW} {s : CS} (h2 : K.ki s.a = 2) (hn : ¬ fWa t (K.va s.a) = -1) : (tKW K t s).1 = fWa t (K.va s.a) ∧ (tKW K t s).2 = cNx K (cNm K s).2 ∧ (tKW K t s).2.a = (cNx K s).a := by
  have em : cNm K s = (true, CS.mk s.a s.tk (K.va s.a) s.fk s.fp) := if_pos h2
  have ena : (cNm K s).2.na = K.va s.a := by rw [em]; rfl
  have e : tKW K t s = (fWa t (K.va s.a), cNx K (cNm K s).2) := (if_pos (show (cNm K s).1 = true by rw [em])).trans ((if_neg (show ¬ fWa t (cNm K s).2.na = -1 by rw [ena]; exact hn)).trans (by rw [ena]))
  refine ⟨by rw [e], by rw [e], ?_⟩
  rw [e]
  show nx K.nT (cNm K s).2.a = nx K.nT s.a
  rw [cNm_a]
theorem tKW_n3 {K : TK} {t : TW} {s : CS} (h2 : K.ki s.a = 2) (hn : fWa t (K.va s.a) = -1) : (tKW K t s).1 = -1 ∧ (tKW K t s).2.fk = 3 ∧ (tKW K t s).2.fp = K.st s.a := by
  have em : cNm K s = (true, CS.mk s.a s.tk (K.va s.a) s.fk s.fp) := if_pos h2
  have ena : (cNm K s).2.na = K.va s.a := by rw [em]; rfl
  have e : tKW K t s = (-1, cFl K 3 (cNm K s).2) := (if_pos (show (cNm K s).1 = true by rw [em])).trans (if_pos (show fWa t (cNm K s).2.na = -1 by rw [ena]; exact hn))
  refine ⟨by rw [e], by rw [e]; rfl, ?_⟩
  rw [e]
  show K.st (cNm K s).2.a = K.st s.a
  rw [cNm_a]
theorem tKW_n2 {K : TK} {t : TW} {s : CS} (h2 : ¬ K.ki s.a = 2) : (tKW K t s).1 = -1 ∧ (tKW K t s).2.fk = (cCs K s).fk ∧ (tKW K t s).2.fp = (cCs K s).fp := by
  have em : cNm K s = (false, cCs K s) := if_neg h2
  have e : tKW K t s = (-1, (cNm K s).2) := if_neg (show ¬ (cNm K s).1 = true by rw [em]; exact Bool.false_ne_true)
  rw [e, em]
  exact ⟨rfl, rfl, rfl⟩
theorem tKP_y {K : TK} {t : TW} {n : Int32} {s : CS} (h2 : K.ki s.a = 2) (hn : ¬ fPl t (K.va s.a) = -1) (hm : ¬ fPl t (K.va s.a) = n) : (tKP K t n s).1 = fPl t (K.va s.a) ∧ (tKP K t n s).2 = cNx K (cNm K s).2 ∧ (tKP K t n s).2.a = (cNx K s).a := by
  have em : cNm K s = (true, CS.mk s.a s.tk (K.va s.a) s.fk s.fp) := if_pos h2
  have ena : (cNm K s).2.na = K.va s.a := by rw [em]; rfl
  have e : tKP K t n s = (fPl t (K.va s.a), cNx K (cNm K s).2) := (if_pos (show (cNm K s).1 = true by rw [em])).trans ((if_neg (show ¬ fPl t (cNm K s).2.na = -1 by rw [ena]; exact hn)).trans ((if_neg (show ¬ fPl t (cNm K s).2.na = n by rw [ena]; exact hm)).trans (by rw [ena])))
  refine ⟨by rw [e], by rw [e], ?_⟩
  rw [e]
  show nx K.nT (cNm K s).2.a = nx K.nT s.a
  rw [cNm_a]
theorem tKP_n3 {K : TK} {t : TW} {n : Int32} {s : CS} (h2 : K.ki s.a = 2) (hn : fPl t (K.va s.a) = -1) : (tKP K t n s).1 = -1 ∧ (tKP K t n s).2.fk = 3 ∧ (tKP K t n s).2.fp = K.st s.a := by
  have em : cNm K s = (true, CS.mk s.a s.tk (K.va s.a) s.fk s.fp) := if_pos h2
  have ena : (cNm K s).2.na = K.va s.a := by rw [em]; rfl
  have e : tKP K t n s = (-1, cFl K 3 (cNm K s).2) := (if_pos (show (cNm K s).1 = true by rw [em])).trans (if_pos (show fPl t (cNm K s).2.na = -1 by rw [ena]; exact hn))
  refine ⟨by rw [e], by rw [e]; rfl, ?_⟩
  rw [e]
  show K.st (cNm K s).2.a = K.st s.a
  rw [cNm_a]
theorem tKP_n5 {K : TK} {t : TW} {n : Int32} {s : CS} (h2 : K.ki s.a = 2) (hn : ¬ fPl t (K.va s.a) = -1) (hm : fPl t (K.va s.a) = n) : (tKP K t n s).1 = -1 ∧ (tKP K t n s).2.fk = 5 ∧ (tKP K t n s).2.fp = K.st s.a := by
  have em : cNm K s = (true, CS.mk s.a s.tk (K.va s.a) s.fk s.fp) := if_pos h2
  have ena : (cNm K s).2.na = K.va s.a := by rw [em]; rfl
  have e : tKP K t n s = (-1, cFl K 5 (cNm K s).2) := (if_pos (show (cNm K s).1 = true by rw [em])).trans ((if_neg (show ¬ fPl t (cNm K s).2.na = -1 by rw [ena]; exact hn)).trans (if_pos (show fPl t (cNm K s).2.na = n by rw [ena]; exact hm)))
  refine ⟨by rw [e], by rw [e]; rfl, ?_⟩
  rw [e]
  show K.st (cNm K s).2.a = K.st s.a
  rw [cNm_a]
theorem tKP_n2 {K : TK} {t : TW} {n : Int32} {s : CS} (h2 : ¬ K.ki s.a = 2) : (tKP K t n s).1 = -1 ∧ (tKP K t n s).2.fk = (cCs K s).fk ∧ (tKP K t n s).2.fp = (cCs K s).fp := by
  have em : cNm K s = (false, cCs K s) := if_neg h2
  have e : tKP K t n s = (-1, (cNm K s).2) := if_neg (show ¬ (cNm K s).1 = true by rw [em]; exact Bool.false_ne_true)
  rw [e, em]
  exact ⟨rfl, rfl, rfl⟩
theorem ffind_R {p : Nat → Prop} [DecidablePred p] {n : Nat} (h : ¬ ffind p 0 n = -1) (hn : n < 1000) : inR (ffind p 0 n) (nI n) := by
  obtain ⟨j, h1, h2, h3, h4⟩ := ffind_ex h
  rw [h3]
  exact inR_N (by omega) (by omega)
theorem tKW_in {K : TK} {t : TW} {s : CS} (h : ¬ (tKW K t s).1 = -1) (hW : t.nW ≤ 4) : inR (tKW K t s).1 (nI t.nW) ∧ cMo s (tKW K t s).2 := by
  by_cases h2 : K.ki s.a = 2
  · by_cases hn : fWa t (K.va s.a) = -1
    · exact absurd (tKW_n3 h2 hn).1 h
    · obtain ⟨e1, e2, e3⟩ := tKW_y h2 hn
      rw [e1, e2]
      refine ⟨ffind_R hn (by omega), (cNm_mo ?_).tr cNx_mo⟩
      show (cNm K s).1 = true
      unfold cNm
      rw [if_pos h2]
  · exact absurd (tKW_n2 h2).1 h
theorem tKP_in {K : TK} {t : TW} {n : Int32} {s : CS} (h : ¬ (tKP K t n s).1 = -1) (hP : t.nP ≤ 7) : inR (tKP K t n s).1 (nI t.nP) ∧ (tKP K t n s).1 ≠ n ∧ cMo s (tKP K t n s).2 := by
  by_cases h2 : K.ki s.a = 2
  · by_cases hn : fPl t (K.va s.a) = -1
    · exact absurd (tKP_n3 h2 hn).1 h
    · by_cases hm : fPl t (K.va s.a) = n
      · exact absurd (tKP_n5 h2 hn hm).1 h
      · obtain ⟨e1, e2, e3⟩ := tKP_y h2 hn hm
        rw [e1, e2]
        refine ⟨ffind_R hn (by omega), hm, (cNm_mo ?_).tr cNx_mo⟩
        show (cNm K s).1 = true
        unfold cNm
        rw [if_pos h2]
  · exact absurd (tKP_n2 h2).1 h
theorem tPa_mo {K : TK} {ab be : Int32} {s : CS} (h : (tPa K ab be s).1 = true) : cMo s (tPa K ab be s).2.2 := by
  revert h
  unfold tPa
  split
  · split
    · rename_i h2
      intro _
      exact cNx_mo.tr (cNu_mo h2)
    · intro z; exact absurd z Bool.false_ne_true
  · intro z; exact absurd z Bool.false_ne_true
theorem pa_t : ∀ k, k < 100 → isPa (nI k) ∧ isPa (-(nI k)) := by decide +kernel
theorem tPa_pa {K : TK} {ab be : Int32} {s : CS} (h : (tPa K ab be s).1 = true) : isPa (tPa K ab be s).2.1 := by
  revert h
  unfold tPa
  split
  · split
    · rename_i h2
      intro _
      obtain ⟨h3, h4⟩ := cNu_in h2
      obtain ⟨k, k1, k2, k3⟩ := i32_in (m := 0) (n := 99) (by omega) (by omega) h3 h4
      show isPa (if cWo K s = be then -(cNu K 0 99 (cNx K s)).2.tk else (cNu K 0 99 (cNx K s)).2.tk)
      rw [k3]
      split
      · exact (pa_t k (by omega)).2
      · exact (pa_t k (by omega)).1
    · intro z; exact absurd z Bool.false_ne_true
  · intro z; exact absurd z Bool.false_ne_true
section TAV
variable {Γ : Gm} {Q : Option Value → LH → Prop} {m_at m_sort m_trayMany m_tape m_text m_opened m_eastBy m_northBy m_partBy m_wayFaults m_wayEast m_wayNorth m_olds m_farBy m_rowBy m_triedBy m_doneAt m_gotAt m_struckAt m_bestDeed m_loops m_ran m_told1 : Nat → Int32} {m_names m_trays m_misBy : Nat → Int64} {m_status m_taped m_size m_token m_from m_end m_value m_faultKind m_faultPlace m_faults m_seen m_areOdds m_depth m_counted m_wayMany m_oneOfSet m_twoOfSet m_rowMany m_drawn m_ranSteps m_isTold m_marks : Int32} {m_top m_bottom : Int64} {L : Nat} {K : TK} {t : TW} {s : CS}
theorem k_KW {to_ : Nat} (hL : L ≤ 900) (hb : ∀ k, k < L → b8 (m_text k)) (T : TKs co0_ m_text L K) (ha : s.a < K.nT) (hf : m_faults = 0) (hto : to_ < 2332) (hP : m_at 1800 = nI t.nP) (hW : m_at 1801 = nI t.nW) (hP7 : t.nP ≤ 7) (hW4 : t.nW ≤ 4) (N : NS m_names 44 t) (hq1 : ¬ (tKW K t s).1 = -1 → Q (some (.int 1)) (hM ((upd m_at to_ (tKW K t s).1)) m_names m_status m_top m_bottom m_sort m_trayMany m_trays m_tape m_text m_taped ((nI L)) ((gtF m_text L (tKW K t s).2.a).1) ((nI (gtF m_text L (tKW K t s).2.a).2.1)) ((nI (gtF m_text L (tKW K t s).2.a).2.2.1)) ((gtF m_text L (tKW K t s).2.a).2.2.2) m_faultKind m_faultPlace m_faults m_seen m_areOdds m_opened m_depth m_counted m_eastBy m_northBy m_partBy m_wayFaults m_wayEast m_wayNorth m_olds m_wayMany m_oneOfSet m_twoOfSet m_farBy m_rowBy m_triedBy m_rowMany m_doneAt m_gotAt m_struckAt m_bestDeed m_misBy m_drawn m_ranSteps m_loops m_ran m_told1 m_isTold m_marks)) (hq0 : (tKW K t s).1 = -1 → ∀ x : Nat → Int32, (∀ k, ¬ k = to_ → x k = m_at k) → Q (some (.int 0)) (hM (x) m_names m_status m_top m_bottom m_sort m_trayMany m_trays m_tape m_text m_taped ((nI L)) ((gtF m_text L s.a).1) ((nI (gtF m_text L s.a).2.1)) ((nI (gtF m_text L s.a).2.2.1)) ((gtF m_text L s.a).2.2.2) m_faultKind (((tKW K t s).2).fp) (((tKW K t s).2).fk) m_seen m_areOdds m_opened m_depth m_counted m_eastBy m_northBy m_partBy m_wayFaults m_wayEast m_wayNorth m_olds m_wayMany m_oneOfSet m_twoOfSet m_farBy m_rowBy m_triedBy m_rowMany m_doneAt m_gotAt m_struckAt m_bestDeed m_misBy m_drawn m_ranSteps m_loops m_ran m_told1 m_isTold m_marks)) : Call Γ M_Mo_knownTo 8 0 0 [.ref 0, .int 1800, .int 1, .int (nI to_)] (hM m_at m_names m_status m_top m_bottom m_sort m_trayMany m_trays m_tape m_text m_taped ((nI L)) ((gtF m_text L s.a).1) ((nI (gtF m_text L s.a).2.1)) ((nI (gtF m_text L s.a).2.2.1)) ((gtF m_text L s.a).2.2.2) m_faultKind m_faultPlace m_faults m_seen m_areOdds m_opened m_depth m_counted m_eastBy m_northBy m_partBy m_wayFaults m_wayEast m_wayNorth m_olds m_wayMany m_oneOfSet m_twoOfSet m_farBy m_rowBy m_triedBy m_rowMany m_doneAt m_gotAt m_struckAt m_bestDeed m_misBy m_drawn m_ranSteps m_loops m_ran m_told1 m_isTold m_marks) Q := by
  have A := ATk_of (s := s) hb T ha
  refine k_knownNW (s := s) (t := t) hL hb T ha hf hto hW hW4 N (fun h1 h2 => ?_) (fun h => ?_) (fun h1 h2 => ?_)
  · obtain ⟨e1, e2, e3⟩ := tKW_y h1 h2
    rw [e1, e3] at hq1
    exact hq1 h2
  · obtain ⟨e1, e2, e3⟩ := tKW_n2 (t := t) h
    rw [e2, e3] at hq0
    exact hq0 e1 _ (fun _ _ => rfl)
  · obtain ⟨e1, e2, e3⟩ := tKW_n3 h1 h2
    rw [e2, e3] at hq0
    exact hq0 e1 _ (fun k hk => upd_ne hk)
theorem k_KP {to_ : Nat} (hL : L ≤ 900) (hb : ∀ k, k < L → b8 (m_text k)) (T : TKs co0_ m_text L K) (ha : s.a < K.nT) (hf : m_faults = 0) (hto : to_ < 2332) (hP : m_at 1800 = nI t.nP) (hW : m_at 1801 = nI t.nW) (hP7 : t.nP ≤ 7) (hW4 : t.nW ≤ 4) (N : NS m_names 44 t) (hq1 : ¬ (tKP K t (-1) s).1 = -1 → Q (some (.int 1)) (hM ((upd m_at to_ (tKP K t (-1) s).1)) m_names m_status m_top m_bottom m_sort m_trayMany m_trays m_tape m_text m_taped ((nI L)) ((gtF m_text L (tKP K t (-1) s).2.a).1) ((nI (gtF m_text L (tKP K t (-1) s).2.a).2.1)) ((nI (gtF m_text L (tKP K t (-1) s).2.a).2.2.1)) ((gtF m_text L (tKP K t (-1) s).2.a).2.2.2) m_faultKind m_faultPlace m_faults m_seen m_areOdds m_opened m_depth m_counted m_eastBy m_northBy m_partBy m_wayFaults m_wayEast m_wayNorth m_olds m_wayMany m_oneOfSet m_twoOfSet m_farBy m_rowBy m_triedBy m_rowMany m_doneAt m_gotAt m_struckAt m_bestDeed m_misBy m_drawn m_ranSteps m_loops m_ran m_told1 m_isTold m_marks)) (hq0 : (tKP K t (-1) s).1 = -1 → ∀ x : Nat → Int32, (∀ k, ¬ k = to_ → x k = m_at k) → Q (some (.int 0)) (hM (x) m_names m_status m_top m_bottom m_sort m_trayMany m_trays m_tape m_text m_taped ((nI L)) ((gtF m_text L s.a).1) ((nI (gtF m_text L s.a).2.1)) ((nI (gtF m_text L s.a).2.2.1)) ((gtF m_text L s.a).2.2.2) m_faultKind (((tKP K t (-1) s).2).fp) (((tKP K t (-1) s).2).fk) m_seen m_areOdds m_opened m_depth m_counted m_eastBy m_northBy m_partBy m_wayFaults m_wayEast m_wayNorth m_olds m_wayMany m_oneOfSet m_twoOfSet m_farBy m_rowBy m_triedBy m_rowMany m_doneAt m_gotAt m_struckAt m_bestDeed m_misBy m_drawn m_ranSteps m_loops m_ran m_told1 m_isTold m_marks)) : Call Γ M_Mo_knownTo 8 0 0 [.ref 0, .int 1800, .int 0, .int (nI to_)] (hM m_at m_names m_status m_top m_bottom m_sort m_trayMany m_trays m_tape m_text m_taped ((nI L)) ((gtF m_text L s.a).1) ((nI (gtF m_text L s.a).2.1)) ((nI (gtF m_text L s.a).2.2.1)) ((gtF m_text L s.a).2.2.2) m_faultKind m_faultPlace m_faults m_seen m_areOdds m_opened m_depth m_counted m_eastBy m_northBy m_partBy m_wayFaults m_wayEast m_wayNorth m_olds m_wayMany m_oneOfSet m_twoOfSet m_farBy m_rowBy m_triedBy m_rowMany m_doneAt m_gotAt m_struckAt m_bestDeed m_misBy m_drawn m_ranSteps m_loops m_ran m_told1 m_isTold m_marks) Q := by
  have A := ATk_of (s := s) hb T ha
  refine k_knownNP (s := s) (t := t) hL hb T ha hf hto hP hP7 N (fun h1 h2 => ?_) (fun h => ?_) (fun h1 h2 => ?_)
  · obtain ⟨e1, e2, e3⟩ := tKP_y h1 h2 h2
    rw [e1, e3] at hq1
    exact hq1 h2
  · obtain ⟨e1, e2, e3⟩ := tKP_n2 (t := t) (n := -1) h
    rw [e2, e3] at hq0
    exact hq0 e1 _ (fun _ _ => rfl)
  · obtain ⟨e1, e2, e3⟩ := tKP_n3 (n := -1) h1 h2
    rw [e2, e3] at hq0
    exact hq0 e1 _ (fun k hk => upd_ne hk)
set_option maxRecDepth 100000 in
set_option maxHeartbeats 4000000 in
theorem l_aLeg_67 {y : Int32} (hL : L ≤ 900) (hb : ∀ k, k < L → b8 (m_text k)) (T : TKs co0_ m_text L K) (ha : s.a < K.nT) (hf : m_faults = 0) (hP : m_at 1800 = nI t.nP) (hW : m_at 1801 = nI t.nW) (hP7 : t.nP ≤ 7) (hW4 : t.nW ≤ 4) (N : NS m_names 44 t) (hy : m_at 2243 = y) (hy1 : ¬ y = -1) (hq1 : ¬ (tKP K t y s).1 = -1 → WP Γ M_Mo_aLeg 9 0 0 (hM ((upd m_at 2244 (tKP K t y s).1)) m_names m_status m_top m_bottom m_sort m_trayMany m_trays m_tape m_text m_taped ((nI L)) ((gtF m_text L (tKP K t y s).2.a).1) ((nI (gtF m_text L (tKP K t y s).2.a).2.1)) ((nI (gtF m_text L (tKP K t y s).2.a).2.2.1)) ((gtF m_text L (tKP K t y s).2.a).2.2.2) m_faultKind m_faultPlace m_faults m_seen m_areOdds m_opened m_depth m_counted m_eastBy m_northBy m_partBy m_wayFaults m_wayEast m_wayNorth m_olds m_wayMany m_oneOfSet m_twoOfSet m_farBy m_rowBy m_triedBy m_rowMany m_doneAt m_gotAt m_struckAt m_bestDeed m_misBy m_drawn m_ranSteps m_loops m_ran m_told1 m_isTold m_marks) 123 [some (.ref 0), some (.int (nI t.nL)), some (.int (nI (1822 + 5 * t.nL))), some (.int 2242), none] [] Q) (hq0 : (tKP K t y s).1 = -1 → ∀ x : Nat → Int32, (∀ k, ¬ k = 2244 → x k = m_at k) → Q (some (.int 0)) (hM (x) m_names m_status m_top m_bottom m_sort m_trayMany m_trays m_tape m_text m_taped ((nI L)) ((gtF m_text L s.a).1) ((nI (gtF m_text L s.a).2.1)) ((nI (gtF m_text L s.a).2.2.1)) ((gtF m_text L s.a).2.2.2) m_faultKind (((tKP K t y s).2).fp) (((tKP K t y s).2).fk) m_seen m_areOdds m_opened m_depth m_counted m_eastBy m_northBy m_partBy m_wayFaults m_wayEast m_wayNorth m_olds m_wayMany m_oneOfSet m_twoOfSet m_farBy m_rowBy m_triedBy m_rowMany m_doneAt m_gotAt m_struckAt m_bestDeed m_misBy m_drawn m_ranSteps m_loops m_ran m_told1 m_isTold m_marks)) : WP Γ M_Mo_aLeg 9 0 0 (hM m_at m_names m_status m_top m_bottom m_sort m_trayMany m_trays m_tape m_text m_taped ((nI L)) ((gtF m_text L s.a).1) ((nI (gtF m_text L s.a).2.1)) ((nI (gtF m_text L s.a).2.2.1)) ((gtF m_text L s.a).2.2.2) m_faultKind m_faultPlace m_faults m_seen m_areOdds m_opened m_depth m_counted m_eastBy m_northBy m_partBy m_wayFaults m_wayEast m_wayNorth m_olds m_wayMany m_oneOfSet m_twoOfSet m_farBy m_rowBy m_triedBy m_rowMany m_doneAt m_gotAt m_struckAt m_bestDeed m_misBy m_drawn m_ranSteps m_loops m_ran m_told1 m_isTold m_marks) 67 [some (.ref 0), some (.int (nI t.nL)), some (.int (nI (1822 + 5 * t.nL))), some (.int 2242), none] [] Q := by
  have A := ATk_of (s := s) hb T ha
  refine wp_aload_n 68 d_Mo_aLeg_67 rfl rfl ?_
  refine wp_ldcS2 70 d_Mo_aLeg_68 rfl rfl ?_
  refine wp_V1 73 M_Mo_isName 7 d_Mo_aLeg_70 rfl mv_Mo_isName lk_Mo_206 rfl rfl rfl rfl rfl ?_
  refine c_isNameJ (j := s.a) hL (ak_le A) ?_
  refine kI ?_
  (first | refine wp_ifP_eq 107 76 d_Mo_aLeg_73 rfl (by decide) (fun h73 => ?_) (fun h73 => ?_) | refine wp_if_eq 107 76 d_Mo_aLeg_73 rfl (by decide) (fun h73 => ?_) (fun h73 => ?_))
  · have hk2 : ¬ K.ki s.a = 2 := fun z => h73 ((ak_nm A).mp z)
    refine wp_aload_n 108 d_Mo_aLeg_107 rfl rfl ?_
    refine wp_sipush 111 1800 d_Mo_aLeg_108 rfl (by decide) ?_
    refine wp_iconst 112 0 d_Mo_aLeg_111 rfl (by decide) ?_
    refine wp_iload_n 113 d_Mo_aLeg_112 rfl rfl ?_
    refine wp_iconst 114 2 d_Mo_aLeg_113 rfl (by decide) ?_
    refine wp_iadd 115 d_Mo_aLeg_114 rfl ?_
    rw [show (2242 : Int32) + 2 = nI 2244 from rfl]
    refine wp_V3 118 M_Mo_knownTo 8 d_Mo_aLeg_115 rfl mv_Mo_knownTo lk_Mo_229 rfl rfl rfl rfl rfl ?_
    refine k_knownNP (to_ := 2244) (s := s) (t := t) hL hb T ha hf (by omega) hP hP7 N (fun n1 n2 => ?_) (fun n8 => ?_) (fun n8 n9 => ?_)
    · refine kI ?_
      refine wp_if_ne 123 121 d_Mo_aLeg_118 rfl (by decide) (fun h118 => ?_) (fun h118 => ?_)
      · exact absurd n1 hk2
      · exact absurd h118 (by decide)
    · refine kI ?_
      refine wp_if_ne 123 121 d_Mo_aLeg_118 rfl (by decide) (fun h118 => ?_) (fun h118 => ?_)
      · exact absurd rfl h118
      · refine wp_iconst 122 0 d_Mo_aLeg_121 rfl (by decide) ?_
        refine wp_zreturn d_Mo_aLeg_122 rfl (by first | rfl | exact nbP _) ?_
        obtain ⟨e1, e2, e3⟩ := tKP_n2 (t := t) (n := y) n8
        rw [e2, e3] at hq0
        exact hq0 e1 _ (fun _ _ => rfl)
    · refine kI ?_
      refine wp_if_ne 123 121 d_Mo_aLeg_118 rfl (by decide) (fun h118 => ?_) (fun h118 => ?_)
      · exact absurd rfl h118
      · refine wp_iconst 122 0 d_Mo_aLeg_121 rfl (by decide) ?_
        refine wp_zreturn d_Mo_aLeg_122 rfl (by first | rfl | exact nbP _) ?_
        obtain ⟨e1, e2, e3⟩ := tKP_n3 (n := y) n8 n9
        rw [e2, e3] at hq0
        exact hq0 e1 _ (fun k hk => upd_ne hk)
  · have hk2 := (ak_nm A).mpr h73
    have efp := ak_fP hb A hk2 N
    refine wp_aload_n 77 d_Mo_aLeg_76 rfl rfl ?_
    refine wp_bipush 79 44 d_Mo_aLeg_77 rfl (by decide) ?_
    refine wp_aload_n 80 d_Mo_aLeg_79 rfl rfl ?_
    refine wp_getfield 83 12 0 d_Mo_aLeg_80 rfl fl_Mo_7 rfl rfl ?_
    refine wp_sipush 86 1800 d_Mo_aLeg_83 rfl (by decide) ?_
    refine wp_iaload 87 d_Mo_aLeg_86 rfl rfl (vp_in_nI (n := 1800) (N := 2332) (by omega) (by omega)) ?_
    rw [show m_at (1800 : Int32).toNatClampNeg = nI t.nP from hP]
    refine wp_V2 90 M_Mo_findHere 3 d_Mo_aLeg_87 rfl mv_Mo_findHere lk_Mo_210 rfl rfl rfl rfl rfl ?_
    refine c_findHereJ (j := s.a) (u := 44) (v := t.nP) hL (ak_le A) (by omega) ?_
    refine kI ?_
    refine wp_aload_n 91 d_Mo_aLeg_90 rfl rfl ?_
    refine wp_getfield 94 12 0 d_Mo_aLeg_91 rfl fl_Mo_7 rfl rfl ?_
    refine wp_iload_n 95 d_Mo_aLeg_94 rfl rfl ?_
    refine wp_iconst 96 1 d_Mo_aLeg_95 rfl (by decide) ?_
    refine wp_iadd 97 d_Mo_aLeg_96 rfl ?_
    rw [show (2242 : Int32) + 1 = 2243 from rfl]
    refine wp_iaload 98 d_Mo_aLeg_97 rfl rfl (vp_in_nI (n := 2243) (N := 2332) (by omega) (by omega)) ?_
    rw [show m_at (2243 : Int32).toNatClampNeg = y from hy]
    refine wp_icmp_ne 107 101 d_Mo_aLeg_98 rfl (by decide) (fun h98 => ?_) (fun h98 => ?_)
    · refine wp_aload_n 108 d_Mo_aLeg_107 rfl rfl ?_
      refine wp_sipush 111 1800 d_Mo_aLeg_108 rfl (by decide) ?_
      refine wp_iconst 112 0 d_Mo_aLeg_111 rfl (by decide) ?_
      refine wp_iload_n 113 d_Mo_aLeg_112 rfl rfl ?_
      refine wp_iconst 114 2 d_Mo_aLeg_113 rfl (by decide) ?_
      refine wp_iadd 115 d_Mo_aLeg_114 rfl ?_
      rw [show (2242 : Int32) + 2 = nI 2244 from rfl]
      refine wp_V3 118 M_Mo_knownTo 8 d_Mo_aLeg_115 rfl mv_Mo_knownTo lk_Mo_229 rfl rfl rfl rfl rfl ?_
      refine k_knownNP (to_ := 2244) (s := s) (t := t) hL hb T ha hf (by omega) hP hP7 N (fun n1 n2 => ?_) (fun n8 => ?_) (fun n8 n9 => ?_)
      · refine kI ?_
        refine wp_if_ne 123 121 d_Mo_aLeg_118 rfl (by decide) (fun h118 => ?_) (fun h118 => ?_)
        · obtain ⟨e1, e2, e3⟩ := tKP_y (n := y) n1 n2 (fun z => h98 (efp.symm.trans z))
          rw [e1, e3] at hq1
          exact hq1 n2
        · exact absurd h118 (by decide)
      · refine kI ?_
        refine wp_if_ne 123 121 d_Mo_aLeg_118 rfl (by decide) (fun h118 => ?_) (fun h118 => ?_)
        · exact absurd rfl h118
        · refine wp_iconst 122 0 d_Mo_aLeg_121 rfl (by decide) ?_
          refine wp_zreturn d_Mo_aLeg_122 rfl (by first | rfl | exact nbP _) ?_
          obtain ⟨e1, e2, e3⟩ := tKP_n2 (t := t) (n := y) n8
          rw [e2, e3] at hq0
          exact hq0 e1 _ (fun _ _ => rfl)
      · refine kI ?_
        refine wp_if_ne 123 121 d_Mo_aLeg_118 rfl (by decide) (fun h118 => ?_) (fun h118 => ?_)
        · exact absurd rfl h118
        · refine wp_iconst 122 0 d_Mo_aLeg_121 rfl (by decide) ?_
          refine wp_zreturn d_Mo_aLeg_122 rfl (by first | rfl | exact nbP _) ?_
          obtain ⟨e1, e2, e3⟩ := tKP_n3 (n := y) n8 n9
          rw [e2, e3] at hq0
          exact hq0 e1 _ (fun k hk => upd_ne hk)
    · refine wp_aload_n 102 d_Mo_aLeg_101 rfl rfl ?_
      refine wp_iconst 103 5 d_Mo_aLeg_102 rfl (by decide) ?_
      refine wp_V1 106 M_Mo_fails 1 d_Mo_aLeg_103 rfl mv_Mo_fails lk_Mo_193 rfl rfl rfl rfl rfl ?_
      refine k_fails (s := s) (c := 5) hL hb T ha hf (by rw [h73.1]; decide) ?_
      refine kI ?_
      refine wp_zreturn d_Mo_aLeg_106 rfl (by first | rfl | exact nbP _) ?_
      have hm : fPl t (K.va s.a) = y := efp.trans h98
      obtain ⟨e1, e2, e3⟩ := tKP_n5 hk2 (by rw [hm]; exact hy1) hm
      rw [e2, e3] at hq0
      exact hq0 e1 _ (fun _ _ => rfl)
set_option maxRecDepth 100000 in
set_option maxHeartbeats 4000000 in
theorem l_aLeg_126 {i : Nat} (hi : i < 3) (hl : t.nL < 12) (hq : WP Γ M_Mo_aLeg 9 0 0 (hM ((upd m_at (1822 + 5 * t.nL + i) (m_at (2242 + i)))) m_names m_status m_top m_bottom m_sort m_trayMany m_trays m_tape m_text m_taped ((nI L)) ((gtF m_text L s.a).1) ((nI (gtF m_text L s.a).2.1)) ((nI (gtF m_text L s.a).2.2.1)) ((gtF m_text L s.a).2.2.2) m_faultKind m_faultPlace m_faults m_seen m_areOdds m_opened m_depth m_counted m_eastBy m_northBy m_partBy m_wayFaults m_wayEast m_wayNorth m_olds m_wayMany m_oneOfSet m_twoOfSet m_farBy m_rowBy m_triedBy m_rowMany m_doneAt m_gotAt m_struckAt m_bestDeed m_misBy m_drawn m_ranSteps m_loops m_ran m_told1 m_isTold m_marks) 126 [some (.ref 0), some (.int (nI t.nL)), some (.int (nI (1822 + 5 * t.nL))), some (.int 2242), some (.int (nI (i + 1)))] [] Q) : WP Γ M_Mo_aLeg 9 0 0 (hM m_at m_names m_status m_top m_bottom m_sort m_trayMany m_trays m_tape m_text m_taped ((nI L)) ((gtF m_text L s.a).1) ((nI (gtF m_text L s.a).2.1)) ((nI (gtF m_text L s.a).2.2.1)) ((gtF m_text L s.a).2.2.2) m_faultKind m_faultPlace m_faults m_seen m_areOdds m_opened m_depth m_counted m_eastBy m_northBy m_partBy m_wayFaults m_wayEast m_wayNorth m_olds m_wayMany m_oneOfSet m_twoOfSet m_farBy m_rowBy m_triedBy m_rowMany m_doneAt m_gotAt m_struckAt m_bestDeed m_misBy m_drawn m_ranSteps m_loops m_ran m_told1 m_isTold m_marks) 126 [some (.ref 0), some (.int (nI t.nL)), some (.int (nI (1822 + 5 * t.nL))), some (.int 2242), some (.int (nI i))] [] Q := by
  refine wp_iload 128 d_Mo_aLeg_126 rfl rfl ?_
  refine wp_iconst 129 3 d_Mo_aLeg_128 rfl (by decide) ?_
  refine wp_icmp_ge 156 132 d_Mo_aLeg_129 rfl (by decide) (fun h129 => ?_) (fun h129 => ?_)
  · exact absurd (nI_leN (b := 3) h129 (by omega) (by omega)) (by omega)
  · refine wp_aload_n 133 d_Mo_aLeg_132 rfl rfl ?_
    refine wp_getfield 136 12 0 d_Mo_aLeg_133 rfl fl_Mo_7 rfl rfl ?_
    refine wp_iload_n 137 d_Mo_aLeg_136 rfl rfl ?_
    refine wp_iload 139 d_Mo_aLeg_137 rfl rfl ?_
    refine wp_iadd 140 d_Mo_aLeg_139 rfl ?_
    rw [nI_add]
    refine wp_aload_n 141 d_Mo_aLeg_140 rfl rfl ?_
    refine wp_getfield 144 12 0 d_Mo_aLeg_141 rfl fl_Mo_7 rfl rfl ?_
    refine wp_iload_n 145 d_Mo_aLeg_144 rfl rfl ?_
    refine wp_iload 147 d_Mo_aLeg_145 rfl rfl ?_
    refine wp_iadd 148 d_Mo_aLeg_147 rfl ?_
    rw [show (2242 : Int32) + nI i = nI (2242 + i) from nI_add 2242 _]
    refine wp_ialoadN 149 d_Mo_aLeg_148 rfl rfl rfl (by omega) ?_
    refine wp_iastoreN 150 d_Mo_aLeg_149 rfl rfl rfl (by omega) ?_
    refine hEq (hM ((upd m_at (1822 + 5 * t.nL + i) (m_at (2242 + i)))) m_names m_status m_top m_bottom m_sort m_trayMany m_trays m_tape m_text m_taped ((nI L)) ((gtF m_text L s.a).1) ((nI (gtF m_text L s.a).2.1)) ((nI (gtF m_text L s.a).2.2.1)) ((gtF m_text L s.a).2.2.2) m_faultKind m_faultPlace m_faults m_seen m_areOdds m_opened m_depth m_counted m_eastBy m_northBy m_partBy m_wayFaults m_wayEast m_wayNorth m_olds m_wayMany m_oneOfSet m_twoOfSet m_farBy m_rowBy m_triedBy m_rowMany m_doneAt m_gotAt m_struckAt m_bestDeed m_misBy m_drawn m_ranSteps m_loops m_ran m_told1 m_isTold m_marks) rfl ?_
    first | refine wp_iincN_4 153 d_Mo_aLeg_150 rfl rfl rfl ?_ | refine wp_iinc_4 153 1 d_Mo_aLeg_150 rfl (by decide) rfl rfl ?_
    refine wp_goto 126 d_Mo_aLeg_153 (by decide) ?_
    exact hq
set_option maxRecDepth 100000 in
set_option maxHeartbeats 4000000 in
theorem l_aLeg_126z (hq : WP Γ M_Mo_aLeg 9 0 0 (hM m_at m_names m_status m_top m_bottom m_sort m_trayMany m_trays m_tape m_text m_taped ((nI L)) ((gtF m_text L s.a).1) ((nI (gtF m_text L s.a).2.1)) ((nI (gtF m_text L s.a).2.2.1)) ((gtF m_text L s.a).2.2.2) m_faultKind m_faultPlace m_faults m_seen m_areOdds m_opened m_depth m_counted m_eastBy m_northBy m_partBy m_wayFaults m_wayEast m_wayNorth m_olds m_wayMany m_oneOfSet m_twoOfSet m_farBy m_rowBy m_triedBy m_rowMany m_doneAt m_gotAt m_struckAt m_bestDeed m_misBy m_drawn m_ranSteps m_loops m_ran m_told1 m_isTold m_marks) 156 [some (.ref 0), some (.int (nI t.nL)), some (.int (nI (1822 + 5 * t.nL))), some (.int 2242), some (.int 3)] [] Q) : WP Γ M_Mo_aLeg 9 0 0 (hM m_at m_names m_status m_top m_bottom m_sort m_trayMany m_trays m_tape m_text m_taped ((nI L)) ((gtF m_text L s.a).1) ((nI (gtF m_text L s.a).2.1)) ((nI (gtF m_text L s.a).2.2.1)) ((gtF m_text L s.a).2.2.2) m_faultKind m_faultPlace m_faults m_seen m_areOdds m_opened m_depth m_counted m_eastBy m_northBy m_partBy m_wayFaults m_wayEast m_wayNorth m_olds m_wayMany m_oneOfSet m_twoOfSet m_farBy m_rowBy m_triedBy m_rowMany m_doneAt m_gotAt m_struckAt m_bestDeed m_misBy m_drawn m_ranSteps m_loops m_ran m_told1 m_isTold m_marks) 126 [some (.ref 0), some (.int (nI t.nL)), some (.int (nI (1822 + 5 * t.nL))), some (.int 2242), some (.int (nI 3))] [] Q := by
  refine wp_iload 128 d_Mo_aLeg_126 rfl rfl ?_
  refine wp_iconst 129 3 d_Mo_aLeg_128 rfl (by decide) ?_
  refine wp_icmp_ge 156 132 d_Mo_aLeg_129 rfl (by decide) (fun h129 => ?_) (fun h129 => ?_)
  · exact hq
  · exact absurd (show (3 : Int32) ≤ nI 3 by decide) h129
set_option maxRecDepth 100000 in
set_option maxHeartbeats 4000000 in
theorem l_aLeg_156 (hL : L ≤ 900) (hb : ∀ k, k < L → b8 (m_text k)) (T : TKs co0_ m_text L K) (ha : s.a < K.nT) (hf : m_faults = 0) (hl : t.nL < 12) (hv : m_at 1802 = nI t.nL) (hq1 : (tPa K 7 8 s).1 = true → (tPa K 9 10 (tPa K 7 8 s).2.2).1 = true → Q (some (.int 1)) (hM ((upd (upd (upd m_at (1825 + 5 * t.nL) (tPa K 7 8 s).2.1) (1826 + 5 * t.nL) (tPa K 9 10 (tPa K 7 8 s).2.2).2.1) 1802 (nI (t.nL + 1)))) m_names m_status m_top m_bottom m_sort m_trayMany m_trays m_tape m_text m_taped ((nI L)) ((gtF m_text L (tPa K 9 10 (tPa K 7 8 s).2.2).2.2.a).1) ((nI (gtF m_text L (tPa K 9 10 (tPa K 7 8 s).2.2).2.2.a).2.1)) ((nI (gtF m_text L (tPa K 9 10 (tPa K 7 8 s).2.2).2.2.a).2.2.1)) ((gtF m_text L (tPa K 9 10 (tPa K 7 8 s).2.2).2.2.a).2.2.2) m_faultKind m_faultPlace m_faults m_seen m_areOdds m_opened m_depth m_counted m_eastBy m_northBy m_partBy m_wayFaults m_wayEast m_wayNorth m_olds m_wayMany m_oneOfSet m_twoOfSet m_farBy m_rowBy m_triedBy m_rowMany m_doneAt m_gotAt m_struckAt m_bestDeed m_misBy m_drawn m_ranSteps m_loops m_ran m_told1 m_isTold m_marks)) (hqa : ¬ (tPa K 7 8 s).1 = true → ∀ (x : Nat → Int32) (z1 z2 z3 z4 : Int32), (∀ k, k < 1800 ∨ k = 1807 → x k = m_at k) → Q (some (.int 0)) (hM (x) m_names m_status m_top m_bottom m_sort m_trayMany m_trays m_tape m_text m_taped ((nI L)) (z1) (z2) (z3) (z4) m_faultKind (((tPa K 7 8 s).2.2).fp) (((tPa K 7 8 s).2.2).fk) m_seen m_areOdds m_opened m_depth m_counted m_eastBy m_northBy m_partBy m_wayFaults m_wayEast m_wayNorth m_olds m_wayMany m_oneOfSet m_twoOfSet m_farBy m_rowBy m_triedBy m_rowMany m_doneAt m_gotAt m_struckAt m_bestDeed m_misBy m_drawn m_ranSteps m_loops m_ran m_told1 m_isTold m_marks)) (hqb : (tPa K 7 8 s).1 = true → ¬ (tPa K 9 10 (tPa K 7 8 s).2.2).1 = true → ∀ (x : Nat → Int32) (z1 z2 z3 z4 : Int32), (∀ k, k < 1800 ∨ k = 1807 → x k = m_at k) → Q (some (.int 0)) (hM (x) m_names m_status m_top m_bottom m_sort m_trayMany m_trays m_tape m_text m_taped ((nI L)) (z1) (z2) (z3) (z4) m_faultKind (((tPa K 9 10 (tPa K 7 8 s).2.2).2.2).fp) (((tPa K 9 10 (tPa K 7 8 s).2.2).2.2).fk) m_seen m_areOdds m_opened m_depth m_counted m_eastBy m_northBy m_partBy m_wayFaults m_wayEast m_wayNorth m_olds m_wayMany m_oneOfSet m_twoOfSet m_farBy m_rowBy m_triedBy m_rowMany m_doneAt m_gotAt m_struckAt m_bestDeed m_misBy m_drawn m_ranSteps m_loops m_ran m_told1 m_isTold m_marks)) : WP Γ M_Mo_aLeg 9 0 0 (hM m_at m_names m_status m_top m_bottom m_sort m_trayMany m_trays m_tape m_text m_taped ((nI L)) ((gtF m_text L s.a).1) ((nI (gtF m_text L s.a).2.1)) ((nI (gtF m_text L s.a).2.2.1)) ((gtF m_text L s.a).2.2.2) m_faultKind m_faultPlace m_faults m_seen m_areOdds m_opened m_depth m_counted m_eastBy m_northBy m_partBy m_wayFaults m_wayEast m_wayNorth m_olds m_wayMany m_oneOfSet m_twoOfSet m_farBy m_rowBy m_triedBy m_rowMany m_doneAt m_gotAt m_struckAt m_bestDeed m_misBy m_drawn m_ranSteps m_loops m_ran m_told1 m_isTold m_marks) 156 [some (.ref 0), some (.int (nI t.nL)), some (.int (nI (1822 + 5 * t.nL))), some (.int 2242), some (.int 3)] [] Q := by
  refine wp_aload_n 157 d_Mo_aLeg_156 rfl rfl ?_
  refine wp_bipush 159 7 d_Mo_aLeg_157 rfl (by decide) ?_
  refine wp_bipush 161 8 d_Mo_aLeg_159 rfl (by decide) ?_
  refine wp_iload_n 162 d_Mo_aLeg_161 rfl rfl ?_
  refine wp_iconst 163 3 d_Mo_aLeg_162 rfl (by decide) ?_
  refine wp_iadd 164 d_Mo_aLeg_163 rfl ?_
  rw [show nI (1822 + 5 * t.nL) + 3 = nI (1825 + 5 * t.nL) from by rw [show (3 : Int32) = nI 3 from rfl, nI_add]; congr 1; omega]
  refine wp_V3 167 M_Mo_paced 7 d_Mo_aLeg_164 rfl mv_Mo_paced lk_Mo_233 rfl rfl rfl rfl rfl ?_
  refine k_paced (w := 7) (v := 8) (to_ := 1825 + 5 * t.nL) (s := s) hL hb T ha hf (by omega) (by omega) (by omega) (fun n7 => ?_) (fun n17 z1 z2 z3 z4 => ?_)
  · refine kI ?_
    refine wp_if_eq 184 170 d_Mo_aLeg_167 rfl (by decide) (fun h167 => ?_) (fun h167 => ?_)
    · exact absurd h167 (by decide)
    · refine wp_aload_n 171 d_Mo_aLeg_170 rfl rfl ?_
      refine wp_bipush 173 9 d_Mo_aLeg_171 rfl (by decide) ?_
      refine wp_bipush 175 10 d_Mo_aLeg_173 rfl (by decide) ?_
      refine wp_iload_n 176 d_Mo_aLeg_175 rfl rfl ?_
      refine wp_iconst 177 4 d_Mo_aLeg_176 rfl (by decide) ?_
      refine wp_iadd 178 d_Mo_aLeg_177 rfl ?_
      rw [show nI (1822 + 5 * t.nL) + 4 = nI (1826 + 5 * t.nL) from by rw [show (4 : Int32) = nI 4 from rfl, nI_add]; congr 1; omega]
      refine wp_V3 181 M_Mo_paced 7 d_Mo_aLeg_178 rfl mv_Mo_paced lk_Mo_233 rfl rfl rfl rfl rfl ?_
      refine k_paced (w := 9) (v := 10) (to_ := 1826 + 5 * t.nL) (s := (tPa K 7 8 s).2.2) hL hb T (tPa_lt ha) hf (by omega) (by omega) (by omega) (fun n9 => ?_) (fun n19 z1 z2 z3 z4 => ?_)
      · refine kI ?_
        refine wp_if_ne 186 184 d_Mo_aLeg_181 rfl (by decide) (fun h181 => ?_) (fun h181 => ?_)
        · refine wp_aload_n 187 d_Mo_aLeg_186 rfl rfl ?_
          refine wp_getfield 190 12 0 d_Mo_aLeg_187 rfl fl_Mo_7 rfl rfl ?_
          refine wp_sipush 193 1802 d_Mo_aLeg_190 rfl (by decide) ?_
          refine wp_dup2 194 d_Mo_aLeg_193 rfl rfl rfl ?_
          refine wp_iaload 195 d_Mo_aLeg_194 rfl rfl (vp_in_nI (n := 1802) (N := 2332) (by omega) (by omega)) ?_
          rw [show upd (upd m_at (1825 + 5 * t.nL) (tPa K (nI 7) (nI 8) s).2.1) (1826 + 5 * t.nL) (tPa K (nI 9) (nI 10) (tPa K 7 8 s).2.2).2.1 (1802 : Int32).toNatClampNeg = nI t.nL from (upd_ne (show ¬ 1802 = 1826 + 5 * t.nL by omega)).trans ((upd_ne (show ¬ 1802 = 1825 + 5 * t.nL by omega)).trans hv)]
          refine wp_iconst 196 1 d_Mo_aLeg_195 rfl (by decide) ?_
          refine wp_iadd 197 d_Mo_aLeg_196 rfl ?_
          rw [nI_1]
          refine wp_iastore 198 d_Mo_aLeg_197 rfl rfl (vp_in_nI (n := 1802) (N := 2332) (by omega) (by omega)) ?_
          refine hEq (hM ((upd (upd (upd m_at (1825 + 5 * t.nL) (tPa K 7 8 s).2.1) (1826 + 5 * t.nL) (tPa K 9 10 (tPa K 7 8 s).2.2).2.1) 1802 (nI (t.nL + 1)))) m_names m_status m_top m_bottom m_sort m_trayMany m_trays m_tape m_text m_taped ((nI L)) ((gtF m_text L (tPa K 9 10 (tPa K 7 8 s).2.2).2.2.a).1) ((nI (gtF m_text L (tPa K 9 10 (tPa K 7 8 s).2.2).2.2.a).2.1)) ((nI (gtF m_text L (tPa K 9 10 (tPa K 7 8 s).2.2).2.2.a).2.2.1)) ((gtF m_text L (tPa K 9 10 (tPa K 7 8 s).2.2).2.2.a).2.2.2) m_faultKind m_faultPlace m_faults m_seen m_areOdds m_opened m_depth m_counted m_eastBy m_northBy m_partBy m_wayFaults m_wayEast m_wayNorth m_olds m_wayMany m_oneOfSet m_twoOfSet m_farBy m_rowBy m_triedBy m_rowMany m_doneAt m_gotAt m_struckAt m_bestDeed m_misBy m_drawn m_ranSteps m_loops m_ran m_told1 m_isTold m_marks) rfl ?_
          refine wp_iconst 199 1 d_Mo_aLeg_198 rfl (by decide) ?_
          refine wp_zreturn d_Mo_aLeg_199 rfl (by first | rfl | exact nbP _) ?_
          exact hq1 n7 n9
        · exact absurd h181 (by decide)
      · refine kI ?_
        refine wp_if_ne 186 184 d_Mo_aLeg_181 rfl (by decide) (fun h181 => ?_) (fun h181 => ?_)
        · exact absurd rfl h181
        · refine wp_iconst 185 0 d_Mo_aLeg_184 rfl (by decide) ?_
          refine wp_zreturn d_Mo_aLeg_185 rfl (by first | rfl | exact nbP _) ?_
          exact hqb n7 n19 _ _ _ _ _ (fun k hk => upd_ne (by omega))
  · refine kI ?_
    refine wp_if_eq 184 170 d_Mo_aLeg_167 rfl (by decide) (fun h167 => ?_) (fun h167 => ?_)
    · refine wp_iconst 185 0 d_Mo_aLeg_184 rfl (by decide) ?_
      refine wp_zreturn d_Mo_aLeg_185 rfl (by first | rfl | exact nbP _) ?_
      exact hqa n17 _ _ _ _ _ (fun _ _ => rfl)
    · exact absurd rfl h167
set_option maxRecDepth 100000 in
set_option maxHeartbeats 4000000 in
theorem k_aLeg (hL : L ≤ 900) (hb : ∀ k, k < L → b8 (m_text k)) (T : TKs co0_ m_text L K) (ha : s.a < K.nT) (hf : m_faults = 0) (hw : cWo K s = 6) (V : vT (sh m_at) t) (N : NS m_names 44 t) (hq1 : (tLg K s t).1 = true → ∀ (a2 : Nat → Int32) (n2 : Nat → Int64), vT (sh a2) ((tLg K s t).2.2) → NS n2 44 ((tLg K s t).2.2) → frW a2 m_at → frL n2 m_names → Q (some (.int 1)) (hM (a2) (n2) m_status m_top m_bottom m_sort m_trayMany m_trays m_tape m_text m_taped ((nI L)) ((gtF m_text L ((tLg K s t).2.1).a).1) ((nI (gtF m_text L ((tLg K s t).2.1).a).2.1)) ((nI (gtF m_text L ((tLg K s t).2.1).a).2.2.1)) ((gtF m_text L ((tLg K s t).2.1).a).2.2.2) m_faultKind m_faultPlace m_faults m_seen m_areOdds m_opened m_depth m_counted m_eastBy m_northBy m_partBy m_wayFaults m_wayEast m_wayNorth m_olds m_wayMany m_oneOfSet m_twoOfSet m_farBy m_rowBy m_triedBy m_rowMany m_doneAt m_gotAt m_struckAt m_bestDeed m_misBy m_drawn m_ranSteps m_loops m_ran m_told1 m_isTold m_marks)) (hq0 : ¬ (tLg K s t).1 = true → ∀ (a2 : Nat → Int32) (n2 : Nat → Int64) (z1 z2 z3 z4 : Int32), frW a2 m_at → frL n2 m_names → Q (some (.int 0)) (hM (a2) (n2) m_status m_top m_bottom m_sort m_trayMany m_trays m_tape m_text m_taped ((nI L)) (z1) (z2) (z3) (z4) m_faultKind (((tLg K s t).2.1).fp) (((tLg K s t).2.1).fk) m_seen m_areOdds m_opened m_depth m_counted m_eastBy m_northBy m_partBy m_wayFaults m_wayEast m_wayNorth m_olds m_wayMany m_oneOfSet m_twoOfSet m_farBy m_rowBy m_triedBy m_rowMany m_doneAt m_gotAt m_struckAt m_bestDeed m_misBy m_drawn m_ranSteps m_loops m_ran m_told1 m_isTold m_marks)) : Call Γ M_Mo_aLeg 9 0 0 [.ref 0] (hM m_at m_names m_status m_top m_bottom m_sort m_trayMany m_trays m_tape m_text m_taped ((nI L)) ((gtF m_text L s.a).1) ((nI (gtF m_text L s.a).2.1)) ((nI (gtF m_text L s.a).2.2.1)) ((gtF m_text L s.a).2.2.2) m_faultKind m_faultPlace m_faults m_seen m_areOdds m_opened m_depth m_counted m_eastBy m_northBy m_partBy m_wayFaults m_wayEast m_wayNorth m_olds m_wayMany m_oneOfSet m_twoOfSet m_farBy m_rowBy m_triedBy m_rowMany m_doneAt m_gotAt m_struckAt m_bestDeed m_misBy m_drawn m_ranSteps m_loops m_ran m_told1 m_isTold m_marks) Q := by
  have A := ATk_of (s := s) hb T ha
  have g2 := ak_w2 (w := 6) A (by omega) hw
  have hP7 := V.ok.hP
  have hW4 := V.ok.hW
  have hL12 := V.ok.hL
  refine call_intro (ls := [some (.ref 0), none, none, none, none]) rfl rfl rfl ?_
  refine wp_aload_n 1 d_Mo_aLeg_0 rfl rfl ?_
  refine wp_getfield 4 12 0 d_Mo_aLeg_1 rfl fl_Mo_7 rfl rfl ?_
  refine wp_sipush 7 1802 d_Mo_aLeg_4 rfl (by decide) ?_
  refine wp_iaload 8 d_Mo_aLeg_7 rfl rfl (vp_in_nI (n := 1802) (N := 2332) (by omega) (by omega)) ?_
  rw [show m_at (1802 : Int32).toNatClampNeg = nI t.nL from V.L]
  refine wp_istore_1 9 d_Mo_aLeg_8 rfl rfl rfl ?_
  refine wp_sipush 12 1800 d_Mo_aLeg_9 rfl (by decide) ?_
  refine wp_iload_n 13 d_Mo_aLeg_12 rfl rfl ?_
  refine wp_S1 16 M_Mo_legRow 1 d_Mo_aLeg_13 rfl ms_Mo_legRow lk_Mo_226 rfl rfl ?_
  refine c_Mo_legRow ?_
  refine kI ?_
  refine wp_iadd 17 d_Mo_aLeg_16 rfl ?_
  rw [show (1800 : Int32) + nI (22 + 5 * t.nL) = nI (1822 + 5 * t.nL) from by rw [show (1800 : Int32) = nI 1800 from rfl, nI_add]; congr 1; omega]
  refine wp_istore_2 18 d_Mo_aLeg_17 rfl rfl rfl ?_
  refine wp_sipush 21 2242 d_Mo_aLeg_18 rfl (by decide) ?_
  refine wp_istore_3 22 d_Mo_aLeg_21 rfl rfl rfl ?_
  refine wp_iload_n 23 d_Mo_aLeg_22 rfl rfl ?_
  refine wp_bipush 25 12 d_Mo_aLeg_23 rfl (by decide) ?_
  refine wp_icmp_ne 35 28 d_Mo_aLeg_25 rfl (by decide) (fun h25 => ?_) (fun h25 => ?_)
  · have hl : t.nL < 12 := by
      rcases Nat.lt_or_ge t.nL 12 with z | z
      · exact z
      · exact absurd (show nI t.nL = 12 from by rw [show t.nL = 12 by omega]; rfl) h25
    have e0 : tLg K s t = tL1 K t (cNx K s) := if_pos hl
    refine wp_aload_n 36 d_Mo_aLeg_35 rfl rfl ?_
    refine wp_V0 39 M_Mo_ahead 2 d_Mo_aLeg_36 rfl mv_Mo_ahead lk_Mo_187 rfl rfl rfl rfl rfl ?_
    refine k_ahead (s := s) hL hb T ha (by rw [g2]; decide) ?_
    refine kV ?_
    refine wp_aload_n 40 d_Mo_aLeg_39 rfl rfl ?_
    refine wp_sipush 43 1800 d_Mo_aLeg_40 rfl (by decide) ?_
    refine wp_iconst 44 1 d_Mo_aLeg_43 rfl (by decide) ?_
    refine wp_iload_n 45 d_Mo_aLeg_44 rfl rfl ?_
    refine wp_V3 48 M_Mo_knownTo 8 d_Mo_aLeg_45 rfl mv_Mo_knownTo lk_Mo_229 rfl rfl rfl rfl rfl ?_
    refine k_KW (to_ := 2242) (s := cNx K s) (t := t) hL hb T (cNx_lt ha) hf (by omega) V.P V.W hP7 hW4 N (fun n1 => ?_) (fun n8 x hx => ?_)
    · refine kI ?_
      refine wp_if_eq 65 51 d_Mo_aLeg_48 rfl (by decide) (fun h48 => ?_) (fun h48 => ?_)
      · exact absurd h48 (by decide)
      · refine wp_aload_n 52 d_Mo_aLeg_51 rfl rfl ?_
        refine wp_sipush 55 1800 d_Mo_aLeg_52 rfl (by decide) ?_
        refine wp_iconst 56 0 d_Mo_aLeg_55 rfl (by decide) ?_
        refine wp_iload_n 57 d_Mo_aLeg_56 rfl rfl ?_
        refine wp_iconst 58 1 d_Mo_aLeg_57 rfl (by decide) ?_
        refine wp_iadd 59 d_Mo_aLeg_58 rfl ?_
        rw [show (2242 : Int32) + 1 = nI 2243 from rfl]
        refine wp_V3 62 M_Mo_knownTo 8 d_Mo_aLeg_59 rfl mv_Mo_knownTo lk_Mo_229 rfl rfl rfl rfl rfl ?_
        refine k_KP (to_ := 2243) (s := (tKW K t (cNx K s)).2) (t := t) hL hb T (tKW_lt (cNx_lt ha)) hf (by omega) (by rw [upd_ne (by omega)]; exact V.P) (by rw [upd_ne (by omega)]; exact V.W) hP7 hW4 N (fun n2 => ?_) (fun n9 x hx => ?_)
        · refine kI ?_
          refine wp_if_ne 67 65 d_Mo_aLeg_62 rfl (by decide) (fun h62 => ?_) (fun h62 => ?_)
          · have e1 : tL1 K t (cNx K s) = tL2 K t (tKW K t (cNx K s)).1 (tKW K t (cNx K s)).2 := if_neg n1
            have e2 : tL2 K t (tKW K t (cNx K s)).1 (tKW K t (cNx K s)).2 = tL3 K t (tKW K t (cNx K s)).1 (tKP K t (-1) (tKW K t (cNx K s)).2).1 (tKP K t (-1) (tKW K t (cNx K s)).2).2 := if_neg n2
            obtain ⟨w1, w2⟩ := tKW_in n1 hW4
            obtain ⟨p1, _, p2⟩ := tKP_in n2 hP7
            have ha2 := tKP_lt (n := -1) (t := t) (tKW_lt (t := t) (cNx_lt ha))
            rw [e0, e1, e2] at hq0 hq1
            generalize (tKW K t (cNx K s)).1 = x1 at w1 hq0 hq1 ⊢
            generalize (tKP K t (-1) (tKW K t (cNx K s)).2) = r2 at ha2 p1 n2 hq0 hq1 ⊢
            generalize r2.1 = x2 at p1 n2 hq0 hq1 ⊢
            generalize r2.2 = s2 at ha2 hq0 hq1 ⊢
            refine l_aLeg_67 (m_at := upd (upd m_at 2242 x1) 2243 x2) (s := s2) (t := t) (y := x2) hL hb T ha2 hf (by rw [upd_ne (by omega), upd_ne (by omega)]; exact V.P) (by rw [upd_ne (by omega), upd_ne (by omega)]; exact V.W) hP7 hW4 N upd_at n2 (fun n3 => ?_) (fun n3 x hx => ?_)
            · have e3 : tL3 K t x1 x2 s2 = tL4 K (aL t x1 x2 (tKP K t x2 s2).1) t.nL (tKP K t x2 s2).2 := if_neg n3
              obtain ⟨q1_, q2_, q3_⟩ := tKP_in n3 hP7
              have ha3 := tKP_lt (n := x2) (t := t) ha2
              rw [e3] at hq0 hq1
              generalize (tKP K t x2 s2).1 = x3 at q1_ q2_ hq0 hq1 ⊢
              generalize (tKP K t x2 s2).2 = s3 at ha3 hq0 hq1 ⊢
              refine wp_iconst 124 0 d_Mo_aLeg_123 rfl (by decide) ?_
              refine wp_istore_4 126 d_Mo_aLeg_124 rfl rfl rfl ?_
              have z0 : (0 : Int32) = nI 0 := rfl
              refine l_aLeg_126 (i := 0) (s := s3) (t := t) (by omega) hl ?_
              refine l_aLeg_126 (i := 1) (s := s3) (t := t) (by omega) hl ?_
              refine l_aLeg_126 (i := 2) (s := s3) (t := t) (by omega) hl ?_
              refine l_aLeg_126z (s := s3) (t := t) ?_
              obtain ⟨B, hB⟩ : ∃ B : Nat → Int32, B = upd (upd (upd (upd (upd (upd m_at 2242 x1) 2243 x2) 2244 x3) (1822 + 5 * t.nL + 0) ((upd (upd (upd m_at 2242 x1) 2243 x2) 2244 x3) (2242 + 0))) (1822 + 5 * t.nL + 1) ((upd (upd (upd (upd m_at 2242 x1) 2243 x2) 2244 x3) (1822 + 5 * t.nL + 0) ((upd (upd (upd m_at 2242 x1) 2243 x2) 2244 x3) (2242 + 0))) (2242 + 1))) (1822 + 5 * t.nL + 2) ((upd (upd (upd (upd (upd m_at 2242 x1) 2243 x2) 2244 x3) (1822 + 5 * t.nL + 0) ((upd (upd (upd m_at 2242 x1) 2243 x2) 2244 x3) (2242 + 0))) (1822 + 5 * t.nL + 1) ((upd (upd (upd (upd m_at 2242 x1) 2243 x2) 2244 x3) (1822 + 5 * t.nL + 0) ((upd (upd (upd m_at 2242 x1) 2243 x2) 2244 x3) (2242 + 0))) (2242 + 1))) (2242 + 2)) := ⟨_, rfl⟩
              rw [← hB]
              have b0 : B (1822 + 5 * t.nL) = x1 := by
                rw [hB, upd_ne (by omega), upd_ne (by omega), show 1822 + 5 * t.nL + 0 = 1822 + 5 * t.nL from rfl, upd_at, upd_ne (by omega), upd_ne (by omega), upd_at]
              have b1 : B (1823 + 5 * t.nL) = x2 := by
                rw [hB, upd_ne (by omega), show 1823 + 5 * t.nL = 1822 + 5 * t.nL + 1 by omega, upd_at, upd_ne (by omega), upd_ne (by omega), upd_at]
              have b2 : B (1824 + 5 * t.nL) = x3 := by
                rw [hB, show 1824 + 5 * t.nL = 1822 + 5 * t.nL + 2 by omega, upd_at, upd_ne (by omega), upd_ne (by omega), upd_at]
              have b3 : ∀ k, k < 2242 → ¬ (1822 + 5 * t.nL ≤ k ∧ k < 1825 + 5 * t.nL) → B k = m_at k := fun k k1 k2 => by
                rw [hB, upd_ne (by omega), upd_ne (by omega), upd_ne (by omega), upd_ne (by omega), upd_ne (by omega), upd_ne (by omega)]
              refine l_aLeg_156 (m_at := B) (s := s3) (t := t) hL hb T ha3 hf hl (by rw [b3 _ (by omega) (by omega)]; exact V.L) (fun n5 n6 => ?_) (fun n5 x z1 z2 z3 z4 hx => ?_) (fun n5 n6 x z1 z2 z3 z4 hx => ?_)
              · have e4 : tL4 K (aL t x1 x2 x3) t.nL s3 = ((tPa K 9 10 (tPa K 7 8 s3).2.2).1, (tPa K 9 10 (tPa K 7 8 s3).2.2).2.2, tN (tE (aL t x1 x2 x3) t.nL (tPa K 7 8 s3)) t.nL (tPa K 9 10 (tPa K 7 8 s3).2.2)) := if_pos n5
                have e5 : tN (tE (aL t x1 x2 x3) t.nL (tPa K 7 8 s3)) t.nL (tPa K 9 10 (tPa K 7 8 s3).2.2) = paT t x1 x2 x3 (tPa K 7 8 s3).2.1 (tPa K 9 10 (tPa K 7 8 s3).2.2).2.1 := by
                  have e6 : tE (aL t x1 x2 x3) t.nL (tPa K 7 8 s3) = _ := if_pos n5
                  have e7 : tN (tE (aL t x1 x2 x3) t.nL (tPa K 7 8 s3)) t.nL (tPa K 9 10 (tPa K 7 8 s3).2.2) = _ := if_pos n6
                  rw [e7, e6]
                  rfl
                rw [e4, e5] at hq1
                refine hq1 n6 _ m_names (vT_82 (vT_pa V hl w1 ⟨p1, q1_, fun z => q2_ z.symm⟩ (tPa_pa n5) (tPa_pa n6)) (fun j hj => ?_)) (NS_e N rfl rfl rfl rfl) (fun k hk => ?_) (fun _ _ => rfl)
                · show upd (upd (upd B (1825 + 5 * t.nL) _) (1826 + 5 * t.nL) _) 1802 _ (1800 + j) = paU (sh m_at) t.nL x1 x2 x3 (tPa K 7 8 s3).2.1 (tPa K 9 10 (tPa K 7 8 s3).2.2).2.1 j
                  unfold paU
                  by_cases j2 : j = 2
                  · rw [j2, upd_at, upd_ne (by omega), upd_ne (by omega), upd_ne (by omega), upd_ne (by omega), upd_ne (by omega), upd_at]
                  · rw [upd_ne (show ¬ 1800 + j = 1802 by omega)]
                    by_cases j6 : j = 22 + 5 * t.nL + 4
                    · rw [j6, upd_at, show 1800 + (22 + 5 * t.nL + 4) = 1826 + 5 * t.nL by omega, upd_at]
                    · rw [upd_ne j6, upd_ne (show ¬ 1800 + j = 1826 + 5 * t.nL by omega)]
                      by_cases j5 : j = 22 + 5 * t.nL + 3
                      · rw [j5, upd_at, show 1800 + (22 + 5 * t.nL + 3) = 1825 + 5 * t.nL by omega, upd_at]
                      · rw [upd_ne j5, upd_ne (show ¬ 1800 + j = 1825 + 5 * t.nL by omega)]
                        by_cases j4 : j = 22 + 5 * t.nL + 2
                        · rw [j4, upd_at, show 1800 + (22 + 5 * t.nL + 2) = 1824 + 5 * t.nL by omega]; exact b2
                        · rw [upd_ne j4]
                          by_cases j3 : j = 22 + 5 * t.nL + 1
                          · rw [j3, upd_at, show 1800 + (22 + 5 * t.nL + 1) = 1823 + 5 * t.nL by omega]; exact b1
                          · rw [upd_ne j3]
                            by_cases j1 : j = 22 + 5 * t.nL
                            · rw [j1, upd_at, show 1800 + (22 + 5 * t.nL) = 1822 + 5 * t.nL by omega]; exact b0
                            · rw [upd_ne j1, upd_ne j2, b3 _ (by omega) (by omega)]; rfl
                · rw [upd_ne (by omega), upd_ne (by omega), upd_ne (by omega)]
                  exact b3 k (by omega) (by omega)
              · have e4 : tL4 K (aL t x1 x2 x3) t.nL s3 = (false, (tPa K 7 8 s3).2.2, tE (aL t x1 x2 x3) t.nL (tPa K 7 8 s3)) := if_neg n5
                rw [e4] at hq0
                exact hq0 Bool.false_ne_true _ _ _ _ _ _ (fun k hk => (hx k hk).trans (b3 k (by omega) (by omega))) (fun _ _ => rfl)
              · have e4 : tL4 K (aL t x1 x2 x3) t.nL s3 = ((tPa K 9 10 (tPa K 7 8 s3).2.2).1, (tPa K 9 10 (tPa K 7 8 s3).2.2).2.2, tN (tE (aL t x1 x2 x3) t.nL (tPa K 7 8 s3)) t.nL (tPa K 9 10 (tPa K 7 8 s3).2.2)) := if_pos n5
                rw [e4] at hq0
                exact hq0 n6 _ _ _ _ _ _ (fun k hk => (hx k hk).trans (b3 k (by omega) (by omega))) (fun _ _ => rfl)
            · have e3 : tL3 K t x1 x2 s2 = (false, (tKP K t x2 s2).2, t) := if_pos n3
              rw [e3] at hq0
              exact hq0 Bool.false_ne_true _ _ _ _ _ _ (fun k hk => by rw [hx k (by omega), upd_ne (by omega), upd_ne (by omega)]) (fun _ _ => rfl)
          · exact absurd h62 (by decide)
        · refine kI ?_
          refine wp_if_ne 67 65 d_Mo_aLeg_62 rfl (by decide) (fun h62 => ?_) (fun h62 => ?_)
          · exact absurd rfl h62
          · refine wp_iconst 66 0 d_Mo_aLeg_65 rfl (by decide) ?_
            refine wp_zreturn d_Mo_aLeg_66 rfl (by first | rfl | exact nbP _) ?_
            have e1 : tL1 K t (cNx K s) = tL2 K t (tKW K t (cNx K s)).1 (tKW K t (cNx K s)).2 := if_neg n1
            have e2 : tL2 K t (tKW K t (cNx K s)).1 (tKW K t (cNx K s)).2 = (false, (tKP K t (-1) (tKW K t (cNx K s)).2).2, t) := if_pos n9
            rw [e0, e1, e2] at hq0
            exact hq0 Bool.false_ne_true _ _ _ _ _ _ (fun k hk => (hx k (by omega)).trans (upd_ne (by omega))) (fun _ _ => rfl)
    · refine kI ?_
      refine wp_if_eq 65 51 d_Mo_aLeg_48 rfl (by decide) (fun h48 => ?_) (fun h48 => ?_)
      · refine wp_iconst 66 0 d_Mo_aLeg_65 rfl (by decide) ?_
        refine wp_zreturn d_Mo_aLeg_66 rfl (by first | rfl | exact nbP _) ?_
        have e1 : tL1 K t (cNx K s) = (false, (tKW K t (cNx K s)).2, t) := if_pos n8
        rw [e0, e1] at hq0
        exact hq0 Bool.false_ne_true _ _ _ _ _ _ (fun k hk => hx k (by omega)) (fun _ _ => rfl)
      · exact absurd rfl h48
  · refine wp_aload_n 29 d_Mo_aLeg_28 rfl rfl ?_
    refine wp_bipush 31 6 d_Mo_aLeg_29 rfl (by decide) ?_
    refine wp_V1 34 M_Mo_fails 1 d_Mo_aLeg_31 rfl mv_Mo_fails lk_Mo_193 rfl rfl rfl rfl rfl ?_
    refine k_fails (s := s) (c := 6) hL hb T ha hf (by rw [g2]; decide) ?_
    refine kI ?_
    refine wp_zreturn d_Mo_aLeg_34 rfl (by first | rfl | exact nbP _) ?_
    have hl : ¬ t.nL < 12 := fun z => absurd (nI_ij (b := 12) h25 (by omega) (by omega)) (by omega)
    have e : tLg K s t = (false, cFl K 6 s, t) := if_neg hl
    rw [e] at hq0
    exact hq0 Bool.false_ne_true m_at m_names _ _ _ _ (fun _ _ => rfl) (fun _ _ => rfl)

end TAV
