/-! ===== the reference at the class's cursor: words, signs, numbers, names ===== -/
/-- where the class's cursor stands in the text -/
def ATk (K : TK) (b : Nat → Int32) (L : Nat) (s : CS) : Prop := psF b L s.a ≤ L ∧ K.st s.a = nI (psF b L s.a) ∧ (gtF b L s.a).2.1 = psF b L s.a ∧ (nx K.nT s.a = s.a + 1 ∧ psF b L s.a < L ∧ TL K b L s.a ∨ psF b L s.a = L ∧ K.ki s.a = 0)
theorem ATk_of {K : TK} {b : Nat → Int32} {L : Nat} {s : CS} (hb : ∀ k, k < L → b8 (b k)) (T : TKs co0_ b L K) (ha : s.a < K.nT) : ATk K b L s := TKs_at hb T ha
theorem ak_le {K : TK} {b : Nat → Int32} {L : Nat} {s : CS} (h : ATk K b L s) : psF b L s.a ≤ L := h.1
theorem ak_st {K : TK} {b : Nat → Int32} {L : Nat} {s : CS} (h : ATk K b L s) : K.st s.a = nI (gtF b L s.a).2.1 := by rw [h.2.1, h.2.2.1]
theorem ak_cs {K : TK} {b : Nat → Int32} {L : Nat} {s : CS} (h : ATk K b L s) : csK (K.ki s.a) = if (gtF b L s.a).1 = 1 then 1 else 2 := by
  rcases h.2.2.2 with z | z
  · exact TL_cs z.2.2
  · rw [z.2, gt_last z.1]; rfl
theorem ak_sg {K : TK} {b : Nat → Int32} {L : Nat} {s : CS} {c : Int32} (h : ATk K b L s) : (K.ki s.a = 5 ∧ cVl K s = c) ↔ ((gtF b L s.a).1 = 4 ∧ (gtF b L s.a).2.2.2 = c) := by
  rcases h.2.2.2 with z | z
  · exact TL_sg z.2.2
  · rw [z.2, gt_last z.1]
    exact ⟨fun y => absurd y.1 (by decide), fun y => absurd y.1 (show ¬ (0 : Int32) = 4 by decide)⟩
theorem ak_nu {K : TK} {b : Nat → Int32} {L : Nat} {s : CS} (h : ATk K b L s) : (K.ki s.a = 4 ↔ (gtF b L s.a).1 = 3) ∧ (K.ki s.a = 4 → cVl K s = (gtF b L s.a).2.2.2) := by
  rcases h.2.2.2 with z | z
  · exact TL_nu z.2.2
  · rw [z.2, gt_last z.1]
    exact ⟨⟨fun y => absurd y (by decide), fun y => absurd y (show ¬ (0 : Int32) = 3 by decide)⟩, fun y => absurd y (by decide)⟩
theorem ak_nm {K : TK} {b : Nat → Int32} {L : Nat} {s : CS} (h : ATk K b L s) : K.ki s.a = 2 ↔ isNm b L s.a := by
  rcases h.2.2.2 with z | z
  · exact nm_link z.2.2
  · rw [z.2]
    refine ⟨fun y => absurd y (by decide), fun y => ?_⟩
    have := y.1
    rw [gt_last z.1] at this
    exact absurd this (show ¬ (0 : Int32) = 2 by decide)
theorem ak_nr {K : TK} {b : Nat → Int32} {L : Nat} {s : CS} (hb : ∀ k, k < L → b8 (b k)) (h : ATk K b L s) (h2 : K.ki s.a = 2) : NR (K.va s.a) (nmF b L (psF b L s.a) (lnT b L s.a)) := by
  rcases h.2.2.2 with z | z
  · exact NR_tok hb z.2.2 h2
  · rw [z.2] at h2
    exact absurd h2 (by decide)
theorem ak_wo {K : TK} {b : Nat → Int32} {L : Nat} {s : CS} (h : ATk K b L s) : (cWo K s = -1 ∧ kwR b L s.a = -1) ∨ ∃ w, w < 24 ∧ cWo K s = nI w ∧ kwR b L s.a = nI (pi_ w) := by
  rcases h.2.2.2 with z | z
  · exact kw_link z.2.2
  · refine Or.inl ⟨?_, kw_last z.1⟩
    unfold cWo
    rw [z.2]; rfl
theorem ak_nx {K : TK} {b : Nat → Int32} {L : Nat} {s : CS} (h : ATk K b L s) (h0 : ¬ (gtF b L s.a).1 = 0) : nx K.nT s.a = s.a + 1 ∧ psF b L s.a < L := by
  rcases h.2.2.2 with z | z
  · exact ⟨z.1, z.2.1⟩
  · rw [gt_last z.1] at h0
    exact absurd rfl h0
theorem ak_0 {K : TK} {b : Nat → Int32} {L : Nat} {s : CS} (h : ATk K b L s) : K.ki s.a = 0 ↔ (gtF b L s.a).1 = 0 := by
  rcases h.2.2.2 with z | z
  · constructor
    · intro y
      rcases z.2.2 with ⟨w, h1, h2, h3, h4, h5, h6⟩ | ⟨h1, h2, h3, h4, h5⟩ | ⟨h1, h2, h3, h4⟩ | ⟨h1, h2, h3⟩ | ⟨h1, h2, h3⟩ | ⟨h1, h2⟩
      · rw [h2] at y; exact absurd y (by decide)
      · rw [h1] at y; exact absurd y (by decide)
      · rw [h1] at y; exact absurd y (by decide)
      · rw [h1] at y; exact absurd y (by decide)
      · rw [h1] at y; exact absurd y (by decide)
      · rw [h1] at y; exact absurd y (by decide)
    · intro y
      rcases z.2.2 with ⟨w, h1, h2, h3, h4, h5, h6⟩ | ⟨h1, h2, h3, h4, h5⟩ | ⟨h1, h2, h3, h4⟩ | ⟨h1, h2, h3⟩ | ⟨h1, h2, h3⟩ | ⟨h1, h2⟩
      · rw [h4] at y; exact absurd y (by decide)
      · rw [h2] at y; exact absurd y (by decide)
      · rw [h2] at y; exact absurd y (by decide)
      · rw [h2] at y; exact absurd y (by decide)
      · rw [h2] at y; exact absurd y (by decide)
      · rw [h2] at y; exact absurd y (by decide)
  · rw [z.2, gt_last z.1]
theorem pi_inj {w v : Nat} (hw : w < 24) (hv : v < 24) (h : nI (pi_ w) = nI (pi_ v)) : w = v := by
  have h1 := pq_t w hw
  have h2 := pq_t v hv
  have e := nI_ij h (by omega) (by omega)
  rw [← h1.2.2.2.1, ← h2.2.2.2.1, e]
/-- a word of both sides -/
theorem ak_is {K : TK} {b : Nat → Int32} {L : Nat} {s : CS} (h : ATk K b L s) (w : Nat) (hw : w < 24) : cWo K s = nI w ↔ kwR b L s.a = nI (pi_ w) := by
  have hp := (pq_t w hw).1
  rcases ak_wo h with ⟨z1, z2⟩ | ⟨v, hv, z1, z2⟩
  · rw [z1, z2]
    exact ⟨fun y => absurd y.symm (nI_ne1 (by omega)), fun y => absurd y.symm (nI_ne1 (by omega))⟩
  · rw [z1, z2]
    constructor
    · intro y
      rw [nI_ij y (by omega) (by omega)]
    · intro y
      rw [pi_inj hv hw y]
theorem ak_w2 {K : TK} {b : Nat → Int32} {L : Nat} {s : CS} (h : ATk K b L s) {w : Nat} (hw : w < 24) (e : cWo K s = nI w) : (gtF b L s.a).1 = 2 := by
  refine kw_2i (fun z => ?_)
  have e2 := (ak_is h w hw).mp e
  have hp := (pq_t w hw).1
  rw [z] at e2
  exact absurd e2.symm (nI_ne1 (by omega))
theorem nI_n1 {n : Nat} (h : n < 2 ^ 31) : ¬ nI n = -1 := nI_ne1 h
theorem cNu_in {K : TK} {x y : Int32} {s : CS} (h : (cNu K x y s).1 = true) : x ≤ (cNu K x y s).2.tk ∧ (cNu K x y s).2.tk ≤ y := by
  revert h
  unfold cNu
  split
  · split
    · rename_i h2
      intro _
      exact h2
    · intro z; exact absurd z Bool.false_ne_true
  · intro z; exact absurd z Bool.false_ne_true
theorem nx_ge {n a : Nat} : a ≤ nx n a := by unfold nx; split <;> omega
theorem cNx_ge {K : TK} {s : CS} : s.a ≤ (cNx K s).a := nx_ge
theorem cSg_ge {K : TK} {c : Int32} {s : CS} : s.a ≤ (cSg K c s).2.a := by
  unfold cSg; split
  · exact cNx_ge
  · exact Nat.le_refl _
theorem cNu_ge {K : TK} {x y : Int32} {s : CS} : s.a ≤ (cNu K x y s).2.a := by
  unfold cNu; split
  · split
    · exact nx_ge
    · exact Nat.le_refl _
  · exact Nat.le_refl _
theorem cNm_a {K : TK} {s : CS} : (cNm K s).2.a = s.a := by
  unfold cNm; split <;> rfl
/-- stored names of a town, both sides -/
def NS (n : Nat → Int64) (u : Nat) (t : TW) : Prop := (∀ k, k < t.nP → NR (t.pn k) (n (u + k))) ∧ ∀ k, k < t.nW → NR (t.wn k) (n (u + 7 + k))
theorem ak_fP {K : TK} {b : Nat → Int32} {L u : Nat} {s : CS} {n : Nat → Int64} {t : TW} (hb : ∀ k, k < L → b8 (b k)) (h : ATk K b L s) (h2 : K.ki s.a = 2) (N : NS n u t) : fPl t (K.va s.a) = fnR n b L s.a u t.nP := fn_link N.1 (ak_nr hb h h2)
theorem ak_fW {K : TK} {b : Nat → Int32} {L u : Nat} {s : CS} {n : Nat → Int64} {t : TW} (hb : ∀ k, k < L → b8 (b k)) (h : ATk K b L s) (h2 : K.ki s.a = 2) (N : NS n u t) : fWa t (K.va s.a) = fnR n b L s.a (u + 7) t.nW := fn_link N.2 (ak_nr hb h h2)
/-- what failing leaves -/
abbrev frO (a2 a : Nat → Int32) : Prop := ∀ k, k < 1800 → a2 k = a k
abbrev frL (n2 n : Nat → Int64) : Prop := ∀ k, k < 44 → n2 k = n k
section TAT
variable {Γ : Gm} {Q : Option Value → LH → Prop} {m_at m_sort m_trayMany m_tape m_text m_opened m_eastBy m_northBy m_partBy m_wayFaults m_wayEast m_wayNorth m_olds m_farBy m_rowBy m_triedBy m_doneAt m_gotAt m_struckAt m_bestDeed m_loops m_ran m_told1 : Nat → Int32} {m_names m_trays m_misBy : Nat → Int64} {m_status m_taped m_size m_token m_from m_end m_value m_faultKind m_faultPlace m_faults m_seen m_areOdds m_depth m_counted m_wayMany m_oneOfSet m_twoOfSet m_rowMany m_drawn m_ranSteps m_isTold m_marks : Int32} {m_top m_bottom : Int64} {L : Nat} {K : TK} {s : CS}
theorem k_ahead  (hL : L ≤ 900) (hb : ∀ k, k < L → b8 (m_text k)) (T : TKs co0_ m_text L K) (ha : s.a < K.nT) (h0 : ¬ (gtF m_text L s.a).1 = 0) (hq : Q none (hM m_at m_names m_status m_top m_bottom m_sort m_trayMany m_trays m_tape m_text m_taped ((nI L)) ((gtF m_text L (cNx K s).a).1) ((nI (gtF m_text L (cNx K s).a).2.1)) ((nI (gtF m_text L (cNx K s).a).2.2.1)) ((gtF m_text L (cNx K s).a).2.2.2) m_faultKind m_faultPlace m_faults m_seen m_areOdds m_opened m_depth m_counted m_eastBy m_northBy m_partBy m_wayFaults m_wayEast m_wayNorth m_olds m_wayMany m_oneOfSet m_twoOfSet m_farBy m_rowBy m_triedBy m_rowMany m_doneAt m_gotAt m_struckAt m_bestDeed m_misBy m_drawn m_ranSteps m_loops m_ran m_told1 m_isTold m_marks)) : Call Γ M_Mo_ahead 2 0 0 [.ref 0] (hM m_at m_names m_status m_top m_bottom m_sort m_trayMany m_trays m_tape m_text m_taped ((nI L)) ((gtF m_text L s.a).1) ((nI (gtF m_text L s.a).2.1)) ((nI (gtF m_text L s.a).2.2.1)) ((gtF m_text L s.a).2.2.2) m_faultKind m_faultPlace m_faults m_seen m_areOdds m_opened m_depth m_counted m_eastBy m_northBy m_partBy m_wayFaults m_wayEast m_wayNorth m_olds m_wayMany m_oneOfSet m_twoOfSet m_farBy m_rowBy m_triedBy m_rowMany m_doneAt m_gotAt m_struckAt m_bestDeed m_misBy m_drawn m_ranSteps m_loops m_ran m_told1 m_isTold m_marks) Q := by
  have A := ATk_of (s := s) hb T ha
  have e : (cNx K s).a = s.a + 1 := (ak_nx A h0).1
  rw [e] at hq
  exact c_aheadJ hL hb (ak_nx A h0).2 hq
theorem k_wantSign {c : Int32} (hL : L ≤ 900) (hb : ∀ k, k < L → b8 (m_text k)) (T : TKs co0_ m_text L K) (ha : s.a < K.nT) (hf : m_faults = 0) (hq1 : (cSg K c s).1 = true → Q (some (.int 1)) (hM m_at m_names m_status m_top m_bottom m_sort m_trayMany m_trays m_tape m_text m_taped ((nI L)) ((gtF m_text L (cSg K c s).2.a).1) ((nI (gtF m_text L (cSg K c s).2.a).2.1)) ((nI (gtF m_text L (cSg K c s).2.a).2.2.1)) ((gtF m_text L (cSg K c s).2.a).2.2.2) m_faultKind m_faultPlace m_faults m_seen m_areOdds m_opened m_depth m_counted m_eastBy m_northBy m_partBy m_wayFaults m_wayEast m_wayNorth m_olds m_wayMany m_oneOfSet m_twoOfSet m_farBy m_rowBy m_triedBy m_rowMany m_doneAt m_gotAt m_struckAt m_bestDeed m_misBy m_drawn m_ranSteps m_loops m_ran m_told1 m_isTold m_marks)) (hq0 : ¬ (cSg K c s).1 = true → Q (some (.int 0)) (hM m_at m_names m_status m_top m_bottom m_sort m_trayMany m_trays m_tape m_text m_taped ((nI L)) ((gtF m_text L s.a).1) ((nI (gtF m_text L s.a).2.1)) ((nI (gtF m_text L s.a).2.2.1)) ((gtF m_text L s.a).2.2.2) m_faultKind (((cSg K c s).2).fp) (((cSg K c s).2).fk) m_seen m_areOdds m_opened m_depth m_counted m_eastBy m_northBy m_partBy m_wayFaults m_wayEast m_wayNorth m_olds m_wayMany m_oneOfSet m_twoOfSet m_farBy m_rowBy m_triedBy m_rowMany m_doneAt m_gotAt m_struckAt m_bestDeed m_misBy m_drawn m_ranSteps m_loops m_ran m_told1 m_isTold m_marks)) : Call Γ M_Mo_wantSign 3 0 0 [.ref 0, .int c] (hM m_at m_names m_status m_top m_bottom m_sort m_trayMany m_trays m_tape m_text m_taped ((nI L)) ((gtF m_text L s.a).1) ((nI (gtF m_text L s.a).2.1)) ((nI (gtF m_text L s.a).2.2.1)) ((gtF m_text L s.a).2.2.2) m_faultKind m_faultPlace m_faults m_seen m_areOdds m_opened m_depth m_counted m_eastBy m_northBy m_partBy m_wayFaults m_wayEast m_wayNorth m_olds m_wayMany m_oneOfSet m_twoOfSet m_farBy m_rowBy m_triedBy m_rowMany m_doneAt m_gotAt m_struckAt m_bestDeed m_misBy m_drawn m_ranSteps m_loops m_ran m_told1 m_isTold m_marks) Q := by
  have A := ATk_of (s := s) hb T ha
  refine c_Mo_wantSign hL hb hf (fun h => ?_) (fun h => ?_)
  · have e : cSg K c s = (true, cNx K s) := if_pos ((ak_sg A).mpr h)
    have e2 : (cSg K c s).2.a = s.a + 1 := by
      rw [e]; exact (ak_nx A (by rw [h.1]; decide)).1
    rw [e2] at hq1
    exact hq1 (by rw [e])
  · have e : cSg K c s = (false, cCs K s) := if_neg (fun z => h ((ak_sg A).mp z))
    have e2 : (cSg K c s).2.fk = if (gtF m_text L s.a).1 = 1 then 1 else 2 := by
      rw [e]; exact ak_cs A
    have e3 : (cSg K c s).2.fp = nI (gtF m_text L s.a).2.1 := by
      rw [e]; exact ak_st A
    rw [e2, e3] at hq0
    exact hq0 (by rw [e]; exact Bool.false_ne_true)
theorem k_number {to_ : Nat} {x y : Int32} (hL : L ≤ 900) (hb : ∀ k, k < L → b8 (m_text k)) (T : TKs co0_ m_text L K) (ha : s.a < K.nT) (hf : m_faults = 0) (hto : to_ < 2332) (hq1 : (cNu K x y s).1 = true → Q (some (.int 1)) (hM ((upd m_at to_ (cNu K x y s).2.tk)) m_names m_status m_top m_bottom m_sort m_trayMany m_trays m_tape m_text m_taped ((nI L)) ((gtF m_text L (cNu K x y s).2.a).1) ((nI (gtF m_text L (cNu K x y s).2.a).2.1)) ((nI (gtF m_text L (cNu K x y s).2.a).2.2.1)) ((gtF m_text L (cNu K x y s).2.a).2.2.2) m_faultKind m_faultPlace m_faults m_seen m_areOdds m_opened m_depth m_counted m_eastBy m_northBy m_partBy m_wayFaults m_wayEast m_wayNorth m_olds m_wayMany m_oneOfSet m_twoOfSet m_farBy m_rowBy m_triedBy m_rowMany m_doneAt m_gotAt m_struckAt m_bestDeed m_misBy m_drawn m_ranSteps m_loops m_ran m_told1 m_isTold m_marks)) (hq0 : ¬ (cNu K x y s).1 = true → Q (some (.int 0)) (hM m_at m_names m_status m_top m_bottom m_sort m_trayMany m_trays m_tape m_text m_taped ((nI L)) ((gtF m_text L s.a).1) ((nI (gtF m_text L s.a).2.1)) ((nI (gtF m_text L s.a).2.2.1)) ((gtF m_text L s.a).2.2.2) m_faultKind (((cNu K x y s).2).fp) (((cNu K x y s).2).fk) m_seen m_areOdds m_opened m_depth m_counted m_eastBy m_northBy m_partBy m_wayFaults m_wayEast m_wayNorth m_olds m_wayMany m_oneOfSet m_twoOfSet m_farBy m_rowBy m_triedBy m_rowMany m_doneAt m_gotAt m_struckAt m_bestDeed m_misBy m_drawn m_ranSteps m_loops m_ran m_told1 m_isTold m_marks)) : Call Γ M_Mo_number 3 0 0 [.ref 0, .int (nI to_), .int x, .int y] (hM m_at m_names m_status m_top m_bottom m_sort m_trayMany m_trays m_tape m_text m_taped ((nI L)) ((gtF m_text L s.a).1) ((nI (gtF m_text L s.a).2.1)) ((nI (gtF m_text L s.a).2.2.1)) ((gtF m_text L s.a).2.2.2) m_faultKind m_faultPlace m_faults m_seen m_areOdds m_opened m_depth m_counted m_eastBy m_northBy m_partBy m_wayFaults m_wayEast m_wayNorth m_olds m_wayMany m_oneOfSet m_twoOfSet m_farBy m_rowBy m_triedBy m_rowMany m_doneAt m_gotAt m_struckAt m_bestDeed m_misBy m_drawn m_ranSteps m_loops m_ran m_told1 m_isTold m_marks) Q := by
  have A := ATk_of (s := s) hb T ha
  have N := ak_nu A
  refine c_Mo_number hL hb hto hf (fun h1 h2 h3 => ?_) (fun h => ?_) (fun h1 h2 => ?_)
  · have h4 := N.1.mpr h1
    have hv := N.2 h4
    have e : cNu K x y s = (true, CS.mk (nx K.nT s.a) (cVl K s) s.na s.fk s.fp) := (if_pos h4).trans (if_pos (by rw [hv]; exact ⟨h2, h3⟩))
    have e2 : (cNu K x y s).2.a = s.a + 1 := by
      rw [e]; exact (ak_nx A (by rw [h1]; decide)).1
    have e3 : (cNu K x y s).2.tk = (gtF m_text L s.a).2.2.2 := by
      rw [e]; exact hv
    rw [e2, e3] at hq1
    exact hq1 (by rw [e])
  · have e : cNu K x y s = (false, cCs K s) := if_neg (fun z => h (N.1.mp z))
    have e2 : (cNu K x y s).2.fk = if (gtF m_text L s.a).1 = 1 then 1 else 2 := by
      rw [e]; exact ak_cs A
    have e3 : (cNu K x y s).2.fp = nI (gtF m_text L s.a).2.1 := by
      rw [e]; exact ak_st A
    rw [e2, e3] at hq0
    exact hq0 (by rw [e]; exact Bool.false_ne_true)
  · have h4 := N.1.mpr h1
    have hv := N.2 h4
    have e : cNu K x y s = (false, cFl K 4 s) := (if_pos h4).trans (if_neg (by rw [hv]; exact h2))
    have e2 : (cNu K x y s).2.fk = if (gtF m_text L s.a).1 = 1 then 1 else 4 := by
      rw [e, if_neg (by rw [h1]; decide)]; rfl
    have e3 : (cNu K x y s).2.fp = nI (gtF m_text L s.a).2.1 := by
      rw [e]; exact ak_st A
    rw [e2, e3] at hq0
    exact hq0 (by rw [e]; exact Bool.false_ne_true)
theorem k_isThere {w : Nat} (hL : L ≤ 900) (hb : ∀ k, k < L → b8 (m_text k)) (T : TKs co0_ m_text L K) (ha : s.a < K.nT) (hw : w < 24) (hq1 : cWo K s = nI w → Q (some (.int 1)) (hM m_at m_names m_status m_top m_bottom m_sort m_trayMany m_trays m_tape m_text m_taped ((nI L)) ((gtF m_text L (cNx K s).a).1) ((nI (gtF m_text L (cNx K s).a).2.1)) ((nI (gtF m_text L (cNx K s).a).2.2.1)) ((gtF m_text L (cNx K s).a).2.2.2) m_faultKind m_faultPlace m_faults m_seen m_areOdds m_opened m_depth m_counted m_eastBy m_northBy m_partBy m_wayFaults m_wayEast m_wayNorth m_olds m_wayMany m_oneOfSet m_twoOfSet m_farBy m_rowBy m_triedBy m_rowMany m_doneAt m_gotAt m_struckAt m_bestDeed m_misBy m_drawn m_ranSteps m_loops m_ran m_told1 m_isTold m_marks)) (hq0 : ¬ cWo K s = nI w → Q (some (.int 0)) (hM m_at m_names m_status m_top m_bottom m_sort m_trayMany m_trays m_tape m_text m_taped ((nI L)) ((gtF m_text L s.a).1) ((nI (gtF m_text L s.a).2.1)) ((nI (gtF m_text L s.a).2.2.1)) ((gtF m_text L s.a).2.2.2) m_faultKind m_faultPlace m_faults m_seen m_areOdds m_opened m_depth m_counted m_eastBy m_northBy m_partBy m_wayFaults m_wayEast m_wayNorth m_olds m_wayMany m_oneOfSet m_twoOfSet m_farBy m_rowBy m_triedBy m_rowMany m_doneAt m_gotAt m_struckAt m_bestDeed m_misBy m_drawn m_ranSteps m_loops m_ran m_told1 m_isTold m_marks)) : Call Γ M_Mo_isThere 7 0 0 [.ref 0, .int (nI (pi_ w))] (hM m_at m_names m_status m_top m_bottom m_sort m_trayMany m_trays m_tape m_text m_taped ((nI L)) ((gtF m_text L s.a).1) ((nI (gtF m_text L s.a).2.1)) ((nI (gtF m_text L s.a).2.2.1)) ((gtF m_text L s.a).2.2.2) m_faultKind m_faultPlace m_faults m_seen m_areOdds m_opened m_depth m_counted m_eastBy m_northBy m_partBy m_wayFaults m_wayEast m_wayNorth m_olds m_wayMany m_oneOfSet m_twoOfSet m_farBy m_rowBy m_triedBy m_rowMany m_doneAt m_gotAt m_struckAt m_bestDeed m_misBy m_drawn m_ranSteps m_loops m_ran m_told1 m_isTold m_marks) Q := by
  have A := ATk_of (s := s) hb T ha
  have hp := (pq_t w hw).1
  refine c_Mo_isThere hL hb (ak_le A) (nI_ne1 (by omega)) (fun h => ?_) (fun h => ?_)
  · have e := (ak_is A w hw).mpr h
    have e2 : (cNx K s).a = s.a + 1 := (ak_nx A (by rw [ak_w2 A hw e]; decide)).1
    rw [e2] at hq1
    exact hq1 e
  · exact hq0 (fun z => h ((ak_is A w hw).mp z))
theorem k_newName {to_ : Nat} {t : TW} (hL : L ≤ 900) (hb : ∀ k, k < L → b8 (m_text k)) (T : TKs co0_ m_text L K) (ha : s.a < K.nT) (hf : m_faults = 0) (hto : to_ < 66) (hP : m_at 1800 = nI t.nP) (hW : m_at 1801 = nI t.nW) (hP7 : t.nP ≤ 7) (hW4 : t.nW ≤ 4) (N : NS m_names 44 t) (hq1 : (tNew K t s).1 = true → ∀ y : Int64, NR (tNew K t s).2.na y → Q (some (.int 1)) (hM m_at ((vp_updL m_names to_ y)) m_status m_top m_bottom m_sort m_trayMany m_trays m_tape m_text m_taped ((nI L)) ((gtF m_text L (tNew K t s).2.a).1) ((nI (gtF m_text L (tNew K t s).2.a).2.1)) ((nI (gtF m_text L (tNew K t s).2.a).2.2.1)) ((gtF m_text L (tNew K t s).2.a).2.2.2) m_faultKind m_faultPlace m_faults m_seen m_areOdds m_opened m_depth m_counted m_eastBy m_northBy m_partBy m_wayFaults m_wayEast m_wayNorth m_olds m_wayMany m_oneOfSet m_twoOfSet m_farBy m_rowBy m_triedBy m_rowMany m_doneAt m_gotAt m_struckAt m_bestDeed m_misBy m_drawn m_ranSteps m_loops m_ran m_told1 m_isTold m_marks)) (hq0 : ¬ (tNew K t s).1 = true → Q (some (.int 0)) (hM m_at m_names m_status m_top m_bottom m_sort m_trayMany m_trays m_tape m_text m_taped ((nI L)) ((gtF m_text L s.a).1) ((nI (gtF m_text L s.a).2.1)) ((nI (gtF m_text L s.a).2.2.1)) ((gtF m_text L s.a).2.2.2) m_faultKind (((tNew K t s).2).fp) (((tNew K t s).2).fk) m_seen m_areOdds m_opened m_depth m_counted m_eastBy m_northBy m_partBy m_wayFaults m_wayEast m_wayNorth m_olds m_wayMany m_oneOfSet m_twoOfSet m_farBy m_rowBy m_triedBy m_rowMany m_doneAt m_gotAt m_struckAt m_bestDeed m_misBy m_drawn m_ranSteps m_loops m_ran m_told1 m_isTold m_marks)) : Call Γ M_Mo_newName 8 0 0 [.ref 0, .int (nI to_)] (hM m_at m_names m_status m_top m_bottom m_sort m_trayMany m_trays m_tape m_text m_taped ((nI L)) ((gtF m_text L s.a).1) ((nI (gtF m_text L s.a).2.1)) ((nI (gtF m_text L s.a).2.2.1)) ((gtF m_text L s.a).2.2.2) m_faultKind m_faultPlace m_faults m_seen m_areOdds m_opened m_depth m_counted m_eastBy m_northBy m_partBy m_wayFaults m_wayEast m_wayNorth m_olds m_wayMany m_oneOfSet m_twoOfSet m_farBy m_rowBy m_triedBy m_rowMany m_doneAt m_gotAt m_struckAt m_bestDeed m_misBy m_drawn m_ranSteps m_loops m_ran m_told1 m_isTold m_marks) Q := by
  have A := ATk_of (s := s) hb T ha
  refine c_Mo_newName (nP := t.nP) (nW := t.nW) hL hb (ak_le A) hf hto hP hW hP7 hW4 (fun h1 h2 h3 => ?_) (fun h => ?_) (fun h1 h2 => ?_)
  · have h4 := (ak_nm A).mpr h1
    have em : cNm K s = (true, CS.mk s.a s.tk (K.va s.a) s.fk s.fp) := if_pos h4
    have e : tNew K t s = (true, cNx K (cNm K s).2) := by
      unfold tNew
      rw [if_pos (by rw [em]), if_pos]
      rw [em]
      exact ⟨(ak_fP hb A h4 N).trans h2, (ak_fW hb A h4 N).trans h3⟩
    have e2 : (tNew K t s).2.a = s.a + 1 := by
      rw [e]
      show nx K.nT (cNm K s).2.a = s.a + 1
      rw [cNm_a]
      exact (ak_nx A (by rw [h1.1]; decide)).1
    have e3 : (tNew K t s).2.na = K.va s.a := by
      rw [e, em]; rfl
    rw [e2, e3] at hq1
    exact hq1 (by rw [e]) _ (ak_nr hb A h4)
  · have h4 : ¬ K.ki s.a = 2 := fun z => h ((ak_nm A).mp z)
    have em : cNm K s = (false, cCs K s) := if_neg h4
    have e : tNew K t s = (false, cCs K s) := by
      unfold tNew
      rw [if_neg (by rw [em]; exact Bool.false_ne_true), em]
    have e2 : (tNew K t s).2.fk = if (gtF m_text L s.a).1 = 1 then 1 else 2 := by
      rw [e]; exact ak_cs A
    have e3 : (tNew K t s).2.fp = nI (gtF m_text L s.a).2.1 := by
      rw [e]; exact ak_st A
    rw [e2, e3] at hq0
    exact hq0 (by rw [e]; exact Bool.false_ne_true)
  · have h4 := (ak_nm A).mpr h1
    have em : cNm K s = (true, CS.mk s.a s.tk (K.va s.a) s.fk s.fp) := if_pos h4
    have e : tNew K t s = (false, cFl K 3 (cNm K s).2) := by
      unfold tNew
      rw [if_pos (by rw [em]), if_neg]
      rw [em]
      exact fun z => h2 ⟨(ak_fP hb A h4 N).symm.trans z.1, (ak_fW hb A h4 N).symm.trans z.2⟩
    have e2 : (tNew K t s).2.fk = if (gtF m_text L s.a).1 = 1 then 1 else 3 := by
      rw [e, if_neg (by rw [h1.1]; decide)]; rfl
    have e3 : (tNew K t s).2.fp = nI (gtF m_text L s.a).2.1 := by
      rw [e]
      show K.st (cNm K s).2.a = _
      rw [cNm_a]
      exact ak_st A
    rw [e2, e3] at hq0
    exact hq0 (by rw [e]; exact Bool.false_ne_true)
theorem k_knownNW {to_ : Nat} {t : TW} (hL : L ≤ 900) (hb : ∀ k, k < L → b8 (m_text k)) (T : TKs co0_ m_text L K) (ha : s.a < K.nT) (hf : m_faults = 0) (hto : to_ < 2332) (hv : m_at 1801 = nI t.nW) (hv7 : t.nW ≤ 4) (N : NS m_names 44 t) (hq1 : K.ki s.a = 2 → ¬ fWa t (K.va s.a) = -1 → Q (some (.int 1)) (hM ((upd m_at to_ (fWa t (K.va s.a)))) m_names m_status m_top m_bottom m_sort m_trayMany m_trays m_tape m_text m_taped ((nI L)) ((gtF m_text L (cNx K s).a).1) ((nI (gtF m_text L (cNx K s).a).2.1)) ((nI (gtF m_text L (cNx K s).a).2.2.1)) ((gtF m_text L (cNx K s).a).2.2.2) m_faultKind m_faultPlace m_faults m_seen m_areOdds m_opened m_depth m_counted m_eastBy m_northBy m_partBy m_wayFaults m_wayEast m_wayNorth m_olds m_wayMany m_oneOfSet m_twoOfSet m_farBy m_rowBy m_triedBy m_rowMany m_doneAt m_gotAt m_struckAt m_bestDeed m_misBy m_drawn m_ranSteps m_loops m_ran m_told1 m_isTold m_marks)) (hq2 : ¬ K.ki s.a = 2 → Q (some (.int 0)) (hM m_at m_names m_status m_top m_bottom m_sort m_trayMany m_trays m_tape m_text m_taped ((nI L)) ((gtF m_text L s.a).1) ((nI (gtF m_text L s.a).2.1)) ((nI (gtF m_text L s.a).2.2.1)) ((gtF m_text L s.a).2.2.2) m_faultKind ((cCs K s).fp) ((cCs K s).fk) m_seen m_areOdds m_opened m_depth m_counted m_eastBy m_northBy m_partBy m_wayFaults m_wayEast m_wayNorth m_olds m_wayMany m_oneOfSet m_twoOfSet m_farBy m_rowBy m_triedBy m_rowMany m_doneAt m_gotAt m_struckAt m_bestDeed m_misBy m_drawn m_ranSteps m_loops m_ran m_told1 m_isTold m_marks)) (hq3 : K.ki s.a = 2 → fWa t (K.va s.a) = -1 → Q (some (.int 0)) (hM ((upd m_at to_ (fWa t (K.va s.a)))) m_names m_status m_top m_bottom m_sort m_trayMany m_trays m_tape m_text m_taped ((nI L)) ((gtF m_text L s.a).1) ((nI (gtF m_text L s.a).2.1)) ((nI (gtF m_text L s.a).2.2.1)) ((gtF m_text L s.a).2.2.2) m_faultKind ((cFl K 3 s).fp) ((cFl K 3 s).fk) m_seen m_areOdds m_opened m_depth m_counted m_eastBy m_northBy m_partBy m_wayFaults m_wayEast m_wayNorth m_olds m_wayMany m_oneOfSet m_twoOfSet m_farBy m_rowBy m_triedBy m_rowMany m_doneAt m_gotAt m_struckAt m_bestDeed m_misBy m_drawn m_ranSteps m_loops m_ran m_told1 m_isTold m_marks)) : Call Γ M_Mo_knownTo 8 0 0 [.ref 0, .int 1800, .int 1, .int (nI to_)] (hM m_at m_names m_status m_top m_bottom m_sort m_trayMany m_trays m_tape m_text m_taped ((nI L)) ((gtF m_text L s.a).1) ((nI (gtF m_text L s.a).2.1)) ((nI (gtF m_text L s.a).2.2.1)) ((gtF m_text L s.a).2.2.2) m_faultKind m_faultPlace m_faults m_seen m_areOdds m_opened m_depth m_counted m_eastBy m_northBy m_partBy m_wayFaults m_wayEast m_wayNorth m_olds m_wayMany m_oneOfSet m_twoOfSet m_farBy m_rowBy m_triedBy m_rowMany m_doneAt m_gotAt m_struckAt m_bestDeed m_misBy m_drawn m_ranSteps m_loops m_ran m_told1 m_isTold m_marks) Q := by
  have A := ATk_of (s := s) hb T ha
  refine c_knownNW (v := t.nW) hL hb (ak_le A) hf hto hv hv7 (fun h1 h2 => ?_) (fun h => ?_) (fun h1 h2 => ?_)
  · have h4 := (ak_nm A).mpr h1
    have e := ak_fW hb A h4 N
    have e2 : (cNx K s).a = s.a + 1 := (ak_nx A (by rw [h1.1]; decide)).1
    rw [e2, e] at hq1
    exact hq1 h4 h2
  · have e2 : (cCs K s).fk = if (gtF m_text L s.a).1 = 1 then 1 else 2 := ak_cs A
    have e3 : (cCs K s).fp = nI (gtF m_text L s.a).2.1 := ak_st A
    rw [e2, e3] at hq2
    exact hq2 (fun z => h ((ak_nm A).mp z))
  · have h4 := (ak_nm A).mpr h1
    have e := ak_fW hb A h4 N
    have e2 : (cFl K 3 s).fk = if (gtF m_text L s.a).1 = 1 then 1 else 3 := by
      rw [if_neg (by rw [h1.1]; decide)]; rfl
    have e3 : (cFl K 3 s).fp = nI (gtF m_text L s.a).2.1 := ak_st A
    rw [e2, e3, e] at hq3
    exact hq3 h4 h2
theorem k_knownNP {to_ : Nat} {t : TW} (hL : L ≤ 900) (hb : ∀ k, k < L → b8 (m_text k)) (T : TKs co0_ m_text L K) (ha : s.a < K.nT) (hf : m_faults = 0) (hto : to_ < 2332) (hv : m_at 1800 = nI t.nP) (hv7 : t.nP ≤ 7) (N : NS m_names 44 t) (hq1 : K.ki s.a = 2 → ¬ fPl t (K.va s.a) = -1 → Q (some (.int 1)) (hM ((upd m_at to_ (fPl t (K.va s.a)))) m_names m_status m_top m_bottom m_sort m_trayMany m_trays m_tape m_text m_taped ((nI L)) ((gtF m_text L (cNx K s).a).1) ((nI (gtF m_text L (cNx K s).a).2.1)) ((nI (gtF m_text L (cNx K s).a).2.2.1)) ((gtF m_text L (cNx K s).a).2.2.2) m_faultKind m_faultPlace m_faults m_seen m_areOdds m_opened m_depth m_counted m_eastBy m_northBy m_partBy m_wayFaults m_wayEast m_wayNorth m_olds m_wayMany m_oneOfSet m_twoOfSet m_farBy m_rowBy m_triedBy m_rowMany m_doneAt m_gotAt m_struckAt m_bestDeed m_misBy m_drawn m_ranSteps m_loops m_ran m_told1 m_isTold m_marks)) (hq2 : ¬ K.ki s.a = 2 → Q (some (.int 0)) (hM m_at m_names m_status m_top m_bottom m_sort m_trayMany m_trays m_tape m_text m_taped ((nI L)) ((gtF m_text L s.a).1) ((nI (gtF m_text L s.a).2.1)) ((nI (gtF m_text L s.a).2.2.1)) ((gtF m_text L s.a).2.2.2) m_faultKind ((cCs K s).fp) ((cCs K s).fk) m_seen m_areOdds m_opened m_depth m_counted m_eastBy m_northBy m_partBy m_wayFaults m_wayEast m_wayNorth m_olds m_wayMany m_oneOfSet m_twoOfSet m_farBy m_rowBy m_triedBy m_rowMany m_doneAt m_gotAt m_struckAt m_bestDeed m_misBy m_drawn m_ranSteps m_loops m_ran m_told1 m_isTold m_marks)) (hq3 : K.ki s.a = 2 → fPl t (K.va s.a) = -1 → Q (some (.int 0)) (hM ((upd m_at to_ (fPl t (K.va s.a)))) m_names m_status m_top m_bottom m_sort m_trayMany m_trays m_tape m_text m_taped ((nI L)) ((gtF m_text L s.a).1) ((nI (gtF m_text L s.a).2.1)) ((nI (gtF m_text L s.a).2.2.1)) ((gtF m_text L s.a).2.2.2) m_faultKind ((cFl K 3 s).fp) ((cFl K 3 s).fk) m_seen m_areOdds m_opened m_depth m_counted m_eastBy m_northBy m_partBy m_wayFaults m_wayEast m_wayNorth m_olds m_wayMany m_oneOfSet m_twoOfSet m_farBy m_rowBy m_triedBy m_rowMany m_doneAt m_gotAt m_struckAt m_bestDeed m_misBy m_drawn m_ranSteps m_loops m_ran m_told1 m_isTold m_marks)) : Call Γ M_Mo_knownTo 8 0 0 [.ref 0, .int 1800, .int 0, .int (nI to_)] (hM m_at m_names m_status m_top m_bottom m_sort m_trayMany m_trays m_tape m_text m_taped ((nI L)) ((gtF m_text L s.a).1) ((nI (gtF m_text L s.a).2.1)) ((nI (gtF m_text L s.a).2.2.1)) ((gtF m_text L s.a).2.2.2) m_faultKind m_faultPlace m_faults m_seen m_areOdds m_opened m_depth m_counted m_eastBy m_northBy m_partBy m_wayFaults m_wayEast m_wayNorth m_olds m_wayMany m_oneOfSet m_twoOfSet m_farBy m_rowBy m_triedBy m_rowMany m_doneAt m_gotAt m_struckAt m_bestDeed m_misBy m_drawn m_ranSteps m_loops m_ran m_told1 m_isTold m_marks) Q := by
  have A := ATk_of (s := s) hb T ha
  refine c_knownNP (v := t.nP) hL hb (ak_le A) hf hto hv hv7 (fun h1 h2 => ?_) (fun h => ?_) (fun h1 h2 => ?_)
  · have h4 := (ak_nm A).mpr h1
    have e := ak_fP hb A h4 N
    have e2 : (cNx K s).a = s.a + 1 := (ak_nx A (by rw [h1.1]; decide)).1
    rw [e2, e] at hq1
    exact hq1 h4 h2
  · have e2 : (cCs K s).fk = if (gtF m_text L s.a).1 = 1 then 1 else 2 := ak_cs A
    have e3 : (cCs K s).fp = nI (gtF m_text L s.a).2.1 := ak_st A
    rw [e2, e3] at hq2
    exact hq2 (fun z => h ((ak_nm A).mp z))
  · have h4 := (ak_nm A).mpr h1
    have e := ak_fP hb A h4 N
    have e2 : (cFl K 3 s).fk = if (gtF m_text L s.a).1 = 1 then 1 else 3 := by
      rw [if_neg (by rw [h1.1]; decide)]; rfl
    have e3 : (cFl K 3 s).fp = nI (gtF m_text L s.a).2.1 := ak_st A
    rw [e2, e3, e] at hq3
    exact hq3 h4 h2
theorem k_knownTW {to_ : Nat} {t : TW} (hL : L ≤ 900) (hb : ∀ k, k < L → b8 (m_text k)) (T : TKs co0_ m_text L K) (ha : s.a < K.nT) (hf : m_faults = 0) (hto : to_ < 2332) (hv : m_at 1 = nI t.nW) (hv7 : t.nW ≤ 4) (N : NS m_names 0 t) (hq1 : K.ki s.a = 2 → ¬ fWa t (K.va s.a) = -1 → Q (some (.int 1)) (hM ((upd m_at to_ (fWa t (K.va s.a)))) m_names m_status m_top m_bottom m_sort m_trayMany m_trays m_tape m_text m_taped ((nI L)) ((gtF m_text L (cNx K s).a).1) ((nI (gtF m_text L (cNx K s).a).2.1)) ((nI (gtF m_text L (cNx K s).a).2.2.1)) ((gtF m_text L (cNx K s).a).2.2.2) m_faultKind m_faultPlace m_faults m_seen m_areOdds m_opened m_depth m_counted m_eastBy m_northBy m_partBy m_wayFaults m_wayEast m_wayNorth m_olds m_wayMany m_oneOfSet m_twoOfSet m_farBy m_rowBy m_triedBy m_rowMany m_doneAt m_gotAt m_struckAt m_bestDeed m_misBy m_drawn m_ranSteps m_loops m_ran m_told1 m_isTold m_marks)) (hq2 : ¬ K.ki s.a = 2 → Q (some (.int 0)) (hM m_at m_names m_status m_top m_bottom m_sort m_trayMany m_trays m_tape m_text m_taped ((nI L)) ((gtF m_text L s.a).1) ((nI (gtF m_text L s.a).2.1)) ((nI (gtF m_text L s.a).2.2.1)) ((gtF m_text L s.a).2.2.2) m_faultKind ((cCs K s).fp) ((cCs K s).fk) m_seen m_areOdds m_opened m_depth m_counted m_eastBy m_northBy m_partBy m_wayFaults m_wayEast m_wayNorth m_olds m_wayMany m_oneOfSet m_twoOfSet m_farBy m_rowBy m_triedBy m_rowMany m_doneAt m_gotAt m_struckAt m_bestDeed m_misBy m_drawn m_ranSteps m_loops m_ran m_told1 m_isTold m_marks)) (hq3 : K.ki s.a = 2 → fWa t (K.va s.a) = -1 → Q (some (.int 0)) (hM ((upd m_at to_ (fWa t (K.va s.a)))) m_names m_status m_top m_bottom m_sort m_trayMany m_trays m_tape m_text m_taped ((nI L)) ((gtF m_text L s.a).1) ((nI (gtF m_text L s.a).2.1)) ((nI (gtF m_text L s.a).2.2.1)) ((gtF m_text L s.a).2.2.2) m_faultKind ((cFl K 3 s).fp) ((cFl K 3 s).fk) m_seen m_areOdds m_opened m_depth m_counted m_eastBy m_northBy m_partBy m_wayFaults m_wayEast m_wayNorth m_olds m_wayMany m_oneOfSet m_twoOfSet m_farBy m_rowBy m_triedBy m_rowMany m_doneAt m_gotAt m_struckAt m_bestDeed m_misBy m_drawn m_ranSteps m_loops m_ran m_told1 m_isTold m_marks)) : Call Γ M_Mo_knownTo 8 0 0 [.ref 0, .int 0, .int 1, .int (nI to_)] (hM m_at m_names m_status m_top m_bottom m_sort m_trayMany m_trays m_tape m_text m_taped ((nI L)) ((gtF m_text L s.a).1) ((nI (gtF m_text L s.a).2.1)) ((nI (gtF m_text L s.a).2.2.1)) ((gtF m_text L s.a).2.2.2) m_faultKind m_faultPlace m_faults m_seen m_areOdds m_opened m_depth m_counted m_eastBy m_northBy m_partBy m_wayFaults m_wayEast m_wayNorth m_olds m_wayMany m_oneOfSet m_twoOfSet m_farBy m_rowBy m_triedBy m_rowMany m_doneAt m_gotAt m_struckAt m_bestDeed m_misBy m_drawn m_ranSteps m_loops m_ran m_told1 m_isTold m_marks) Q := by
  have A := ATk_of (s := s) hb T ha
  refine c_knownTWk (v := t.nW) hL hb (ak_le A) hf hto hv hv7 (fun h1 h2 => ?_) (fun h => ?_) (fun h1 h2 => ?_)
  · have h4 := (ak_nm A).mpr h1
    have e := ak_fW hb A h4 N
    have e2 : (cNx K s).a = s.a + 1 := (ak_nx A (by rw [h1.1]; decide)).1
    rw [e2, e] at hq1
    exact hq1 h4 h2
  · have e2 : (cCs K s).fk = if (gtF m_text L s.a).1 = 1 then 1 else 2 := ak_cs A
    have e3 : (cCs K s).fp = nI (gtF m_text L s.a).2.1 := ak_st A
    rw [e2, e3] at hq2
    exact hq2 (fun z => h ((ak_nm A).mp z))
  · have h4 := (ak_nm A).mpr h1
    have e := ak_fW hb A h4 N
    have e2 : (cFl K 3 s).fk = if (gtF m_text L s.a).1 = 1 then 1 else 3 := by
      rw [if_neg (by rw [h1.1]; decide)]; rfl
    have e3 : (cFl K 3 s).fp = nI (gtF m_text L s.a).2.1 := ak_st A
    rw [e2, e3, e] at hq3
    exact hq3 h4 h2
theorem k_knownTP {to_ : Nat} {t : TW} (hL : L ≤ 900) (hb : ∀ k, k < L → b8 (m_text k)) (T : TKs co0_ m_text L K) (ha : s.a < K.nT) (hf : m_faults = 0) (hto : to_ < 2332) (hv : m_at 0 = nI t.nP) (hv7 : t.nP ≤ 7) (N : NS m_names 0 t) (hq1 : K.ki s.a = 2 → ¬ fPl t (K.va s.a) = -1 → Q (some (.int 1)) (hM ((upd m_at to_ (fPl t (K.va s.a)))) m_names m_status m_top m_bottom m_sort m_trayMany m_trays m_tape m_text m_taped ((nI L)) ((gtF m_text L (cNx K s).a).1) ((nI (gtF m_text L (cNx K s).a).2.1)) ((nI (gtF m_text L (cNx K s).a).2.2.1)) ((gtF m_text L (cNx K s).a).2.2.2) m_faultKind m_faultPlace m_faults m_seen m_areOdds m_opened m_depth m_counted m_eastBy m_northBy m_partBy m_wayFaults m_wayEast m_wayNorth m_olds m_wayMany m_oneOfSet m_twoOfSet m_farBy m_rowBy m_triedBy m_rowMany m_doneAt m_gotAt m_struckAt m_bestDeed m_misBy m_drawn m_ranSteps m_loops m_ran m_told1 m_isTold m_marks)) (hq2 : ¬ K.ki s.a = 2 → Q (some (.int 0)) (hM m_at m_names m_status m_top m_bottom m_sort m_trayMany m_trays m_tape m_text m_taped ((nI L)) ((gtF m_text L s.a).1) ((nI (gtF m_text L s.a).2.1)) ((nI (gtF m_text L s.a).2.2.1)) ((gtF m_text L s.a).2.2.2) m_faultKind ((cCs K s).fp) ((cCs K s).fk) m_seen m_areOdds m_opened m_depth m_counted m_eastBy m_northBy m_partBy m_wayFaults m_wayEast m_wayNorth m_olds m_wayMany m_oneOfSet m_twoOfSet m_farBy m_rowBy m_triedBy m_rowMany m_doneAt m_gotAt m_struckAt m_bestDeed m_misBy m_drawn m_ranSteps m_loops m_ran m_told1 m_isTold m_marks)) (hq3 : K.ki s.a = 2 → fPl t (K.va s.a) = -1 → Q (some (.int 0)) (hM ((upd m_at to_ (fPl t (K.va s.a)))) m_names m_status m_top m_bottom m_sort m_trayMany m_trays m_tape m_text m_taped ((nI L)) ((gtF m_text L s.a).1) ((nI (gtF m_text L s.a).2.1)) ((nI (gtF m_text L s.a).2.2.1)) ((gtF m_text L s.a).2.2.2) m_faultKind ((cFl K 3 s).fp) ((cFl K 3 s).fk) m_seen m_areOdds m_opened m_depth m_counted m_eastBy m_northBy m_partBy m_wayFaults m_wayEast m_wayNorth m_olds m_wayMany m_oneOfSet m_twoOfSet m_farBy m_rowBy m_triedBy m_rowMany m_doneAt m_gotAt m_struckAt m_bestDeed m_misBy m_drawn m_ranSteps m_loops m_ran m_told1 m_isTold m_marks)) : Call Γ M_Mo_knownTo 8 0 0 [.ref 0, .int 0, .int 0, .int (nI to_)] (hM m_at m_names m_status m_top m_bottom m_sort m_trayMany m_trays m_tape m_text m_taped ((nI L)) ((gtF m_text L s.a).1) ((nI (gtF m_text L s.a).2.1)) ((nI (gtF m_text L s.a).2.2.1)) ((gtF m_text L s.a).2.2.2) m_faultKind m_faultPlace m_faults m_seen m_areOdds m_opened m_depth m_counted m_eastBy m_northBy m_partBy m_wayFaults m_wayEast m_wayNorth m_olds m_wayMany m_oneOfSet m_twoOfSet m_farBy m_rowBy m_triedBy m_rowMany m_doneAt m_gotAt m_struckAt m_bestDeed m_misBy m_drawn m_ranSteps m_loops m_ran m_told1 m_isTold m_marks) Q := by
  have A := ATk_of (s := s) hb T ha
  refine c_knownTPl (v := t.nP) hL hb (ak_le A) hf hto hv hv7 (fun h1 h2 => ?_) (fun h => ?_) (fun h1 h2 => ?_)
  · have h4 := (ak_nm A).mpr h1
    have e := ak_fP hb A h4 N
    have e2 : (cNx K s).a = s.a + 1 := (ak_nx A (by rw [h1.1]; decide)).1
    rw [e2, e] at hq1
    exact hq1 h4 h2
  · have e2 : (cCs K s).fk = if (gtF m_text L s.a).1 = 1 then 1 else 2 := ak_cs A
    have e3 : (cCs K s).fp = nI (gtF m_text L s.a).2.1 := ak_st A
    rw [e2, e3] at hq2
    exact hq2 (fun z => h ((ak_nm A).mp z))
  · have h4 := (ak_nm A).mpr h1
    have e := ak_fP hb A h4 N
    have e2 : (cFl K 3 s).fk = if (gtF m_text L s.a).1 = 1 then 1 else 3 := by
      rw [if_neg (by rw [h1.1]; decide)]; rfl
    have e3 : (cFl K 3 s).fp = nI (gtF m_text L s.a).2.1 := ak_st A
    rw [e2, e3, e] at hq3
    exact hq3 h4 h2
theorem k_paced {to_ w v : Nat} (hL : L ≤ 900) (hb : ∀ k, k < L → b8 (m_text k)) (T : TKs co0_ m_text L K) (ha : s.a < K.nT) (hf : m_faults = 0) (hto : to_ < 2332) (hw : w < 24) (hv : v < 24) (hq1 : (tPa K (nI w) (nI v) s).1 = true → Q (some (.int 1)) (hM ((upd m_at to_ (tPa K (nI w) (nI v) s).2.1)) m_names m_status m_top m_bottom m_sort m_trayMany m_trays m_tape m_text m_taped ((nI L)) ((gtF m_text L (tPa K (nI w) (nI v) s).2.2.a).1) ((nI (gtF m_text L (tPa K (nI w) (nI v) s).2.2.a).2.1)) ((nI (gtF m_text L (tPa K (nI w) (nI v) s).2.2.a).2.2.1)) ((gtF m_text L (tPa K (nI w) (nI v) s).2.2.a).2.2.2) m_faultKind m_faultPlace m_faults m_seen m_areOdds m_opened m_depth m_counted m_eastBy m_northBy m_partBy m_wayFaults m_wayEast m_wayNorth m_olds m_wayMany m_oneOfSet m_twoOfSet m_farBy m_rowBy m_triedBy m_rowMany m_doneAt m_gotAt m_struckAt m_bestDeed m_misBy m_drawn m_ranSteps m_loops m_ran m_told1 m_isTold m_marks)) (hq0 : ¬ (tPa K (nI w) (nI v) s).1 = true → ∀ z1 z2 z3 z4 : Int32, Q (some (.int 0)) (hM m_at m_names m_status m_top m_bottom m_sort m_trayMany m_trays m_tape m_text m_taped ((nI L)) (z1) (z2) (z3) (z4) m_faultKind (((tPa K (nI w) (nI v) s).2.2).fp) (((tPa K (nI w) (nI v) s).2.2).fk) m_seen m_areOdds m_opened m_depth m_counted m_eastBy m_northBy m_partBy m_wayFaults m_wayEast m_wayNorth m_olds m_wayMany m_oneOfSet m_twoOfSet m_farBy m_rowBy m_triedBy m_rowMany m_doneAt m_gotAt m_struckAt m_bestDeed m_misBy m_drawn m_ranSteps m_loops m_ran m_told1 m_isTold m_marks)) : Call Γ M_Mo_paced 7 0 0 [.ref 0, .int (nI (pi_ w)), .int (nI (pi_ v)), .int (nI to_)] (hM m_at m_names m_status m_top m_bottom m_sort m_trayMany m_trays m_tape m_text m_taped ((nI L)) ((gtF m_text L s.a).1) ((nI (gtF m_text L s.a).2.1)) ((nI (gtF m_text L s.a).2.2.1)) ((gtF m_text L s.a).2.2.2) m_faultKind m_faultPlace m_faults m_seen m_areOdds m_opened m_depth m_counted m_eastBy m_northBy m_partBy m_wayFaults m_wayEast m_wayNorth m_olds m_wayMany m_oneOfSet m_twoOfSet m_farBy m_rowBy m_triedBy m_rowMany m_doneAt m_gotAt m_struckAt m_bestDeed m_misBy m_drawn m_ranSteps m_loops m_ran m_told1 m_isTold m_marks) Q := by
  have A := ATk_of (s := s) hb T ha
  have hpw := (pq_t w hw).1
  have hpv := (pq_t v hv).1
  have W := ak_is A w hw
  have V := ak_is A v hv
  have ha1 : (cNx K s).a < K.nT := cNx_lt ha
  have A1 := ATk_of (s := cNx K s) hb T ha1
  have N := ak_nu A1
  have e1 : ∀ {u : Nat}, u < 24 → cWo K s = nI u → (cNx K s).a = s.a + 1 := fun hu z => (ak_nx A (by rw [ak_w2 A hu z]; decide)).1
  have ew : (kwR m_text L s.a = nI (pi_ w) ∨ kwR m_text L s.a = nI (pi_ v)) → (cWo K s = nI w ∨ cWo K s = nI v) ∧ (cNx K s).a = s.a + 1 := by
    intro z
    rcases z with z | z
    · exact ⟨Or.inl (W.mpr z), e1 hw (W.mpr z)⟩
    · exact ⟨Or.inr (V.mpr z), e1 hv (V.mpr z)⟩
  have good : ∀ h : (cWo K s = nI w ∨ cWo K s = nI v), (gtF m_text L (cNx K s).a).1 = 3 → 0 ≤ (gtF m_text L (cNx K s).a).2.2.2 → (gtF m_text L (cNx K s).a).2.2.2 ≤ 99 → tPa K (nI w) (nI v) s = (true, (if cWo K s = nI v then -(gtF m_text L (cNx K s).a).2.2.2 else (gtF m_text L (cNx K s).a).2.2.2), (cNu K 0 99 (cNx K s)).2) ∧ (cNu K 0 99 (cNx K s)).2.a = (cNx K s).a + 1 := by
    intro h h1 h2 h3
    have h4 := N.1.mpr h1
    have hv2 := N.2 h4
    have e : cNu K 0 99 (cNx K s) = (true, CS.mk (nx K.nT (cNx K s).a) (cVl K (cNx K s)) (cNx K s).na (cNx K s).fk (cNx K s).fp) := (if_pos h4).trans (if_pos (by rw [hv2]; exact ⟨h2, h3⟩))
    have e3 : (cNu K 0 99 (cNx K s)).2.tk = (gtF m_text L (cNx K s).a).2.2.2 := by
      rw [e]; exact hv2
    have e5 : (cNu K 0 99 (cNx K s)).1 = true := by rw [e]
    refine ⟨?_, by rw [e]; exact (ak_nx A1 (by rw [h1]; decide)).1⟩
    unfold tPa
    rw [if_pos h, if_pos e5, e3]
  have bad : ∀ h : (cWo K s = nI w ∨ cWo K s = nI v), ¬ (cNu K 0 99 (cNx K s)).1 = true → tPa K (nI w) (nI v) s = (false, 0, (cNu K 0 99 (cNx K s)).2) := by
    intro h h1
    unfold tPa
    rw [if_pos h, if_neg h1]
  refine c_Mo_paced hL hb (ak_le A) hf hto (nI_ne1 (by omega)) (nI_ne1 (by omega)) (fun h h0 h1 h2 h3 => ?_) (fun h h1 h2 h3 => ?_) (fun h => ?_) (fun h h1 => ?_) (fun h h1 h2 => ?_)
  · obtain ⟨g1, g2⟩ := ew h
    rw [← g2] at h1 h2 h3 ⊢
    obtain ⟨g3, g4⟩ := good g1 h1 h2 h3
    rw [if_neg (fun z => h0 (V.mp z))] at g3
    rw [← g4]
    rw [g3] at hq1
    exact hq1 rfl
  · obtain ⟨g1, g2⟩ := ew (Or.inr h)
    rw [← g2] at h1 h2 h3 ⊢
    obtain ⟨g3, g4⟩ := good g1 h1 h2 h3
    rw [if_pos (V.mpr h)] at g3
    rw [← g4]
    rw [g3] at hq1
    exact hq1 rfl
  · have e : tPa K (nI w) (nI v) s = (false, 0, cCs K s) := if_neg (fun z => h (z.imp W.mp V.mp))
    have e2 : (tPa K (nI w) (nI v) s).2.2.fk = if (gtF m_text L s.a).1 = 1 then 1 else 2 := by
      rw [e]; exact ak_cs A
    have e3 : (tPa K (nI w) (nI v) s).2.2.fp = nI (gtF m_text L s.a).2.1 := by
      rw [e]; exact ak_st A
    rw [e2, e3] at hq0
    exact hq0 (by rw [e]; exact Bool.false_ne_true) _ _ _ _
  · obtain ⟨g1, g2⟩ := ew h
    rw [← g2] at h1 ⊢
    have e : cNu K 0 99 (cNx K s) = (false, cCs K (cNx K s)) := if_neg (fun z => h1 (N.1.mp z))
    have eb := bad g1 (by rw [e]; exact Bool.false_ne_true)
    have e2 : (tPa K (nI w) (nI v) s).2.2.fk = if (gtF m_text L (cNx K s).a).1 = 1 then 1 else 2 := by
      rw [eb, e]; exact ak_cs A1
    have e3 : (tPa K (nI w) (nI v) s).2.2.fp = nI (gtF m_text L (cNx K s).a).2.1 := by
      rw [eb, e]; exact ak_st A1
    rw [e2, e3] at hq0
    exact hq0 (by rw [eb]; exact Bool.false_ne_true) _ _ _ _
  · obtain ⟨g1, g2⟩ := ew h
    rw [← g2] at h1 h2 ⊢
    have h4 := N.1.mpr h1
    have hv2 := N.2 h4
    have e : cNu K 0 99 (cNx K s) = (false, cFl K 4 (cNx K s)) := (if_pos h4).trans (if_neg (by rw [hv2]; exact h2))
    have eb := bad g1 (by rw [e]; exact Bool.false_ne_true)
    have e2 : (tPa K (nI w) (nI v) s).2.2.fk = if (gtF m_text L (cNx K s).a).1 = 1 then 1 else 4 := by
      rw [eb, e, if_neg (by rw [h1]; decide)]; rfl
    have e3 : (tPa K (nI w) (nI v) s).2.2.fp = nI (gtF m_text L (cNx K s).a).2.1 := by
      rw [eb, e]; exact ak_st A1
    rw [e2, e3] at hq0
    exact hq0 (by rw [eb]; exact Bool.false_ne_true) _ _ _ _
end TAT
