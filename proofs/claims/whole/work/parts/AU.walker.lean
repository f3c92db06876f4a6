/-! ===== the reference: places and walkers of a town at the class's cursor ===== -/
def sh (a : Nat → Int32) : Nat → Int32 := fun k => a (1800 + k)
/-- what holds of a step that was taken -/
def cMo (s s2 : CS) : Prop := s.a ≤ s2.a ∧ s2.fk = s.fk ∧ s2.fp = s.fp
theorem cMo.rf {s : CS} : cMo s s := ⟨Nat.le_refl _, rfl, rfl⟩
theorem cMo.tr {s s2 s3 : CS} (h : cMo s s2) (k : cMo s2 s3) : cMo s s3 := ⟨Nat.le_trans h.1 k.1, k.2.1.trans h.2.1, k.2.2.trans h.2.2⟩
theorem cNx_mo {K : TK} {s : CS} : cMo s (cNx K s) := ⟨nx_ge, rfl, rfl⟩
theorem cSg_mo {K : TK} {c : Int32} {s : CS} (h : (cSg K c s).1 = true) : cMo s (cSg K c s).2 := by
  revert h
  unfold cSg
  split
  · intro _; exact cNx_mo
  · intro z; exact absurd z Bool.false_ne_true
theorem cNu_mo {K : TK} {x y : Int32} {s : CS} (h : (cNu K x y s).1 = true) : cMo s (cNu K x y s).2 := by
  revert h
  unfold cNu
  split
  · split
    · intro _; exact ⟨nx_ge, rfl, rfl⟩
    · intro z; exact absurd z Bool.false_ne_true
  · intro z; exact absurd z Bool.false_ne_true
theorem cNm_mo {K : TK} {s : CS} (h : (cNm K s).1 = true) : cMo s (cNm K s).2 := by
  revert h
  unfold cNm
  split
  · intro _; exact ⟨Nat.le_refl _, rfl, rfl⟩
  · intro z; exact absurd z Bool.false_ne_true
theorem tNew_mo {K : TK} {t : TW} {s : CS} (h : (tNew K t s).1 = true) : cMo s (tNew K t s).2 := by
  revert h
  unfold tNew
  split
  · rename_i h1
    split
    · intro _; exact (cNm_mo h1).tr cNx_mo
    · intro z; exact absurd z Bool.false_ne_true
  · intro z; exact absurd z Bool.false_ne_true
theorem tNB_mo {K : TK} {w x y d : Int32} {s : CS} (h : ¬ (tNB K w x y d s).1 = -1) : cMo s (tNB K w x y d s).2 := by
  revert h
  unfold tNB
  split
  · split
    · rename_i h2
      intro _
      exact cNx_mo.tr (cNu_mo h2)
    · intro z; exact absurd rfl z
  · intro _; exact cMo.rf
theorem tNB_in {K : TK} {w x y d : Int32} {s : CS} (h : ¬ (tNB K w x y d s).1 = -1) : (x ≤ (tNB K w x y d s).1 ∧ (tNB K w x y d s).1 ≤ y) ∨ (tNB K w x y d s).1 = d := by
  revert h
  unfold tNB
  split
  · split
    · rename_i h2
      intro _
      exact Or.inl (cNu_in h2)
    · intro z; exact absurd rfl z
  · intro _; exact Or.inr rfl
theorem i32_in {x : Int32} {m n : Nat} (hm : m < 2 ^ 31) (hn : n < 2 ^ 31) (h1 : nI m ≤ x) (h2 : x ≤ nI n) : ∃ k, m ≤ k ∧ k ≤ n ∧ x = nI k := by
  have a1 := Int32.le_iff_toInt_le.mp h1
  have a2 := Int32.le_iff_toInt_le.mp h2
  rw [nI_toInt hm] at a1
  rw [nI_toInt hn] at a2
  refine ⟨x.toInt.toNat, by omega, by omega, ?_⟩
  apply Int32.toInt_inj.mp
  rw [nI_toInt (by omega)]
  omega
theorem faO_t : ∀ u, u < 4 → ∀ l, l < 2 → ∀ s, s < 3 → tB (faO (nI u) (nI l) (nI (s + 1))) = nI u ∧ lB (faO (nI u) (nI l) (nI (s + 1))) = nI l ∧ sB (faO (nI u) (nI l) (nI (s + 1))) = nI (s + 1) ∧ inR (faO (nI u) (nI l) (nI (s + 1))) 24 := by decide +kernel
theorem tB_o {K : TK} {s : CS} (h : ¬ (tNB K 3 0 3 0 s).1 = -1) : ∃ u, u < 4 ∧ (tNB K 3 0 3 0 s).1 = nI u := by
  rcases tNB_in h with z | z
  · obtain ⟨k, h1, h2, h3⟩ := i32_in (m := 0) (n := 3) (by omega) (by omega) z.1 z.2
    exact ⟨k, by omega, h3⟩
  · exact ⟨0, by omega, z⟩
theorem sB_o {K : TK} {s : CS} (h : ¬ (tNB K 5 1 3 1 s).1 = -1) : ∃ u, u < 3 ∧ (tNB K 5 1 3 1 s).1 = nI (u + 1) := by
  rcases tNB_in h with z | z
  · obtain ⟨k, h1, h2, h3⟩ := i32_in (m := 1) (n := 3) (by omega) (by omega) z.1 z.2
    exact ⟨k - 1, by omega, by rw [h3]; congr 1; omega⟩
  · exact ⟨0, by omega, z⟩
theorem vT_W {a b : Nat → Int32} {t : TW} {n : Int64} {f : Int32} (V : vT a t) (h4 : t.nW < 4) (hf : inR f 24) (e : ∀ k, ¬ k = 1 → ¬ (10 + 3 * t.nW ≤ k ∧ k < 13 + 3 * t.nW) → b k = a k) (e1 : b 1 = nI (t.nW + 1)) (w0 : b (10 + 3 * t.nW) = tB f) (w1 : b (11 + 3 * t.nW) = lB f) (w2 : b (12 + 3 * t.nW) = sB f) : vT b (aW t n f) := by
  have hup : ∀ {x : Int32}, inR x (nI t.nW) → inR x (nI (t.nW + 1)) := fun h => inR_up h (by omega)
  refine ⟨⟨?_, e1, ?_, ?_, ?_, ?_, ?_⟩, fun k hk => ?_, fun m hm => ?_, ⟨V.ok.hP, h4, V.ok.hL, V.ok.te, V.ok.fr, V.ok.to_⟩, ⟨fun m hm => ?_, fun w hw => ?_, V.in_.2.2⟩⟩
  · rw [e _ (by omega) (by omega)]; exact V.P
  · rw [e _ (by omega) (by omega)]; exact V.L
  · rw [e _ (by omega) (by omega)]; exact V.od
  · rw [e _ (by omega) (by omega)]; exact V.sd
  · rw [e _ (by omega) (by omega)]; exact V.go
  · rw [e _ (by omega) (by omega)]; exact V.sk
  · show b (10 + 3 * k) = tB (upd t.fa t.nW f k) ∧ b (11 + 3 * k) = lB (upd t.fa t.nW f k) ∧ b (12 + 3 * k) = sB (upd t.fa t.nW f k)
    have hk2 : k < t.nW + 1 := hk
    by_cases z : k = t.nW
    · rw [z, upd_at]; exact ⟨w0, w1, w2⟩
    · rw [upd_ne z, e _ (by omega) (by omega), e _ (by omega) (by omega), e _ (by omega) (by omega)]
      exact V.wk (by omega)
  · rw [e _ (by omega) (by omega), e _ (by omega) (by omega), e _ (by omega) (by omega), e _ (by omega) (by omega), e _ (by omega) (by omega)]; exact V.leg hm
  · obtain ⟨q1, q2, q3, q4⟩ := V.in_.1 m hm
    exact ⟨hup q1, q2, q3, q4⟩
  · show inR (upd t.fa t.nW f w) 24
    have hk2 : w < t.nW + 1 := hw
    by_cases z : w = t.nW
    · rw [z, upd_at]; exact hf
    · rw [upd_ne z]; exact V.in_.2.1 w (by omega)
theorem NS_P {n : Nat → Int64} {t : TW} {y x : Int64} (N : NS n 44 t) (h7 : t.nP < 7) (h : NR x y) : NS (vp_updL n (44 + t.nP) y) 44 (aP t x) := by
  refine ⟨fun k hk => ?_, fun k hk => ?_⟩
  · show NR (vp_updL t.pn t.nP x k) (vp_updL n (44 + t.nP) y (44 + k))
    have hk2 : k < t.nP + 1 := hk
    by_cases z : k = t.nP
    · rw [z, vLq_at, vLq_at]; exact h
    · rw [vLq_ne z, vLq_ne (by omega)]; exact N.1 k (by omega)
  · show NR (t.wn k) (vp_updL n (44 + t.nP) y (44 + 7 + k))
    rw [vLq_ne (by omega)]; exact N.2 k hk
theorem NS_W {n : Nat → Int64} {t : TW} {y x : Int64} {f : Int32} (N : NS n 44 t) (hP : t.nP ≤ 7) (h : NR x y) : NS (vp_updL n (51 + t.nW) y) 44 (aW t x f) := by
  refine ⟨fun k hk => ?_, fun k hk => ?_⟩
  · show NR (t.pn k) (vp_updL n (51 + t.nW) y (44 + k))
    have hk2 : k < t.nP := hk
    rw [vLq_ne (by omega)]; exact N.1 k hk
  · show NR (vp_updL t.wn t.nW x k) (vp_updL n (51 + t.nW) y (44 + 7 + k))
    have hk2 : k < t.nW + 1 := hk
    by_cases z : k = t.nW
    · rw [z, vLq_at, show 44 + 7 + t.nW = 51 + t.nW by omega, vLq_at]; exact h
    · rw [vLq_ne z, vLq_ne (by omega)]; exact N.2 k (by omega)
theorem NS_e {n : Nat → Int64} {u : Nat} {t t2 : TW} (N : NS n u t) (h1 : t2.nP = t.nP) (h2 : t2.nW = t.nW) (h3 : t2.pn = t.pn) (h4 : t2.wn = t.wn) : NS n u t2 := by
  unfold NS
  rw [h1, h2, h3, h4]
  exact N
/-- the rest of the cells stays -/
abbrev frW (a2 a : Nat → Int32) : Prop := ∀ k, k < 1800 ∨ k = 1807 → a2 k = a k
section TAU
variable {Γ : Gm} {Q : Option Value → LH → Prop} {m_at m_sort m_trayMany m_tape m_text m_opened m_eastBy m_northBy m_partBy m_wayFaults m_wayEast m_wayNorth m_olds m_farBy m_rowBy m_triedBy m_doneAt m_gotAt m_struckAt m_bestDeed m_loops m_ran m_told1 : Nat → Int32} {m_names m_trays m_misBy : Nat → Int64} {m_status m_taped m_size m_token m_from m_end m_value m_faultKind m_faultPlace m_faults m_seen m_areOdds m_depth m_counted m_wayMany m_oneOfSet m_twoOfSet m_rowMany m_drawn m_ranSteps m_isTold m_marks : Int32} {m_top m_bottom : Int64} {L : Nat} {K : TK} {t : TW} {s : CS}
theorem k_fails {c : Int32} (hL : L ≤ 900) (hb : ∀ k, k < L → b8 (m_text k)) (T : TKs co0_ m_text L K) (ha : s.a < K.nT) (hf : m_faults = 0) (h1 : ¬ (gtF m_text L s.a).1 = 1) (hq : Q (some (.int 0)) (hM m_at m_names m_status m_top m_bottom m_sort m_trayMany m_trays m_tape m_text m_taped ((nI L)) ((gtF m_text L s.a).1) ((nI (gtF m_text L s.a).2.1)) ((nI (gtF m_text L s.a).2.2.1)) ((gtF m_text L s.a).2.2.2) m_faultKind ((K.st s.a)) (c) m_seen m_areOdds m_opened m_depth m_counted m_eastBy m_northBy m_partBy m_wayFaults m_wayEast m_wayNorth m_olds m_wayMany m_oneOfSet m_twoOfSet m_farBy m_rowBy m_triedBy m_rowMany m_doneAt m_gotAt m_struckAt m_bestDeed m_misBy m_drawn m_ranSteps m_loops m_ran m_told1 m_isTold m_marks)) : Call Γ M_Mo_fails 1 0 0 [.ref 0, .int c] (hM m_at m_names m_status m_top m_bottom m_sort m_trayMany m_trays m_tape m_text m_taped ((nI L)) ((gtF m_text L s.a).1) ((nI (gtF m_text L s.a).2.1)) ((nI (gtF m_text L s.a).2.2.1)) ((gtF m_text L s.a).2.2.2) m_faultKind m_faultPlace m_faults m_seen m_areOdds m_opened m_depth m_counted m_eastBy m_northBy m_partBy m_wayFaults m_wayEast m_wayNorth m_olds m_wayMany m_oneOfSet m_twoOfSet m_farBy m_rowBy m_triedBy m_rowMany m_doneAt m_gotAt m_struckAt m_bestDeed m_misBy m_drawn m_ranSteps m_loops m_ran m_told1 m_isTold m_marks) Q := by
  have A := ATk_of (s := s) hb T ha
  rw [ak_st A] at hq
  refine c_Mo_fails hf ?_
  rw [if_neg h1]
  exact hq
theorem k_fails2 (hL : L ≤ 900) (hb : ∀ k, k < L → b8 (m_text k)) (T : TKs co0_ m_text L K) (ha : s.a < K.nT) (hf : m_faults = 0) (hq : Q (some (.int 0)) (hM m_at m_names m_status m_top m_bottom m_sort m_trayMany m_trays m_tape m_text m_taped ((nI L)) ((gtF m_text L s.a).1) ((nI (gtF m_text L s.a).2.1)) ((nI (gtF m_text L s.a).2.2.1)) ((gtF m_text L s.a).2.2.2) m_faultKind ((K.st s.a)) ((csK (K.ki s.a))) m_seen m_areOdds m_opened m_depth m_counted m_eastBy m_northBy m_partBy m_wayFaults m_wayEast m_wayNorth m_olds m_wayMany m_oneOfSet m_twoOfSet m_farBy m_rowBy m_triedBy m_rowMany m_doneAt m_gotAt m_struckAt m_bestDeed m_misBy m_drawn m_ranSteps m_loops m_ran m_told1 m_isTold m_marks)) : Call Γ M_Mo_fails 1 0 0 [.ref 0, .int 2] (hM m_at m_names m_status m_top m_bottom m_sort m_trayMany m_trays m_tape m_text m_taped ((nI L)) ((gtF m_text L s.a).1) ((nI (gtF m_text L s.a).2.1)) ((nI (gtF m_text L s.a).2.2.1)) ((gtF m_text L s.a).2.2.2) m_faultKind m_faultPlace m_faults m_seen m_areOdds m_opened m_depth m_counted m_eastBy m_northBy m_partBy m_wayFaults m_wayEast m_wayNorth m_olds m_wayMany m_oneOfSet m_twoOfSet m_farBy m_rowBy m_triedBy m_rowMany m_doneAt m_gotAt m_struckAt m_bestDeed m_misBy m_drawn m_ranSteps m_loops m_ran m_told1 m_isTold m_marks) Q := by
  have A := ATk_of (s := s) hb T ha
  rw [ak_st A, ak_cs A] at hq
  exact c_Mo_fails hf hq
theorem k_aPlace  (hL : L ≤ 900) (hb : ∀ k, k < L → b8 (m_text k)) (T : TKs co0_ m_text L K) (ha : s.a < K.nT) (hf : m_faults = 0) (hw : cWo K s = 1) (V : vT (sh m_at) t) (N : NS m_names 44 t) (hq1 : (tPl K s t).1 = true → ∀ (a2 : Nat → Int32) (n2 : Nat → Int64), vT (sh a2) ((tPl K s t).2.2) → NS n2 44 ((tPl K s t).2.2) → frW a2 m_at → frL n2 m_names → Q (some (.int 1)) (hM (a2) (n2) m_status m_top m_bottom m_sort m_trayMany m_trays m_tape m_text m_taped ((nI L)) ((gtF m_text L ((tPl K s t).2.1).a).1) ((nI (gtF m_text L ((tPl K s t).2.1).a).2.1)) ((nI (gtF m_text L ((tPl K s t).2.1).a).2.2.1)) ((gtF m_text L ((tPl K s t).2.1).a).2.2.2) m_faultKind m_faultPlace m_faults m_seen m_areOdds m_opened m_depth m_counted m_eastBy m_northBy m_partBy m_wayFaults m_wayEast m_wayNorth m_olds m_wayMany m_oneOfSet m_twoOfSet m_farBy m_rowBy m_triedBy m_rowMany m_doneAt m_gotAt m_struckAt m_bestDeed m_misBy m_drawn m_ranSteps m_loops m_ran m_told1 m_isTold m_marks)) (hq0 : ¬ (tPl K s t).1 = true → ∀ (a2 : Nat → Int32) (n2 : Nat → Int64) (z1 z2 z3 z4 : Int32), frW a2 m_at → frL n2 m_names → Q (some (.int 0)) (hM (a2) (n2) m_status m_top m_bottom m_sort m_trayMany m_trays m_tape m_text m_taped ((nI L)) (z1) (z2) (z3) (z4) m_faultKind (((tPl K s t).2.1).fp) (((tPl K s t).2.1).fk) m_seen m_areOdds m_opened m_depth m_counted m_eastBy m_northBy m_partBy m_wayFaults m_wayEast m_wayNorth m_olds m_wayMany m_oneOfSet m_twoOfSet m_farBy m_rowBy m_triedBy m_rowMany m_doneAt m_gotAt m_struckAt m_bestDeed m_misBy m_drawn m_ranSteps m_loops m_ran m_told1 m_isTold m_marks)) : Call Γ M_Mo_aPlace 9 0 0 [.ref 0] (hM m_at m_names m_status m_top m_bottom m_sort m_trayMany m_trays m_tape m_text m_taped ((nI L)) ((gtF m_text L s.a).1) ((nI (gtF m_text L s.a).2.1)) ((nI (gtF m_text L s.a).2.2.1)) ((gtF m_text L s.a).2.2.2) m_faultKind m_faultPlace m_faults m_seen m_areOdds m_opened m_depth m_counted m_eastBy m_northBy m_partBy m_wayFaults m_wayEast m_wayNorth m_olds m_wayMany m_oneOfSet m_twoOfSet m_farBy m_rowBy m_triedBy m_rowMany m_doneAt m_gotAt m_struckAt m_bestDeed m_misBy m_drawn m_ranSteps m_loops m_ran m_told1 m_isTold m_marks) Q := by
  have A := ATk_of (s := s) hb T ha
  have g2 := ak_w2 (w := 1) A (by omega) hw
  have gx := ak_nx A (by rw [g2]; decide)
  have ex : (cNx K s).a = s.a + 1 := gx.1
  have ha1 : (cNx K s).a < K.nT := cNx_lt ha
  have A1 := ATk_of (s := cNx K s) hb T ha1
  have B1 := A1
  unfold ATk at B1
  rw [ex] at B1
  have hP7 := V.ok.hP
  have hW4 := V.ok.hW
  refine c_Mo_aPlace (nP := t.nP) (nW := t.nW) hL hb gx.2 hf V.P V.W hP7 hW4 (fun h7 h1 h2 h3 => ?_) (fun h7 => ?_) (fun h7 h1 => ?_) (fun h7 h1 h2 => ?_)
  · rw [← ex] at h1 h2 h3 ⊢
    have h4 := (ak_nm A1).mpr h1
    have em : cNm K (cNx K s) = (true, CS.mk (cNx K s).a (cNx K s).tk (K.va (cNx K s).a) (cNx K s).fk (cNx K s).fp) := if_pos h4
    have e : tNew K t (cNx K s) = (true, cNx K (cNm K (cNx K s)).2) := by
      unfold tNew
      rw [if_pos (by rw [em]), if_pos]
      rw [em]
      exact ⟨(ak_fP hb A1 h4 N).trans h2, (ak_fW hb A1 h4 N).trans h3⟩
    have e2 : (tNew K t (cNx K s)).2.a = (cNx K s).a + 1 := by
      rw [e]
      show nx K.nT (cNm K (cNx K s)).2.a = (cNx K s).a + 1
      rw [cNm_a]
      exact (ak_nx A1 (by rw [h1.1]; decide)).1
    have e3 : (tNew K t (cNx K s)).2.na = K.va (cNx K s).a := by
      rw [e, em]; rfl
    have et : tPl K s t = (true, (tNew K t (cNx K s)).2, aP t (tNew K t (cNx K s)).2.na) := (if_pos h7).trans (if_pos (by rw [e]))
    rw [et] at hq1
    have hz := hq1 rfl (plA m_at t.nP) (vp_updL m_names (44 + t.nP) (nmF m_text L (psF m_text L (cNx K s).a) (lnT m_text L (cNx K s).a))) (vT_82 (vT_se V h7) (fun j _ => ?_)) (NS_P N h7 (by rw [e3]; exact ak_nr hb A1 h4)) (fun k hk => ?_) (fun k hk => vLq_ne (by omega))
    · rw [← e2]
      exact hz
    · show plA m_at t.nP (1800 + j) = seU (sh m_at) t.nP j
      unfold plA seU
      by_cases z0 : j = 0
      · rw [z0, upd_at, upd_at]
      · rw [upd_ne z0, upd_ne (by omega)]
        by_cases zp : t.nP = 0
        · rw [if_pos zp, if_pos zp]
          by_cases z4 : j = 4
          · rw [z4, upd_at, upd_at]
          · rw [upd_ne z4, upd_ne (by omega)]; rfl
        · rw [if_neg zp, if_neg zp]; rfl
    · unfold plA
      rw [upd_ne (by omega)]
      split
      · exact upd_ne (by omega)
      · rfl
  · have et : tPl K s t = (false, cFl K 6 s, t) := if_neg h7
    rw [et, ] at hq0
    rw [if_neg (by rw [g2]; decide), ← ak_st A]
    exact hq0 Bool.false_ne_true m_at m_names _ _ _ _ (fun _ _ => rfl) (fun _ _ => rfl)
  · rw [← ex] at h1 ⊢
    have h4 : ¬ K.ki (cNx K s).a = 2 := fun z => h1 ((ak_nm A1).mp z)
    have em : cNm K (cNx K s) = (false, cCs K (cNx K s)) := if_neg h4
    have e : tNew K t (cNx K s) = (false, cCs K (cNx K s)) := by
      unfold tNew
      rw [if_neg (by rw [em]; exact Bool.false_ne_true), em]
    have et : tPl K s t = (false, (tNew K t (cNx K s)).2, t) := (if_pos h7).trans (if_neg (by rw [e]; exact Bool.false_ne_true))
    rw [et, e] at hq0
    rw [← ak_cs A1, ← ak_st A1]
    exact hq0 Bool.false_ne_true m_at m_names _ _ _ _ (fun _ _ => rfl) (fun _ _ => rfl)
  · rw [← ex] at h1 h2 ⊢
    have h4 := (ak_nm A1).mpr h1
    have em : cNm K (cNx K s) = (true, CS.mk (cNx K s).a (cNx K s).tk (K.va (cNx K s).a) (cNx K s).fk (cNx K s).fp) := if_pos h4
    have e : tNew K t (cNx K s) = (false, cFl K 3 (cNm K (cNx K s)).2) := by
      unfold tNew
      rw [if_pos (by rw [em]), if_neg]
      rw [em]
      exact fun z => h2 ⟨(ak_fP hb A1 h4 N).symm.trans z.1, (ak_fW hb A1 h4 N).symm.trans z.2⟩
    have et : tPl K s t = (false, (tNew K t (cNx K s)).2, t) := (if_pos h7).trans (if_neg (by rw [e]; exact Bool.false_ne_true))
    have e3 : (cFl K 3 (cNm K (cNx K s)).2).fp = K.st (cNx K s).a := by
      show K.st (cNm K (cNx K s)).2.a = _
      rw [cNm_a]
    rw [et, e] at hq0
    rw [if_neg (by rw [h1.1]; decide), ← ak_st A1, ← e3]
    exact hq0 Bool.false_ne_true m_at m_names _ _ _ _ (fun _ _ => rfl) (fun _ _ => rfl)
set_option maxRecDepth 100000 in
set_option maxHeartbeats 4000000 in
theorem l_aWalker_104 (hL : L ≤ 900) (hb : ∀ k, k < L → b8 (m_text k)) (T : TKs co0_ m_text L K) (ha : s.a < K.nT) (hf : m_faults = 0) (h4 : t.nW < 4) (hW : m_at 1801 = nI t.nW) (hs : m_at (1812 + 3 * t.nW) = 1) (hq1 : ¬ (tNB K 5 1 3 1 s).1 = -1 → ∀ b : Nat → Int32, (∀ k, ¬ k = 1801 → ¬ k = 1812 + 3 * t.nW → b k = m_at k) → b 1801 = nI (t.nW + 1) → b (1812 + 3 * t.nW) = (tNB K 5 1 3 1 s).1 → Q (some (.int 1)) (hM (b) m_names m_status m_top m_bottom m_sort m_trayMany m_trays m_tape m_text m_taped ((nI L)) ((gtF m_text L (tNB K 5 1 3 1 s).2.a).1) ((nI (gtF m_text L (tNB K 5 1 3 1 s).2.a).2.1)) ((nI (gtF m_text L (tNB K 5 1 3 1 s).2.a).2.2.1)) ((gtF m_text L (tNB K 5 1 3 1 s).2.a).2.2.2) m_faultKind m_faultPlace m_faults m_seen m_areOdds m_opened m_depth m_counted m_eastBy m_northBy m_partBy m_wayFaults m_wayEast m_wayNorth m_olds m_wayMany m_oneOfSet m_twoOfSet m_farBy m_rowBy m_triedBy m_rowMany m_doneAt m_gotAt m_struckAt m_bestDeed m_misBy m_drawn m_ranSteps m_loops m_ran m_told1 m_isTold m_marks)) (hq0 : (tNB K 5 1 3 1 s).1 = -1 → ∀ z1 z2 z3 z4 : Int32, Q (some (.int 0)) (hM m_at m_names m_status m_top m_bottom m_sort m_trayMany m_trays m_tape m_text m_taped ((nI L)) (z1) (z2) (z3) (z4) m_faultKind (((tNB K 5 1 3 1 s).2).fp) (((tNB K 5 1 3 1 s).2).fk) m_seen m_areOdds m_opened m_depth m_counted m_eastBy m_northBy m_partBy m_wayFaults m_wayEast m_wayNorth m_olds m_wayMany m_oneOfSet m_twoOfSet m_farBy m_rowBy m_triedBy m_rowMany m_doneAt m_gotAt m_struckAt m_bestDeed m_misBy m_drawn m_ranSteps m_loops m_ran m_told1 m_isTold m_marks)) : WP Γ M_Mo_aWalker 9 0 0 (hM m_at m_names m_status m_top m_bottom m_sort m_trayMany m_trays m_tape m_text m_taped ((nI L)) ((gtF m_text L s.a).1) ((nI (gtF m_text L s.a).2.1)) ((nI (gtF m_text L s.a).2.2.1)) ((gtF m_text L s.a).2.2.2) m_faultKind m_faultPlace m_faults m_seen m_areOdds m_opened m_depth m_counted m_eastBy m_northBy m_partBy m_wayFaults m_wayEast m_wayNorth m_olds m_wayMany m_oneOfSet m_twoOfSet m_farBy m_rowBy m_triedBy m_rowMany m_doneAt m_gotAt m_struckAt m_bestDeed m_misBy m_drawn m_ranSteps m_loops m_ran m_told1 m_isTold m_marks) 104 [some (.ref 0), some (.int (nI t.nW)), some (.int (nI (1810 + 3 * t.nW)))] [] Q := by
  refine wp_aload_n 105 d_Mo_aWalker_104 rfl rfl ?_
  refine wp_bipush 107 6 d_Mo_aWalker_105 rfl (by decide) ?_
  refine wp_V1 110 M_Mo_isThere 7 d_Mo_aWalker_107 rfl mv_Mo_isThere lk_Mo_219 rfl rfl rfl rfl rfl ?_
  refine k_isThere (w := 5) (s := s) hL hb T ha (by omega) (fun n1 => ?_) (fun n8 => ?_)
  · refine kI ?_
    refine wp_if_eq 127 113 d_Mo_aWalker_110 rfl (by decide) (fun h110 => ?_) (fun h110 => ?_)
    · exact absurd h110 (by decide)
    · refine wp_aload_n 114 d_Mo_aWalker_113 rfl rfl ?_
      refine wp_iload_n 115 d_Mo_aWalker_114 rfl rfl ?_
      refine wp_iconst 116 2 d_Mo_aWalker_115 rfl (by decide) ?_
      refine wp_iadd 117 d_Mo_aWalker_116 rfl ?_
      rw [show nI (1810 + 3 * t.nW) + 2 = nI (1812 + 3 * t.nW) from by rw [show (2 : Int32) = nI 2 from rfl, nI_add]; congr 1; omega]
      refine wp_iconst 118 1 d_Mo_aWalker_117 rfl (by decide) ?_
      refine wp_iconst 119 3 d_Mo_aWalker_118 rfl (by decide) ?_
      refine wp_V3 122 M_Mo_number 3 d_Mo_aWalker_119 rfl mv_Mo_number lk_Mo_222 rfl rfl rfl rfl rfl ?_
      refine k_number (to_ := 1812 + 3 * t.nW) (x := 1) (y := 3) (s := cNx K s) hL hb T (cNx_lt ha) hf (by omega) (fun n2 => ?_) (fun n9 => ?_)
      · refine kI ?_
        refine wp_if_ne 127 125 d_Mo_aWalker_122 rfl (by decide) (fun h122 => ?_) (fun h122 => ?_)
        · refine wp_aload_n 128 d_Mo_aWalker_127 rfl rfl ?_
          refine wp_getfield 131 12 0 d_Mo_aWalker_128 rfl fl_Mo_7 rfl rfl ?_
          refine wp_sipush 134 1801 d_Mo_aWalker_131 rfl (by decide) ?_
          refine wp_dup2 135 d_Mo_aWalker_134 rfl rfl rfl ?_
          refine wp_iaload 136 d_Mo_aWalker_135 rfl rfl (vp_in_nI (n := 1801) (N := 2332) (by omega) (by omega)) ?_
          rw [show upd m_at (1812 + 3 * t.nW) (cNu K 1 3 (cNx K s)).2.tk (1801 : Int32).toNatClampNeg = nI t.nW from (upd_ne (show ¬ 1801 = 1812 + 3 * t.nW by omega)).trans hW]
          refine wp_iconst 137 1 d_Mo_aWalker_136 rfl (by decide) ?_
          refine wp_iadd 138 d_Mo_aWalker_137 rfl ?_
          rw [nI_1]
          refine wp_iastore 139 d_Mo_aWalker_138 rfl rfl (vp_in_nI (n := 1801) (N := 2332) (by omega) (by omega)) ?_
          refine hEq (hM ((upd (upd m_at (1812 + 3 * t.nW) (cNu K 1 3 (cNx K s)).2.tk) 1801 (nI (t.nW + 1)))) m_names m_status m_top m_bottom m_sort m_trayMany m_trays m_tape m_text m_taped ((nI L)) ((gtF m_text L (cNu K 1 3 (cNx K s)).2.a).1) ((nI (gtF m_text L (cNu K 1 3 (cNx K s)).2.a).2.1)) ((nI (gtF m_text L (cNu K 1 3 (cNx K s)).2.a).2.2.1)) ((gtF m_text L (cNu K 1 3 (cNx K s)).2.a).2.2.2) m_faultKind m_faultPlace m_faults m_seen m_areOdds m_opened m_depth m_counted m_eastBy m_northBy m_partBy m_wayFaults m_wayEast m_wayNorth m_olds m_wayMany m_oneOfSet m_twoOfSet m_farBy m_rowBy m_triedBy m_rowMany m_doneAt m_gotAt m_struckAt m_bestDeed m_misBy m_drawn m_ranSteps m_loops m_ran m_told1 m_isTold m_marks) rfl ?_
          refine wp_iconst 140 1 d_Mo_aWalker_139 rfl (by decide) ?_
          refine wp_zreturn d_Mo_aWalker_140 rfl (by first | rfl | exact nbP _) ?_
          have e : tNB K 5 1 3 1 s = ((cNu K 1 3 (cNx K s)).2.tk, (cNu K 1 3 (cNx K s)).2) := (if_pos n1).trans (if_pos n2)
          rw [e] at hq1
          have hn : ¬ (cNu K 1 3 (cNx K s)).2.tk = -1 := fun z => by
            have y := (cNu_in n2).1
            rw [z] at y
            exact absurd y (by decide)
          exact hq1 hn _ (fun k k1 k2 => by rw [upd_ne k1, upd_ne k2]) upd_at (by rw [upd_ne (by omega), upd_at])
        · exact absurd h122 (by decide)
      · refine kI ?_
        refine wp_if_ne 127 125 d_Mo_aWalker_122 rfl (by decide) (fun h122 => ?_) (fun h122 => ?_)
        · exact absurd rfl h122
        · refine wp_iconst 126 0 d_Mo_aWalker_125 rfl (by decide) ?_
          refine wp_zreturn d_Mo_aWalker_126 rfl (by first | rfl | exact nbP _) ?_
          have e : tNB K 5 1 3 1 s = (-1, (cNu K 1 3 (cNx K s)).2) := (if_pos n1).trans (if_neg n9)
          rw [e] at hq0
          exact hq0 rfl _ _ _ _
  · refine kI ?_
    refine wp_if_eq 127 113 d_Mo_aWalker_110 rfl (by decide) (fun h110 => ?_) (fun h110 => ?_)
    · refine wp_aload_n 128 d_Mo_aWalker_127 rfl rfl ?_
      refine wp_getfield 131 12 0 d_Mo_aWalker_128 rfl fl_Mo_7 rfl rfl ?_
      refine wp_sipush 134 1801 d_Mo_aWalker_131 rfl (by decide) ?_
      refine wp_dup2 135 d_Mo_aWalker_134 rfl rfl rfl ?_
      refine wp_iaload 136 d_Mo_aWalker_135 rfl rfl (vp_in_nI (n := 1801) (N := 2332) (by omega) (by omega)) ?_
      rw [show m_at (1801 : Int32).toNatClampNeg = nI t.nW from hW]
      refine wp_iconst 137 1 d_Mo_aWalker_136 rfl (by decide) ?_
      refine wp_iadd 138 d_Mo_aWalker_137 rfl ?_
      rw [nI_1]
      refine wp_iastore 139 d_Mo_aWalker_138 rfl rfl (vp_in_nI (n := 1801) (N := 2332) (by omega) (by omega)) ?_
      refine hEq (hM ((upd m_at 1801 (nI (t.nW + 1)))) m_names m_status m_top m_bottom m_sort m_trayMany m_trays m_tape m_text m_taped ((nI L)) ((gtF m_text L s.a).1) ((nI (gtF m_text L s.a).2.1)) ((nI (gtF m_text L s.a).2.2.1)) ((gtF m_text L s.a).2.2.2) m_faultKind m_faultPlace m_faults m_seen m_areOdds m_opened m_depth m_counted m_eastBy m_northBy m_partBy m_wayFaults m_wayEast m_wayNorth m_olds m_wayMany m_oneOfSet m_twoOfSet m_farBy m_rowBy m_triedBy m_rowMany m_doneAt m_gotAt m_struckAt m_bestDeed m_misBy m_drawn m_ranSteps m_loops m_ran m_told1 m_isTold m_marks) rfl ?_
      refine wp_iconst 140 1 d_Mo_aWalker_139 rfl (by decide) ?_
      refine wp_zreturn d_Mo_aWalker_140 rfl (by first | rfl | exact nbP _) ?_
      have e : tNB K 5 1 3 1 s = (1, s) := if_neg n8
      rw [e] at hq1
      exact hq1 (show ¬ (1 : Int32) = -1 by decide) _ (fun k k1 k2 => by rw [upd_ne k1]) upd_at (by rw [upd_ne (by omega)]; exact hs)
    · exact absurd rfl h110
set_option maxRecDepth 100000 in
set_option maxHeartbeats 4000000 in
theorem l_aWalker_54 (hL : L ≤ 900) (hb : ∀ k, k < L → b8 (m_text k)) (T : TKs co0_ m_text L K) (ha : s.a < K.nT) (hf : m_faults = 0) (h4 : t.nW < 4) (hs : m_at (1810 + 3 * t.nW) = 0) (hq1 : ¬ (tNB K 3 0 3 0 s).1 = -1 → ∀ b : Nat → Int32, (∀ k, ¬ k = 1810 + 3 * t.nW → b k = m_at k) → b (1810 + 3 * t.nW) = (tNB K 3 0 3 0 s).1 → WP Γ M_Mo_aWalker 9 0 0 (hM (b) m_names m_status m_top m_bottom m_sort m_trayMany m_trays m_tape m_text m_taped ((nI L)) ((gtF m_text L (tNB K 3 0 3 0 s).2.a).1) ((nI (gtF m_text L (tNB K 3 0 3 0 s).2.a).2.1)) ((nI (gtF m_text L (tNB K 3 0 3 0 s).2.a).2.2.1)) ((gtF m_text L (tNB K 3 0 3 0 s).2.a).2.2.2) m_faultKind m_faultPlace m_faults m_seen m_areOdds m_opened m_depth m_counted m_eastBy m_northBy m_partBy m_wayFaults m_wayEast m_wayNorth m_olds m_wayMany m_oneOfSet m_twoOfSet m_farBy m_rowBy m_triedBy m_rowMany m_doneAt m_gotAt m_struckAt m_bestDeed m_misBy m_drawn m_ranSteps m_loops m_ran m_told1 m_isTold m_marks) 74 [some (.ref 0), some (.int (nI t.nW)), some (.int (nI (1810 + 3 * t.nW)))] [] Q) (hq0 : (tNB K 3 0 3 0 s).1 = -1 → ∀ z1 z2 z3 z4 : Int32, Q (some (.int 0)) (hM m_at m_names m_status m_top m_bottom m_sort m_trayMany m_trays m_tape m_text m_taped ((nI L)) (z1) (z2) (z3) (z4) m_faultKind (((tNB K 3 0 3 0 s).2).fp) (((tNB K 3 0 3 0 s).2).fk) m_seen m_areOdds m_opened m_depth m_counted m_eastBy m_northBy m_partBy m_wayFaults m_wayEast m_wayNorth m_olds m_wayMany m_oneOfSet m_twoOfSet m_farBy m_rowBy m_triedBy m_rowMany m_doneAt m_gotAt m_struckAt m_bestDeed m_misBy m_drawn m_ranSteps m_loops m_ran m_told1 m_isTold m_marks)) : WP Γ M_Mo_aWalker 9 0 0 (hM m_at m_names m_status m_top m_bottom m_sort m_trayMany m_trays m_tape m_text m_taped ((nI L)) ((gtF m_text L s.a).1) ((nI (gtF m_text L s.a).2.1)) ((nI (gtF m_text L s.a).2.2.1)) ((gtF m_text L s.a).2.2.2) m_faultKind m_faultPlace m_faults m_seen m_areOdds m_opened m_depth m_counted m_eastBy m_northBy m_partBy m_wayFaults m_wayEast m_wayNorth m_olds m_wayMany m_oneOfSet m_twoOfSet m_farBy m_rowBy m_triedBy m_rowMany m_doneAt m_gotAt m_struckAt m_bestDeed m_misBy m_drawn m_ranSteps m_loops m_ran m_told1 m_isTold m_marks) 54 [some (.ref 0), some (.int (nI t.nW)), some (.int (nI (1810 + 3 * t.nW)))] [] Q := by
  refine wp_aload_n 55 d_Mo_aWalker_54 rfl rfl ?_
  refine wp_iconst 56 4 d_Mo_aWalker_55 rfl (by decide) ?_
  refine wp_V1 59 M_Mo_isThere 7 d_Mo_aWalker_56 rfl mv_Mo_isThere lk_Mo_219 rfl rfl rfl rfl rfl ?_
  refine k_isThere (w := 3) (s := s) hL hb T ha (by omega) (fun n1 => ?_) (fun n8 => ?_)
  · refine kI ?_
    refine wp_if_eq 74 62 d_Mo_aWalker_59 rfl (by decide) (fun h59 => ?_) (fun h59 => ?_)
    · exact absurd h59 (by decide)
    · refine wp_aload_n 63 d_Mo_aWalker_62 rfl rfl ?_
      refine wp_iload_n 64 d_Mo_aWalker_63 rfl rfl ?_
      refine wp_iconst 65 0 d_Mo_aWalker_64 rfl (by decide) ?_
      refine wp_iconst 66 3 d_Mo_aWalker_65 rfl (by decide) ?_
      refine wp_V3 69 M_Mo_number 3 d_Mo_aWalker_66 rfl mv_Mo_number lk_Mo_222 rfl rfl rfl rfl rfl ?_
      refine k_number (to_ := 1810 + 3 * t.nW) (x := 0) (y := 3) (s := cNx K s) hL hb T (cNx_lt ha) hf (by omega) (fun n2 => ?_) (fun n9 => ?_)
      · refine kI ?_
        refine wp_if_ne 74 72 d_Mo_aWalker_69 rfl (by decide) (fun h69 => ?_) (fun h69 => ?_)
        · have e : tNB K 3 0 3 0 s = ((cNu K 0 3 (cNx K s)).2.tk, (cNu K 0 3 (cNx K s)).2) := (if_pos n1).trans (if_pos n2)
          rw [e] at hq1
          have hn : ¬ (cNu K 0 3 (cNx K s)).2.tk = -1 := fun z => by
            have y := (cNu_in n2).1
            rw [z] at y
            exact absurd y (by decide)
          exact hq1 hn _ (fun k k1 => upd_ne k1) upd_at
        · exact absurd h69 (by decide)
      · refine kI ?_
        refine wp_if_ne 74 72 d_Mo_aWalker_69 rfl (by decide) (fun h69 => ?_) (fun h69 => ?_)
        · exact absurd rfl h69
        · refine wp_iconst 73 0 d_Mo_aWalker_72 rfl (by decide) ?_
          refine wp_zreturn d_Mo_aWalker_73 rfl (by first | rfl | exact nbP _) ?_
          have e : tNB K 3 0 3 0 s = (-1, (cNu K 0 3 (cNx K s)).2) := (if_pos n1).trans (if_neg n9)
          rw [e] at hq0
          exact hq0 rfl _ _ _ _
  · refine kI ?_
    refine wp_if_eq 74 62 d_Mo_aWalker_59 rfl (by decide) (fun h59 => ?_) (fun h59 => ?_)
    · have e : tNB K 3 0 3 0 s = (0, s) := if_neg n8
      rw [e] at hq1
      exact hq1 (show ¬ (0 : Int32) = -1 by decide) _ (fun k k1 => rfl) hs
    · exact absurd rfl h59
set_option maxRecDepth 100000 in
set_option maxHeartbeats 4000000 in
theorem l_aWalker_74 (hL : L ≤ 900) (hb : ∀ k, k < L → b8 (m_text k)) (T : TKs co0_ m_text L K) (ha : s.a < K.nT) (hf : m_faults = 0) (h4 : t.nW < 4) (hq1 : cWo K s = 4 → WP Γ M_Mo_aWalker 9 0 0 (hM ((upd (upd m_at (1811 + 3 * t.nW) 1) (1812 + 3 * t.nW) 1)) m_names m_status m_top m_bottom m_sort m_trayMany m_trays m_tape m_text m_taped ((nI L)) ((gtF m_text L (cNx K s).a).1) ((nI (gtF m_text L (cNx K s).a).2.1)) ((nI (gtF m_text L (cNx K s).a).2.2.1)) ((gtF m_text L (cNx K s).a).2.2.2) m_faultKind m_faultPlace m_faults m_seen m_areOdds m_opened m_depth m_counted m_eastBy m_northBy m_partBy m_wayFaults m_wayEast m_wayNorth m_olds m_wayMany m_oneOfSet m_twoOfSet m_farBy m_rowBy m_triedBy m_rowMany m_doneAt m_gotAt m_struckAt m_bestDeed m_misBy m_drawn m_ranSteps m_loops m_ran m_told1 m_isTold m_marks) 104 [some (.ref 0), some (.int (nI t.nW)), some (.int (nI (1810 + 3 * t.nW)))] [] Q) (hq0 : ¬ cWo K s = 4 → WP Γ M_Mo_aWalker 9 0 0 (hM ((upd (upd m_at (1811 + 3 * t.nW) 0) (1812 + 3 * t.nW) 1)) m_names m_status m_top m_bottom m_sort m_trayMany m_trays m_tape m_text m_taped ((nI L)) ((gtF m_text L s.a).1) ((nI (gtF m_text L s.a).2.1)) ((nI (gtF m_text L s.a).2.2.1)) ((gtF m_text L s.a).2.2.2) m_faultKind m_faultPlace m_faults m_seen m_areOdds m_opened m_depth m_counted m_eastBy m_northBy m_partBy m_wayFaults m_wayEast m_wayNorth m_olds m_wayMany m_oneOfSet m_twoOfSet m_farBy m_rowBy m_triedBy m_rowMany m_doneAt m_gotAt m_struckAt m_bestDeed m_misBy m_drawn m_ranSteps m_loops m_ran m_told1 m_isTold m_marks) 104 [some (.ref 0), some (.int (nI t.nW)), some (.int (nI (1810 + 3 * t.nW)))] [] Q) : WP Γ M_Mo_aWalker 9 0 0 (hM m_at m_names m_status m_top m_bottom m_sort m_trayMany m_trays m_tape m_text m_taped ((nI L)) ((gtF m_text L s.a).1) ((nI (gtF m_text L s.a).2.1)) ((nI (gtF m_text L s.a).2.2.1)) ((gtF m_text L s.a).2.2.2) m_faultKind m_faultPlace m_faults m_seen m_areOdds m_opened m_depth m_counted m_eastBy m_northBy m_partBy m_wayFaults m_wayEast m_wayNorth m_olds m_wayMany m_oneOfSet m_twoOfSet m_farBy m_rowBy m_triedBy m_rowMany m_doneAt m_gotAt m_struckAt m_bestDeed m_misBy m_drawn m_ranSteps m_loops m_ran m_told1 m_isTold m_marks) 74 [some (.ref 0), some (.int (nI t.nW)), some (.int (nI (1810 + 3 * t.nW)))] [] Q := by
  refine wp_aload_n 75 d_Mo_aWalker_74 rfl rfl ?_
  refine wp_getfield 78 12 0 d_Mo_aWalker_75 rfl fl_Mo_7 rfl rfl ?_
  refine wp_iload_n 79 d_Mo_aWalker_78 rfl rfl ?_
  refine wp_iconst 80 1 d_Mo_aWalker_79 rfl (by decide) ?_
  refine wp_iadd 81 d_Mo_aWalker_80 rfl ?_
  rw [show nI (1810 + 3 * t.nW) + 1 = nI (1811 + 3 * t.nW) from by rw [nI_1]; congr 1; omega]
  refine wp_aload_n 82 d_Mo_aWalker_81 rfl rfl ?_
  refine wp_iconst 83 5 d_Mo_aWalker_82 rfl (by decide) ?_
  refine wp_V1 86 M_Mo_isThere 7 d_Mo_aWalker_83 rfl mv_Mo_isThere lk_Mo_219 rfl rfl rfl rfl rfl ?_
  refine k_isThere (w := 4) (s := s) hL hb T ha (by omega) (fun n1 => ?_) (fun n8 => ?_)
  · refine kI ?_
    refine wp_if_eq 93 89 d_Mo_aWalker_86 rfl (by decide) (fun h86 => ?_) (fun h86 => ?_)
    · exact absurd h86 (by decide)
    · refine wp_iconst 90 1 d_Mo_aWalker_89 rfl (by decide) ?_
      refine wp_goto 94 d_Mo_aWalker_90 (by decide) ?_
      refine wp_iastoreN 95 d_Mo_aWalker_94 rfl rfl rfl (by omega) ?_
      refine hEq (hM ((upd m_at (1811 + 3 * t.nW) 1)) m_names m_status m_top m_bottom m_sort m_trayMany m_trays m_tape m_text m_taped ((nI L)) ((gtF m_text L (cNx K s).a).1) ((nI (gtF m_text L (cNx K s).a).2.1)) ((nI (gtF m_text L (cNx K s).a).2.2.1)) ((gtF m_text L (cNx K s).a).2.2.2) m_faultKind m_faultPlace m_faults m_seen m_areOdds m_opened m_depth m_counted m_eastBy m_northBy m_partBy m_wayFaults m_wayEast m_wayNorth m_olds m_wayMany m_oneOfSet m_twoOfSet m_farBy m_rowBy m_triedBy m_rowMany m_doneAt m_gotAt m_struckAt m_bestDeed m_misBy m_drawn m_ranSteps m_loops m_ran m_told1 m_isTold m_marks) rfl ?_
      refine wp_aload_n 96 d_Mo_aWalker_95 rfl rfl ?_
      refine wp_getfield 99 12 0 d_Mo_aWalker_96 rfl fl_Mo_7 rfl rfl ?_
      refine wp_iload_n 100 d_Mo_aWalker_99 rfl rfl ?_
      refine wp_iconst 101 2 d_Mo_aWalker_100 rfl (by decide) ?_
      refine wp_iadd 102 d_Mo_aWalker_101 rfl ?_
      rw [show nI (1810 + 3 * t.nW) + 2 = nI (1812 + 3 * t.nW) from by rw [show (2 : Int32) = nI 2 from rfl, nI_add]; congr 1; omega]
      refine wp_iconst 103 1 d_Mo_aWalker_102 rfl (by decide) ?_
      refine wp_iastoreN 104 d_Mo_aWalker_103 rfl rfl rfl (by omega) ?_
      refine hEq (hM ((upd (upd m_at (1811 + 3 * t.nW) 1) (1812 + 3 * t.nW) 1)) m_names m_status m_top m_bottom m_sort m_trayMany m_trays m_tape m_text m_taped ((nI L)) ((gtF m_text L (cNx K s).a).1) ((nI (gtF m_text L (cNx K s).a).2.1)) ((nI (gtF m_text L (cNx K s).a).2.2.1)) ((gtF m_text L (cNx K s).a).2.2.2) m_faultKind m_faultPlace m_faults m_seen m_areOdds m_opened m_depth m_counted m_eastBy m_northBy m_partBy m_wayFaults m_wayEast m_wayNorth m_olds m_wayMany m_oneOfSet m_twoOfSet m_farBy m_rowBy m_triedBy m_rowMany m_doneAt m_gotAt m_struckAt m_bestDeed m_misBy m_drawn m_ranSteps m_loops m_ran m_told1 m_isTold m_marks) rfl ?_
      exact hq1 n1
  · refine kI ?_
    refine wp_if_eq 93 89 d_Mo_aWalker_86 rfl (by decide) (fun h86 => ?_) (fun h86 => ?_)
    · refine wp_iconst 94 0 d_Mo_aWalker_93 rfl (by decide) ?_
      refine wp_iastoreN 95 d_Mo_aWalker_94 rfl rfl rfl (by omega) ?_
      refine hEq (hM ((upd m_at (1811 + 3 * t.nW) 0)) m_names m_status m_top m_bottom m_sort m_trayMany m_trays m_tape m_text m_taped ((nI L)) ((gtF m_text L s.a).1) ((nI (gtF m_text L s.a).2.1)) ((nI (gtF m_text L s.a).2.2.1)) ((gtF m_text L s.a).2.2.2) m_faultKind m_faultPlace m_faults m_seen m_areOdds m_opened m_depth m_counted m_eastBy m_northBy m_partBy m_wayFaults m_wayEast m_wayNorth m_olds m_wayMany m_oneOfSet m_twoOfSet m_farBy m_rowBy m_triedBy m_rowMany m_doneAt m_gotAt m_struckAt m_bestDeed m_misBy m_drawn m_ranSteps m_loops m_ran m_told1 m_isTold m_marks) rfl ?_
      refine wp_aload_n 96 d_Mo_aWalker_95 rfl rfl ?_
      refine wp_getfield 99 12 0 d_Mo_aWalker_96 rfl fl_Mo_7 rfl rfl ?_
      refine wp_iload_n 100 d_Mo_aWalker_99 rfl rfl ?_
      refine wp_iconst 101 2 d_Mo_aWalker_100 rfl (by decide) ?_
      refine wp_iadd 102 d_Mo_aWalker_101 rfl ?_
      rw [show nI (1810 + 3 * t.nW) + 2 = nI (1812 + 3 * t.nW) from by rw [show (2 : Int32) = nI 2 from rfl, nI_add]; congr 1; omega]
      refine wp_iconst 103 1 d_Mo_aWalker_102 rfl (by decide) ?_
      refine wp_iastoreN 104 d_Mo_aWalker_103 rfl rfl rfl (by omega) ?_
      refine hEq (hM ((upd (upd m_at (1811 + 3 * t.nW) 0) (1812 + 3 * t.nW) 1)) m_names m_status m_top m_bottom m_sort m_trayMany m_trays m_tape m_text m_taped ((nI L)) ((gtF m_text L s.a).1) ((nI (gtF m_text L s.a).2.1)) ((nI (gtF m_text L s.a).2.2.1)) ((gtF m_text L s.a).2.2.2) m_faultKind m_faultPlace m_faults m_seen m_areOdds m_opened m_depth m_counted m_eastBy m_northBy m_partBy m_wayFaults m_wayEast m_wayNorth m_olds m_wayMany m_oneOfSet m_twoOfSet m_farBy m_rowBy m_triedBy m_rowMany m_doneAt m_gotAt m_struckAt m_bestDeed m_misBy m_drawn m_ranSteps m_loops m_ran m_told1 m_isTold m_marks) rfl ?_
      exact hq0 n8
    · exact absurd rfl h86
set_option maxRecDepth 100000 in
set_option maxHeartbeats 4000000 in
theorem k_aWalker (hL : L ≤ 900) (hb : ∀ k, k < L → b8 (m_text k)) (T : TKs co0_ m_text L K) (ha : s.a < K.nT) (hf : m_faults = 0) (hw : cWo K s = 2) (V : vT (sh m_at) t) (N : NS m_names 44 t) (hq1 : (tWk K s t).1 = true → ∀ (a2 : Nat → Int32) (n2 : Nat → Int64), vT (sh a2) ((tWk K s t).2.2) → NS n2 44 ((tWk K s t).2.2) → frW a2 m_at → frL n2 m_names → Q (some (.int 1)) (hM (a2) (n2) m_status m_top m_bottom m_sort m_trayMany m_trays m_tape m_text m_taped ((nI L)) ((gtF m_text L ((tWk K s t).2.1).a).1) ((nI (gtF m_text L ((tWk K s t).2.1).a).2.1)) ((nI (gtF m_text L ((tWk K s t).2.1).a).2.2.1)) ((gtF m_text L ((tWk K s t).2.1).a).2.2.2) m_faultKind m_faultPlace m_faults m_seen m_areOdds m_opened m_depth m_counted m_eastBy m_northBy m_partBy m_wayFaults m_wayEast m_wayNorth m_olds m_wayMany m_oneOfSet m_twoOfSet m_farBy m_rowBy m_triedBy m_rowMany m_doneAt m_gotAt m_struckAt m_bestDeed m_misBy m_drawn m_ranSteps m_loops m_ran m_told1 m_isTold m_marks)) (hq0 : ¬ (tWk K s t).1 = true → ∀ (a2 : Nat → Int32) (n2 : Nat → Int64) (z1 z2 z3 z4 : Int32), frW a2 m_at → frL n2 m_names → Q (some (.int 0)) (hM (a2) (n2) m_status m_top m_bottom m_sort m_trayMany m_trays m_tape m_text m_taped ((nI L)) (z1) (z2) (z3) (z4) m_faultKind (((tWk K s t).2.1).fp) (((tWk K s t).2.1).fk) m_seen m_areOdds m_opened m_depth m_counted m_eastBy m_northBy m_partBy m_wayFaults m_wayEast m_wayNorth m_olds m_wayMany m_oneOfSet m_twoOfSet m_farBy m_rowBy m_triedBy m_rowMany m_doneAt m_gotAt m_struckAt m_bestDeed m_misBy m_drawn m_ranSteps m_loops m_ran m_told1 m_isTold m_marks)) : Call Γ M_Mo_aWalker 9 0 0 [.ref 0] (hM m_at m_names m_status m_top m_bottom m_sort m_trayMany m_trays m_tape m_text m_taped ((nI L)) ((gtF m_text L s.a).1) ((nI (gtF m_text L s.a).2.1)) ((nI (gtF m_text L s.a).2.2.1)) ((gtF m_text L s.a).2.2.2) m_faultKind m_faultPlace m_faults m_seen m_areOdds m_opened m_depth m_counted m_eastBy m_northBy m_partBy m_wayFaults m_wayEast m_wayNorth m_olds m_wayMany m_oneOfSet m_twoOfSet m_farBy m_rowBy m_triedBy m_rowMany m_doneAt m_gotAt m_struckAt m_bestDeed m_misBy m_drawn m_ranSteps m_loops m_ran m_told1 m_isTold m_marks) Q := by
  have A := ATk_of (s := s) hb T ha
  have g2 := ak_w2 (w := 2) A (by omega) hw
  have hP7 := V.ok.hP
  have hW4 := V.ok.hW
  refine call_intro (ls := [some (.ref 0), none, none]) rfl rfl rfl ?_
  refine wp_aload_n 1 d_Mo_aWalker_0 rfl rfl ?_
  refine wp_getfield 4 12 0 d_Mo_aWalker_1 rfl fl_Mo_7 rfl rfl ?_
  refine wp_sipush 7 1801 d_Mo_aWalker_4 rfl (by decide) ?_
  refine wp_iaload 8 d_Mo_aWalker_7 rfl rfl (vp_in_nI (n := 1801) (N := 2332) (by omega) (by omega)) ?_
  rw [show m_at (1801 : Int32).toNatClampNeg = nI t.nW from V.W]
  refine wp_istore_1 9 d_Mo_aWalker_8 rfl rfl rfl ?_
  refine wp_sipush 12 1800 d_Mo_aWalker_9 rfl (by decide) ?_
  refine wp_iload_n 13 d_Mo_aWalker_12 rfl rfl ?_
  refine wp_S1 16 M_Mo_walkerRow 1 d_Mo_aWalker_13 rfl ms_Mo_walkerRow lk_Mo_216 rfl rfl ?_
  refine c_Mo_walkerRow ?_
  refine kI ?_
  refine wp_iadd 17 d_Mo_aWalker_16 rfl ?_
  rw [show (1800 : Int32) + nI (10 + 3 * t.nW) = nI (1810 + 3 * t.nW) from by rw [show (1800 : Int32) = nI 1800 from rfl, nI_add]; congr 1; omega]
  refine wp_istore_2 18 d_Mo_aWalker_17 rfl rfl rfl ?_
  refine wp_iload_n 19 d_Mo_aWalker_18 rfl rfl ?_
  refine wp_iconst 20 4 d_Mo_aWalker_19 rfl (by decide) ?_
  refine wp_icmp_ne 30 23 d_Mo_aWalker_20 rfl (by decide) (fun h20 => ?_) (fun h20 => ?_)
  · have h4 : t.nW < 4 := by
      rcases Nat.lt_or_ge t.nW 4 with z | z
      · exact z
      · exact absurd (show nI t.nW = 4 from by rw [show t.nW = 4 by omega]; rfl) h20
    refine wp_aload_n 31 d_Mo_aWalker_30 rfl rfl ?_
    refine wp_V0 34 M_Mo_ahead 2 d_Mo_aWalker_31 rfl mv_Mo_ahead lk_Mo_187 rfl rfl rfl rfl rfl ?_
    refine k_ahead (s := s) hL hb T ha (by rw [g2]; decide) ?_
    refine kV ?_
    refine wp_aload_n 35 d_Mo_aWalker_34 rfl rfl ?_
    refine wp_bipush 37 51 d_Mo_aWalker_35 rfl (by decide) ?_
    refine wp_iload_n 38 d_Mo_aWalker_37 rfl rfl ?_
    refine wp_iadd 39 d_Mo_aWalker_38 rfl ?_
    rw [show (51 : Int32) + nI t.nW = nI (51 + t.nW) from nI_add 51 _]
    refine wp_V1 42 M_Mo_newName 8 d_Mo_aWalker_39 rfl mv_Mo_newName lk_Mo_213 rfl rfl rfl rfl rfl ?_
    refine k_newName (t := t) (to_ := 51 + t.nW) (s := cNx K s) hL hb T (cNx_lt ha) hf (by omega) V.P V.W hP7 hW4 N (fun n1 y n2 => ?_) (fun n8 => ?_)
    · refine kI ?_
      refine wp_if_ne 47 45 d_Mo_aWalker_42 rfl (by decide) (fun h42 => ?_) (fun h42 => ?_)
      · refine wp_aload_n 48 d_Mo_aWalker_47 rfl rfl ?_
        refine wp_getfield 51 12 0 d_Mo_aWalker_48 rfl fl_Mo_7 rfl rfl ?_
        refine wp_iload_n 52 d_Mo_aWalker_51 rfl rfl ?_
        refine wp_iconst 53 0 d_Mo_aWalker_52 rfl (by decide) ?_
        refine wp_iastoreN 54 d_Mo_aWalker_53 rfl rfl rfl (by omega) ?_
        refine hEq (hM ((upd m_at (1810 + 3 * t.nW) 0)) ((vp_updL m_names (51 + t.nW) y)) m_status m_top m_bottom m_sort m_trayMany m_trays m_tape m_text m_taped ((nI L)) ((gtF m_text L (tNew K t (cNx K s)).2.a).1) ((nI (gtF m_text L (tNew K t (cNx K s)).2.a).2.1)) ((nI (gtF m_text L (tNew K t (cNx K s)).2.a).2.2.1)) ((gtF m_text L (tNew K t (cNx K s)).2.a).2.2.2) m_faultKind m_faultPlace m_faults m_seen m_areOdds m_opened m_depth m_counted m_eastBy m_northBy m_partBy m_wayFaults m_wayEast m_wayNorth m_olds m_wayMany m_oneOfSet m_twoOfSet m_farBy m_rowBy m_triedBy m_rowMany m_doneAt m_gotAt m_struckAt m_bestDeed m_misBy m_drawn m_ranSteps m_loops m_ran m_told1 m_isTold m_marks) rfl ?_
        have e : tWk K s t = tW2 K t (tNew K t (cNx K s)).2.na (tNew K t (cNx K s)).2 := (if_pos h4).trans (if_pos n1)
        rw [e] at hq0 hq1
        have hal := tNew_lt (t := t) (cNx_lt ha)
        generalize (tNew K t (cNx K s)).2 = s2 at hal hq0 hq1 n2 ⊢
        refine l_aWalker_54 (s := s2) (t := t) hL hb T hal hf h4 upd_at (fun n3 b b1 b2 => ?_) (fun n3 z1 z2 z3 z4 => ?_)
        · obtain ⟨u, u1, u2⟩ := tB_o n3
          have hal3 := tNB_lt (w := 3) (x := 0) (y := 3) (d := 0) hal
          have ew : tW2 K t s2.na s2 = (if cWo K (tNB K 3 0 3 0 s2).2 = 4 then tW3 K t s2.na (tNB K 3 0 3 0 s2).1 1 (cNx K (tNB K 3 0 3 0 s2).2) else tW3 K t s2.na (tNB K 3 0 3 0 s2).1 0 (tNB K 3 0 3 0 s2).2) := if_neg n3
          rw [u2] at b2 ew
          generalize (tNB K 3 0 3 0 s2).2 = s3 at hal3 ew ⊢
          have b3 : ∀ k, ¬ k = 1810 + 3 * t.nW → b k = m_at k := fun k hk => (b1 k hk).trans (upd_ne hk)
          have fin : ∀ (l : Nat) (s4 : CS), l < 2 → s4.a < K.nT → tW2 K t s2.na s2 = tW3 K t s2.na (nI u) (nI l) s4 → WP Γ M_Mo_aWalker 9 0 0 (hM ((upd (upd b (1811 + 3 * t.nW) (nI l)) (1812 + 3 * t.nW) 1)) ((vp_updL m_names (51 + t.nW) y)) m_status m_top m_bottom m_sort m_trayMany m_trays m_tape m_text m_taped ((nI L)) ((gtF m_text L s4.a).1) ((nI (gtF m_text L s4.a).2.1)) ((nI (gtF m_text L s4.a).2.2.1)) ((gtF m_text L s4.a).2.2.2) m_faultKind m_faultPlace m_faults m_seen m_areOdds m_opened m_depth m_counted m_eastBy m_northBy m_partBy m_wayFaults m_wayEast m_wayNorth m_olds m_wayMany m_oneOfSet m_twoOfSet m_farBy m_rowBy m_triedBy m_rowMany m_doneAt m_gotAt m_struckAt m_bestDeed m_misBy m_drawn m_ranSteps m_loops m_ran m_told1 m_isTold m_marks) 104 [some (.ref 0), some (.int (nI t.nW)), some (.int (nI (1810 + 3 * t.nW)))] [] Q := by
            intro l s4 hl hs4 e4
            refine l_aWalker_104 (m_at := upd (upd b (1811 + 3 * t.nW) (nI l)) (1812 + 3 * t.nW) 1) (s := s4) (t := t) hL hb T hs4 hf h4 (by rw [upd_ne (by omega), upd_ne (by omega), b3 _ (by omega)]; exact V.W) upd_at (fun n5 c c1 c2 c3 => ?_) (fun n5 z1 z2 z3 z4 => ?_)
            · obtain ⟨v, v1, v2⟩ := sB_o n5
              have e5 : tW3 K t s2.na (nI u) (nI l) s4 = (true, (tNB K 5 1 3 1 s4).2, aW t s2.na (faO (nI u) (nI l) (tNB K 5 1 3 1 s4).1)) := if_neg n5
              rw [e4, e5] at hq1
              rw [v2] at c3 hq1
              obtain ⟨f1, f2, f3, f4⟩ := faO_t u u1 l hl v v1
              have c4 : ∀ k, ¬ k = 1801 → ¬ (1810 + 3 * t.nW ≤ k ∧ k < 1813 + 3 * t.nW) → c k = m_at k := fun k k1 k2 => by rw [c1 k k1 (by omega), upd_ne (by omega), upd_ne (by omega), b3 k (by omega)]
              refine hq1 rfl c _ (vT_W V h4 f4 (fun k k1 k2 => c4 (1800 + k) (by omega) (by omega)) c2 ?_ ?_ ?_) (NS_W N hP7 n2) (fun k hk => c4 k (by omega) (by omega)) (fun k hk => vLq_ne (by omega))
              · rw [f1]
                show c (1800 + (10 + 3 * t.nW)) = _
                rw [show 1800 + (10 + 3 * t.nW) = 1810 + 3 * t.nW by omega, c1 _ (by omega) (by omega), upd_ne (by omega), upd_ne (by omega)]
                exact b2
              · rw [f2]
                show c (1800 + (11 + 3 * t.nW)) = _
                rw [show 1800 + (11 + 3 * t.nW) = 1811 + 3 * t.nW by omega, c1 _ (by omega) (by omega), upd_ne (by omega), upd_at]
              · rw [f3]
                show c (1800 + (12 + 3 * t.nW)) = _
                rw [show 1800 + (12 + 3 * t.nW) = 1812 + 3 * t.nW by omega]
                exact c3
            · have e5 : tW3 K t s2.na (nI u) (nI l) s4 = (false, (tNB K 5 1 3 1 s4).2, t) := if_pos n5
              rw [e4, e5] at hq0
              exact hq0 Bool.false_ne_true _ _ _ _ _ _ (fun k hk => by rw [upd_ne (by omega), upd_ne (by omega), b3 k (by omega)]) (fun k hk => vLq_ne (by omega))
          refine l_aWalker_74 (m_at := b) (s := s3) (t := t) hL hb T hal3 hf h4 (fun n6 => ?_) (fun n6 => ?_)
          · exact fin 1 (cNx K s3) (by omega) (cNx_lt hal3) (ew.trans (if_pos n6))
          · exact fin 0 s3 (by omega) hal3 (ew.trans (if_neg n6))
        · have e5 : tW2 K t s2.na s2 = (false, (tNB K 3 0 3 0 s2).2, t) := if_pos n3
          rw [e5] at hq0
          exact hq0 Bool.false_ne_true _ _ _ _ _ _ (fun k hk => upd_ne (by omega)) (fun k hk => vLq_ne (by omega))
      · exact absurd h42 (by decide)
    · refine kI ?_
      refine wp_if_ne 47 45 d_Mo_aWalker_42 rfl (by decide) (fun h42 => ?_) (fun h42 => ?_)
      · exact absurd rfl h42
      · refine wp_iconst 46 0 d_Mo_aWalker_45 rfl (by decide) ?_
        refine wp_zreturn d_Mo_aWalker_46 rfl (by first | rfl | exact nbP _) ?_
        have e : tWk K s t = (false, (tNew K t (cNx K s)).2, t) := (if_pos h4).trans (if_neg n8)
        rw [e] at hq0
        exact hq0 Bool.false_ne_true m_at m_names _ _ _ _ (fun _ _ => rfl) (fun _ _ => rfl)
  · refine wp_aload_n 24 d_Mo_aWalker_23 rfl rfl ?_
    refine wp_bipush 26 6 d_Mo_aWalker_24 rfl (by decide) ?_
    refine wp_V1 29 M_Mo_fails 1 d_Mo_aWalker_26 rfl mv_Mo_fails lk_Mo_193 rfl rfl rfl rfl rfl ?_
    refine k_fails (s := s) (c := 6) hL hb T ha hf (by rw [g2]; decide) ?_
    refine kI ?_
    refine wp_zreturn d_Mo_aWalker_29 rfl (by first | rfl | exact nbP _) ?_
    have h4 : ¬ t.nW < 4 := fun z => absurd (nI_ij (b := 4) h20 (by omega) (by omega)) (by omega)
    have e : tWk K s t = (false, cFl K 6 s, t) := if_neg h4
    rw [e] at hq0
    exact hq0 Bool.false_ne_true m_at m_names _ _ _ _ (fun _ _ => rfl) (fun _ _ => rfl)

end TAU
