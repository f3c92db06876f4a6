/-! ===== the reference: tests and orders of DAYS at the class's cursor ===== -/
theorem dNR_y {K : TK} {k x z : Int32} {s : CS} {y : DY} (h : (cNu K x z s).1 = true) : dNR K k x z s y = (true, (cNu K x z s).2, dAdd y k (cNu K x z s).2.tk 0) := if_pos h
theorem dNR_n {K : TK} {k x z : Int32} {s : CS} {y : DY} (h : ¬ (cNu K x z s).1 = true) : dNR K k x z s y = (false, (cNu K x z s).2, y) := if_neg h
theorem cNm_y {K : TK} {s : CS} (h2 : K.ki s.a = 2) : (cNm K s).1 = true ∧ (cNm K s).2.na = K.va s.a := by
  have em : cNm K s = (true, CS.mk s.a s.tk (K.va s.a) s.fk s.fp) := if_pos h2
  rw [em]
  exact ⟨rfl, rfl⟩
theorem cNm_n {K : TK} {s : CS} (h2 : ¬ K.ki s.a = 2) : ¬ (cNm K s).1 = true ∧ (cNm K s).2.fk = (cCs K s).fk ∧ (cNm K s).2.fp = (cCs K s).fp := by
  have em : cNm K s = (false, cCs K s) := if_neg h2
  rw [em]
  exact ⟨Bool.false_ne_true, rfl, rfl⟩
theorem cNx_a {K : TK} {s : CS} : (cNx K (cNm K s).2).a = (cNx K s).a := by
  show nx K.nT (cNm K s).2.a = nx K.nT s.a
  rw [cNm_a]
theorem dAt_y {K : TK} {t : TW} {s : CS} {y : DY} (h2 : K.ki s.a = 2) (hn : ¬ fPl t (K.va s.a) = -1) : dAt K t s y = (true, cNx K (cNm K s).2, dAdd y 8 (fPl t (K.va s.a)) 0) := by
  obtain ⟨e1, e2⟩ := cNm_y h2
  unfold dAt
  rw [if_pos e1, e2, if_neg hn]
theorem dAt_n3 {K : TK} {t : TW} {s : CS} {y : DY} (h2 : K.ki s.a = 2) (hn : fPl t (K.va s.a) = -1) : dAt K t s y = (false, cFl K 3 (cNm K s).2, y) := by
  obtain ⟨e1, e2⟩ := cNm_y h2
  unfold dAt
  rw [if_pos e1, e2, if_pos hn]
theorem dAt_n2 {K : TK} {t : TW} {s : CS} {y : DY} (h2 : ¬ K.ki s.a = 2) : dAt K t s y = (false, (cNm K s).2, y) := if_neg (cNm_n h2).1
theorem cFl_p {K : TK} {k : Int32} {s : CS} : (cFl K k (cNm K s).2).fk = k ∧ (cFl K k (cNm K s).2).fp = K.st s.a := by
  refine ⟨rfl, ?_⟩
  show K.st (cNm K s).2.a = K.st s.a
  rw [cNm_a]
theorem dTe_n {K : TK} {t : TW} {s : CS} {y : DY} (h1 : ¬ cWo K s = 17) (h2 : ¬ cWo K s = 18) (h3 : ¬ cWo K s = 19) (h4 : ¬ cWo K s = 20) : dTe K t s y = (false, cCs K s, y) := (if_neg h1).trans ((if_neg h2).trans ((if_neg h3).trans (if_neg h4)))
theorem dTe_17 {K : TK} {t : TW} {s : CS} {y : DY} (h : cWo K s = 17) : dTe K t s y = dAt K t (cNx K s) y := if_pos h
theorem dTe_18 {K : TK} {t : TW} {s : CS} {y : DY} (h : cWo K s = 18) : dTe K t s y = (true, cNx K s, dAdd y 9 0 0) := (if_neg (by rw [h]; decide)).trans (if_pos h)
theorem dTe_19 {K : TK} {t : TW} {s : CS} {y : DY} (h : cWo K s = 19) : dTe K t s y = dNR K 10 0 11 (cNx K s) y := (if_neg (by rw [h]; decide)).trans ((if_neg (by rw [h]; decide)).trans (if_pos h))
theorem dTe_20n {K : TK} {t : TW} {s : CS} {y : DY} (h : cWo K s = 20) (h2 : cCmp K (cNx K s) = -1) : dTe K t s y = (false, cCs K (cNx K s), y) := (if_neg (by rw [h]; decide)).trans ((if_neg (by rw [h]; decide)).trans ((if_neg (by rw [h]; decide)).trans ((if_pos h).trans (if_pos h2))))
theorem dTe_20 {K : TK} {t : TW} {s : CS} {y : DY} {c : Int32} (h : cWo K s = 20) (h2 : cCmp K (cNx K s) = c) (hc : ¬ c = -1) : dTe K t s y = dNR K c 0 9999 (cNx K (cNx K s)) y := by
  have e : dTe K t s y = _ := (if_neg (by rw [h]; decide)).trans ((if_neg (by rw [h]; decide)).trans ((if_neg (by rw [h]; decide)).trans (if_pos h)))
  rw [e, h2, if_neg hc]
theorem cCmp_60 {K : TK} {s : CS} (h : K.ki s.a = 5 ∧ cVl K s = 60) : cCmp K s = 11 := (if_pos h.1).trans (if_pos h.2)
theorem cCmp_61 {K : TK} {s : CS} (h : K.ki s.a = 5 ∧ cVl K s = 61) : cCmp K s = 13 := (if_pos h.1).trans ((if_neg (by rw [h.2]; decide)).trans (if_pos h.2))
theorem cCmp_62 {K : TK} {s : CS} (h : K.ki s.a = 5 ∧ cVl K s = 62) : cCmp K s = 12 := (if_pos h.1).trans ((if_neg (by rw [h.2]; decide)).trans ((if_neg (by rw [h.2]; decide)).trans (if_pos h.2)))
theorem cCmp_n {K : TK} {s : CS} (h1 : ¬ (K.ki s.a = 5 ∧ cVl K s = 60)) (h2 : ¬ (K.ki s.a = 5 ∧ cVl K s = 61)) (h3 : ¬ (K.ki s.a = 5 ∧ cVl K s = 62)) : cCmp K s = -1 := by
  unfold cCmp
  by_cases c : K.ki s.a = 5
  · rw [if_pos c, if_neg (fun z => h1 ⟨c, z⟩), if_neg (fun z => h2 ⟨c, z⟩), if_neg (fun z => h3 ⟨c, z⟩)]
  · rw [if_neg c]
theorem legK_of {x : Int32} (h1 : (0 : Int32) ≤ x) (h2 : x ≤ 11) : legK x := by
  obtain ⟨k, k1, k2, k3⟩ := i32_in (m := 0) (n := 11) (by omega) (by omega) h1 h2
  exact ⟨k, by omega, k3⟩
theorem kw_w {K : TK} {b : Nat → Int32} {L : Nat} {s : CS} (A : ATk K b L s) (w : Nat) (v : Int32) (hw : w < 24) (hv : nI (pi_ w) = v) : kwR b L s.a = v ↔ cWo K s = nI w := by
  rw [← hv]
  exact (ak_is A w hw).symm
/-- a row that begins, one that does not -/
abbrev ORW (k z : Int32) : Prop := opn k ∧ z = 0
abbrev NRW (k z : Int32) : Prop := ¬ opn k ∧ ¬ k = 7 ∧ vp_in z 60
section TB0
variable {Γ : Gm} {Q : Option Value → LH → Prop} {m_at m_sort m_trayMany m_tape m_text m_opened m_eastBy m_northBy m_partBy m_wayFaults m_wayEast m_wayNorth m_olds m_farBy m_rowBy m_triedBy m_doneAt m_gotAt m_struckAt m_bestDeed m_loops m_ran m_told1 : Nat → Int32} {m_names m_trays m_misBy : Nat → Int64} {m_status m_taped m_size m_token m_from m_end m_value m_faultKind m_faultPlace m_faults m_seen m_areOdds m_depth m_counted m_wayMany m_oneOfSet m_twoOfSet m_rowMany m_drawn m_ranSteps m_isTold m_marks : Int32} {m_top m_bottom : Int64} {L : Nat} {K : TK} {t : TW} {y : DY} {p : Nat} {s : CS}
set_option maxRecDepth 100000 in
set_option maxHeartbeats 4000000 in
theorem k_test (hL : L ≤ 900) (hb : ∀ k, k < L → b8 (m_text k)) (T : TKs co0_ m_text L K) (ha : s.a < K.nT) (hf : m_faults = 0) (V : vT m_at t) (N : NS m_names 0 t) (hp : 1800 ≤ p) (hp2 : p + 6 ≤ 2332) (z0 : ∀ j, 1 ≤ j → j < 6 → m_at (p + j) = 0) (hq1 : (dTe K t s y).1 = true → ∀ (a2 : Nat → Int32) (k f z : Int32), (∀ j, ¬ (p ≤ j ∧ j < p + 6) → a2 j = m_at j) → (dTe K t s y).2.2 = dAdd y k f z → ROW t.nW a2 p k f z → ORW k z → Q (some (.int 1)) (hM (a2) m_names m_status m_top m_bottom m_sort m_trayMany m_trays m_tape m_text m_taped ((nI L)) ((gtF m_text L (dTe K t s y).2.1.a).1) ((nI (gtF m_text L (dTe K t s y).2.1.a).2.1)) ((nI (gtF m_text L (dTe K t s y).2.1.a).2.2.1)) ((gtF m_text L (dTe K t s y).2.1.a).2.2.2) m_faultKind m_faultPlace m_faults m_seen m_areOdds m_opened m_depth m_counted m_eastBy m_northBy m_partBy m_wayFaults m_wayEast m_wayNorth m_olds m_wayMany m_oneOfSet m_twoOfSet m_farBy m_rowBy m_triedBy m_rowMany m_doneAt m_gotAt m_struckAt m_bestDeed m_misBy m_drawn m_ranSteps m_loops m_ran m_told1 m_isTold m_marks)) (hq0 : ¬ (dTe K t s y).1 = true → ∀ (a2 : Nat → Int32) (z1 z2 z3 z4 : Int32), (∀ j, ¬ (p ≤ j ∧ j < p + 6) → a2 j = m_at j) → Q (some (.int 0)) (hM (a2) m_names m_status m_top m_bottom m_sort m_trayMany m_trays m_tape m_text m_taped ((nI L)) (z1) (z2) (z3) (z4) m_faultKind (((dTe K t s y).2.1).fp) (((dTe K t s y).2.1).fk) m_seen m_areOdds m_opened m_depth m_counted m_eastBy m_northBy m_partBy m_wayFaults m_wayEast m_wayNorth m_olds m_wayMany m_oneOfSet m_twoOfSet m_farBy m_rowBy m_triedBy m_rowMany m_doneAt m_gotAt m_struckAt m_bestDeed m_misBy m_drawn m_ranSteps m_loops m_ran m_told1 m_isTold m_marks)) : Call Γ M_Mo_test 9 0 0 [.ref 0, .int (nI p)] (hM m_at m_names m_status m_top m_bottom m_sort m_trayMany m_trays m_tape m_text m_taped ((nI L)) ((gtF m_text L s.a).1) ((nI (gtF m_text L s.a).2.1)) ((nI (gtF m_text L s.a).2.2.1)) ((gtF m_text L s.a).2.2.2) m_faultKind m_faultPlace m_faults m_seen m_areOdds m_opened m_depth m_counted m_eastBy m_northBy m_partBy m_wayFaults m_wayEast m_wayNorth m_olds m_wayMany m_oneOfSet m_twoOfSet m_farBy m_rowBy m_triedBy m_rowMany m_doneAt m_gotAt m_struckAt m_bestDeed m_misBy m_drawn m_ranSteps m_loops m_ran m_told1 m_isTold m_marks) Q := by
  have A := ATk_of (s := s) hb T ha
  have A1 := ATk_of (s := cNx K s) hb T (cNx_lt ha)
  refine call_intro (ls := [some (.ref 0), some (.int (nI p)), none]) rfl rfl rfl ?_
  refine wp_aload_n 1 d_Mo_test_0 rfl rfl ?_
  refine wp_ldcS2 3 d_Mo_test_1 rfl rfl ?_
  refine wp_V1 6 M_Mo_inWords 6 d_Mo_test_3 rfl mv_Mo_inWords lk_Mo_196 rfl rfl rfl rfl rfl ?_
  refine c_inWordsJ (j := s.a) hL (ak_le A) ?_
  refine kI ?_
  refine wp_istore_2 7 d_Mo_test_6 rfl rfl rfl ?_
  refine wp_iload_n 8 d_Mo_test_7 rfl rfl ?_
  refine wp_bipush 10 20 d_Mo_test_8 rfl (by decide) ?_
  refine wp_icmp_ge 19 13 d_Mo_test_10 rfl (by decide) (fun h10 => ?_) (fun h10 => ?_)
  · have hk : ¬ kwR m_text L s.a = -1 := fun z => by rw [z] at h10; exact absurd h10 (by decide)
    have g2 := kw_2i hk
    refine wp_aload_n 20 d_Mo_test_19 rfl rfl ?_
    refine wp_getfield 23 12 0 d_Mo_test_20 rfl fl_Mo_7 rfl rfl ?_
    refine wp_iload_n 24 d_Mo_test_23 rfl rfl ?_
    refine wp_sipush 27 1600 d_Mo_test_24 rfl (by decide) ?_
    refine wp_iload_n 28 d_Mo_test_27 rfl rfl ?_
    refine wp_iadd 29 d_Mo_test_28 rfl ?_
    refine wp_iastoreN 30 d_Mo_test_29 rfl rfl rfl (by omega) ?_
    refine hEq (hM ((upd m_at p (1600 + kwR m_text L s.a))) m_names m_status m_top m_bottom m_sort m_trayMany m_trays m_tape m_text m_taped ((nI L)) ((gtF m_text L s.a).1) ((nI (gtF m_text L s.a).2.1)) ((nI (gtF m_text L s.a).2.2.1)) ((gtF m_text L s.a).2.2.2) m_faultKind m_faultPlace m_faults m_seen m_areOdds m_opened m_depth m_counted m_eastBy m_northBy m_partBy m_wayFaults m_wayEast m_wayNorth m_olds m_wayMany m_oneOfSet m_twoOfSet m_farBy m_rowBy m_triedBy m_rowMany m_doneAt m_gotAt m_struckAt m_bestDeed m_misBy m_drawn m_ranSteps m_loops m_ran m_told1 m_isTold m_marks) rfl ?_
    refine wp_aload_n 31 d_Mo_test_30 rfl rfl ?_
    refine wp_V0 34 M_Mo_ahead 2 d_Mo_test_31 rfl mv_Mo_ahead lk_Mo_187 rfl rfl rfl rfl rfl ?_
    refine k_ahead (s := s) hL hb T ha (by rw [g2]; decide) ?_
    refine kV ?_
    refine wp_iload_n 35 d_Mo_test_34 rfl rfl ?_
    by_cases h35_0 : kwR m_text L s.a = 20
    · refine wp_tabIn (off := 25) 60 20 d_Mo_test_35 h35_0 (by decide) (by decide) (by decide) (by decide) ?_
      have hc : cWo K s = 17 := (kw_w A 17 20 (by omega) rfl).mp h35_0
      refine wp_aload_n 61 d_Mo_test_60 rfl rfl ?_
      refine wp_iconst 62 0 d_Mo_test_61 rfl (by decide) ?_
      refine wp_iconst 63 0 d_Mo_test_62 rfl (by decide) ?_
      refine wp_iload_n 64 d_Mo_test_63 rfl rfl ?_
      refine wp_iconst 65 1 d_Mo_test_64 rfl (by decide) ?_
      refine wp_iadd 66 d_Mo_test_65 rfl ?_
      rw [nI_1]
      refine wp_V3 69 M_Mo_knownTo 8 d_Mo_test_66 rfl mv_Mo_knownTo lk_Mo_229 rfl rfl rfl rfl rfl ?_
      refine k_knownTP (s := cNx K s) (t := t) (to_ := p + 1) hL hb T (cNx_lt ha) hf (by omega) (by rw [upd_ne (by omega)]; exact V.P) V.ok.hP N (fun n1 n2 => ?_) (fun n8 => ?_) (fun n8 n9 => ?_)
      · refine kI ?_
        refine wp_zreturn d_Mo_test_69 rfl (by first | rfl | exact nbP _) ?_
        have e := (dTe_17 (K := K) (t := t) (s := s) (y := y) hc).trans (dAt_y n1 n2)
        rw [e] at hq1
        have ea : (cNx K (cNm K (cNx K s)).2).a = (cNx K (cNx K s)).a := cNx_a
        rw [← ea]
        exact hq1 rfl _ 8 _ 0 (fun j hj => by rw [upd_ne (by omega), upd_ne (by omega)]) rfl (Or.inr (Or.inr (Or.inr (Or.inr (Or.inr (Or.inr (Or.inr (Or.inr (Or.inl ⟨rfl, by rw [upd_ne (by omega), upd_at, h35_0]; rfl, upd_at, by rw [upd_ne (by omega), upd_ne (by omega)]; exact z0 4 (by omega) (by omega)⟩))))))))) ⟨Or.inr (Or.inl rfl), rfl⟩
      · refine kI ?_
        refine wp_zreturn d_Mo_test_69 rfl (by first | rfl | exact nbP _) ?_
        have e := (dTe_17 (K := K) (t := t) (s := s) (y := y) hc).trans (dAt_n2 n8)
        rw [e] at hq0
        obtain ⟨_, e2, e3⟩ := cNm_n (K := K) (s := cNx K s) n8
        rw [e2, e3] at hq0
        exact hq0 Bool.false_ne_true _ _ _ _ _ (fun j hj => upd_ne (by omega))
      · refine kI ?_
        refine wp_zreturn d_Mo_test_69 rfl (by first | rfl | exact nbP _) ?_
        have e := (dTe_17 (K := K) (t := t) (s := s) (y := y) hc).trans (dAt_n3 n8 n9)
        rw [e] at hq0
        obtain ⟨e2, e3⟩ := cFl_p (K := K) (k := 3) (s := cNx K s)
        rw [e2, e3] at hq0
        exact hq0 Bool.false_ne_true _ _ _ _ _ (fun j hj => by rw [upd_ne (by omega), upd_ne (by omega)])
    by_cases h35_1 : kwR m_text L s.a = 21
    · refine wp_tabIn (off := 35) 70 21 d_Mo_test_35 h35_1 (by decide) (by decide) (by decide) (by decide) ?_
      have hc : cWo K s = 18 := (kw_w A 18 21 (by omega) rfl).mp h35_1
      refine wp_iconst 71 1 d_Mo_test_70 rfl (by decide) ?_
      refine wp_zreturn d_Mo_test_71 rfl (by first | rfl | exact nbP _) ?_
      have e := dTe_18 (K := K) (t := t) (s := s) (y := y) hc
      rw [e] at hq1
      exact hq1 rfl _ 9 0 0 (fun j hj => upd_ne (by omega)) rfl (Or.inr (Or.inr (Or.inr (Or.inr (Or.inr (Or.inr (Or.inr (Or.inr (Or.inr (Or.inl ⟨rfl, by rw [upd_at, h35_1]; rfl, by rw [upd_ne (by omega)]; exact z0 4 (by omega) (by omega)⟩)))))))))) ⟨Or.inr (Or.inr (Or.inl rfl)), rfl⟩
    by_cases h35_2 : kwR m_text L s.a = 22
    · refine wp_tabIn (off := 37) 72 22 d_Mo_test_35 h35_2 (by decide) (by decide) (by decide) (by decide) ?_
      have hc : cWo K s = 19 := (kw_w A 19 22 (by omega) rfl).mp h35_2
      refine wp_aload_n 73 d_Mo_test_72 rfl rfl ?_
      refine wp_iload_n 74 d_Mo_test_73 rfl rfl ?_
      refine wp_iconst 75 1 d_Mo_test_74 rfl (by decide) ?_
      refine wp_iadd 76 d_Mo_test_75 rfl ?_
      rw [nI_1]
      refine wp_iconst 77 0 d_Mo_test_76 rfl (by decide) ?_
      refine wp_bipush 79 11 d_Mo_test_77 rfl (by decide) ?_
      refine wp_V3 82 M_Mo_number 3 d_Mo_test_79 rfl mv_Mo_number lk_Mo_222 rfl rfl rfl rfl rfl ?_
      refine k_number (s := cNx K s) (to_ := p + 1) (x := 0) (y := 11) hL hb T (cNx_lt ha) hf (by omega) (fun n1 => ?_) (fun n8 => ?_)
      · refine kI ?_
        refine wp_zreturn d_Mo_test_82 rfl (by first | rfl | exact nbP _) ?_
        have e := (dTe_19 (K := K) (t := t) (s := s) (y := y) hc).trans (dNR_y n1)
        rw [e] at hq1
        obtain ⟨v0, v1⟩ := cNu_in n1
        exact hq1 rfl _ 10 _ 0 (fun j hj => by rw [upd_ne (by omega), upd_ne (by omega)]) rfl (Or.inr (Or.inr (Or.inr (Or.inr (Or.inr (Or.inr (Or.inr (Or.inr (Or.inr (Or.inr (Or.inl ⟨rfl, by rw [upd_ne (by omega), upd_at, h35_2]; rfl, legK_of v0 v1, upd_at, by rw [upd_ne (by omega), upd_ne (by omega)]; exact z0 4 (by omega) (by omega)⟩))))))))))) ⟨Or.inr (Or.inr (Or.inr (Or.inl rfl))), rfl⟩
      · refine kI ?_
        refine wp_zreturn d_Mo_test_82 rfl (by first | rfl | exact nbP _) ?_
        have e := (dTe_19 (K := K) (t := t) (s := s) (y := y) hc).trans (dNR_n n8)
        rw [e] at hq0
        exact hq0 Bool.false_ne_true _ _ _ _ _ (fun j hj => upd_ne (by omega))
    refine wp_tabOut 83 d_Mo_test_35 (sw_outL 20 3 (by omega) (fun i hi => match i, hi with
        | 0, _ => h35_0
        | 1, _ => h35_1
        | 2, _ => h35_2
        | i + 3, hi => absurd hi (by omega))) (by decide) ?_
    have hc : cWo K s = 20 := by
      rcases ak_wo A with ⟨z1, z2⟩ | ⟨w, w1, w2, w3⟩
      · exact absurd z2 hk
      · have hp := (pq_t w w1)
        have g1 : 20 ≤ pi_ w := by
          rw [w3] at h10
          exact nI_leN (b := 20) h10 (by omega) (by omega)
        have n0 : ¬ pi_ w = 20 := fun z => h35_0 (by rw [w3, z]; rfl)
        have n1 : ¬ pi_ w = 21 := fun z => h35_1 (by rw [w3, z]; rfl)
        have n2 : ¬ pi_ w = 22 := fun z => h35_2 (by rw [w3, z]; rfl)
        have e : pi_ w = 23 := by omega
        have e2 := hp.2.2.2.1
        rw [e] at e2
        rw [w2, ← e2]
        rfl
    have hkw : kwR m_text L s.a = 23 := (kw_w A 20 23 (by omega) rfl).mpr hc
    refine wp_aload_n 84 d_Mo_test_83 rfl rfl ?_
    refine wp_bipush 86 60 d_Mo_test_84 rfl (by decide) ?_
    refine wp_V1 89 M_Mo_isSign 1 d_Mo_test_86 rfl mv_Mo_isSign lk_Mo_190 rfl rfl rfl rfl rfl ?_
    refine c_Mo_isSign ?_
    refine kI ?_
    (first | refine wp_ifP_ne 116 92 d_Mo_test_89 rfl (by decide) (fun h89 => ?_) (fun h89 => ?_) | refine wp_if_ne 116 92 d_Mo_test_89 rfl (by decide) (fun h89 => ?_) (fun h89 => ?_))
    · have gs : ¬ (gtF m_text L (cNx K s).a).1 = 0 := by rw [h89.1]; decide
      refine wp_aload_n 117 d_Mo_test_116 rfl rfl ?_
      refine wp_getfield 120 12 0 d_Mo_test_117 rfl fl_Mo_7 rfl rfl ?_
      refine wp_iload_n 121 d_Mo_test_120 rfl rfl ?_
      refine wp_iconst 122 5 d_Mo_test_121 rfl (by decide) ?_
      refine wp_iadd 123 d_Mo_test_122 rfl ?_
      rw [show nI p + 5 = nI (p + 5) from nI_add p 5]
      refine wp_aload_n 124 d_Mo_test_123 rfl rfl ?_
      refine wp_getfield 127 12 15 d_Mo_test_124 rfl fl_Mo_153 rfl rfl ?_
      refine wp_iastoreN 128 d_Mo_test_127 rfl rfl rfl (by omega) ?_
      refine hEq (hM ((upd (upd m_at p (1600 + kwR m_text L s.a)) (p + 5) (gtF m_text L (cNx K s).a).2.2.2)) m_names m_status m_top m_bottom m_sort m_trayMany m_trays m_tape m_text m_taped ((nI L)) ((gtF m_text L (cNx K s).a).1) ((nI (gtF m_text L (cNx K s).a).2.1)) ((nI (gtF m_text L (cNx K s).a).2.2.1)) ((gtF m_text L (cNx K s).a).2.2.2) m_faultKind m_faultPlace m_faults m_seen m_areOdds m_opened m_depth m_counted m_eastBy m_northBy m_partBy m_wayFaults m_wayEast m_wayNorth m_olds m_wayMany m_oneOfSet m_twoOfSet m_farBy m_rowBy m_triedBy m_rowMany m_doneAt m_gotAt m_struckAt m_bestDeed m_misBy m_drawn m_ranSteps m_loops m_ran m_told1 m_isTold m_marks) rfl ?_
      refine wp_aload_n 129 d_Mo_test_128 rfl rfl ?_
      refine wp_V0 132 M_Mo_ahead 2 d_Mo_test_129 rfl mv_Mo_ahead lk_Mo_187 rfl rfl rfl rfl rfl ?_
      refine k_ahead (s := cNx K s) hL hb T (cNx_lt ha) gs ?_
      refine kV ?_
      refine wp_aload_n 133 d_Mo_test_132 rfl rfl ?_
      refine wp_iload_n 134 d_Mo_test_133 rfl rfl ?_
      refine wp_iconst 135 2 d_Mo_test_134 rfl (by decide) ?_
      refine wp_iadd 136 d_Mo_test_135 rfl ?_
      rw [show nI p + 2 = nI (p + 2) from nI_add p 2]
      refine wp_iconst 137 0 d_Mo_test_136 rfl (by decide) ?_
      refine wp_sipush 140 9999 d_Mo_test_137 rfl (by decide) ?_
      refine wp_V3 143 M_Mo_number 3 d_Mo_test_140 rfl mv_Mo_number lk_Mo_222 rfl rfl rfl rfl rfl ?_
      refine k_number (s := cNx K (cNx K s)) (to_ := p + 2) (x := 0) (y := 9999) hL hb T (cNx_lt (cNx_lt ha)) hf (by omega) (fun n1 => ?_) (fun n8 => ?_)
      · refine kI ?_
        refine wp_zreturn d_Mo_test_143 rfl (by first | rfl | exact nbP _) ?_
        have e := (dTe_20 (K := K) (t := t) (s := s) (y := y) (c := 11) hc (cCmp_60 ((ak_sg A1).mpr h89)) (by decide)).trans (dNR_y n1)
        rw [e] at hq1
        exact hq1 rfl _ 11 _ 0 (fun j hj => by rw [upd_ne (by omega), upd_ne (by omega), upd_ne (by omega)]) rfl (Or.inr (Or.inr (Or.inr (Or.inr (Or.inr (Or.inr (Or.inr (Or.inr (Or.inr (Or.inr (Or.inr (Or.inl ⟨rfl, by rw [upd_ne (by omega), upd_ne (by omega), upd_at, hkw]; rfl, upd_at, by rw [upd_ne (by omega), upd_at]; exact h89.2, by rw [upd_ne (by omega), upd_ne (by omega), upd_ne (by omega)]; exact z0 4 (by omega) (by omega)⟩)))))))))))) ⟨Or.inr (Or.inr (Or.inr (Or.inr (Or.inl rfl)))), rfl⟩
      · refine kI ?_
        refine wp_zreturn d_Mo_test_143 rfl (by first | rfl | exact nbP _) ?_
        have e := (dTe_20 (K := K) (t := t) (s := s) (y := y) (c := 11) hc (cCmp_60 ((ak_sg A1).mpr h89)) (by decide)).trans (dNR_n n8)
        rw [e] at hq0
        exact hq0 Bool.false_ne_true _ _ _ _ _ (fun j hj => by rw [upd_ne (by omega), upd_ne (by omega)])
    · refine wp_aload_n 93 d_Mo_test_92 rfl rfl ?_
      refine wp_bipush 95 62 d_Mo_test_93 rfl (by decide) ?_
      refine wp_V1 98 M_Mo_isSign 1 d_Mo_test_95 rfl mv_Mo_isSign lk_Mo_190 rfl rfl rfl rfl rfl ?_
      refine c_Mo_isSign ?_
      refine kI ?_
      (first | refine wp_ifP_ne 116 101 d_Mo_test_98 rfl (by decide) (fun h98 => ?_) (fun h98 => ?_) | refine wp_if_ne 116 101 d_Mo_test_98 rfl (by decide) (fun h98 => ?_) (fun h98 => ?_))
      · have gs : ¬ (gtF m_text L (cNx K s).a).1 = 0 := by rw [h98.1]; decide
        refine wp_aload_n 117 d_Mo_test_116 rfl rfl ?_
        refine wp_getfield 120 12 0 d_Mo_test_117 rfl fl_Mo_7 rfl rfl ?_
        refine wp_iload_n 121 d_Mo_test_120 rfl rfl ?_
        refine wp_iconst 122 5 d_Mo_test_121 rfl (by decide) ?_
        refine wp_iadd 123 d_Mo_test_122 rfl ?_
        rw [show nI p + 5 = nI (p + 5) from nI_add p 5]
        refine wp_aload_n 124 d_Mo_test_123 rfl rfl ?_
        refine wp_getfield 127 12 15 d_Mo_test_124 rfl fl_Mo_153 rfl rfl ?_
        refine wp_iastoreN 128 d_Mo_test_127 rfl rfl rfl (by omega) ?_
        refine hEq (hM ((upd (upd m_at p (1600 + kwR m_text L s.a)) (p + 5) (gtF m_text L (cNx K s).a).2.2.2)) m_names m_status m_top m_bottom m_sort m_trayMany m_trays m_tape m_text m_taped ((nI L)) ((gtF m_text L (cNx K s).a).1) ((nI (gtF m_text L (cNx K s).a).2.1)) ((nI (gtF m_text L (cNx K s).a).2.2.1)) ((gtF m_text L (cNx K s).a).2.2.2) m_faultKind m_faultPlace m_faults m_seen m_areOdds m_opened m_depth m_counted m_eastBy m_northBy m_partBy m_wayFaults m_wayEast m_wayNorth m_olds m_wayMany m_oneOfSet m_twoOfSet m_farBy m_rowBy m_triedBy m_rowMany m_doneAt m_gotAt m_struckAt m_bestDeed m_misBy m_drawn m_ranSteps m_loops m_ran m_told1 m_isTold m_marks) rfl ?_
        refine wp_aload_n 129 d_Mo_test_128 rfl rfl ?_
        refine wp_V0 132 M_Mo_ahead 2 d_Mo_test_129 rfl mv_Mo_ahead lk_Mo_187 rfl rfl rfl rfl rfl ?_
        refine k_ahead (s := cNx K s) hL hb T (cNx_lt ha) gs ?_
        refine kV ?_
        refine wp_aload_n 133 d_Mo_test_132 rfl rfl ?_
        refine wp_iload_n 134 d_Mo_test_133 rfl rfl ?_
        refine wp_iconst 135 2 d_Mo_test_134 rfl (by decide) ?_
        refine wp_iadd 136 d_Mo_test_135 rfl ?_
        rw [show nI p + 2 = nI (p + 2) from nI_add p 2]
        refine wp_iconst 137 0 d_Mo_test_136 rfl (by decide) ?_
        refine wp_sipush 140 9999 d_Mo_test_137 rfl (by decide) ?_
        refine wp_V3 143 M_Mo_number 3 d_Mo_test_140 rfl mv_Mo_number lk_Mo_222 rfl rfl rfl rfl rfl ?_
        refine k_number (s := cNx K (cNx K s)) (to_ := p + 2) (x := 0) (y := 9999) hL hb T (cNx_lt (cNx_lt ha)) hf (by omega) (fun n1 => ?_) (fun n8 => ?_)
        · refine kI ?_
          refine wp_zreturn d_Mo_test_143 rfl (by first | rfl | exact nbP _) ?_
          have e := (dTe_20 (K := K) (t := t) (s := s) (y := y) (c := 12) hc (cCmp_62 ((ak_sg A1).mpr h98)) (by decide)).trans (dNR_y n1)
          rw [e] at hq1
          exact hq1 rfl _ 12 _ 0 (fun j hj => by rw [upd_ne (by omega), upd_ne (by omega), upd_ne (by omega)]) rfl (Or.inr (Or.inr (Or.inr (Or.inr (Or.inr (Or.inr (Or.inr (Or.inr (Or.inr (Or.inr (Or.inr (Or.inr (Or.inl ⟨rfl, by rw [upd_ne (by omega), upd_ne (by omega), upd_at, hkw]; rfl, upd_at, by rw [upd_ne (by omega), upd_at]; exact h98.2, by rw [upd_ne (by omega), upd_ne (by omega), upd_ne (by omega)]; exact z0 4 (by omega) (by omega)⟩))))))))))))) ⟨Or.inr (Or.inr (Or.inr (Or.inr (Or.inr (Or.inl rfl))))), rfl⟩
        · refine kI ?_
          refine wp_zreturn d_Mo_test_143 rfl (by first | rfl | exact nbP _) ?_
          have e := (dTe_20 (K := K) (t := t) (s := s) (y := y) (c := 12) hc (cCmp_62 ((ak_sg A1).mpr h98)) (by decide)).trans (dNR_n n8)
          rw [e] at hq0
          exact hq0 Bool.false_ne_true _ _ _ _ _ (fun j hj => by rw [upd_ne (by omega), upd_ne (by omega)])
      · refine wp_aload_n 102 d_Mo_test_101 rfl rfl ?_
        refine wp_bipush 104 61 d_Mo_test_102 rfl (by decide) ?_
        refine wp_V1 107 M_Mo_isSign 1 d_Mo_test_104 rfl mv_Mo_isSign lk_Mo_190 rfl rfl rfl rfl rfl ?_
        refine c_Mo_isSign ?_
        refine kI ?_
        (first | refine wp_ifP_ne 116 110 d_Mo_test_107 rfl (by decide) (fun h107 => ?_) (fun h107 => ?_) | refine wp_if_ne 116 110 d_Mo_test_107 rfl (by decide) (fun h107 => ?_) (fun h107 => ?_))
        · have gs : ¬ (gtF m_text L (cNx K s).a).1 = 0 := by rw [h107.1]; decide
          refine wp_aload_n 117 d_Mo_test_116 rfl rfl ?_
          refine wp_getfield 120 12 0 d_Mo_test_117 rfl fl_Mo_7 rfl rfl ?_
          refine wp_iload_n 121 d_Mo_test_120 rfl rfl ?_
          refine wp_iconst 122 5 d_Mo_test_121 rfl (by decide) ?_
          refine wp_iadd 123 d_Mo_test_122 rfl ?_
          rw [show nI p + 5 = nI (p + 5) from nI_add p 5]
          refine wp_aload_n 124 d_Mo_test_123 rfl rfl ?_
          refine wp_getfield 127 12 15 d_Mo_test_124 rfl fl_Mo_153 rfl rfl ?_
          refine wp_iastoreN 128 d_Mo_test_127 rfl rfl rfl (by omega) ?_
          refine hEq (hM ((upd (upd m_at p (1600 + kwR m_text L s.a)) (p + 5) (gtF m_text L (cNx K s).a).2.2.2)) m_names m_status m_top m_bottom m_sort m_trayMany m_trays m_tape m_text m_taped ((nI L)) ((gtF m_text L (cNx K s).a).1) ((nI (gtF m_text L (cNx K s).a).2.1)) ((nI (gtF m_text L (cNx K s).a).2.2.1)) ((gtF m_text L (cNx K s).a).2.2.2) m_faultKind m_faultPlace m_faults m_seen m_areOdds m_opened m_depth m_counted m_eastBy m_northBy m_partBy m_wayFaults m_wayEast m_wayNorth m_olds m_wayMany m_oneOfSet m_twoOfSet m_farBy m_rowBy m_triedBy m_rowMany m_doneAt m_gotAt m_struckAt m_bestDeed m_misBy m_drawn m_ranSteps m_loops m_ran m_told1 m_isTold m_marks) rfl ?_
          refine wp_aload_n 129 d_Mo_test_128 rfl rfl ?_
          refine wp_V0 132 M_Mo_ahead 2 d_Mo_test_129 rfl mv_Mo_ahead lk_Mo_187 rfl rfl rfl rfl rfl ?_
          refine k_ahead (s := cNx K s) hL hb T (cNx_lt ha) gs ?_
          refine kV ?_
          refine wp_aload_n 133 d_Mo_test_132 rfl rfl ?_
          refine wp_iload_n 134 d_Mo_test_133 rfl rfl ?_
          refine wp_iconst 135 2 d_Mo_test_134 rfl (by decide) ?_
          refine wp_iadd 136 d_Mo_test_135 rfl ?_
          rw [show nI p + 2 = nI (p + 2) from nI_add p 2]
          refine wp_iconst 137 0 d_Mo_test_136 rfl (by decide) ?_
          refine wp_sipush 140 9999 d_Mo_test_137 rfl (by decide) ?_
          refine wp_V3 143 M_Mo_number 3 d_Mo_test_140 rfl mv_Mo_number lk_Mo_222 rfl rfl rfl rfl rfl ?_
          refine k_number (s := cNx K (cNx K s)) (to_ := p + 2) (x := 0) (y := 9999) hL hb T (cNx_lt (cNx_lt ha)) hf (by omega) (fun n1 => ?_) (fun n8 => ?_)
          · refine kI ?_
            refine wp_zreturn d_Mo_test_143 rfl (by first | rfl | exact nbP _) ?_
            have e := (dTe_20 (K := K) (t := t) (s := s) (y := y) (c := 13) hc (cCmp_61 ((ak_sg A1).mpr h107)) (by decide)).trans (dNR_y n1)
            rw [e] at hq1
            exact hq1 rfl _ 13 _ 0 (fun j hj => by rw [upd_ne (by omega), upd_ne (by omega), upd_ne (by omega)]) rfl (Or.inr (Or.inr (Or.inr (Or.inr (Or.inr (Or.inr (Or.inr (Or.inr (Or.inr (Or.inr (Or.inr (Or.inr (Or.inr (⟨rfl, by rw [upd_ne (by omega), upd_ne (by omega), upd_at, hkw]; rfl, upd_at, by rw [upd_ne (by omega), upd_at]; exact h107.2, by rw [upd_ne (by omega), upd_ne (by omega), upd_ne (by omega)]; exact z0 4 (by omega) (by omega)⟩)))))))))))))) ⟨Or.inr (Or.inr (Or.inr (Or.inr (Or.inr (Or.inr rfl))))), rfl⟩
          · refine kI ?_
            refine wp_zreturn d_Mo_test_143 rfl (by first | rfl | exact nbP _) ?_
            have e := (dTe_20 (K := K) (t := t) (s := s) (y := y) (c := 13) hc (cCmp_61 ((ak_sg A1).mpr h107)) (by decide)).trans (dNR_n n8)
            rw [e] at hq0
            exact hq0 Bool.false_ne_true _ _ _ _ _ (fun j hj => by rw [upd_ne (by omega), upd_ne (by omega)])
        · refine wp_aload_n 111 d_Mo_test_110 rfl rfl ?_
          refine wp_iconst 112 2 d_Mo_test_111 rfl (by decide) ?_
          refine wp_V1 115 M_Mo_fails 1 d_Mo_test_112 rfl mv_Mo_fails lk_Mo_193 rfl rfl rfl rfl rfl ?_
          refine k_fails2 (s := cNx K s) hL hb T (cNx_lt ha) hf ?_
          refine kI ?_
          refine wp_zreturn d_Mo_test_115 rfl (by first | rfl | exact nbP _) ?_
          have e := dTe_20n (K := K) (t := t) (s := s) (y := y) hc (cCmp_n (fun z => h89 ((ak_sg A1).mp z)) (fun z => h107 ((ak_sg A1).mp z)) (fun z => h98 ((ak_sg A1).mp z)))
          rw [e] at hq0
          exact hq0 Bool.false_ne_true _ _ _ _ _ (fun j hj => upd_ne (by omega))
  · refine wp_aload_n 14 d_Mo_test_13 rfl rfl ?_
    refine wp_iconst 15 2 d_Mo_test_14 rfl (by decide) ?_
    refine wp_V1 18 M_Mo_fails 1 d_Mo_test_15 rfl mv_Mo_fails lk_Mo_193 rfl rfl rfl rfl rfl ?_
    refine k_fails2 (s := s) hL hb T ha hf ?_
    refine kI ?_
    refine wp_zreturn d_Mo_test_18 rfl (by first | rfl | exact nbP _) ?_
    have e := dTe_n (K := K) (t := t) (s := s) (y := y) (fun z => h10 (by rw [(kw_w A 17 20 (by omega) rfl).mpr z]; decide)) (fun z => h10 (by rw [(kw_w A 18 21 (by omega) rfl).mpr z]; decide)) (fun z => h10 (by rw [(kw_w A 19 22 (by omega) rfl).mpr z]; decide)) (fun z => h10 (by rw [(kw_w A 20 23 (by omega) rfl).mpr z]; decide))
    rw [e] at hq0
    exact hq0 Bool.false_ne_true _ _ _ _ _ (fun _ _ => rfl)

set_option maxRecDepth 100000 in
set_option maxHeartbeats 4000000 in
theorem k_doGo (hL : L ≤ 900) (hb : ∀ k, k < L → b8 (m_text k)) (T : TKs co0_ m_text L K) (ha : s.a < K.nT) (hf : m_faults = 0) (V : vT m_at t) (N : NS m_names 0 t) (hp : 1800 ≤ p) (hp2 : p + 6 ≤ 2332) (z0 : ∀ j, 1 ≤ j → j < 6 → m_at (p + j) = 0) (w0 : m_at p = 11) (hq1 : (dNR K 0 0 11 s y).1 = true → ∀ (a2 : Nat → Int32) (k f z : Int32), (∀ j, ¬ (p ≤ j ∧ j < p + 6) → a2 j = m_at j) → (dNR K 0 0 11 s y).2.2 = dAdd y k f z → ROW t.nW a2 p k f z → NRW k z → Q (some (.int 1)) (hM (a2) m_names m_status m_top m_bottom m_sort m_trayMany m_trays m_tape m_text m_taped ((nI L)) ((gtF m_text L (dNR K 0 0 11 s y).2.1.a).1) ((nI (gtF m_text L (dNR K 0 0 11 s y).2.1.a).2.1)) ((nI (gtF m_text L (dNR K 0 0 11 s y).2.1.a).2.2.1)) ((gtF m_text L (dNR K 0 0 11 s y).2.1.a).2.2.2) m_faultKind m_faultPlace m_faults m_seen m_areOdds m_opened m_depth m_counted m_eastBy m_northBy m_partBy m_wayFaults m_wayEast m_wayNorth m_olds m_wayMany m_oneOfSet m_twoOfSet m_farBy m_rowBy m_triedBy m_rowMany m_doneAt m_gotAt m_struckAt m_bestDeed m_misBy m_drawn m_ranSteps m_loops m_ran m_told1 m_isTold m_marks)) (hq0 : ¬ (dNR K 0 0 11 s y).1 = true → ∀ (a2 : Nat → Int32) (z1 z2 z3 z4 : Int32), (∀ j, ¬ (p ≤ j ∧ j < p + 6) → a2 j = m_at j) → Q (some (.int 0)) (hM (a2) m_names m_status m_top m_bottom m_sort m_trayMany m_trays m_tape m_text m_taped ((nI L)) (z1) (z2) (z3) (z4) m_faultKind (((dNR K 0 0 11 s y).2.1).fp) (((dNR K 0 0 11 s y).2.1).fk) m_seen m_areOdds m_opened m_depth m_counted m_eastBy m_northBy m_partBy m_wayFaults m_wayEast m_wayNorth m_olds m_wayMany m_oneOfSet m_twoOfSet m_farBy m_rowBy m_triedBy m_rowMany m_doneAt m_gotAt m_struckAt m_bestDeed m_misBy m_drawn m_ranSteps m_loops m_ran m_told1 m_isTold m_marks)) : Call Γ M_Mo_dayOrder 10 0 0 [.ref 0, .int 11, .int (nI p)] (hM m_at m_names m_status m_top m_bottom m_sort m_trayMany m_trays m_tape m_text m_taped ((nI L)) ((gtF m_text L s.a).1) ((nI (gtF m_text L s.a).2.1)) ((nI (gtF m_text L s.a).2.2.1)) ((gtF m_text L s.a).2.2.2) m_faultKind m_faultPlace m_faults m_seen m_areOdds m_opened m_depth m_counted m_eastBy m_northBy m_partBy m_wayFaults m_wayEast m_wayNorth m_olds m_wayMany m_oneOfSet m_twoOfSet m_farBy m_rowBy m_triedBy m_rowMany m_doneAt m_gotAt m_struckAt m_bestDeed m_misBy m_drawn m_ranSteps m_loops m_ran m_told1 m_isTold m_marks) Q := by
  refine call_intro (ls := [some (.ref 0), some (.int 11), some (.int (nI p))]) rfl rfl rfl ?_
  refine wp_iload_n 1 d_Mo_dayOrder_0 rfl rfl ?_
  refine wp_tabIn (off := 43) 44 11 d_Mo_dayOrder_1 (rfl : (11 : Int32) = 11) (by decide) (by decide) (by decide) (by decide) ?_
  refine wp_aload_n 45 d_Mo_dayOrder_44 rfl rfl ?_
  refine wp_iload_n 46 d_Mo_dayOrder_45 rfl rfl ?_
  refine wp_iconst 47 1 d_Mo_dayOrder_46 rfl (by decide) ?_
  refine wp_iadd 48 d_Mo_dayOrder_47 rfl ?_
  rw [nI_1]
  refine wp_iconst 49 0 d_Mo_dayOrder_48 rfl (by decide) ?_
  refine wp_bipush 51 11 d_Mo_dayOrder_49 rfl (by decide) ?_
  refine wp_V3 54 M_Mo_number 3 d_Mo_dayOrder_51 rfl mv_Mo_number lk_Mo_222 rfl rfl rfl rfl rfl ?_
  refine k_number (s := s) (to_ := p + 1) (x := 0) (y := 11) hL hb T ha hf (by omega) (fun n1 => ?_) (fun n8 => ?_)
  · refine kI ?_
    refine wp_zreturn d_Mo_dayOrder_54 rfl (by first | rfl | exact nbP _) ?_
    rw [dNR_y n1] at hq1
    obtain ⟨v0, v1⟩ := cNu_in n1
    exact hq1 rfl _ 0 _ 0 (fun j hj => upd_ne (by omega)) rfl (Or.inl ⟨rfl, by rw [upd_ne (by omega)]; exact w0, legK_of v0 v1, upd_at⟩) ⟨by unfold opn; decide, by decide, vp_in_nI (n := 0) (N := 60) (by omega) (by omega)⟩
  · refine kI ?_
    refine wp_zreturn d_Mo_dayOrder_54 rfl (by first | rfl | exact nbP _) ?_
    rw [dNR_n n8] at hq0
    exact hq0 Bool.false_ne_true _ _ _ _ _ (fun _ _ => rfl)

set_option maxRecDepth 100000 in
set_option maxHeartbeats 4000000 in
theorem k_doStrike (hL : L ≤ 900) (hb : ∀ k, k < L → b8 (m_text k)) (T : TKs co0_ m_text L K) (ha : s.a < K.nT) (hf : m_faults = 0) (V : vT m_at t) (N : NS m_names 0 t) (hp : 1800 ≤ p) (hp2 : p + 6 ≤ 2332) (z0 : ∀ j, 1 ≤ j → j < 6 → m_at (p + j) = 0) (w0 : m_at p = 12) (hq1 : (dNR K 1 0 11 s y).1 = true → ∀ (a2 : Nat → Int32) (k f z : Int32), (∀ j, ¬ (p ≤ j ∧ j < p + 6) → a2 j = m_at j) → (dNR K 1 0 11 s y).2.2 = dAdd y k f z → ROW t.nW a2 p k f z → NRW k z → Q (some (.int 1)) (hM (a2) m_names m_status m_top m_bottom m_sort m_trayMany m_trays m_tape m_text m_taped ((nI L)) ((gtF m_text L (dNR K 1 0 11 s y).2.1.a).1) ((nI (gtF m_text L (dNR K 1 0 11 s y).2.1.a).2.1)) ((nI (gtF m_text L (dNR K 1 0 11 s y).2.1.a).2.2.1)) ((gtF m_text L (dNR K 1 0 11 s y).2.1.a).2.2.2) m_faultKind m_faultPlace m_faults m_seen m_areOdds m_opened m_depth m_counted m_eastBy m_northBy m_partBy m_wayFaults m_wayEast m_wayNorth m_olds m_wayMany m_oneOfSet m_twoOfSet m_farBy m_rowBy m_triedBy m_rowMany m_doneAt m_gotAt m_struckAt m_bestDeed m_misBy m_drawn m_ranSteps m_loops m_ran m_told1 m_isTold m_marks)) (hq0 : ¬ (dNR K 1 0 11 s y).1 = true → ∀ (a2 : Nat → Int32) (z1 z2 z3 z4 : Int32), (∀ j, ¬ (p ≤ j ∧ j < p + 6) → a2 j = m_at j) → Q (some (.int 0)) (hM (a2) m_names m_status m_top m_bottom m_sort m_trayMany m_trays m_tape m_text m_taped ((nI L)) (z1) (z2) (z3) (z4) m_faultKind (((dNR K 1 0 11 s y).2.1).fp) (((dNR K 1 0 11 s y).2.1).fk) m_seen m_areOdds m_opened m_depth m_counted m_eastBy m_northBy m_partBy m_wayFaults m_wayEast m_wayNorth m_olds m_wayMany m_oneOfSet m_twoOfSet m_farBy m_rowBy m_triedBy m_rowMany m_doneAt m_gotAt m_struckAt m_bestDeed m_misBy m_drawn m_ranSteps m_loops m_ran m_told1 m_isTold m_marks)) : Call Γ M_Mo_dayOrder 10 0 0 [.ref 0, .int 12, .int (nI p)] (hM m_at m_names m_status m_top m_bottom m_sort m_trayMany m_trays m_tape m_text m_taped ((nI L)) ((gtF m_text L s.a).1) ((nI (gtF m_text L s.a).2.1)) ((nI (gtF m_text L s.a).2.2.1)) ((gtF m_text L s.a).2.2.2) m_faultKind m_faultPlace m_faults m_seen m_areOdds m_opened m_depth m_counted m_eastBy m_northBy m_partBy m_wayFaults m_wayEast m_wayNorth m_olds m_wayMany m_oneOfSet m_twoOfSet m_farBy m_rowBy m_triedBy m_rowMany m_doneAt m_gotAt m_struckAt m_bestDeed m_misBy m_drawn m_ranSteps m_loops m_ran m_told1 m_isTold m_marks) Q := by
  refine call_intro (ls := [some (.ref 0), some (.int 12), some (.int (nI p))]) rfl rfl rfl ?_
  refine wp_iload_n 1 d_Mo_dayOrder_0 rfl rfl ?_
  refine wp_tabIn (off := 43) 44 12 d_Mo_dayOrder_1 (rfl : (12 : Int32) = 12) (by decide) (by decide) (by decide) (by decide) ?_
  refine wp_aload_n 45 d_Mo_dayOrder_44 rfl rfl ?_
  refine wp_iload_n 46 d_Mo_dayOrder_45 rfl rfl ?_
  refine wp_iconst 47 1 d_Mo_dayOrder_46 rfl (by decide) ?_
  refine wp_iadd 48 d_Mo_dayOrder_47 rfl ?_
  rw [nI_1]
  refine wp_iconst 49 0 d_Mo_dayOrder_48 rfl (by decide) ?_
  refine wp_bipush 51 11 d_Mo_dayOrder_49 rfl (by decide) ?_
  refine wp_V3 54 M_Mo_number 3 d_Mo_dayOrder_51 rfl mv_Mo_number lk_Mo_222 rfl rfl rfl rfl rfl ?_
  refine k_number (s := s) (to_ := p + 1) (x := 0) (y := 11) hL hb T ha hf (by omega) (fun n1 => ?_) (fun n8 => ?_)
  · refine kI ?_
    refine wp_zreturn d_Mo_dayOrder_54 rfl (by first | rfl | exact nbP _) ?_
    rw [dNR_y n1] at hq1
    obtain ⟨v0, v1⟩ := cNu_in n1
    exact hq1 rfl _ 1 _ 0 (fun j hj => upd_ne (by omega)) rfl (Or.inr (Or.inl ⟨rfl, by rw [upd_ne (by omega)]; exact w0, legK_of v0 v1, upd_at⟩)) ⟨by unfold opn; decide, by decide, vp_in_nI (n := 0) (N := 60) (by omega) (by omega)⟩
  · refine kI ?_
    refine wp_zreturn d_Mo_dayOrder_54 rfl (by first | rfl | exact nbP _) ?_
    rw [dNR_n n8] at hq0
    exact hq0 Bool.false_ne_true _ _ _ _ _ (fun _ _ => rfl)

set_option maxRecDepth 100000 in
set_option maxHeartbeats 4000000 in
theorem k_doRestore (hL : L ≤ 900) (hb : ∀ k, k < L → b8 (m_text k)) (T : TKs co0_ m_text L K) (ha : s.a < K.nT) (hf : m_faults = 0) (V : vT m_at t) (N : NS m_names 0 t) (hp : 1800 ≤ p) (hp2 : p + 6 ≤ 2332) (z0 : ∀ j, 1 ≤ j → j < 6 → m_at (p + j) = 0) (w0 : m_at p = 13) (hq1 : (dNR K 2 0 11 s y).1 = true → ∀ (a2 : Nat → Int32) (k f z : Int32), (∀ j, ¬ (p ≤ j ∧ j < p + 6) → a2 j = m_at j) → (dNR K 2 0 11 s y).2.2 = dAdd y k f z → ROW t.nW a2 p k f z → NRW k z → Q (some (.int 1)) (hM (a2) m_names m_status m_top m_bottom m_sort m_trayMany m_trays m_tape m_text m_taped ((nI L)) ((gtF m_text L (dNR K 2 0 11 s y).2.1.a).1) ((nI (gtF m_text L (dNR K 2 0 11 s y).2.1.a).2.1)) ((nI (gtF m_text L (dNR K 2 0 11 s y).2.1.a).2.2.1)) ((gtF m_text L (dNR K 2 0 11 s y).2.1.a).2.2.2) m_faultKind m_faultPlace m_faults m_seen m_areOdds m_opened m_depth m_counted m_eastBy m_northBy m_partBy m_wayFaults m_wayEast m_wayNorth m_olds m_wayMany m_oneOfSet m_twoOfSet m_farBy m_rowBy m_triedBy m_rowMany m_doneAt m_gotAt m_struckAt m_bestDeed m_misBy m_drawn m_ranSteps m_loops m_ran m_told1 m_isTold m_marks)) (hq0 : ¬ (dNR K 2 0 11 s y).1 = true → ∀ (a2 : Nat → Int32) (z1 z2 z3 z4 : Int32), (∀ j, ¬ (p ≤ j ∧ j < p + 6) → a2 j = m_at j) → Q (some (.int 0)) (hM (a2) m_names m_status m_top m_bottom m_sort m_trayMany m_trays m_tape m_text m_taped ((nI L)) (z1) (z2) (z3) (z4) m_faultKind (((dNR K 2 0 11 s y).2.1).fp) (((dNR K 2 0 11 s y).2.1).fk) m_seen m_areOdds m_opened m_depth m_counted m_eastBy m_northBy m_partBy m_wayFaults m_wayEast m_wayNorth m_olds m_wayMany m_oneOfSet m_twoOfSet m_farBy m_rowBy m_triedBy m_rowMany m_doneAt m_gotAt m_struckAt m_bestDeed m_misBy m_drawn m_ranSteps m_loops m_ran m_told1 m_isTold m_marks)) : Call Γ M_Mo_dayOrder 10 0 0 [.ref 0, .int 13, .int (nI p)] (hM m_at m_names m_status m_top m_bottom m_sort m_trayMany m_trays m_tape m_text m_taped ((nI L)) ((gtF m_text L s.a).1) ((nI (gtF m_text L s.a).2.1)) ((nI (gtF m_text L s.a).2.2.1)) ((gtF m_text L s.a).2.2.2) m_faultKind m_faultPlace m_faults m_seen m_areOdds m_opened m_depth m_counted m_eastBy m_northBy m_partBy m_wayFaults m_wayEast m_wayNorth m_olds m_wayMany m_oneOfSet m_twoOfSet m_farBy m_rowBy m_triedBy m_rowMany m_doneAt m_gotAt m_struckAt m_bestDeed m_misBy m_drawn m_ranSteps m_loops m_ran m_told1 m_isTold m_marks) Q := by
  refine call_intro (ls := [some (.ref 0), some (.int 13), some (.int (nI p))]) rfl rfl rfl ?_
  refine wp_iload_n 1 d_Mo_dayOrder_0 rfl rfl ?_
  refine wp_tabIn (off := 43) 44 13 d_Mo_dayOrder_1 (rfl : (13 : Int32) = 13) (by decide) (by decide) (by decide) (by decide) ?_
  refine wp_aload_n 45 d_Mo_dayOrder_44 rfl rfl ?_
  refine wp_iload_n 46 d_Mo_dayOrder_45 rfl rfl ?_
  refine wp_iconst 47 1 d_Mo_dayOrder_46 rfl (by decide) ?_
  refine wp_iadd 48 d_Mo_dayOrder_47 rfl ?_
  rw [nI_1]
  refine wp_iconst 49 0 d_Mo_dayOrder_48 rfl (by decide) ?_
  refine wp_bipush 51 11 d_Mo_dayOrder_49 rfl (by decide) ?_
  refine wp_V3 54 M_Mo_number 3 d_Mo_dayOrder_51 rfl mv_Mo_number lk_Mo_222 rfl rfl rfl rfl rfl ?_
  refine k_number (s := s) (to_ := p + 1) (x := 0) (y := 11) hL hb T ha hf (by omega) (fun n1 => ?_) (fun n8 => ?_)
  · refine kI ?_
    refine wp_zreturn d_Mo_dayOrder_54 rfl (by first | rfl | exact nbP _) ?_
    rw [dNR_y n1] at hq1
    obtain ⟨v0, v1⟩ := cNu_in n1
    exact hq1 rfl _ 2 _ 0 (fun j hj => upd_ne (by omega)) rfl (Or.inr (Or.inr (Or.inl ⟨rfl, by rw [upd_ne (by omega)]; exact w0, legK_of v0 v1, upd_at⟩))) ⟨by unfold opn; decide, by decide, vp_in_nI (n := 0) (N := 60) (by omega) (by omega)⟩
  · refine kI ?_
    refine wp_zreturn d_Mo_dayOrder_54 rfl (by first | rfl | exact nbP _) ?_
    rw [dNR_n n8] at hq0
    exact hq0 Bool.false_ne_true _ _ _ _ _ (fun _ _ => rfl)

theorem dBe_y {K : TK} {t : TW} {s : CS} {y : DY} (h2 : K.ki s.a = 2) (hn : ¬ fWa t (K.va s.a) = -1) : dBe K t s y = if (cNu K 0 23 (cNx K (cNm K s).2)).1 = true then (true, (cNu K 0 23 (cNx K (cNm K s).2)).2, dAdd y 3 (fWa t (K.va s.a)) (cNu K 0 23 (cNx K (cNm K s).2)).2.tk) else (false, (cNu K 0 23 (cNx K (cNm K s).2)).2, y) := by
  obtain ⟨e1, e2⟩ := cNm_y h2
  unfold dBe
  rw [if_pos e1, e2, if_neg hn]
theorem dBe_n3 {K : TK} {t : TW} {s : CS} {y : DY} (h2 : K.ki s.a = 2) (hn : fWa t (K.va s.a) = -1) : dBe K t s y = (false, cFl K 3 (cNm K s).2, y) := by
  obtain ⟨e1, e2⟩ := cNm_y h2
  unfold dBe
  rw [if_pos e1, e2, if_pos hn]
theorem dBe_n2 {K : TK} {t : TW} {s : CS} {y : DY} (h2 : ¬ K.ki s.a = 2) : dBe K t s y = (false, (cNm K s).2, y) := if_neg (cNm_n h2).1
set_option maxRecDepth 100000 in
set_option maxHeartbeats 4000000 in
theorem k_doBelieve (hL : L ≤ 900) (hb : ∀ k, k < L → b8 (m_text k)) (T : TKs co0_ m_text L K) (ha : s.a < K.nT) (hf : m_faults = 0) (V : vT m_at t) (N : NS m_names 0 t) (hp : 1800 ≤ p) (hp2 : p + 6 ≤ 2332) (z0 : ∀ j, 1 ≤ j → j < 6 → m_at (p + j) = 0) (w0 : m_at p = 14) (hq1 : (dBe K t s y).1 = true → ∀ (a2 : Nat → Int32) (k f z : Int32), (∀ j, ¬ (p ≤ j ∧ j < p + 6) → a2 j = m_at j) → (dBe K t s y).2.2 = dAdd y k f z → ROW t.nW a2 p k f z → NRW k z → Q (some (.int 1)) (hM (a2) m_names m_status m_top m_bottom m_sort m_trayMany m_trays m_tape m_text m_taped ((nI L)) ((gtF m_text L (dBe K t s y).2.1.a).1) ((nI (gtF m_text L (dBe K t s y).2.1.a).2.1)) ((nI (gtF m_text L (dBe K t s y).2.1.a).2.2.1)) ((gtF m_text L (dBe K t s y).2.1.a).2.2.2) m_faultKind m_faultPlace m_faults m_seen m_areOdds m_opened m_depth m_counted m_eastBy m_northBy m_partBy m_wayFaults m_wayEast m_wayNorth m_olds m_wayMany m_oneOfSet m_twoOfSet m_farBy m_rowBy m_triedBy m_rowMany m_doneAt m_gotAt m_struckAt m_bestDeed m_misBy m_drawn m_ranSteps m_loops m_ran m_told1 m_isTold m_marks)) (hq0 : ¬ (dBe K t s y).1 = true → ∀ (a2 : Nat → Int32) (z1 z2 z3 z4 : Int32), (∀ j, ¬ (p ≤ j ∧ j < p + 6) → a2 j = m_at j) → Q (some (.int 0)) (hM (a2) m_names m_status m_top m_bottom m_sort m_trayMany m_trays m_tape m_text m_taped ((nI L)) (z1) (z2) (z3) (z4) m_faultKind (((dBe K t s y).2.1).fp) (((dBe K t s y).2.1).fk) m_seen m_areOdds m_opened m_depth m_counted m_eastBy m_northBy m_partBy m_wayFaults m_wayEast m_wayNorth m_olds m_wayMany m_oneOfSet m_twoOfSet m_farBy m_rowBy m_triedBy m_rowMany m_doneAt m_gotAt m_struckAt m_bestDeed m_misBy m_drawn m_ranSteps m_loops m_ran m_told1 m_isTold m_marks)) : Call Γ M_Mo_dayOrder 10 0 0 [.ref 0, .int 14, .int (nI p)] (hM m_at m_names m_status m_top m_bottom m_sort m_trayMany m_trays m_tape m_text m_taped ((nI L)) ((gtF m_text L s.a).1) ((nI (gtF m_text L s.a).2.1)) ((nI (gtF m_text L s.a).2.2.1)) ((gtF m_text L s.a).2.2.2) m_faultKind m_faultPlace m_faults m_seen m_areOdds m_opened m_depth m_counted m_eastBy m_northBy m_partBy m_wayFaults m_wayEast m_wayNorth m_olds m_wayMany m_oneOfSet m_twoOfSet m_farBy m_rowBy m_triedBy m_rowMany m_doneAt m_gotAt m_struckAt m_bestDeed m_misBy m_drawn m_ranSteps m_loops m_ran m_told1 m_isTold m_marks) Q := by
  refine call_intro (ls := [some (.ref 0), some (.int 14), some (.int (nI p))]) rfl rfl rfl ?_
  refine wp_iload_n 1 d_Mo_dayOrder_0 rfl rfl ?_
  refine wp_tabIn (off := 54) 55 14 d_Mo_dayOrder_1 (rfl : (14 : Int32) = 14) (by decide) (by decide) (by decide) (by decide) ?_
  refine wp_aload_n 56 d_Mo_dayOrder_55 rfl rfl ?_
  refine wp_iconst 57 0 d_Mo_dayOrder_56 rfl (by decide) ?_
  refine wp_iconst 58 1 d_Mo_dayOrder_57 rfl (by decide) ?_
  refine wp_iload_n 59 d_Mo_dayOrder_58 rfl rfl ?_
  refine wp_iconst 60 1 d_Mo_dayOrder_59 rfl (by decide) ?_
  refine wp_iadd 61 d_Mo_dayOrder_60 rfl ?_
  rw [nI_1]
  refine wp_V3 64 M_Mo_knownTo 8 d_Mo_dayOrder_61 rfl mv_Mo_knownTo lk_Mo_229 rfl rfl rfl rfl rfl ?_
  refine k_knownTW (s := s) (t := t) (to_ := p + 1) hL hb T ha hf (by omega) V.W V.ok.hW N (fun n1 n2 => ?_) (fun n8 => ?_) (fun n8 n9 => ?_)
  · refine kI ?_
    refine wp_if_eq 84 67 d_Mo_dayOrder_64 rfl (by decide) (fun h64 => ?_) (fun h64 => ?_)
    · exact absurd h64 (by decide)
    · refine wp_aload_n 68 d_Mo_dayOrder_67 rfl rfl ?_
      refine wp_iload_n 69 d_Mo_dayOrder_68 rfl rfl ?_
      refine wp_iconst 70 2 d_Mo_dayOrder_69 rfl (by decide) ?_
      refine wp_iadd 71 d_Mo_dayOrder_70 rfl ?_
      rw [show nI p + 2 = nI (p + 2) from nI_add p 2]
      have ea : (cNx K (cNm K s).2).a = (cNx K s).a := cNx_a
      rw [← ea]
      refine wp_iconst 72 0 d_Mo_dayOrder_71 rfl (by decide) ?_
      refine wp_bipush 74 23 d_Mo_dayOrder_72 rfl (by decide) ?_
      refine wp_V3 77 M_Mo_number 3 d_Mo_dayOrder_74 rfl mv_Mo_number lk_Mo_222 rfl rfl rfl rfl rfl ?_
      refine k_number (s := cNx K (cNm K s).2) (to_ := p + 2) (x := 0) (y := 23) hL hb T (cNx_lt (cNm_lt ha)) hf (by omega) (fun n11 => ?_) (fun n18 => ?_)
      · refine kI ?_
        refine wp_if_eq 84 80 d_Mo_dayOrder_77 rfl (by decide) (fun h77 => ?_) (fun h77 => ?_)
        · exact absurd h77 (by decide)
        · refine wp_iconst 81 1 d_Mo_dayOrder_80 rfl (by decide) ?_
          refine wp_goto 85 d_Mo_dayOrder_81 (by decide) ?_
          refine wp_zreturn d_Mo_dayOrder_85 rfl (by first | rfl | exact nbP _) ?_
          rw [dBe_y n1 n2, if_pos n11] at hq1
          obtain ⟨v0, v1⟩ := cNu_in n11
          obtain ⟨k, k1, k2, k3⟩ := i32_in (m := 0) (n := 23) (by omega) (by omega) v0 v1
          have hW := V.ok.hW
          exact hq1 rfl _ 3 _ _ (fun j hj => by rw [upd_ne (by omega), upd_ne (by omega)]) rfl (Or.inr (Or.inr (Or.inr (Or.inl ⟨rfl, by rw [upd_ne (by omega), upd_ne (by omega)]; exact w0, by rw [upd_ne (by omega), upd_at], upd_at, ffind_R n2 (by omega), by rw [k3]; exact inR_N (n := 24) (by omega) (by omega)⟩)))) ⟨by unfold opn; decide, by decide, by rw [k3]; exact vp_in_nI (by omega) (by omega)⟩
      · refine kI ?_
        refine wp_if_eq 84 80 d_Mo_dayOrder_77 rfl (by decide) (fun h77 => ?_) (fun h77 => ?_)
        · refine wp_iconst 85 0 d_Mo_dayOrder_84 rfl (by decide) ?_
          refine wp_zreturn d_Mo_dayOrder_85 rfl (by first | rfl | exact nbP _) ?_
          rw [dBe_y n1 n2, if_neg n18] at hq0
          exact hq0 Bool.false_ne_true _ _ _ _ _ (fun j hj => upd_ne (by omega))
        · exact absurd rfl h77
  · refine kI ?_
    refine wp_if_eq 84 67 d_Mo_dayOrder_64 rfl (by decide) (fun h64 => ?_) (fun h64 => ?_)
    · refine wp_iconst 85 0 d_Mo_dayOrder_84 rfl (by decide) ?_
      refine wp_zreturn d_Mo_dayOrder_85 rfl (by first | rfl | exact nbP _) ?_
      rw [dBe_n2 n8] at hq0
      obtain ⟨_, e2, e3⟩ := cNm_n (K := K) (s := s) n8
      rw [e2, e3] at hq0
      exact hq0 Bool.false_ne_true _ _ _ _ _ (fun _ _ => rfl)
    · exact absurd rfl h64
  · refine kI ?_
    refine wp_if_eq 84 67 d_Mo_dayOrder_64 rfl (by decide) (fun h64 => ?_) (fun h64 => ?_)
    · refine wp_iconst 85 0 d_Mo_dayOrder_84 rfl (by decide) ?_
      refine wp_zreturn d_Mo_dayOrder_85 rfl (by first | rfl | exact nbP _) ?_
      rw [dBe_n3 n8 n9] at hq0
      obtain ⟨e2, e3⟩ := cFl_p (K := K) (k := 3) (s := s)
      rw [e2, e3] at hq0
      exact hq0 Bool.false_ne_true _ _ _ _ _ (fun j hj => upd_ne (by omega))
    · exact absurd rfl h64

set_option maxRecDepth 100000 in
set_option maxHeartbeats 4000000 in
theorem k_doAny (hL : L ≤ 900) (hb : ∀ k, k < L → b8 (m_text k)) (T : TKs co0_ m_text L K) (ha : s.a < K.nT) (hf : m_faults = 0) (V : vT m_at t) (N : NS m_names 0 t) (hp : 1800 ≤ p) (hp2 : p + 6 ≤ 2332) (z0 : ∀ j, 1 ≤ j → j < 6 → m_at (p + j) = 0) (w0 : m_at p = 15) (hq1 : (((true, s, dAdd y 4 0 0) : Bool × CS × DY)).1 = true → ∀ (a2 : Nat → Int32) (k f z : Int32), (∀ j, ¬ (p ≤ j ∧ j < p + 6) → a2 j = m_at j) → (((true, s, dAdd y 4 0 0) : Bool × CS × DY)).2.2 = dAdd y k f z → ROW t.nW a2 p k f z → NRW k z → Q (some (.int 1)) (hM (a2) m_names m_status m_top m_bottom m_sort m_trayMany m_trays m_tape m_text m_taped ((nI L)) ((gtF m_text L (((true, s, dAdd y 4 0 0) : Bool × CS × DY)).2.1.a).1) ((nI (gtF m_text L (((true, s, dAdd y 4 0 0) : Bool × CS × DY)).2.1.a).2.1)) ((nI (gtF m_text L (((true, s, dAdd y 4 0 0) : Bool × CS × DY)).2.1.a).2.2.1)) ((gtF m_text L (((true, s, dAdd y 4 0 0) : Bool × CS × DY)).2.1.a).2.2.2) m_faultKind m_faultPlace m_faults m_seen m_areOdds m_opened m_depth m_counted m_eastBy m_northBy m_partBy m_wayFaults m_wayEast m_wayNorth m_olds m_wayMany m_oneOfSet m_twoOfSet m_farBy m_rowBy m_triedBy m_rowMany m_doneAt m_gotAt m_struckAt m_bestDeed m_misBy m_drawn m_ranSteps m_loops m_ran m_told1 m_isTold m_marks)) (hq0 : ¬ (((true, s, dAdd y 4 0 0) : Bool × CS × DY)).1 = true → ∀ (a2 : Nat → Int32) (z1 z2 z3 z4 : Int32), (∀ j, ¬ (p ≤ j ∧ j < p + 6) → a2 j = m_at j) → Q (some (.int 0)) (hM (a2) m_names m_status m_top m_bottom m_sort m_trayMany m_trays m_tape m_text m_taped ((nI L)) (z1) (z2) (z3) (z4) m_faultKind (((((true, s, dAdd y 4 0 0) : Bool × CS × DY)).2.1).fp) (((((true, s, dAdd y 4 0 0) : Bool × CS × DY)).2.1).fk) m_seen m_areOdds m_opened m_depth m_counted m_eastBy m_northBy m_partBy m_wayFaults m_wayEast m_wayNorth m_olds m_wayMany m_oneOfSet m_twoOfSet m_farBy m_rowBy m_triedBy m_rowMany m_doneAt m_gotAt m_struckAt m_bestDeed m_misBy m_drawn m_ranSteps m_loops m_ran m_told1 m_isTold m_marks)) : Call Γ M_Mo_dayOrder 10 0 0 [.ref 0, .int 15, .int (nI p)] (hM m_at m_names m_status m_top m_bottom m_sort m_trayMany m_trays m_tape m_text m_taped ((nI L)) ((gtF m_text L s.a).1) ((nI (gtF m_text L s.a).2.1)) ((nI (gtF m_text L s.a).2.2.1)) ((gtF m_text L s.a).2.2.2) m_faultKind m_faultPlace m_faults m_seen m_areOdds m_opened m_depth m_counted m_eastBy m_northBy m_partBy m_wayFaults m_wayEast m_wayNorth m_olds m_wayMany m_oneOfSet m_twoOfSet m_farBy m_rowBy m_triedBy m_rowMany m_doneAt m_gotAt m_struckAt m_bestDeed m_misBy m_drawn m_ranSteps m_loops m_ran m_told1 m_isTold m_marks) Q := by
  refine call_intro (ls := [some (.ref 0), some (.int 15), some (.int (nI p))]) rfl rfl rfl ?_
  refine wp_iload_n 1 d_Mo_dayOrder_0 rfl rfl ?_
  refine wp_tabIn (off := 102) 103 15 d_Mo_dayOrder_1 (rfl : (15 : Int32) = 15) (by decide) (by decide) (by decide) (by decide) ?_
  refine wp_iconst 104 1 d_Mo_dayOrder_103 rfl (by decide) ?_
  refine wp_zreturn d_Mo_dayOrder_104 rfl (by first | rfl | exact nbP _) ?_
  exact hq1 rfl m_at 4 0 0 (fun _ _ => rfl) rfl (Or.inr (Or.inr (Or.inr (Or.inr (Or.inl ⟨rfl, w0⟩))))) ⟨by unfold opn; decide, by decide, vp_in_nI (n := 0) (N := 60) (by omega) (by omega)⟩

set_option maxRecDepth 100000 in
set_option maxHeartbeats 4000000 in
theorem k_doStop (hL : L ≤ 900) (hb : ∀ k, k < L → b8 (m_text k)) (T : TKs co0_ m_text L K) (ha : s.a < K.nT) (hf : m_faults = 0) (V : vT m_at t) (N : NS m_names 0 t) (hp : 1800 ≤ p) (hp2 : p + 6 ≤ 2332) (z0 : ∀ j, 1 ≤ j → j < 6 → m_at (p + j) = 0) (w0 : m_at p = 19) (hq1 : (((true, s, dAdd y 5 0 0) : Bool × CS × DY)).1 = true → ∀ (a2 : Nat → Int32) (k f z : Int32), (∀ j, ¬ (p ≤ j ∧ j < p + 6) → a2 j = m_at j) → (((true, s, dAdd y 5 0 0) : Bool × CS × DY)).2.2 = dAdd y k f z → ROW t.nW a2 p k f z → NRW k z → Q (some (.int 1)) (hM (a2) m_names m_status m_top m_bottom m_sort m_trayMany m_trays m_tape m_text m_taped ((nI L)) ((gtF m_text L (((true, s, dAdd y 5 0 0) : Bool × CS × DY)).2.1.a).1) ((nI (gtF m_text L (((true, s, dAdd y 5 0 0) : Bool × CS × DY)).2.1.a).2.1)) ((nI (gtF m_text L (((true, s, dAdd y 5 0 0) : Bool × CS × DY)).2.1.a).2.2.1)) ((gtF m_text L (((true, s, dAdd y 5 0 0) : Bool × CS × DY)).2.1.a).2.2.2) m_faultKind m_faultPlace m_faults m_seen m_areOdds m_opened m_depth m_counted m_eastBy m_northBy m_partBy m_wayFaults m_wayEast m_wayNorth m_olds m_wayMany m_oneOfSet m_twoOfSet m_farBy m_rowBy m_triedBy m_rowMany m_doneAt m_gotAt m_struckAt m_bestDeed m_misBy m_drawn m_ranSteps m_loops m_ran m_told1 m_isTold m_marks)) (hq0 : ¬ (((true, s, dAdd y 5 0 0) : Bool × CS × DY)).1 = true → ∀ (a2 : Nat → Int32) (z1 z2 z3 z4 : Int32), (∀ j, ¬ (p ≤ j ∧ j < p + 6) → a2 j = m_at j) → Q (some (.int 0)) (hM (a2) m_names m_status m_top m_bottom m_sort m_trayMany m_trays m_tape m_text m_taped ((nI L)) (z1) (z2) (z3) (z4) m_faultKind (((((true, s, dAdd y 5 0 0) : Bool × CS × DY)).2.1).fp) (((((true, s, dAdd y 5 0 0) : Bool × CS × DY)).2.1).fk) m_seen m_areOdds m_opened m_depth m_counted m_eastBy m_northBy m_partBy m_wayFaults m_wayEast m_wayNorth m_olds m_wayMany m_oneOfSet m_twoOfSet m_farBy m_rowBy m_triedBy m_rowMany m_doneAt m_gotAt m_struckAt m_bestDeed m_misBy m_drawn m_ranSteps m_loops m_ran m_told1 m_isTold m_marks)) : Call Γ M_Mo_dayOrder 10 0 0 [.ref 0, .int 19, .int (nI p)] (hM m_at m_names m_status m_top m_bottom m_sort m_trayMany m_trays m_tape m_text m_taped ((nI L)) ((gtF m_text L s.a).1) ((nI (gtF m_text L s.a).2.1)) ((nI (gtF m_text L s.a).2.2.1)) ((gtF m_text L s.a).2.2.2) m_faultKind m_faultPlace m_faults m_seen m_areOdds m_opened m_depth m_counted m_eastBy m_northBy m_partBy m_wayFaults m_wayEast m_wayNorth m_olds m_wayMany m_oneOfSet m_twoOfSet m_farBy m_rowBy m_triedBy m_rowMany m_doneAt m_gotAt m_struckAt m_bestDeed m_misBy m_drawn m_ranSteps m_loops m_ran m_told1 m_isTold m_marks) Q := by
  refine call_intro (ls := [some (.ref 0), some (.int 19), some (.int (nI p))]) rfl rfl rfl ?_
  refine wp_iload_n 1 d_Mo_dayOrder_0 rfl rfl ?_
  refine wp_tabOut 103 d_Mo_dayOrder_1 (Or.inr (by decide)) (by decide) ?_
  refine wp_iconst 104 1 d_Mo_dayOrder_103 rfl (by decide) ?_
  refine wp_zreturn d_Mo_dayOrder_104 rfl (by first | rfl | exact nbP _) ?_
  exact hq1 rfl m_at 5 0 0 (fun _ _ => rfl) rfl (Or.inr (Or.inr (Or.inr (Or.inr (Or.inr (Or.inl ⟨rfl, w0⟩)))))) ⟨by unfold opn; decide, by decide, vp_in_nI (n := 0) (N := 60) (by omega) (by omega)⟩

set_option maxRecDepth 100000 in
set_option maxHeartbeats 4000000 in
theorem k_doLoop (hL : L ≤ 900) (hb : ∀ k, k < L → b8 (m_text k)) (T : TKs co0_ m_text L K) (ha : s.a < K.nT) (hf : m_faults = 0) (V : vT m_at t) (N : NS m_names 0 t) (hp : 1800 ≤ p) (hp2 : p + 6 ≤ 2332) (z0 : ∀ j, 1 ≤ j → j < 6 → m_at (p + j) = 0) (w0 : m_at p = 17) (hq1 : (dNR K 6 1 99 s y).1 = true → ∀ (a2 : Nat → Int32) (k f z : Int32), (∀ j, ¬ (p ≤ j ∧ j < p + 6) → a2 j = m_at j) → (dNR K 6 1 99 s y).2.2 = dAdd y k f z → ROW t.nW a2 p k f z → ORW k z → Q (some (.int 1)) (hM (a2) m_names m_status m_top m_bottom m_sort m_trayMany m_trays m_tape m_text m_taped ((nI L)) ((gtF m_text L (dNR K 6 1 99 s y).2.1.a).1) ((nI (gtF m_text L (dNR K 6 1 99 s y).2.1.a).2.1)) ((nI (gtF m_text L (dNR K 6 1 99 s y).2.1.a).2.2.1)) ((gtF m_text L (dNR K 6 1 99 s y).2.1.a).2.2.2) m_faultKind m_faultPlace m_faults m_seen m_areOdds m_opened m_depth m_counted m_eastBy m_northBy m_partBy m_wayFaults m_wayEast m_wayNorth m_olds m_wayMany m_oneOfSet m_twoOfSet m_farBy m_rowBy m_triedBy m_rowMany m_doneAt m_gotAt m_struckAt m_bestDeed m_misBy m_drawn m_ranSteps m_loops m_ran m_told1 m_isTold m_marks)) (hq0 : ¬ (dNR K 6 1 99 s y).1 = true → ∀ (a2 : Nat → Int32) (z1 z2 z3 z4 : Int32), (∀ j, ¬ (p ≤ j ∧ j < p + 6) → a2 j = m_at j) → Q (some (.int 0)) (hM (a2) m_names m_status m_top m_bottom m_sort m_trayMany m_trays m_tape m_text m_taped ((nI L)) (z1) (z2) (z3) (z4) m_faultKind (((dNR K 6 1 99 s y).2.1).fp) (((dNR K 6 1 99 s y).2.1).fk) m_seen m_areOdds m_opened m_depth m_counted m_eastBy m_northBy m_partBy m_wayFaults m_wayEast m_wayNorth m_olds m_wayMany m_oneOfSet m_twoOfSet m_farBy m_rowBy m_triedBy m_rowMany m_doneAt m_gotAt m_struckAt m_bestDeed m_misBy m_drawn m_ranSteps m_loops m_ran m_told1 m_isTold m_marks)) : Call Γ M_Mo_dayOrder 10 0 0 [.ref 0, .int 17, .int (nI p)] (hM m_at m_names m_status m_top m_bottom m_sort m_trayMany m_trays m_tape m_text m_taped ((nI L)) ((gtF m_text L s.a).1) ((nI (gtF m_text L s.a).2.1)) ((nI (gtF m_text L s.a).2.2.1)) ((gtF m_text L s.a).2.2.2) m_faultKind m_faultPlace m_faults m_seen m_areOdds m_opened m_depth m_counted m_eastBy m_northBy m_partBy m_wayFaults m_wayEast m_wayNorth m_olds m_wayMany m_oneOfSet m_twoOfSet m_farBy m_rowBy m_triedBy m_rowMany m_doneAt m_gotAt m_struckAt m_bestDeed m_misBy m_drawn m_ranSteps m_loops m_ran m_told1 m_isTold m_marks) Q := by
  refine call_intro (ls := [some (.ref 0), some (.int 17), some (.int (nI p))]) rfl rfl rfl ?_
  refine wp_iload_n 1 d_Mo_dayOrder_0 rfl rfl ?_
  refine wp_tabIn (off := 85) 86 17 d_Mo_dayOrder_1 (rfl : (17 : Int32) = 17) (by decide) (by decide) (by decide) (by decide) ?_
  refine wp_aload_n 87 d_Mo_dayOrder_86 rfl rfl ?_
  refine wp_iload_n 88 d_Mo_dayOrder_87 rfl rfl ?_
  refine wp_iconst 89 1 d_Mo_dayOrder_88 rfl (by decide) ?_
  refine wp_iadd 90 d_Mo_dayOrder_89 rfl ?_
  rw [nI_1]
  refine wp_iconst 91 1 d_Mo_dayOrder_90 rfl (by decide) ?_
  refine wp_bipush 93 99 d_Mo_dayOrder_91 rfl (by decide) ?_
  refine wp_V3 96 M_Mo_number 3 d_Mo_dayOrder_93 rfl mv_Mo_number lk_Mo_222 rfl rfl rfl rfl rfl ?_
  refine k_number (s := s) (to_ := p + 1) (x := 1) (y := 99) hL hb T ha hf (by omega) (fun n1 => ?_) (fun n8 => ?_)
  · refine kI ?_
    refine wp_zreturn d_Mo_dayOrder_96 rfl (by first | rfl | exact nbP _) ?_
    rw [dNR_y n1] at hq1
    obtain ⟨v0, v1⟩ := cNu_in n1
    obtain ⟨k, k1, k2, k3⟩ := i32_in (m := 1) (n := 99) (by omega) (by omega) v0 v1
    exact hq1 rfl _ 6 _ 0 (fun j hj => upd_ne (by omega)) rfl (Or.inr (Or.inr (Or.inr (Or.inr (Or.inr (Or.inr (Or.inl ⟨rfl, by rw [upd_ne (by omega)]; exact w0, ⟨k, k1, k2, k3⟩, upd_at, by rw [upd_ne (by omega)]; exact z0 4 (by omega) (by omega)⟩))))))) ⟨Or.inl rfl, rfl⟩
  · refine kI ?_
    refine wp_zreturn d_Mo_dayOrder_96 rfl (by first | rfl | exact nbP _) ?_
    rw [dNR_n n8] at hq0
    exact hq0 Bool.false_ne_true _ _ _ _ _ (fun _ _ => rfl)

set_option maxRecDepth 100000 in
set_option maxHeartbeats 4000000 in
theorem k_doWhen (hL : L ≤ 900) (hb : ∀ k, k < L → b8 (m_text k)) (T : TKs co0_ m_text L K) (ha : s.a < K.nT) (hf : m_faults = 0) (V : vT m_at t) (N : NS m_names 0 t) (hp : 1800 ≤ p) (hp2 : p + 6 ≤ 2332) (z0 : ∀ j, 1 ≤ j → j < 6 → m_at (p + j) = 0) (w0 : m_at p = 16) (hq1 : (dTe K t s y).1 = true → ∀ (a2 : Nat → Int32) (k f z : Int32), (∀ j, ¬ (p ≤ j ∧ j < p + 6) → a2 j = m_at j) → (dTe K t s y).2.2 = dAdd y k f z → ROW t.nW a2 p k f z → ORW k z → Q (some (.int 1)) (hM (a2) m_names m_status m_top m_bottom m_sort m_trayMany m_trays m_tape m_text m_taped ((nI L)) ((gtF m_text L (dTe K t s y).2.1.a).1) ((nI (gtF m_text L (dTe K t s y).2.1.a).2.1)) ((nI (gtF m_text L (dTe K t s y).2.1.a).2.2.1)) ((gtF m_text L (dTe K t s y).2.1.a).2.2.2) m_faultKind m_faultPlace m_faults m_seen m_areOdds m_opened m_depth m_counted m_eastBy m_northBy m_partBy m_wayFaults m_wayEast m_wayNorth m_olds m_wayMany m_oneOfSet m_twoOfSet m_farBy m_rowBy m_triedBy m_rowMany m_doneAt m_gotAt m_struckAt m_bestDeed m_misBy m_drawn m_ranSteps m_loops m_ran m_told1 m_isTold m_marks)) (hq0 : ¬ (dTe K t s y).1 = true → ∀ (a2 : Nat → Int32) (z1 z2 z3 z4 : Int32), (∀ j, ¬ (p ≤ j ∧ j < p + 6) → a2 j = m_at j) → Q (some (.int 0)) (hM (a2) m_names m_status m_top m_bottom m_sort m_trayMany m_trays m_tape m_text m_taped ((nI L)) (z1) (z2) (z3) (z4) m_faultKind (((dTe K t s y).2.1).fp) (((dTe K t s y).2.1).fk) m_seen m_areOdds m_opened m_depth m_counted m_eastBy m_northBy m_partBy m_wayFaults m_wayEast m_wayNorth m_olds m_wayMany m_oneOfSet m_twoOfSet m_farBy m_rowBy m_triedBy m_rowMany m_doneAt m_gotAt m_struckAt m_bestDeed m_misBy m_drawn m_ranSteps m_loops m_ran m_told1 m_isTold m_marks)) : Call Γ M_Mo_dayOrder 10 0 0 [.ref 0, .int 16, .int (nI p)] (hM m_at m_names m_status m_top m_bottom m_sort m_trayMany m_trays m_tape m_text m_taped ((nI L)) ((gtF m_text L s.a).1) ((nI (gtF m_text L s.a).2.1)) ((nI (gtF m_text L s.a).2.2.1)) ((gtF m_text L s.a).2.2.2) m_faultKind m_faultPlace m_faults m_seen m_areOdds m_opened m_depth m_counted m_eastBy m_northBy m_partBy m_wayFaults m_wayEast m_wayNorth m_olds m_wayMany m_oneOfSet m_twoOfSet m_farBy m_rowBy m_triedBy m_rowMany m_doneAt m_gotAt m_struckAt m_bestDeed m_misBy m_drawn m_ranSteps m_loops m_ran m_told1 m_isTold m_marks) Q := by
  refine call_intro (ls := [some (.ref 0), some (.int 16), some (.int (nI p))]) rfl rfl rfl ?_
  refine wp_iload_n 1 d_Mo_dayOrder_0 rfl rfl ?_
  refine wp_tabIn (off := 96) 97 16 d_Mo_dayOrder_1 (rfl : (16 : Int32) = 16) (by decide) (by decide) (by decide) (by decide) ?_
  refine wp_aload_n 98 d_Mo_dayOrder_97 rfl rfl ?_
  refine wp_iload_n 99 d_Mo_dayOrder_98 rfl rfl ?_
  refine wp_V1 102 M_Mo_test 9 d_Mo_dayOrder_99 rfl mv_Mo_test lk_Mo_263 rfl rfl rfl rfl rfl ?_
  refine k_test (s := s) (t := t) (y := y) (p := p) hL hb T ha hf V N hp hp2 z0 (fun n1 a2 k f z g1 g2 g3 g4 => ?_) (fun n8 a2 z1 z2 z3 z4 g1 => ?_)
  · refine kI ?_
    refine wp_zreturn d_Mo_dayOrder_102 rfl (by first | rfl | exact nbP _) ?_
    exact hq1 n1 a2 k f z g1 g2 g3 g4
  · refine kI ?_
    refine wp_zreturn d_Mo_dayOrder_102 rfl (by first | rfl | exact nbP _) ?_
    exact hq0 n8 a2 _ _ _ _ g1

set_option maxRecDepth 100000 in
set_option maxHeartbeats 4000000 in
theorem k_doEnd (hq : Q (some (.int 1)) (hM m_at m_names m_status m_top m_bottom m_sort m_trayMany m_trays m_tape m_text m_taped m_size m_token m_from m_end m_value m_faultKind m_faultPlace m_faults m_seen m_areOdds m_opened m_depth m_counted m_eastBy m_northBy m_partBy m_wayFaults m_wayEast m_wayNorth m_olds m_wayMany m_oneOfSet m_twoOfSet m_farBy m_rowBy m_triedBy m_rowMany m_doneAt m_gotAt m_struckAt m_bestDeed m_misBy m_drawn m_ranSteps m_loops m_ran m_told1 m_isTold m_marks)) : Call Γ M_Mo_dayOrder 10 0 0 [.ref 0, .int 18, .int (nI p)] (hM m_at m_names m_status m_top m_bottom m_sort m_trayMany m_trays m_tape m_text m_taped m_size m_token m_from m_end m_value m_faultKind m_faultPlace m_faults m_seen m_areOdds m_opened m_depth m_counted m_eastBy m_northBy m_partBy m_wayFaults m_wayEast m_wayNorth m_olds m_wayMany m_oneOfSet m_twoOfSet m_farBy m_rowBy m_triedBy m_rowMany m_doneAt m_gotAt m_struckAt m_bestDeed m_misBy m_drawn m_ranSteps m_loops m_ran m_told1 m_isTold m_marks) Q := by
  refine call_intro (ls := [some (.ref 0), some (.int 18), some (.int (nI p))]) rfl rfl rfl ?_
  refine wp_iload_n 1 d_Mo_dayOrder_0 rfl rfl ?_
  refine wp_tabOut 103 d_Mo_dayOrder_1 (Or.inr (by decide)) (by decide) ?_
  refine wp_iconst 104 1 d_Mo_dayOrder_103 rfl (by decide) ?_
  refine wp_zreturn d_Mo_dayOrder_104 rfl (by first | rfl | exact nbP _) ?_
  exact hq

end TB0
