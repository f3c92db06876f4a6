/-! ===== DaysText: steps, parse ===== -/
def DOk (K : TK) (s : CS) (y : DY) : Prop := s.a < K.nT ∧ y.nR + y.nD ≤ 2 * y.nS ∧ y.nS ≤ 30 ∧ y.nD ≤ 3 ∧ ∀ j, vp_in (y.op j) 60
/-- as DOk, with room for a row -/
def DPre (K : TK) (s : CS) (y : DY) : Prop := s.a < K.nT ∧ y.nR + y.nD + 1 ≤ 2 * y.nS ∧ y.nS ≤ 30 ∧ y.nD ≤ 3 ∧ ∀ j, vp_in (y.op j) 60
theorem dAdd_ok {K : TK} {s s' : CS} {y : DY} {a b c : Int32} (h : DPre K s y) (hs : s'.a < K.nT) : DOk K s' (dAdd y a b c) :=
  ⟨hs, by show y.nR + 1 + y.nD ≤ 2 * y.nS; have := h.2.1; omega, h.2.2⟩
theorem DPre_ok {K : TK} {s s' : CS} {y : DY} (h : DPre K s y) (hs : s'.a < K.nT) : DOk K s' y := ⟨hs, by have := h.2.1; omega, h.2.2⟩
theorem DPre_s {K : TK} {s s' : CS} {y : DY} (h : DPre K s y) (hs : s'.a < K.nT) : DPre K s' y := ⟨hs, h.2⟩
theorem DPre_R {K : TK} {s : CS} {y : DY} (h : DPre K s y) : y.nR < 60 := by have := h.2.1; have := h.2.2.1; omega
theorem dNR_ok {K : TK} {s : CS} {y : DY} {k x z : Int32} (h : DPre K s y) : DOk K (dNR K k x z s y).2.1 (dNR K k x z s y).2.2 := by
  unfold dNR; split
  · exact dAdd_ok h (cNu_lt h.1)
  · exact DPre_ok h (cNu_lt h.1)
theorem dBe_ok {K : TK} {t : TW} {s : CS} {y : DY} (h : DPre K s y) : DOk K (dBe K t s y).2.1 (dBe K t s y).2.2 := by
  unfold dBe; split
  · split
    · exact DPre_ok h (cFl_lt (cNm_lt h.1))
    · split
      · exact dAdd_ok h (cNu_lt (cNx_lt (cNm_lt h.1)))
      · exact DPre_ok h (cNu_lt (cNx_lt (cNm_lt h.1)))
  · exact DPre_ok h (cNm_lt h.1)
theorem dAt_ok {K : TK} {t : TW} {s : CS} {y : DY} (h : DPre K s y) : DOk K (dAt K t s y).2.1 (dAt K t s y).2.2 := by
  unfold dAt; split
  · split
    · exact DPre_ok h (cFl_lt (cNm_lt h.1))
    · exact dAdd_ok h (cNx_lt (cNm_lt h.1))
  · exact DPre_ok h (cNm_lt h.1)
theorem dTe_ok {K : TK} {t : TW} {s : CS} {y : DY} (h : DPre K s y) : DOk K (dTe K t s y).2.1 (dTe K t s y).2.2 := by
  unfold dTe; split
  · exact dAt_ok (DPre_s h (cNx_lt h.1))
  · split
    · exact dAdd_ok h (cNx_lt h.1)
    · split
      · exact dNR_ok (DPre_s h (cNx_lt h.1))
      · split
        · split
          · exact DPre_ok h (cCs_lt (cNx_lt h.1))
          · exact dNR_ok (DPre_s h (cNx_lt (cNx_lt h.1)))
        · exact DPre_ok h (cCs_lt h.1)
theorem dSp_pre {K : TK} {s s' : CS} {y : DY} (h : DOk K s y) (h30 : y.nS < 30) (hs : s'.a < K.nT) : DPre K s' (dSp y) :=
  ⟨hs, by show y.nR + y.nD + 1 ≤ 2 * (y.nS + 1); have := h.2.1; omega, Nat.succ_le_of_lt h30, h.2.2.2⟩
theorem dOp_pre {K : TK} {s s' : CS} {y : DY} (h : DOk K s y) (h30 : y.nS < 30) (h3 : y.nD < 3) (hs : s'.a < K.nT) : DPre K s' (dOp (dSp y)) :=
  ⟨hs, by show y.nR + (y.nD + 1) + 1 ≤ 2 * (y.nS + 1); have := h.2.1; omega, Nat.succ_le_of_lt h30, Nat.succ_le_of_lt h3, upd_all (P := fun v => vp_in v 60) h.2.2.2.2 (vp_in_nI (by show y.nR < 60; have := h.2.1; omega) (by omega))⟩
theorem dSt_ok {K : TK} {t : TW} {s : CS} {y : DY} (h : DOk K s y) : DOk K (dSt K t s y).2.1 (dSt K t s y).2.2 := by
  unfold dSt; split
  · split
    · rename_i h30
      have hx := cNx_lt h.1
      split
      · exact h
      · rename_i hn
        have hp := dSp_pre h h30 hx
        unfold dS2
        split
        · exact dNR_ok hp
        · split
          · exact dNR_ok hp
          · split
            · exact dNR_ok hp
            · split
              · exact dBe_ok hp
              · split
                · exact dAdd_ok hp hx
                · split
                  · rename_i h16
                    exact dTe_ok (dOp_pre h h30 (Nat.lt_of_not_le fun z => hn ⟨Or.inl h16, z⟩) hx)
                  · split
                    · rename_i h21
                      exact dNR_ok (dOp_pre h h30 (Nat.lt_of_not_le fun z => hn ⟨Or.inr h21, z⟩) hx)
                    · exact dAdd_ok hp hx
    · exact h
  · exact h
theorem dEn_ok {K : TK} {s : CS} {y : DY} (h : DOk K s y) : DOk K (dEn K s y).2.1 (dEn K s y).2.2 := by
  unfold dEn; split
  · rename_i h0
    exact ⟨cNx_lt h.1, by show y.nR + 1 + (y.nD - 1) ≤ 2 * y.nS; have := h.2.1; omega, h.2.2.1, by show y.nD - 1 ≤ 3; have := h.2.2.2.1; omega, h.2.2.2.2⟩
  · exact h
theorem dTu_ok {K : TK} {t : TW} {s : CS} {y : DY} (h : DOk K s y) : DOk K (dTu K t s y).2.1 (dTu K t s y).2.2 := by
  unfold dTu; split
  · exact dEn_ok h
  · exact dSt_ok h
section T45
variable {Γ : Gm} {Q : Option Value → LH → Prop}
set_option maxRecDepth 100000 in
set_option maxHeartbeats 4000000 in
theorem c_DaysText_takeTest {tby : Nat → Int32} {tco : Nat → Int64} {tfe tle : Int32} {K : TK} {s : CS} {t : TW} {y : DY}  (ha : s.a < K.nT) (hK : K.nT ≤ 901) (hR : y.nR < 60) (hP : t.nP ≤ 7) (hq : Q (some (.int (bP ((dTe K t s y).1 = true)))) (hDX ((dTe K t s y).2.2.op) (nI (dTe K t s y).2.2.nD) tby tco (K.ki) (K.st) (K.va) tfe tle (nI K.nT) (nI (dTe K t s y).2.1.a) (K.ki (dTe K t s y).2.1.a) (vlT (K.ki (dTe K t s y).2.1.a) (K.va (dTe K t s y).2.1.a)) (woT (K.ki (dTe K t s y).2.1.a) (K.va (dTe K t s y).2.1.a)) ((dTe K t s y).2.1.tk) ((dTe K t s y).2.1.na) ((dTe K t s y).2.1.fk) ((dTe K t s y).2.1.fp) (t.pn) (t.wn) (t.fa) (t.te) (t.fr) (t.to_) (t.ea) (t.no) (nI t.nP) (nI t.nW) (nI t.nL) (t.od) (t.sk) (t.sd) (t.go) ((dTe K t s y).2.2.dk) ((dTe K t s y).2.2.df) ((dTe K t s y).2.2.ds) ((dTe K t s y).2.2.dth) (nI (dTe K t s y).2.2.nR) (nI (dTe K t s y).2.2.nS))) : Call Γ M_DaysText_takeTest 5 0 0 [.ref 0] (hDX (y.op) (nI y.nD) tby tco (K.ki) (K.st) (K.va) tfe tle (nI K.nT) (nI s.a) (K.ki s.a) (vlT (K.ki s.a) (K.va s.a)) (woT (K.ki s.a) (K.va s.a)) (s.tk) (s.na) (s.fk) (s.fp) (t.pn) (t.wn) (t.fa) (t.te) (t.fr) (t.to_) (t.ea) (t.no) (nI t.nP) (nI t.nW) (nI t.nL) (t.od) (t.sk) (t.sd) (t.go) (y.dk) (y.df) (y.ds) (y.dth) (nI y.nR) (nI y.nS)) Q := by
  refine call_intro (ls := [some (.ref 0), none, none]) rfl rfl rfl ?_
  refine wp_aload_n 1 d_DaysText_takeTest_0 rfl rfl ?_
  refine wp_getfield 4 2 0 d_DaysText_takeTest_1 rfl fl_DaysText_21 rfl rfl ?_
  refine wp_getfield 7 7 11 d_DaysText_takeTest_4 rfl fl_DaysText_49 rfl rfl ?_
  refine wp_istore_1 8 d_DaysText_takeTest_7 rfl rfl rfl ?_
  refine wp_iload_n 9 d_DaysText_takeTest_8 rfl rfl ?_
  refine wp_bipush 11 17 d_DaysText_takeTest_9 rfl (by decide) ?_
  refine wp_icmp_eq 40 14 d_DaysText_takeTest_11 rfl (by decide) (fun h11 => ?_) (fun h11 => ?_)
  · refine wp_aload_n 41 d_DaysText_takeTest_40 rfl rfl ?_
    refine wp_getfield 44 2 0 d_DaysText_takeTest_41 rfl fl_DaysText_21 rfl rfl ?_
    refine ws_V0 (b' := 0) 47 M_Text_next 2 [2, 3, 4, 5, 6, 7] ((hX tby tco (K.ki) (K.st) (K.va) tfe tle (nI K.nT) (nI s.a) (K.ki s.a) (vlT (K.ki s.a) (K.va s.a)) (woT (K.ki s.a) (K.va s.a)) (s.tk) (s.na) (s.fk) (s.fp))) d_DaysText_takeTest_44 rfl mv_Text_next lk_DaysText_72 rfl rfl rfl rfl rfl rfl rfl rfl ?_
    refine s_Text_next ha hK ?_
    refine sV ?_
    simp only [putH, rC, sg, eV, List.map_cons, List.map_nil, List.set_cons_zero, List.set_cons_succ, List.length_cons, List.length_nil, List.getD_cons_zero, List.getD_cons_succ, Nat.zero_add, Nat.reduceAdd, Nat.reduceLT, if_true, ite_true]
    refine wp_iload_n 48 d_DaysText_takeTest_47 rfl rfl ?_
    by_cases h48_0 : woT (K.ki s.a) (K.va s.a) = 17
    · refine wp_tabIn (off := 28) 76 17 d_DaysText_takeTest_48 h48_0 (by decide) (by decide) (by decide) (by decide) ?_
      refine wp_aload_n 77 d_DaysText_takeTest_76 rfl rfl ?_
      refine wp_V0 80 M_DaysText_takeAt 4 d_DaysText_takeTest_77 rfl mv_DaysText_takeAt lk_DaysText_120 rfl rfl rfl rfl rfl ?_
      refine c_DaysText_takeAt (s := (cNx K s)) (cNx_lt ha) hK hR hP ?_
      refine kI ?_
      refine wp_zreturn d_DaysText_takeTest_80 rfl (by first | rfl | exact nbP _) ?_
      have e : (dTe K t s y) = _ := (if_pos h11)
      rw [e] at hq
      exact hq
    by_cases h48_1 : woT (K.ki s.a) (K.va s.a) = 18
    · exact absurd (h11.symm.trans h48_1) (by decide)
    by_cases h48_2 : woT (K.ki s.a) (K.va s.a) = 19
    · exact absurd (h11.symm.trans h48_2) (by decide)
    exact absurd h11 h48_0
  · refine wp_iload_n 15 d_DaysText_takeTest_14 rfl rfl ?_
    refine wp_bipush 17 18 d_DaysText_takeTest_15 rfl (by decide) ?_
    refine wp_icmp_eq 40 20 d_DaysText_takeTest_17 rfl (by decide) (fun h17 => ?_) (fun h17 => ?_)
    · refine wp_aload_n 41 d_DaysText_takeTest_40 rfl rfl ?_
      refine wp_getfield 44 2 0 d_DaysText_takeTest_41 rfl fl_DaysText_21 rfl rfl ?_
      refine ws_V0 (b' := 0) 47 M_Text_next 2 [2, 3, 4, 5, 6, 7] ((hX tby tco (K.ki) (K.st) (K.va) tfe tle (nI K.nT) (nI s.a) (K.ki s.a) (vlT (K.ki s.a) (K.va s.a)) (woT (K.ki s.a) (K.va s.a)) (s.tk) (s.na) (s.fk) (s.fp))) d_DaysText_takeTest_44 rfl mv_Text_next lk_DaysText_72 rfl rfl rfl rfl rfl rfl rfl rfl ?_
      refine s_Text_next ha hK ?_
      refine sV ?_
      simp only [putH, rC, sg, eV, List.map_cons, List.map_nil, List.set_cons_zero, List.set_cons_succ, List.length_cons, List.length_nil, List.getD_cons_zero, List.getD_cons_succ, Nat.zero_add, Nat.reduceAdd, Nat.reduceLT, if_true, ite_true]
      refine wp_iload_n 48 d_DaysText_takeTest_47 rfl rfl ?_
      by_cases h48_0 : woT (K.ki s.a) (K.va s.a) = 17
      · exact absurd (h17.symm.trans h48_0) (by decide)
      by_cases h48_1 : woT (K.ki s.a) (K.va s.a) = 18
      · refine wp_tabIn (off := 33) 81 18 d_DaysText_takeTest_48 h48_1 (by decide) (by decide) (by decide) (by decide) ?_
        refine wp_aload_n 82 d_DaysText_takeTest_81 rfl rfl ?_
        refine wp_getfield 85 2 2 d_DaysText_takeTest_82 rfl fl_DaysText_29 rfl rfl ?_
        refine wp_bipush 87 9 d_DaysText_takeTest_85 rfl (by decide) ?_
        refine wp_iconst 88 0 d_DaysText_takeTest_87 rfl (by decide) ?_
        refine wp_iconst 89 0 d_DaysText_takeTest_88 rfl (by decide) ?_
        refine ws_V3 (b' := 0) 92 M_Days_addRow 1 [17, 18, 19, 20] ((hD _ _ _ _ _ _)) d_DaysText_takeTest_89 rfl mv_Days_addRow lk_DaysText_68 rfl rfl rfl rfl rfl rfl rfl (eV_int _ _) (eV_int _ _) (eV_int _ _) rfl ?_
        refine c_Days_addRow hR ?_
        refine sV ?_
        simp only [putH, rC, sg, eV, List.map_cons, List.map_nil, List.set_cons_zero, List.set_cons_succ, List.length_cons, List.length_nil, List.getD_cons_zero, List.getD_cons_succ, Nat.zero_add, Nat.reduceAdd, Nat.reduceLT, if_true, ite_true]
        refine wp_iconst 93 1 d_DaysText_takeTest_92 rfl (by decide) ?_
        refine wp_zreturn d_DaysText_takeTest_93 rfl (by first | rfl | exact nbP _) ?_
        have e : (dTe K t s y) = _ := ((if_neg h11).trans (if_pos h17))
        rw [e] at hq
        exact hq
      by_cases h48_2 : woT (K.ki s.a) (K.va s.a) = 19
      · exact absurd (h17.symm.trans h48_2) (by decide)
      exact absurd h17 h48_1
    · refine wp_iload_n 21 d_DaysText_takeTest_20 rfl rfl ?_
      refine wp_bipush 23 19 d_DaysText_takeTest_21 rfl (by decide) ?_
      refine wp_icmp_eq 40 26 d_DaysText_takeTest_23 rfl (by decide) (fun h23 => ?_) (fun h23 => ?_)
      · refine wp_aload_n 41 d_DaysText_takeTest_40 rfl rfl ?_
        refine wp_getfield 44 2 0 d_DaysText_takeTest_41 rfl fl_DaysText_21 rfl rfl ?_
        refine ws_V0 (b' := 0) 47 M_Text_next 2 [2, 3, 4, 5, 6, 7] ((hX tby tco (K.ki) (K.st) (K.va) tfe tle (nI K.nT) (nI s.a) (K.ki s.a) (vlT (K.ki s.a) (K.va s.a)) (woT (K.ki s.a) (K.va s.a)) (s.tk) (s.na) (s.fk) (s.fp))) d_DaysText_takeTest_44 rfl mv_Text_next lk_DaysText_72 rfl rfl rfl rfl rfl rfl rfl rfl ?_
        refine s_Text_next ha hK ?_
        refine sV ?_
        simp only [putH, rC, sg, eV, List.map_cons, List.map_nil, List.set_cons_zero, List.set_cons_succ, List.length_cons, List.length_nil, List.getD_cons_zero, List.getD_cons_succ, Nat.zero_add, Nat.reduceAdd, Nat.reduceLT, if_true, ite_true]
        refine wp_iload_n 48 d_DaysText_takeTest_47 rfl rfl ?_
        by_cases h48_0 : woT (K.ki s.a) (K.va s.a) = 17
        · exact absurd (h23.symm.trans h48_0) (by decide)
        by_cases h48_1 : woT (K.ki s.a) (K.va s.a) = 18
        · exact absurd (h23.symm.trans h48_1) (by decide)
        by_cases h48_2 : woT (K.ki s.a) (K.va s.a) = 19
        · refine wp_tabIn (off := 46) 94 19 d_DaysText_takeTest_48 h48_2 (by decide) (by decide) (by decide) (by decide) ?_
          refine wp_aload_n 95 d_DaysText_takeTest_94 rfl rfl ?_
          refine wp_bipush 97 10 d_DaysText_takeTest_95 rfl (by decide) ?_
          refine wp_iconst 98 0 d_DaysText_takeTest_97 rfl (by decide) ?_
          refine wp_bipush 100 11 d_DaysText_takeTest_98 rfl (by decide) ?_
          refine wp_V3 103 M_DaysText_takeNumberRow 4 d_DaysText_takeTest_100 rfl mv_DaysText_takeNumberRow lk_DaysText_84 rfl rfl rfl rfl rfl ?_
          refine c_DaysText_takeNumberRow (s := (cNx K s)) (cNx_lt ha) hK hR ?_
          refine kI ?_
          refine wp_zreturn d_DaysText_takeTest_103 rfl (by first | rfl | exact nbP _) ?_
          have e : (dTe K t s y) = _ := (((if_neg h11).trans (if_neg h17)).trans (if_pos h23))
          rw [e] at hq
          exact hq
        exact absurd h23 h48_2
      · refine wp_iload_n 27 d_DaysText_takeTest_26 rfl rfl ?_
        refine wp_bipush 29 20 d_DaysText_takeTest_27 rfl (by decide) ?_
        refine wp_icmp_eq 40 32 d_DaysText_takeTest_29 rfl (by decide) (fun h29 => ?_) (fun h29 => ?_)
        · refine wp_aload_n 41 d_DaysText_takeTest_40 rfl rfl ?_
          refine wp_getfield 44 2 0 d_DaysText_takeTest_41 rfl fl_DaysText_21 rfl rfl ?_
          refine ws_V0 (b' := 0) 47 M_Text_next 2 [2, 3, 4, 5, 6, 7] ((hX tby tco (K.ki) (K.st) (K.va) tfe tle (nI K.nT) (nI s.a) (K.ki s.a) (vlT (K.ki s.a) (K.va s.a)) (woT (K.ki s.a) (K.va s.a)) (s.tk) (s.na) (s.fk) (s.fp))) d_DaysText_takeTest_44 rfl mv_Text_next lk_DaysText_72 rfl rfl rfl rfl rfl rfl rfl rfl ?_
          refine s_Text_next ha hK ?_
          refine sV ?_
          simp only [putH, rC, sg, eV, List.map_cons, List.map_nil, List.set_cons_zero, List.set_cons_succ, List.length_cons, List.length_nil, List.getD_cons_zero, List.getD_cons_succ, Nat.zero_add, Nat.reduceAdd, Nat.reduceLT, if_true, ite_true]
          refine wp_iload_n 48 d_DaysText_takeTest_47 rfl rfl ?_
          by_cases h48_0 : woT (K.ki s.a) (K.va s.a) = 17
          · exact absurd (h29.symm.trans h48_0) (by decide)
          by_cases h48_1 : woT (K.ki s.a) (K.va s.a) = 18
          · exact absurd (h29.symm.trans h48_1) (by decide)
          by_cases h48_2 : woT (K.ki s.a) (K.va s.a) = 19
          · exact absurd (h29.symm.trans h48_2) (by decide)
          refine wp_tabOut 104 d_DaysText_takeTest_48 (sw_outL 17 3 (by omega) (fun i hi => match i, hi with
              | 0, _ => h48_0
              | 1, _ => h48_1
              | 2, _ => h48_2
              | i + 3, hi => absurd hi (by omega))) (by decide) ?_
          refine wp_aload_n 105 d_DaysText_takeTest_104 rfl rfl ?_
          refine wp_V0 108 M_DaysText_comparisonHere 1 d_DaysText_takeTest_105 rfl mv_DaysText_comparisonHere lk_DaysText_123 rfl rfl rfl rfl rfl ?_
          refine c_DaysText_comparisonHere (s := (cNx K s)) ?_
          refine kI ?_
          refine wp_istore_2 109 d_DaysText_takeTest_108 rfl rfl rfl ?_
          refine wp_iload_n 110 d_DaysText_takeTest_109 rfl rfl ?_
          refine wp_iconst 111 (-1) d_DaysText_takeTest_110 rfl (by decide) ?_
          refine wp_icmp_ne 122 114 d_DaysText_takeTest_111 rfl (by decide) (fun h111 => ?_) (fun h111 => ?_)
          · refine wp_aload_n 123 d_DaysText_takeTest_122 rfl rfl ?_
            refine wp_getfield 126 2 0 d_DaysText_takeTest_123 rfl fl_DaysText_21 rfl rfl ?_
            refine ws_V0 (b' := 0) 129 M_Text_next 2 [2, 3, 4, 5, 6, 7] ((hX tby tco (K.ki) (K.st) (K.va) tfe tle (nI K.nT) (nI (cNx K s).a) (K.ki (cNx K s).a) (vlT (K.ki (cNx K s).a) (K.va (cNx K s).a)) (woT (K.ki (cNx K s).a) (K.va (cNx K s).a)) ((cNx K s).tk) ((cNx K s).na) ((cNx K s).fk) ((cNx K s).fp))) d_DaysText_takeTest_126 rfl mv_Text_next lk_DaysText_72 rfl rfl rfl rfl rfl rfl rfl rfl ?_
            refine s_Text_next (cNx_lt ha) hK ?_
            refine sV ?_
            simp only [putH, rC, sg, eV, List.map_cons, List.map_nil, List.set_cons_zero, List.set_cons_succ, List.length_cons, List.length_nil, List.getD_cons_zero, List.getD_cons_succ, Nat.zero_add, Nat.reduceAdd, Nat.reduceLT, if_true, ite_true]
            refine wp_aload_n 130 d_DaysText_takeTest_129 rfl rfl ?_
            refine wp_iload_n 131 d_DaysText_takeTest_130 rfl rfl ?_
            refine wp_iconst 132 0 d_DaysText_takeTest_131 rfl (by decide) ?_
            refine wp_sipush 135 9999 d_DaysText_takeTest_132 rfl (by decide) ?_
            refine wp_V3 138 M_DaysText_takeNumberRow 4 d_DaysText_takeTest_135 rfl mv_DaysText_takeNumberRow lk_DaysText_84 rfl rfl rfl rfl rfl ?_
            refine c_DaysText_takeNumberRow (s := cNx K (cNx K s)) (cNx_lt (cNx_lt ha)) hK hR ?_
            refine kI ?_
            refine wp_zreturn d_DaysText_takeTest_138 rfl (by first | rfl | exact nbP _) ?_
            have e : (dTe K t s y) = _ := (((((if_neg h11).trans (if_neg h17)).trans (if_neg h23)).trans (if_pos h29)).trans (if_neg h111))
            rw [e] at hq
            exact hq
          · refine wp_aload_n 115 d_DaysText_takeTest_114 rfl rfl ?_
            refine wp_getfield 118 2 0 d_DaysText_takeTest_115 rfl fl_DaysText_21 rfl rfl ?_
            refine ws_V0 (b' := 0) 121 M_Text_cannotStand 2 [2, 3, 4, 5, 6, 7] ((hX tby tco (K.ki) (K.st) (K.va) tfe tle (nI K.nT) (nI (cNx K s).a) (K.ki (cNx K s).a) (vlT (K.ki (cNx K s).a) (K.va (cNx K s).a)) (woT (K.ki (cNx K s).a) (K.va (cNx K s).a)) ((cNx K s).tk) ((cNx K s).na) ((cNx K s).fk) ((cNx K s).fp))) d_DaysText_takeTest_118 rfl mv_Text_cannotStand lk_DaysText_46 rfl rfl rfl rfl rfl rfl rfl rfl ?_
            refine s_Text_cannotStand (cNx_lt ha) hK ?_
            refine sI ?_
            simp only [putH, rC, sg, eV, List.map_cons, List.map_nil, List.set_cons_zero, List.set_cons_succ, List.length_cons, List.length_nil, List.getD_cons_zero, List.getD_cons_succ, Nat.zero_add, Nat.reduceAdd, Nat.reduceLT, if_true, ite_true]
            refine wp_zreturn d_DaysText_takeTest_121 rfl (by first | rfl | exact nbP _) ?_
            have e : (dTe K t s y) = _ := (((((if_neg h11).trans (if_neg h17)).trans (if_neg h23)).trans (if_pos h29)).trans (if_pos h111))
            rw [e] at hq
            exact hq
        · refine wp_aload_n 33 d_DaysText_takeTest_32 rfl rfl ?_
          refine wp_getfield 36 2 0 d_DaysText_takeTest_33 rfl fl_DaysText_21 rfl rfl ?_
          refine ws_V0 (b' := 0) 39 M_Text_cannotStand 2 [2, 3, 4, 5, 6, 7] ((hX tby tco (K.ki) (K.st) (K.va) tfe tle (nI K.nT) (nI s.a) (K.ki s.a) (vlT (K.ki s.a) (K.va s.a)) (woT (K.ki s.a) (K.va s.a)) (s.tk) (s.na) (s.fk) (s.fp))) d_DaysText_takeTest_36 rfl mv_Text_cannotStand lk_DaysText_46 rfl rfl rfl rfl rfl rfl rfl rfl ?_
          refine s_Text_cannotStand ha hK ?_
          refine sI ?_
          simp only [putH, rC, sg, eV, List.map_cons, List.map_nil, List.set_cons_zero, List.set_cons_succ, List.length_cons, List.length_nil, List.getD_cons_zero, List.getD_cons_succ, Nat.zero_add, Nat.reduceAdd, Nat.reduceLT, if_true, ite_true]
          refine wp_zreturn d_DaysText_takeTest_39 rfl (by first | rfl | exact nbP _) ?_
          have e : (dTe K t s y) = _ := ((((if_neg h11).trans (if_neg h17)).trans (if_neg h23)).trans (if_neg h29))
          rw [e] at hq
          exact hq

set_option maxRecDepth 100000 in
set_option maxHeartbeats 4000000 in
theorem c_DaysText_takeStep {tby : Nat → Int32} {tco : Nat → Int64} {tfe tle : Int32} {K : TK} {s : CS} {t : TW} {y : DY}  (hK : K.nT ≤ 901) (ho : DOk K s y) (hP : t.nP ≤ 7) (hW : t.nW ≤ 4) (hq : Q (some (.int (bP ((dSt K t s y).1 = true)))) (hDX ((dSt K t s y).2.2.op) (nI (dSt K t s y).2.2.nD) tby tco (K.ki) (K.st) (K.va) tfe tle (nI K.nT) (nI (dSt K t s y).2.1.a) (K.ki (dSt K t s y).2.1.a) (vlT (K.ki (dSt K t s y).2.1.a) (K.va (dSt K t s y).2.1.a)) (woT (K.ki (dSt K t s y).2.1.a) (K.va (dSt K t s y).2.1.a)) ((dSt K t s y).2.1.tk) ((dSt K t s y).2.1.na) ((dSt K t s y).2.1.fk) ((dSt K t s y).2.1.fp) (t.pn) (t.wn) (t.fa) (t.te) (t.fr) (t.to_) (t.ea) (t.no) (nI t.nP) (nI t.nW) (nI t.nL) (t.od) (t.sk) (t.sd) (t.go) ((dSt K t s y).2.2.dk) ((dSt K t s y).2.2.df) ((dSt K t s y).2.2.ds) ((dSt K t s y).2.2.dth) (nI (dSt K t s y).2.2.nR) (nI (dSt K t s y).2.2.nS))) : Call Γ M_DaysText_takeStep 6 0 0 [.ref 0] (hDX (y.op) (nI y.nD) tby tco (K.ki) (K.st) (K.va) tfe tle (nI K.nT) (nI s.a) (K.ki s.a) (vlT (K.ki s.a) (K.va s.a)) (woT (K.ki s.a) (K.va s.a)) (s.tk) (s.na) (s.fk) (s.fp) (t.pn) (t.wn) (t.fa) (t.te) (t.fr) (t.to_) (t.ea) (t.no) (nI t.nP) (nI t.nW) (nI t.nL) (t.od) (t.sk) (t.sd) (t.go) (y.dk) (y.df) (y.ds) (y.dth) (nI y.nR) (nI y.nS)) Q := by
  have hs30 := ho.2.2.1
  have hd3 := ho.2.2.2.1
  refine call_intro (ls := [some (.ref 0), none]) rfl rfl rfl ?_
  refine wp_aload_n 1 d_DaysText_takeStep_0 rfl rfl ?_
  refine wp_getfield 4 2 0 d_DaysText_takeStep_1 rfl fl_DaysText_21 rfl rfl ?_
  refine wp_getfield 7 7 11 d_DaysText_takeStep_4 rfl fl_DaysText_49 rfl rfl ?_
  refine wp_istore_1 8 d_DaysText_takeStep_7 rfl rfl rfl ?_
  refine wp_iload_n 9 d_DaysText_takeStep_8 rfl rfl ?_
  refine wp_S1 12 M_DaysText_isStep 1 d_DaysText_takeStep_9 rfl ms_DaysText_isStep lk_DaysText_75 rfl rfl ?_
  refine c_DaysText_isStep ?_
  refine kI ?_
  (first | refine wp_ifP_ne 23 15 d_DaysText_takeStep_12 rfl (by decide) (fun h12 => ?_) (fun h12 => ?_) | refine wp_if_ne 23 15 d_DaysText_takeStep_12 rfl (by decide) (fun h12 => ?_) (fun h12 => ?_))
  · refine wp_aload_n 24 d_DaysText_takeStep_23 rfl rfl ?_
    refine wp_getfield 27 2 2 d_DaysText_takeStep_24 rfl fl_DaysText_29 rfl rfl ?_
    refine wp_getfield 30 1 5 d_DaysText_takeStep_27 rfl fl_DaysText_78 rfl rfl ?_
    refine wp_bipush 32 30 d_DaysText_takeStep_30 rfl (by decide) ?_
    refine wp_icmp_lt 45 35 d_DaysText_takeStep_32 rfl (by decide) (fun h32 => ?_) (fun h32 => ?_)
    · refine wp_iload_n 46 d_DaysText_takeStep_45 rfl rfl ?_
      refine wp_bipush 48 16 d_DaysText_takeStep_46 rfl (by decide) ?_
      refine wp_icmp_eq 57 51 d_DaysText_takeStep_48 rfl (by decide) (fun h48 => ?_) (fun h48 => ?_)
      · refine wp_aload_n 58 d_DaysText_takeStep_57 rfl rfl ?_
        refine wp_getfield 61 2 4 d_DaysText_takeStep_58 rfl fl_DaysText_17 rfl rfl ?_
        refine wp_iconst 62 3 d_DaysText_takeStep_61 rfl (by decide) ?_
        refine wp_icmp_lt 75 65 d_DaysText_takeStep_62 rfl (by decide) (fun h62 => ?_) (fun h62 => ?_)
        · refine wp_aload_n 76 d_DaysText_takeStep_75 rfl rfl ?_
          refine wp_getfield 79 2 2 d_DaysText_takeStep_76 rfl fl_DaysText_29 rfl rfl ?_
          refine wp_dup 80 d_DaysText_takeStep_79 rfl rfl ?_
          refine wp_getfield 83 1 5 d_DaysText_takeStep_80 rfl fl_DaysText_78 rfl rfl ?_
          refine wp_iconst 84 1 d_DaysText_takeStep_83 rfl (by decide) ?_
          refine wp_iadd 85 d_DaysText_takeStep_84 rfl ?_
          rw [nI_1]
          refine wp_putfield 88 1 5 _ d_DaysText_takeStep_85 rfl fp_DaysText_78 rfl rfl (okP_int _) ?_
          dsimp only [List.set]
          refine wp_aload_n 89 d_DaysText_takeStep_88 rfl rfl ?_
          refine wp_getfield 92 2 0 d_DaysText_takeStep_89 rfl fl_DaysText_21 rfl rfl ?_
          refine ws_V0 (b' := 0) 95 M_Text_next 2 [2, 3, 4, 5, 6, 7] ((hX tby tco (K.ki) (K.st) (K.va) tfe tle (nI K.nT) (nI s.a) (K.ki s.a) (vlT (K.ki s.a) (K.va s.a)) (woT (K.ki s.a) (K.va s.a)) (s.tk) (s.na) (s.fk) (s.fp))) d_DaysText_takeStep_92 rfl mv_Text_next lk_DaysText_72 rfl rfl rfl rfl rfl rfl rfl rfl ?_
          refine s_Text_next ho.1 hK ?_
          refine sV ?_
          simp only [putH, rC, sg, eV, List.map_cons, List.map_nil, List.set_cons_zero, List.set_cons_succ, List.length_cons, List.length_nil, List.getD_cons_zero, List.getD_cons_succ, Nat.zero_add, Nat.reduceAdd, Nat.reduceLT, if_true, ite_true]
          show WP _ _ _ _ _ (hDX ((dSp y).op) (nI (dSp y).nD) tby tco (K.ki) (K.st) (K.va) tfe tle (nI K.nT) (nI (cNx K s).a) (K.ki (cNx K s).a) (vlT (K.ki (cNx K s).a) (K.va (cNx K s).a)) (woT (K.ki (cNx K s).a) (K.va (cNx K s).a)) ((cNx K s).tk) ((cNx K s).na) ((cNx K s).fk) ((cNx K s).fp) (t.pn) (t.wn) (t.fa) (t.te) (t.fr) (t.to_) (t.ea) (t.no) (nI t.nP) (nI t.nW) (nI t.nL) (t.od) (t.sk) (t.sd) (t.go) ((dSp y).dk) ((dSp y).df) ((dSp y).ds) ((dSp y).dth) (nI (dSp y).nR) (nI (dSp y).nS)) _ _ _ _
          refine wp_iload_n 96 d_DaysText_takeStep_95 rfl rfl ?_
          by_cases h96_0 : woT (K.ki s.a) (K.va s.a) = 11
          · refine wp_tabIn (off := 60) 156 11 d_DaysText_takeStep_96 h96_0 (by decide) (by decide) (by decide) (by decide) ?_
            refine wp_aload_n 157 d_DaysText_takeStep_156 rfl rfl ?_
            refine wp_iconst 158 0 d_DaysText_takeStep_157 rfl (by decide) ?_
            refine wp_iconst 159 0 d_DaysText_takeStep_158 rfl (by decide) ?_
            refine wp_bipush 161 11 d_DaysText_takeStep_159 rfl (by decide) ?_
            refine wp_V3 164 M_DaysText_takeNumberRow 4 d_DaysText_takeStep_161 rfl mv_DaysText_takeNumberRow lk_DaysText_84 rfl rfl rfl rfl rfl ?_
            refine c_DaysText_takeNumberRow (s := cNx K s) (y := dSp y) (cNx_lt ho.1) hK (DPre_R (dSp_pre ho (show y.nS < 30 from nI_ltN (b := 30) h32 (by omega) (by omega)) (cNx_lt ho.1))) ?_
            refine kI ?_
            refine wp_zreturn d_DaysText_takeStep_164 rfl (by first | rfl | exact nbP _) ?_
            have e : (dSt K t s y) = _ := ((((if_pos h12).trans (if_pos (nI_ltN (b := 30) h32 (by omega) (by omega)))).trans (if_neg (fun z => absurd z.2 (Nat.not_le.mpr (nI_ltN (b := 3) h62 (by omega) (by omega)))))).trans (if_pos h96_0))
            rw [e] at hq
            exact hq
          by_cases h96_1 : woT (K.ki s.a) (K.va s.a) = 12
          · refine wp_tabIn (off := 69) 165 12 d_DaysText_takeStep_96 h96_1 (by decide) (by decide) (by decide) (by decide) ?_
            refine wp_aload_n 166 d_DaysText_takeStep_165 rfl rfl ?_
            refine wp_iconst 167 1 d_DaysText_takeStep_166 rfl (by decide) ?_
            refine wp_iconst 168 0 d_DaysText_takeStep_167 rfl (by decide) ?_
            refine wp_bipush 170 11 d_DaysText_takeStep_168 rfl (by decide) ?_
            refine wp_V3 173 M_DaysText_takeNumberRow 4 d_DaysText_takeStep_170 rfl mv_DaysText_takeNumberRow lk_DaysText_84 rfl rfl rfl rfl rfl ?_
            refine c_DaysText_takeNumberRow (s := cNx K s) (y := dSp y) (cNx_lt ho.1) hK (DPre_R (dSp_pre ho (show y.nS < 30 from nI_ltN (b := 30) h32 (by omega) (by omega)) (cNx_lt ho.1))) ?_
            refine kI ?_
            refine wp_zreturn d_DaysText_takeStep_173 rfl (by first | rfl | exact nbP _) ?_
            have e : (dSt K t s y) = _ := (((((if_pos h12).trans (if_pos (nI_ltN (b := 30) h32 (by omega) (by omega)))).trans (if_neg (fun z => absurd z.2 (Nat.not_le.mpr (nI_ltN (b := 3) h62 (by omega) (by omega)))))).trans (if_neg h96_0)).trans (if_pos h96_1))
            rw [e] at hq
            exact hq
          by_cases h96_2 : woT (K.ki s.a) (K.va s.a) = 13
          · refine wp_tabIn (off := 78) 174 13 d_DaysText_takeStep_96 h96_2 (by decide) (by decide) (by decide) (by decide) ?_
            refine wp_aload_n 175 d_DaysText_takeStep_174 rfl rfl ?_
            refine wp_iconst 176 2 d_DaysText_takeStep_175 rfl (by decide) ?_
            refine wp_iconst 177 0 d_DaysText_takeStep_176 rfl (by decide) ?_
            refine wp_bipush 179 11 d_DaysText_takeStep_177 rfl (by decide) ?_
            refine wp_V3 182 M_DaysText_takeNumberRow 4 d_DaysText_takeStep_179 rfl mv_DaysText_takeNumberRow lk_DaysText_84 rfl rfl rfl rfl rfl ?_
            refine c_DaysText_takeNumberRow (s := cNx K s) (y := dSp y) (cNx_lt ho.1) hK (DPre_R (dSp_pre ho (show y.nS < 30 from nI_ltN (b := 30) h32 (by omega) (by omega)) (cNx_lt ho.1))) ?_
            refine kI ?_
            refine wp_zreturn d_DaysText_takeStep_182 rfl (by first | rfl | exact nbP _) ?_
            have e : (dSt K t s y) = _ := ((((((if_pos h12).trans (if_pos (nI_ltN (b := 30) h32 (by omega) (by omega)))).trans (if_neg (fun z => absurd z.2 (Nat.not_le.mpr (nI_ltN (b := 3) h62 (by omega) (by omega)))))).trans (if_neg h96_0)).trans (if_neg h96_1)).trans (if_pos h96_2))
            rw [e] at hq
            exact hq
          by_cases h96_3 : woT (K.ki s.a) (K.va s.a) = 14
          · refine wp_tabIn (off := 87) 183 14 d_DaysText_takeStep_96 h96_3 (by decide) (by decide) (by decide) (by decide) ?_
            refine wp_aload_n 184 d_DaysText_takeStep_183 rfl rfl ?_
            refine wp_V0 187 M_DaysText_takeBelieve 4 d_DaysText_takeStep_184 rfl mv_DaysText_takeBelieve lk_DaysText_88 rfl rfl rfl rfl rfl ?_
            refine c_DaysText_takeBelieve (s := cNx K s) (y := dSp y) (cNx_lt ho.1) hK (DPre_R (dSp_pre ho (show y.nS < 30 from nI_ltN (b := 30) h32 (by omega) (by omega)) (cNx_lt ho.1))) hW ?_
            refine kI ?_
            refine wp_zreturn d_DaysText_takeStep_187 rfl (by first | rfl | exact nbP _) ?_
            have e : (dSt K t s y) = _ := (((((((if_pos h12).trans (if_pos (nI_ltN (b := 30) h32 (by omega) (by omega)))).trans (if_neg (fun z => absurd z.2 (Nat.not_le.mpr (nI_ltN (b := 3) h62 (by omega) (by omega)))))).trans (if_neg h96_0)).trans (if_neg h96_1)).trans (if_neg h96_2)).trans (if_pos h96_3))
            rw [e] at hq
            exact hq
          by_cases h96_4 : woT (K.ki s.a) (K.va s.a) = 15
          · refine wp_tabIn (off := 92) 188 15 d_DaysText_takeStep_96 h96_4 (by decide) (by decide) (by decide) (by decide) ?_
            refine wp_aload_n 189 d_DaysText_takeStep_188 rfl rfl ?_
            refine wp_getfield 192 2 2 d_DaysText_takeStep_189 rfl fl_DaysText_29 rfl rfl ?_
            refine wp_iconst 193 4 d_DaysText_takeStep_192 rfl (by decide) ?_
            refine wp_iconst 194 0 d_DaysText_takeStep_193 rfl (by decide) ?_
            refine wp_iconst 195 0 d_DaysText_takeStep_194 rfl (by decide) ?_
            refine ws_V3 (b' := 0) 198 M_Days_addRow 1 [17, 18, 19, 20] ((hD _ _ _ _ _ _)) d_DaysText_takeStep_195 rfl mv_Days_addRow lk_DaysText_68 rfl rfl rfl rfl rfl rfl rfl (eV_int _ _) (eV_int _ _) (eV_int _ _) rfl ?_
            refine c_Days_addRow (DPre_R (dSp_pre ho (show y.nS < 30 from nI_ltN (b := 30) h32 (by omega) (by omega)) (cNx_lt ho.1))) ?_
            refine sV ?_
            simp only [putH, rC, sg, eV, List.map_cons, List.map_nil, List.set_cons_zero, List.set_cons_succ, List.length_cons, List.length_nil, List.getD_cons_zero, List.getD_cons_succ, Nat.zero_add, Nat.reduceAdd, Nat.reduceLT, if_true, ite_true]
            refine wp_iconst 199 1 d_DaysText_takeStep_198 rfl (by decide) ?_
            refine wp_zreturn d_DaysText_takeStep_199 rfl (by first | rfl | exact nbP _) ?_
            have e : (dSt K t s y) = _ := ((((((((if_pos h12).trans (if_pos (nI_ltN (b := 30) h32 (by omega) (by omega)))).trans (if_neg (fun z => absurd z.2 (Nat.not_le.mpr (nI_ltN (b := 3) h62 (by omega) (by omega)))))).trans (if_neg h96_0)).trans (if_neg h96_1)).trans (if_neg h96_2)).trans (if_neg h96_3)).trans (if_pos h96_4))
            rw [e] at hq
            exact hq
          by_cases h96_5 : woT (K.ki s.a) (K.va s.a) = 16
          · refine wp_tabIn (off := 104) 200 16 d_DaysText_takeStep_96 h96_5 (by decide) (by decide) (by decide) (by decide) ?_
            refine wp_aload_n 201 d_DaysText_takeStep_200 rfl rfl ?_
            refine wp_V0 204 M_DaysText_openRow 2 d_DaysText_takeStep_201 rfl mv_DaysText_openRow lk_DaysText_91 rfl rfl rfl rfl rfl ?_
            refine c_DaysText_openRow (s := cNx K s) (y := dSp y) (show y.nD < 3 from nI_ltN (b := 3) h62 (by omega) (by omega)) ?_
            refine kV ?_
            refine wp_aload_n 205 d_DaysText_takeStep_204 rfl rfl ?_
            refine wp_V0 208 M_DaysText_takeTest 5 d_DaysText_takeStep_205 rfl mv_DaysText_takeTest lk_DaysText_94 rfl rfl rfl rfl rfl ?_
            refine c_DaysText_takeTest (s := cNx K s) (y := dOp (dSp y)) (cNx_lt ho.1) hK (DPre_R (dOp_pre ho (show y.nS < 30 from nI_ltN (b := 30) h32 (by omega) (by omega)) (show y.nD < 3 from nI_ltN (b := 3) h62 (by omega) (by omega)) (cNx_lt ho.1))) hP ?_
            refine kI ?_
            refine wp_zreturn d_DaysText_takeStep_208 rfl (by first | rfl | exact nbP _) ?_
            have e : (dSt K t s y) = _ := (((((((((if_pos h12).trans (if_pos (nI_ltN (b := 30) h32 (by omega) (by omega)))).trans (if_neg (fun z => absurd z.2 (Nat.not_le.mpr (nI_ltN (b := 3) h62 (by omega) (by omega)))))).trans (if_neg h96_0)).trans (if_neg h96_1)).trans (if_neg h96_2)).trans (if_neg h96_3)).trans (if_neg h96_4)).trans (if_pos h96_5))
            rw [e] at hq
            exact hq
          by_cases h96_6 : woT (K.ki s.a) (K.va s.a) = 17
          · refine wp_tabIn (off := 127) 223 17 d_DaysText_takeStep_96 h96_6 (by decide) (by decide) (by decide) (by decide) ?_
            refine wp_aload_n 224 d_DaysText_takeStep_223 rfl rfl ?_
            refine wp_getfield 227 2 2 d_DaysText_takeStep_224 rfl fl_DaysText_29 rfl rfl ?_
            refine wp_iconst 228 5 d_DaysText_takeStep_227 rfl (by decide) ?_
            refine wp_iconst 229 0 d_DaysText_takeStep_228 rfl (by decide) ?_
            refine wp_iconst 230 0 d_DaysText_takeStep_229 rfl (by decide) ?_
            refine ws_V3 (b' := 0) 233 M_Days_addRow 1 [17, 18, 19, 20] ((hD _ _ _ _ _ _)) d_DaysText_takeStep_230 rfl mv_Days_addRow lk_DaysText_68 rfl rfl rfl rfl rfl rfl rfl (eV_int _ _) (eV_int _ _) (eV_int _ _) rfl ?_
            refine c_Days_addRow (DPre_R (dSp_pre ho (show y.nS < 30 from nI_ltN (b := 30) h32 (by omega) (by omega)) (cNx_lt ho.1))) ?_
            refine sV ?_
            simp only [putH, rC, sg, eV, List.map_cons, List.map_nil, List.set_cons_zero, List.set_cons_succ, List.length_cons, List.length_nil, List.getD_cons_zero, List.getD_cons_succ, Nat.zero_add, Nat.reduceAdd, Nat.reduceLT, if_true, ite_true]
            refine wp_iconst 234 1 d_DaysText_takeStep_233 rfl (by decide) ?_
            refine wp_zreturn d_DaysText_takeStep_234 rfl (by first | rfl | exact nbP _) ?_
            have e : (dSt K t s y) = _ := ((((((((((if_pos h12).trans (if_pos (nI_ltN (b := 30) h32 (by omega) (by omega)))).trans (if_neg (fun z => absurd z.2 (Nat.not_le.mpr (nI_ltN (b := 3) h62 (by omega) (by omega)))))).trans (if_neg h96_0)).trans (if_neg h96_1)).trans (if_neg h96_2)).trans (if_neg h96_3)).trans (if_neg h96_4)).trans (if_neg h96_5)).trans (if_neg (fun z => absurd (h96_6.symm.trans z) (by decide))))
            rw [e] at hq
            exact hq
          by_cases h96_7 : woT (K.ki s.a) (K.va s.a) = 18
          · refine wp_tabIn (off := 127) 223 18 d_DaysText_takeStep_96 h96_7 (by decide) (by decide) (by decide) (by decide) ?_
            refine wp_aload_n 224 d_DaysText_takeStep_223 rfl rfl ?_
            refine wp_getfield 227 2 2 d_DaysText_takeStep_224 rfl fl_DaysText_29 rfl rfl ?_
            refine wp_iconst 228 5 d_DaysText_takeStep_227 rfl (by decide) ?_
            refine wp_iconst 229 0 d_DaysText_takeStep_228 rfl (by decide) ?_
            refine wp_iconst 230 0 d_DaysText_takeStep_229 rfl (by decide) ?_
            refine ws_V3 (b' := 0) 233 M_Days_addRow 1 [17, 18, 19, 20] ((hD _ _ _ _ _ _)) d_DaysText_takeStep_230 rfl mv_Days_addRow lk_DaysText_68 rfl rfl rfl rfl rfl rfl rfl (eV_int _ _) (eV_int _ _) (eV_int _ _) rfl ?_
            refine c_Days_addRow (DPre_R (dSp_pre ho (show y.nS < 30 from nI_ltN (b := 30) h32 (by omega) (by omega)) (cNx_lt ho.1))) ?_
            refine sV ?_
            simp only [putH, rC, sg, eV, List.map_cons, List.map_nil, List.set_cons_zero, List.set_cons_succ, List.length_cons, List.length_nil, List.getD_cons_zero, List.getD_cons_succ, Nat.zero_add, Nat.reduceAdd, Nat.reduceLT, if_true, ite_true]
            refine wp_iconst 234 1 d_DaysText_takeStep_233 rfl (by decide) ?_
            refine wp_zreturn d_DaysText_takeStep_234 rfl (by first | rfl | exact nbP _) ?_
            have e : (dSt K t s y) = _ := ((((((((((if_pos h12).trans (if_pos (nI_ltN (b := 30) h32 (by omega) (by omega)))).trans (if_neg (fun z => absurd z.2 (Nat.not_le.mpr (nI_ltN (b := 3) h62 (by omega) (by omega)))))).trans (if_neg h96_0)).trans (if_neg h96_1)).trans (if_neg h96_2)).trans (if_neg h96_3)).trans (if_neg h96_4)).trans (if_neg h96_5)).trans (if_neg (fun z => absurd (h96_7.symm.trans z) (by decide))))
            rw [e] at hq
            exact hq
          by_cases h96_8 : woT (K.ki s.a) (K.va s.a) = 19
          · refine wp_tabIn (off := 127) 223 19 d_DaysText_takeStep_96 h96_8 (by decide) (by decide) (by decide) (by decide) ?_
            refine wp_aload_n 224 d_DaysText_takeStep_223 rfl rfl ?_
            refine wp_getfield 227 2 2 d_DaysText_takeStep_224 rfl fl_DaysText_29 rfl rfl ?_
            refine wp_iconst 228 5 d_DaysText_takeStep_227 rfl (by decide) ?_
            refine wp_iconst 229 0 d_DaysText_takeStep_228 rfl (by decide) ?_
            refine wp_iconst 230 0 d_DaysText_takeStep_229 rfl (by decide) ?_
            refine ws_V3 (b' := 0) 233 M_Days_addRow 1 [17, 18, 19, 20] ((hD _ _ _ _ _ _)) d_DaysText_takeStep_230 rfl mv_Days_addRow lk_DaysText_68 rfl rfl rfl rfl rfl rfl rfl (eV_int _ _) (eV_int _ _) (eV_int _ _) rfl ?_
            refine c_Days_addRow (DPre_R (dSp_pre ho (show y.nS < 30 from nI_ltN (b := 30) h32 (by omega) (by omega)) (cNx_lt ho.1))) ?_
            refine sV ?_
            simp only [putH, rC, sg, eV, List.map_cons, List.map_nil, List.set_cons_zero, List.set_cons_succ, List.length_cons, List.length_nil, List.getD_cons_zero, List.getD_cons_succ, Nat.zero_add, Nat.reduceAdd, Nat.reduceLT, if_true, ite_true]
            refine wp_iconst 234 1 d_DaysText_takeStep_233 rfl (by decide) ?_
            refine wp_zreturn d_DaysText_takeStep_234 rfl (by first | rfl | exact nbP _) ?_
            have e : (dSt K t s y) = _ := ((((((((((if_pos h12).trans (if_pos (nI_ltN (b := 30) h32 (by omega) (by omega)))).trans (if_neg (fun z => absurd z.2 (Nat.not_le.mpr (nI_ltN (b := 3) h62 (by omega) (by omega)))))).trans (if_neg h96_0)).trans (if_neg h96_1)).trans (if_neg h96_2)).trans (if_neg h96_3)).trans (if_neg h96_4)).trans (if_neg h96_5)).trans (if_neg (fun z => absurd (h96_8.symm.trans z) (by decide))))
            rw [e] at hq
            exact hq
          by_cases h96_9 : woT (K.ki s.a) (K.va s.a) = 20
          · refine wp_tabIn (off := 127) 223 20 d_DaysText_takeStep_96 h96_9 (by decide) (by decide) (by decide) (by decide) ?_
            refine wp_aload_n 224 d_DaysText_takeStep_223 rfl rfl ?_
            refine wp_getfield 227 2 2 d_DaysText_takeStep_224 rfl fl_DaysText_29 rfl rfl ?_
            refine wp_iconst 228 5 d_DaysText_takeStep_227 rfl (by decide) ?_
            refine wp_iconst 229 0 d_DaysText_takeStep_228 rfl (by decide) ?_
            refine wp_iconst 230 0 d_DaysText_takeStep_229 rfl (by decide) ?_
            refine ws_V3 (b' := 0) 233 M_Days_addRow 1 [17, 18, 19, 20] ((hD _ _ _ _ _ _)) d_DaysText_takeStep_230 rfl mv_Days_addRow lk_DaysText_68 rfl rfl rfl rfl rfl rfl rfl (eV_int _ _) (eV_int _ _) (eV_int _ _) rfl ?_
            refine c_Days_addRow (DPre_R (dSp_pre ho (show y.nS < 30 from nI_ltN (b := 30) h32 (by omega) (by omega)) (cNx_lt ho.1))) ?_
            refine sV ?_
            simp only [putH, rC, sg, eV, List.map_cons, List.map_nil, List.set_cons_zero, List.set_cons_succ, List.length_cons, List.length_nil, List.getD_cons_zero, List.getD_cons_succ, Nat.zero_add, Nat.reduceAdd, Nat.reduceLT, if_true, ite_true]
            refine wp_iconst 234 1 d_DaysText_takeStep_233 rfl (by decide) ?_
            refine wp_zreturn d_DaysText_takeStep_234 rfl (by first | rfl | exact nbP _) ?_
            have e : (dSt K t s y) = _ := ((((((((((if_pos h12).trans (if_pos (nI_ltN (b := 30) h32 (by omega) (by omega)))).trans (if_neg (fun z => absurd z.2 (Nat.not_le.mpr (nI_ltN (b := 3) h62 (by omega) (by omega)))))).trans (if_neg h96_0)).trans (if_neg h96_1)).trans (if_neg h96_2)).trans (if_neg h96_3)).trans (if_neg h96_4)).trans (if_neg h96_5)).trans (if_neg (fun z => absurd (h96_9.symm.trans z) (by decide))))
            rw [e] at hq
            exact hq
          by_cases h96_10 : woT (K.ki s.a) (K.va s.a) = 21
          · exact absurd (h48.symm.trans h96_10) (by decide)
          refine wp_tabOut 223 d_DaysText_takeStep_96 (sw_outL 11 11 (by omega) (fun i hi => match i, hi with
              | 0, _ => h96_0
              | 1, _ => h96_1
              | 2, _ => h96_2
              | 3, _ => h96_3
              | 4, _ => h96_4
              | 5, _ => h96_5
              | 6, _ => h96_6
              | 7, _ => h96_7
              | 8, _ => h96_8
              | 9, _ => h96_9
              | 10, _ => h96_10
              | i + 11, hi => absurd hi (by omega))) (by decide) ?_
          refine wp_aload_n 224 d_DaysText_takeStep_223 rfl rfl ?_
          refine wp_getfield 227 2 2 d_DaysText_takeStep_224 rfl fl_DaysText_29 rfl rfl ?_
          refine wp_iconst 228 5 d_DaysText_takeStep_227 rfl (by decide) ?_
          refine wp_iconst 229 0 d_DaysText_takeStep_228 rfl (by decide) ?_
          refine wp_iconst 230 0 d_DaysText_takeStep_229 rfl (by decide) ?_
          refine ws_V3 (b' := 0) 233 M_Days_addRow 1 [17, 18, 19, 20] ((hD _ _ _ _ _ _)) d_DaysText_takeStep_230 rfl mv_Days_addRow lk_DaysText_68 rfl rfl rfl rfl rfl rfl rfl (eV_int _ _) (eV_int _ _) (eV_int _ _) rfl ?_
          refine c_Days_addRow (DPre_R (dSp_pre ho (show y.nS < 30 from nI_ltN (b := 30) h32 (by omega) (by omega)) (cNx_lt ho.1))) ?_
          refine sV ?_
          simp only [putH, rC, sg, eV, List.map_cons, List.map_nil, List.set_cons_zero, List.set_cons_succ, List.length_cons, List.length_nil, List.getD_cons_zero, List.getD_cons_succ, Nat.zero_add, Nat.reduceAdd, Nat.reduceLT, if_true, ite_true]
          refine wp_iconst 234 1 d_DaysText_takeStep_233 rfl (by decide) ?_
          refine wp_zreturn d_DaysText_takeStep_234 rfl (by first | rfl | exact nbP _) ?_
          have e : (dSt K t s y) = _ := ((((((((((if_pos h12).trans (if_pos (nI_ltN (b := 30) h32 (by omega) (by omega)))).trans (if_neg (fun z => absurd z.2 (Nat.not_le.mpr (nI_ltN (b := 3) h62 (by omega) (by omega)))))).trans (if_neg h96_0)).trans (if_neg h96_1)).trans (if_neg h96_2)).trans (if_neg h96_3)).trans (if_neg h96_4)).trans (if_neg h96_5)).trans (if_neg h96_10))
          rw [e] at hq
          exact hq
        · refine wp_aload_n 66 d_DaysText_takeStep_65 rfl rfl ?_
          refine wp_getfield 69 2 0 d_DaysText_takeStep_66 rfl fl_DaysText_21 rfl rfl ?_
          refine wp_bipush 71 7 d_DaysText_takeStep_69 rfl (by decide) ?_
          refine ws_V1 (b' := 0) 74 M_Text_faultHere 1 [2, 3, 4, 5, 6, 7] ((hX tby tco (K.ki) (K.st) (K.va) tfe tle (nI K.nT) (nI s.a) (K.ki s.a) (vlT (K.ki s.a) (K.va s.a)) (woT (K.ki s.a) (K.va s.a)) (s.tk) (s.na) (s.fk) (s.fp))) d_DaysText_takeStep_71 rfl mv_Text_faultHere lk_DaysText_81 rfl rfl rfl rfl rfl rfl rfl (eV_int _ _) rfl ?_
          refine s_Text_faultHere ho.1 hK ?_
          refine sI ?_
          simp only [putH, rC, sg, eV, List.map_cons, List.map_nil, List.set_cons_zero, List.set_cons_succ, List.length_cons, List.length_nil, List.getD_cons_zero, List.getD_cons_succ, Nat.zero_add, Nat.reduceAdd, Nat.reduceLT, if_true, ite_true]
          refine wp_zreturn d_DaysText_takeStep_74 rfl (by first | rfl | exact nbP _) ?_
          have e : (dSt K t s y) = _ := (((if_pos h12).trans (if_pos (nI_ltN (b := 30) h32 (by omega) (by omega)))).trans (if_pos ⟨Or.inl h48, nI_nltN (b := 3) h62 (by omega) (by omega)⟩))
          rw [e] at hq
          exact hq
      · refine wp_iload_n 52 d_DaysText_takeStep_51 rfl rfl ?_
        refine wp_bipush 54 21 d_DaysText_takeStep_52 rfl (by decide) ?_
        refine wp_icmp_ne 75 57 d_DaysText_takeStep_54 rfl (by decide) (fun h54 => ?_) (fun h54 => ?_)
        · refine wp_aload_n 76 d_DaysText_takeStep_75 rfl rfl ?_
          refine wp_getfield 79 2 2 d_DaysText_takeStep_76 rfl fl_DaysText_29 rfl rfl ?_
          refine wp_dup 80 d_DaysText_takeStep_79 rfl rfl ?_
          refine wp_getfield 83 1 5 d_DaysText_takeStep_80 rfl fl_DaysText_78 rfl rfl ?_
          refine wp_iconst 84 1 d_DaysText_takeStep_83 rfl (by decide) ?_
          refine wp_iadd 85 d_DaysText_takeStep_84 rfl ?_
          rw [nI_1]
          refine wp_putfield 88 1 5 _ d_DaysText_takeStep_85 rfl fp_DaysText_78 rfl rfl (okP_int _) ?_
          dsimp only [List.set]
          refine wp_aload_n 89 d_DaysText_takeStep_88 rfl rfl ?_
          refine wp_getfield 92 2 0 d_DaysText_takeStep_89 rfl fl_DaysText_21 rfl rfl ?_
          refine ws_V0 (b' := 0) 95 M_Text_next 2 [2, 3, 4, 5, 6, 7] ((hX tby tco (K.ki) (K.st) (K.va) tfe tle (nI K.nT) (nI s.a) (K.ki s.a) (vlT (K.ki s.a) (K.va s.a)) (woT (K.ki s.a) (K.va s.a)) (s.tk) (s.na) (s.fk) (s.fp))) d_DaysText_takeStep_92 rfl mv_Text_next lk_DaysText_72 rfl rfl rfl rfl rfl rfl rfl rfl ?_
          refine s_Text_next ho.1 hK ?_
          refine sV ?_
          simp only [putH, rC, sg, eV, List.map_cons, List.map_nil, List.set_cons_zero, List.set_cons_succ, List.length_cons, List.length_nil, List.getD_cons_zero, List.getD_cons_succ, Nat.zero_add, Nat.reduceAdd, Nat.reduceLT, if_true, ite_true]
          show WP _ _ _ _ _ (hDX ((dSp y).op) (nI (dSp y).nD) tby tco (K.ki) (K.st) (K.va) tfe tle (nI K.nT) (nI (cNx K s).a) (K.ki (cNx K s).a) (vlT (K.ki (cNx K s).a) (K.va (cNx K s).a)) (woT (K.ki (cNx K s).a) (K.va (cNx K s).a)) ((cNx K s).tk) ((cNx K s).na) ((cNx K s).fk) ((cNx K s).fp) (t.pn) (t.wn) (t.fa) (t.te) (t.fr) (t.to_) (t.ea) (t.no) (nI t.nP) (nI t.nW) (nI t.nL) (t.od) (t.sk) (t.sd) (t.go) ((dSp y).dk) ((dSp y).df) ((dSp y).ds) ((dSp y).dth) (nI (dSp y).nR) (nI (dSp y).nS)) _ _ _ _
          refine wp_iload_n 96 d_DaysText_takeStep_95 rfl rfl ?_
          by_cases h96_0 : woT (K.ki s.a) (K.va s.a) = 11
          · refine wp_tabIn (off := 60) 156 11 d_DaysText_takeStep_96 h96_0 (by decide) (by decide) (by decide) (by decide) ?_
            refine wp_aload_n 157 d_DaysText_takeStep_156 rfl rfl ?_
            refine wp_iconst 158 0 d_DaysText_takeStep_157 rfl (by decide) ?_
            refine wp_iconst 159 0 d_DaysText_takeStep_158 rfl (by decide) ?_
            refine wp_bipush 161 11 d_DaysText_takeStep_159 rfl (by decide) ?_
            refine wp_V3 164 M_DaysText_takeNumberRow 4 d_DaysText_takeStep_161 rfl mv_DaysText_takeNumberRow lk_DaysText_84 rfl rfl rfl rfl rfl ?_
            refine c_DaysText_takeNumberRow (s := cNx K s) (y := dSp y) (cNx_lt ho.1) hK (DPre_R (dSp_pre ho (show y.nS < 30 from nI_ltN (b := 30) h32 (by omega) (by omega)) (cNx_lt ho.1))) ?_
            refine kI ?_
            refine wp_zreturn d_DaysText_takeStep_164 rfl (by first | rfl | exact nbP _) ?_
            have e : (dSt K t s y) = _ := ((((if_pos h12).trans (if_pos (nI_ltN (b := 30) h32 (by omega) (by omega)))).trans (if_neg (fun z => z.1.elim h48 h54))).trans (if_pos h96_0))
            rw [e] at hq
            exact hq
          by_cases h96_1 : woT (K.ki s.a) (K.va s.a) = 12
          · refine wp_tabIn (off := 69) 165 12 d_DaysText_takeStep_96 h96_1 (by decide) (by decide) (by decide) (by decide) ?_
            refine wp_aload_n 166 d_DaysText_takeStep_165 rfl rfl ?_
            refine wp_iconst 167 1 d_DaysText_takeStep_166 rfl (by decide) ?_
            refine wp_iconst 168 0 d_DaysText_takeStep_167 rfl (by decide) ?_
            refine wp_bipush 170 11 d_DaysText_takeStep_168 rfl (by decide) ?_
            refine wp_V3 173 M_DaysText_takeNumberRow 4 d_DaysText_takeStep_170 rfl mv_DaysText_takeNumberRow lk_DaysText_84 rfl rfl rfl rfl rfl ?_
            refine c_DaysText_takeNumberRow (s := cNx K s) (y := dSp y) (cNx_lt ho.1) hK (DPre_R (dSp_pre ho (show y.nS < 30 from nI_ltN (b := 30) h32 (by omega) (by omega)) (cNx_lt ho.1))) ?_
            refine kI ?_
            refine wp_zreturn d_DaysText_takeStep_173 rfl (by first | rfl | exact nbP _) ?_
            have e : (dSt K t s y) = _ := (((((if_pos h12).trans (if_pos (nI_ltN (b := 30) h32 (by omega) (by omega)))).trans (if_neg (fun z => z.1.elim h48 h54))).trans (if_neg h96_0)).trans (if_pos h96_1))
            rw [e] at hq
            exact hq
          by_cases h96_2 : woT (K.ki s.a) (K.va s.a) = 13
          · refine wp_tabIn (off := 78) 174 13 d_DaysText_takeStep_96 h96_2 (by decide) (by decide) (by decide) (by decide) ?_
            refine wp_aload_n 175 d_DaysText_takeStep_174 rfl rfl ?_
            refine wp_iconst 176 2 d_DaysText_takeStep_175 rfl (by decide) ?_
            refine wp_iconst 177 0 d_DaysText_takeStep_176 rfl (by decide) ?_
            refine wp_bipush 179 11 d_DaysText_takeStep_177 rfl (by decide) ?_
            refine wp_V3 182 M_DaysText_takeNumberRow 4 d_DaysText_takeStep_179 rfl mv_DaysText_takeNumberRow lk_DaysText_84 rfl rfl rfl rfl rfl ?_
            refine c_DaysText_takeNumberRow (s := cNx K s) (y := dSp y) (cNx_lt ho.1) hK (DPre_R (dSp_pre ho (show y.nS < 30 from nI_ltN (b := 30) h32 (by omega) (by omega)) (cNx_lt ho.1))) ?_
            refine kI ?_
            refine wp_zreturn d_DaysText_takeStep_182 rfl (by first | rfl | exact nbP _) ?_
            have e : (dSt K t s y) = _ := ((((((if_pos h12).trans (if_pos (nI_ltN (b := 30) h32 (by omega) (by omega)))).trans (if_neg (fun z => z.1.elim h48 h54))).trans (if_neg h96_0)).trans (if_neg h96_1)).trans (if_pos h96_2))
            rw [e] at hq
            exact hq
          by_cases h96_3 : woT (K.ki s.a) (K.va s.a) = 14
          · refine wp_tabIn (off := 87) 183 14 d_DaysText_takeStep_96 h96_3 (by decide) (by decide) (by decide) (by decide) ?_
            refine wp_aload_n 184 d_DaysText_takeStep_183 rfl rfl ?_
            refine wp_V0 187 M_DaysText_takeBelieve 4 d_DaysText_takeStep_184 rfl mv_DaysText_takeBelieve lk_DaysText_88 rfl rfl rfl rfl rfl ?_
            refine c_DaysText_takeBelieve (s := cNx K s) (y := dSp y) (cNx_lt ho.1) hK (DPre_R (dSp_pre ho (show y.nS < 30 from nI_ltN (b := 30) h32 (by omega) (by omega)) (cNx_lt ho.1))) hW ?_
            refine kI ?_
            refine wp_zreturn d_DaysText_takeStep_187 rfl (by first | rfl | exact nbP _) ?_
            have e : (dSt K t s y) = _ := (((((((if_pos h12).trans (if_pos (nI_ltN (b := 30) h32 (by omega) (by omega)))).trans (if_neg (fun z => z.1.elim h48 h54))).trans (if_neg h96_0)).trans (if_neg h96_1)).trans (if_neg h96_2)).trans (if_pos h96_3))
            rw [e] at hq
            exact hq
          by_cases h96_4 : woT (K.ki s.a) (K.va s.a) = 15
          · refine wp_tabIn (off := 92) 188 15 d_DaysText_takeStep_96 h96_4 (by decide) (by decide) (by decide) (by decide) ?_
            refine wp_aload_n 189 d_DaysText_takeStep_188 rfl rfl ?_
            refine wp_getfield 192 2 2 d_DaysText_takeStep_189 rfl fl_DaysText_29 rfl rfl ?_
            refine wp_iconst 193 4 d_DaysText_takeStep_192 rfl (by decide) ?_
            refine wp_iconst 194 0 d_DaysText_takeStep_193 rfl (by decide) ?_
            refine wp_iconst 195 0 d_DaysText_takeStep_194 rfl (by decide) ?_
            refine ws_V3 (b' := 0) 198 M_Days_addRow 1 [17, 18, 19, 20] ((hD _ _ _ _ _ _)) d_DaysText_takeStep_195 rfl mv_Days_addRow lk_DaysText_68 rfl rfl rfl rfl rfl rfl rfl (eV_int _ _) (eV_int _ _) (eV_int _ _) rfl ?_
            refine c_Days_addRow (DPre_R (dSp_pre ho (show y.nS < 30 from nI_ltN (b := 30) h32 (by omega) (by omega)) (cNx_lt ho.1))) ?_
            refine sV ?_
            simp only [putH, rC, sg, eV, List.map_cons, List.map_nil, List.set_cons_zero, List.set_cons_succ, List.length_cons, List.length_nil, List.getD_cons_zero, List.getD_cons_succ, Nat.zero_add, Nat.reduceAdd, Nat.reduceLT, if_true, ite_true]
            refine wp_iconst 199 1 d_DaysText_takeStep_198 rfl (by decide) ?_
            refine wp_zreturn d_DaysText_takeStep_199 rfl (by first | rfl | exact nbP _) ?_
            have e : (dSt K t s y) = _ := ((((((((if_pos h12).trans (if_pos (nI_ltN (b := 30) h32 (by omega) (by omega)))).trans (if_neg (fun z => z.1.elim h48 h54))).trans (if_neg h96_0)).trans (if_neg h96_1)).trans (if_neg h96_2)).trans (if_neg h96_3)).trans (if_pos h96_4))
            rw [e] at hq
            exact hq
          by_cases h96_5 : woT (K.ki s.a) (K.va s.a) = 16
          · exact absurd h96_5 h48
          by_cases h96_6 : woT (K.ki s.a) (K.va s.a) = 17
          · refine wp_tabIn (off := 127) 223 17 d_DaysText_takeStep_96 h96_6 (by decide) (by decide) (by decide) (by decide) ?_
            refine wp_aload_n 224 d_DaysText_takeStep_223 rfl rfl ?_
            refine wp_getfield 227 2 2 d_DaysText_takeStep_224 rfl fl_DaysText_29 rfl rfl ?_
            refine wp_iconst 228 5 d_DaysText_takeStep_227 rfl (by decide) ?_
            refine wp_iconst 229 0 d_DaysText_takeStep_228 rfl (by decide) ?_
            refine wp_iconst 230 0 d_DaysText_takeStep_229 rfl (by decide) ?_
            refine ws_V3 (b' := 0) 233 M_Days_addRow 1 [17, 18, 19, 20] ((hD _ _ _ _ _ _)) d_DaysText_takeStep_230 rfl mv_Days_addRow lk_DaysText_68 rfl rfl rfl rfl rfl rfl rfl (eV_int _ _) (eV_int _ _) (eV_int _ _) rfl ?_
            refine c_Days_addRow (DPre_R (dSp_pre ho (show y.nS < 30 from nI_ltN (b := 30) h32 (by omega) (by omega)) (cNx_lt ho.1))) ?_
            refine sV ?_
            simp only [putH, rC, sg, eV, List.map_cons, List.map_nil, List.set_cons_zero, List.set_cons_succ, List.length_cons, List.length_nil, List.getD_cons_zero, List.getD_cons_succ, Nat.zero_add, Nat.reduceAdd, Nat.reduceLT, if_true, ite_true]
            refine wp_iconst 234 1 d_DaysText_takeStep_233 rfl (by decide) ?_
            refine wp_zreturn d_DaysText_takeStep_234 rfl (by first | rfl | exact nbP _) ?_
            have e : (dSt K t s y) = _ := ((((((((((if_pos h12).trans (if_pos (nI_ltN (b := 30) h32 (by omega) (by omega)))).trans (if_neg (fun z => z.1.elim h48 h54))).trans (if_neg h96_0)).trans (if_neg h96_1)).trans (if_neg h96_2)).trans (if_neg h96_3)).trans (if_neg h96_4)).trans (if_neg h96_5)).trans (if_neg (fun z => absurd (h96_6.symm.trans z) (by decide))))
            rw [e] at hq
            exact hq
          by_cases h96_7 : woT (K.ki s.a) (K.va s.a) = 18
          · refine wp_tabIn (off := 127) 223 18 d_DaysText_takeStep_96 h96_7 (by decide) (by decide) (by decide) (by decide) ?_
            refine wp_aload_n 224 d_DaysText_takeStep_223 rfl rfl ?_
            refine wp_getfield 227 2 2 d_DaysText_takeStep_224 rfl fl_DaysText_29 rfl rfl ?_
            refine wp_iconst 228 5 d_DaysText_takeStep_227 rfl (by decide) ?_
            refine wp_iconst 229 0 d_DaysText_takeStep_228 rfl (by decide) ?_
            refine wp_iconst 230 0 d_DaysText_takeStep_229 rfl (by decide) ?_
            refine ws_V3 (b' := 0) 233 M_Days_addRow 1 [17, 18, 19, 20] ((hD _ _ _ _ _ _)) d_DaysText_takeStep_230 rfl mv_Days_addRow lk_DaysText_68 rfl rfl rfl rfl rfl rfl rfl (eV_int _ _) (eV_int _ _) (eV_int _ _) rfl ?_
            refine c_Days_addRow (DPre_R (dSp_pre ho (show y.nS < 30 from nI_ltN (b := 30) h32 (by omega) (by omega)) (cNx_lt ho.1))) ?_
            refine sV ?_
            simp only [putH, rC, sg, eV, List.map_cons, List.map_nil, List.set_cons_zero, List.set_cons_succ, List.length_cons, List.length_nil, List.getD_cons_zero, List.getD_cons_succ, Nat.zero_add, Nat.reduceAdd, Nat.reduceLT, if_true, ite_true]
            refine wp_iconst 234 1 d_DaysText_takeStep_233 rfl (by decide) ?_
            refine wp_zreturn d_DaysText_takeStep_234 rfl (by first | rfl | exact nbP _) ?_
            have e : (dSt K t s y) = _ := ((((((((((if_pos h12).trans (if_pos (nI_ltN (b := 30) h32 (by omega) (by omega)))).trans (if_neg (fun z => z.1.elim h48 h54))).trans (if_neg h96_0)).trans (if_neg h96_1)).trans (if_neg h96_2)).trans (if_neg h96_3)).trans (if_neg h96_4)).trans (if_neg h96_5)).trans (if_neg (fun z => absurd (h96_7.symm.trans z) (by decide))))
            rw [e] at hq
            exact hq
          by_cases h96_8 : woT (K.ki s.a) (K.va s.a) = 19
          · refine wp_tabIn (off := 127) 223 19 d_DaysText_takeStep_96 h96_8 (by decide) (by decide) (by decide) (by decide) ?_
            refine wp_aload_n 224 d_DaysText_takeStep_223 rfl rfl ?_
            refine wp_getfield 227 2 2 d_DaysText_takeStep_224 rfl fl_DaysText_29 rfl rfl ?_
            refine wp_iconst 228 5 d_DaysText_takeStep_227 rfl (by decide) ?_
            refine wp_iconst 229 0 d_DaysText_takeStep_228 rfl (by decide) ?_
            refine wp_iconst 230 0 d_DaysText_takeStep_229 rfl (by decide) ?_
            refine ws_V3 (b' := 0) 233 M_Days_addRow 1 [17, 18, 19, 20] ((hD _ _ _ _ _ _)) d_DaysText_takeStep_230 rfl mv_Days_addRow lk_DaysText_68 rfl rfl rfl rfl rfl rfl rfl (eV_int _ _) (eV_int _ _) (eV_int _ _) rfl ?_
            refine c_Days_addRow (DPre_R (dSp_pre ho (show y.nS < 30 from nI_ltN (b := 30) h32 (by omega) (by omega)) (cNx_lt ho.1))) ?_
            refine sV ?_
            simp only [putH, rC, sg, eV, List.map_cons, List.map_nil, List.set_cons_zero, List.set_cons_succ, List.length_cons, List.length_nil, List.getD_cons_zero, List.getD_cons_succ, Nat.zero_add, Nat.reduceAdd, Nat.reduceLT, if_true, ite_true]
            refine wp_iconst 234 1 d_DaysText_takeStep_233 rfl (by decide) ?_
            refine wp_zreturn d_DaysText_takeStep_234 rfl (by first | rfl | exact nbP _) ?_
            have e : (dSt K t s y) = _ := ((((((((((if_pos h12).trans (if_pos (nI_ltN (b := 30) h32 (by omega) (by omega)))).trans (if_neg (fun z => z.1.elim h48 h54))).trans (if_neg h96_0)).trans (if_neg h96_1)).trans (if_neg h96_2)).trans (if_neg h96_3)).trans (if_neg h96_4)).trans (if_neg h96_5)).trans (if_neg (fun z => absurd (h96_8.symm.trans z) (by decide))))
            rw [e] at hq
            exact hq
          by_cases h96_9 : woT (K.ki s.a) (K.va s.a) = 20
          · refine wp_tabIn (off := 127) 223 20 d_DaysText_takeStep_96 h96_9 (by decide) (by decide) (by decide) (by decide) ?_
            refine wp_aload_n 224 d_DaysText_takeStep_223 rfl rfl ?_
            refine wp_getfield 227 2 2 d_DaysText_takeStep_224 rfl fl_DaysText_29 rfl rfl ?_
            refine wp_iconst 228 5 d_DaysText_takeStep_227 rfl (by decide) ?_
            refine wp_iconst 229 0 d_DaysText_takeStep_228 rfl (by decide) ?_
            refine wp_iconst 230 0 d_DaysText_takeStep_229 rfl (by decide) ?_
            refine ws_V3 (b' := 0) 233 M_Days_addRow 1 [17, 18, 19, 20] ((hD _ _ _ _ _ _)) d_DaysText_takeStep_230 rfl mv_Days_addRow lk_DaysText_68 rfl rfl rfl rfl rfl rfl rfl (eV_int _ _) (eV_int _ _) (eV_int _ _) rfl ?_
            refine c_Days_addRow (DPre_R (dSp_pre ho (show y.nS < 30 from nI_ltN (b := 30) h32 (by omega) (by omega)) (cNx_lt ho.1))) ?_
            refine sV ?_
            simp only [putH, rC, sg, eV, List.map_cons, List.map_nil, List.set_cons_zero, List.set_cons_succ, List.length_cons, List.length_nil, List.getD_cons_zero, List.getD_cons_succ, Nat.zero_add, Nat.reduceAdd, Nat.reduceLT, if_true, ite_true]
            refine wp_iconst 234 1 d_DaysText_takeStep_233 rfl (by decide) ?_
            refine wp_zreturn d_DaysText_takeStep_234 rfl (by first | rfl | exact nbP _) ?_
            have e : (dSt K t s y) = _ := ((((((((((if_pos h12).trans (if_pos (nI_ltN (b := 30) h32 (by omega) (by omega)))).trans (if_neg (fun z => z.1.elim h48 h54))).trans (if_neg h96_0)).trans (if_neg h96_1)).trans (if_neg h96_2)).trans (if_neg h96_3)).trans (if_neg h96_4)).trans (if_neg h96_5)).trans (if_neg (fun z => absurd (h96_9.symm.trans z) (by decide))))
            rw [e] at hq
            exact hq
          by_cases h96_10 : woT (K.ki s.a) (K.va s.a) = 21
          · exact absurd h96_10 h54
          refine wp_tabOut 223 d_DaysText_takeStep_96 (sw_outL 11 11 (by omega) (fun i hi => match i, hi with
              | 0, _ => h96_0
              | 1, _ => h96_1
              | 2, _ => h96_2
              | 3, _ => h96_3
              | 4, _ => h96_4
              | 5, _ => h96_5
              | 6, _ => h96_6
              | 7, _ => h96_7
              | 8, _ => h96_8
              | 9, _ => h96_9
              | 10, _ => h96_10
              | i + 11, hi => absurd hi (by omega))) (by decide) ?_
          refine wp_aload_n 224 d_DaysText_takeStep_223 rfl rfl ?_
          refine wp_getfield 227 2 2 d_DaysText_takeStep_224 rfl fl_DaysText_29 rfl rfl ?_
          refine wp_iconst 228 5 d_DaysText_takeStep_227 rfl (by decide) ?_
          refine wp_iconst 229 0 d_DaysText_takeStep_228 rfl (by decide) ?_
          refine wp_iconst 230 0 d_DaysText_takeStep_229 rfl (by decide) ?_
          refine ws_V3 (b' := 0) 233 M_Days_addRow 1 [17, 18, 19, 20] ((hD _ _ _ _ _ _)) d_DaysText_takeStep_230 rfl mv_Days_addRow lk_DaysText_68 rfl rfl rfl rfl rfl rfl rfl (eV_int _ _) (eV_int _ _) (eV_int _ _) rfl ?_
          refine c_Days_addRow (DPre_R (dSp_pre ho (show y.nS < 30 from nI_ltN (b := 30) h32 (by omega) (by omega)) (cNx_lt ho.1))) ?_
          refine sV ?_
          simp only [putH, rC, sg, eV, List.map_cons, List.map_nil, List.set_cons_zero, List.set_cons_succ, List.length_cons, List.length_nil, List.getD_cons_zero, List.getD_cons_succ, Nat.zero_add, Nat.reduceAdd, Nat.reduceLT, if_true, ite_true]
          refine wp_iconst 234 1 d_DaysText_takeStep_233 rfl (by decide) ?_
          refine wp_zreturn d_DaysText_takeStep_234 rfl (by first | rfl | exact nbP _) ?_
          have e : (dSt K t s y) = _ := ((((((((((if_pos h12).trans (if_pos (nI_ltN (b := 30) h32 (by omega) (by omega)))).trans (if_neg (fun z => z.1.elim h48 h54))).trans (if_neg h96_0)).trans (if_neg h96_1)).trans (if_neg h96_2)).trans (if_neg h96_3)).trans (if_neg h96_4)).trans (if_neg h96_5)).trans (if_neg h96_10))
          rw [e] at hq
          exact hq
        · refine wp_aload_n 58 d_DaysText_takeStep_57 rfl rfl ?_
          refine wp_getfield 61 2 4 d_DaysText_takeStep_58 rfl fl_DaysText_17 rfl rfl ?_
          refine wp_iconst 62 3 d_DaysText_takeStep_61 rfl (by decide) ?_
          refine wp_icmp_lt 75 65 d_DaysText_takeStep_62 rfl (by decide) (fun h62 => ?_) (fun h62 => ?_)
          · refine wp_aload_n 76 d_DaysText_takeStep_75 rfl rfl ?_
            refine wp_getfield 79 2 2 d_DaysText_takeStep_76 rfl fl_DaysText_29 rfl rfl ?_
            refine wp_dup 80 d_DaysText_takeStep_79 rfl rfl ?_
            refine wp_getfield 83 1 5 d_DaysText_takeStep_80 rfl fl_DaysText_78 rfl rfl ?_
            refine wp_iconst 84 1 d_DaysText_takeStep_83 rfl (by decide) ?_
            refine wp_iadd 85 d_DaysText_takeStep_84 rfl ?_
            rw [nI_1]
            refine wp_putfield 88 1 5 _ d_DaysText_takeStep_85 rfl fp_DaysText_78 rfl rfl (okP_int _) ?_
            dsimp only [List.set]
            refine wp_aload_n 89 d_DaysText_takeStep_88 rfl rfl ?_
            refine wp_getfield 92 2 0 d_DaysText_takeStep_89 rfl fl_DaysText_21 rfl rfl ?_
            refine ws_V0 (b' := 0) 95 M_Text_next 2 [2, 3, 4, 5, 6, 7] ((hX tby tco (K.ki) (K.st) (K.va) tfe tle (nI K.nT) (nI s.a) (K.ki s.a) (vlT (K.ki s.a) (K.va s.a)) (woT (K.ki s.a) (K.va s.a)) (s.tk) (s.na) (s.fk) (s.fp))) d_DaysText_takeStep_92 rfl mv_Text_next lk_DaysText_72 rfl rfl rfl rfl rfl rfl rfl rfl ?_
            refine s_Text_next ho.1 hK ?_
            refine sV ?_
            simp only [putH, rC, sg, eV, List.map_cons, List.map_nil, List.set_cons_zero, List.set_cons_succ, List.length_cons, List.length_nil, List.getD_cons_zero, List.getD_cons_succ, Nat.zero_add, Nat.reduceAdd, Nat.reduceLT, if_true, ite_true]
            show WP _ _ _ _ _ (hDX ((dSp y).op) (nI (dSp y).nD) tby tco (K.ki) (K.st) (K.va) tfe tle (nI K.nT) (nI (cNx K s).a) (K.ki (cNx K s).a) (vlT (K.ki (cNx K s).a) (K.va (cNx K s).a)) (woT (K.ki (cNx K s).a) (K.va (cNx K s).a)) ((cNx K s).tk) ((cNx K s).na) ((cNx K s).fk) ((cNx K s).fp) (t.pn) (t.wn) (t.fa) (t.te) (t.fr) (t.to_) (t.ea) (t.no) (nI t.nP) (nI t.nW) (nI t.nL) (t.od) (t.sk) (t.sd) (t.go) ((dSp y).dk) ((dSp y).df) ((dSp y).ds) ((dSp y).dth) (nI (dSp y).nR) (nI (dSp y).nS)) _ _ _ _
            refine wp_iload_n 96 d_DaysText_takeStep_95 rfl rfl ?_
            by_cases h96_0 : woT (K.ki s.a) (K.va s.a) = 11
            · refine wp_tabIn (off := 60) 156 11 d_DaysText_takeStep_96 h96_0 (by decide) (by decide) (by decide) (by decide) ?_
              refine wp_aload_n 157 d_DaysText_takeStep_156 rfl rfl ?_
              refine wp_iconst 158 0 d_DaysText_takeStep_157 rfl (by decide) ?_
              refine wp_iconst 159 0 d_DaysText_takeStep_158 rfl (by decide) ?_
              refine wp_bipush 161 11 d_DaysText_takeStep_159 rfl (by decide) ?_
              refine wp_V3 164 M_DaysText_takeNumberRow 4 d_DaysText_takeStep_161 rfl mv_DaysText_takeNumberRow lk_DaysText_84 rfl rfl rfl rfl rfl ?_
              refine c_DaysText_takeNumberRow (s := cNx K s) (y := dSp y) (cNx_lt ho.1) hK (DPre_R (dSp_pre ho (show y.nS < 30 from nI_ltN (b := 30) h32 (by omega) (by omega)) (cNx_lt ho.1))) ?_
              refine kI ?_
              refine wp_zreturn d_DaysText_takeStep_164 rfl (by first | rfl | exact nbP _) ?_
              have e : (dSt K t s y) = _ := ((((if_pos h12).trans (if_pos (nI_ltN (b := 30) h32 (by omega) (by omega)))).trans (if_neg (fun z => absurd z.2 (Nat.not_le.mpr (nI_ltN (b := 3) h62 (by omega) (by omega)))))).trans (if_pos h96_0))
              rw [e] at hq
              exact hq
            by_cases h96_1 : woT (K.ki s.a) (K.va s.a) = 12
            · refine wp_tabIn (off := 69) 165 12 d_DaysText_takeStep_96 h96_1 (by decide) (by decide) (by decide) (by decide) ?_
              refine wp_aload_n 166 d_DaysText_takeStep_165 rfl rfl ?_
              refine wp_iconst 167 1 d_DaysText_takeStep_166 rfl (by decide) ?_
              refine wp_iconst 168 0 d_DaysText_takeStep_167 rfl (by decide) ?_
              refine wp_bipush 170 11 d_DaysText_takeStep_168 rfl (by decide) ?_
              refine wp_V3 173 M_DaysText_takeNumberRow 4 d_DaysText_takeStep_170 rfl mv_DaysText_takeNumberRow lk_DaysText_84 rfl rfl rfl rfl rfl ?_
              refine c_DaysText_takeNumberRow (s := cNx K s) (y := dSp y) (cNx_lt ho.1) hK (DPre_R (dSp_pre ho (show y.nS < 30 from nI_ltN (b := 30) h32 (by omega) (by omega)) (cNx_lt ho.1))) ?_
              refine kI ?_
              refine wp_zreturn d_DaysText_takeStep_173 rfl (by first | rfl | exact nbP _) ?_
              have e : (dSt K t s y) = _ := (((((if_pos h12).trans (if_pos (nI_ltN (b := 30) h32 (by omega) (by omega)))).trans (if_neg (fun z => absurd z.2 (Nat.not_le.mpr (nI_ltN (b := 3) h62 (by omega) (by omega)))))).trans (if_neg h96_0)).trans (if_pos h96_1))
              rw [e] at hq
              exact hq
            by_cases h96_2 : woT (K.ki s.a) (K.va s.a) = 13
            · refine wp_tabIn (off := 78) 174 13 d_DaysText_takeStep_96 h96_2 (by decide) (by decide) (by decide) (by decide) ?_
              refine wp_aload_n 175 d_DaysText_takeStep_174 rfl rfl ?_
              refine wp_iconst 176 2 d_DaysText_takeStep_175 rfl (by decide) ?_
              refine wp_iconst 177 0 d_DaysText_takeStep_176 rfl (by decide) ?_
              refine wp_bipush 179 11 d_DaysText_takeStep_177 rfl (by decide) ?_
              refine wp_V3 182 M_DaysText_takeNumberRow 4 d_DaysText_takeStep_179 rfl mv_DaysText_takeNumberRow lk_DaysText_84 rfl rfl rfl rfl rfl ?_
              refine c_DaysText_takeNumberRow (s := cNx K s) (y := dSp y) (cNx_lt ho.1) hK (DPre_R (dSp_pre ho (show y.nS < 30 from nI_ltN (b := 30) h32 (by omega) (by omega)) (cNx_lt ho.1))) ?_
              refine kI ?_
              refine wp_zreturn d_DaysText_takeStep_182 rfl (by first | rfl | exact nbP _) ?_
              have e : (dSt K t s y) = _ := ((((((if_pos h12).trans (if_pos (nI_ltN (b := 30) h32 (by omega) (by omega)))).trans (if_neg (fun z => absurd z.2 (Nat.not_le.mpr (nI_ltN (b := 3) h62 (by omega) (by omega)))))).trans (if_neg h96_0)).trans (if_neg h96_1)).trans (if_pos h96_2))
              rw [e] at hq
              exact hq
            by_cases h96_3 : woT (K.ki s.a) (K.va s.a) = 14
            · refine wp_tabIn (off := 87) 183 14 d_DaysText_takeStep_96 h96_3 (by decide) (by decide) (by decide) (by decide) ?_
              refine wp_aload_n 184 d_DaysText_takeStep_183 rfl rfl ?_
              refine wp_V0 187 M_DaysText_takeBelieve 4 d_DaysText_takeStep_184 rfl mv_DaysText_takeBelieve lk_DaysText_88 rfl rfl rfl rfl rfl ?_
              refine c_DaysText_takeBelieve (s := cNx K s) (y := dSp y) (cNx_lt ho.1) hK (DPre_R (dSp_pre ho (show y.nS < 30 from nI_ltN (b := 30) h32 (by omega) (by omega)) (cNx_lt ho.1))) hW ?_
              refine kI ?_
              refine wp_zreturn d_DaysText_takeStep_187 rfl (by first | rfl | exact nbP _) ?_
              have e : (dSt K t s y) = _ := (((((((if_pos h12).trans (if_pos (nI_ltN (b := 30) h32 (by omega) (by omega)))).trans (if_neg (fun z => absurd z.2 (Nat.not_le.mpr (nI_ltN (b := 3) h62 (by omega) (by omega)))))).trans (if_neg h96_0)).trans (if_neg h96_1)).trans (if_neg h96_2)).trans (if_pos h96_3))
              rw [e] at hq
              exact hq
            by_cases h96_4 : woT (K.ki s.a) (K.va s.a) = 15
            · refine wp_tabIn (off := 92) 188 15 d_DaysText_takeStep_96 h96_4 (by decide) (by decide) (by decide) (by decide) ?_
              refine wp_aload_n 189 d_DaysText_takeStep_188 rfl rfl ?_
              refine wp_getfield 192 2 2 d_DaysText_takeStep_189 rfl fl_DaysText_29 rfl rfl ?_
              refine wp_iconst 193 4 d_DaysText_takeStep_192 rfl (by decide) ?_
              refine wp_iconst 194 0 d_DaysText_takeStep_193 rfl (by decide) ?_
              refine wp_iconst 195 0 d_DaysText_takeStep_194 rfl (by decide) ?_
              refine ws_V3 (b' := 0) 198 M_Days_addRow 1 [17, 18, 19, 20] ((hD _ _ _ _ _ _)) d_DaysText_takeStep_195 rfl mv_Days_addRow lk_DaysText_68 rfl rfl rfl rfl rfl rfl rfl (eV_int _ _) (eV_int _ _) (eV_int _ _) rfl ?_
              refine c_Days_addRow (DPre_R (dSp_pre ho (show y.nS < 30 from nI_ltN (b := 30) h32 (by omega) (by omega)) (cNx_lt ho.1))) ?_
              refine sV ?_
              simp only [putH, rC, sg, eV, List.map_cons, List.map_nil, List.set_cons_zero, List.set_cons_succ, List.length_cons, List.length_nil, List.getD_cons_zero, List.getD_cons_succ, Nat.zero_add, Nat.reduceAdd, Nat.reduceLT, if_true, ite_true]
              refine wp_iconst 199 1 d_DaysText_takeStep_198 rfl (by decide) ?_
              refine wp_zreturn d_DaysText_takeStep_199 rfl (by first | rfl | exact nbP _) ?_
              have e : (dSt K t s y) = _ := ((((((((if_pos h12).trans (if_pos (nI_ltN (b := 30) h32 (by omega) (by omega)))).trans (if_neg (fun z => absurd z.2 (Nat.not_le.mpr (nI_ltN (b := 3) h62 (by omega) (by omega)))))).trans (if_neg h96_0)).trans (if_neg h96_1)).trans (if_neg h96_2)).trans (if_neg h96_3)).trans (if_pos h96_4))
              rw [e] at hq
              exact hq
            by_cases h96_5 : woT (K.ki s.a) (K.va s.a) = 16
            · exact absurd h96_5 h48
            by_cases h96_6 : woT (K.ki s.a) (K.va s.a) = 17
            · refine wp_tabIn (off := 127) 223 17 d_DaysText_takeStep_96 h96_6 (by decide) (by decide) (by decide) (by decide) ?_
              refine wp_aload_n 224 d_DaysText_takeStep_223 rfl rfl ?_
              refine wp_getfield 227 2 2 d_DaysText_takeStep_224 rfl fl_DaysText_29 rfl rfl ?_
              refine wp_iconst 228 5 d_DaysText_takeStep_227 rfl (by decide) ?_
              refine wp_iconst 229 0 d_DaysText_takeStep_228 rfl (by decide) ?_
              refine wp_iconst 230 0 d_DaysText_takeStep_229 rfl (by decide) ?_
              refine ws_V3 (b' := 0) 233 M_Days_addRow 1 [17, 18, 19, 20] ((hD _ _ _ _ _ _)) d_DaysText_takeStep_230 rfl mv_Days_addRow lk_DaysText_68 rfl rfl rfl rfl rfl rfl rfl (eV_int _ _) (eV_int _ _) (eV_int _ _) rfl ?_
              refine c_Days_addRow (DPre_R (dSp_pre ho (show y.nS < 30 from nI_ltN (b := 30) h32 (by omega) (by omega)) (cNx_lt ho.1))) ?_
              refine sV ?_
              simp only [putH, rC, sg, eV, List.map_cons, List.map_nil, List.set_cons_zero, List.set_cons_succ, List.length_cons, List.length_nil, List.getD_cons_zero, List.getD_cons_succ, Nat.zero_add, Nat.reduceAdd, Nat.reduceLT, if_true, ite_true]
              refine wp_iconst 234 1 d_DaysText_takeStep_233 rfl (by decide) ?_
              refine wp_zreturn d_DaysText_takeStep_234 rfl (by first | rfl | exact nbP _) ?_
              have e : (dSt K t s y) = _ := ((((((((((if_pos h12).trans (if_pos (nI_ltN (b := 30) h32 (by omega) (by omega)))).trans (if_neg (fun z => absurd z.2 (Nat.not_le.mpr (nI_ltN (b := 3) h62 (by omega) (by omega)))))).trans (if_neg h96_0)).trans (if_neg h96_1)).trans (if_neg h96_2)).trans (if_neg h96_3)).trans (if_neg h96_4)).trans (if_neg h96_5)).trans (if_neg (fun z => absurd (h96_6.symm.trans z) (by decide))))
              rw [e] at hq
              exact hq
            by_cases h96_7 : woT (K.ki s.a) (K.va s.a) = 18
            · refine wp_tabIn (off := 127) 223 18 d_DaysText_takeStep_96 h96_7 (by decide) (by decide) (by decide) (by decide) ?_
              refine wp_aload_n 224 d_DaysText_takeStep_223 rfl rfl ?_
              refine wp_getfield 227 2 2 d_DaysText_takeStep_224 rfl fl_DaysText_29 rfl rfl ?_
              refine wp_iconst 228 5 d_DaysText_takeStep_227 rfl (by decide) ?_
              refine wp_iconst 229 0 d_DaysText_takeStep_228 rfl (by decide) ?_
              refine wp_iconst 230 0 d_DaysText_takeStep_229 rfl (by decide) ?_
              refine ws_V3 (b' := 0) 233 M_Days_addRow 1 [17, 18, 19, 20] ((hD _ _ _ _ _ _)) d_DaysText_takeStep_230 rfl mv_Days_addRow lk_DaysText_68 rfl rfl rfl rfl rfl rfl rfl (eV_int _ _) (eV_int _ _) (eV_int _ _) rfl ?_
              refine c_Days_addRow (DPre_R (dSp_pre ho (show y.nS < 30 from nI_ltN (b := 30) h32 (by omega) (by omega)) (cNx_lt ho.1))) ?_
              refine sV ?_
              simp only [putH, rC, sg, eV, List.map_cons, List.map_nil, List.set_cons_zero, List.set_cons_succ, List.length_cons, List.length_nil, List.getD_cons_zero, List.getD_cons_succ, Nat.zero_add, Nat.reduceAdd, Nat.reduceLT, if_true, ite_true]
              refine wp_iconst 234 1 d_DaysText_takeStep_233 rfl (by decide) ?_
              refine wp_zreturn d_DaysText_takeStep_234 rfl (by first | rfl | exact nbP _) ?_
              have e : (dSt K t s y) = _ := ((((((((((if_pos h12).trans (if_pos (nI_ltN (b := 30) h32 (by omega) (by omega)))).trans (if_neg (fun z => absurd z.2 (Nat.not_le.mpr (nI_ltN (b := 3) h62 (by omega) (by omega)))))).trans (if_neg h96_0)).trans (if_neg h96_1)).trans (if_neg h96_2)).trans (if_neg h96_3)).trans (if_neg h96_4)).trans (if_neg h96_5)).trans (if_neg (fun z => absurd (h96_7.symm.trans z) (by decide))))
              rw [e] at hq
              exact hq
            by_cases h96_8 : woT (K.ki s.a) (K.va s.a) = 19
            · refine wp_tabIn (off := 127) 223 19 d_DaysText_takeStep_96 h96_8 (by decide) (by decide) (by decide) (by decide) ?_
              refine wp_aload_n 224 d_DaysText_takeStep_223 rfl rfl ?_
              refine wp_getfield 227 2 2 d_DaysText_takeStep_224 rfl fl_DaysText_29 rfl rfl ?_
              refine wp_iconst 228 5 d_DaysText_takeStep_227 rfl (by decide) ?_
              refine wp_iconst 229 0 d_DaysText_takeStep_228 rfl (by decide) ?_
              refine wp_iconst 230 0 d_DaysText_takeStep_229 rfl (by decide) ?_
              refine ws_V3 (b' := 0) 233 M_Days_addRow 1 [17, 18, 19, 20] ((hD _ _ _ _ _ _)) d_DaysText_takeStep_230 rfl mv_Days_addRow lk_DaysText_68 rfl rfl rfl rfl rfl rfl rfl (eV_int _ _) (eV_int _ _) (eV_int _ _) rfl ?_
              refine c_Days_addRow (DPre_R (dSp_pre ho (show y.nS < 30 from nI_ltN (b := 30) h32 (by omega) (by omega)) (cNx_lt ho.1))) ?_
              refine sV ?_
              simp only [putH, rC, sg, eV, List.map_cons, List.map_nil, List.set_cons_zero, List.set_cons_succ, List.length_cons, List.length_nil, List.getD_cons_zero, List.getD_cons_succ, Nat.zero_add, Nat.reduceAdd, Nat.reduceLT, if_true, ite_true]
              refine wp_iconst 234 1 d_DaysText_takeStep_233 rfl (by decide) ?_
              refine wp_zreturn d_DaysText_takeStep_234 rfl (by first | rfl | exact nbP _) ?_
              have e : (dSt K t s y) = _ := ((((((((((if_pos h12).trans (if_pos (nI_ltN (b := 30) h32 (by omega) (by omega)))).trans (if_neg (fun z => absurd z.2 (Nat.not_le.mpr (nI_ltN (b := 3) h62 (by omega) (by omega)))))).trans (if_neg h96_0)).trans (if_neg h96_1)).trans (if_neg h96_2)).trans (if_neg h96_3)).trans (if_neg h96_4)).trans (if_neg h96_5)).trans (if_neg (fun z => absurd (h96_8.symm.trans z) (by decide))))
              rw [e] at hq
              exact hq
            by_cases h96_9 : woT (K.ki s.a) (K.va s.a) = 20
            · refine wp_tabIn (off := 127) 223 20 d_DaysText_takeStep_96 h96_9 (by decide) (by decide) (by decide) (by decide) ?_
              refine wp_aload_n 224 d_DaysText_takeStep_223 rfl rfl ?_
              refine wp_getfield 227 2 2 d_DaysText_takeStep_224 rfl fl_DaysText_29 rfl rfl ?_
              refine wp_iconst 228 5 d_DaysText_takeStep_227 rfl (by decide) ?_
              refine wp_iconst 229 0 d_DaysText_takeStep_228 rfl (by decide) ?_
              refine wp_iconst 230 0 d_DaysText_takeStep_229 rfl (by decide) ?_
              refine ws_V3 (b' := 0) 233 M_Days_addRow 1 [17, 18, 19, 20] ((hD _ _ _ _ _ _)) d_DaysText_takeStep_230 rfl mv_Days_addRow lk_DaysText_68 rfl rfl rfl rfl rfl rfl rfl (eV_int _ _) (eV_int _ _) (eV_int _ _) rfl ?_
              refine c_Days_addRow (DPre_R (dSp_pre ho (show y.nS < 30 from nI_ltN (b := 30) h32 (by omega) (by omega)) (cNx_lt ho.1))) ?_
              refine sV ?_
              simp only [putH, rC, sg, eV, List.map_cons, List.map_nil, List.set_cons_zero, List.set_cons_succ, List.length_cons, List.length_nil, List.getD_cons_zero, List.getD_cons_succ, Nat.zero_add, Nat.reduceAdd, Nat.reduceLT, if_true, ite_true]
              refine wp_iconst 234 1 d_DaysText_takeStep_233 rfl (by decide) ?_
              refine wp_zreturn d_DaysText_takeStep_234 rfl (by first | rfl | exact nbP _) ?_
              have e : (dSt K t s y) = _ := ((((((((((if_pos h12).trans (if_pos (nI_ltN (b := 30) h32 (by omega) (by omega)))).trans (if_neg (fun z => absurd z.2 (Nat.not_le.mpr (nI_ltN (b := 3) h62 (by omega) (by omega)))))).trans (if_neg h96_0)).trans (if_neg h96_1)).trans (if_neg h96_2)).trans (if_neg h96_3)).trans (if_neg h96_4)).trans (if_neg h96_5)).trans (if_neg (fun z => absurd (h96_9.symm.trans z) (by decide))))
              rw [e] at hq
              exact hq
            by_cases h96_10 : woT (K.ki s.a) (K.va s.a) = 21
            · refine wp_tabIn (off := 113) 209 21 d_DaysText_takeStep_96 h96_10 (by decide) (by decide) (by decide) (by decide) ?_
              refine wp_aload_n 210 d_DaysText_takeStep_209 rfl rfl ?_
              refine wp_V0 213 M_DaysText_openRow 2 d_DaysText_takeStep_210 rfl mv_DaysText_openRow lk_DaysText_91 rfl rfl rfl rfl rfl ?_
              refine c_DaysText_openRow (s := cNx K s) (y := dSp y) (show y.nD < 3 from nI_ltN (b := 3) h62 (by omega) (by omega)) ?_
              refine kV ?_
              refine wp_aload_n 214 d_DaysText_takeStep_213 rfl rfl ?_
              refine wp_bipush 216 6 d_DaysText_takeStep_214 rfl (by decide) ?_
              refine wp_iconst 217 1 d_DaysText_takeStep_216 rfl (by decide) ?_
              refine wp_bipush 219 99 d_DaysText_takeStep_217 rfl (by decide) ?_
              refine wp_V3 222 M_DaysText_takeNumberRow 4 d_DaysText_takeStep_219 rfl mv_DaysText_takeNumberRow lk_DaysText_84 rfl rfl rfl rfl rfl ?_
              refine c_DaysText_takeNumberRow (s := cNx K s) (y := dOp (dSp y)) (cNx_lt ho.1) hK (DPre_R (dOp_pre ho (show y.nS < 30 from nI_ltN (b := 30) h32 (by omega) (by omega)) (show y.nD < 3 from nI_ltN (b := 3) h62 (by omega) (by omega)) (cNx_lt ho.1))) ?_
              refine kI ?_
              refine wp_zreturn d_DaysText_takeStep_222 rfl (by first | rfl | exact nbP _) ?_
              have e : (dSt K t s y) = _ := ((((((((((if_pos h12).trans (if_pos (nI_ltN (b := 30) h32 (by omega) (by omega)))).trans (if_neg (fun z => absurd z.2 (Nat.not_le.mpr (nI_ltN (b := 3) h62 (by omega) (by omega)))))).trans (if_neg h96_0)).trans (if_neg h96_1)).trans (if_neg h96_2)).trans (if_neg h96_3)).trans (if_neg h96_4)).trans (if_neg h96_5)).trans (if_pos h96_10))
              rw [e] at hq
              exact hq
            refine wp_tabOut 223 d_DaysText_takeStep_96 (sw_outL 11 11 (by omega) (fun i hi => match i, hi with
                | 0, _ => h96_0
                | 1, _ => h96_1
                | 2, _ => h96_2
                | 3, _ => h96_3
                | 4, _ => h96_4
                | 5, _ => h96_5
                | 6, _ => h96_6
                | 7, _ => h96_7
                | 8, _ => h96_8
                | 9, _ => h96_9
                | 10, _ => h96_10
                | i + 11, hi => absurd hi (by omega))) (by decide) ?_
            refine wp_aload_n 224 d_DaysText_takeStep_223 rfl rfl ?_
            refine wp_getfield 227 2 2 d_DaysText_takeStep_224 rfl fl_DaysText_29 rfl rfl ?_
            refine wp_iconst 228 5 d_DaysText_takeStep_227 rfl (by decide) ?_
            refine wp_iconst 229 0 d_DaysText_takeStep_228 rfl (by decide) ?_
            refine wp_iconst 230 0 d_DaysText_takeStep_229 rfl (by decide) ?_
            refine ws_V3 (b' := 0) 233 M_Days_addRow 1 [17, 18, 19, 20] ((hD _ _ _ _ _ _)) d_DaysText_takeStep_230 rfl mv_Days_addRow lk_DaysText_68 rfl rfl rfl rfl rfl rfl rfl (eV_int _ _) (eV_int _ _) (eV_int _ _) rfl ?_
            refine c_Days_addRow (DPre_R (dSp_pre ho (show y.nS < 30 from nI_ltN (b := 30) h32 (by omega) (by omega)) (cNx_lt ho.1))) ?_
            refine sV ?_
            simp only [putH, rC, sg, eV, List.map_cons, List.map_nil, List.set_cons_zero, List.set_cons_succ, List.length_cons, List.length_nil, List.getD_cons_zero, List.getD_cons_succ, Nat.zero_add, Nat.reduceAdd, Nat.reduceLT, if_true, ite_true]
            refine wp_iconst 234 1 d_DaysText_takeStep_233 rfl (by decide) ?_
            refine wp_zreturn d_DaysText_takeStep_234 rfl (by first | rfl | exact nbP _) ?_
            have e : (dSt K t s y) = _ := ((((((((((if_pos h12).trans (if_pos (nI_ltN (b := 30) h32 (by omega) (by omega)))).trans (if_neg (fun z => absurd z.2 (Nat.not_le.mpr (nI_ltN (b := 3) h62 (by omega) (by omega)))))).trans (if_neg h96_0)).trans (if_neg h96_1)).trans (if_neg h96_2)).trans (if_neg h96_3)).trans (if_neg h96_4)).trans (if_neg h96_5)).trans (if_neg h96_10))
            rw [e] at hq
            exact hq
          · refine wp_aload_n 66 d_DaysText_takeStep_65 rfl rfl ?_
            refine wp_getfield 69 2 0 d_DaysText_takeStep_66 rfl fl_DaysText_21 rfl rfl ?_
            refine wp_bipush 71 7 d_DaysText_takeStep_69 rfl (by decide) ?_
            refine ws_V1 (b' := 0) 74 M_Text_faultHere 1 [2, 3, 4, 5, 6, 7] ((hX tby tco (K.ki) (K.st) (K.va) tfe tle (nI K.nT) (nI s.a) (K.ki s.a) (vlT (K.ki s.a) (K.va s.a)) (woT (K.ki s.a) (K.va s.a)) (s.tk) (s.na) (s.fk) (s.fp))) d_DaysText_takeStep_71 rfl mv_Text_faultHere lk_DaysText_81 rfl rfl rfl rfl rfl rfl rfl (eV_int _ _) rfl ?_
            refine s_Text_faultHere ho.1 hK ?_
            refine sI ?_
            simp only [putH, rC, sg, eV, List.map_cons, List.map_nil, List.set_cons_zero, List.set_cons_succ, List.length_cons, List.length_nil, List.getD_cons_zero, List.getD_cons_succ, Nat.zero_add, Nat.reduceAdd, Nat.reduceLT, if_true, ite_true]
            refine wp_zreturn d_DaysText_takeStep_74 rfl (by first | rfl | exact nbP _) ?_
            have e : (dSt K t s y) = _ := (((if_pos h12).trans (if_pos (nI_ltN (b := 30) h32 (by omega) (by omega)))).trans (if_pos ⟨Or.inr h54, nI_nltN (b := 3) h62 (by omega) (by omega)⟩))
            rw [e] at hq
            exact hq
    · refine wp_aload_n 36 d_DaysText_takeStep_35 rfl rfl ?_
      refine wp_getfield 39 2 0 d_DaysText_takeStep_36 rfl fl_DaysText_21 rfl rfl ?_
      refine wp_bipush 41 6 d_DaysText_takeStep_39 rfl (by decide) ?_
      refine ws_V1 (b' := 0) 44 M_Text_faultHere 1 [2, 3, 4, 5, 6, 7] ((hX tby tco (K.ki) (K.st) (K.va) tfe tle (nI K.nT) (nI s.a) (K.ki s.a) (vlT (K.ki s.a) (K.va s.a)) (woT (K.ki s.a) (K.va s.a)) (s.tk) (s.na) (s.fk) (s.fp))) d_DaysText_takeStep_41 rfl mv_Text_faultHere lk_DaysText_81 rfl rfl rfl rfl rfl rfl rfl (eV_int _ _) rfl ?_
      refine s_Text_faultHere ho.1 hK ?_
      refine sI ?_
      simp only [putH, rC, sg, eV, List.map_cons, List.map_nil, List.set_cons_zero, List.set_cons_succ, List.length_cons, List.length_nil, List.getD_cons_zero, List.getD_cons_succ, Nat.zero_add, Nat.reduceAdd, Nat.reduceLT, if_true, ite_true]
      refine wp_zreturn d_DaysText_takeStep_44 rfl (by first | rfl | exact nbP _) ?_
      have e : (dSt K t s y) = _ := ((if_pos h12).trans (if_neg (Nat.not_lt.mpr (nI_nltN (b := 30) h32 (by omega) (by omega)))))
      rw [e] at hq
      exact hq
  · refine wp_aload_n 16 d_DaysText_takeStep_15 rfl rfl ?_
    refine wp_getfield 19 2 0 d_DaysText_takeStep_16 rfl fl_DaysText_21 rfl rfl ?_
    refine ws_V0 (b' := 0) 22 M_Text_cannotStand 2 [2, 3, 4, 5, 6, 7] ((hX tby tco (K.ki) (K.st) (K.va) tfe tle (nI K.nT) (nI s.a) (K.ki s.a) (vlT (K.ki s.a) (K.va s.a)) (woT (K.ki s.a) (K.va s.a)) (s.tk) (s.na) (s.fk) (s.fp))) d_DaysText_takeStep_19 rfl mv_Text_cannotStand lk_DaysText_46 rfl rfl rfl rfl rfl rfl rfl rfl ?_
    refine s_Text_cannotStand ho.1 hK ?_
    refine sI ?_
    simp only [putH, rC, sg, eV, List.map_cons, List.map_nil, List.set_cons_zero, List.set_cons_succ, List.length_cons, List.length_nil, List.getD_cons_zero, List.getD_cons_succ, Nat.zero_add, Nat.reduceAdd, Nat.reduceLT, if_true, ite_true]
    refine wp_zreturn d_DaysText_takeStep_22 rfl (by first | rfl | exact nbP _) ?_
    have e : (dSt K t s y) = _ := (if_neg h12)
    rw [e] at hq
    exact hq

theorem nI_inj0 {n : Nat} (h : nI n = 0) (hn : n < 2 ^ 31) : n = 0 := by
  have h1 := nI_leN (a := 0) (b := n) (by rw [h]; exact Int32.le_refl _) (by omega) (by omega)
  omega
set_option maxRecDepth 100000 in
set_option maxHeartbeats 4000000 in
theorem l_DaysText_parse_17 {tby : Nat → Int32} {tco : Nat → Int64} {tfe tle : Int32} {K : TK} {t : TW} (hK : K.nT ≤ 901) (hP : t.nP ≤ 7) (hW : t.nW ≤ 4) : ∀ (r i : Nat) (s : CS) (y : DY) (w2 : Option Value), i + r = 301 → (DOk K s y ∧ Q (some (.int (bP ((dpI K t r s y).1 = true)))) (hDX ((dpI K t r s y).2.2.op) (nI (dpI K t r s y).2.2.nD) tby tco (K.ki) (K.st) (K.va) tfe tle (nI K.nT) (nI (dpI K t r s y).2.1.a) (K.ki (dpI K t r s y).2.1.a) (vlT (K.ki (dpI K t r s y).2.1.a) (K.va (dpI K t r s y).2.1.a)) (woT (K.ki (dpI K t r s y).2.1.a) (K.va (dpI K t r s y).2.1.a)) ((dpI K t r s y).2.1.tk) ((dpI K t r s y).2.1.na) ((dpI K t r s y).2.1.fk) ((dpI K t r s y).2.1.fp) (t.pn) (t.wn) (t.fa) (t.te) (t.fr) (t.to_) (t.ea) (t.no) (nI t.nP) (nI t.nW) (nI t.nL) (t.od) (t.sk) (t.sd) (t.go) ((dpI K t r s y).2.2.dk) ((dpI K t r s y).2.2.df) ((dpI K t r s y).2.2.ds) ((dpI K t r s y).2.2.dth) (nI (dpI K t r s y).2.2.nR) (nI (dpI K t r s y).2.2.nS))) → WP Γ M_DaysText_parse 7 0 0 (hDX (y.op) (nI y.nD) tby tco (K.ki) (K.st) (K.va) tfe tle (nI K.nT) (nI s.a) (K.ki s.a) (vlT (K.ki s.a) (K.va s.a)) (woT (K.ki s.a) (K.va s.a)) (s.tk) (s.na) (s.fk) (s.fp) (t.pn) (t.wn) (t.fa) (t.te) (t.fr) (t.to_) (t.ea) (t.no) (nI t.nP) (nI t.nW) (nI t.nL) (t.od) (t.sk) (t.sd) (t.go) (y.dk) (y.df) (y.ds) (y.dth) (nI y.nR) (nI y.nS)) 17 [some (.ref 0), some (.int (nI i)), w2] [] Q := by
  intro r
  induction r with
  | zero =>
    intro i s y w2 hi hinv
    obtain ⟨hok, hq⟩ := hinv
    have hd3 := hok.2.2.2.1
    refine wp_iload_n 18 d_DaysText_parse_17 rfl rfl ?_
    refine wp_sipush 21 300 d_DaysText_parse_18 rfl (by decide) ?_
    refine wp_icmp_gt 105 24 d_DaysText_parse_21 rfl (by decide) (fun h21 => ?_) (fun h21 => ?_)
    · refine wp_aload_n 106 d_DaysText_parse_105 rfl rfl ?_
      refine wp_getfield 109 2 0 d_DaysText_parse_106 rfl fl_DaysText_21 rfl rfl ?_
      refine ws_V0 (b' := 0) 112 M_Text_cannotStand 2 [2, 3, 4, 5, 6, 7] ((hX tby tco (K.ki) (K.st) (K.va) tfe tle (nI K.nT) (nI s.a) (K.ki s.a) (vlT (K.ki s.a) (K.va s.a)) (woT (K.ki s.a) (K.va s.a)) (s.tk) (s.na) (s.fk) (s.fp))) d_DaysText_parse_109 rfl mv_Text_cannotStand lk_DaysText_46 rfl rfl rfl rfl rfl rfl rfl rfl ?_
      refine s_Text_cannotStand hok.1 hK ?_
      refine sI ?_
      simp only [putH, rC, sg, eV, List.map_cons, List.map_nil, List.set_cons_zero, List.set_cons_succ, List.length_cons, List.length_nil, List.getD_cons_zero, List.getD_cons_succ, Nat.zero_add, Nat.reduceAdd, Nat.reduceLT, if_true, ite_true]
      refine wp_zreturn d_DaysText_parse_112 rfl (by first | rfl | exact nbP _) ?_
      exact hq
    · exact absurd ((nI_ltI (a := 300) (by omega) (by omega)).mpr (by omega)) h21
  | succ r ih =>
    intro i s y w2 hi hinv
    obtain ⟨hok, hq⟩ := hinv
    have hd3 := hok.2.2.2.1
    refine wp_iload_n 18 d_DaysText_parse_17 rfl rfl ?_
    refine wp_sipush 21 300 d_DaysText_parse_18 rfl (by decide) ?_
    refine wp_icmp_gt 105 24 d_DaysText_parse_21 rfl (by decide) (fun h21 => ?_) (fun h21 => ?_)
    · exact absurd (nI_ltN (a := 300) h21 (by omega) (by omega)) (by omega)
    · refine wp_aload_n 25 d_DaysText_parse_24 rfl rfl ?_
      refine wp_getfield 28 2 0 d_DaysText_parse_25 rfl fl_DaysText_21 rfl rfl ?_
      refine ws_V0 (b' := 0) 31 M_Text_atEnd 1 [2, 3, 4, 5, 6, 7] ((hX _ _ _ _ _ _ _ _ _ _ _ _ _ _ _ _)) d_DaysText_parse_28 rfl mv_Text_atEnd lk_DaysText_40 rfl rfl rfl rfl rfl rfl rfl rfl ?_
      refine c_Text_atEnd ?_
      refine sIr rfl rfl ?_
      (first | refine wp_ifP_eq 57 34 d_DaysText_parse_31 rfl (by decide) (fun h31 => ?_) (fun h31 => ?_) | refine wp_if_eq 57 34 d_DaysText_parse_31 rfl (by decide) (fun h31 => ?_) (fun h31 => ?_))
      · refine wp_aload_n 58 d_DaysText_parse_57 rfl rfl ?_
        refine wp_getfield 61 2 0 d_DaysText_parse_58 rfl fl_DaysText_21 rfl rfl ?_
        refine wp_getfield 64 7 11 d_DaysText_parse_61 rfl fl_DaysText_49 rfl rfl ?_
        refine wp_bipush 66 22 d_DaysText_parse_64 rfl (by decide) ?_
        refine wp_icmp_ne 76 69 d_DaysText_parse_66 rfl (by decide) (fun h66 => ?_) (fun h66 => ?_)
        · refine wp_aload_n 77 d_DaysText_parse_76 rfl rfl ?_
          refine wp_V0 80 M_DaysText_takeStep 6 d_DaysText_parse_77 rfl mv_DaysText_takeStep lk_DaysText_55 rfl rfl rfl rfl rfl ?_
          refine c_DaysText_takeStep hK hok hP hW ?_
          refine kI ?_
          have e8 : dTu K t s y = _ := if_neg h66
          rw [← e8]
          refine wp_istore_2 81 d_DaysText_parse_80 rfl rfl rfl ?_
          refine wp_iload_n 82 d_DaysText_parse_81 rfl rfl ?_
          (first | refine wp_ifP_eq 97 85 d_DaysText_parse_82 rfl (by decide) (fun h82 => ?_) (fun h82 => ?_) | refine wp_if_eq 97 85 d_DaysText_parse_82 rfl (by decide) (fun h82 => ?_) (fun h82 => ?_))
          · refine wp_iconst 98 0 d_DaysText_parse_97 rfl (by decide) ?_
            refine wp_zreturn d_DaysText_parse_98 rfl (by first | rfl | exact nbP _) ?_
            have e : dpI K t (r + 1) s y = _ := ((if_neg h31).trans (if_neg h82))
            rw [e] at hq
            exact hq
          · refine wp_aload_n 86 d_DaysText_parse_85 rfl rfl ?_
            refine wp_getfield 89 2 0 d_DaysText_parse_86 rfl fl_DaysText_21 rfl rfl ?_
            refine wp_bipush 91 59 d_DaysText_parse_89 rfl (by decide) ?_
            refine ws_V1 (b' := 0) 94 M_Text_takeSign 3 [2, 3, 4, 5, 6, 7] ((hX tby tco (K.ki) (K.st) (K.va) tfe tle (nI K.nT) (nI (dTu K t s y).2.1.a) (K.ki (dTu K t s y).2.1.a) (vlT (K.ki (dTu K t s y).2.1.a) (K.va (dTu K t s y).2.1.a)) (woT (K.ki (dTu K t s y).2.1.a) (K.va (dTu K t s y).2.1.a)) ((dTu K t s y).2.1.tk) ((dTu K t s y).2.1.na) ((dTu K t s y).2.1.fk) ((dTu K t s y).2.1.fp))) d_DaysText_parse_91 rfl mv_Text_takeSign lk_DaysText_58 rfl rfl rfl rfl rfl rfl rfl (eV_int _ _) rfl ?_
            refine s_Text_takeSign (dTu_ok hok).1 hK ?_
            refine sI ?_
            simp only [putH, rC, sg, eV, List.map_cons, List.map_nil, List.set_cons_zero, List.set_cons_succ, List.length_cons, List.length_nil, List.getD_cons_zero, List.getD_cons_succ, Nat.zero_add, Nat.reduceAdd, Nat.reduceLT, if_true, ite_true]
            (first | refine wp_ifP_ne 99 97 d_DaysText_parse_94 rfl (by decide) (fun h94 => ?_) (fun h94 => ?_) | refine wp_if_ne 99 97 d_DaysText_parse_94 rfl (by decide) (fun h94 => ?_) (fun h94 => ?_))
            · first | refine wp_iincN_1 102 d_DaysText_parse_99 rfl rfl rfl ?_ | refine wp_iinc_1 102 1 d_DaysText_parse_99 rfl (by decide) rfl rfl ?_
              refine wp_goto 17 d_DaysText_parse_102 (by decide) ?_
              have e : dpI K t (r + 1) s y = _ := (((if_neg h31).trans (if_pos h82)).trans (if_pos h94))
              rw [e] at hq
              exact ih (i + 1) _ _ _ (by omega) ⟨⟨cSg_lt (dTu_ok hok).1, (dTu_ok hok).2⟩, hq⟩
            · refine wp_iconst 98 0 d_DaysText_parse_97 rfl (by decide) ?_
              refine wp_zreturn d_DaysText_parse_98 rfl (by first | rfl | exact nbP _) ?_
              have e : dpI K t (r + 1) s y = _ := (((if_neg h31).trans (if_pos h82)).trans (if_neg h94))
              rw [e] at hq
              exact hq
        · refine wp_aload_n 70 d_DaysText_parse_69 rfl rfl ?_
          refine wp_V0 73 M_DaysText_takeEnd 3 d_DaysText_parse_70 rfl mv_DaysText_takeEnd lk_DaysText_52 rfl rfl rfl rfl rfl ?_
          refine c_DaysText_takeEnd hok.1 hK (fun hd => by have := hok.2.1; have := hok.2.2.1; omega) hok.2.2.2.1 hok.2.2.2.2 ?_
          refine kI ?_
          refine wp_goto 80 d_DaysText_parse_73 (by decide) ?_
          have e8 : dTu K t s y = _ := if_pos h66
          rw [← e8]
          refine wp_istore_2 81 d_DaysText_parse_80 rfl rfl rfl ?_
          refine wp_iload_n 82 d_DaysText_parse_81 rfl rfl ?_
          (first | refine wp_ifP_eq 97 85 d_DaysText_parse_82 rfl (by decide) (fun h82 => ?_) (fun h82 => ?_) | refine wp_if_eq 97 85 d_DaysText_parse_82 rfl (by decide) (fun h82 => ?_) (fun h82 => ?_))
          · refine wp_iconst 98 0 d_DaysText_parse_97 rfl (by decide) ?_
            refine wp_zreturn d_DaysText_parse_98 rfl (by first | rfl | exact nbP _) ?_
            have e : dpI K t (r + 1) s y = _ := ((if_neg h31).trans (if_neg h82))
            rw [e] at hq
            exact hq
          · refine wp_aload_n 86 d_DaysText_parse_85 rfl rfl ?_
            refine wp_getfield 89 2 0 d_DaysText_parse_86 rfl fl_DaysText_21 rfl rfl ?_
            refine wp_bipush 91 59 d_DaysText_parse_89 rfl (by decide) ?_
            refine ws_V1 (b' := 0) 94 M_Text_takeSign 3 [2, 3, 4, 5, 6, 7] ((hX tby tco (K.ki) (K.st) (K.va) tfe tle (nI K.nT) (nI (dTu K t s y).2.1.a) (K.ki (dTu K t s y).2.1.a) (vlT (K.ki (dTu K t s y).2.1.a) (K.va (dTu K t s y).2.1.a)) (woT (K.ki (dTu K t s y).2.1.a) (K.va (dTu K t s y).2.1.a)) ((dTu K t s y).2.1.tk) ((dTu K t s y).2.1.na) ((dTu K t s y).2.1.fk) ((dTu K t s y).2.1.fp))) d_DaysText_parse_91 rfl mv_Text_takeSign lk_DaysText_58 rfl rfl rfl rfl rfl rfl rfl (eV_int _ _) rfl ?_
            refine s_Text_takeSign (dTu_ok hok).1 hK ?_
            refine sI ?_
            simp only [putH, rC, sg, eV, List.map_cons, List.map_nil, List.set_cons_zero, List.set_cons_succ, List.length_cons, List.length_nil, List.getD_cons_zero, List.getD_cons_succ, Nat.zero_add, Nat.reduceAdd, Nat.reduceLT, if_true, ite_true]
            (first | refine wp_ifP_ne 99 97 d_DaysText_parse_94 rfl (by decide) (fun h94 => ?_) (fun h94 => ?_) | refine wp_if_ne 99 97 d_DaysText_parse_94 rfl (by decide) (fun h94 => ?_) (fun h94 => ?_))
            · first | refine wp_iincN_1 102 d_DaysText_parse_99 rfl rfl rfl ?_ | refine wp_iinc_1 102 1 d_DaysText_parse_99 rfl (by decide) rfl rfl ?_
              refine wp_goto 17 d_DaysText_parse_102 (by decide) ?_
              have e : dpI K t (r + 1) s y = _ := (((if_neg h31).trans (if_pos h82)).trans (if_pos h94))
              rw [e] at hq
              exact ih (i + 1) _ _ _ (by omega) ⟨⟨cSg_lt (dTu_ok hok).1, (dTu_ok hok).2⟩, hq⟩
            · refine wp_iconst 98 0 d_DaysText_parse_97 rfl (by decide) ?_
              refine wp_zreturn d_DaysText_parse_98 rfl (by first | rfl | exact nbP _) ?_
              have e : dpI K t (r + 1) s y = _ := (((if_neg h31).trans (if_pos h82)).trans (if_neg h94))
              rw [e] at hq
              exact hq
      · refine wp_aload_n 35 d_DaysText_parse_34 rfl rfl ?_
        refine wp_getfield 38 2 4 d_DaysText_parse_35 rfl fl_DaysText_17 rfl rfl ?_
        refine wp_if_eq 51 41 d_DaysText_parse_38 rfl (by decide) (fun h38 => ?_) (fun h38 => ?_)
        · refine wp_iconst 52 1 d_DaysText_parse_51 rfl (by decide) ?_
          refine wp_goto 56 d_DaysText_parse_52 (by decide) ?_
          refine wp_zreturn d_DaysText_parse_56 rfl (by first | rfl | exact nbP _) ?_
          have e : dpI K t (r + 1) s y = _ := ((if_pos h31).trans (if_pos (nI_inj0 h38 (by omega))))
          rw [e] at hq
          exact hq
        · refine wp_aload_n 42 d_DaysText_parse_41 rfl rfl ?_
          refine wp_getfield 45 2 0 d_DaysText_parse_42 rfl fl_DaysText_21 rfl rfl ?_
          refine ws_V0 (b' := 0) 48 M_Text_cannotStand 2 [2, 3, 4, 5, 6, 7] ((hX tby tco (K.ki) (K.st) (K.va) tfe tle (nI K.nT) (nI s.a) (K.ki s.a) (vlT (K.ki s.a) (K.va s.a)) (woT (K.ki s.a) (K.va s.a)) (s.tk) (s.na) (s.fk) (s.fp))) d_DaysText_parse_45 rfl mv_Text_cannotStand lk_DaysText_46 rfl rfl rfl rfl rfl rfl rfl rfl ?_
          refine s_Text_cannotStand hok.1 hK ?_
          refine sI ?_
          simp only [putH, rC, sg, eV, List.map_cons, List.map_nil, List.set_cons_zero, List.set_cons_succ, List.length_cons, List.length_nil, List.getD_cons_zero, List.getD_cons_succ, Nat.zero_add, Nat.reduceAdd, Nat.reduceLT, if_true, ite_true]
          refine wp_if_eq 55 51 d_DaysText_parse_48 rfl (by decide) (fun h48 => ?_) (fun h48 => ?_)
          · refine wp_iconst 56 0 d_DaysText_parse_55 rfl (by decide) ?_
            refine wp_zreturn d_DaysText_parse_56 rfl (by first | rfl | exact nbP _) ?_
            have e : dpI K t (r + 1) s y = _ := ((if_pos h31).trans (if_neg (fun z => h38 (by rw [z]; rfl))))
            rw [e] at hq
            exact hq
          · exact absurd rfl h48

set_option maxRecDepth 100000 in
set_option maxHeartbeats 4000000 in
theorem c_DaysText_parse {tby : Nat → Int32} {tco : Nat → Int64} {tfe tle : Int32} {K : TK} {s : CS} {t : TW} {y : DY} (ha : s.a < K.nT) (hK : K.nT ≤ 901) (hP : t.nP ≤ 7) (hW : t.nW ≤ 4) (hD0 : y.nD = 0) (hop : ∀ j, vp_in (y.op j) 60) (hq : Q (some (.int (bP ((dpI K t 301 s (dCl y)).1 = true)))) (hDX ((dpI K t 301 s (dCl y)).2.2.op) (nI (dpI K t 301 s (dCl y)).2.2.nD) tby tco (K.ki) (K.st) (K.va) tfe tle (nI K.nT) (nI (dpI K t 301 s (dCl y)).2.1.a) (K.ki (dpI K t 301 s (dCl y)).2.1.a) (vlT (K.ki (dpI K t 301 s (dCl y)).2.1.a) (K.va (dpI K t 301 s (dCl y)).2.1.a)) (woT (K.ki (dpI K t 301 s (dCl y)).2.1.a) (K.va (dpI K t 301 s (dCl y)).2.1.a)) ((dpI K t 301 s (dCl y)).2.1.tk) ((dpI K t 301 s (dCl y)).2.1.na) ((dpI K t 301 s (dCl y)).2.1.fk) ((dpI K t 301 s (dCl y)).2.1.fp) (t.pn) (t.wn) (t.fa) (t.te) (t.fr) (t.to_) (t.ea) (t.no) (nI t.nP) (nI t.nW) (nI t.nL) (t.od) (t.sk) (t.sd) (t.go) ((dpI K t 301 s (dCl y)).2.2.dk) ((dpI K t 301 s (dCl y)).2.2.df) ((dpI K t 301 s (dCl y)).2.2.ds) ((dpI K t 301 s (dCl y)).2.2.dth) (nI (dpI K t 301 s (dCl y)).2.2.nR) (nI (dpI K t 301 s (dCl y)).2.2.nS))) : Call Γ M_DaysText_parse 7 0 0 [.ref 0] (hDX (y.op) (nI y.nD) tby tco (K.ki) (K.st) (K.va) tfe tle (nI K.nT) (nI s.a) (K.ki s.a) (vlT (K.ki s.a) (K.va s.a)) (woT (K.ki s.a) (K.va s.a)) (s.tk) (s.na) (s.fk) (s.fp) (t.pn) (t.wn) (t.fa) (t.te) (t.fr) (t.to_) (t.ea) (t.no) (nI t.nP) (nI t.nW) (nI t.nL) (t.od) (t.sk) (t.sd) (t.go) (y.dk) (y.df) (y.ds) (y.dth) (nI y.nR) (nI y.nS)) Q := by
  refine call_intro (ls := [some (.ref 0), none, none]) rfl rfl rfl ?_
  refine wp_aload_n 1 d_DaysText_parse_0 rfl rfl ?_
  refine wp_getfield 4 2 2 d_DaysText_parse_1 rfl fl_DaysText_29 rfl rfl ?_
  refine ws_V0 (b' := 0) 7 M_Days_clear 1 [17, 18, 19, 20] ((hD _ _ _ _ _ _)) d_DaysText_parse_4 rfl mv_Days_clear lk_DaysText_33 rfl rfl rfl rfl rfl rfl rfl rfl ?_
  refine c_Days_clear ?_
  refine sV ?_
  simp only [putH, rC, sg, eV, List.map_cons, List.map_nil, List.set_cons_zero, List.set_cons_succ, List.length_cons, List.length_nil, List.getD_cons_zero, List.getD_cons_succ, Nat.zero_add, Nat.reduceAdd, Nat.reduceLT, if_true, ite_true]
  refine wp_aload_n 8 d_DaysText_parse_7 rfl rfl ?_
  refine wp_getfield 11 2 2 d_DaysText_parse_8 rfl fl_DaysText_29 rfl rfl ?_
  refine wp_iconst 12 1 d_DaysText_parse_11 rfl (by decide) ?_
  refine wp_putfield 15 1 3 _ d_DaysText_parse_12 rfl fp_DaysText_36 rfl rfl (fun _ => ⟨rfl, rfl⟩) ?_
  dsimp only [List.set]
  refine wp_iconst 16 0 d_DaysText_parse_15 rfl (by decide) ?_
  refine wp_istore_1 17 d_DaysText_parse_16 rfl rfl rfl ?_
  exact l_DaysText_parse_17 hK hP hW 301 0 s (dCl y) none rfl ⟨⟨ha, by show 0 + y.nD ≤ 2 * 0; omega, Nat.zero_le _, by show y.nD ≤ 3; omega, hop⟩, hq⟩

set_option maxRecDepth 100000 in
set_option maxHeartbeats 4000000 in
theorem c_DaysText_init {tby tki tst fa te fr to_ ea no dk df ds : Nat → Int32} {tco tva pn wn : Nat → Int64} {tfe tle tto tat tkd tvl two ttk tfk tfp pl wa le od sk sd go dth dro dst : Int32} {tna : Int64} (hq : Q none [cO 2 [.ref 1, .ref 7, .ref 16, .ref 20, .int 0], cO 7 [.ref 2, .ref 3, .ref 4, .ref 5, .ref 6, .int tfe, .int tle, .int tto, .int tat, .int tkd, .int tvl, .int two, .int ttk, .long tna, .int tfk, .int tfp], cB 900 tby, cL 24 tco, cI 901 tki, cI 901 tst, cL 901 tva, cO 8 [.ref 8, .ref 9, .ref 10, .ref 11, .ref 12, .ref 13, .ref 14, .ref 15, .int pl, .int wa, .int le, .int od, .int sk, .int sd, .int go], cL 7 pn, cL 4 wn, cI 4 fa, cI 12 te, cI 12 fr, cI 12 to_, cI 12 ea, cI 12 no, cO 1 [.ref 17, .ref 18, .ref 19, .int dth, .int dro, .int dst], cI 60 dk, cI 60 df, cI 60 ds, cI 3 (fun _ => 0)]) : Call Γ M_DaysText_init 1 1 3 [.ref 0, .ref 1, .ref 7, .ref 16] [cO 2 [.null, .null, .null, .null, .int 0], cO 7 [.ref 2, .ref 3, .ref 4, .ref 5, .ref 6, .int tfe, .int tle, .int tto, .int tat, .int tkd, .int tvl, .int two, .int ttk, .long tna, .int tfk, .int tfp], cB 900 tby, cL 24 tco, cI 901 tki, cI 901 tst, cL 901 tva, cO 8 [.ref 8, .ref 9, .ref 10, .ref 11, .ref 12, .ref 13, .ref 14, .ref 15, .int pl, .int wa, .int le, .int od, .int sk, .int sd, .int go], cL 7 pn, cL 4 wn, cI 4 fa, cI 12 te, cI 12 fr, cI 12 to_, cI 12 ea, cI 12 no, cO 1 [.ref 17, .ref 18, .ref 19, .int dth, .int dro, .int dst], cI 60 dk, cI 60 df, cI 60 ds] Q := by
  refine call_intro (ls := [some (.ref 0), some (.ref 1), some (.ref 7), some (.ref 16)]) rfl rfl rfl ?_
  refine wp_aload_n 1 d_DaysText_init_0 rfl rfl ?_
  refine wp_objInit 4 d_DaysText_init_1 rfl lo_DaysText_3 oi_inst oi_code (by decide) (by decide) ?_
  refine wp_aload_n 5 d_DaysText_init_4 rfl rfl ?_
  refine wp_iconst 6 3 d_DaysText_init_5 rfl (by decide) ?_
  refine wp_newarray_int 8 3 20 d_DaysText_init_6 rfl ac_int (by decide) (by decide) (by decide) rfl rfl ?_
  simp only [List.cons_append, List.nil_append]
  refine wp_putfinal 11 2 3 _ d_DaysText_init_8 rfl fp_DaysText_11 rfl rfl rfl (fun _ => ⟨rfl, rfl⟩) ?_
  dsimp only [List.set]
  refine wp_aload_n 12 d_DaysText_init_11 rfl rfl ?_
  refine wp_iconst 13 0 d_DaysText_init_12 rfl (by decide) ?_
  refine wp_putfield 16 2 4 _ d_DaysText_init_13 rfl fp_DaysText_17 rfl rfl (okP_int _) ?_
  dsimp only [List.set]
  refine wp_aload_n 17 d_DaysText_init_16 rfl rfl ?_
  refine wp_aload_n 18 d_DaysText_init_17 rfl rfl ?_
  refine wp_putfinal 21 2 0 _ d_DaysText_init_18 rfl fp_DaysText_21 rfl rfl rfl (fun _ => ⟨rfl, rfl⟩) ?_
  dsimp only [List.set]
  refine wp_aload_n 22 d_DaysText_init_21 rfl rfl ?_
  refine wp_aload_n 23 d_DaysText_init_22 rfl rfl ?_
  refine wp_putfinal 26 2 1 _ d_DaysText_init_23 rfl fp_DaysText_25 rfl rfl rfl (fun _ => ⟨rfl, rfl⟩) ?_
  dsimp only [List.set]
  refine wp_aload_n 27 d_DaysText_init_26 rfl rfl ?_
  refine wp_aload_n 28 d_DaysText_init_27 rfl rfl ?_
  refine wp_putfinal 31 2 2 _ d_DaysText_init_28 rfl fp_DaysText_29 rfl rfl rfl (fun _ => ⟨rfl, rfl⟩) ?_
  dsimp only [List.set]
  refine wp_return d_DaysText_init_31 rfl ?_
  exact hq

end T45
