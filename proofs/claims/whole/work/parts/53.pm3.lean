/-! ===== the class: what is told ===== -/
theorem bP_iff {p q : Prop} [Decidable p] [Decidable q] (h : p ↔ q) : bP p = bP q := by
  by_cases z : p
  · rw [bP_t z, bP_t (h.mp z)]
  · rw [bP_f z, bP_f (fun y => z (h.mpr y))]
def tLi (t : TW) : Int32 := liSC (tTh t) t.fr t.to_ t.nL t.nP
def tMi (t : TW) : Int32 := misSC (tE_ t) (tN_ t) (tTh t) t.fr t.to_ t.nL t.nP
abbrev tClo (t : TW) : Prop := cloC (tE_ t) (tN_ t) (tTh t) t.fr t.to_ t.nL t.nP
def tBr (t : TW) : Int32 := iorr (fun l => if brP t.fr t.to_ t.nL t.nP (tTh t) l then bit (nI l) else 0) t.nL
def tMs (t : TW) (l : Nat) : Int32 := misC (tE_ t) (tN_ t) (tTh t) t.fr t.to_ t.nL t.nP l
def tX (t : TW) : Nat → Int32 := (cXY (tE_ t) (tN_ t) (tTh t) t.fr t.to_ t.nL t.nP).1
def tY (t : TW) : Nat → Int32 := (cXY (tE_ t) (tN_ t) (tTh t) t.fr t.to_ t.nL t.nP).2
abbrev tLp (t : TW) (p : Nat) : Prop := (tPo t).1 p = 0
section T53
variable {Γ : Gm} {Q : Option Value → LH → Prop} {c : CH} {t : TW}
theorem c_liesSetA (I : tOK t) (hA : chT t c) (hq : Q (some (.int (tLi t))) (hCTr c t)) : Call Γ M_Chart_liesSet 3 0 0 [.ref 0, .ref 8] (hCTr c t) Q := by
  refine c_Chart_liesSet I.hP ?_
  have e : iorr (fun p => if c.cpo p = 0 then bit (nI p) else 0) t.nP = tLi t := iorr_congr (fun p hp => by rw [hA.1.2.1 p (by have := I.hP; omega)])
  rw [e]; exact hq
theorem canM_A (hA : chT t c) {th : Int32} {l : Nat} : canM c.cpo t.fr t.to_ th l ↔ canM (tPo t).1 t.fr t.to_ th l := by
  have h1 := liP_congr hA.1.2.1 (t.fr l)
  have h2 := liP_congr hA.1.2.1 (t.to_ l)
  exact ⟨fun ⟨a, b, c⟩ => ⟨a, h1.mp b, h2.mp c⟩, fun ⟨a, b, c⟩ => ⟨a, h1.mpr b, h2.mpr c⟩⟩
theorem c_missSetA (I : tOK t) (hA : chT t c) (hq : Q (some (.int (tMi t))) (hCTr c t)) : Call Γ M_Chart_missSet 4 0 0 [.ref 0, .ref 8] (hCTr c t) Q := by
  refine c_Chart_missSet I.hL I.fr I.to_ ?_
  have e : iorr (fun l => if canM c.cpo t.fr t.to_ (lTh (nI t.nL) t.sk) l ∧ 0 < misV c.cx c.cy c.cea c.cno t.fr t.to_ l then bit (nI l) else 0) t.nL = tMi t := iorr_congr (fun l hl => by
    have e1 : (canM c.cpo t.fr t.to_ (lTh (nI t.nL) t.sk) l ∧ 0 < misV c.cx c.cy c.cea c.cno t.fr t.to_ l) ↔ (canM (tPo t).1 t.fr t.to_ (tTh t) l ∧ 0 < misC (tE_ t) (tN_ t) (tTh t) t.fr t.to_ t.nL t.nP l) := by
      rw [chA_mis hA.1 I.fr I.to_ hl]
      exact ⟨fun z => ⟨(canM_A hA).mp z.1, z.2⟩, fun z => ⟨(canM_A hA).mpr z.1, z.2⟩⟩
    by_cases z : canM (tPo t).1 t.fr t.to_ (tTh t) l ∧ 0 < misC (tE_ t) (tN_ t) (tTh t) t.fr t.to_ t.nL t.nP l
    · rw [if_pos (e1.mpr z)]; exact (if_pos z).symm
    · rw [if_neg (fun y => z (e1.mp y))]; exact (if_neg z).symm)
  rw [e]; exact hq
theorem c_closesA (I : tOK t) (hA : chT t c) (hq : Q (some (.int (bP (tClo t)))) (hCTr c t)) : Call Γ M_Chart_closes 3 0 0 [.ref 0, .ref 8, .int (tTh t)] (hCTr c t) Q := by
  refine c_Chart_closes I.hL I.fr I.to_ ?_
  rw [bP_iff (q := tClo t) ⟨fun z l hl => by have := z l hl; rw [chA_mis hA.1 I.fr I.to_ hl] at this; exact this, fun z l hl => by rw [chA_mis hA.1 I.fr I.to_ hl]; exact z l hl⟩]
  exact hq
theorem c_canMissA (hA : chT t c) {l : Nat} (hl : l < 12) (hq : Q (some (.int (bP (canM (tPo t).1 t.fr t.to_ (tTh t) l)))) (hCTr c t)) : Call Γ M_Chart_canMiss 3 0 0 [.ref 0, .ref 8, .int (nI l)] (hCTr c t) Q := by
  refine c_Chart_canMiss hl ?_
  rw [bP_iff (p := canM c.cpo t.fr t.to_ (lTh (nI t.nL) t.sk) l) (q := canM (tPo t).1 t.fr t.to_ (tTh t) l) (canM_A hA)]
  exact hq
theorem c_missOfA (I : tOK t) (hA : chT t c) {l : Nat} (hl : l < t.nL) (hq : Q (some (.int (tMs t l))) (hCTr c t)) : Call Γ M_Chart_missOf 2 0 0 [.ref 0, .ref 8, .int (nI l)] (hCTr c t) Q := by
  refine c_Chart_missOf (by have := I.hL; omega) I.fr I.to_ ?_
  rw [chA_mis hA.1 I.fr I.to_ hl]
  exact hq
theorem c_liesA (hA : chT t c) {p : Nat} (hp : p < 7) (hq : Q (some (.int (bP (tLp t p)))) (hCr c)) : Call Γ M_Chart_lies 2 0 0 [.ref 0, .int (nI p)] (hCr c) Q := by
  refine c_Chart_lies ?_
  have e0 : (nI p).toNatClampNeg = p := nI_clamp (by omega)
  rw [bP_iff (q := tLp t p) ⟨fun z => by have := z.2; rw [e0, hA.1.2.1 p hp] at this; exact this, fun z => ⟨inR_N (n := 7) hp (by omega), by rw [e0, hA.1.2.1 p hp]; exact z⟩⟩]
  exact hq
theorem c_bridgesA (I : tOK t) (hc : cOK c) (hq : ∀ c' : CH, cOK c' → Q (some (.int (tBr t))) (hCTr c' t)) : Call Γ M_Chart_bridges 4 0 0 [.ref 0, .ref 8] (hCTr c t) Q :=
  c_Chart_bridges I.hL I.hP I.fr I.to_ hc (fun cpo cla cba cly cpt h => hq (CH.mk c.cea c.cno c.cx c.cy cpo cla cba cly cpt) h)
theorem c_traceA (I : tOK t) (hc : cOK c) (hq : ∀ c' : CH, cOK c' → (∀ j, j < 7 → c'.cpo j = (tPo t).1 j) → Q none (hCTr c' t)) : Call Γ M_Chart_trace 3 0 0 [.ref 0, .ref 8, .int (tTh t)] (hCTr c t) Q := by
  refine c_Chart_trace I.hL I.hP I.fr I.to_ ?_
  exact hq (CH.mk _ _ _ _ _ _ _ _ _) (trI_la I.hL _ _ hc) (pOf_eq (there := tTh t) (nL := t.nL) I.hP I.fr I.to_ c.cpo c.cla c.cba).1
variable {Y : Nat → YT} {X : XT} {T S : TW} {M : Nat → TW} {D E : DW} {N : Nat → DW} {C : CH} {U : UT} {W : WT} {G : GT} {L : LT} {VL : Nat → Int32} {HL ST : Int32} {nK : Nat} {TP BT : Int64}
def tbF (t : TW) (w : Int32) : Int32 := if w = 6 then tLi t else if w = 8 then tMi t else if w = 10 then bcR (tTh t) - nI t.nP + nI (tPo t).2.2.2.2.1 else if w = 11 then bP (tClo t) else tBr t
def toF (t : TW) (w : Int32) : Int32 × Int32 := if w = 0 then (0, nI t.nP) else if w = 1 then (0, nI t.nW) else if w = 2 then (0, nI t.nL) else if w = 3 then (0, t.od) else if w = 4 then (if t.sd = -1 then (6, -1) else (0, t.sd)) else if w = 5 then (0, t.go) else if w = 6 then (0, tbF t w) else if w = 7 then (0, t.sk) else if w = 8 then (0, tbF t w) else if w = 9 then (0, tbF t w) else if w = 10 then (0, tbF t w) else if w = 11 then (0, tbF t w) else (1, -1)
def waG (t : TW) (k : Nat) (w : Int32) : Int32 × Int32 := if w = 0 then (0, tB (t.fa k)) else if w = 1 then (0, bP (lB (t.fa k) = 1)) else if w = 2 then (0, sB (t.fa k)) else if w = 3 then (0, t.fa k) else if w = 4 then (0, iorr (fun l => if t.te l = nI k then bit (nI l) else 0) t.nL) else (1, -1)
def waF (t : TW) (a w : Int32) : Int32 × Int32 := if inR a (nI t.nW) then waG t a.toNatClampNeg w else (1, -1)
def leG (t : TW) (l : Nat) (w : Int32) : Int32 × Int32 := if w = 0 then (0, t.te l) else if w = 1 then (0, t.fr l) else if w = 2 then (0, t.to_ l) else if w = 3 then (0, t.ea l) else if w = 4 then (0, t.no l) else if w = 5 then (0, tE_ t l) else if w = 6 then (0, tN_ t l) else if w = 7 then (if canM (tPo t).1 t.fr t.to_ (tTh t) l then (0, tMs t l) else (6, -1)) else (1, -1)
def leF (t : TW) (a w : Int32) : Int32 × Int32 := if inR a (nI t.nL) then leG t a.toNatClampNeg w else (1, -1)
def plF (t : TW) (a w : Int32) : Int32 × Int32 := if inR a (nI t.nP) ∧ inR w 2 then (if tLp t a.toNatClampNeg then (0, if w = 0 then tX t a.toNatClampNeg else tY t a.toNatClampNeg) else (6, -1)) else (1, -1)
def apF (t : TW) (a b : Int32) : Int32 × Int32 := if inR a (nI t.nP) ∧ inR b (nI t.nP) then (if tLp t a.toNatClampNeg ∧ tLp t b.toNatClampNeg then (0, aB (tX t a.toNatClampNeg - tX t b.toNatClampNeg) + aB (tY t a.toNatClampNeg - tY t b.toNatClampNeg)) else (6, -1)) else (1, -1)
def joF (t : TW) (a b : Int32) : Int32 × Int32 := if inR a (nI t.nP) ∧ inR b (nI t.nP) then (0, bP ((tPo t).1 a.toNatClampNeg = (tPo t).1 b.toNatClampNeg)) else (1, -1)
set_option maxRecDepth 100000 in
set_option maxHeartbeats 4000000 in
theorem c_PM_toldByChart {w : Int32} (I : tOK T) (SO_ : SO C U W L) (hq : ∀ C, cOK C → Q (some (.int (tbF T w))) (hPM Y X T S M D E N C U W G L VL HL nK ST TP BT)) : Call Γ M_PM_toldByChart 5 0 0 [.ref 0, .int w] (hPM Y X T S M D E N C U W G L VL HL nK ST TP BT) Q := by
  refine call_intro (ls := [some (.ref 0), some (.int w)]) rfl rfl rfl ?_
  refine wp_aload_n 1 d_PM_toldByChart_0 rfl rfl ?_
  refine wp_getfield 4 11 8 d_PM_toldByChart_1 rfl fl_PM_53 rfl rfl ?_
  refine wp_aload_n 5 d_PM_toldByChart_4 rfl rfl ?_
  refine wp_getfield 8 11 2 d_PM_toldByChart_5 rfl fl_PM_25 rfl rfl ?_
  refine ws_V1 (v1' := .ref 8) (b' := 0) 11 M_Chart_draw 4 [36, 37, 38, 39, 40, 41, 42, 43, 8, 9, 10, 11, 12, 13, 14, 15, 16] ((hCTr C T)) d_PM_toldByChart_8 rfl mv_Chart_draw lk_PM_260 rfl rfl rfl rfl rfl rfl rfl rfl rfl ?_
  refine c_drawA I SO_.1 (fun c2 hc2 hA => ?_)
  refine sV ?_
  simp only [putH, rC, sg, eV, List.map_cons, List.map_nil, List.set_cons_zero, List.set_cons_succ, List.length_cons, List.length_nil, List.getD_cons_zero, List.getD_cons_succ, Nat.zero_add, Nat.reduceAdd, Nat.reduceLT, if_true, ite_true]
  refine hEq (hPM Y X T S M D E N (c2) U W G L VL HL nK ST TP BT) rfl ?_
  refine wp_iload_n 12 d_PM_toldByChart_11 rfl rfl ?_
  by_cases h12_0 : w = 6
  · refine wp_tabIn (off := 40) 52 6 d_PM_toldByChart_12 h12_0 (by decide) (by decide) (by decide) (by decide) ?_
    refine wp_aload_n 53 d_PM_toldByChart_52 rfl rfl ?_
    refine wp_getfield 56 11 8 d_PM_toldByChart_53 rfl fl_PM_53 rfl rfl ?_
    refine wp_aload_n 57 d_PM_toldByChart_56 rfl rfl ?_
    refine wp_getfield 60 11 2 d_PM_toldByChart_57 rfl fl_PM_25 rfl rfl ?_
    refine ws_V1 (v1' := .ref 8) (b' := 0) 63 M_Chart_liesSet 3 [36, 37, 38, 39, 40, 41, 42, 43, 8, 9, 10, 11, 12, 13, 14, 15, 16] ((hCTr c2 T)) d_PM_toldByChart_60 rfl mv_Chart_liesSet lk_PM_406 rfl rfl rfl rfl rfl rfl rfl rfl rfl ?_
    refine c_liesSetA I hA ?_
    refine sIr rfl rfl ?_
    refine wp_ireturn d_PM_toldByChart_63 rfl ?_
    have e : tbF T w = _ := (if_pos h12_0)
    rw [e] at hq
    exact hq _ hc2
  by_cases h12_1 : w = 7
  · refine wp_tabIn (off := 118) 130 7 d_PM_toldByChart_12 h12_1 (by decide) (by decide) (by decide) (by decide) ?_
    refine wp_aload_n 131 d_PM_toldByChart_130 rfl rfl ?_
    refine wp_getfield 134 11 8 d_PM_toldByChart_131 rfl fl_PM_53 rfl rfl ?_
    refine wp_aload_n 135 d_PM_toldByChart_134 rfl rfl ?_
    refine wp_getfield 138 11 2 d_PM_toldByChart_135 rfl fl_PM_25 rfl rfl ?_
    refine ws_V1 (v1' := .ref 8) (b' := 0) 141 M_Chart_bridges 4 [36, 37, 38, 39, 40, 41, 42, 43, 8, 9, 10, 11, 12, 13, 14, 15, 16] ((hCTr c2 T)) d_PM_toldByChart_138 rfl mv_Chart_bridges lk_PM_433 rfl rfl rfl rfl rfl rfl rfl rfl rfl ?_
    refine c_bridgesA I hc2 (fun c3 hc3 => ?_)
    refine sI ?_
    simp only [putH, rC, sg, eV, List.map_cons, List.map_nil, List.set_cons_zero, List.set_cons_succ, List.length_cons, List.length_nil, List.getD_cons_zero, List.getD_cons_succ, Nat.zero_add, Nat.reduceAdd, Nat.reduceLT, if_true, ite_true]
    refine hEq (hPM Y X T S M D E N (c3) U W G L VL HL nK ST TP BT) rfl ?_
    refine wp_ireturn d_PM_toldByChart_141 rfl ?_
    have e : tbF T w = _ := ((((if_neg (by rw [h12_1]; decide)).trans (if_neg (by rw [h12_1]; decide))).trans (if_neg (by rw [h12_1]; decide))).trans (if_neg (by rw [h12_1]; decide)))
    rw [e] at hq
    exact hq _ hc3
  by_cases h12_2 : w = 8
  · refine wp_tabIn (off := 52) 64 8 d_PM_toldByChart_12 h12_2 (by decide) (by decide) (by decide) (by decide) ?_
    refine wp_aload_n 65 d_PM_toldByChart_64 rfl rfl ?_
    refine wp_getfield 68 11 8 d_PM_toldByChart_65 rfl fl_PM_53 rfl rfl ?_
    refine wp_aload_n 69 d_PM_toldByChart_68 rfl rfl ?_
    refine wp_getfield 72 11 2 d_PM_toldByChart_69 rfl fl_PM_25 rfl rfl ?_
    refine ws_V1 (v1' := .ref 8) (b' := 0) 75 M_Chart_missSet 4 [36, 37, 38, 39, 40, 41, 42, 43, 8, 9, 10, 11, 12, 13, 14, 15, 16] ((hCTr c2 T)) d_PM_toldByChart_72 rfl mv_Chart_missSet lk_PM_424 rfl rfl rfl rfl rfl rfl rfl rfl rfl ?_
    refine c_missSetA I hA ?_
    refine sIr rfl rfl ?_
    refine wp_ireturn d_PM_toldByChart_75 rfl ?_
    have e : tbF T w = _ := ((if_neg h12_0).trans (if_pos h12_2))
    rw [e] at hq
    exact hq _ hc2
  by_cases h12_3 : w = 9
  · refine wp_tabIn (off := 118) 130 9 d_PM_toldByChart_12 h12_3 (by decide) (by decide) (by decide) (by decide) ?_
    refine wp_aload_n 131 d_PM_toldByChart_130 rfl rfl ?_
    refine wp_getfield 134 11 8 d_PM_toldByChart_131 rfl fl_PM_53 rfl rfl ?_
    refine wp_aload_n 135 d_PM_toldByChart_134 rfl rfl ?_
    refine wp_getfield 138 11 2 d_PM_toldByChart_135 rfl fl_PM_25 rfl rfl ?_
    refine ws_V1 (v1' := .ref 8) (b' := 0) 141 M_Chart_bridges 4 [36, 37, 38, 39, 40, 41, 42, 43, 8, 9, 10, 11, 12, 13, 14, 15, 16] ((hCTr c2 T)) d_PM_toldByChart_138 rfl mv_Chart_bridges lk_PM_433 rfl rfl rfl rfl rfl rfl rfl rfl rfl ?_
    refine c_bridgesA I hc2 (fun c3 hc3 => ?_)
    refine sI ?_
    simp only [putH, rC, sg, eV, List.map_cons, List.map_nil, List.set_cons_zero, List.set_cons_succ, List.length_cons, List.length_nil, List.getD_cons_zero, List.getD_cons_succ, Nat.zero_add, Nat.reduceAdd, Nat.reduceLT, if_true, ite_true]
    refine hEq (hPM Y X T S M D E N (c3) U W G L VL HL nK ST TP BT) rfl ?_
    refine wp_ireturn d_PM_toldByChart_141 rfl ?_
    have e : tbF T w = _ := ((((if_neg (by rw [h12_3]; decide)).trans (if_neg (by rw [h12_3]; decide))).trans (if_neg (by rw [h12_3]; decide))).trans (if_neg (by rw [h12_3]; decide)))
    rw [e] at hq
    exact hq _ hc3
  by_cases h12_4 : w = 10
  · refine wp_tabIn (off := 64) 76 10 d_PM_toldByChart_12 h12_4 (by decide) (by decide) (by decide) (by decide) ?_
    refine wp_aload_n 77 d_PM_toldByChart_76 rfl rfl ?_
    refine wp_getfield 80 11 2 d_PM_toldByChart_77 rfl fl_PM_25 rfl rfl ?_
    refine ws_V0 (b' := 0) 83 M_Town_legsThere 1 [8, 9, 10, 11, 12, 13, 14, 15, 16] ((hTr T)) d_PM_toldByChart_80 rfl mv_Town_legsThere lk_PM_285 rfl rfl rfl rfl rfl rfl rfl rfl ?_
    refine c_Town_legsThere ?_
    refine sIr rfl rfl ?_
    refine wp_S1 86 M_JInt_bitCount 1 d_PM_toldByChart_83 rfl ms_JInt_bitCount lk_PM_309 rfl rfl ?_
    refine c_JInt_bitCount ?_
    refine kI ?_
    refine wp_aload_n 87 d_PM_toldByChart_86 rfl rfl ?_
    refine wp_getfield 90 11 2 d_PM_toldByChart_87 rfl fl_PM_25 rfl rfl ?_
    refine wp_getfield 93 8 8 d_PM_toldByChart_90 rfl fl_PM_203 rfl rfl ?_
    refine wp_isub 94 d_PM_toldByChart_93 rfl ?_
    refine wp_aload_n 95 d_PM_toldByChart_94 rfl rfl ?_
    refine wp_getfield 98 11 8 d_PM_toldByChart_95 rfl fl_PM_53 rfl rfl ?_
    refine wp_getfield 101 0 8 d_PM_toldByChart_98 rfl fl_PM_427 rfl rfl ?_
    refine wp_iadd 102 d_PM_toldByChart_101 rfl ?_
    refine wp_ireturn d_PM_toldByChart_102 rfl ?_
    rw [hA.2]
    have e : tbF T w = _ := (((if_neg h12_0).trans (if_neg h12_2)).trans (if_pos h12_4))
    rw [e] at hq
    exact hq _ hc2
  by_cases h12_5 : w = 11
  · refine wp_tabIn (off := 91) 103 11 d_PM_toldByChart_12 h12_5 (by decide) (by decide) (by decide) (by decide) ?_
    refine wp_aload_n 104 d_PM_toldByChart_103 rfl rfl ?_
    refine wp_getfield 107 11 8 d_PM_toldByChart_104 rfl fl_PM_53 rfl rfl ?_
    refine wp_aload_n 108 d_PM_toldByChart_107 rfl rfl ?_
    refine wp_getfield 111 11 2 d_PM_toldByChart_108 rfl fl_PM_25 rfl rfl ?_
    refine wp_aload_n 112 d_PM_toldByChart_111 rfl rfl ?_
    refine wp_getfield 115 11 2 d_PM_toldByChart_112 rfl fl_PM_25 rfl rfl ?_
    refine ws_V0 (b' := 0) 118 M_Town_legsThere 1 [8, 9, 10, 11, 12, 13, 14, 15, 16] ((hTr T)) d_PM_toldByChart_115 rfl mv_Town_legsThere lk_PM_285 rfl rfl rfl rfl rfl rfl rfl rfl ?_
    refine c_Town_legsThere ?_
    refine sIr rfl rfl ?_
    refine ws_V2 (v1' := .ref 8) (b' := 0) 121 M_Chart_closes 3 [36, 37, 38, 39, 40, 41, 42, 43, 8, 9, 10, 11, 12, 13, 14, 15, 16] ((hCTr c2 T)) d_PM_toldByChart_118 rfl mv_Chart_closes lk_PM_430 rfl rfl rfl rfl rfl rfl rfl rfl (eV_int _ _) rfl ?_
    refine c_closesA I hA ?_
    refine sIr rfl rfl ?_
    (first | refine wp_ifP_eq 128 124 d_PM_toldByChart_121 rfl (by decide) (fun h121 => ?_) (fun h121 => ?_) | refine wp_if_eq 128 124 d_PM_toldByChart_121 rfl (by decide) (fun h121 => ?_) (fun h121 => ?_))
    · refine wp_iconst 129 0 d_PM_toldByChart_128 rfl (by decide) ?_
      refine wp_ireturn d_PM_toldByChart_129 rfl ?_
      have e : tbF T w = _ := (((((if_neg h12_0).trans (if_neg h12_2)).trans (if_neg h12_4)).trans (if_pos h12_5)).trans (bP_f h121))
      rw [e] at hq
      exact hq _ hc2
    · refine wp_iconst 125 1 d_PM_toldByChart_124 rfl (by decide) ?_
      refine wp_goto 129 d_PM_toldByChart_125 (by decide) ?_
      refine wp_ireturn d_PM_toldByChart_129 rfl ?_
      have e : tbF T w = _ := (((((if_neg h12_0).trans (if_neg h12_2)).trans (if_neg h12_4)).trans (if_pos h12_5)).trans (bP_t h121))
      rw [e] at hq
      exact hq _ hc2
  refine wp_tabOut 130 d_PM_toldByChart_12 (sw_outL 6 6 (by omega) (fun i hi => match i, hi with
      | 0, _ => h12_0
      | 1, _ => h12_1
      | 2, _ => h12_2
      | 3, _ => h12_3
      | 4, _ => h12_4
      | 5, _ => h12_5
      | i + 6, hi => absurd hi (by omega))) (by decide) ?_
  refine wp_aload_n 131 d_PM_toldByChart_130 rfl rfl ?_
  refine wp_getfield 134 11 8 d_PM_toldByChart_131 rfl fl_PM_53 rfl rfl ?_
  refine wp_aload_n 135 d_PM_toldByChart_134 rfl rfl ?_
  refine wp_getfield 138 11 2 d_PM_toldByChart_135 rfl fl_PM_25 rfl rfl ?_
  refine ws_V1 (v1' := .ref 8) (b' := 0) 141 M_Chart_bridges 4 [36, 37, 38, 39, 40, 41, 42, 43, 8, 9, 10, 11, 12, 13, 14, 15, 16] ((hCTr c2 T)) d_PM_toldByChart_138 rfl mv_Chart_bridges lk_PM_433 rfl rfl rfl rfl rfl rfl rfl rfl rfl ?_
  refine c_bridgesA I hc2 (fun c3 hc3 => ?_)
  refine sI ?_
  simp only [putH, rC, sg, eV, List.map_cons, List.map_nil, List.set_cons_zero, List.set_cons_succ, List.length_cons, List.length_nil, List.getD_cons_zero, List.getD_cons_succ, Nat.zero_add, Nat.reduceAdd, Nat.reduceLT, if_true, ite_true]
  refine hEq (hPM Y X T S M D E N (c3) U W G L VL HL nK ST TP BT) rfl ?_
  refine wp_ireturn d_PM_toldByChart_141 rfl ?_
  have e : tbF T w = _ := ((((if_neg h12_0).trans (if_neg h12_2)).trans (if_neg h12_4)).trans (if_neg h12_5))
  rw [e] at hq
  exact hq _ hc3

set_option maxRecDepth 100000 in
set_option maxHeartbeats 4000000 in
theorem c_PM_told {w : Int32} (I : tOK T) (SO_ : SO C U W L) (hq : ∀ C U W G L, SO C U W L → Q (some (.int (toF T w).2)) (hPM Y X T S M D E N C U W G L VL HL nK ((toF T w).1) TP BT)) : Call Γ M_PM_told 6 0 0 [.ref 0, .int w] (hPM Y X T S M D E N C U W G L VL HL nK ST TP BT) Q := by
  refine call_intro (ls := [some (.ref 0), some (.int w)]) rfl rfl rfl ?_
  refine wp_iload_n 1 d_PM_told_0 rfl rfl ?_
  by_cases h1_0 : w = 0
  · refine wp_tabIn (off := 63) 64 0 d_PM_told_1 h1_0 (by decide) (by decide) (by decide) (by decide) ?_
    refine wp_aload_n 65 d_PM_told_64 rfl rfl ?_
    refine wp_aload_n 66 d_PM_told_65 rfl rfl ?_
    refine wp_getfield 69 11 2 d_PM_told_66 rfl fl_PM_25 rfl rfl ?_
    refine wp_getfield 72 8 8 d_PM_told_69 rfl fl_PM_203 rfl rfl ?_
    refine wp_V1 75 M_PM_answer 1 d_PM_told_72 rfl mv_PM_answer lk_PM_182 rfl rfl rfl rfl rfl ?_
    refine c_PM_answer ?_
    refine kI ?_
    refine wp_ireturn d_PM_told_75 rfl ?_
    have e : toF T w = _ := (if_pos h1_0)
    rw [e] at hq
    exact hq _ _ _ _ _ SO_
  by_cases h1_1 : w = 1
  · refine wp_tabIn (off := 75) 76 1 d_PM_told_1 h1_1 (by decide) (by decide) (by decide) (by decide) ?_
    refine wp_aload_n 77 d_PM_told_76 rfl rfl ?_
    refine wp_aload_n 78 d_PM_told_77 rfl rfl ?_
    refine wp_getfield 81 11 2 d_PM_told_78 rfl fl_PM_25 rfl rfl ?_
    refine wp_getfield 84 8 9 d_PM_told_81 rfl fl_PM_206 rfl rfl ?_
    refine wp_V1 87 M_PM_answer 1 d_PM_told_84 rfl mv_PM_answer lk_PM_182 rfl rfl rfl rfl rfl ?_
    refine c_PM_answer ?_
    refine kI ?_
    refine wp_ireturn d_PM_told_87 rfl ?_
    have e : toF T w = _ := ((if_neg h1_0).trans (if_pos h1_1))
    rw [e] at hq
    exact hq _ _ _ _ _ SO_
  by_cases h1_2 : w = 2
  · refine wp_tabIn (off := 87) 88 2 d_PM_told_1 h1_2 (by decide) (by decide) (by decide) (by decide) ?_
    refine wp_aload_n 89 d_PM_told_88 rfl rfl ?_
    refine wp_aload_n 90 d_PM_told_89 rfl rfl ?_
    refine wp_getfield 93 11 2 d_PM_told_90 rfl fl_PM_25 rfl rfl ?_
    refine wp_getfield 96 8 10 d_PM_told_93 rfl fl_PM_179 rfl rfl ?_
    refine wp_V1 99 M_PM_answer 1 d_PM_told_96 rfl mv_PM_answer lk_PM_182 rfl rfl rfl rfl rfl ?_
    refine c_PM_answer ?_
    refine kI ?_
    refine wp_ireturn d_PM_told_99 rfl ?_
    have e : toF T w = _ := (((if_neg h1_0).trans (if_neg h1_1)).trans (if_pos h1_2))
    rw [e] at hq
    exact hq _ _ _ _ _ SO_
  by_cases h1_3 : w = 3
  · refine wp_tabIn (off := 99) 100 3 d_PM_told_1 h1_3 (by decide) (by decide) (by decide) (by decide) ?_
    refine wp_aload_n 101 d_PM_told_100 rfl rfl ?_
    refine wp_aload_n 102 d_PM_told_101 rfl rfl ?_
    refine wp_getfield 105 11 2 d_PM_told_102 rfl fl_PM_25 rfl rfl ?_
    refine wp_getfield 108 8 11 d_PM_told_105 rfl fl_PM_209 rfl rfl ?_
    refine wp_V1 111 M_PM_answer 1 d_PM_told_108 rfl mv_PM_answer lk_PM_182 rfl rfl rfl rfl rfl ?_
    refine c_PM_answer ?_
    refine kI ?_
    refine wp_ireturn d_PM_told_111 rfl ?_
    have e : toF T w = _ := ((((if_neg h1_0).trans (if_neg h1_1)).trans (if_neg h1_2)).trans (if_pos h1_3))
    rw [e] at hq
    exact hq _ _ _ _ _ SO_
  by_cases h1_4 : w = 4
  · refine wp_tabIn (off := 111) 112 4 d_PM_told_1 h1_4 (by decide) (by decide) (by decide) (by decide) ?_
    refine wp_aload_n 113 d_PM_told_112 rfl rfl ?_
    refine wp_getfield 116 11 2 d_PM_told_113 rfl fl_PM_25 rfl rfl ?_
    refine wp_getfield 119 8 13 d_PM_told_116 rfl fl_PM_212 rfl rfl ?_
    refine wp_iconst 120 (-1) d_PM_told_119 rfl (by decide) ?_
    refine wp_icmp_ne 132 123 d_PM_told_120 rfl (by decide) (fun h120 => ?_) (fun h120 => ?_)
    · refine wp_aload_n 133 d_PM_told_132 rfl rfl ?_
      refine wp_aload_n 134 d_PM_told_133 rfl rfl ?_
      refine wp_getfield 137 11 2 d_PM_told_134 rfl fl_PM_25 rfl rfl ?_
      refine wp_getfield 140 8 13 d_PM_told_137 rfl fl_PM_212 rfl rfl ?_
      refine wp_V1 143 M_PM_answer 1 d_PM_told_140 rfl mv_PM_answer lk_PM_182 rfl rfl rfl rfl rfl ?_
      refine c_PM_answer ?_
      refine kI ?_
      refine wp_ireturn d_PM_told_143 rfl ?_
      have e : toF T w = _ := ((((((if_neg h1_0).trans (if_neg h1_1)).trans (if_neg h1_2)).trans (if_neg h1_3)).trans (if_pos h1_4)).trans (if_neg h120))
      rw [e] at hq
      exact hq _ _ _ _ _ SO_
    · refine wp_aload_n 124 d_PM_told_123 rfl rfl ?_
      refine wp_bipush 126 6 d_PM_told_124 rfl (by decide) ?_
      refine wp_V1 129 M_PM_fail 1 d_PM_told_126 rfl mv_PM_fail lk_PM_132 rfl rfl rfl rfl rfl ?_
      refine c_PM_fail ?_
      refine kI ?_
      refine wp_goto 143 d_PM_told_129 (by decide) ?_
      refine wp_ireturn d_PM_told_143 rfl ?_
      have e : toF T w = _ := ((((((if_neg h1_0).trans (if_neg h1_1)).trans (if_neg h1_2)).trans (if_neg h1_3)).trans (if_pos h1_4)).trans (if_pos h120))
      rw [e] at hq
      exact hq _ _ _ _ _ SO_
  by_cases h1_5 : w = 5
  · refine wp_tabIn (off := 143) 144 5 d_PM_told_1 h1_5 (by decide) (by decide) (by decide) (by decide) ?_
    refine wp_aload_n 145 d_PM_told_144 rfl rfl ?_
    refine wp_aload_n 146 d_PM_told_145 rfl rfl ?_
    refine wp_getfield 149 11 2 d_PM_told_146 rfl fl_PM_25 rfl rfl ?_
    refine wp_getfield 152 8 14 d_PM_told_149 rfl fl_PM_215 rfl rfl ?_
    refine wp_V1 155 M_PM_answer 1 d_PM_told_152 rfl mv_PM_answer lk_PM_182 rfl rfl rfl rfl rfl ?_
    refine c_PM_answer ?_
    refine kI ?_
    refine wp_ireturn d_PM_told_155 rfl ?_
    have e : toF T w = _ := ((((((if_neg h1_0).trans (if_neg h1_1)).trans (if_neg h1_2)).trans (if_neg h1_3)).trans (if_neg h1_4)).trans (if_pos h1_5))
    rw [e] at hq
    exact hq _ _ _ _ _ SO_
  by_cases h1_6 : w = 6
  · refine wp_tabIn (off := 167) 168 6 d_PM_told_1 h1_6 (by decide) (by decide) (by decide) (by decide) ?_
    refine wp_aload_n 169 d_PM_told_168 rfl rfl ?_
    refine wp_aload_n 170 d_PM_told_169 rfl rfl ?_
    refine wp_iload_n 171 d_PM_told_170 rfl rfl ?_
    refine wp_V1 174 M_PM_toldByChart 5 d_PM_told_171 rfl mv_PM_toldByChart lk_PM_221 rfl rfl rfl rfl rfl ?_
    refine c_PM_toldByChart I SO_ (fun c2 hc2 => ?_)
    refine kI ?_
    refine wp_V1 177 M_PM_answer 1 d_PM_told_174 rfl mv_PM_answer lk_PM_182 rfl rfl rfl rfl rfl ?_
    refine c_PM_answer ?_
    refine kI ?_
    refine wp_ireturn d_PM_told_177 rfl ?_
    have e : toF T w = _ := (((((((if_neg h1_0).trans (if_neg h1_1)).trans (if_neg h1_2)).trans (if_neg h1_3)).trans (if_neg h1_4)).trans (if_neg h1_5)).trans (if_pos h1_6))
    rw [e] at hq
    exact hq _ _ _ _ _ ⟨hc2, SO_.2⟩
  by_cases h1_7 : w = 7
  · refine wp_tabIn (off := 155) 156 7 d_PM_told_1 h1_7 (by decide) (by decide) (by decide) (by decide) ?_
    refine wp_aload_n 157 d_PM_told_156 rfl rfl ?_
    refine wp_aload_n 158 d_PM_told_157 rfl rfl ?_
    refine wp_getfield 161 11 2 d_PM_told_158 rfl fl_PM_25 rfl rfl ?_
    refine wp_getfield 164 8 12 d_PM_told_161 rfl fl_PM_218 rfl rfl ?_
    refine wp_V1 167 M_PM_answer 1 d_PM_told_164 rfl mv_PM_answer lk_PM_182 rfl rfl rfl rfl rfl ?_
    refine c_PM_answer ?_
    refine kI ?_
    refine wp_ireturn d_PM_told_167 rfl ?_
    have e : toF T w = _ := ((((((((if_neg h1_0).trans (if_neg h1_1)).trans (if_neg h1_2)).trans (if_neg h1_3)).trans (if_neg h1_4)).trans (if_neg h1_5)).trans (if_neg h1_6)).trans (if_pos h1_7))
    rw [e] at hq
    exact hq _ _ _ _ _ SO_
  by_cases h1_8 : w = 8
  · refine wp_tabIn (off := 167) 168 8 d_PM_told_1 h1_8 (by decide) (by decide) (by decide) (by decide) ?_
    refine wp_aload_n 169 d_PM_told_168 rfl rfl ?_
    refine wp_aload_n 170 d_PM_told_169 rfl rfl ?_
    refine wp_iload_n 171 d_PM_told_170 rfl rfl ?_
    refine wp_V1 174 M_PM_toldByChart 5 d_PM_told_171 rfl mv_PM_toldByChart lk_PM_221 rfl rfl rfl rfl rfl ?_
    refine c_PM_toldByChart I SO_ (fun c2 hc2 => ?_)
    refine kI ?_
    refine wp_V1 177 M_PM_answer 1 d_PM_told_174 rfl mv_PM_answer lk_PM_182 rfl rfl rfl rfl rfl ?_
    refine c_PM_answer ?_
    refine kI ?_
    refine wp_ireturn d_PM_told_177 rfl ?_
    have e : toF T w = _ := (((((((((if_neg h1_0).trans (if_neg h1_1)).trans (if_neg h1_2)).trans (if_neg h1_3)).trans (if_neg h1_4)).trans (if_neg h1_5)).trans (if_neg h1_6)).trans (if_neg h1_7)).trans (if_pos h1_8))
    rw [e] at hq
    exact hq _ _ _ _ _ ⟨hc2, SO_.2⟩
  by_cases h1_9 : w = 9
  · refine wp_tabIn (off := 167) 168 9 d_PM_told_1 h1_9 (by decide) (by decide) (by decide) (by decide) ?_
    refine wp_aload_n 169 d_PM_told_168 rfl rfl ?_
    refine wp_aload_n 170 d_PM_told_169 rfl rfl ?_
    refine wp_iload_n 171 d_PM_told_170 rfl rfl ?_
    refine wp_V1 174 M_PM_toldByChart 5 d_PM_told_171 rfl mv_PM_toldByChart lk_PM_221 rfl rfl rfl rfl rfl ?_
    refine c_PM_toldByChart I SO_ (fun c2 hc2 => ?_)
    refine kI ?_
    refine wp_V1 177 M_PM_answer 1 d_PM_told_174 rfl mv_PM_answer lk_PM_182 rfl rfl rfl rfl rfl ?_
    refine c_PM_answer ?_
    refine kI ?_
    refine wp_ireturn d_PM_told_177 rfl ?_
    have e : toF T w = _ := ((((((((((if_neg h1_0).trans (if_neg h1_1)).trans (if_neg h1_2)).trans (if_neg h1_3)).trans (if_neg h1_4)).trans (if_neg h1_5)).trans (if_neg h1_6)).trans (if_neg h1_7)).trans (if_neg h1_8)).trans (if_pos h1_9))
    rw [e] at hq
    exact hq _ _ _ _ _ ⟨hc2, SO_.2⟩
  by_cases h1_10 : w = 10
  · refine wp_tabIn (off := 167) 168 10 d_PM_told_1 h1_10 (by decide) (by decide) (by decide) (by decide) ?_
    refine wp_aload_n 169 d_PM_told_168 rfl rfl ?_
    refine wp_aload_n 170 d_PM_told_169 rfl rfl ?_
    refine wp_iload_n 171 d_PM_told_170 rfl rfl ?_
    refine wp_V1 174 M_PM_toldByChart 5 d_PM_told_171 rfl mv_PM_toldByChart lk_PM_221 rfl rfl rfl rfl rfl ?_
    refine c_PM_toldByChart I SO_ (fun c2 hc2 => ?_)
    refine kI ?_
    refine wp_V1 177 M_PM_answer 1 d_PM_told_174 rfl mv_PM_answer lk_PM_182 rfl rfl rfl rfl rfl ?_
    refine c_PM_answer ?_
    refine kI ?_
    refine wp_ireturn d_PM_told_177 rfl ?_
    have e : toF T w = _ := (((((((((((if_neg h1_0).trans (if_neg h1_1)).trans (if_neg h1_2)).trans (if_neg h1_3)).trans (if_neg h1_4)).trans (if_neg h1_5)).trans (if_neg h1_6)).trans (if_neg h1_7)).trans (if_neg h1_8)).trans (if_neg h1_9)).trans (if_pos h1_10))
    rw [e] at hq
    exact hq _ _ _ _ _ ⟨hc2, SO_.2⟩
  by_cases h1_11 : w = 11
  · refine wp_tabIn (off := 167) 168 11 d_PM_told_1 h1_11 (by decide) (by decide) (by decide) (by decide) ?_
    refine wp_aload_n 169 d_PM_told_168 rfl rfl ?_
    refine wp_aload_n 170 d_PM_told_169 rfl rfl ?_
    refine wp_iload_n 171 d_PM_told_170 rfl rfl ?_
    refine wp_V1 174 M_PM_toldByChart 5 d_PM_told_171 rfl mv_PM_toldByChart lk_PM_221 rfl rfl rfl rfl rfl ?_
    refine c_PM_toldByChart I SO_ (fun c2 hc2 => ?_)
    refine kI ?_
    refine wp_V1 177 M_PM_answer 1 d_PM_told_174 rfl mv_PM_answer lk_PM_182 rfl rfl rfl rfl rfl ?_
    refine c_PM_answer ?_
    refine kI ?_
    refine wp_ireturn d_PM_told_177 rfl ?_
    have e : toF T w = _ := ((((((((((((if_neg h1_0).trans (if_neg h1_1)).trans (if_neg h1_2)).trans (if_neg h1_3)).trans (if_neg h1_4)).trans (if_neg h1_5)).trans (if_neg h1_6)).trans (if_neg h1_7)).trans (if_neg h1_8)).trans (if_neg h1_9)).trans (if_neg h1_10)).trans (if_pos h1_11))
    rw [e] at hq
    exact hq _ _ _ _ _ ⟨hc2, SO_.2⟩
  refine wp_tabOut 178 d_PM_told_1 (sw_out12 h1_0 h1_1 h1_2 h1_3 h1_4 h1_5 h1_6 h1_7 h1_8 h1_9 h1_10 h1_11) (by decide) ?_
  refine wp_aload_n 179 d_PM_told_178 rfl rfl ?_
  refine wp_iconst 180 1 d_PM_told_179 rfl (by decide) ?_
  refine wp_V1 183 M_PM_fail 1 d_PM_told_180 rfl mv_PM_fail lk_PM_132 rfl rfl rfl rfl rfl ?_
  refine c_PM_fail ?_
  refine kI ?_
  refine wp_ireturn d_PM_told_183 rfl ?_
  have e : toF T w = _ := ((((((((((((if_neg h1_0).trans (if_neg h1_1)).trans (if_neg h1_2)).trans (if_neg h1_3)).trans (if_neg h1_4)).trans (if_neg h1_5)).trans (if_neg h1_6)).trans (if_neg h1_7)).trans (if_neg h1_8)).trans (if_neg h1_9)).trans (if_neg h1_10)).trans (if_neg h1_11))
  rw [e] at hq
  exact hq _ _ _ _ _ SO_

set_option maxRecDepth 100000 in
set_option maxHeartbeats 4000000 in
theorem c_PM_walker {a w : Int32} (I : tOK T) (SO_ : SO C U W L) (hq : ∀ C U W G L, SO C U W L → Q (some (.int (waF T a w).2)) (hPM Y X T S M D E N C U W G L VL HL nK ((waF T a w).1) TP BT)) : Call Γ M_PM_walker 4 0 0 [.ref 0, .int a, .int w] (hPM Y X T S M D E N C U W G L VL HL nK ST TP BT) Q := by
  refine call_intro (ls := [some (.ref 0), some (.int a), some (.int w), none]) rfl rfl rfl ?_
  refine wp_iload_n 1 d_PM_walker_0 rfl rfl ?_
  refine wp_aload_n 2 d_PM_walker_1 rfl rfl ?_
  refine wp_getfield 5 11 2 d_PM_walker_2 rfl fl_PM_25 rfl rfl ?_
  refine wp_getfield 8 8 9 d_PM_walker_5 rfl fl_PM_206 rfl rfl ?_
  refine wp_S2 11 M_PM_within 1 d_PM_walker_8 rfl ms_PM_within lk_PM_108 rfl rfl ?_
  refine c_PM_within ?_
  refine kI ?_
  (first | refine wp_ifP_ne 20 14 d_PM_walker_11 rfl (by decide) (fun h11 => ?_) (fun h11 => ?_) | refine wp_if_ne 20 14 d_PM_walker_11 rfl (by decide) (fun h11 => ?_) (fun h11 => ?_))
  · obtain ⟨l, hl, rfl⟩ := inR_ex h11 (by have := I.hW; omega)
    have hl12 : l < 4 := by have := I.hW; omega
    refine wp_aload_n 21 d_PM_walker_20 rfl rfl ?_
    refine wp_getfield 24 11 2 d_PM_walker_21 rfl fl_PM_25 rfl rfl ?_
    refine wp_getfield 27 8 2 d_PM_walker_24 rfl fl_PM_224 rfl rfl ?_
    refine wp_iload_n 28 d_PM_walker_27 rfl rfl ?_
    refine wp_iaload 29 d_PM_walker_28 rfl rfl (vp_in_nI hl12 (by omega)) ?_
    rw [nI_clamp (by omega)]
    refine wp_istore_3 30 d_PM_walker_29 rfl rfl rfl ?_
    refine wp_iload_n 31 d_PM_walker_30 rfl rfl ?_
    by_cases h31_0 : w = 0
    · refine wp_tabIn (off := 33) 64 0 d_PM_walker_31 h31_0 (by decide) (by decide) (by decide) (by decide) ?_
      refine wp_aload_n 65 d_PM_walker_64 rfl rfl ?_
      refine wp_iload_n 66 d_PM_walker_65 rfl rfl ?_
      refine wp_S1 69 M_Town_turnedBy 1 d_PM_walker_66 rfl ms_Town_turnedBy lk_PM_227 rfl rfl ?_
      refine c_Town_turnedBy ?_
      refine kI ?_
      refine wp_V1 72 M_PM_answer 1 d_PM_walker_69 rfl mv_PM_answer lk_PM_182 rfl rfl rfl rfl rfl ?_
      refine c_PM_answer ?_
      refine kI ?_
      refine wp_ireturn d_PM_walker_72 rfl ?_
      have e : waF T (nI l) w = _ := (((if_pos h11).trans (congrArg (fun k => waG T k w) (nI_clamp (by omega)))).trans (if_pos h31_0))
      rw [e] at hq
      exact hq _ _ _ _ _ SO_
    by_cases h31_1 : w = 1
    · refine wp_tabIn (off := 42) 73 1 d_PM_walker_31 h31_1 (by decide) (by decide) (by decide) (by decide) ?_
      refine wp_aload_n 74 d_PM_walker_73 rfl rfl ?_
      refine wp_iload_n 75 d_PM_walker_74 rfl rfl ?_
      refine wp_S1 78 M_Town_isLeft 1 d_PM_walker_75 rfl ms_Town_isLeft lk_PM_230 rfl rfl ?_
      refine c_Town_isLeft ?_
      refine kI ?_
      (first | refine wp_ifP_eq 85 81 d_PM_walker_78 rfl (by decide) (fun h78 => ?_) (fun h78 => ?_) | refine wp_if_eq 85 81 d_PM_walker_78 rfl (by decide) (fun h78 => ?_) (fun h78 => ?_))
      · refine wp_iconst 86 0 d_PM_walker_85 rfl (by decide) ?_
        refine wp_V1 89 M_PM_answer 1 d_PM_walker_86 rfl mv_PM_answer lk_PM_182 rfl rfl rfl rfl rfl ?_
        refine c_PM_answer ?_
        refine kI ?_
        refine wp_ireturn d_PM_walker_89 rfl ?_
        have e : waF T (nI l) w = _ := (((((if_pos h11).trans (congrArg (fun k => waG T k w) (nI_clamp (by omega)))).trans (if_neg h31_0)).trans (if_pos h31_1)).trans (congrArg (Prod.mk 0) (bP_f h78)))
        rw [e] at hq
        exact hq _ _ _ _ _ SO_
      · refine wp_iconst 82 1 d_PM_walker_81 rfl (by decide) ?_
        refine wp_goto 86 d_PM_walker_82 (by decide) ?_
        refine wp_V1 89 M_PM_answer 1 d_PM_walker_86 rfl mv_PM_answer lk_PM_182 rfl rfl rfl rfl rfl ?_
        refine c_PM_answer ?_
        refine kI ?_
        refine wp_ireturn d_PM_walker_89 rfl ?_
        have e : waF T (nI l) w = _ := (((((if_pos h11).trans (congrArg (fun k => waG T k w) (nI_clamp (by omega)))).trans (if_neg h31_0)).trans (if_pos h31_1)).trans (congrArg (Prod.mk 0) (bP_t h78)))
        rw [e] at hq
        exact hq _ _ _ _ _ SO_
    by_cases h31_2 : w = 2
    · refine wp_tabIn (off := 59) 90 2 d_PM_walker_31 h31_2 (by decide) (by decide) (by decide) (by decide) ?_
      refine wp_aload_n 91 d_PM_walker_90 rfl rfl ?_
      refine wp_iload_n 92 d_PM_walker_91 rfl rfl ?_
      refine wp_S1 95 M_Town_strideBy 1 d_PM_walker_92 rfl ms_Town_strideBy lk_PM_233 rfl rfl ?_
      refine c_Town_strideBy ?_
      refine kI ?_
      refine wp_V1 98 M_PM_answer 1 d_PM_walker_95 rfl mv_PM_answer lk_PM_182 rfl rfl rfl rfl rfl ?_
      refine c_PM_answer ?_
      refine kI ?_
      refine wp_ireturn d_PM_walker_98 rfl ?_
      have e : waF T (nI l) w = _ := (((((if_pos h11).trans (congrArg (fun k => waG T k w) (nI_clamp (by omega)))).trans (if_neg h31_0)).trans (if_neg h31_1)).trans (if_pos h31_2))
      rw [e] at hq
      exact hq _ _ _ _ _ SO_
    by_cases h31_3 : w = 3
    · refine wp_tabIn (off := 68) 99 3 d_PM_walker_31 h31_3 (by decide) (by decide) (by decide) (by decide) ?_
      refine wp_aload_n 100 d_PM_walker_99 rfl rfl ?_
      refine wp_iload_n 101 d_PM_walker_100 rfl rfl ?_
      refine wp_V1 104 M_PM_answer 1 d_PM_walker_101 rfl mv_PM_answer lk_PM_182 rfl rfl rfl rfl rfl ?_
      refine c_PM_answer ?_
      refine kI ?_
      refine wp_ireturn d_PM_walker_104 rfl ?_
      have e : waF T (nI l) w = _ := ((((((if_pos h11).trans (congrArg (fun k => waG T k w) (nI_clamp (by omega)))).trans (if_neg h31_0)).trans (if_neg h31_1)).trans (if_neg h31_2)).trans (if_pos h31_3))
      rw [e] at hq
      exact hq _ _ _ _ _ SO_
    by_cases h31_4 : w = 4
    · refine wp_tabIn (off := 74) 105 4 d_PM_walker_31 h31_4 (by decide) (by decide) (by decide) (by decide) ?_
      refine wp_aload_n 106 d_PM_walker_105 rfl rfl ?_
      refine wp_aload_n 107 d_PM_walker_106 rfl rfl ?_
      refine wp_getfield 110 11 2 d_PM_walker_107 rfl fl_PM_25 rfl rfl ?_
      refine wp_iload_n 111 d_PM_walker_110 rfl rfl ?_
      refine ws_V1 (b' := 0) 114 M_Town_legsToldBy 1 [8, 9, 10, 11, 12, 13, 14, 15, 16] ((hTr T)) d_PM_walker_111 rfl mv_Town_legsToldBy lk_PM_236 rfl rfl rfl rfl rfl rfl rfl (eV_int _ _) rfl ?_
      refine c_Town_legsToldBy I.hL ?_
      refine sIr rfl rfl ?_
      refine wp_V1 117 M_PM_answer 1 d_PM_walker_114 rfl mv_PM_answer lk_PM_182 rfl rfl rfl rfl rfl ?_
      refine c_PM_answer ?_
      refine kI ?_
      refine wp_ireturn d_PM_walker_117 rfl ?_
      have e : waF T (nI l) w = _ := (((((((if_pos h11).trans (congrArg (fun k => waG T k w) (nI_clamp (by omega)))).trans (if_neg h31_0)).trans (if_neg h31_1)).trans (if_neg h31_2)).trans (if_neg h31_3)).trans (if_pos h31_4))
      rw [e] at hq
      exact hq _ _ _ _ _ SO_
    refine wp_tabOut 118 d_PM_walker_31 (sw_out5 h31_0 h31_1 h31_2 h31_3 h31_4) (by decide) ?_
    refine wp_aload_n 119 d_PM_walker_118 rfl rfl ?_
    refine wp_iconst 120 1 d_PM_walker_119 rfl (by decide) ?_
    refine wp_V1 123 M_PM_fail 1 d_PM_walker_120 rfl mv_PM_fail lk_PM_132 rfl rfl rfl rfl rfl ?_
    refine c_PM_fail ?_
    refine kI ?_
    refine wp_ireturn d_PM_walker_123 rfl ?_
    have e : waF T (nI l) w = _ := (((((((if_pos h11).trans (congrArg (fun k => waG T k w) (nI_clamp (by omega)))).trans (if_neg h31_0)).trans (if_neg h31_1)).trans (if_neg h31_2)).trans (if_neg h31_3)).trans (if_neg h31_4))
    rw [e] at hq
    exact hq _ _ _ _ _ SO_
  · refine wp_aload_n 15 d_PM_walker_14 rfl rfl ?_
    refine wp_iconst 16 1 d_PM_walker_15 rfl (by decide) ?_
    refine wp_V1 19 M_PM_fail 1 d_PM_walker_16 rfl mv_PM_fail lk_PM_132 rfl rfl rfl rfl rfl ?_
    refine c_PM_fail ?_
    refine kI ?_
    refine wp_ireturn d_PM_walker_19 rfl ?_
    have e : waF T a w = _ := (if_neg h11)
    rw [e] at hq
    exact hq _ _ _ _ _ SO_

set_option maxRecDepth 100000 in
set_option maxHeartbeats 4000000 in
theorem c_PM_leg {a w : Int32} (I : tOK T) (SO_ : SO C U W L) (hq : ∀ C U W G L, SO C U W L → Q (some (.int (leF T a w).2)) (hPM Y X T S M D E N C U W G L VL HL nK ((leF T a w).1) TP BT)) : Call Γ M_PM_leg 5 0 0 [.ref 0, .int a, .int w] (hPM Y X T S M D E N C U W G L VL HL nK ST TP BT) Q := by
  refine call_intro (ls := [some (.ref 0), some (.int a), some (.int w)]) rfl rfl rfl ?_
  refine wp_iload_n 1 d_PM_leg_0 rfl rfl ?_
  refine wp_aload_n 2 d_PM_leg_1 rfl rfl ?_
  refine wp_getfield 5 11 2 d_PM_leg_2 rfl fl_PM_25 rfl rfl ?_
  refine wp_getfield 8 8 10 d_PM_leg_5 rfl fl_PM_179 rfl rfl ?_
  refine wp_S2 11 M_PM_within 1 d_PM_leg_8 rfl ms_PM_within lk_PM_108 rfl rfl ?_
  refine c_PM_within ?_
  refine kI ?_
  (first | refine wp_ifP_ne 20 14 d_PM_leg_11 rfl (by decide) (fun h11 => ?_) (fun h11 => ?_) | refine wp_if_ne 20 14 d_PM_leg_11 rfl (by decide) (fun h11 => ?_) (fun h11 => ?_))
  · obtain ⟨l, hl, rfl⟩ := inR_ex h11 (by have := I.hL; omega)
    have hl12 : l < 12 := by have := I.hL; omega
    refine wp_iload_n 21 d_PM_leg_20 rfl rfl ?_
    by_cases h21_0 : w = 0
    · refine wp_tabIn (off := 47) 68 0 d_PM_leg_21 h21_0 (by decide) (by decide) (by decide) (by decide) ?_
      refine wp_aload_n 69 d_PM_leg_68 rfl rfl ?_
      refine wp_aload_n 70 d_PM_leg_69 rfl rfl ?_
      refine wp_getfield 73 11 2 d_PM_leg_70 rfl fl_PM_25 rfl rfl ?_
      refine wp_getfield 76 8 3 d_PM_leg_73 rfl fl_PM_239 rfl rfl ?_
      refine wp_iload_n 77 d_PM_leg_76 rfl rfl ?_
      refine wp_iaload 78 d_PM_leg_77 rfl rfl (vp_in_nI hl12 (by omega)) ?_
      rw [nI_clamp (by omega)]
      refine wp_V1 81 M_PM_answer 1 d_PM_leg_78 rfl mv_PM_answer lk_PM_182 rfl rfl rfl rfl rfl ?_
      refine c_PM_answer ?_
      refine kI ?_
      refine wp_ireturn d_PM_leg_81 rfl ?_
      have e : leF T (nI l) w = _ := (((if_pos h11).trans (congrArg (fun k => leG T k w) (nI_clamp (by omega)))).trans (if_pos h21_0))
      rw [e] at hq
      exact hq _ _ _ _ _ SO_
    by_cases h21_1 : w = 1
    · refine wp_tabIn (off := 61) 82 1 d_PM_leg_21 h21_1 (by decide) (by decide) (by decide) (by decide) ?_
      refine wp_aload_n 83 d_PM_leg_82 rfl rfl ?_
      refine wp_aload_n 84 d_PM_leg_83 rfl rfl ?_
      refine wp_getfield 87 11 2 d_PM_leg_84 rfl fl_PM_25 rfl rfl ?_
      refine wp_getfield 90 8 4 d_PM_leg_87 rfl fl_PM_242 rfl rfl ?_
      refine wp_iload_n 91 d_PM_leg_90 rfl rfl ?_
      refine wp_iaload 92 d_PM_leg_91 rfl rfl (vp_in_nI hl12 (by omega)) ?_
      rw [nI_clamp (by omega)]
      refine wp_V1 95 M_PM_answer 1 d_PM_leg_92 rfl mv_PM_answer lk_PM_182 rfl rfl rfl rfl rfl ?_
      refine c_PM_answer ?_
      refine kI ?_
      refine wp_ireturn d_PM_leg_95 rfl ?_
      have e : leF T (nI l) w = _ := ((((if_pos h11).trans (congrArg (fun k => leG T k w) (nI_clamp (by omega)))).trans (if_neg h21_0)).trans (if_pos h21_1))
      rw [e] at hq
      exact hq _ _ _ _ _ SO_
    by_cases h21_2 : w = 2
    · refine wp_tabIn (off := 75) 96 2 d_PM_leg_21 h21_2 (by decide) (by decide) (by decide) (by decide) ?_
      refine wp_aload_n 97 d_PM_leg_96 rfl rfl ?_
      refine wp_aload_n 98 d_PM_leg_97 rfl rfl ?_
      refine wp_getfield 101 11 2 d_PM_leg_98 rfl fl_PM_25 rfl rfl ?_
      refine wp_getfield 104 8 5 d_PM_leg_101 rfl fl_PM_245 rfl rfl ?_
      refine wp_iload_n 105 d_PM_leg_104 rfl rfl ?_
      refine wp_iaload 106 d_PM_leg_105 rfl rfl (vp_in_nI hl12 (by omega)) ?_
      rw [nI_clamp (by omega)]
      refine wp_V1 109 M_PM_answer 1 d_PM_leg_106 rfl mv_PM_answer lk_PM_182 rfl rfl rfl rfl rfl ?_
      refine c_PM_answer ?_
      refine kI ?_
      refine wp_ireturn d_PM_leg_109 rfl ?_
      have e : leF T (nI l) w = _ := (((((if_pos h11).trans (congrArg (fun k => leG T k w) (nI_clamp (by omega)))).trans (if_neg h21_0)).trans (if_neg h21_1)).trans (if_pos h21_2))
      rw [e] at hq
      exact hq _ _ _ _ _ SO_
    by_cases h21_3 : w = 3
    · refine wp_tabIn (off := 89) 110 3 d_PM_leg_21 h21_3 (by decide) (by decide) (by decide) (by decide) ?_
      refine wp_aload_n 111 d_PM_leg_110 rfl rfl ?_
      refine wp_aload_n 112 d_PM_leg_111 rfl rfl ?_
      refine wp_getfield 115 11 2 d_PM_leg_112 rfl fl_PM_25 rfl rfl ?_
      refine wp_getfield 118 8 6 d_PM_leg_115 rfl fl_PM_248 rfl rfl ?_
      refine wp_iload_n 119 d_PM_leg_118 rfl rfl ?_
      refine wp_iaload 120 d_PM_leg_119 rfl rfl (vp_in_nI hl12 (by omega)) ?_
      rw [nI_clamp (by omega)]
      refine wp_V1 123 M_PM_answer 1 d_PM_leg_120 rfl mv_PM_answer lk_PM_182 rfl rfl rfl rfl rfl ?_
      refine c_PM_answer ?_
      refine kI ?_
      refine wp_ireturn d_PM_leg_123 rfl ?_
      have e : leF T (nI l) w = _ := ((((((if_pos h11).trans (congrArg (fun k => leG T k w) (nI_clamp (by omega)))).trans (if_neg h21_0)).trans (if_neg h21_1)).trans (if_neg h21_2)).trans (if_pos h21_3))
      rw [e] at hq
      exact hq _ _ _ _ _ SO_
    by_cases h21_4 : w = 4
    · refine wp_tabIn (off := 103) 124 4 d_PM_leg_21 h21_4 (by decide) (by decide) (by decide) (by decide) ?_
      refine wp_aload_n 125 d_PM_leg_124 rfl rfl ?_
      refine wp_aload_n 126 d_PM_leg_125 rfl rfl ?_
      refine wp_getfield 129 11 2 d_PM_leg_126 rfl fl_PM_25 rfl rfl ?_
      refine wp_getfield 132 8 7 d_PM_leg_129 rfl fl_PM_251 rfl rfl ?_
      refine wp_iload_n 133 d_PM_leg_132 rfl rfl ?_
      refine wp_iaload 134 d_PM_leg_133 rfl rfl (vp_in_nI hl12 (by omega)) ?_
      rw [nI_clamp (by omega)]
      refine wp_V1 137 M_PM_answer 1 d_PM_leg_134 rfl mv_PM_answer lk_PM_182 rfl rfl rfl rfl rfl ?_
      refine c_PM_answer ?_
      refine kI ?_
      refine wp_ireturn d_PM_leg_137 rfl ?_
      have e : leF T (nI l) w = _ := (((((((if_pos h11).trans (congrArg (fun k => leG T k w) (nI_clamp (by omega)))).trans (if_neg h21_0)).trans (if_neg h21_1)).trans (if_neg h21_2)).trans (if_neg h21_3)).trans (if_pos h21_4))
      rw [e] at hq
      exact hq _ _ _ _ _ SO_
    by_cases h21_5 : w = 5
    · refine wp_tabIn (off := 117) 138 5 d_PM_leg_21 h21_5 (by decide) (by decide) (by decide) (by decide) ?_
      refine wp_aload_n 139 d_PM_leg_138 rfl rfl ?_
      refine wp_aload_n 140 d_PM_leg_139 rfl rfl ?_
      refine wp_getfield 143 11 2 d_PM_leg_140 rfl fl_PM_25 rfl rfl ?_
      refine wp_iload_n 144 d_PM_leg_143 rfl rfl ?_
      refine ws_V1 (b' := 0) 147 M_Town_yardsEast 3 [8, 9, 10, 11, 12, 13, 14, 15, 16] ((hTr T)) d_PM_leg_144 rfl mv_Town_yardsEast lk_PM_254 rfl rfl rfl rfl rfl rfl rfl (eV_int _ _) rfl ?_
      refine c_Town_yardsEast hl12 I.te ?_
      refine sIr rfl rfl ?_
      refine wp_V1 150 M_PM_answer 1 d_PM_leg_147 rfl mv_PM_answer lk_PM_182 rfl rfl rfl rfl rfl ?_
      refine c_PM_answer ?_
      refine kI ?_
      refine wp_ireturn d_PM_leg_150 rfl ?_
      have e : leF T (nI l) w = _ := ((((((((if_pos h11).trans (congrArg (fun k => leG T k w) (nI_clamp (by omega)))).trans (if_neg h21_0)).trans (if_neg h21_1)).trans (if_neg h21_2)).trans (if_neg h21_3)).trans (if_neg h21_4)).trans (if_pos h21_5))
      rw [e] at hq
      exact hq _ _ _ _ _ SO_
    by_cases h21_6 : w = 6
    · refine wp_tabIn (off := 130) 151 6 d_PM_leg_21 h21_6 (by decide) (by decide) (by decide) (by decide) ?_
      refine wp_aload_n 152 d_PM_leg_151 rfl rfl ?_
      refine wp_aload_n 153 d_PM_leg_152 rfl rfl ?_
      refine wp_getfield 156 11 2 d_PM_leg_153 rfl fl_PM_25 rfl rfl ?_
      refine wp_iload_n 157 d_PM_leg_156 rfl rfl ?_
      refine ws_V1 (b' := 0) 160 M_Town_yardsNorth 3 [8, 9, 10, 11, 12, 13, 14, 15, 16] ((hTr T)) d_PM_leg_157 rfl mv_Town_yardsNorth lk_PM_257 rfl rfl rfl rfl rfl rfl rfl (eV_int _ _) rfl ?_
      refine c_Town_yardsNorth hl12 I.te ?_
      refine sIr rfl rfl ?_
      refine wp_V1 163 M_PM_answer 1 d_PM_leg_160 rfl mv_PM_answer lk_PM_182 rfl rfl rfl rfl rfl ?_
      refine c_PM_answer ?_
      refine kI ?_
      refine wp_ireturn d_PM_leg_163 rfl ?_
      have e : leF T (nI l) w = _ := (((((((((if_pos h11).trans (congrArg (fun k => leG T k w) (nI_clamp (by omega)))).trans (if_neg h21_0)).trans (if_neg h21_1)).trans (if_neg h21_2)).trans (if_neg h21_3)).trans (if_neg h21_4)).trans (if_neg h21_5)).trans (if_pos h21_6))
      rw [e] at hq
      exact hq _ _ _ _ _ SO_
    by_cases h21_7 : w = 7
    · refine wp_tabIn (off := 143) 164 7 d_PM_leg_21 h21_7 (by decide) (by decide) (by decide) (by decide) ?_
      refine wp_aload_n 165 d_PM_leg_164 rfl rfl ?_
      refine wp_getfield 168 11 8 d_PM_leg_165 rfl fl_PM_53 rfl rfl ?_
      refine wp_aload_n 169 d_PM_leg_168 rfl rfl ?_
      refine wp_getfield 172 11 2 d_PM_leg_169 rfl fl_PM_25 rfl rfl ?_
      refine ws_V1 (v1' := .ref 8) (b' := 0) 175 M_Chart_draw 4 [36, 37, 38, 39, 40, 41, 42, 43, 8, 9, 10, 11, 12, 13, 14, 15, 16] ((hCTr C T)) d_PM_leg_172 rfl mv_Chart_draw lk_PM_260 rfl rfl rfl rfl rfl rfl rfl rfl rfl ?_
      refine c_drawA I SO_.1 (fun c2 hc2 hA => ?_)
      refine sV ?_
      simp only [putH, rC, sg, eV, List.map_cons, List.map_nil, List.set_cons_zero, List.set_cons_succ, List.length_cons, List.length_nil, List.getD_cons_zero, List.getD_cons_succ, Nat.zero_add, Nat.reduceAdd, Nat.reduceLT, if_true, ite_true]
      refine hEq (hPM Y X T S M D E N (c2) U W G L VL HL nK ST TP BT) rfl ?_
      refine wp_aload_n 176 d_PM_leg_175 rfl rfl ?_
      refine wp_getfield 179 11 8 d_PM_leg_176 rfl fl_PM_53 rfl rfl ?_
      refine wp_aload_n 180 d_PM_leg_179 rfl rfl ?_
      refine wp_getfield 183 11 2 d_PM_leg_180 rfl fl_PM_25 rfl rfl ?_
      refine wp_iload_n 184 d_PM_leg_183 rfl rfl ?_
      refine ws_V2 (v1' := .ref 8) (b' := 0) 187 M_Chart_canMiss 3 [36, 37, 38, 39, 40, 41, 42, 43, 8, 9, 10, 11, 12, 13, 14, 15, 16] ((hCTr c2 T)) d_PM_leg_184 rfl mv_Chart_canMiss lk_PM_263 rfl rfl rfl rfl rfl rfl rfl rfl (eV_int _ _) rfl ?_
      refine c_canMissA hA hl12 ?_
      refine sIr rfl rfl ?_
      (first | refine wp_ifP_eq 209 190 d_PM_leg_187 rfl (by decide) (fun h187 => ?_) (fun h187 => ?_) | refine wp_if_eq 209 190 d_PM_leg_187 rfl (by decide) (fun h187 => ?_) (fun h187 => ?_))
      · refine wp_aload_n 210 d_PM_leg_209 rfl rfl ?_
        refine wp_bipush 212 6 d_PM_leg_210 rfl (by decide) ?_
        refine wp_V1 215 M_PM_fail 1 d_PM_leg_212 rfl mv_PM_fail lk_PM_132 rfl rfl rfl rfl rfl ?_
        refine c_PM_fail ?_
        refine kI ?_
        refine wp_ireturn d_PM_leg_215 rfl ?_
        have e : leF T (nI l) w = _ := (((((((((((if_pos h11).trans (congrArg (fun k => leG T k w) (nI_clamp (by omega)))).trans (if_neg h21_0)).trans (if_neg h21_1)).trans (if_neg h21_2)).trans (if_neg h21_3)).trans (if_neg h21_4)).trans (if_neg h21_5)).trans (if_neg h21_6)).trans (if_pos h21_7)).trans (if_neg h187))
        rw [e] at hq
        exact hq _ _ _ _ _ ⟨hc2, SO_.2⟩
      · refine wp_aload_n 191 d_PM_leg_190 rfl rfl ?_
        refine wp_aload_n 192 d_PM_leg_191 rfl rfl ?_
        refine wp_getfield 195 11 8 d_PM_leg_192 rfl fl_PM_53 rfl rfl ?_
        refine wp_aload_n 196 d_PM_leg_195 rfl rfl ?_
        refine wp_getfield 199 11 2 d_PM_leg_196 rfl fl_PM_25 rfl rfl ?_
        refine wp_iload_n 200 d_PM_leg_199 rfl rfl ?_
        refine ws_V2 (v1' := .ref 8) (b' := 0) 203 M_Chart_missOf 2 [36, 37, 38, 39, 40, 41, 42, 43, 8, 9, 10, 11, 12, 13, 14, 15, 16] ((hCTr c2 T)) d_PM_leg_200 rfl mv_Chart_missOf lk_PM_267 rfl rfl rfl rfl rfl rfl rfl rfl (eV_int _ _) rfl ?_
        refine c_missOfA I hA hl ?_
        refine sIr rfl rfl ?_
        refine wp_V1 206 M_PM_answer 1 d_PM_leg_203 rfl mv_PM_answer lk_PM_182 rfl rfl rfl rfl rfl ?_
        refine c_PM_answer ?_
        refine kI ?_
        refine wp_goto 215 d_PM_leg_206 (by decide) ?_
        refine wp_ireturn d_PM_leg_215 rfl ?_
        have e : leF T (nI l) w = _ := (((((((((((if_pos h11).trans (congrArg (fun k => leG T k w) (nI_clamp (by omega)))).trans (if_neg h21_0)).trans (if_neg h21_1)).trans (if_neg h21_2)).trans (if_neg h21_3)).trans (if_neg h21_4)).trans (if_neg h21_5)).trans (if_neg h21_6)).trans (if_pos h21_7)).trans (if_pos h187))
        rw [e] at hq
        exact hq _ _ _ _ _ ⟨hc2, SO_.2⟩
    refine wp_tabOut 216 d_PM_leg_21 (sw_out8 h21_0 h21_1 h21_2 h21_3 h21_4 h21_5 h21_6 h21_7) (by decide) ?_
    refine wp_aload_n 217 d_PM_leg_216 rfl rfl ?_
    refine wp_iconst 218 1 d_PM_leg_217 rfl (by decide) ?_
    refine wp_V1 221 M_PM_fail 1 d_PM_leg_218 rfl mv_PM_fail lk_PM_132 rfl rfl rfl rfl rfl ?_
    refine c_PM_fail ?_
    refine kI ?_
    refine wp_ireturn d_PM_leg_221 rfl ?_
    have e : leF T (nI l) w = _ := ((((((((((if_pos h11).trans (congrArg (fun k => leG T k w) (nI_clamp (by omega)))).trans (if_neg h21_0)).trans (if_neg h21_1)).trans (if_neg h21_2)).trans (if_neg h21_3)).trans (if_neg h21_4)).trans (if_neg h21_5)).trans (if_neg h21_6)).trans (if_neg h21_7))
    rw [e] at hq
    exact hq _ _ _ _ _ SO_
  · refine wp_aload_n 15 d_PM_leg_14 rfl rfl ?_
    refine wp_iconst 16 1 d_PM_leg_15 rfl (by decide) ?_
    refine wp_V1 19 M_PM_fail 1 d_PM_leg_16 rfl mv_PM_fail lk_PM_132 rfl rfl rfl rfl rfl ?_
    refine c_PM_fail ?_
    refine kI ?_
    refine wp_ireturn d_PM_leg_19 rfl ?_
    have e : leF T a w = _ := (if_neg h11)
    rw [e] at hq
    exact hq _ _ _ _ _ SO_

set_option maxRecDepth 100000 in
set_option maxHeartbeats 4000000 in
theorem c_PM_place {a w : Int32} (I : tOK T) (SO_ : SO C U W L) (hq : ∀ C U W G L, SO C U W L → Q (some (.int (plF T a w).2)) (hPM Y X T S M D E N C U W G L VL HL nK ((plF T a w).1) TP BT)) : Call Γ M_PM_place 5 0 0 [.ref 0, .int a, .int w] (hPM Y X T S M D E N C U W G L VL HL nK ST TP BT) Q := by
  refine call_intro (ls := [some (.ref 0), some (.int a), some (.int w)]) rfl rfl rfl ?_
  refine wp_iload_n 1 d_PM_place_0 rfl rfl ?_
  refine wp_aload_n 2 d_PM_place_1 rfl rfl ?_
  refine wp_getfield 5 11 2 d_PM_place_2 rfl fl_PM_25 rfl rfl ?_
  refine wp_getfield 8 8 8 d_PM_place_5 rfl fl_PM_203 rfl rfl ?_
  refine wp_S2 11 M_PM_within 1 d_PM_place_8 rfl ms_PM_within lk_PM_108 rfl rfl ?_
  refine c_PM_within ?_
  refine kI ?_
  (first | refine wp_ifP_eq 22 14 d_PM_place_11 rfl (by decide) (fun h11 => ?_) (fun h11 => ?_) | refine wp_if_eq 22 14 d_PM_place_11 rfl (by decide) (fun h11 => ?_) (fun h11 => ?_))
  · refine wp_aload_n 23 d_PM_place_22 rfl rfl ?_
    refine wp_iconst 24 1 d_PM_place_23 rfl (by decide) ?_
    refine wp_V1 27 M_PM_fail 1 d_PM_place_24 rfl mv_PM_fail lk_PM_132 rfl rfl rfl rfl rfl ?_
    refine c_PM_fail ?_
    refine kI ?_
    refine wp_ireturn d_PM_place_27 rfl ?_
    have e : plF T a w = _ := (if_neg (fun z => h11 z.1))
    rw [e] at hq
    exact hq _ _ _ _ _ SO_
  · refine wp_iload_n 15 d_PM_place_14 rfl rfl ?_
    refine wp_iconst 16 2 d_PM_place_15 rfl (by decide) ?_
    refine wp_S2 19 M_PM_within 1 d_PM_place_16 rfl ms_PM_within lk_PM_108 rfl rfl ?_
    refine c_PM_within ?_
    refine kI ?_
    (first | refine wp_ifP_ne 28 22 d_PM_place_19 rfl (by decide) (fun h19 => ?_) (fun h19 => ?_) | refine wp_if_ne 28 22 d_PM_place_19 rfl (by decide) (fun h19 => ?_) (fun h19 => ?_))
    · obtain ⟨l, hl, rfl⟩ := inR_ex h11 (by have := I.hP; omega)
      have hp7 : l < 7 := by have := I.hP; omega
      refine wp_aload_n 29 d_PM_place_28 rfl rfl ?_
      refine wp_getfield 32 11 8 d_PM_place_29 rfl fl_PM_53 rfl rfl ?_
      refine wp_aload_n 33 d_PM_place_32 rfl rfl ?_
      refine wp_getfield 36 11 2 d_PM_place_33 rfl fl_PM_25 rfl rfl ?_
      refine ws_V1 (v1' := .ref 8) (b' := 0) 39 M_Chart_draw 4 [36, 37, 38, 39, 40, 41, 42, 43, 8, 9, 10, 11, 12, 13, 14, 15, 16] ((hCTr C T)) d_PM_place_36 rfl mv_Chart_draw lk_PM_260 rfl rfl rfl rfl rfl rfl rfl rfl rfl ?_
      refine c_drawA I SO_.1 (fun c2 hc2 hA => ?_)
      refine sV ?_
      simp only [putH, rC, sg, eV, List.map_cons, List.map_nil, List.set_cons_zero, List.set_cons_succ, List.length_cons, List.length_nil, List.getD_cons_zero, List.getD_cons_succ, Nat.zero_add, Nat.reduceAdd, Nat.reduceLT, if_true, ite_true]
      refine hEq (hPM Y X T S M D E N (c2) U W G L VL HL nK ST TP BT) rfl ?_
      refine wp_aload_n 40 d_PM_place_39 rfl rfl ?_
      refine wp_getfield 43 11 8 d_PM_place_40 rfl fl_PM_53 rfl rfl ?_
      refine wp_iload_n 44 d_PM_place_43 rfl rfl ?_
      refine ws_V1 (b' := 0) 47 M_Chart_lies 2 [36, 37, 38, 39, 40, 41, 42, 43] ((hCr c2)) d_PM_place_44 rfl mv_Chart_lies lk_PM_271 rfl rfl rfl rfl rfl rfl rfl (eV_int _ _) rfl ?_
      refine c_liesA hA hp7 ?_
      refine sIr rfl rfl ?_
      (first | refine wp_ifP_ne 57 50 d_PM_place_47 rfl (by decide) (fun h47 => ?_) (fun h47 => ?_) | refine wp_if_ne 57 50 d_PM_place_47 rfl (by decide) (fun h47 => ?_) (fun h47 => ?_))
      · refine wp_aload_n 58 d_PM_place_57 rfl rfl ?_
        refine wp_iload_n 59 d_PM_place_58 rfl rfl ?_
        refine wp_if_ne 74 62 d_PM_place_59 rfl (by decide) (fun h59 => ?_) (fun h59 => ?_)
        · refine wp_aload_n 75 d_PM_place_74 rfl rfl ?_
          refine wp_getfield 78 11 8 d_PM_place_75 rfl fl_PM_53 rfl rfl ?_
          refine wp_getfield 81 0 3 d_PM_place_78 rfl fl_PM_277 rfl rfl ?_
          refine wp_iload_n 82 d_PM_place_81 rfl rfl ?_
          refine wp_iaload 83 d_PM_place_82 rfl rfl (vp_in_nI hp7 (by omega)) ?_
          rw [nI_clamp (by omega)]
          refine wp_V1 86 M_PM_answer 1 d_PM_place_83 rfl mv_PM_answer lk_PM_182 rfl rfl rfl rfl rfl ?_
          refine c_PM_answer ?_
          refine kI ?_
          refine wp_ireturn d_PM_place_86 rfl ?_
          have e0 : (nI l).toNatClampNeg = l := nI_clamp (by omega)
          have e1 : tLp T (nI l).toNatClampNeg ↔ tLp T l := by rw [e0]
          rw [hA.1.2.2 l hp7 |>.2]
          have e : plF T (nI l) w = _ := (((if_pos ⟨h11, h19⟩).trans (if_pos (e1.mpr h47))).trans (congrArg (Prod.mk 0) ((if_neg h59).trans (show _ = tY T l from by rw [e0]))))
          rw [e] at hq
          exact hq _ _ _ _ _ ⟨hc2, SO_.2⟩
        · refine wp_aload_n 63 d_PM_place_62 rfl rfl ?_
          refine wp_getfield 66 11 8 d_PM_place_63 rfl fl_PM_53 rfl rfl ?_
          refine wp_getfield 69 0 2 d_PM_place_66 rfl fl_PM_274 rfl rfl ?_
          refine wp_iload_n 70 d_PM_place_69 rfl rfl ?_
          refine wp_iaload 71 d_PM_place_70 rfl rfl (vp_in_nI hp7 (by omega)) ?_
          rw [nI_clamp (by omega)]
          refine wp_goto 83 d_PM_place_71 (by decide) ?_
          refine wp_V1 86 M_PM_answer 1 d_PM_place_83 rfl mv_PM_answer lk_PM_182 rfl rfl rfl rfl rfl ?_
          refine c_PM_answer ?_
          refine kI ?_
          refine wp_ireturn d_PM_place_86 rfl ?_
          have e0 : (nI l).toNatClampNeg = l := nI_clamp (by omega)
          have e1 : tLp T (nI l).toNatClampNeg ↔ tLp T l := by rw [e0]
          rw [hA.1.2.2 l hp7 |>.1]
          have e : plF T (nI l) w = _ := (((if_pos ⟨h11, h19⟩).trans (if_pos (e1.mpr h47))).trans (congrArg (Prod.mk 0) ((if_pos h59).trans (show _ = tX T l from by rw [e0]))))
          rw [e] at hq
          exact hq _ _ _ _ _ ⟨hc2, SO_.2⟩
      · refine wp_aload_n 51 d_PM_place_50 rfl rfl ?_
        refine wp_bipush 53 6 d_PM_place_51 rfl (by decide) ?_
        refine wp_V1 56 M_PM_fail 1 d_PM_place_53 rfl mv_PM_fail lk_PM_132 rfl rfl rfl rfl rfl ?_
        refine c_PM_fail ?_
        refine kI ?_
        refine wp_ireturn d_PM_place_56 rfl ?_
        have e0 : (nI l).toNatClampNeg = l := nI_clamp (by omega)
        have e1 : tLp T (nI l).toNatClampNeg ↔ tLp T l := by rw [e0]
        have e : plF T (nI l) w = _ := ((if_pos ⟨h11, h19⟩).trans (if_neg (fun z => h47 (e1.mp z))))
        rw [e] at hq
        exact hq _ _ _ _ _ ⟨hc2, SO_.2⟩
    · refine wp_aload_n 23 d_PM_place_22 rfl rfl ?_
      refine wp_iconst 24 1 d_PM_place_23 rfl (by decide) ?_
      refine wp_V1 27 M_PM_fail 1 d_PM_place_24 rfl mv_PM_fail lk_PM_132 rfl rfl rfl rfl rfl ?_
      refine c_PM_fail ?_
      refine kI ?_
      refine wp_ireturn d_PM_place_27 rfl ?_
      have e : plF T a w = _ := (if_neg (fun z => h19 z.2))
      rw [e] at hq
      exact hq _ _ _ _ _ SO_

set_option maxRecDepth 100000 in
set_option maxHeartbeats 4000000 in
theorem c_PM_apart {a b : Int32} (I : tOK T) (SO_ : SO C U W L) (hq : ∀ C U W G L, SO C U W L → Q (some (.int (apF T a b).2)) (hPM Y X T S M D E N C U W G L VL HL nK ((apF T a b).1) TP BT)) : Call Γ M_PM_apart 5 0 0 [.ref 0, .int a, .int b] (hPM Y X T S M D E N C U W G L VL HL nK ST TP BT) Q := by
  refine call_intro (ls := [some (.ref 0), some (.int a), some (.int b)]) rfl rfl rfl ?_
  refine wp_iload_n 1 d_PM_apart_0 rfl rfl ?_
  refine wp_aload_n 2 d_PM_apart_1 rfl rfl ?_
  refine wp_getfield 5 11 2 d_PM_apart_2 rfl fl_PM_25 rfl rfl ?_
  refine wp_getfield 8 8 8 d_PM_apart_5 rfl fl_PM_203 rfl rfl ?_
  refine wp_S2 11 M_PM_within 1 d_PM_apart_8 rfl ms_PM_within lk_PM_108 rfl rfl ?_
  refine c_PM_within ?_
  refine kI ?_
  (first | refine wp_ifP_eq 28 14 d_PM_apart_11 rfl (by decide) (fun h11 => ?_) (fun h11 => ?_) | refine wp_if_eq 28 14 d_PM_apart_11 rfl (by decide) (fun h11 => ?_) (fun h11 => ?_))
  · refine wp_aload_n 29 d_PM_apart_28 rfl rfl ?_
    refine wp_iconst 30 1 d_PM_apart_29 rfl (by decide) ?_
    refine wp_V1 33 M_PM_fail 1 d_PM_apart_30 rfl mv_PM_fail lk_PM_132 rfl rfl rfl rfl rfl ?_
    refine c_PM_fail ?_
    refine kI ?_
    refine wp_ireturn d_PM_apart_33 rfl ?_
    have e : apF T a b = _ := (if_neg (fun z => h11 z.1))
    rw [e] at hq
    exact hq _ _ _ _ _ SO_
  · refine wp_iload_n 15 d_PM_apart_14 rfl rfl ?_
    refine wp_aload_n 16 d_PM_apart_15 rfl rfl ?_
    refine wp_getfield 19 11 2 d_PM_apart_16 rfl fl_PM_25 rfl rfl ?_
    refine wp_getfield 22 8 8 d_PM_apart_19 rfl fl_PM_203 rfl rfl ?_
    refine wp_S2 25 M_PM_within 1 d_PM_apart_22 rfl ms_PM_within lk_PM_108 rfl rfl ?_
    refine c_PM_within ?_
    refine kI ?_
    (first | refine wp_ifP_ne 34 28 d_PM_apart_25 rfl (by decide) (fun h25 => ?_) (fun h25 => ?_) | refine wp_if_ne 34 28 d_PM_apart_25 rfl (by decide) (fun h25 => ?_) (fun h25 => ?_))
    · obtain ⟨l, hl, rfl⟩ := inR_ex h11 (by have := I.hP; omega)
      obtain ⟨k, hk, rfl⟩ := inR_ex h25 (by have := I.hP; omega)
      have hp7 : l < 7 := by have := I.hP; omega
      have hk7 : k < 7 := by have := I.hP; omega
      refine wp_aload_n 35 d_PM_apart_34 rfl rfl ?_
      refine wp_getfield 38 11 8 d_PM_apart_35 rfl fl_PM_53 rfl rfl ?_
      refine wp_aload_n 39 d_PM_apart_38 rfl rfl ?_
      refine wp_getfield 42 11 2 d_PM_apart_39 rfl fl_PM_25 rfl rfl ?_
      refine ws_V1 (v1' := .ref 8) (b' := 0) 45 M_Chart_draw 4 [36, 37, 38, 39, 40, 41, 42, 43, 8, 9, 10, 11, 12, 13, 14, 15, 16] ((hCTr C T)) d_PM_apart_42 rfl mv_Chart_draw lk_PM_260 rfl rfl rfl rfl rfl rfl rfl rfl rfl ?_
      refine c_drawA I SO_.1 (fun c2 hc2 hA => ?_)
      refine sV ?_
      simp only [putH, rC, sg, eV, List.map_cons, List.map_nil, List.set_cons_zero, List.set_cons_succ, List.length_cons, List.length_nil, List.getD_cons_zero, List.getD_cons_succ, Nat.zero_add, Nat.reduceAdd, Nat.reduceLT, if_true, ite_true]
      refine hEq (hPM Y X T S M D E N (c2) U W G L VL HL nK ST TP BT) rfl ?_
      refine wp_aload_n 46 d_PM_apart_45 rfl rfl ?_
      refine wp_getfield 49 11 8 d_PM_apart_46 rfl fl_PM_53 rfl rfl ?_
      refine wp_iload_n 50 d_PM_apart_49 rfl rfl ?_
      refine ws_V1 (b' := 0) 53 M_Chart_lies 2 [36, 37, 38, 39, 40, 41, 42, 43] ((hCr c2)) d_PM_apart_50 rfl mv_Chart_lies lk_PM_271 rfl rfl rfl rfl rfl rfl rfl (eV_int _ _) rfl ?_
      refine c_liesA hA hp7 ?_
      refine sIr rfl rfl ?_
      (first | refine wp_ifP_eq 67 56 d_PM_apart_53 rfl (by decide) (fun h53 => ?_) (fun h53 => ?_) | refine wp_if_eq 67 56 d_PM_apart_53 rfl (by decide) (fun h53 => ?_) (fun h53 => ?_))
      · refine wp_aload_n 68 d_PM_apart_67 rfl rfl ?_
        refine wp_bipush 70 6 d_PM_apart_68 rfl (by decide) ?_
        refine wp_V1 73 M_PM_fail 1 d_PM_apart_70 rfl mv_PM_fail lk_PM_132 rfl rfl rfl rfl rfl ?_
        refine c_PM_fail ?_
        refine kI ?_
        refine wp_ireturn d_PM_apart_73 rfl ?_
        have e0 : (nI l).toNatClampNeg = l := nI_clamp (by omega)
        have e1 : (nI k).toNatClampNeg = k := nI_clamp (by omega)
        have e : apF T (nI l) (nI k) = (6, -1) := by
          unfold apF
          rw [if_pos ⟨h11, h25⟩, e0, e1]
          exact if_neg (fun z => h53 z.1)
        rw [e] at hq
        exact hq _ _ _ _ _ ⟨hc2, SO_.2⟩
      · refine wp_aload_n 57 d_PM_apart_56 rfl rfl ?_
        refine wp_getfield 60 11 8 d_PM_apart_57 rfl fl_PM_53 rfl rfl ?_
        refine wp_iload_n 61 d_PM_apart_60 rfl rfl ?_
        refine ws_V1 (b' := 0) 64 M_Chart_lies 2 [36, 37, 38, 39, 40, 41, 42, 43] ((hCr c2)) d_PM_apart_61 rfl mv_Chart_lies lk_PM_271 rfl rfl rfl rfl rfl rfl rfl (eV_int _ _) rfl ?_
        refine c_liesA hA hk7 ?_
        refine sIr rfl rfl ?_
        (first | refine wp_ifP_ne 74 67 d_PM_apart_64 rfl (by decide) (fun h64 => ?_) (fun h64 => ?_) | refine wp_if_ne 74 67 d_PM_apart_64 rfl (by decide) (fun h64 => ?_) (fun h64 => ?_))
        · refine wp_aload_n 75 d_PM_apart_74 rfl rfl ?_
          refine wp_aload_n 76 d_PM_apart_75 rfl rfl ?_
          refine wp_getfield 79 11 8 d_PM_apart_76 rfl fl_PM_53 rfl rfl ?_
          refine wp_getfield 82 0 2 d_PM_apart_79 rfl fl_PM_274 rfl rfl ?_
          refine wp_iload_n 83 d_PM_apart_82 rfl rfl ?_
          refine wp_iaload 84 d_PM_apart_83 rfl rfl (vp_in_nI hp7 (by omega)) ?_
          refine wp_aload_n 85 d_PM_apart_84 rfl rfl ?_
          refine wp_getfield 88 11 8 d_PM_apart_85 rfl fl_PM_53 rfl rfl ?_
          refine wp_getfield 91 0 2 d_PM_apart_88 rfl fl_PM_274 rfl rfl ?_
          refine wp_iload_n 92 d_PM_apart_91 rfl rfl ?_
          refine wp_iaload 93 d_PM_apart_92 rfl rfl (vp_in_nI hk7 (by omega)) ?_
          refine wp_isub 94 d_PM_apart_93 rfl ?_
          refine wp_S1 97 M_JMath_absI 1 d_PM_apart_94 rfl ms_JMath_absI lk_PM_280 rfl rfl ?_
          refine c_JMath_absI ?_
          refine kI ?_
          refine wp_aload_n 98 d_PM_apart_97 rfl rfl ?_
          refine wp_getfield 101 11 8 d_PM_apart_98 rfl fl_PM_53 rfl rfl ?_
          refine wp_getfield 104 0 3 d_PM_apart_101 rfl fl_PM_277 rfl rfl ?_
          refine wp_iload_n 105 d_PM_apart_104 rfl rfl ?_
          refine wp_iaload 106 d_PM_apart_105 rfl rfl (vp_in_nI hp7 (by omega)) ?_
          refine wp_aload_n 107 d_PM_apart_106 rfl rfl ?_
          refine wp_getfield 110 11 8 d_PM_apart_107 rfl fl_PM_53 rfl rfl ?_
          refine wp_getfield 113 0 3 d_PM_apart_110 rfl fl_PM_277 rfl rfl ?_
          refine wp_iload_n 114 d_PM_apart_113 rfl rfl ?_
          refine wp_iaload 115 d_PM_apart_114 rfl rfl (vp_in_nI hk7 (by omega)) ?_
          refine wp_isub 116 d_PM_apart_115 rfl ?_
          refine wp_S1 119 M_JMath_absI 1 d_PM_apart_116 rfl ms_JMath_absI lk_PM_280 rfl rfl ?_
          refine c_JMath_absI ?_
          refine kI ?_
          refine wp_iadd 120 d_PM_apart_119 rfl ?_
          refine wp_V1 123 M_PM_answer 1 d_PM_apart_120 rfl mv_PM_answer lk_PM_182 rfl rfl rfl rfl rfl ?_
          refine c_PM_answer ?_
          refine kI ?_
          refine wp_ireturn d_PM_apart_123 rfl ?_
          have e0 : (nI l).toNatClampNeg = l := nI_clamp (by omega)
          have e1 : (nI k).toNatClampNeg = k := nI_clamp (by omega)
          rw [e0, e1, hA.1.2.2 l hp7 |>.1, hA.1.2.2 l hp7 |>.2, hA.1.2.2 k hk7 |>.1, hA.1.2.2 k hk7 |>.2]
          have e : apF T (nI l) (nI k) = (0, aB (tX T l - tX T k) + aB (tY T l - tY T k)) := by
            unfold apF
            rw [if_pos ⟨h11, h25⟩, e0, e1]
            exact if_pos ⟨h53, h64⟩
          rw [e] at hq
          exact hq _ _ _ _ _ ⟨hc2, SO_.2⟩
        · refine wp_aload_n 68 d_PM_apart_67 rfl rfl ?_
          refine wp_bipush 70 6 d_PM_apart_68 rfl (by decide) ?_
          refine wp_V1 73 M_PM_fail 1 d_PM_apart_70 rfl mv_PM_fail lk_PM_132 rfl rfl rfl rfl rfl ?_
          refine c_PM_fail ?_
          refine kI ?_
          refine wp_ireturn d_PM_apart_73 rfl ?_
          have e0 : (nI l).toNatClampNeg = l := nI_clamp (by omega)
          have e1 : (nI k).toNatClampNeg = k := nI_clamp (by omega)
          have e : apF T (nI l) (nI k) = (6, -1) := by
            unfold apF
            rw [if_pos ⟨h11, h25⟩, e0, e1]
            exact if_neg (fun z => h64 z.2)
          rw [e] at hq
          exact hq _ _ _ _ _ ⟨hc2, SO_.2⟩
    · refine wp_aload_n 29 d_PM_apart_28 rfl rfl ?_
      refine wp_iconst 30 1 d_PM_apart_29 rfl (by decide) ?_
      refine wp_V1 33 M_PM_fail 1 d_PM_apart_30 rfl mv_PM_fail lk_PM_132 rfl rfl rfl rfl rfl ?_
      refine c_PM_fail ?_
      refine kI ?_
      refine wp_ireturn d_PM_apart_33 rfl ?_
      have e : apF T a b = _ := (if_neg (fun z => h25 z.2))
      rw [e] at hq
      exact hq _ _ _ _ _ SO_

set_option maxRecDepth 100000 in
set_option maxHeartbeats 4000000 in
theorem c_PM_joined {a b : Int32} (I : tOK T) (SO_ : SO C U W L) (hq : ∀ C U W G L, SO C U W L → Q (some (.int (joF T a b).2)) (hPM Y X T S M D E N C U W G L VL HL nK ((joF T a b).1) TP BT)) : Call Γ M_PM_joined 4 0 0 [.ref 0, .int a, .int b] (hPM Y X T S M D E N C U W G L VL HL nK ST TP BT) Q := by
  refine call_intro (ls := [some (.ref 0), some (.int a), some (.int b)]) rfl rfl rfl ?_
  refine wp_iload_n 1 d_PM_joined_0 rfl rfl ?_
  refine wp_aload_n 2 d_PM_joined_1 rfl rfl ?_
  refine wp_getfield 5 11 2 d_PM_joined_2 rfl fl_PM_25 rfl rfl ?_
  refine wp_getfield 8 8 8 d_PM_joined_5 rfl fl_PM_203 rfl rfl ?_
  refine wp_S2 11 M_PM_within 1 d_PM_joined_8 rfl ms_PM_within lk_PM_108 rfl rfl ?_
  refine c_PM_within ?_
  refine kI ?_
  (first | refine wp_ifP_eq 28 14 d_PM_joined_11 rfl (by decide) (fun h11 => ?_) (fun h11 => ?_) | refine wp_if_eq 28 14 d_PM_joined_11 rfl (by decide) (fun h11 => ?_) (fun h11 => ?_))
  · refine wp_aload_n 29 d_PM_joined_28 rfl rfl ?_
    refine wp_iconst 30 1 d_PM_joined_29 rfl (by decide) ?_
    refine wp_V1 33 M_PM_fail 1 d_PM_joined_30 rfl mv_PM_fail lk_PM_132 rfl rfl rfl rfl rfl ?_
    refine c_PM_fail ?_
    refine kI ?_
    refine wp_ireturn d_PM_joined_33 rfl ?_
    have e : joF T a b = _ := (if_neg (fun z => h11 z.1))
    rw [e] at hq
    exact hq _ _ _ _ _ SO_
  · refine wp_iload_n 15 d_PM_joined_14 rfl rfl ?_
    refine wp_aload_n 16 d_PM_joined_15 rfl rfl ?_
    refine wp_getfield 19 11 2 d_PM_joined_16 rfl fl_PM_25 rfl rfl ?_
    refine wp_getfield 22 8 8 d_PM_joined_19 rfl fl_PM_203 rfl rfl ?_
    refine wp_S2 25 M_PM_within 1 d_PM_joined_22 rfl ms_PM_within lk_PM_108 rfl rfl ?_
    refine c_PM_within ?_
    refine kI ?_
    (first | refine wp_ifP_ne 34 28 d_PM_joined_25 rfl (by decide) (fun h25 => ?_) (fun h25 => ?_) | refine wp_if_ne 34 28 d_PM_joined_25 rfl (by decide) (fun h25 => ?_) (fun h25 => ?_))
    · obtain ⟨l, hl, rfl⟩ := inR_ex h11 (by have := I.hP; omega)
      obtain ⟨k, hk, rfl⟩ := inR_ex h25 (by have := I.hP; omega)
      have hp7 : l < 7 := by have := I.hP; omega
      have hk7 : k < 7 := by have := I.hP; omega
      refine wp_aload_n 35 d_PM_joined_34 rfl rfl ?_
      refine wp_getfield 38 11 8 d_PM_joined_35 rfl fl_PM_53 rfl rfl ?_
      refine wp_aload_n 39 d_PM_joined_38 rfl rfl ?_
      refine wp_getfield 42 11 2 d_PM_joined_39 rfl fl_PM_25 rfl rfl ?_
      refine wp_aload_n 43 d_PM_joined_42 rfl rfl ?_
      refine wp_getfield 46 11 2 d_PM_joined_43 rfl fl_PM_25 rfl rfl ?_
      refine ws_V0 (b' := 0) 49 M_Town_legsThere 1 [8, 9, 10, 11, 12, 13, 14, 15, 16] ((hTr T)) d_PM_joined_46 rfl mv_Town_legsThere lk_PM_285 rfl rfl rfl rfl rfl rfl rfl rfl ?_
      refine c_Town_legsThere ?_
      refine sIr rfl rfl ?_
      refine ws_V2 (v1' := .ref 8) (b' := 0) 52 M_Chart_trace 3 [36, 37, 38, 39, 40, 41, 42, 43, 8, 9, 10, 11, 12, 13, 14, 15, 16] ((hCTr C T)) d_PM_joined_49 rfl mv_Chart_trace lk_PM_289 rfl rfl rfl rfl rfl rfl rfl rfl (eV_int _ _) rfl ?_
      refine c_traceA I SO_.1 (fun c2 hc2 hA => ?_)
      refine sV ?_
      simp only [putH, rC, sg, eV, List.map_cons, List.map_nil, List.set_cons_zero, List.set_cons_succ, List.length_cons, List.length_nil, List.getD_cons_zero, List.getD_cons_succ, Nat.zero_add, Nat.reduceAdd, Nat.reduceLT, if_true, ite_true]
      refine hEq (hPM Y X T S M D E N (c2) U W G L VL HL nK ST TP BT) rfl ?_
      refine wp_aload_n 53 d_PM_joined_52 rfl rfl ?_
      refine wp_aload_n 54 d_PM_joined_53 rfl rfl ?_
      refine wp_getfield 57 11 8 d_PM_joined_54 rfl fl_PM_53 rfl rfl ?_
      refine wp_iload_n 58 d_PM_joined_57 rfl rfl ?_
      refine wp_iload_n 59 d_PM_joined_58 rfl rfl ?_
      refine ws_V2 (b' := 0) 62 M_Chart_sameParts 1 [36, 37, 38, 39, 40, 41, 42, 43] ((hCr c2)) d_PM_joined_59 rfl mv_Chart_sameParts lk_PM_293 rfl rfl rfl rfl rfl rfl rfl (eV_int _ _) (eV_int _ _) rfl ?_
      refine c_Chart_sameParts (vp_in_nI hp7 (by omega)) (vp_in_nI hk7 (by omega)) ?_
      refine sIr rfl rfl ?_
      (first | refine wp_ifP_eq 69 65 d_PM_joined_62 rfl (by decide) (fun h62 => ?_) (fun h62 => ?_) | refine wp_if_eq 69 65 d_PM_joined_62 rfl (by decide) (fun h62 => ?_) (fun h62 => ?_))
      · refine wp_iconst 70 0 d_PM_joined_69 rfl (by decide) ?_
        refine wp_V1 73 M_PM_answer 1 d_PM_joined_70 rfl mv_PM_answer lk_PM_182 rfl rfl rfl rfl rfl ?_
        refine c_PM_answer ?_
        refine kI ?_
        refine wp_ireturn d_PM_joined_73 rfl ?_
        have e : joF T (nI l) (nI k) = (0, 0) := by
          unfold joF
          rw [if_pos ⟨h11, h25⟩, nI_clamp (by omega : l < 2 ^ 31), nI_clamp (by omega : k < 2 ^ 31)]
          rw [nI_clamp (by omega : l < 2 ^ 31), nI_clamp (by omega : k < 2 ^ 31), hA l hp7, hA k hk7] at h62
          rw [bP_f h62]
        rw [e] at hq
        exact hq _ _ _ _ _ ⟨hc2, SO_.2⟩
      · refine wp_iconst 66 1 d_PM_joined_65 rfl (by decide) ?_
        refine wp_goto 70 d_PM_joined_66 (by decide) ?_
        refine wp_V1 73 M_PM_answer 1 d_PM_joined_70 rfl mv_PM_answer lk_PM_182 rfl rfl rfl rfl rfl ?_
        refine c_PM_answer ?_
        refine kI ?_
        refine wp_ireturn d_PM_joined_73 rfl ?_
        have e : joF T (nI l) (nI k) = (0, 1) := by
          unfold joF
          rw [if_pos ⟨h11, h25⟩, nI_clamp (by omega : l < 2 ^ 31), nI_clamp (by omega : k < 2 ^ 31)]
          rw [nI_clamp (by omega : l < 2 ^ 31), nI_clamp (by omega : k < 2 ^ 31), hA l hp7, hA k hk7] at h62
          rw [bP_t h62]
        rw [e] at hq
        exact hq _ _ _ _ _ ⟨hc2, SO_.2⟩
    · refine wp_aload_n 29 d_PM_joined_28 rfl rfl ?_
      refine wp_iconst 30 1 d_PM_joined_29 rfl (by decide) ?_
      refine wp_V1 33 M_PM_fail 1 d_PM_joined_30 rfl mv_PM_fail lk_PM_132 rfl rfl rfl rfl rfl ?_
      refine c_PM_fail ?_
      refine kI ?_
      refine wp_ireturn d_PM_joined_33 rfl ?_
      have e : joF T a b = _ := (if_neg (fun z => h25 z.2))
      rw [e] at hq
      exact hq _ _ _ _ _ SO_

end T53
