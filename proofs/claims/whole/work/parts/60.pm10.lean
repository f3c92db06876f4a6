/-! ===== the class: town, days ===== -/
def xMk (b : Nat → Int32) (co : Nat → Int64) (le : Int32) (K : TK) (s : CS) : XT := XT.mk b co 0 s.fk s.fp K.ki K.st K.va le (nI K.nT) (nI s.a) (K.ki s.a) (vlT (K.ki s.a) (K.va s.a)) (woT (K.ki s.a) (K.va s.a)) s.tk s.na
def tkSc (X : XT) (k : Nat) : ScS := scI X.co X.by_ k 900 (X.ki, X.st, X.va, 0, 0)
def tkK (X : XT) (k : Nat) : TK := TK.mk (upd (tkSc X k).1 (tkSc X k).2.2.2.1 0) (upd (tkSc X k).2.1 (tkSc X k).2.2.2.1 (nI k)) (vp_updL (tkSc X k).2.2.1 (tkSc X k).2.2.2.1 0) ((tkSc X k).2.2.2.1 + 1)
def tkS (X : XT) : CS := CS.mk 0 X.tk X.na 0 (-1)
theorem tkK_le (X : XT) (k : Nat) : (tkK X k).nT ≤ 901 := by
  have := scI_n X.co X.by_ k 900 (X.ki, X.st, X.va, 0, 0)
  show (tkSc X k).2.2.2.1 + 1 ≤ 901
  unfold tkSc
  have h : ((X.ki, X.st, X.va, 0, 0) : ScS).2.2.2.1 = 0 := rfl
  rw [h] at this
  omega
def twR (K : TK) (s : CS) (S : TW) : Bool × CS × TW × Int32 := prI K 901 s (tClr S) 0
def dNo (D : DW) : DW := DW.mk D.dk D.df D.ds 0 0 0
def dy0 (E : DW) : DY := DY.mk E.dk E.df E.ds E.dth E.nR E.nS 0 (fun _ => 0)
def dyR (K : TK) (s : CS) (T : TW) (E : DW) : Bool × CS × DY := dpI K T 301 s (dCl (dy0 E))
def dyD (y : DY) : DW := DW.mk y.dk y.df y.ds y.dth y.nR y.nS
def DQ (n : Nat) (Q : Option Value → LH → Prop) : Option Value → LH → Prop := fun v h' => ∃ (h2 g : LH), h' = h2 ++ g ∧ h2.length = n ∧ h2.all (okC h2.length) = true ∧ (∀ x, v = some x → okV 0 x = true) ∧ Q v h2
theorem okI (v : Int32) : ∀ x, some (Value.int v) = some x → okV 0 x = true := fun x e => by injection e with e; subst e; rfl
theorem dNR_dth {K : TK} {k x z : Int32} {s : CS} {y : DY} : (dNR K k x z s y).2.2.dth = y.dth := by
  unfold dNR; split <;> rfl
theorem dBe_dth {K : TK} {t : TW} {s : CS} {y : DY} : (dBe K t s y).2.2.dth = y.dth := by
  unfold dBe
  split
  · split
    · rfl
    · split <;> rfl
  · rfl
theorem dAt_dth {K : TK} {t : TW} {s : CS} {y : DY} : (dAt K t s y).2.2.dth = y.dth := by
  unfold dAt
  split
  · split <;> rfl
  · rfl
theorem dTe_dth {K : TK} {t : TW} {s : CS} {y : DY} : (dTe K t s y).2.2.dth = y.dth := by
  unfold dTe
  split
  · exact dAt_dth
  · split
    · rfl
    · split
      · exact dNR_dth
      · split
        · split
          · rfl
          · exact dNR_dth
        · rfl
theorem dS2_dth {K : TK} {t : TW} {w : Int32} {s : CS} {y : DY} : (dS2 K t w s y).2.2.dth = y.dth := by
  unfold dS2
  split
  · exact dNR_dth
  · split
    · exact dNR_dth
    · split
      · exact dNR_dth
      · split
        · exact dBe_dth
        · split
          · rfl
          · split
            · exact dTe_dth (y := dOp y)
            · split
              · exact dNR_dth (y := dOp y)
              · rfl
theorem dTu_dth {K : TK} {t : TW} {s : CS} {y : DY} : (dTu K t s y).2.2.dth = y.dth := by
  unfold dTu dEn dSt
  split
  · split <;> rfl
  · split
    · split
      · split
        · rfl
        · exact dS2_dth (y := dSp y)
      · rfl
    · rfl
theorem dpI_dth {K : TK} {t : TW} : ∀ (r : Nat) (s : CS) (y : DY), (dpI K t r s y).2.2.dth = y.dth
  | 0, _, _ => rfl
  | r + 1, s, y => by
    simp only [dpI]
    split
    · split <;> rfl
    · split
      · split
        · rw [dpI_dth r]; exact dTu_dth
        · exact dTu_dth
      · exact dTu_dth
section T60
variable {Γ : Gm} {Q : Option Value → LH → Prop} {Y : Nat → YT} {X : XT} {T S : TW} {M : Nat → TW} {D E : DW} {N : Nat → DW} {C : CH} {U : UT} {W : WT} {G : GT} {L : LT} {VL : Nat → Int32} {HL ST : Int32} {nK : Nat} {TP BT : Int64}
set_option maxRecDepth 100000 in
set_option maxHeartbeats 4000000 in
theorem c_fail1 {v : Int32} (hq : Q (some (.int (-1))) [cO 11 [.ref 1, .ref 2, .ref 8, .ref 17, .ref 26, .ref 30, .ref 34, .ref 35, .ref 36, .ref 44, .ref 58, .ref 62, .ref 65, .ref 76, .int HL, .int (nI nK), .int v, .long TP, .long BT]]) : Call Γ M_PM_fail 1 0 0 [.ref 0, .int v] [cO 11 [.ref 1, .ref 2, .ref 8, .ref 17, .ref 26, .ref 30, .ref 34, .ref 35, .ref 36, .ref 44, .ref 58, .ref 62, .ref 65, .ref 76, .int HL, .int (nI nK), .int ST, .long TP, .long BT]] Q := by
  refine call_intro (ls := [some (.ref 0), some (.int v)]) rfl rfl rfl ?_
  refine wp_aload_n 1 d_PM_fail_0 rfl rfl ?_
  refine wp_iload_n 2 d_PM_fail_1 rfl rfl ?_
  refine wp_putfield 5 11 16 _ d_PM_fail_2 rfl fp_PM_97 rfl rfl (okP_int _) ?_
  dsimp only [List.set]
  refine wp_iconst 6 (-1) d_PM_fail_5 rfl (by decide) ?_
  refine wp_ireturn d_PM_fail_6 rfl ?_
  exact hq

set_option maxRecDepth 100000 in
set_option maxHeartbeats 4000000 in
theorem c_answer1 {v : Int32} (hq : Q (some (.int v)) [cO 11 [.ref 1, .ref 2, .ref 8, .ref 17, .ref 26, .ref 30, .ref 34, .ref 35, .ref 36, .ref 44, .ref 58, .ref 62, .ref 65, .ref 76, .int HL, .int (nI nK), .int 0, .long TP, .long BT]]) : Call Γ M_PM_answer 1 0 0 [.ref 0, .int v] [cO 11 [.ref 1, .ref 2, .ref 8, .ref 17, .ref 26, .ref 30, .ref 34, .ref 35, .ref 36, .ref 44, .ref 58, .ref 62, .ref 65, .ref 76, .int HL, .int (nI nK), .int ST, .long TP, .long BT]] Q := by
  refine call_intro (ls := [some (.ref 0), some (.int v)]) rfl rfl rfl ?_
  refine wp_aload_n 1 d_PM_answer_0 rfl rfl ?_
  refine wp_iconst 2 0 d_PM_answer_1 rfl (by decide) ?_
  refine wp_putfield 5 11 16 _ d_PM_answer_2 rfl fp_PM_97 rfl rfl (okP_int _) ?_
  dsimp only [List.set]
  refine wp_iload_n 6 d_PM_answer_5 rfl rfl ?_
  refine wp_ireturn d_PM_answer_6 rfl ?_
  exact hq

set_option maxRecDepth 100000 in
set_option maxHeartbeats 4000000 in
theorem l_PM_town_29 {n : Int32} {b : Nat → Int32} {co : Nat → Int64} {le : Int32} {K : TK} {s : CS} (ha : s.a < K.nT) (hK : K.nT ≤ 901) (hq9 : ¬ (twR K s S).1 = true → Q (some (.int (-1))) (hPM Y (xMk b co le K (twR K s S).2.1) T ((twR K s S).2.2.1) M D E N C U W G L VL HL nK (9) TP BT)) (hq1 : (twR K s S).1 = true → Q (some (.int (nI (twR K s S).2.2.1.nL))) (hPM Y (xMk b co le K (twR K s S).2.1) (tCp (twR K s S).2.2.1 T) ((twR K s S).2.2.1) M (dNo D) E N C U W G L VL HL nK (0) TP BT)) : WP Γ M_PM_town 8 1 3 (hPM Y (xMk b co le K s) T S M D E N C U W G L VL HL nK ST TP BT) 29 [some (.ref 0), some (.int n)] [] (DQ 124 Q) := by
  refine wp_new 32 9 3 124 [.null, .null, .int 0] d_PM_town_29 rfl nw_PM_164 rfl rfl ?_
  simp only [List.cons_append, List.nil_append]
  refine wp_dup 33 d_PM_town_32 rfl rfl ?_
  refine wp_aload_n 34 d_PM_town_33 rfl rfl ?_
  refine wp_getfield 37 11 1 d_PM_town_34 rfl fl_PM_18 rfl rfl ?_
  refine wp_aload_n 38 d_PM_town_37 rfl rfl ?_
  refine wp_getfield 41 11 3 d_PM_town_38 rfl fl_PM_29 rfl rfl ?_
  refine wi2 44 M_TownText_init 1 [124, 2, 17] [cO 9 [.null, .null, .int 0], cO 7 [.ref 3, .ref 4, .ref 5, .ref 6, .ref 7, .int (nI (xMk b co le K s).nF), .int (xMk b co le K s).le, .int (xMk b co le K s).to, .int (xMk b co le K s).at_, .int (xMk b co le K s).kd, .int (xMk b co le K s).vl, .int (xMk b co le K s).wo, .int (xMk b co le K s).tk, .long (xMk b co le K s).na, .int (xMk b co le K s).fk, .int (xMk b co le K s).fp], cO 8 [.ref 18, .ref 19, .ref 20, .ref 21, .ref 22, .ref 23, .ref 24, .ref 25, .int (nI S.nP), .int (nI S.nW), .int (nI S.nL), .int S.od, .int S.sk, .int S.sd, .int S.go]] (b' := 0) (v1' := .ref 1) (v2' := .ref 2) d_PM_town_41 rfl mi_TownText_init lk_PM_166 rfl rfl rfl rfl rfl rfl rfl ?_
  refine c_TownText_init ?_
  refine sV ?_
  simp only [putH, rC, sg, eV, List.map_cons, List.map_nil, List.set_cons_zero, List.set_cons_succ, List.length_cons, List.length_nil, List.getD_cons_zero, List.getD_cons_succ, Nat.zero_add, Nat.reduceAdd, Nat.reduceLT, if_true, ite_true]
  refine ws_V0 (b' := 0) 47 M_TownText_parse 7 [124, 2, 3, 4, 5, 6, 7, 17, 18, 19, 20, 21, 22, 23, 24, 25] ((hTX (0) _ _ (K.ki) (K.st) (K.va) _ _ (nI K.nT) (nI s.a) (K.ki s.a) (vlT (K.ki s.a) (K.va s.a)) (woT (K.ki s.a) (K.va s.a)) (s.tk) (s.na) (s.fk) (s.fp) (S.pn) (S.wn) (S.fa) (S.te) (S.fr) (S.to_) (S.ea) (S.no) (nI S.nP) (nI S.nW) (nI S.nL) (S.od) (S.sk) (S.sd) (S.go))) d_PM_town_44 rfl mv_TownText_parse lk_PM_169 rfl rfl rfl rfl rfl rfl rfl rfl ?_
  refine c_TownText_parse (s := s) (t := S) ha hK ?_
  refine sI ?_
  simp only [putH, rC, sg, eV, List.map_cons, List.map_nil, List.set_cons_zero, List.set_cons_succ, List.length_cons, List.length_nil, List.getD_cons_zero, List.getD_cons_succ, Nat.zero_add, Nat.reduceAdd, Nat.reduceLT, if_true, ite_true]
  (first | refine wp_ifP_ne 57 50 d_PM_town_47 rfl (by decide) (fun h47 => ?_) (fun h47 => ?_) | refine wp_if_ne 57 50 d_PM_town_47 rfl (by decide) (fun h47 => ?_) (fun h47 => ?_))
  · refine wp_aload_n 58 d_PM_town_57 rfl rfl ?_
    refine wp_getfield 61 11 2 d_PM_town_58 rfl fl_PM_25 rfl rfl ?_
    refine wp_aload_n 62 d_PM_town_61 rfl rfl ?_
    refine wp_getfield 65 11 3 d_PM_town_62 rfl fl_PM_29 rfl rfl ?_
    refine ws_V1 (v1' := .ref 9) (b' := 0) 68 M_Town_copyFrom 1 [8, 9, 10, 11, 12, 13, 14, 15, 16, 17, 18, 19, 20, 21, 22, 23, 24, 25] ((hTTr T (twR K s S).2.2.1)) d_PM_town_65 rfl mv_Town_copyFrom lk_PM_172 rfl rfl rfl rfl rfl rfl rfl rfl rfl ?_
    refine c_Town_copyFrom ?_
    refine sV ?_
    simp only [putH, rC, sg, eV, List.map_cons, List.map_nil, List.set_cons_zero, List.set_cons_succ, List.length_cons, List.length_nil, List.getD_cons_zero, List.getD_cons_succ, Nat.zero_add, Nat.reduceAdd, Nat.reduceLT, if_true, ite_true]
    refine wp_aload_n 69 d_PM_town_68 rfl rfl ?_
    refine wp_getfield 72 11 4 d_PM_town_69 rfl fl_PM_35 rfl rfl ?_
    refine ws_V0 (b' := 0) 75 M_Days_clear 1 [26, 27, 28, 29] ((hDr D)) d_PM_town_72 rfl mv_Days_clear lk_PM_176 rfl rfl rfl rfl rfl rfl rfl rfl ?_
    refine c_Days_clear ?_
    refine sV ?_
    simp only [putH, rC, sg, eV, List.map_cons, List.map_nil, List.set_cons_zero, List.set_cons_succ, List.length_cons, List.length_nil, List.getD_cons_zero, List.getD_cons_succ, Nat.zero_add, Nat.reduceAdd, Nat.reduceLT, if_true, ite_true]
    refine wp_aload_n 76 d_PM_town_75 rfl rfl ?_
    refine wp_aload_n 77 d_PM_town_76 rfl rfl ?_
    refine wp_getfield 80 11 2 d_PM_town_77 rfl fl_PM_25 rfl rfl ?_
    refine wp_getfield 83 8 10 d_PM_town_80 rfl fl_PM_179 rfl rfl ?_
    refine ws_V1 (b' := 0) 86 M_PM_answer 1 [0] ([cO 11 [.ref 1, .ref 2, .ref 8, .ref 17, .ref 26, .ref 30, .ref 34, .ref 35, .ref 36, .ref 44, .ref 58, .ref 62, .ref 65, .ref 76, .int HL, .int (nI nK), .int ST, .long TP, .long BT]]) d_PM_town_83 rfl mv_PM_answer lk_PM_182 rfl rfl rfl rfl rfl rfl rfl (eV_int _ _) rfl ?_
    refine c_answer1 ?_
    refine sI ?_
    simp only [putH, rC, sg, eV, List.map_cons, List.map_nil, List.set_cons_zero, List.set_cons_succ, List.length_cons, List.length_nil, List.getD_cons_zero, List.getD_cons_succ, Nat.zero_add, Nat.reduceAdd, Nat.reduceLT, if_true, ite_true]
    refine wp_ireturn d_PM_town_86 rfl ?_
    exact ⟨(hPM Y (xMk b co le K (twR K s S).2.1) (tCp (twR K s S).2.2.1 T) ((twR K s S).2.2.1) M (dNo D) E N C U W G L VL HL nK (0) TP BT), [cO 9 [.ref 2, .ref 17, .int (twR K s S).2.2.2]], rfl, rfl, rfl, okI _, hq1 h47⟩
  · refine wp_aload_n 51 d_PM_town_50 rfl rfl ?_
    refine wp_bipush 53 9 d_PM_town_51 rfl (by decide) ?_
    refine ws_V1 (b' := 0) 56 M_PM_fail 1 [0] ([cO 11 [.ref 1, .ref 2, .ref 8, .ref 17, .ref 26, .ref 30, .ref 34, .ref 35, .ref 36, .ref 44, .ref 58, .ref 62, .ref 65, .ref 76, .int HL, .int (nI nK), .int ST, .long TP, .long BT]]) d_PM_town_53 rfl mv_PM_fail lk_PM_132 rfl rfl rfl rfl rfl rfl rfl (eV_int _ _) rfl ?_
    refine c_fail1 ?_
    refine sI ?_
    simp only [putH, rC, sg, eV, List.map_cons, List.map_nil, List.set_cons_zero, List.set_cons_succ, List.length_cons, List.length_nil, List.getD_cons_zero, List.getD_cons_succ, Nat.zero_add, Nat.reduceAdd, Nat.reduceLT, if_true, ite_true]
    refine wp_ireturn d_PM_town_56 rfl ?_
    exact ⟨(hPM Y (xMk b co le K (twR K s S).2.1) T ((twR K s S).2.2.1) M D E N C U W G L VL HL nK (9) TP BT), [cO 9 [.ref 2, .ref 17, .int (twR K s S).2.2.2]], rfl, rfl, rfl, okI _, hq9 h47⟩
theorem tkS_lt (X : XT) (k : Nat) : (tkS X).a < (tkK X k).nT := Nat.succ_pos _
set_option maxRecDepth 100000 in
set_option maxHeartbeats 4000000 in
theorem c_PM_town {n : Int32} (hF : X.nF ≤ 900) (hq0 : (n < 0 ∨ nI X.nF < n) → Q (some (.int (-1))) (hPM Y X T S M D E N C U W G L VL HL nK (1) TP BT)) (hq9 : ∀ k, n = nI k → k ≤ X.nF → ¬ (twR (tkK X k) (tkS X) S).1 = true → Q (some (.int (-1))) (hPM Y (xMk X.by_ X.co (nI k) (tkK X k) (twR (tkK X k) (tkS X) S).2.1) T ((twR (tkK X k) (tkS X) S).2.2.1) M D E N C U W G L VL HL nK (9) TP BT)) (hq1 : ∀ k, n = nI k → k ≤ X.nF → (twR (tkK X k) (tkS X) S).1 = true → Q (some (.int (nI (twR (tkK X k) (tkS X) S).2.2.1.nL))) (hPM Y (xMk X.by_ X.co (nI k) (tkK X k) (twR (tkK X k) (tkS X) S).2.1) (tCp (twR (tkK X k) (tkS X) S).2.2.1 T) ((twR (tkK X k) (tkS X) S).2.2.1) M (dNo D) E N C U W G L VL HL nK (0) TP BT)) : Call Γ M_PM_town 8 1 3 [.ref 0, .int n] (hPM Y X T S M D E N C U W G L VL HL nK ST TP BT) Q := by
  refine call_drop ?_
  refine call_intro (ls := [some (.ref 0), some (.int n)]) rfl rfl rfl ?_
  refine wp_iload_n 1 d_PM_town_0 rfl rfl ?_
  refine wp_if_lt 15 4 d_PM_town_1 rfl (by decide) (fun h1 => ?_) (fun h1 => ?_)
  · refine wp_aload_n 16 d_PM_town_15 rfl rfl ?_
    refine wp_iconst 17 1 d_PM_town_16 rfl (by decide) ?_
    refine wp_V1 20 M_PM_fail 1 d_PM_town_17 rfl mv_PM_fail lk_PM_132 rfl rfl rfl rfl rfl ?_
    refine c_PM_fail ?_
    refine kI ?_
    refine wp_ireturn d_PM_town_20 rfl ?_
    exact ⟨(hPM Y X T S M D E N C U W G L VL HL nK (1) TP BT), [], (List.append_nil _).symm, rfl, rfl, okI _, hq0 (Or.inl h1)⟩
  · refine wp_iload_n 5 d_PM_town_4 rfl rfl ?_
    refine wp_aload_n 6 d_PM_town_5 rfl rfl ?_
    refine wp_getfield 9 11 1 d_PM_town_6 rfl fl_PM_18 rfl rfl ?_
    refine wp_getfield 12 7 5 d_PM_town_9 rfl fl_PM_155 rfl rfl ?_
    refine wp_icmp_le 21 15 d_PM_town_12 rfl (by decide) (fun h12 => ?_) (fun h12 => ?_)
    · have hn0 : ¬ n < 0 := h1
      obtain ⟨k, hk31, rfl⟩ := nI_of hn0
      have hk : k ≤ X.nF := nI_leN (a := X.nF) h12 (by omega) (by omega)
      refine wp_aload_n 22 d_PM_town_21 rfl rfl ?_
      refine wp_getfield 25 11 1 d_PM_town_22 rfl fl_PM_18 rfl rfl ?_
      refine wp_iload_n 26 d_PM_town_25 rfl rfl ?_
      refine ws_V1 (b' := 0) 29 M_Text_begin 4 [2, 3, 4, 5, 6, 7] ((hXr X)) d_PM_town_26 rfl mv_Text_begin lk_PM_162 rfl rfl rfl rfl rfl rfl rfl (eV_int _ _) rfl ?_
      refine c_Text_begin hF hk ?_
      refine sV ?_
      simp only [putH, rC, sg, eV, List.map_cons, List.map_nil, List.set_cons_zero, List.set_cons_succ, List.length_cons, List.length_nil, List.getD_cons_zero, List.getD_cons_succ, Nat.zero_add, Nat.reduceAdd, Nat.reduceLT, if_true, ite_true]
      refine hEq (hPM Y (xMk X.by_ X.co (nI k) (tkK X k) (tkS X)) T S M D E N C U W G L VL HL nK ST TP BT) rfl ?_
      exact l_PM_town_29 (tkS_lt X k) (tkK_le X k) (fun z => hq9 k rfl hk z) (fun z => hq1 k rfl hk z)
    · refine wp_aload_n 16 d_PM_town_15 rfl rfl ?_
      refine wp_iconst 17 1 d_PM_town_16 rfl (by decide) ?_
      refine wp_V1 20 M_PM_fail 1 d_PM_town_17 rfl mv_PM_fail lk_PM_132 rfl rfl rfl rfl rfl ?_
      refine c_PM_fail ?_
      refine kI ?_
      refine wp_ireturn d_PM_town_20 rfl ?_
      exact ⟨(hPM Y X T S M D E N C U W G L VL HL nK (1) TP BT), [], (List.append_nil _).symm, rfl, rfl, okI _, hq0 (Or.inr (Int32.not_le.mp h12))⟩

set_option maxRecDepth 100000 in
set_option maxHeartbeats 4000000 in
theorem l_PM_days_36 {n : Int32} {b : Nat → Int32} {co : Nat → Int64} {le : Int32} {K : TK} {s : CS} (ha : s.a < K.nT) (hK : K.nT ≤ 901) (I : tOK T) (hq9 : ¬ (dyR K s T E).1 = true → Q (some (.int (-1))) (hPM Y (xMk b co le K (dyR K s T E).2.1) T S M D (dyD (dyR K s T E).2.2) N C U W G L VL HL nK (9) TP BT)) (hq1 : (dyR K s T E).1 = true → Q (some (.int (nI (dyR K s T E).2.2.nS))) (hPM Y (xMk b co le K (dyR K s T E).2.1) T S M (dCp (dyD (dyR K s T E).2.2) D) (dyD (dyR K s T E).2.2) N C U W G L VL HL nK (0) TP BT)) : WP Γ M_PM_days 8 2 8 (hPM Y (xMk b co le K s) T S M D E N C U W G L VL HL nK ST TP BT) 36 [some (.ref 0), some (.int n)] [] (DQ 124 Q) := by
  refine wp_new 39 2 5 124 [.null, .null, .null, .null, .int 0] d_PM_days_36 rfl nw_PM_185 rfl rfl ?_
  simp only [List.cons_append, List.nil_append]
  refine wp_dup 40 d_PM_days_39 rfl rfl ?_
  refine wp_aload_n 41 d_PM_days_40 rfl rfl ?_
  refine wp_getfield 44 11 1 d_PM_days_41 rfl fl_PM_18 rfl rfl ?_
  refine wp_aload_n 45 d_PM_days_44 rfl rfl ?_
  refine wp_getfield 48 11 2 d_PM_days_45 rfl fl_PM_25 rfl rfl ?_
  refine wp_aload_n 49 d_PM_days_48 rfl rfl ?_
  refine wp_getfield 52 11 5 d_PM_days_49 rfl fl_PM_39 rfl rfl ?_
  refine wx3 55 M_DaysText_init 1 1 3 [124, 2, 3, 4, 5, 6, 7, 8, 9, 10, 11, 12, 13, 14, 15, 16, 30, 31, 32, 33] [cO 2 [.null, .null, .null, .null, .int 0], cO 7 [.ref 2, .ref 3, .ref 4, .ref 5, .ref 6, .int (nI (xMk b co le K s).nF), .int (xMk b co le K s).le, .int (xMk b co le K s).to, .int (xMk b co le K s).at_, .int (xMk b co le K s).kd, .int (xMk b co le K s).vl, .int (xMk b co le K s).wo, .int (xMk b co le K s).tk, .long (xMk b co le K s).na, .int (xMk b co le K s).fk, .int (xMk b co le K s).fp], cB 900 (xMk b co le K s).by_, cL 24 (xMk b co le K s).co, cI 901 (xMk b co le K s).ki, cI 901 (xMk b co le K s).st, cL 901 (xMk b co le K s).va, cO 8 [.ref 8, .ref 9, .ref 10, .ref 11, .ref 12, .ref 13, .ref 14, .ref 15, .int (nI T.nP), .int (nI T.nW), .int (nI T.nL), .int T.od, .int T.sk, .int T.sd, .int T.go], cL 7 T.pn, cL 4 T.wn, cI 4 T.fa, cI 12 T.te, cI 12 T.fr, cI 12 T.to_, cI 12 T.ea, cI 12 T.no, cO 1 [.ref 17, .ref 18, .ref 19, .int E.dth, .int (nI E.nR), .int (nI E.nS)], cI 60 E.dk, cI 60 E.df, cI 60 E.ds] (b' := 0) (v1' := .ref 1) (v2' := .ref 7) (v3' := .ref 16) d_PM_days_52 rfl mi_DaysText_init lk_PM_187 rfl rfl rfl rfl rfl rfl rfl rfl rfl ?_
  refine c_DaysText_init ?_
  refine kX rfl rfl rfl ?_
  simp only [putX, putH, sgx, rC, eV, XB, List.length_cons, List.length_nil, List.take_succ_cons, List.take_zero, List.drop_succ_cons, List.drop_zero, List.map_cons, List.map_nil, List.set_cons_zero, List.set_cons_succ, List.getD_cons_zero, List.getD_cons_succ, List.cons_append, List.nil_append, Nat.zero_add, Nat.reduceAdd, Nat.reduceSub, Nat.reduceLT, Nat.reduceLeDiff, if_true, if_false, ite_true, ite_false]
  refine ws_V0 (b' := 0) 58 M_DaysText_parse 7 [124, 125, 2, 3, 4, 5, 6, 7, 8, 9, 10, 11, 12, 13, 14, 15, 16, 30, 31, 32, 33] ((hDX ((dy0 E).op) (nI (dy0 E).nD) _ _ (K.ki) (K.st) (K.va) _ _ (nI K.nT) (nI s.a) (K.ki s.a) (vlT (K.ki s.a) (K.va s.a)) (woT (K.ki s.a) (K.va s.a)) (s.tk) (s.na) (s.fk) (s.fp) (T.pn) (T.wn) (T.fa) (T.te) (T.fr) (T.to_) (T.ea) (T.no) (nI T.nP) (nI T.nW) (nI T.nL) (T.od) (T.sk) (T.sd) (T.go) ((dy0 E).dk) ((dy0 E).df) ((dy0 E).ds) ((dy0 E).dth) (nI (dy0 E).nR) (nI (dy0 E).nS))) d_PM_days_55 rfl mv_DaysText_parse lk_PM_190 rfl rfl rfl rfl rfl rfl rfl rfl ?_
  refine c_DaysText_parse (s := s) (t := T) (y := dy0 E) ha hK I.hP I.hW rfl (fun j => vp_in_nI (n := 0) (N := 60) (by omega) (by omega)) ?_
  refine sI ?_
  simp only [putH, rC, sg, eV, List.map_cons, List.map_nil, List.set_cons_zero, List.set_cons_succ, List.length_cons, List.length_nil, List.getD_cons_zero, List.getD_cons_succ, Nat.zero_add, Nat.reduceAdd, Nat.reduceLT, if_true, ite_true]
  (first | refine wp_ifP_ne 68 61 d_PM_days_58 rfl (by decide) (fun h58 => ?_) (fun h58 => ?_) | refine wp_if_ne 68 61 d_PM_days_58 rfl (by decide) (fun h58 => ?_) (fun h58 => ?_))
  · refine wp_aload_n 69 d_PM_days_68 rfl rfl ?_
    refine wp_getfield 72 11 4 d_PM_days_69 rfl fl_PM_35 rfl rfl ?_
    refine wp_aload_n 73 d_PM_days_72 rfl rfl ?_
    refine wp_getfield 76 11 5 d_PM_days_73 rfl fl_PM_39 rfl rfl ?_
    refine ws_V1 (v1' := .ref 4) (b' := 0) 79 M_Days_copyFrom 1 [26, 27, 28, 29, 30, 31, 32, 33] ((hDDr D (dyD (dyR K s T E).2.2))) d_PM_days_76 rfl mv_Days_copyFrom lk_PM_191 rfl rfl rfl rfl rfl rfl rfl rfl rfl ?_
    refine c_Days_copyFrom (by show okP .boolean (.int (dyR K s T E).2.2.dth); rw [show (dyR K s T E).2.2.dth = 1 from dpI_dth 301 _ _]; exact okP_1) ?_
    refine sV ?_
    simp only [putH, rC, sg, eV, List.map_cons, List.map_nil, List.set_cons_zero, List.set_cons_succ, List.length_cons, List.length_nil, List.getD_cons_zero, List.getD_cons_succ, Nat.zero_add, Nat.reduceAdd, Nat.reduceLT, if_true, ite_true]
    refine wp_aload_n 80 d_PM_days_79 rfl rfl ?_
    refine wp_aload_n 81 d_PM_days_80 rfl rfl ?_
    refine wp_getfield 84 11 4 d_PM_days_81 rfl fl_PM_35 rfl rfl ?_
    refine wp_getfield 87 1 5 d_PM_days_84 rfl fl_PM_194 rfl rfl ?_
    refine ws_V1 (b' := 0) 90 M_PM_answer 1 [0] ([cO 11 [.ref 1, .ref 2, .ref 8, .ref 17, .ref 26, .ref 30, .ref 34, .ref 35, .ref 36, .ref 44, .ref 58, .ref 62, .ref 65, .ref 76, .int HL, .int (nI nK), .int ST, .long TP, .long BT]]) d_PM_days_87 rfl mv_PM_answer lk_PM_182 rfl rfl rfl rfl rfl rfl rfl (eV_int _ _) rfl ?_
    refine c_answer1 ?_
    refine sI ?_
    simp only [putH, rC, sg, eV, List.map_cons, List.map_nil, List.set_cons_zero, List.set_cons_succ, List.length_cons, List.length_nil, List.getD_cons_zero, List.getD_cons_succ, Nat.zero_add, Nat.reduceAdd, Nat.reduceLT, if_true, ite_true]
    refine wp_ireturn d_PM_days_90 rfl ?_
    exact ⟨(hPM Y (xMk b co le K (dyR K s T E).2.1) T S M (dCp (dyD (dyR K s T E).2.2) D) (dyD (dyR K s T E).2.2) N C U W G L VL HL nK (0) TP BT), [cO 2 [.ref 2, .ref 8, .ref 30, .ref 125, .int (nI (dyR K s T E).2.2.nD)], cI 3 (dyR K s T E).2.2.op], rfl, rfl, rfl, okI _, hq1 h58⟩
  · refine wp_aload_n 62 d_PM_days_61 rfl rfl ?_
    refine wp_bipush 64 9 d_PM_days_62 rfl (by decide) ?_
    refine ws_V1 (b' := 0) 67 M_PM_fail 1 [0] ([cO 11 [.ref 1, .ref 2, .ref 8, .ref 17, .ref 26, .ref 30, .ref 34, .ref 35, .ref 36, .ref 44, .ref 58, .ref 62, .ref 65, .ref 76, .int HL, .int (nI nK), .int ST, .long TP, .long BT]]) d_PM_days_64 rfl mv_PM_fail lk_PM_132 rfl rfl rfl rfl rfl rfl rfl (eV_int _ _) rfl ?_
    refine c_fail1 ?_
    refine sI ?_
    simp only [putH, rC, sg, eV, List.map_cons, List.map_nil, List.set_cons_zero, List.set_cons_succ, List.length_cons, List.length_nil, List.getD_cons_zero, List.getD_cons_succ, Nat.zero_add, Nat.reduceAdd, Nat.reduceLT, if_true, ite_true]
    refine wp_ireturn d_PM_days_67 rfl ?_
    exact ⟨(hPM Y (xMk b co le K (dyR K s T E).2.1) T S M D (dyD (dyR K s T E).2.2) N C U W G L VL HL nK (9) TP BT), [cO 2 [.ref 2, .ref 8, .ref 30, .ref 125, .int (nI (dyR K s T E).2.2.nD)], cI 3 (dyR K s T E).2.2.op], rfl, rfl, rfl, okI _, hq9 h58⟩
set_option maxRecDepth 100000 in
set_option maxHeartbeats 4000000 in
theorem c_PM_days {n : Int32} (I : tOK T) (hF : X.nF ≤ 900) (hq0 : (n < 0 ∨ nI X.nF < n ∨ 300 < n) → Q (some (.int (-1))) (hPM Y X T S M D E N C U W G L VL HL nK (1) TP BT)) (hq9 : ∀ k, n = nI k → k ≤ X.nF ∧ k ≤ 300 → ¬ (dyR (tkK X k) (tkS X) T E).1 = true → Q (some (.int (-1))) (hPM Y (xMk X.by_ X.co (nI k) (tkK X k) (dyR (tkK X k) (tkS X) T E).2.1) T S M D (dyD (dyR (tkK X k) (tkS X) T E).2.2) N C U W G L VL HL nK (9) TP BT)) (hq1 : ∀ k, n = nI k → k ≤ X.nF ∧ k ≤ 300 → (dyR (tkK X k) (tkS X) T E).1 = true → Q (some (.int (nI (dyR (tkK X k) (tkS X) T E).2.2.nS))) (hPM Y (xMk X.by_ X.co (nI k) (tkK X k) (dyR (tkK X k) (tkS X) T E).2.1) T S M (dCp (dyD (dyR (tkK X k) (tkS X) T E).2.2) D) (dyD (dyR (tkK X k) (tkS X) T E).2.2) N C U W G L VL HL nK (0) TP BT)) : Call Γ M_PM_days 8 2 8 [.ref 0, .int n] (hPM Y X T S M D E N C U W G L VL HL nK ST TP BT) Q := by
  refine call_drop ?_
  refine call_intro (ls := [some (.ref 0), some (.int n)]) rfl rfl rfl ?_
  refine wp_iload_n 1 d_PM_days_0 rfl rfl ?_
  refine wp_if_lt 22 4 d_PM_days_1 rfl (by decide) (fun h1 => ?_) (fun h1 => ?_)
  · refine wp_aload_n 23 d_PM_days_22 rfl rfl ?_
    refine wp_iconst 24 1 d_PM_days_23 rfl (by decide) ?_
    refine wp_V1 27 M_PM_fail 1 d_PM_days_24 rfl mv_PM_fail lk_PM_132 rfl rfl rfl rfl rfl ?_
    refine c_PM_fail ?_
    refine kI ?_
    refine wp_ireturn d_PM_days_27 rfl ?_
    exact ⟨(hPM Y X T S M D E N C U W G L VL HL nK (1) TP BT), [], (List.append_nil _).symm, rfl, rfl, okI _, hq0 (Or.inl h1)⟩
  · refine wp_iload_n 5 d_PM_days_4 rfl rfl ?_
    refine wp_aload_n 6 d_PM_days_5 rfl rfl ?_
    refine wp_getfield 9 11 1 d_PM_days_6 rfl fl_PM_18 rfl rfl ?_
    refine wp_getfield 12 7 5 d_PM_days_9 rfl fl_PM_155 rfl rfl ?_
    refine wp_icmp_gt 22 15 d_PM_days_12 rfl (by decide) (fun h12 => ?_) (fun h12 => ?_)
    · refine wp_aload_n 23 d_PM_days_22 rfl rfl ?_
      refine wp_iconst 24 1 d_PM_days_23 rfl (by decide) ?_
      refine wp_V1 27 M_PM_fail 1 d_PM_days_24 rfl mv_PM_fail lk_PM_132 rfl rfl rfl rfl rfl ?_
      refine c_PM_fail ?_
      refine kI ?_
      refine wp_ireturn d_PM_days_27 rfl ?_
      exact ⟨(hPM Y X T S M D E N C U W G L VL HL nK (1) TP BT), [], (List.append_nil _).symm, rfl, rfl, okI _, hq0 (Or.inr (Or.inl h12))⟩
    · refine wp_iload_n 16 d_PM_days_15 rfl rfl ?_
      refine wp_sipush 19 300 d_PM_days_16 rfl (by decide) ?_
      refine wp_icmp_le 28 22 d_PM_days_19 rfl (by decide) (fun h19 => ?_) (fun h19 => ?_)
      · have hn0 : ¬ n < 0 := h1
        obtain ⟨k, hk31, rfl⟩ := nI_of hn0
        have hk : k ≤ X.nF := Nat.not_lt.mp (fun z => h12 ((nI_ltI (by omega) (by omega)).mpr z))
        have hk3 : k ≤ X.nF ∧ k ≤ 300 := ⟨hk, nI_leN (a := 300) h19 (by omega) (by omega)⟩
        refine wp_aload_n 29 d_PM_days_28 rfl rfl ?_
        refine wp_getfield 32 11 1 d_PM_days_29 rfl fl_PM_18 rfl rfl ?_
        refine wp_iload_n 33 d_PM_days_32 rfl rfl ?_
        refine ws_V1 (b' := 0) 36 M_Text_begin 4 [2, 3, 4, 5, 6, 7] ((hXr X)) d_PM_days_33 rfl mv_Text_begin lk_PM_162 rfl rfl rfl rfl rfl rfl rfl (eV_int _ _) rfl ?_
        refine c_Text_begin hF hk ?_
        refine sV ?_
        simp only [putH, rC, sg, eV, List.map_cons, List.map_nil, List.set_cons_zero, List.set_cons_succ, List.length_cons, List.length_nil, List.getD_cons_zero, List.getD_cons_succ, Nat.zero_add, Nat.reduceAdd, Nat.reduceLT, if_true, ite_true]
        refine hEq (hPM Y (xMk X.by_ X.co (nI k) (tkK X k) (tkS X)) T S M D E N C U W G L VL HL nK ST TP BT) rfl ?_
        exact l_PM_days_36 (tkS_lt X k) (tkK_le X k) I (fun z => hq9 k rfl hk3 z) (fun z => hq1 k rfl hk3 z)
      · refine wp_aload_n 23 d_PM_days_22 rfl rfl ?_
        refine wp_iconst 24 1 d_PM_days_23 rfl (by decide) ?_
        refine wp_V1 27 M_PM_fail 1 d_PM_days_24 rfl mv_PM_fail lk_PM_132 rfl rfl rfl rfl rfl ?_
        refine c_PM_fail ?_
        refine kI ?_
        refine wp_ireturn d_PM_days_27 rfl ?_
        exact ⟨(hPM Y X T S M D E N C U W G L VL HL nK (1) TP BT), [], (List.append_nil _).symm, rfl, rfl, okI _, hq0 (Or.inr (Or.inr (Int32.not_le.mp h19)))⟩

end T60
