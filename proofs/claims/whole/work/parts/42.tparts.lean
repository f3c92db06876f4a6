/-! ===== TownText: parts, parse ===== -/
def aP (t : TW) (n : Int64) : TW := (TW.mk (vp_updL t.pn t.nP n) t.wn t.fa t.te t.fr t.to_ t.ea t.no (t.nP + 1) t.nW t.nL t.od t.sk (if t.nP = 0 then 0 else t.sd) t.go)
def aW (t : TW) (n : Int64) (f : Int32) : TW := (TW.mk t.pn (vp_updL t.wn t.nW n) (upd t.fa t.nW f) t.te t.fr t.to_ t.ea t.no t.nP (t.nW + 1) t.nL t.od t.sk t.sd t.go)
def aL (t : TW) (x y z : Int32) : TW := (TW.mk t.pn t.wn t.fa (upd t.te t.nL x) (upd t.fr t.nL y) (upd t.to_ t.nL z) (upd t.ea t.nL 0) (upd t.no t.nL 0) t.nP t.nW (t.nL + 1) t.od t.sk t.sd t.go)
def tClr (t : TW) : TW := (TW.mk t.pn t.wn t.fa t.te t.fr t.to_ t.ea t.no (0) (0) (0) (2) (0) (-1) (0))
def tSo (t : TW) (v : Int32) : TW := (TW.mk t.pn t.wn t.fa t.te t.fr t.to_ t.ea t.no t.nP t.nW t.nL (v) t.sk t.sd t.go)
def tPa (K : TK) (ab be : Int32) (s : CS) : Bool × Int32 × CS := if cWo K s = ab ∨ cWo K s = be then (if (cNu K 0 99 (cNx K s)).1 = true then (true, (if cWo K s = be then -(cNu K 0 99 (cNx K s)).2.tk else (cNu K 0 99 (cNx K s)).2.tk), (cNu K 0 99 (cNx K s)).2) else (false, 0, (cNu K 0 99 (cNx K s)).2)) else (false, 0, cCs K s)
def tE (t : TW) (l : Nat) (r : Bool × Int32 × CS) : TW := if r.1 = true then (TW.mk t.pn t.wn t.fa t.te t.fr t.to_ (upd t.ea l r.2.1) t.no t.nP t.nW t.nL t.od t.sk t.sd t.go) else t
def tN (t : TW) (l : Nat) (r : Bool × Int32 × CS) : TW := if r.1 = true then (TW.mk t.pn t.wn t.fa t.te t.fr t.to_ t.ea (upd t.no l r.2.1) t.nP t.nW t.nL t.od t.sk t.sd t.go) else t
def tOd (K : TK) (s : CS) (t : TW) (x : Int32) : Bool × CS × TW × Int32 := if x = 0 then (if (cNu K 0 16 (cNx K s)).1 = true then (true, (cNu K 0 16 (cNx K s)).2, tSo t (cNu K 0 16 (cNx K s)).2.tk, 1) else (false, (cNu K 0 16 (cNx K s)).2, t, 1)) else (false, cFl K 5 s, t, x)
def tPl (K : TK) (s : CS) (t : TW) : Bool × CS × TW := if t.nP < 7 then (if (tNew K t (cNx K s)).1 = true then (true, (tNew K t (cNx K s)).2, aP t (tNew K t (cNx K s)).2.na) else (false, (tNew K t (cNx K s)).2, t)) else (false, cFl K 6 s, t)
def tW3 (K : TK) (t : TW) (n : Int64) (u l : Int32) (s : CS) : Bool × CS × TW := if (tNB K 5 1 3 1 s).1 = -1 then (false, (tNB K 5 1 3 1 s).2, t) else (true, (tNB K 5 1 3 1 s).2, aW t n (faO u l (tNB K 5 1 3 1 s).1))
def tW2 (K : TK) (t : TW) (n : Int64) (s : CS) : Bool × CS × TW := if (tNB K 3 0 3 0 s).1 = -1 then (false, (tNB K 3 0 3 0 s).2, t) else if cWo K (tNB K 3 0 3 0 s).2 = 4 then tW3 K t n (tNB K 3 0 3 0 s).1 1 (cNx K (tNB K 3 0 3 0 s).2) else tW3 K t n (tNB K 3 0 3 0 s).1 0 (tNB K 3 0 3 0 s).2
def tWk (K : TK) (s : CS) (t : TW) : Bool × CS × TW := if t.nW < 4 then (if (tNew K t (cNx K s)).1 = true then tW2 K t (tNew K t (cNx K s)).2.na (tNew K t (cNx K s)).2 else (false, (tNew K t (cNx K s)).2, t)) else (false, cFl K 6 s, t)
def tL4 (K : TK) (t : TW) (l : Nat) (s : CS) : Bool × CS × TW := if (tPa K 7 8 s).1 = true then ((tPa K 9 10 (tPa K 7 8 s).2.2).1, (tPa K 9 10 (tPa K 7 8 s).2.2).2.2, tN (tE t l (tPa K 7 8 s)) l (tPa K 9 10 (tPa K 7 8 s).2.2)) else (false, (tPa K 7 8 s).2.2, tE t l (tPa K 7 8 s))
def tL3 (K : TK) (t : TW) (x y : Int32) (s : CS) : Bool × CS × TW := if (tKP K t y s).1 = -1 then (false, (tKP K t y s).2, t) else tL4 K (aL t x y (tKP K t y s).1) t.nL (tKP K t y s).2
def tL2 (K : TK) (t : TW) (x : Int32) (s : CS) : Bool × CS × TW := if (tKP K t (-1) s).1 = -1 then (false, (tKP K t (-1) s).2, t) else tL3 K t x (tKP K t (-1) s).1 (tKP K t (-1) s).2
def tL1 (K : TK) (t : TW) (s : CS) : Bool × CS × TW := if (tKW K t s).1 = -1 then (false, (tKW K t s).2, t) else tL2 K t (tKW K t s).1 (tKW K t s).2
def tLg (K : TK) (s : CS) (t : TW) : Bool × CS × TW := if t.nL < 12 then tL1 K t (cNx K s) else (false, cFl K 6 s, t)
def wX (x : Int32) (r : Bool × CS × TW) : Bool × CS × TW × Int32 := (r.1, r.2.1, r.2.2, x)
def tPt (K : TK) (s : CS) (t : TW) (x : Int32) : Bool × CS × TW × Int32 := if cWo K s = 0 then tOd K s t x else if cWo K s = 1 then wX x (tPl K s t) else if cWo K s = 2 then wX x (tWk K s t) else if cWo K s = 6 then wX x (tLg K s t) else (false, cCs K s, t, x)
def prI (K : TK) : Nat → CS → TW → Int32 → Bool × CS × TW × Int32
  | 0, s, t, x => (false, cCs K s, t, x)
  | r + 1, s, t, x => if K.ki s.a = 0 then (true, s, t, x) else if (tPt K s t x).1 = true then (if (cSg K 59 (tPt K s t x).2.1).1 = true then prI K r (cSg K 59 (tPt K s t x).2.1).2 (tPt K s t x).2.2.1 (tPt K s t x).2.2.2 else (false, (cSg K 59 (tPt K s t x).2.1).2, (tPt K s t x).2.2.1, (tPt K s t x).2.2.2)) else (false, (tPt K s t x).2.1, (tPt K s t x).2.2.1, (tPt K s t x).2.2.2)
/-- what holds of the cursor and the town at every step -/
def POk (K : TK) (s : CS) (t : TW) : Prop := s.a < K.nT ∧ t.nP ≤ 7 ∧ t.nW ≤ 4 ∧ t.nL ≤ 12
theorem tPa_lt {K : TK} {ab be : Int32} {s : CS} (h : s.a < K.nT) : (tPa K ab be s).2.2.a < K.nT := by
  unfold tPa; split
  · split <;> exact cNu_lt (cNx_lt h)
  · exact h
theorem tE_ok {K : TK} {s : CS} {t : TW} {l : Nat} {r : Bool × Int32 × CS} (h : POk K s t) : POk K s (tE t l r) := by
  unfold tE; split <;> exact h
theorem tN_ok {K : TK} {s : CS} {t : TW} {l : Nat} {r : Bool × Int32 × CS} (h : POk K s t) : POk K s (tN t l r) := by
  unfold tN; split <;> exact h
theorem tOd_ok {K : TK} {s : CS} {t : TW} {x : Int32} (h : POk K s t) : POk K (tOd K s t x).2.1 (tOd K s t x).2.2.1 := by
  unfold tOd; split
  · split <;> exact ⟨cNu_lt (cNx_lt h.1), h.2⟩
  · exact h
theorem tPl_ok {K : TK} {s : CS} {t : TW} (h : POk K s t) : POk K (tPl K s t).2.1 (tPl K s t).2.2 := by
  unfold tPl; split
  · rename_i h7
    split
    · exact ⟨tNew_lt (cNx_lt h.1), Nat.succ_le_of_lt h7, h.2.2⟩
    · exact ⟨tNew_lt (cNx_lt h.1), h.2⟩
  · exact h
theorem tW3_ok {K : TK} {s : CS} {t : TW} {n : Int64} {u l : Int32} (h : POk K s t) (h4 : t.nW < 4) : POk K (tW3 K t n u l s).2.1 (tW3 K t n u l s).2.2 := by
  unfold tW3; split
  · exact ⟨tNB_lt h.1, h.2⟩
  · exact ⟨tNB_lt h.1, h.2.1, Nat.succ_le_of_lt h4, h.2.2.2⟩
theorem tWk_ok {K : TK} {s : CS} {t : TW} (h : POk K s t) : POk K (tWk K s t).2.1 (tWk K s t).2.2 := by
  unfold tWk; split
  · rename_i h4
    split
    · unfold tW2
      split
      · exact ⟨tNB_lt (tNew_lt (cNx_lt h.1)), h.2⟩
      · split
        · exact tW3_ok ⟨cNx_lt (tNB_lt (tNew_lt (cNx_lt h.1))), h.2⟩ h4
        · exact tW3_ok ⟨tNB_lt (tNew_lt (cNx_lt h.1)), h.2⟩ h4
    · exact ⟨tNew_lt (cNx_lt h.1), h.2⟩
  · exact h
theorem tL4_ok {K : TK} {s : CS} {t : TW} {l : Nat} (h : POk K s t) : POk K (tL4 K t l s).2.1 (tL4 K t l s).2.2 := by
  unfold tL4; split
  · exact tN_ok (tE_ok ⟨tPa_lt (tPa_lt h.1), h.2⟩)
  · exact tE_ok ⟨tPa_lt h.1, h.2⟩
theorem tLg_ok {K : TK} {s : CS} {t : TW} (h : POk K s t) : POk K (tLg K s t).2.1 (tLg K s t).2.2 := by
  unfold tLg; split
  · rename_i h12
    unfold tL1; split
    · exact ⟨tKW_lt (cNx_lt h.1), h.2⟩
    · unfold tL2; split
      · exact ⟨tKP_lt (tKW_lt (cNx_lt h.1)), h.2⟩
      · unfold tL3; split
        · exact ⟨tKP_lt (tKP_lt (tKW_lt (cNx_lt h.1))), h.2⟩
        · exact tL4_ok ⟨tKP_lt (tKP_lt (tKW_lt (cNx_lt h.1))), h.2.1, h.2.2.1, Nat.succ_le_of_lt h12⟩
  · exact h
theorem tPt_ok {K : TK} {s : CS} {t : TW} {x : Int32} (h : POk K s t) : POk K (tPt K s t x).2.1 (tPt K s t x).2.2.1 := by
  unfold tPt; split
  · exact tOd_ok h
  · split
    · exact tPl_ok h
    · split
      · exact tWk_ok h
      · split
        · exact tLg_ok h
        · exact h
theorem inR_N {l n : Nat} (h : l < n) (hn : n < 2 ^ 31) : inR (nI l) (nI n) := ⟨show nI 0 ≤ nI l from (nI_leI (by omega) (by omega)).mpr (by omega), (nI_ltI (by omega) hn).mpr h⟩
section T42
variable {Γ : Gm} {Q : Option Value → LH → Prop}
set_option maxRecDepth 100000 in
set_option maxHeartbeats 4000000 in
theorem c_TownText_takePacesE {xod tfe tle : Int32} {tby : Nat → Int32} {tco : Nat → Int64} {K : TK} {s : CS} {t : TW} {ab be : Int32} {l : Nat} (ha : s.a < K.nT) (hK : K.nT ≤ 901) (hl : l < 12) (hq : Q (some (.int (bP ((tPa K ab be s).1 = true)))) (hTX (xod) tby tco (K.ki) (K.st) (K.va) tfe tle (nI K.nT) (nI (tPa K ab be s).2.2.a) (K.ki (tPa K ab be s).2.2.a) (vlT (K.ki (tPa K ab be s).2.2.a) (K.va (tPa K ab be s).2.2.a)) (woT (K.ki (tPa K ab be s).2.2.a) (K.va (tPa K ab be s).2.2.a)) ((tPa K ab be s).2.2.tk) ((tPa K ab be s).2.2.na) ((tPa K ab be s).2.2.fk) ((tPa K ab be s).2.2.fp) ((tE t l (tPa K ab be s)).pn) ((tE t l (tPa K ab be s)).wn) ((tE t l (tPa K ab be s)).fa) ((tE t l (tPa K ab be s)).te) ((tE t l (tPa K ab be s)).fr) ((tE t l (tPa K ab be s)).to_) ((tE t l (tPa K ab be s)).ea) ((tE t l (tPa K ab be s)).no) (nI (tE t l (tPa K ab be s)).nP) (nI (tE t l (tPa K ab be s)).nW) (nI (tE t l (tPa K ab be s)).nL) ((tE t l (tPa K ab be s)).od) ((tE t l (tPa K ab be s)).sk) ((tE t l (tPa K ab be s)).sd) ((tE t l (tPa K ab be s)).go))) : Call Γ M_TownText_takePaces 4 0 0 [.ref 0, .ref 14, .int (nI l), .int ab, .int be] (hTX (xod) tby tco (K.ki) (K.st) (K.va) tfe tle (nI K.nT) (nI s.a) (K.ki s.a) (vlT (K.ki s.a) (K.va s.a)) (woT (K.ki s.a) (K.va s.a)) (s.tk) (s.na) (s.fk) (s.fp) (t.pn) (t.wn) (t.fa) (t.te) (t.fr) (t.to_) (t.ea) (t.no) (nI t.nP) (nI t.nW) (nI t.nL) (t.od) (t.sk) (t.sd) (t.go)) Q := by
  refine call_intro (ls := [some (.ref 0), some (.ref 14), some (.int (nI l)), some (.int ab), some (.int be), none]) rfl rfl rfl ?_
  refine wp_aload_n 1 d_TownText_takePaces_0 rfl rfl ?_
  refine wp_getfield 4 9 0 d_TownText_takePaces_1 rfl fl_TownText_15 rfl rfl ?_
  refine wp_getfield 7 7 11 d_TownText_takePaces_4 rfl fl_TownText_44 rfl rfl ?_
  refine wp_iload_n 8 d_TownText_takePaces_7 rfl rfl ?_
  refine wp_icmp_eq 31 11 d_TownText_takePaces_8 rfl (by decide) (fun h8 => ?_) (fun h8 => ?_)
  · refine wp_aload_n 32 d_TownText_takePaces_31 rfl rfl ?_
    refine wp_getfield 35 9 0 d_TownText_takePaces_32 rfl fl_TownText_15 rfl rfl ?_
    refine wp_getfield 38 7 11 d_TownText_takePaces_35 rfl fl_TownText_44 rfl rfl ?_
    refine wp_iload 40 d_TownText_takePaces_38 rfl rfl ?_
    refine wp_icmp_ne 47 43 d_TownText_takePaces_40 rfl (by decide) (fun h40 => ?_) (fun h40 => ?_)
    · refine wp_iconst 48 0 d_TownText_takePaces_47 rfl (by decide) ?_
      refine wp_istore_5 50 d_TownText_takePaces_48 rfl rfl rfl ?_
      refine wp_aload_n 51 d_TownText_takePaces_50 rfl rfl ?_
      refine wp_getfield 54 9 0 d_TownText_takePaces_51 rfl fl_TownText_15 rfl rfl ?_
      refine ws_V0 (b' := 0) 57 M_Text_next 2 [1, 2, 3, 4, 5, 6] ((hX tby tco (K.ki) (K.st) (K.va) tfe tle (nI K.nT) (nI s.a) (K.ki s.a) (vlT (K.ki s.a) (K.va s.a)) (woT (K.ki s.a) (K.va s.a)) (s.tk) (s.na) (s.fk) (s.fp))) d_TownText_takePaces_54 rfl mv_Text_next lk_TownText_63 rfl rfl rfl rfl rfl rfl rfl rfl ?_
      refine s_Text_next ha hK ?_
      refine sV ?_
      simp only [putH, rC, sg, eV, List.map_cons, List.map_nil, List.set_cons_zero, List.set_cons_succ, List.length_cons, List.length_nil, List.getD_cons_zero, List.getD_cons_succ, Nat.zero_add, Nat.reduceAdd, Nat.reduceLT, if_true, ite_true]
      refine wp_aload_n 58 d_TownText_takePaces_57 rfl rfl ?_
      refine wp_getfield 61 9 0 d_TownText_takePaces_58 rfl fl_TownText_15 rfl rfl ?_
      refine wp_iconst 62 0 d_TownText_takePaces_61 rfl (by decide) ?_
      refine wp_bipush 64 99 d_TownText_takePaces_62 rfl (by decide) ?_
      refine ws_V2 (b' := 0) 67 M_Text_takeNumber 3 [1, 2, 3, 4, 5, 6] ((hX tby tco (K.ki) (K.st) (K.va) tfe tle (nI K.nT) (nI (cNx K s).a) (K.ki (cNx K s).a) (vlT (K.ki (cNx K s).a) (K.va (cNx K s).a)) (woT (K.ki (cNx K s).a) (K.va (cNx K s).a)) ((cNx K s).tk) ((cNx K s).na) ((cNx K s).fk) ((cNx K s).fp))) d_TownText_takePaces_64 rfl mv_Text_takeNumber lk_TownText_66 rfl rfl rfl rfl rfl rfl rfl (eV_int _ _) (eV_int _ _) rfl ?_
      refine s_Text_takeNumber (cNx_lt ha) hK ?_
      refine sI ?_
      simp only [putH, rC, sg, eV, List.map_cons, List.map_nil, List.set_cons_zero, List.set_cons_succ, List.length_cons, List.length_nil, List.getD_cons_zero, List.getD_cons_succ, Nat.zero_add, Nat.reduceAdd, Nat.reduceLT, if_true, ite_true]
      (first | refine wp_ifP_ne 72 70 d_TownText_takePaces_67 rfl (by decide) (fun h67 => ?_) (fun h67 => ?_) | refine wp_if_ne 72 70 d_TownText_takePaces_67 rfl (by decide) (fun h67 => ?_) (fun h67 => ?_))
      · refine wp_iload_n 73 d_TownText_takePaces_72 rfl rfl ?_
        refine wp_aload_n 74 d_TownText_takePaces_73 rfl rfl ?_
        refine wp_alen_int 75 d_TownText_takePaces_74 rfl rfl ?_
        refine wp_N2 78 M_PM_within 1 d_TownText_takePaces_75 rfl ms_PM_within lk_TownText_131 rfl rfl ?_
        refine c_PM_within ?_
        refine kI ?_
        (first | refine wp_ifP_eq 107 81 d_TownText_takePaces_78 rfl (by decide) (fun h78 => ?_) (fun h78 => ?_) | refine wp_if_eq 107 81 d_TownText_takePaces_78 rfl (by decide) (fun h78 => ?_) (fun h78 => ?_))
        · exact absurd (inR_N hl (by omega)) h78
        · refine wp_aload_n 82 d_TownText_takePaces_81 rfl rfl ?_
          refine wp_iload_n 83 d_TownText_takePaces_82 rfl rfl ?_
          refine wp_iload 85 d_TownText_takePaces_83 rfl rfl ?_
          refine wp_if_eq 99 88 d_TownText_takePaces_85 rfl (by decide) (fun h85 => ?_) (fun h85 => ?_)
          · refine wp_aload_n 100 d_TownText_takePaces_99 rfl rfl ?_
            refine wp_getfield 103 9 0 d_TownText_takePaces_100 rfl fl_TownText_15 rfl rfl ?_
            refine wp_getfield 106 7 12 d_TownText_takePaces_103 rfl fl_TownText_70 rfl rfl ?_
            refine wp_iastoreN 107 d_TownText_takePaces_106 rfl rfl rfl hl ?_
            dsimp only [List.set]
            refine wp_iconst 108 1 d_TownText_takePaces_107 rfl (by decide) ?_
            refine wp_zreturn d_TownText_takePaces_108 rfl (by first | rfl | exact nbP _) ?_
            have e : (tPa K ab be s) = _ := ((if_pos (Or.inl h8)).trans (if_pos h67))
            rw [if_neg (show ¬ cWo K s = be from h40)] at e
            rw [e] at hq
            exact hq
          · exact absurd rfl h85
      · refine wp_iconst 71 0 d_TownText_takePaces_70 rfl (by decide) ?_
        refine wp_zreturn d_TownText_takePaces_71 rfl (by first | rfl | exact nbP _) ?_
        have e : (tPa K ab be s) = _ := ((if_pos (Or.inl h8)).trans (if_neg h67))
        rw [e] at hq
        exact hq
    · refine wp_iconst 44 1 d_TownText_takePaces_43 rfl (by decide) ?_
      refine wp_goto 48 d_TownText_takePaces_44 (by decide) ?_
      refine wp_istore_5 50 d_TownText_takePaces_48 rfl rfl rfl ?_
      refine wp_aload_n 51 d_TownText_takePaces_50 rfl rfl ?_
      refine wp_getfield 54 9 0 d_TownText_takePaces_51 rfl fl_TownText_15 rfl rfl ?_
      refine ws_V0 (b' := 0) 57 M_Text_next 2 [1, 2, 3, 4, 5, 6] ((hX tby tco (K.ki) (K.st) (K.va) tfe tle (nI K.nT) (nI s.a) (K.ki s.a) (vlT (K.ki s.a) (K.va s.a)) (woT (K.ki s.a) (K.va s.a)) (s.tk) (s.na) (s.fk) (s.fp))) d_TownText_takePaces_54 rfl mv_Text_next lk_TownText_63 rfl rfl rfl rfl rfl rfl rfl rfl ?_
      refine s_Text_next ha hK ?_
      refine sV ?_
      simp only [putH, rC, sg, eV, List.map_cons, List.map_nil, List.set_cons_zero, List.set_cons_succ, List.length_cons, List.length_nil, List.getD_cons_zero, List.getD_cons_succ, Nat.zero_add, Nat.reduceAdd, Nat.reduceLT, if_true, ite_true]
      refine wp_aload_n 58 d_TownText_takePaces_57 rfl rfl ?_
      refine wp_getfield 61 9 0 d_TownText_takePaces_58 rfl fl_TownText_15 rfl rfl ?_
      refine wp_iconst 62 0 d_TownText_takePaces_61 rfl (by decide) ?_
      refine wp_bipush 64 99 d_TownText_takePaces_62 rfl (by decide) ?_
      refine ws_V2 (b' := 0) 67 M_Text_takeNumber 3 [1, 2, 3, 4, 5, 6] ((hX tby tco (K.ki) (K.st) (K.va) tfe tle (nI K.nT) (nI (cNx K s).a) (K.ki (cNx K s).a) (vlT (K.ki (cNx K s).a) (K.va (cNx K s).a)) (woT (K.ki (cNx K s).a) (K.va (cNx K s).a)) ((cNx K s).tk) ((cNx K s).na) ((cNx K s).fk) ((cNx K s).fp))) d_TownText_takePaces_64 rfl mv_Text_takeNumber lk_TownText_66 rfl rfl rfl rfl rfl rfl rfl (eV_int _ _) (eV_int _ _) rfl ?_
      refine s_Text_takeNumber (cNx_lt ha) hK ?_
      refine sI ?_
      simp only [putH, rC, sg, eV, List.map_cons, List.map_nil, List.set_cons_zero, List.set_cons_succ, List.length_cons, List.length_nil, List.getD_cons_zero, List.getD_cons_succ, Nat.zero_add, Nat.reduceAdd, Nat.reduceLT, if_true, ite_true]
      (first | refine wp_ifP_ne 72 70 d_TownText_takePaces_67 rfl (by decide) (fun h67 => ?_) (fun h67 => ?_) | refine wp_if_ne 72 70 d_TownText_takePaces_67 rfl (by decide) (fun h67 => ?_) (fun h67 => ?_))
      · refine wp_iload_n 73 d_TownText_takePaces_72 rfl rfl ?_
        refine wp_aload_n 74 d_TownText_takePaces_73 rfl rfl ?_
        refine wp_alen_int 75 d_TownText_takePaces_74 rfl rfl ?_
        refine wp_N2 78 M_PM_within 1 d_TownText_takePaces_75 rfl ms_PM_within lk_TownText_131 rfl rfl ?_
        refine c_PM_within ?_
        refine kI ?_
        (first | refine wp_ifP_eq 107 81 d_TownText_takePaces_78 rfl (by decide) (fun h78 => ?_) (fun h78 => ?_) | refine wp_if_eq 107 81 d_TownText_takePaces_78 rfl (by decide) (fun h78 => ?_) (fun h78 => ?_))
        · exact absurd (inR_N hl (by omega)) h78
        · refine wp_aload_n 82 d_TownText_takePaces_81 rfl rfl ?_
          refine wp_iload_n 83 d_TownText_takePaces_82 rfl rfl ?_
          refine wp_iload 85 d_TownText_takePaces_83 rfl rfl ?_
          refine wp_if_eq 99 88 d_TownText_takePaces_85 rfl (by decide) (fun h85 => ?_) (fun h85 => ?_)
          · exact absurd h85 (by decide)
          · refine wp_aload_n 89 d_TownText_takePaces_88 rfl rfl ?_
            refine wp_getfield 92 9 0 d_TownText_takePaces_89 rfl fl_TownText_15 rfl rfl ?_
            refine wp_getfield 95 7 12 d_TownText_takePaces_92 rfl fl_TownText_70 rfl rfl ?_
            refine wp_ineg 96 d_TownText_takePaces_95 rfl ?_
            refine wp_goto 106 d_TownText_takePaces_96 (by decide) ?_
            refine wp_iastoreN 107 d_TownText_takePaces_106 rfl rfl rfl hl ?_
            dsimp only [List.set]
            refine wp_iconst 108 1 d_TownText_takePaces_107 rfl (by decide) ?_
            refine wp_zreturn d_TownText_takePaces_108 rfl (by first | rfl | exact nbP _) ?_
            have e : (tPa K ab be s) = _ := ((if_pos (Or.inl h8)).trans (if_pos h67))
            rw [if_pos (show cWo K s = be from h40)] at e
            rw [e] at hq
            exact hq
      · refine wp_iconst 71 0 d_TownText_takePaces_70 rfl (by decide) ?_
        refine wp_zreturn d_TownText_takePaces_71 rfl (by first | rfl | exact nbP _) ?_
        have e : (tPa K ab be s) = _ := ((if_pos (Or.inl h8)).trans (if_neg h67))
        rw [e] at hq
        exact hq
  · refine wp_aload_n 12 d_TownText_takePaces_11 rfl rfl ?_
    refine wp_getfield 15 9 0 d_TownText_takePaces_12 rfl fl_TownText_15 rfl rfl ?_
    refine wp_getfield 18 7 11 d_TownText_takePaces_15 rfl fl_TownText_44 rfl rfl ?_
    refine wp_iload 20 d_TownText_takePaces_18 rfl rfl ?_
    refine wp_icmp_eq 31 23 d_TownText_takePaces_20 rfl (by decide) (fun h20 => ?_) (fun h20 => ?_)
    · refine wp_aload_n 32 d_TownText_takePaces_31 rfl rfl ?_
      refine wp_getfield 35 9 0 d_TownText_takePaces_32 rfl fl_TownText_15 rfl rfl ?_
      refine wp_getfield 38 7 11 d_TownText_takePaces_35 rfl fl_TownText_44 rfl rfl ?_
      refine wp_iload 40 d_TownText_takePaces_38 rfl rfl ?_
      refine wp_icmp_ne 47 43 d_TownText_takePaces_40 rfl (by decide) (fun h40 => ?_) (fun h40 => ?_)
      · refine wp_iconst 48 0 d_TownText_takePaces_47 rfl (by decide) ?_
        refine wp_istore_5 50 d_TownText_takePaces_48 rfl rfl rfl ?_
        refine wp_aload_n 51 d_TownText_takePaces_50 rfl rfl ?_
        refine wp_getfield 54 9 0 d_TownText_takePaces_51 rfl fl_TownText_15 rfl rfl ?_
        refine ws_V0 (b' := 0) 57 M_Text_next 2 [1, 2, 3, 4, 5, 6] ((hX tby tco (K.ki) (K.st) (K.va) tfe tle (nI K.nT) (nI s.a) (K.ki s.a) (vlT (K.ki s.a) (K.va s.a)) (woT (K.ki s.a) (K.va s.a)) (s.tk) (s.na) (s.fk) (s.fp))) d_TownText_takePaces_54 rfl mv_Text_next lk_TownText_63 rfl rfl rfl rfl rfl rfl rfl rfl ?_
        refine s_Text_next ha hK ?_
        refine sV ?_
        simp only [putH, rC, sg, eV, List.map_cons, List.map_nil, List.set_cons_zero, List.set_cons_succ, List.length_cons, List.length_nil, List.getD_cons_zero, List.getD_cons_succ, Nat.zero_add, Nat.reduceAdd, Nat.reduceLT, if_true, ite_true]
        refine wp_aload_n 58 d_TownText_takePaces_57 rfl rfl ?_
        refine wp_getfield 61 9 0 d_TownText_takePaces_58 rfl fl_TownText_15 rfl rfl ?_
        refine wp_iconst 62 0 d_TownText_takePaces_61 rfl (by decide) ?_
        refine wp_bipush 64 99 d_TownText_takePaces_62 rfl (by decide) ?_
        refine ws_V2 (b' := 0) 67 M_Text_takeNumber 3 [1, 2, 3, 4, 5, 6] ((hX tby tco (K.ki) (K.st) (K.va) tfe tle (nI K.nT) (nI (cNx K s).a) (K.ki (cNx K s).a) (vlT (K.ki (cNx K s).a) (K.va (cNx K s).a)) (woT (K.ki (cNx K s).a) (K.va (cNx K s).a)) ((cNx K s).tk) ((cNx K s).na) ((cNx K s).fk) ((cNx K s).fp))) d_TownText_takePaces_64 rfl mv_Text_takeNumber lk_TownText_66 rfl rfl rfl rfl rfl rfl rfl (eV_int _ _) (eV_int _ _) rfl ?_
        refine s_Text_takeNumber (cNx_lt ha) hK ?_
        refine sI ?_
        simp only [putH, rC, sg, eV, List.map_cons, List.map_nil, List.set_cons_zero, List.set_cons_succ, List.length_cons, List.length_nil, List.getD_cons_zero, List.getD_cons_succ, Nat.zero_add, Nat.reduceAdd, Nat.reduceLT, if_true, ite_true]
        (first | refine wp_ifP_ne 72 70 d_TownText_takePaces_67 rfl (by decide) (fun h67 => ?_) (fun h67 => ?_) | refine wp_if_ne 72 70 d_TownText_takePaces_67 rfl (by decide) (fun h67 => ?_) (fun h67 => ?_))
        · refine wp_iload_n 73 d_TownText_takePaces_72 rfl rfl ?_
          refine wp_aload_n 74 d_TownText_takePaces_73 rfl rfl ?_
          refine wp_alen_int 75 d_TownText_takePaces_74 rfl rfl ?_
          refine wp_N2 78 M_PM_within 1 d_TownText_takePaces_75 rfl ms_PM_within lk_TownText_131 rfl rfl ?_
          refine c_PM_within ?_
          refine kI ?_
          (first | refine wp_ifP_eq 107 81 d_TownText_takePaces_78 rfl (by decide) (fun h78 => ?_) (fun h78 => ?_) | refine wp_if_eq 107 81 d_TownText_takePaces_78 rfl (by decide) (fun h78 => ?_) (fun h78 => ?_))
          · exact absurd (inR_N hl (by omega)) h78
          · refine wp_aload_n 82 d_TownText_takePaces_81 rfl rfl ?_
            refine wp_iload_n 83 d_TownText_takePaces_82 rfl rfl ?_
            refine wp_iload 85 d_TownText_takePaces_83 rfl rfl ?_
            refine wp_if_eq 99 88 d_TownText_takePaces_85 rfl (by decide) (fun h85 => ?_) (fun h85 => ?_)
            · refine wp_aload_n 100 d_TownText_takePaces_99 rfl rfl ?_
              refine wp_getfield 103 9 0 d_TownText_takePaces_100 rfl fl_TownText_15 rfl rfl ?_
              refine wp_getfield 106 7 12 d_TownText_takePaces_103 rfl fl_TownText_70 rfl rfl ?_
              refine wp_iastoreN 107 d_TownText_takePaces_106 rfl rfl rfl hl ?_
              dsimp only [List.set]
              refine wp_iconst 108 1 d_TownText_takePaces_107 rfl (by decide) ?_
              refine wp_zreturn d_TownText_takePaces_108 rfl (by first | rfl | exact nbP _) ?_
              have e : (tPa K ab be s) = _ := ((if_pos (Or.inr h20)).trans (if_pos h67))
              rw [if_neg (show ¬ cWo K s = be from h40)] at e
              rw [e] at hq
              exact hq
            · exact absurd rfl h85
        · refine wp_iconst 71 0 d_TownText_takePaces_70 rfl (by decide) ?_
          refine wp_zreturn d_TownText_takePaces_71 rfl (by first | rfl | exact nbP _) ?_
          have e : (tPa K ab be s) = _ := ((if_pos (Or.inr h20)).trans (if_neg h67))
          rw [e] at hq
          exact hq
      · refine wp_iconst 44 1 d_TownText_takePaces_43 rfl (by decide) ?_
        refine wp_goto 48 d_TownText_takePaces_44 (by decide) ?_
        refine wp_istore_5 50 d_TownText_takePaces_48 rfl rfl rfl ?_
        refine wp_aload_n 51 d_TownText_takePaces_50 rfl rfl ?_
        refine wp_getfield 54 9 0 d_TownText_takePaces_51 rfl fl_TownText_15 rfl rfl ?_
        refine ws_V0 (b' := 0) 57 M_Text_next 2 [1, 2, 3, 4, 5, 6] ((hX tby tco (K.ki) (K.st) (K.va) tfe tle (nI K.nT) (nI s.a) (K.ki s.a) (vlT (K.ki s.a) (K.va s.a)) (woT (K.ki s.a) (K.va s.a)) (s.tk) (s.na) (s.fk) (s.fp))) d_TownText_takePaces_54 rfl mv_Text_next lk_TownText_63 rfl rfl rfl rfl rfl rfl rfl rfl ?_
        refine s_Text_next ha hK ?_
        refine sV ?_
        simp only [putH, rC, sg, eV, List.map_cons, List.map_nil, List.set_cons_zero, List.set_cons_succ, List.length_cons, List.length_nil, List.getD_cons_zero, List.getD_cons_succ, Nat.zero_add, Nat.reduceAdd, Nat.reduceLT, if_true, ite_true]
        refine wp_aload_n 58 d_TownText_takePaces_57 rfl rfl ?_
        refine wp_getfield 61 9 0 d_TownText_takePaces_58 rfl fl_TownText_15 rfl rfl ?_
        refine wp_iconst 62 0 d_TownText_takePaces_61 rfl (by decide) ?_
        refine wp_bipush 64 99 d_TownText_takePaces_62 rfl (by decide) ?_
        refine ws_V2 (b' := 0) 67 M_Text_takeNumber 3 [1, 2, 3, 4, 5, 6] ((hX tby tco (K.ki) (K.st) (K.va) tfe tle (nI K.nT) (nI (cNx K s).a) (K.ki (cNx K s).a) (vlT (K.ki (cNx K s).a) (K.va (cNx K s).a)) (woT (K.ki (cNx K s).a) (K.va (cNx K s).a)) ((cNx K s).tk) ((cNx K s).na) ((cNx K s).fk) ((cNx K s).fp))) d_TownText_takePaces_64 rfl mv_Text_takeNumber lk_TownText_66 rfl rfl rfl rfl rfl rfl rfl (eV_int _ _) (eV_int _ _) rfl ?_
        refine s_Text_takeNumber (cNx_lt ha) hK ?_
        refine sI ?_
        simp only [putH, rC, sg, eV, List.map_cons, List.map_nil, List.set_cons_zero, List.set_cons_succ, List.length_cons, List.length_nil, List.getD_cons_zero, List.getD_cons_succ, Nat.zero_add, Nat.reduceAdd, Nat.reduceLT, if_true, ite_true]
        (first | refine wp_ifP_ne 72 70 d_TownText_takePaces_67 rfl (by decide) (fun h67 => ?_) (fun h67 => ?_) | refine wp_if_ne 72 70 d_TownText_takePaces_67 rfl (by decide) (fun h67 => ?_) (fun h67 => ?_))
        · refine wp_iload_n 73 d_TownText_takePaces_72 rfl rfl ?_
          refine wp_aload_n 74 d_TownText_takePaces_73 rfl rfl ?_
          refine wp_alen_int 75 d_TownText_takePaces_74 rfl rfl ?_
          refine wp_N2 78 M_PM_within 1 d_TownText_takePaces_75 rfl ms_PM_within lk_TownText_131 rfl rfl ?_
          refine c_PM_within ?_
          refine kI ?_
          (first | refine wp_ifP_eq 107 81 d_TownText_takePaces_78 rfl (by decide) (fun h78 => ?_) (fun h78 => ?_) | refine wp_if_eq 107 81 d_TownText_takePaces_78 rfl (by decide) (fun h78 => ?_) (fun h78 => ?_))
          · exact absurd (inR_N hl (by omega)) h78
          · refine wp_aload_n 82 d_TownText_takePaces_81 rfl rfl ?_
            refine wp_iload_n 83 d_TownText_takePaces_82 rfl rfl ?_
            refine wp_iload 85 d_TownText_takePaces_83 rfl rfl ?_
            refine wp_if_eq 99 88 d_TownText_takePaces_85 rfl (by decide) (fun h85 => ?_) (fun h85 => ?_)
            · exact absurd h85 (by decide)
            · refine wp_aload_n 89 d_TownText_takePaces_88 rfl rfl ?_
              refine wp_getfield 92 9 0 d_TownText_takePaces_89 rfl fl_TownText_15 rfl rfl ?_
              refine wp_getfield 95 7 12 d_TownText_takePaces_92 rfl fl_TownText_70 rfl rfl ?_
              refine wp_ineg 96 d_TownText_takePaces_95 rfl ?_
              refine wp_goto 106 d_TownText_takePaces_96 (by decide) ?_
              refine wp_iastoreN 107 d_TownText_takePaces_106 rfl rfl rfl hl ?_
              dsimp only [List.set]
              refine wp_iconst 108 1 d_TownText_takePaces_107 rfl (by decide) ?_
              refine wp_zreturn d_TownText_takePaces_108 rfl (by first | rfl | exact nbP _) ?_
              have e : (tPa K ab be s) = _ := ((if_pos (Or.inr h20)).trans (if_pos h67))
              rw [if_pos (show cWo K s = be from h40)] at e
              rw [e] at hq
              exact hq
        · refine wp_iconst 71 0 d_TownText_takePaces_70 rfl (by decide) ?_
          refine wp_zreturn d_TownText_takePaces_71 rfl (by first | rfl | exact nbP _) ?_
          have e : (tPa K ab be s) = _ := ((if_pos (Or.inr h20)).trans (if_neg h67))
          rw [e] at hq
          exact hq
    · refine wp_aload_n 24 d_TownText_takePaces_23 rfl rfl ?_
      refine wp_getfield 27 9 0 d_TownText_takePaces_24 rfl fl_TownText_15 rfl rfl ?_
      refine ws_V0 (b' := 0) 30 M_Text_cannotStand 2 [1, 2, 3, 4, 5, 6] ((hX tby tco (K.ki) (K.st) (K.va) tfe tle (nI K.nT) (nI s.a) (K.ki s.a) (vlT (K.ki s.a) (K.va s.a)) (woT (K.ki s.a) (K.va s.a)) (s.tk) (s.na) (s.fk) (s.fp))) d_TownText_takePaces_27 rfl mv_Text_cannotStand lk_TownText_41 rfl rfl rfl rfl rfl rfl rfl rfl ?_
      refine s_Text_cannotStand ha hK ?_
      refine sI ?_
      simp only [putH, rC, sg, eV, List.map_cons, List.map_nil, List.set_cons_zero, List.set_cons_succ, List.length_cons, List.length_nil, List.getD_cons_zero, List.getD_cons_succ, Nat.zero_add, Nat.reduceAdd, Nat.reduceLT, if_true, ite_true]
      refine wp_zreturn d_TownText_takePaces_30 rfl (by first | rfl | exact nbP _) ?_
      have e : (tPa K ab be s) = _ := (if_neg (fun z => z.elim h8 h20))
      rw [e] at hq
      exact hq

set_option maxRecDepth 100000 in
set_option maxHeartbeats 4000000 in
theorem c_TownText_takePacesN {xod tfe tle : Int32} {tby : Nat → Int32} {tco : Nat → Int64} {K : TK} {s : CS} {t : TW} {ab be : Int32} {l : Nat} (ha : s.a < K.nT) (hK : K.nT ≤ 901) (hl : l < 12) (hq : Q (some (.int (bP ((tPa K ab be s).1 = true)))) (hTX (xod) tby tco (K.ki) (K.st) (K.va) tfe tle (nI K.nT) (nI (tPa K ab be s).2.2.a) (K.ki (tPa K ab be s).2.2.a) (vlT (K.ki (tPa K ab be s).2.2.a) (K.va (tPa K ab be s).2.2.a)) (woT (K.ki (tPa K ab be s).2.2.a) (K.va (tPa K ab be s).2.2.a)) ((tPa K ab be s).2.2.tk) ((tPa K ab be s).2.2.na) ((tPa K ab be s).2.2.fk) ((tPa K ab be s).2.2.fp) ((tN t l (tPa K ab be s)).pn) ((tN t l (tPa K ab be s)).wn) ((tN t l (tPa K ab be s)).fa) ((tN t l (tPa K ab be s)).te) ((tN t l (tPa K ab be s)).fr) ((tN t l (tPa K ab be s)).to_) ((tN t l (tPa K ab be s)).ea) ((tN t l (tPa K ab be s)).no) (nI (tN t l (tPa K ab be s)).nP) (nI (tN t l (tPa K ab be s)).nW) (nI (tN t l (tPa K ab be s)).nL) ((tN t l (tPa K ab be s)).od) ((tN t l (tPa K ab be s)).sk) ((tN t l (tPa K ab be s)).sd) ((tN t l (tPa K ab be s)).go))) : Call Γ M_TownText_takePaces 4 0 0 [.ref 0, .ref 15, .int (nI l), .int ab, .int be] (hTX (xod) tby tco (K.ki) (K.st) (K.va) tfe tle (nI K.nT) (nI s.a) (K.ki s.a) (vlT (K.ki s.a) (K.va s.a)) (woT (K.ki s.a) (K.va s.a)) (s.tk) (s.na) (s.fk) (s.fp) (t.pn) (t.wn) (t.fa) (t.te) (t.fr) (t.to_) (t.ea) (t.no) (nI t.nP) (nI t.nW) (nI t.nL) (t.od) (t.sk) (t.sd) (t.go)) Q := by
  refine call_intro (ls := [some (.ref 0), some (.ref 15), some (.int (nI l)), some (.int ab), some (.int be), none]) rfl rfl rfl ?_
  refine wp_aload_n 1 d_TownText_takePaces_0 rfl rfl ?_
  refine wp_getfield 4 9 0 d_TownText_takePaces_1 rfl fl_TownText_15 rfl rfl ?_
  refine wp_getfield 7 7 11 d_TownText_takePaces_4 rfl fl_TownText_44 rfl rfl ?_
  refine wp_iload_n 8 d_TownText_takePaces_7 rfl rfl ?_
  refine wp_icmp_eq 31 11 d_TownText_takePaces_8 rfl (by decide) (fun h8 => ?_) (fun h8 => ?_)
  · refine wp_aload_n 32 d_TownText_takePaces_31 rfl rfl ?_
    refine wp_getfield 35 9 0 d_TownText_takePaces_32 rfl fl_TownText_15 rfl rfl ?_
    refine wp_getfield 38 7 11 d_TownText_takePaces_35 rfl fl_TownText_44 rfl rfl ?_
    refine wp_iload 40 d_TownText_takePaces_38 rfl rfl ?_
    refine wp_icmp_ne 47 43 d_TownText_takePaces_40 rfl (by decide) (fun h40 => ?_) (fun h40 => ?_)
    · refine wp_iconst 48 0 d_TownText_takePaces_47 rfl (by decide) ?_
      refine wp_istore_5 50 d_TownText_takePaces_48 rfl rfl rfl ?_
      refine wp_aload_n 51 d_TownText_takePaces_50 rfl rfl ?_
      refine wp_getfield 54 9 0 d_TownText_takePaces_51 rfl fl_TownText_15 rfl rfl ?_
      refine ws_V0 (b' := 0) 57 M_Text_next 2 [1, 2, 3, 4, 5, 6] ((hX tby tco (K.ki) (K.st) (K.va) tfe tle (nI K.nT) (nI s.a) (K.ki s.a) (vlT (K.ki s.a) (K.va s.a)) (woT (K.ki s.a) (K.va s.a)) (s.tk) (s.na) (s.fk) (s.fp))) d_TownText_takePaces_54 rfl mv_Text_next lk_TownText_63 rfl rfl rfl rfl rfl rfl rfl rfl ?_
      refine s_Text_next ha hK ?_
      refine sV ?_
      simp only [putH, rC, sg, eV, List.map_cons, List.map_nil, List.set_cons_zero, List.set_cons_succ, List.length_cons, List.length_nil, List.getD_cons_zero, List.getD_cons_succ, Nat.zero_add, Nat.reduceAdd, Nat.reduceLT, if_true, ite_true]
      refine wp_aload_n 58 d_TownText_takePaces_57 rfl rfl ?_
      refine wp_getfield 61 9 0 d_TownText_takePaces_58 rfl fl_TownText_15 rfl rfl ?_
      refine wp_iconst 62 0 d_TownText_takePaces_61 rfl (by decide) ?_
      refine wp_bipush 64 99 d_TownText_takePaces_62 rfl (by decide) ?_
      refine ws_V2 (b' := 0) 67 M_Text_takeNumber 3 [1, 2, 3, 4, 5, 6] ((hX tby tco (K.ki) (K.st) (K.va) tfe tle (nI K.nT) (nI (cNx K s).a) (K.ki (cNx K s).a) (vlT (K.ki (cNx K s).a) (K.va (cNx K s).a)) (woT (K.ki (cNx K s).a) (K.va (cNx K s).a)) ((cNx K s).tk) ((cNx K s).na) ((cNx K s).fk) ((cNx K s).fp))) d_TownText_takePaces_64 rfl mv_Text_takeNumber lk_TownText_66 rfl rfl rfl rfl rfl rfl rfl (eV_int _ _) (eV_int _ _) rfl ?_
      refine s_Text_takeNumber (cNx_lt ha) hK ?_
      refine sI ?_
      simp only [putH, rC, sg, eV, List.map_cons, List.map_nil, List.set_cons_zero, List.set_cons_succ, List.length_cons, List.length_nil, List.getD_cons_zero, List.getD_cons_succ, Nat.zero_add, Nat.reduceAdd, Nat.reduceLT, if_true, ite_true]
      (first | refine wp_ifP_ne 72 70 d_TownText_takePaces_67 rfl (by decide) (fun h67 => ?_) (fun h67 => ?_) | refine wp_if_ne 72 70 d_TownText_takePaces_67 rfl (by decide) (fun h67 => ?_) (fun h67 => ?_))
      · refine wp_iload_n 73 d_TownText_takePaces_72 rfl rfl ?_
        refine wp_aload_n 74 d_TownText_takePaces_73 rfl rfl ?_
        refine wp_alen_int 75 d_TownText_takePaces_74 rfl rfl ?_
        refine wp_N2 78 M_PM_within 1 d_TownText_takePaces_75 rfl ms_PM_within lk_TownText_131 rfl rfl ?_
        refine c_PM_within ?_
        refine kI ?_
        (first | refine wp_ifP_eq 107 81 d_TownText_takePaces_78 rfl (by decide) (fun h78 => ?_) (fun h78 => ?_) | refine wp_if_eq 107 81 d_TownText_takePaces_78 rfl (by decide) (fun h78 => ?_) (fun h78 => ?_))
        · exact absurd (inR_N hl (by omega)) h78
        · refine wp_aload_n 82 d_TownText_takePaces_81 rfl rfl ?_
          refine wp_iload_n 83 d_TownText_takePaces_82 rfl rfl ?_
          refine wp_iload 85 d_TownText_takePaces_83 rfl rfl ?_
          refine wp_if_eq 99 88 d_TownText_takePaces_85 rfl (by decide) (fun h85 => ?_) (fun h85 => ?_)
          · refine wp_aload_n 100 d_TownText_takePaces_99 rfl rfl ?_
            refine wp_getfield 103 9 0 d_TownText_takePaces_100 rfl fl_TownText_15 rfl rfl ?_
            refine wp_getfield 106 7 12 d_TownText_takePaces_103 rfl fl_TownText_70 rfl rfl ?_
            refine wp_iastoreN 107 d_TownText_takePaces_106 rfl rfl rfl hl ?_
            dsimp only [List.set]
            refine wp_iconst 108 1 d_TownText_takePaces_107 rfl (by decide) ?_
            refine wp_zreturn d_TownText_takePaces_108 rfl (by first | rfl | exact nbP _) ?_
            have e : (tPa K ab be s) = _ := ((if_pos (Or.inl h8)).trans (if_pos h67))
            rw [if_neg (show ¬ cWo K s = be from h40)] at e
            rw [e] at hq
            exact hq
          · exact absurd rfl h85
      · refine wp_iconst 71 0 d_TownText_takePaces_70 rfl (by decide) ?_
        refine wp_zreturn d_TownText_takePaces_71 rfl (by first | rfl | exact nbP _) ?_
        have e : (tPa K ab be s) = _ := ((if_pos (Or.inl h8)).trans (if_neg h67))
        rw [e] at hq
        exact hq
    · refine wp_iconst 44 1 d_TownText_takePaces_43 rfl (by decide) ?_
      refine wp_goto 48 d_TownText_takePaces_44 (by decide) ?_
      refine wp_istore_5 50 d_TownText_takePaces_48 rfl rfl rfl ?_
      refine wp_aload_n 51 d_TownText_takePaces_50 rfl rfl ?_
      refine wp_getfield 54 9 0 d_TownText_takePaces_51 rfl fl_TownText_15 rfl rfl ?_
      refine ws_V0 (b' := 0) 57 M_Text_next 2 [1, 2, 3, 4, 5, 6] ((hX tby tco (K.ki) (K.st) (K.va) tfe tle (nI K.nT) (nI s.a) (K.ki s.a) (vlT (K.ki s.a) (K.va s.a)) (woT (K.ki s.a) (K.va s.a)) (s.tk) (s.na) (s.fk) (s.fp))) d_TownText_takePaces_54 rfl mv_Text_next lk_TownText_63 rfl rfl rfl rfl rfl rfl rfl rfl ?_
      refine s_Text_next ha hK ?_
      refine sV ?_
      simp only [putH, rC, sg, eV, List.map_cons, List.map_nil, List.set_cons_zero, List.set_cons_succ, List.length_cons, List.length_nil, List.getD_cons_zero, List.getD_cons_succ, Nat.zero_add, Nat.reduceAdd, Nat.reduceLT, if_true, ite_true]
      refine wp_aload_n 58 d_TownText_takePaces_57 rfl rfl ?_
      refine wp_getfield 61 9 0 d_TownText_takePaces_58 rfl fl_TownText_15 rfl rfl ?_
      refine wp_iconst 62 0 d_TownText_takePaces_61 rfl (by decide) ?_
      refine wp_bipush 64 99 d_TownText_takePaces_62 rfl (by decide) ?_
      refine ws_V2 (b' := 0) 67 M_Text_takeNumber 3 [1, 2, 3, 4, 5, 6] ((hX tby tco (K.ki) (K.st) (K.va) tfe tle (nI K.nT) (nI (cNx K s).a) (K.ki (cNx K s).a) (vlT (K.ki (cNx K s).a) (K.va (cNx K s).a)) (woT (K.ki (cNx K s).a) (K.va (cNx K s).a)) ((cNx K s).tk) ((cNx K s).na) ((cNx K s).fk) ((cNx K s).fp))) d_TownText_takePaces_64 rfl mv_Text_takeNumber lk_TownText_66 rfl rfl rfl rfl rfl rfl rfl (eV_int _ _) (eV_int _ _) rfl ?_
      refine s_Text_takeNumber (cNx_lt ha) hK ?_
      refine sI ?_
      simp only [putH, rC, sg, eV, List.map_cons, List.map_nil, List.set_cons_zero, List.set_cons_succ, List.length_cons, List.length_nil, List.getD_cons_zero, List.getD_cons_succ, Nat.zero_add, Nat.reduceAdd, Nat.reduceLT, if_true, ite_true]
      (first | refine wp_ifP_ne 72 70 d_TownText_takePaces_67 rfl (by decide) (fun h67 => ?_) (fun h67 => ?_) | refine wp_if_ne 72 70 d_TownText_takePaces_67 rfl (by decide) (fun h67 => ?_) (fun h67 => ?_))
      · refine wp_iload_n 73 d_TownText_takePaces_72 rfl rfl ?_
        refine wp_aload_n 74 d_TownText_takePaces_73 rfl rfl ?_
        refine wp_alen_int 75 d_TownText_takePaces_74 rfl rfl ?_
        refine wp_N2 78 M_PM_within 1 d_TownText_takePaces_75 rfl ms_PM_within lk_TownText_131 rfl rfl ?_
        refine c_PM_within ?_
        refine kI ?_
        (first | refine wp_ifP_eq 107 81 d_TownText_takePaces_78 rfl (by decide) (fun h78 => ?_) (fun h78 => ?_) | refine wp_if_eq 107 81 d_TownText_takePaces_78 rfl (by decide) (fun h78 => ?_) (fun h78 => ?_))
        · exact absurd (inR_N hl (by omega)) h78
        · refine wp_aload_n 82 d_TownText_takePaces_81 rfl rfl ?_
          refine wp_iload_n 83 d_TownText_takePaces_82 rfl rfl ?_
          refine wp_iload 85 d_TownText_takePaces_83 rfl rfl ?_
          refine wp_if_eq 99 88 d_TownText_takePaces_85 rfl (by decide) (fun h85 => ?_) (fun h85 => ?_)
          · exact absurd h85 (by decide)
          · refine wp_aload_n 89 d_TownText_takePaces_88 rfl rfl ?_
            refine wp_getfield 92 9 0 d_TownText_takePaces_89 rfl fl_TownText_15 rfl rfl ?_
            refine wp_getfield 95 7 12 d_TownText_takePaces_92 rfl fl_TownText_70 rfl rfl ?_
            refine wp_ineg 96 d_TownText_takePaces_95 rfl ?_
            refine wp_goto 106 d_TownText_takePaces_96 (by decide) ?_
            refine wp_iastoreN 107 d_TownText_takePaces_106 rfl rfl rfl hl ?_
            dsimp only [List.set]
            refine wp_iconst 108 1 d_TownText_takePaces_107 rfl (by decide) ?_
            refine wp_zreturn d_TownText_takePaces_108 rfl (by first | rfl | exact nbP _) ?_
            have e : (tPa K ab be s) = _ := ((if_pos (Or.inl h8)).trans (if_pos h67))
            rw [if_pos (show cWo K s = be from h40)] at e
            rw [e] at hq
            exact hq
      · refine wp_iconst 71 0 d_TownText_takePaces_70 rfl (by decide) ?_
        refine wp_zreturn d_TownText_takePaces_71 rfl (by first | rfl | exact nbP _) ?_
        have e : (tPa K ab be s) = _ := ((if_pos (Or.inl h8)).trans (if_neg h67))
        rw [e] at hq
        exact hq
  · refine wp_aload_n 12 d_TownText_takePaces_11 rfl rfl ?_
    refine wp_getfield 15 9 0 d_TownText_takePaces_12 rfl fl_TownText_15 rfl rfl ?_
    refine wp_getfield 18 7 11 d_TownText_takePaces_15 rfl fl_TownText_44 rfl rfl ?_
    refine wp_iload 20 d_TownText_takePaces_18 rfl rfl ?_
    refine wp_icmp_eq 31 23 d_TownText_takePaces_20 rfl (by decide) (fun h20 => ?_) (fun h20 => ?_)
    · refine wp_aload_n 32 d_TownText_takePaces_31 rfl rfl ?_
      refine wp_getfield 35 9 0 d_TownText_takePaces_32 rfl fl_TownText_15 rfl rfl ?_
      refine wp_getfield 38 7 11 d_TownText_takePaces_35 rfl fl_TownText_44 rfl rfl ?_
      refine wp_iload 40 d_TownText_takePaces_38 rfl rfl ?_
      refine wp_icmp_ne 47 43 d_TownText_takePaces_40 rfl (by decide) (fun h40 => ?_) (fun h40 => ?_)
      · refine wp_iconst 48 0 d_TownText_takePaces_47 rfl (by decide) ?_
        refine wp_istore_5 50 d_TownText_takePaces_48 rfl rfl rfl ?_
        refine wp_aload_n 51 d_TownText_takePaces_50 rfl rfl ?_
        refine wp_getfield 54 9 0 d_TownText_takePaces_51 rfl fl_TownText_15 rfl rfl ?_
        refine ws_V0 (b' := 0) 57 M_Text_next 2 [1, 2, 3, 4, 5, 6] ((hX tby tco (K.ki) (K.st) (K.va) tfe tle (nI K.nT) (nI s.a) (K.ki s.a) (vlT (K.ki s.a) (K.va s.a)) (woT (K.ki s.a) (K.va s.a)) (s.tk) (s.na) (s.fk) (s.fp))) d_TownText_takePaces_54 rfl mv_Text_next lk_TownText_63 rfl rfl rfl rfl rfl rfl rfl rfl ?_
        refine s_Text_next ha hK ?_
        refine sV ?_
        simp only [putH, rC, sg, eV, List.map_cons, List.map_nil, List.set_cons_zero, List.set_cons_succ, List.length_cons, List.length_nil, List.getD_cons_zero, List.getD_cons_succ, Nat.zero_add, Nat.reduceAdd, Nat.reduceLT, if_true, ite_true]
        refine wp_aload_n 58 d_TownText_takePaces_57 rfl rfl ?_
        refine wp_getfield 61 9 0 d_TownText_takePaces_58 rfl fl_TownText_15 rfl rfl ?_
        refine wp_iconst 62 0 d_TownText_takePaces_61 rfl (by decide) ?_
        refine wp_bipush 64 99 d_TownText_takePaces_62 rfl (by decide) ?_
        refine ws_V2 (b' := 0) 67 M_Text_takeNumber 3 [1, 2, 3, 4, 5, 6] ((hX tby tco (K.ki) (K.st) (K.va) tfe tle (nI K.nT) (nI (cNx K s).a) (K.ki (cNx K s).a) (vlT (K.ki (cNx K s).a) (K.va (cNx K s).a)) (woT (K.ki (cNx K s).a) (K.va (cNx K s).a)) ((cNx K s).tk) ((cNx K s).na) ((cNx K s).fk) ((cNx K s).fp))) d_TownText_takePaces_64 rfl mv_Text_takeNumber lk_TownText_66 rfl rfl rfl rfl rfl rfl rfl (eV_int _ _) (eV_int _ _) rfl ?_
        refine s_Text_takeNumber (cNx_lt ha) hK ?_
        refine sI ?_
        simp only [putH, rC, sg, eV, List.map_cons, List.map_nil, List.set_cons_zero, List.set_cons_succ, List.length_cons, List.length_nil, List.getD_cons_zero, List.getD_cons_succ, Nat.zero_add, Nat.reduceAdd, Nat.reduceLT, if_true, ite_true]
        (first | refine wp_ifP_ne 72 70 d_TownText_takePaces_67 rfl (by decide) (fun h67 => ?_) (fun h67 => ?_) | refine wp_if_ne 72 70 d_TownText_takePaces_67 rfl (by decide) (fun h67 => ?_) (fun h67 => ?_))
        · refine wp_iload_n 73 d_TownText_takePaces_72 rfl rfl ?_
          refine wp_aload_n 74 d_TownText_takePaces_73 rfl rfl ?_
          refine wp_alen_int 75 d_TownText_takePaces_74 rfl rfl ?_
          refine wp_N2 78 M_PM_within 1 d_TownText_takePaces_75 rfl ms_PM_within lk_TownText_131 rfl rfl ?_
          refine c_PM_within ?_
          refine kI ?_
          (first | refine wp_ifP_eq 107 81 d_TownText_takePaces_78 rfl (by decide) (fun h78 => ?_) (fun h78 => ?_) | refine wp_if_eq 107 81 d_TownText_takePaces_78 rfl (by decide) (fun h78 => ?_) (fun h78 => ?_))
          · exact absurd (inR_N hl (by omega)) h78
          · refine wp_aload_n 82 d_TownText_takePaces_81 rfl rfl ?_
            refine wp_iload_n 83 d_TownText_takePaces_82 rfl rfl ?_
            refine wp_iload 85 d_TownText_takePaces_83 rfl rfl ?_
            refine wp_if_eq 99 88 d_TownText_takePaces_85 rfl (by decide) (fun h85 => ?_) (fun h85 => ?_)
            · refine wp_aload_n 100 d_TownText_takePaces_99 rfl rfl ?_
              refine wp_getfield 103 9 0 d_TownText_takePaces_100 rfl fl_TownText_15 rfl rfl ?_
              refine wp_getfield 106 7 12 d_TownText_takePaces_103 rfl fl_TownText_70 rfl rfl ?_
              refine wp_iastoreN 107 d_TownText_takePaces_106 rfl rfl rfl hl ?_
              dsimp only [List.set]
              refine wp_iconst 108 1 d_TownText_takePaces_107 rfl (by decide) ?_
              refine wp_zreturn d_TownText_takePaces_108 rfl (by first | rfl | exact nbP _) ?_
              have e : (tPa K ab be s) = _ := ((if_pos (Or.inr h20)).trans (if_pos h67))
              rw [if_neg (show ¬ cWo K s = be from h40)] at e
              rw [e] at hq
              exact hq
            · exact absurd rfl h85
        · refine wp_iconst 71 0 d_TownText_takePaces_70 rfl (by decide) ?_
          refine wp_zreturn d_TownText_takePaces_71 rfl (by first | rfl | exact nbP _) ?_
          have e : (tPa K ab be s) = _ := ((if_pos (Or.inr h20)).trans (if_neg h67))
          rw [e] at hq
          exact hq
      · refine wp_iconst 44 1 d_TownText_takePaces_43 rfl (by decide) ?_
        refine wp_goto 48 d_TownText_takePaces_44 (by decide) ?_
        refine wp_istore_5 50 d_TownText_takePaces_48 rfl rfl rfl ?_
        refine wp_aload_n 51 d_TownText_takePaces_50 rfl rfl ?_
        refine wp_getfield 54 9 0 d_TownText_takePaces_51 rfl fl_TownText_15 rfl rfl ?_
        refine ws_V0 (b' := 0) 57 M_Text_next 2 [1, 2, 3, 4, 5, 6] ((hX tby tco (K.ki) (K.st) (K.va) tfe tle (nI K.nT) (nI s.a) (K.ki s.a) (vlT (K.ki s.a) (K.va s.a)) (woT (K.ki s.a) (K.va s.a)) (s.tk) (s.na) (s.fk) (s.fp))) d_TownText_takePaces_54 rfl mv_Text_next lk_TownText_63 rfl rfl rfl rfl rfl rfl rfl rfl ?_
        refine s_Text_next ha hK ?_
        refine sV ?_
        simp only [putH, rC, sg, eV, List.map_cons, List.map_nil, List.set_cons_zero, List.set_cons_succ, List.length_cons, List.length_nil, List.getD_cons_zero, List.getD_cons_succ, Nat.zero_add, Nat.reduceAdd, Nat.reduceLT, if_true, ite_true]
        refine wp_aload_n 58 d_TownText_takePaces_57 rfl rfl ?_
        refine wp_getfield 61 9 0 d_TownText_takePaces_58 rfl fl_TownText_15 rfl rfl ?_
        refine wp_iconst 62 0 d_TownText_takePaces_61 rfl (by decide) ?_
        refine wp_bipush 64 99 d_TownText_takePaces_62 rfl (by decide) ?_
        refine ws_V2 (b' := 0) 67 M_Text_takeNumber 3 [1, 2, 3, 4, 5, 6] ((hX tby tco (K.ki) (K.st) (K.va) tfe tle (nI K.nT) (nI (cNx K s).a) (K.ki (cNx K s).a) (vlT (K.ki (cNx K s).a) (K.va (cNx K s).a)) (woT (K.ki (cNx K s).a) (K.va (cNx K s).a)) ((cNx K s).tk) ((cNx K s).na) ((cNx K s).fk) ((cNx K s).fp))) d_TownText_takePaces_64 rfl mv_Text_takeNumber lk_TownText_66 rfl rfl rfl rfl rfl rfl rfl (eV_int _ _) (eV_int _ _) rfl ?_
        refine s_Text_takeNumber (cNx_lt ha) hK ?_
        refine sI ?_
        simp only [putH, rC, sg, eV, List.map_cons, List.map_nil, List.set_cons_zero, List.set_cons_succ, List.length_cons, List.length_nil, List.getD_cons_zero, List.getD_cons_succ, Nat.zero_add, Nat.reduceAdd, Nat.reduceLT, if_true, ite_true]
        (first | refine wp_ifP_ne 72 70 d_TownText_takePaces_67 rfl (by decide) (fun h67 => ?_) (fun h67 => ?_) | refine wp_if_ne 72 70 d_TownText_takePaces_67 rfl (by decide) (fun h67 => ?_) (fun h67 => ?_))
        · refine wp_iload_n 73 d_TownText_takePaces_72 rfl rfl ?_
          refine wp_aload_n 74 d_TownText_takePaces_73 rfl rfl ?_
          refine wp_alen_int 75 d_TownText_takePaces_74 rfl rfl ?_
          refine wp_N2 78 M_PM_within 1 d_TownText_takePaces_75 rfl ms_PM_within lk_TownText_131 rfl rfl ?_
          refine c_PM_within ?_
          refine kI ?_
          (first | refine wp_ifP_eq 107 81 d_TownText_takePaces_78 rfl (by decide) (fun h78 => ?_) (fun h78 => ?_) | refine wp_if_eq 107 81 d_TownText_takePaces_78 rfl (by decide) (fun h78 => ?_) (fun h78 => ?_))
          · exact absurd (inR_N hl (by omega)) h78
          · refine wp_aload_n 82 d_TownText_takePaces_81 rfl rfl ?_
            refine wp_iload_n 83 d_TownText_takePaces_82 rfl rfl ?_
            refine wp_iload 85 d_TownText_takePaces_83 rfl rfl ?_
            refine wp_if_eq 99 88 d_TownText_takePaces_85 rfl (by decide) (fun h85 => ?_) (fun h85 => ?_)
            · exact absurd h85 (by decide)
            · refine wp_aload_n 89 d_TownText_takePaces_88 rfl rfl ?_
              refine wp_getfield 92 9 0 d_TownText_takePaces_89 rfl fl_TownText_15 rfl rfl ?_
              refine wp_getfield 95 7 12 d_TownText_takePaces_92 rfl fl_TownText_70 rfl rfl ?_
              refine wp_ineg 96 d_TownText_takePaces_95 rfl ?_
              refine wp_goto 106 d_TownText_takePaces_96 (by decide) ?_
              refine wp_iastoreN 107 d_TownText_takePaces_106 rfl rfl rfl hl ?_
              dsimp only [List.set]
              refine wp_iconst 108 1 d_TownText_takePaces_107 rfl (by decide) ?_
              refine wp_zreturn d_TownText_takePaces_108 rfl (by first | rfl | exact nbP _) ?_
              have e : (tPa K ab be s) = _ := ((if_pos (Or.inr h20)).trans (if_pos h67))
              rw [if_pos (show cWo K s = be from h40)] at e
              rw [e] at hq
              exact hq
        · refine wp_iconst 71 0 d_TownText_takePaces_70 rfl (by decide) ?_
          refine wp_zreturn d_TownText_takePaces_71 rfl (by first | rfl | exact nbP _) ?_
          have e : (tPa K ab be s) = _ := ((if_pos (Or.inr h20)).trans (if_neg h67))
          rw [e] at hq
          exact hq
    · refine wp_aload_n 24 d_TownText_takePaces_23 rfl rfl ?_
      refine wp_getfield 27 9 0 d_TownText_takePaces_24 rfl fl_TownText_15 rfl rfl ?_
      refine ws_V0 (b' := 0) 30 M_Text_cannotStand 2 [1, 2, 3, 4, 5, 6] ((hX tby tco (K.ki) (K.st) (K.va) tfe tle (nI K.nT) (nI s.a) (K.ki s.a) (vlT (K.ki s.a) (K.va s.a)) (woT (K.ki s.a) (K.va s.a)) (s.tk) (s.na) (s.fk) (s.fp))) d_TownText_takePaces_27 rfl mv_Text_cannotStand lk_TownText_41 rfl rfl rfl rfl rfl rfl rfl rfl ?_
      refine s_Text_cannotStand ha hK ?_
      refine sI ?_
      simp only [putH, rC, sg, eV, List.map_cons, List.map_nil, List.set_cons_zero, List.set_cons_succ, List.length_cons, List.length_nil, List.getD_cons_zero, List.getD_cons_succ, Nat.zero_add, Nat.reduceAdd, Nat.reduceLT, if_true, ite_true]
      refine wp_zreturn d_TownText_takePaces_30 rfl (by first | rfl | exact nbP _) ?_
      have e : (tPa K ab be s) = _ := (if_neg (fun z => z.elim h8 h20))
      rw [e] at hq
      exact hq

set_option maxRecDepth 100000 in
set_option maxHeartbeats 4000000 in
theorem c_TownText_takeOdds {tfe tle : Int32} {tby : Nat → Int32} {tco : Nat → Int64} {K : TK} {s : CS} {t : TW} {x : Int32} (ha : s.a < K.nT) (hK : K.nT ≤ 901) (hq : Q (some (.int (bP ((tOd K s t x).1 = true)))) (hTX ((tOd K s t x).2.2.2) tby tco (K.ki) (K.st) (K.va) tfe tle (nI K.nT) (nI (tOd K s t x).2.1.a) (K.ki (tOd K s t x).2.1.a) (vlT (K.ki (tOd K s t x).2.1.a) (K.va (tOd K s t x).2.1.a)) (woT (K.ki (tOd K s t x).2.1.a) (K.va (tOd K s t x).2.1.a)) ((tOd K s t x).2.1.tk) ((tOd K s t x).2.1.na) ((tOd K s t x).2.1.fk) ((tOd K s t x).2.1.fp) ((tOd K s t x).2.2.1.pn) ((tOd K s t x).2.2.1.wn) ((tOd K s t x).2.2.1.fa) ((tOd K s t x).2.2.1.te) ((tOd K s t x).2.2.1.fr) ((tOd K s t x).2.2.1.to_) ((tOd K s t x).2.2.1.ea) ((tOd K s t x).2.2.1.no) (nI (tOd K s t x).2.2.1.nP) (nI (tOd K s t x).2.2.1.nW) (nI (tOd K s t x).2.2.1.nL) ((tOd K s t x).2.2.1.od) ((tOd K s t x).2.2.1.sk) ((tOd K s t x).2.2.1.sd) ((tOd K s t x).2.2.1.go))) : Call Γ M_TownText_takeOdds 4 0 0 [.ref 0] (hTX (x) tby tco (K.ki) (K.st) (K.va) tfe tle (nI K.nT) (nI s.a) (K.ki s.a) (vlT (K.ki s.a) (K.va s.a)) (woT (K.ki s.a) (K.va s.a)) (s.tk) (s.na) (s.fk) (s.fp) (t.pn) (t.wn) (t.fa) (t.te) (t.fr) (t.to_) (t.ea) (t.no) (nI t.nP) (nI t.nW) (nI t.nL) (t.od) (t.sk) (t.sd) (t.go)) Q := by
  refine call_intro (ls := [some (.ref 0)]) rfl rfl rfl ?_
  refine wp_aload_n 1 d_TownText_takeOdds_0 rfl rfl ?_
  refine wp_getfield 4 9 2 d_TownText_takeOdds_1 rfl fl_TownText_9 rfl rfl ?_
  refine wp_if_eq 16 7 d_TownText_takeOdds_4 rfl (by decide) (fun h4 => ?_) (fun h4 => ?_)
  · refine wp_aload_n 17 d_TownText_takeOdds_16 rfl rfl ?_
    refine wp_iconst 18 1 d_TownText_takeOdds_17 rfl (by decide) ?_
    refine wp_putfield 21 9 2 _ d_TownText_takeOdds_18 rfl fp_TownText_9 rfl rfl (fun _ => ⟨rfl, rfl⟩) ?_
    dsimp only [List.set]
    refine wp_aload_n 22 d_TownText_takeOdds_21 rfl rfl ?_
    refine wp_getfield 25 9 0 d_TownText_takeOdds_22 rfl fl_TownText_15 rfl rfl ?_
    refine ws_V0 (b' := 0) 28 M_Text_next 2 [1, 2, 3, 4, 5, 6] ((hX tby tco (K.ki) (K.st) (K.va) tfe tle (nI K.nT) (nI s.a) (K.ki s.a) (vlT (K.ki s.a) (K.va s.a)) (woT (K.ki s.a) (K.va s.a)) (s.tk) (s.na) (s.fk) (s.fp))) d_TownText_takeOdds_25 rfl mv_Text_next lk_TownText_63 rfl rfl rfl rfl rfl rfl rfl rfl ?_
    refine s_Text_next ha hK ?_
    refine sV ?_
    simp only [putH, rC, sg, eV, List.map_cons, List.map_nil, List.set_cons_zero, List.set_cons_succ, List.length_cons, List.length_nil, List.getD_cons_zero, List.getD_cons_succ, Nat.zero_add, Nat.reduceAdd, Nat.reduceLT, if_true, ite_true]
    refine wp_aload_n 29 d_TownText_takeOdds_28 rfl rfl ?_
    refine wp_getfield 32 9 0 d_TownText_takeOdds_29 rfl fl_TownText_15 rfl rfl ?_
    refine wp_iconst 33 0 d_TownText_takeOdds_32 rfl (by decide) ?_
    refine wp_bipush 35 16 d_TownText_takeOdds_33 rfl (by decide) ?_
    refine ws_V2 (b' := 0) 38 M_Text_takeNumber 3 [1, 2, 3, 4, 5, 6] ((hX tby tco (K.ki) (K.st) (K.va) tfe tle (nI K.nT) (nI (cNx K s).a) (K.ki (cNx K s).a) (vlT (K.ki (cNx K s).a) (K.va (cNx K s).a)) (woT (K.ki (cNx K s).a) (K.va (cNx K s).a)) ((cNx K s).tk) ((cNx K s).na) ((cNx K s).fk) ((cNx K s).fp))) d_TownText_takeOdds_35 rfl mv_Text_takeNumber lk_TownText_66 rfl rfl rfl rfl rfl rfl rfl (eV_int _ _) (eV_int _ _) rfl ?_
    refine s_Text_takeNumber (cNx_lt ha) hK ?_
    refine sI ?_
    simp only [putH, rC, sg, eV, List.map_cons, List.map_nil, List.set_cons_zero, List.set_cons_succ, List.length_cons, List.length_nil, List.getD_cons_zero, List.getD_cons_succ, Nat.zero_add, Nat.reduceAdd, Nat.reduceLT, if_true, ite_true]
    (first | refine wp_ifP_ne 43 41 d_TownText_takeOdds_38 rfl (by decide) (fun h38 => ?_) (fun h38 => ?_) | refine wp_if_ne 43 41 d_TownText_takeOdds_38 rfl (by decide) (fun h38 => ?_) (fun h38 => ?_))
    · refine wp_aload_n 44 d_TownText_takeOdds_43 rfl rfl ?_
      refine wp_getfield 47 9 1 d_TownText_takeOdds_44 rfl fl_TownText_19 rfl rfl ?_
      refine wp_aload_n 48 d_TownText_takeOdds_47 rfl rfl ?_
      refine wp_getfield 51 9 0 d_TownText_takeOdds_48 rfl fl_TownText_15 rfl rfl ?_
      refine wp_getfield 54 7 12 d_TownText_takeOdds_51 rfl fl_TownText_70 rfl rfl ?_
      refine wp_putfield 57 8 11 _ d_TownText_takeOdds_54 rfl fp_TownText_73 rfl rfl (okP_int _) ?_
      dsimp only [List.set]
      refine wp_iconst 58 1 d_TownText_takeOdds_57 rfl (by decide) ?_
      refine wp_zreturn d_TownText_takeOdds_58 rfl (by first | rfl | exact nbP _) ?_
      have e : (tOd K s t x) = _ := ((if_pos h4).trans (if_pos h38))
      rw [e] at hq
      exact hq
    · refine wp_iconst 42 0 d_TownText_takeOdds_41 rfl (by decide) ?_
      refine wp_zreturn d_TownText_takeOdds_42 rfl (by first | rfl | exact nbP _) ?_
      have e : (tOd K s t x) = _ := ((if_pos h4).trans (if_neg h38))
      rw [e] at hq
      exact hq
  · refine wp_aload_n 8 d_TownText_takeOdds_7 rfl rfl ?_
    refine wp_getfield 11 9 0 d_TownText_takeOdds_8 rfl fl_TownText_15 rfl rfl ?_
    refine wp_iconst 12 5 d_TownText_takeOdds_11 rfl (by decide) ?_
    refine ws_V1 (b' := 0) 15 M_Text_faultHere 1 [1, 2, 3, 4, 5, 6] ((hX tby tco (K.ki) (K.st) (K.va) tfe tle (nI K.nT) (nI s.a) (K.ki s.a) (vlT (K.ki s.a) (K.va s.a)) (woT (K.ki s.a) (K.va s.a)) (s.tk) (s.na) (s.fk) (s.fp))) d_TownText_takeOdds_12 rfl mv_Text_faultHere lk_TownText_60 rfl rfl rfl rfl rfl rfl rfl (eV_int _ _) rfl ?_
    refine s_Text_faultHere ha hK ?_
    refine sI ?_
    simp only [putH, rC, sg, eV, List.map_cons, List.map_nil, List.set_cons_zero, List.set_cons_succ, List.length_cons, List.length_nil, List.getD_cons_zero, List.getD_cons_succ, Nat.zero_add, Nat.reduceAdd, Nat.reduceLT, if_true, ite_true]
    refine wp_zreturn d_TownText_takeOdds_15 rfl (by first | rfl | exact nbP _) ?_
    have e : (tOd K s t x) = _ := (if_neg h4)
    rw [e] at hq
    exact hq

set_option maxRecDepth 100000 in
set_option maxHeartbeats 4000000 in
theorem c_TownText_takePlace {xod tfe tle : Int32} {tby : Nat → Int32} {tco : Nat → Int64} {K : TK} {s : CS} {t : TW} (ha : s.a < K.nT) (hK : K.nT ≤ 901) (hP : t.nP ≤ 7) (hW : t.nW ≤ 4) (hL : t.nL ≤ 12) (hq : Q (some (.int (bP ((tPl K s t).1 = true)))) (hTX (xod) tby tco (K.ki) (K.st) (K.va) tfe tle (nI K.nT) (nI (tPl K s t).2.1.a) (K.ki (tPl K s t).2.1.a) (vlT (K.ki (tPl K s t).2.1.a) (K.va (tPl K s t).2.1.a)) (woT (K.ki (tPl K s t).2.1.a) (K.va (tPl K s t).2.1.a)) ((tPl K s t).2.1.tk) ((tPl K s t).2.1.na) ((tPl K s t).2.1.fk) ((tPl K s t).2.1.fp) ((tPl K s t).2.2.pn) ((tPl K s t).2.2.wn) ((tPl K s t).2.2.fa) ((tPl K s t).2.2.te) ((tPl K s t).2.2.fr) ((tPl K s t).2.2.to_) ((tPl K s t).2.2.ea) ((tPl K s t).2.2.no) (nI (tPl K s t).2.2.nP) (nI (tPl K s t).2.2.nW) (nI (tPl K s t).2.2.nL) ((tPl K s t).2.2.od) ((tPl K s t).2.2.sk) ((tPl K s t).2.2.sd) ((tPl K s t).2.2.go))) : Call Γ M_TownText_takePlace 5 0 0 [.ref 0] (hTX (xod) tby tco (K.ki) (K.st) (K.va) tfe tle (nI K.nT) (nI s.a) (K.ki s.a) (vlT (K.ki s.a) (K.va s.a)) (woT (K.ki s.a) (K.va s.a)) (s.tk) (s.na) (s.fk) (s.fp) (t.pn) (t.wn) (t.fa) (t.te) (t.fr) (t.to_) (t.ea) (t.no) (nI t.nP) (nI t.nW) (nI t.nL) (t.od) (t.sk) (t.sd) (t.go)) Q := by
  refine call_intro (ls := [some (.ref 0)]) rfl rfl rfl ?_
  refine wp_aload_n 1 d_TownText_takePlace_0 rfl rfl ?_
  refine wp_getfield 4 9 1 d_TownText_takePlace_1 rfl fl_TownText_19 rfl rfl ?_
  refine wp_getfield 7 8 8 d_TownText_takePlace_4 rfl fl_TownText_76 rfl rfl ?_
  refine wp_bipush 9 7 d_TownText_takePlace_7 rfl (by decide) ?_
  refine wp_icmp_lt 22 12 d_TownText_takePlace_9 rfl (by decide) (fun h9 => ?_) (fun h9 => ?_)
  · refine wp_aload_n 23 d_TownText_takePlace_22 rfl rfl ?_
    refine wp_getfield 26 9 0 d_TownText_takePlace_23 rfl fl_TownText_15 rfl rfl ?_
    refine ws_V0 (b' := 0) 29 M_Text_next 2 [1, 2, 3, 4, 5, 6] ((hX tby tco (K.ki) (K.st) (K.va) tfe tle (nI K.nT) (nI s.a) (K.ki s.a) (vlT (K.ki s.a) (K.va s.a)) (woT (K.ki s.a) (K.va s.a)) (s.tk) (s.na) (s.fk) (s.fp))) d_TownText_takePlace_26 rfl mv_Text_next lk_TownText_63 rfl rfl rfl rfl rfl rfl rfl rfl ?_
    refine s_Text_next ha hK ?_
    refine sV ?_
    simp only [putH, rC, sg, eV, List.map_cons, List.map_nil, List.set_cons_zero, List.set_cons_succ, List.length_cons, List.length_nil, List.getD_cons_zero, List.getD_cons_succ, Nat.zero_add, Nat.reduceAdd, Nat.reduceLT, if_true, ite_true]
    refine wp_aload_n 30 d_TownText_takePlace_29 rfl rfl ?_
    refine wp_V0 33 M_TownText_takeNewName 4 d_TownText_takePlace_30 rfl mv_TownText_takeNewName lk_TownText_79 rfl rfl rfl rfl rfl ?_
    refine c_TownText_takeNewName (s := cNx K s) (cNx_lt ha) hK hP hW ?_
    refine kI ?_
    (first | refine wp_ifP_ne 38 36 d_TownText_takePlace_33 rfl (by decide) (fun h33 => ?_) (fun h33 => ?_) | refine wp_if_ne 38 36 d_TownText_takePlace_33 rfl (by decide) (fun h33 => ?_) (fun h33 => ?_))
    · refine wp_aload_n 39 d_TownText_takePlace_38 rfl rfl ?_
      refine wp_getfield 42 9 1 d_TownText_takePlace_39 rfl fl_TownText_19 rfl rfl ?_
      refine wp_aload_n 43 d_TownText_takePlace_42 rfl rfl ?_
      refine wp_getfield 46 9 0 d_TownText_takePlace_43 rfl fl_TownText_15 rfl rfl ?_
      refine wp_getfield 49 7 13 d_TownText_takePlace_46 rfl fl_TownText_82 rfl rfl ?_
      refine ws_V1 (b' := 0) 52 M_Town_addPlace 1 [7, 8, 9, 10, 11, 12, 13, 14, 15] ((hT _ _ _ _ _ _ _ _ _ _ _ _ _ _ _)) d_TownText_takePlace_49 rfl mv_Town_addPlace lk_TownText_86 rfl rfl rfl rfl rfl rfl rfl (eV_long _ _) rfl ?_
      refine c_Town_addPlace (nI_ltN (b := 7) h9 (by omega) (by omega)) ?_
      refine sI ?_
      simp only [putH, rC, sg, eV, List.map_cons, List.map_nil, List.set_cons_zero, List.set_cons_succ, List.length_cons, List.length_nil, List.getD_cons_zero, List.getD_cons_succ, Nat.zero_add, Nat.reduceAdd, Nat.reduceLT, if_true, ite_true]
      refine wp_pop 53 d_TownText_takePlace_52 rfl rfl ?_
      refine wp_iconst 54 1 d_TownText_takePlace_53 rfl (by decide) ?_
      refine wp_zreturn d_TownText_takePlace_54 rfl (by first | rfl | exact nbP _) ?_
      have e : (tPl K s t) = _ := ((if_pos (nI_ltN (b := 7) h9 (by omega) (by omega))).trans (if_pos h33))
      rw [e] at hq
      exact hq
    · refine wp_iconst 37 0 d_TownText_takePlace_36 rfl (by decide) ?_
      refine wp_zreturn d_TownText_takePlace_37 rfl (by first | rfl | exact nbP _) ?_
      have e : (tPl K s t) = _ := ((if_pos (nI_ltN (b := 7) h9 (by omega) (by omega))).trans (if_neg h33))
      rw [e] at hq
      exact hq
  · refine wp_aload_n 13 d_TownText_takePlace_12 rfl rfl ?_
    refine wp_getfield 16 9 0 d_TownText_takePlace_13 rfl fl_TownText_15 rfl rfl ?_
    refine wp_bipush 18 6 d_TownText_takePlace_16 rfl (by decide) ?_
    refine ws_V1 (b' := 0) 21 M_Text_faultHere 1 [1, 2, 3, 4, 5, 6] ((hX tby tco (K.ki) (K.st) (K.va) tfe tle (nI K.nT) (nI s.a) (K.ki s.a) (vlT (K.ki s.a) (K.va s.a)) (woT (K.ki s.a) (K.va s.a)) (s.tk) (s.na) (s.fk) (s.fp))) d_TownText_takePlace_18 rfl mv_Text_faultHere lk_TownText_60 rfl rfl rfl rfl rfl rfl rfl (eV_int _ _) rfl ?_
    refine s_Text_faultHere ha hK ?_
    refine sI ?_
    simp only [putH, rC, sg, eV, List.map_cons, List.map_nil, List.set_cons_zero, List.set_cons_succ, List.length_cons, List.length_nil, List.getD_cons_zero, List.getD_cons_succ, Nat.zero_add, Nat.reduceAdd, Nat.reduceLT, if_true, ite_true]
    refine wp_zreturn d_TownText_takePlace_21 rfl (by first | rfl | exact nbP _) ?_
    have e : (tPl K s t) = _ := (if_neg (Nat.not_lt.mpr (nI_nltN (b := 7) h9 (by omega) (by omega))))
    rw [e] at hq
    exact hq

set_option maxRecDepth 100000 in
set_option maxHeartbeats 4000000 in
theorem c_TownText_takeWalker {xod tfe tle : Int32} {tby : Nat → Int32} {tco : Nat → Int64} {K : TK} {s : CS} {t : TW} (ha : s.a < K.nT) (hK : K.nT ≤ 901) (hP : t.nP ≤ 7) (hW : t.nW ≤ 4) (hL : t.nL ≤ 12) (hq : Q (some (.int (bP ((tWk K s t).1 = true)))) (hTX (xod) tby tco (K.ki) (K.st) (K.va) tfe tle (nI K.nT) (nI (tWk K s t).2.1.a) (K.ki (tWk K s t).2.1.a) (vlT (K.ki (tWk K s t).2.1.a) (K.va (tWk K s t).2.1.a)) (woT (K.ki (tWk K s t).2.1.a) (K.va (tWk K s t).2.1.a)) ((tWk K s t).2.1.tk) ((tWk K s t).2.1.na) ((tWk K s t).2.1.fk) ((tWk K s t).2.1.fp) ((tWk K s t).2.2.pn) ((tWk K s t).2.2.wn) ((tWk K s t).2.2.fa) ((tWk K s t).2.2.te) ((tWk K s t).2.2.fr) ((tWk K s t).2.2.to_) ((tWk K s t).2.2.ea) ((tWk K s t).2.2.no) (nI (tWk K s t).2.2.nP) (nI (tWk K s t).2.2.nW) (nI (tWk K s t).2.2.nL) ((tWk K s t).2.2.od) ((tWk K s t).2.2.sk) ((tWk K s t).2.2.sd) ((tWk K s t).2.2.go))) : Call Γ M_TownText_takeWalker 5 0 0 [.ref 0] (hTX (xod) tby tco (K.ki) (K.st) (K.va) tfe tle (nI K.nT) (nI s.a) (K.ki s.a) (vlT (K.ki s.a) (K.va s.a)) (woT (K.ki s.a) (K.va s.a)) (s.tk) (s.na) (s.fk) (s.fp) (t.pn) (t.wn) (t.fa) (t.te) (t.fr) (t.to_) (t.ea) (t.no) (nI t.nP) (nI t.nW) (nI t.nL) (t.od) (t.sk) (t.sd) (t.go)) Q := by
  refine call_intro (ls := [some (.ref 0), none, none, none, none, none]) rfl rfl rfl ?_
  refine wp_aload_n 1 d_TownText_takeWalker_0 rfl rfl ?_
  refine wp_getfield 4 9 1 d_TownText_takeWalker_1 rfl fl_TownText_19 rfl rfl ?_
  refine wp_getfield 7 8 9 d_TownText_takeWalker_4 rfl fl_TownText_90 rfl rfl ?_
  refine wp_iconst 8 4 d_TownText_takeWalker_7 rfl (by decide) ?_
  refine wp_icmp_lt 21 11 d_TownText_takeWalker_8 rfl (by decide) (fun h8 => ?_) (fun h8 => ?_)
  · refine wp_aload_n 22 d_TownText_takeWalker_21 rfl rfl ?_
    refine wp_getfield 25 9 0 d_TownText_takeWalker_22 rfl fl_TownText_15 rfl rfl ?_
    refine ws_V0 (b' := 0) 28 M_Text_next 2 [1, 2, 3, 4, 5, 6] ((hX tby tco (K.ki) (K.st) (K.va) tfe tle (nI K.nT) (nI s.a) (K.ki s.a) (vlT (K.ki s.a) (K.va s.a)) (woT (K.ki s.a) (K.va s.a)) (s.tk) (s.na) (s.fk) (s.fp))) d_TownText_takeWalker_25 rfl mv_Text_next lk_TownText_63 rfl rfl rfl rfl rfl rfl rfl rfl ?_
    refine s_Text_next ha hK ?_
    refine sV ?_
    simp only [putH, rC, sg, eV, List.map_cons, List.map_nil, List.set_cons_zero, List.set_cons_succ, List.length_cons, List.length_nil, List.getD_cons_zero, List.getD_cons_succ, Nat.zero_add, Nat.reduceAdd, Nat.reduceLT, if_true, ite_true]
    refine wp_aload_n 29 d_TownText_takeWalker_28 rfl rfl ?_
    refine wp_V0 32 M_TownText_takeNewName 4 d_TownText_takeWalker_29 rfl mv_TownText_takeNewName lk_TownText_79 rfl rfl rfl rfl rfl ?_
    refine c_TownText_takeNewName (s := cNx K s) (cNx_lt ha) hK hP hW ?_
    refine kI ?_
    (first | refine wp_ifP_ne 37 35 d_TownText_takeWalker_32 rfl (by decide) (fun h32 => ?_) (fun h32 => ?_) | refine wp_if_ne 37 35 d_TownText_takeWalker_32 rfl (by decide) (fun h32 => ?_) (fun h32 => ?_))
    · refine wp_aload_n 38 d_TownText_takeWalker_37 rfl rfl ?_
      refine wp_getfield 41 9 0 d_TownText_takeWalker_38 rfl fl_TownText_15 rfl rfl ?_
      refine wp_getfield 44 7 13 d_TownText_takeWalker_41 rfl fl_TownText_82 rfl rfl ?_
      refine wp_lstore_1 45 d_TownText_takeWalker_44 rfl rfl rfl ?_
      refine wp_aload_n 46 d_TownText_takeWalker_45 rfl rfl ?_
      refine wp_iconst 47 3 d_TownText_takeWalker_46 rfl (by decide) ?_
      refine wp_iconst 48 0 d_TownText_takeWalker_47 rfl (by decide) ?_
      refine wp_iconst 49 3 d_TownText_takeWalker_48 rfl (by decide) ?_
      refine wp_iconst 50 0 d_TownText_takeWalker_49 rfl (by decide) ?_
      refine wp_V4 53 M_TownText_takeNumberBehind 4 d_TownText_takeWalker_50 rfl mv_TownText_takeNumberBehind lk_TownText_93 rfl rfl rfl rfl rfl ?_
      refine c_TownText_takeNumberBehind (s := (tNew K t (cNx K s)).2) (tNew_lt (cNx_lt ha)) hK ?_
      refine kI ?_
      refine wp_istore_3 54 d_TownText_takeWalker_53 rfl rfl rfl ?_
      refine wp_iload_n 55 d_TownText_takeWalker_54 rfl rfl ?_
      refine wp_iconst 56 (-1) d_TownText_takeWalker_55 rfl (by decide) ?_
      refine wp_icmp_ne 61 59 d_TownText_takeWalker_56 rfl (by decide) (fun h56 => ?_) (fun h56 => ?_)
      · refine wp_aload_n 62 d_TownText_takeWalker_61 rfl rfl ?_
        refine wp_getfield 65 9 0 d_TownText_takeWalker_62 rfl fl_TownText_15 rfl rfl ?_
        refine wp_getfield 68 7 11 d_TownText_takeWalker_65 rfl fl_TownText_44 rfl rfl ?_
        refine wp_iconst 69 4 d_TownText_takeWalker_68 rfl (by decide) ?_
        refine wp_icmp_ne 76 72 d_TownText_takeWalker_69 rfl (by decide) (fun h69 => ?_) (fun h69 => ?_)
        · refine wp_iconst 77 0 d_TownText_takeWalker_76 rfl (by decide) ?_
          refine wp_istore_4 79 d_TownText_takeWalker_77 rfl rfl rfl ?_
          refine wp_iload 81 d_TownText_takeWalker_79 rfl rfl ?_
          refine wp_if_eq 91 84 d_TownText_takeWalker_81 rfl (by decide) (fun h81 => ?_) (fun h81 => ?_)
          · refine wp_aload_n 92 d_TownText_takeWalker_91 rfl rfl ?_
            refine wp_iconst 93 5 d_TownText_takeWalker_92 rfl (by decide) ?_
            refine wp_iconst 94 1 d_TownText_takeWalker_93 rfl (by decide) ?_
            refine wp_iconst 95 3 d_TownText_takeWalker_94 rfl (by decide) ?_
            refine wp_iconst 96 1 d_TownText_takeWalker_95 rfl (by decide) ?_
            refine wp_V4 99 M_TownText_takeNumberBehind 4 d_TownText_takeWalker_96 rfl mv_TownText_takeNumberBehind lk_TownText_93 rfl rfl rfl rfl rfl ?_
            refine c_TownText_takeNumberBehind (s := (tNB K 3 0 3 0 (tNew K t (cNx K s)).2).2) (tNB_lt (tNew_lt (cNx_lt ha))) hK ?_
            refine kI ?_
            refine wp_istore_5 101 d_TownText_takeWalker_99 rfl rfl rfl ?_
            refine wp_iload 103 d_TownText_takeWalker_101 rfl rfl ?_
            refine wp_iconst 104 (-1) d_TownText_takeWalker_103 rfl (by decide) ?_
            refine wp_icmp_ne 109 107 d_TownText_takeWalker_104 rfl (by decide) (fun h104 => ?_) (fun h104 => ?_)
            · refine wp_aload_n 110 d_TownText_takeWalker_109 rfl rfl ?_
              refine wp_getfield 113 9 1 d_TownText_takeWalker_110 rfl fl_TownText_19 rfl rfl ?_
              refine wp_lload_n 114 d_TownText_takeWalker_113 rfl rfl ?_
              refine wp_iload_n 115 d_TownText_takeWalker_114 rfl rfl ?_
              refine wp_iload 117 d_TownText_takeWalker_115 rfl rfl ?_
              refine wp_iload 119 d_TownText_takeWalker_117 rfl rfl ?_
              refine wp_S3 122 M_Town_faultOf 1 d_TownText_takeWalker_119 rfl ms_Town_faultOf lk_TownText_97 rfl rfl ?_
              refine c_Town_faultOf ?_
              refine kI ?_
              refine ws_V2 (b' := 0) 125 M_Town_addWalker 1 [7, 8, 9, 10, 11, 12, 13, 14, 15] ((hT _ _ _ _ _ _ _ _ _ _ _ _ _ _ _)) d_TownText_takeWalker_122 rfl mv_Town_addWalker lk_TownText_101 rfl rfl rfl rfl rfl rfl rfl (eV_long _ _) (eV_int _ _) rfl ?_
              refine c_Town_addWalker (nI_ltN (b := 4) h8 (by omega) (by omega)) ?_
              refine sI ?_
              simp only [putH, rC, sg, eV, List.map_cons, List.map_nil, List.set_cons_zero, List.set_cons_succ, List.length_cons, List.length_nil, List.getD_cons_zero, List.getD_cons_succ, Nat.zero_add, Nat.reduceAdd, Nat.reduceLT, if_true, ite_true]
              refine wp_pop 126 d_TownText_takeWalker_125 rfl rfl ?_
              refine wp_iconst 127 1 d_TownText_takeWalker_126 rfl (by decide) ?_
              refine wp_zreturn d_TownText_takeWalker_127 rfl (by first | rfl | exact nbP _) ?_
              have e : (tWk K s t) = _ := (((((if_pos (nI_ltN (b := 4) h8 (by omega) (by omega))).trans (if_pos h32)).trans (if_neg h56)).trans (if_neg h69)).trans (if_neg h104))
              rw [e] at hq
              exact hq
            · refine wp_iconst 108 0 d_TownText_takeWalker_107 rfl (by decide) ?_
              refine wp_zreturn d_TownText_takeWalker_108 rfl (by first | rfl | exact nbP _) ?_
              have e : (tWk K s t) = _ := (((((if_pos (nI_ltN (b := 4) h8 (by omega) (by omega))).trans (if_pos h32)).trans (if_neg h56)).trans (if_neg h69)).trans (if_pos h104))
              rw [e] at hq
              exact hq
          · exact absurd rfl h81
        · refine wp_iconst 73 1 d_TownText_takeWalker_72 rfl (by decide) ?_
          refine wp_goto 77 d_TownText_takeWalker_73 (by decide) ?_
          refine wp_istore_4 79 d_TownText_takeWalker_77 rfl rfl rfl ?_
          refine wp_iload 81 d_TownText_takeWalker_79 rfl rfl ?_
          refine wp_if_eq 91 84 d_TownText_takeWalker_81 rfl (by decide) (fun h81 => ?_) (fun h81 => ?_)
          · exact absurd h81 (by decide)
          · refine wp_aload_n 85 d_TownText_takeWalker_84 rfl rfl ?_
            refine wp_getfield 88 9 0 d_TownText_takeWalker_85 rfl fl_TownText_15 rfl rfl ?_
            refine ws_V0 (b' := 0) 91 M_Text_next 2 [1, 2, 3, 4, 5, 6] ((hX tby tco (K.ki) (K.st) (K.va) tfe tle (nI K.nT) (nI (tNB K 3 0 3 0 (tNew K t (cNx K s)).2).2.a) (K.ki (tNB K 3 0 3 0 (tNew K t (cNx K s)).2).2.a) (vlT (K.ki (tNB K 3 0 3 0 (tNew K t (cNx K s)).2).2.a) (K.va (tNB K 3 0 3 0 (tNew K t (cNx K s)).2).2.a)) (woT (K.ki (tNB K 3 0 3 0 (tNew K t (cNx K s)).2).2.a) (K.va (tNB K 3 0 3 0 (tNew K t (cNx K s)).2).2.a)) ((tNB K 3 0 3 0 (tNew K t (cNx K s)).2).2.tk) ((tNB K 3 0 3 0 (tNew K t (cNx K s)).2).2.na) ((tNB K 3 0 3 0 (tNew K t (cNx K s)).2).2.fk) ((tNB K 3 0 3 0 (tNew K t (cNx K s)).2).2.fp))) d_TownText_takeWalker_88 rfl mv_Text_next lk_TownText_63 rfl rfl rfl rfl rfl rfl rfl rfl ?_
            refine s_Text_next (tNB_lt (tNew_lt (cNx_lt ha))) hK ?_
            refine sV ?_
            simp only [putH, rC, sg, eV, List.map_cons, List.map_nil, List.set_cons_zero, List.set_cons_succ, List.length_cons, List.length_nil, List.getD_cons_zero, List.getD_cons_succ, Nat.zero_add, Nat.reduceAdd, Nat.reduceLT, if_true, ite_true]
            refine wp_aload_n 92 d_TownText_takeWalker_91 rfl rfl ?_
            refine wp_iconst 93 5 d_TownText_takeWalker_92 rfl (by decide) ?_
            refine wp_iconst 94 1 d_TownText_takeWalker_93 rfl (by decide) ?_
            refine wp_iconst 95 3 d_TownText_takeWalker_94 rfl (by decide) ?_
            refine wp_iconst 96 1 d_TownText_takeWalker_95 rfl (by decide) ?_
            refine wp_V4 99 M_TownText_takeNumberBehind 4 d_TownText_takeWalker_96 rfl mv_TownText_takeNumberBehind lk_TownText_93 rfl rfl rfl rfl rfl ?_
            refine c_TownText_takeNumberBehind (s := (cNx K (tNB K 3 0 3 0 (tNew K t (cNx K s)).2).2)) (cNx_lt (tNB_lt (tNew_lt (cNx_lt ha)))) hK ?_
            refine kI ?_
            refine wp_istore_5 101 d_TownText_takeWalker_99 rfl rfl rfl ?_
            refine wp_iload 103 d_TownText_takeWalker_101 rfl rfl ?_
            refine wp_iconst 104 (-1) d_TownText_takeWalker_103 rfl (by decide) ?_
            refine wp_icmp_ne 109 107 d_TownText_takeWalker_104 rfl (by decide) (fun h104 => ?_) (fun h104 => ?_)
            · refine wp_aload_n 110 d_TownText_takeWalker_109 rfl rfl ?_
              refine wp_getfield 113 9 1 d_TownText_takeWalker_110 rfl fl_TownText_19 rfl rfl ?_
              refine wp_lload_n 114 d_TownText_takeWalker_113 rfl rfl ?_
              refine wp_iload_n 115 d_TownText_takeWalker_114 rfl rfl ?_
              refine wp_iload 117 d_TownText_takeWalker_115 rfl rfl ?_
              refine wp_iload 119 d_TownText_takeWalker_117 rfl rfl ?_
              refine wp_S3 122 M_Town_faultOf 1 d_TownText_takeWalker_119 rfl ms_Town_faultOf lk_TownText_97 rfl rfl ?_
              refine c_Town_faultOf ?_
              refine kI ?_
              refine ws_V2 (b' := 0) 125 M_Town_addWalker 1 [7, 8, 9, 10, 11, 12, 13, 14, 15] ((hT _ _ _ _ _ _ _ _ _ _ _ _ _ _ _)) d_TownText_takeWalker_122 rfl mv_Town_addWalker lk_TownText_101 rfl rfl rfl rfl rfl rfl rfl (eV_long _ _) (eV_int _ _) rfl ?_
              refine c_Town_addWalker (nI_ltN (b := 4) h8 (by omega) (by omega)) ?_
              refine sI ?_
              simp only [putH, rC, sg, eV, List.map_cons, List.map_nil, List.set_cons_zero, List.set_cons_succ, List.length_cons, List.length_nil, List.getD_cons_zero, List.getD_cons_succ, Nat.zero_add, Nat.reduceAdd, Nat.reduceLT, if_true, ite_true]
              refine wp_pop 126 d_TownText_takeWalker_125 rfl rfl ?_
              refine wp_iconst 127 1 d_TownText_takeWalker_126 rfl (by decide) ?_
              refine wp_zreturn d_TownText_takeWalker_127 rfl (by first | rfl | exact nbP _) ?_
              have e : (tWk K s t) = _ := (((((if_pos (nI_ltN (b := 4) h8 (by omega) (by omega))).trans (if_pos h32)).trans (if_neg h56)).trans (if_pos h69)).trans (if_neg h104))
              rw [e] at hq
              exact hq
            · refine wp_iconst 108 0 d_TownText_takeWalker_107 rfl (by decide) ?_
              refine wp_zreturn d_TownText_takeWalker_108 rfl (by first | rfl | exact nbP _) ?_
              have e : (tWk K s t) = _ := (((((if_pos (nI_ltN (b := 4) h8 (by omega) (by omega))).trans (if_pos h32)).trans (if_neg h56)).trans (if_pos h69)).trans (if_pos h104))
              rw [e] at hq
              exact hq
      · refine wp_iconst 60 0 d_TownText_takeWalker_59 rfl (by decide) ?_
        refine wp_zreturn d_TownText_takeWalker_60 rfl (by first | rfl | exact nbP _) ?_
        have e : (tWk K s t) = _ := (((if_pos (nI_ltN (b := 4) h8 (by omega) (by omega))).trans (if_pos h32)).trans (if_pos h56))
        rw [e] at hq
        exact hq
    · refine wp_iconst 36 0 d_TownText_takeWalker_35 rfl (by decide) ?_
      refine wp_zreturn d_TownText_takeWalker_36 rfl (by first | rfl | exact nbP _) ?_
      have e : (tWk K s t) = _ := ((if_pos (nI_ltN (b := 4) h8 (by omega) (by omega))).trans (if_neg h32))
      rw [e] at hq
      exact hq
  · refine wp_aload_n 12 d_TownText_takeWalker_11 rfl rfl ?_
    refine wp_getfield 15 9 0 d_TownText_takeWalker_12 rfl fl_TownText_15 rfl rfl ?_
    refine wp_bipush 17 6 d_TownText_takeWalker_15 rfl (by decide) ?_
    refine ws_V1 (b' := 0) 20 M_Text_faultHere 1 [1, 2, 3, 4, 5, 6] ((hX tby tco (K.ki) (K.st) (K.va) tfe tle (nI K.nT) (nI s.a) (K.ki s.a) (vlT (K.ki s.a) (K.va s.a)) (woT (K.ki s.a) (K.va s.a)) (s.tk) (s.na) (s.fk) (s.fp))) d_TownText_takeWalker_17 rfl mv_Text_faultHere lk_TownText_60 rfl rfl rfl rfl rfl rfl rfl (eV_int _ _) rfl ?_
    refine s_Text_faultHere ha hK ?_
    refine sI ?_
    simp only [putH, rC, sg, eV, List.map_cons, List.map_nil, List.set_cons_zero, List.set_cons_succ, List.length_cons, List.length_nil, List.getD_cons_zero, List.getD_cons_succ, Nat.zero_add, Nat.reduceAdd, Nat.reduceLT, if_true, ite_true]
    refine wp_zreturn d_TownText_takeWalker_20 rfl (by first | rfl | exact nbP _) ?_
    have e : (tWk K s t) = _ := (if_neg (Nat.not_lt.mpr (nI_nltN (b := 4) h8 (by omega) (by omega))))
    rw [e] at hq
    exact hq

set_option maxRecDepth 100000 in
set_option maxHeartbeats 4000000 in
theorem c_TownText_takeLeg {xod tfe tle : Int32} {tby : Nat → Int32} {tco : Nat → Int64} {K : TK} {s : CS} {t : TW} (ha : s.a < K.nT) (hK : K.nT ≤ 901) (hP : t.nP ≤ 7) (hW : t.nW ≤ 4) (hL : t.nL ≤ 12) (hq : Q (some (.int (bP ((tLg K s t).1 = true)))) (hTX (xod) tby tco (K.ki) (K.st) (K.va) tfe tle (nI K.nT) (nI (tLg K s t).2.1.a) (K.ki (tLg K s t).2.1.a) (vlT (K.ki (tLg K s t).2.1.a) (K.va (tLg K s t).2.1.a)) (woT (K.ki (tLg K s t).2.1.a) (K.va (tLg K s t).2.1.a)) ((tLg K s t).2.1.tk) ((tLg K s t).2.1.na) ((tLg K s t).2.1.fk) ((tLg K s t).2.1.fp) ((tLg K s t).2.2.pn) ((tLg K s t).2.2.wn) ((tLg K s t).2.2.fa) ((tLg K s t).2.2.te) ((tLg K s t).2.2.fr) ((tLg K s t).2.2.to_) ((tLg K s t).2.2.ea) ((tLg K s t).2.2.no) (nI (tLg K s t).2.2.nP) (nI (tLg K s t).2.2.nW) (nI (tLg K s t).2.2.nL) ((tLg K s t).2.2.od) ((tLg K s t).2.2.sk) ((tLg K s t).2.2.sd) ((tLg K s t).2.2.go))) : Call Γ M_TownText_takeLeg 5 0 0 [.ref 0] (hTX (xod) tby tco (K.ki) (K.st) (K.va) tfe tle (nI K.nT) (nI s.a) (K.ki s.a) (vlT (K.ki s.a) (K.va s.a)) (woT (K.ki s.a) (K.va s.a)) (s.tk) (s.na) (s.fk) (s.fp) (t.pn) (t.wn) (t.fa) (t.te) (t.fr) (t.to_) (t.ea) (t.no) (nI t.nP) (nI t.nW) (nI t.nL) (t.od) (t.sk) (t.sd) (t.go)) Q := by
  refine call_intro (ls := [some (.ref 0), none, none, none, none]) rfl rfl rfl ?_
  refine wp_aload_n 1 d_TownText_takeLeg_0 rfl rfl ?_
  refine wp_getfield 4 9 1 d_TownText_takeLeg_1 rfl fl_TownText_19 rfl rfl ?_
  refine wp_getfield 7 8 10 d_TownText_takeLeg_4 rfl fl_TownText_105 rfl rfl ?_
  refine wp_bipush 9 12 d_TownText_takeLeg_7 rfl (by decide) ?_
  refine wp_icmp_lt 22 12 d_TownText_takeLeg_9 rfl (by decide) (fun h9 => ?_) (fun h9 => ?_)
  · have hl : t.nL < 12 := nI_ltN (b := 12) h9 (by omega) (by omega)
    refine wp_aload_n 23 d_TownText_takeLeg_22 rfl rfl ?_
    refine wp_getfield 26 9 0 d_TownText_takeLeg_23 rfl fl_TownText_15 rfl rfl ?_
    refine ws_V0 (b' := 0) 29 M_Text_next 2 [1, 2, 3, 4, 5, 6] ((hX tby tco (K.ki) (K.st) (K.va) tfe tle (nI K.nT) (nI s.a) (K.ki s.a) (vlT (K.ki s.a) (K.va s.a)) (woT (K.ki s.a) (K.va s.a)) (s.tk) (s.na) (s.fk) (s.fp))) d_TownText_takeLeg_26 rfl mv_Text_next lk_TownText_63 rfl rfl rfl rfl rfl rfl rfl rfl ?_
    refine s_Text_next ha hK ?_
    refine sV ?_
    simp only [putH, rC, sg, eV, List.map_cons, List.map_nil, List.set_cons_zero, List.set_cons_succ, List.length_cons, List.length_nil, List.getD_cons_zero, List.getD_cons_succ, Nat.zero_add, Nat.reduceAdd, Nat.reduceLT, if_true, ite_true]
    refine wp_aload_n 30 d_TownText_takeLeg_29 rfl rfl ?_
    refine wp_V0 33 M_TownText_takeKnownWalker 4 d_TownText_takeLeg_30 rfl mv_TownText_takeKnownWalker lk_TownText_108 rfl rfl rfl rfl rfl ?_
    refine c_TownText_takeKnownWalker (s := (cNx K s)) (cNx_lt ha) hK hP hW ?_
    refine kI ?_
    refine wp_istore_1 34 d_TownText_takeLeg_33 rfl rfl rfl ?_
    refine wp_iload_n 35 d_TownText_takeLeg_34 rfl rfl ?_
    refine wp_iconst 36 (-1) d_TownText_takeLeg_35 rfl (by decide) ?_
    refine wp_icmp_ne 41 39 d_TownText_takeLeg_36 rfl (by decide) (fun h36 => ?_) (fun h36 => ?_)
    · refine wp_aload_n 42 d_TownText_takeLeg_41 rfl rfl ?_
      refine wp_iconst 43 (-1) d_TownText_takeLeg_42 rfl (by decide) ?_
      refine wp_V1 46 M_TownText_takeKnownPlace 4 d_TownText_takeLeg_43 rfl mv_TownText_takeKnownPlace lk_TownText_112 rfl rfl rfl rfl rfl ?_
      refine c_TownText_takeKnownPlace (s := (tKW K t (cNx K s)).2) (tKW_lt (cNx_lt ha)) hK hP hW ?_
      refine kI ?_
      refine wp_istore_2 47 d_TownText_takeLeg_46 rfl rfl rfl ?_
      refine wp_iload_n 48 d_TownText_takeLeg_47 rfl rfl ?_
      refine wp_iconst 49 (-1) d_TownText_takeLeg_48 rfl (by decide) ?_
      refine wp_icmp_ne 54 52 d_TownText_takeLeg_49 rfl (by decide) (fun h49 => ?_) (fun h49 => ?_)
      · refine wp_aload_n 55 d_TownText_takeLeg_54 rfl rfl ?_
        refine wp_iload_n 56 d_TownText_takeLeg_55 rfl rfl ?_
        refine wp_V1 59 M_TownText_takeKnownPlace 4 d_TownText_takeLeg_56 rfl mv_TownText_takeKnownPlace lk_TownText_112 rfl rfl rfl rfl rfl ?_
        refine c_TownText_takeKnownPlace (s := (tKP K t (-1) (tKW K t (cNx K s)).2).2) (tKP_lt (tKW_lt (cNx_lt ha))) hK hP hW ?_
        refine kI ?_
        refine wp_istore_3 60 d_TownText_takeLeg_59 rfl rfl rfl ?_
        refine wp_iload_n 61 d_TownText_takeLeg_60 rfl rfl ?_
        refine wp_iconst 62 (-1) d_TownText_takeLeg_61 rfl (by decide) ?_
        refine wp_icmp_ne 67 65 d_TownText_takeLeg_62 rfl (by decide) (fun h62 => ?_) (fun h62 => ?_)
        · refine wp_aload_n 68 d_TownText_takeLeg_67 rfl rfl ?_
          refine wp_getfield 71 9 1 d_TownText_takeLeg_68 rfl fl_TownText_19 rfl rfl ?_
          refine wp_iload_n 72 d_TownText_takeLeg_71 rfl rfl ?_
          refine wp_iload_n 73 d_TownText_takeLeg_72 rfl rfl ?_
          refine wp_iload_n 74 d_TownText_takeLeg_73 rfl rfl ?_
          refine ws_V3 (b' := 0) 77 M_Town_addLeg 1 [7, 8, 9, 10, 11, 12, 13, 14, 15] ((hT _ _ _ _ _ _ _ _ _ _ _ _ _ _ _)) d_TownText_takeLeg_74 rfl mv_Town_addLeg lk_TownText_116 rfl rfl rfl rfl rfl rfl rfl (eV_int _ _) (eV_int _ _) (eV_int _ _) rfl ?_
          refine c_Town_addLeg hl ?_
          refine sI ?_
          simp only [putH, rC, sg, eV, List.map_cons, List.map_nil, List.set_cons_zero, List.set_cons_succ, List.length_cons, List.length_nil, List.getD_cons_zero, List.getD_cons_succ, Nat.zero_add, Nat.reduceAdd, Nat.reduceLT, if_true, ite_true]
          refine wp_istore_4 79 d_TownText_takeLeg_77 rfl rfl rfl ?_
          refine wp_aload_n 80 d_TownText_takeLeg_79 rfl rfl ?_
          refine wp_aload_n 81 d_TownText_takeLeg_80 rfl rfl ?_
          refine wp_getfield 84 9 1 d_TownText_takeLeg_81 rfl fl_TownText_19 rfl rfl ?_
          refine wp_getfield 87 8 6 d_TownText_takeLeg_84 rfl fl_TownText_120 rfl rfl ?_
          refine wp_iload 89 d_TownText_takeLeg_87 rfl rfl ?_
          refine wp_bipush 91 7 d_TownText_takeLeg_89 rfl (by decide) ?_
          refine wp_bipush 93 8 d_TownText_takeLeg_91 rfl (by decide) ?_
          refine wp_V4 96 M_TownText_takePaces 4 d_TownText_takeLeg_93 rfl mv_TownText_takePaces lk_TownText_124 rfl rfl rfl rfl rfl ?_
          refine c_TownText_takePacesE (s := (tKP K t (tKP K t (-1) (tKW K t (cNx K s)).2).1 (tKP K t (-1) (tKW K t (cNx K s)).2).2).2) (t := (aL t (tKW K t (cNx K s)).1 (tKP K t (-1) (tKW K t (cNx K s)).2).1 (tKP K t (tKP K t (-1) (tKW K t (cNx K s)).2).1 (tKP K t (-1) (tKW K t (cNx K s)).2).2).1)) (tKP_lt (tKP_lt (tKW_lt (cNx_lt ha)))) hK hl ?_
          refine kI ?_
          (first | refine wp_ifP_eq 123 99 d_TownText_takeLeg_96 rfl (by decide) (fun h96 => ?_) (fun h96 => ?_) | refine wp_if_eq 123 99 d_TownText_takeLeg_96 rfl (by decide) (fun h96 => ?_) (fun h96 => ?_))
          · refine wp_iconst 124 0 d_TownText_takeLeg_123 rfl (by decide) ?_
            refine wp_zreturn d_TownText_takeLeg_124 rfl (by first | rfl | exact nbP _) ?_
            have e : (tLg K s t) = _ := (((((if_pos (nI_ltN (b := 12) h9 (by omega) (by omega))).trans (if_neg h36)).trans (if_neg h49)).trans (if_neg h62)).trans (if_neg h96))
            rw [e] at hq
            exact hq
          · refine wp_aload_n 100 d_TownText_takeLeg_99 rfl rfl ?_
            refine wp_aload_n 101 d_TownText_takeLeg_100 rfl rfl ?_
            refine wp_getfield 104 9 1 d_TownText_takeLeg_101 rfl fl_TownText_19 rfl rfl ?_
            refine wp_getfield 107 8 7 d_TownText_takeLeg_104 rfl fl_TownText_128 rfl rfl ?_
            refine wp_iload 109 d_TownText_takeLeg_107 rfl rfl ?_
            refine wp_bipush 111 9 d_TownText_takeLeg_109 rfl (by decide) ?_
            refine wp_bipush 113 10 d_TownText_takeLeg_111 rfl (by decide) ?_
            refine wp_V4 116 M_TownText_takePaces 4 d_TownText_takeLeg_113 rfl mv_TownText_takePaces lk_TownText_124 rfl rfl rfl rfl rfl ?_
            refine c_TownText_takePacesN (s := (tPa K 7 8 (tKP K t (tKP K t (-1) (tKW K t (cNx K s)).2).1 (tKP K t (-1) (tKW K t (cNx K s)).2).2).2).2.2) (t := tE (aL t (tKW K t (cNx K s)).1 (tKP K t (-1) (tKW K t (cNx K s)).2).1 (tKP K t (tKP K t (-1) (tKW K t (cNx K s)).2).1 (tKP K t (-1) (tKW K t (cNx K s)).2).2).1) t.nL (tPa K 7 8 (tKP K t (tKP K t (-1) (tKW K t (cNx K s)).2).1 (tKP K t (-1) (tKW K t (cNx K s)).2).2).2)) (tPa_lt (tKP_lt (tKP_lt (tKW_lt (cNx_lt ha))))) hK hl ?_
            refine kI ?_
            (first | refine wp_ifP_eq 123 119 d_TownText_takeLeg_116 rfl (by decide) (fun h116 => ?_) (fun h116 => ?_) | refine wp_if_eq 123 119 d_TownText_takeLeg_116 rfl (by decide) (fun h116 => ?_) (fun h116 => ?_))
            · refine wp_iconst 124 0 d_TownText_takeLeg_123 rfl (by decide) ?_
              refine wp_zreturn d_TownText_takeLeg_124 rfl (by first | rfl | exact nbP _) ?_
              have e : (tLg K s t) = _ := (((((if_pos (nI_ltN (b := 12) h9 (by omega) (by omega))).trans (if_neg h36)).trans (if_neg h49)).trans (if_neg h62)).trans (if_pos h96))
              rw [e] at hq
              exact bq0 h116 hq
            · refine wp_iconst 120 1 d_TownText_takeLeg_119 rfl (by decide) ?_
              refine wp_goto 124 d_TownText_takeLeg_120 (by decide) ?_
              refine wp_zreturn d_TownText_takeLeg_124 rfl (by first | rfl | exact nbP _) ?_
              have e : (tLg K s t) = _ := (((((if_pos (nI_ltN (b := 12) h9 (by omega) (by omega))).trans (if_neg h36)).trans (if_neg h49)).trans (if_neg h62)).trans (if_pos h96))
              rw [e] at hq
              exact bq1 h116 hq
        · refine wp_iconst 66 0 d_TownText_takeLeg_65 rfl (by decide) ?_
          refine wp_zreturn d_TownText_takeLeg_66 rfl (by first | rfl | exact nbP _) ?_
          have e : (tLg K s t) = _ := ((((if_pos (nI_ltN (b := 12) h9 (by omega) (by omega))).trans (if_neg h36)).trans (if_neg h49)).trans (if_pos h62))
          rw [e] at hq
          exact hq
      · refine wp_iconst 53 0 d_TownText_takeLeg_52 rfl (by decide) ?_
        refine wp_zreturn d_TownText_takeLeg_53 rfl (by first | rfl | exact nbP _) ?_
        have e : (tLg K s t) = _ := (((if_pos (nI_ltN (b := 12) h9 (by omega) (by omega))).trans (if_neg h36)).trans (if_pos h49))
        rw [e] at hq
        exact hq
    · refine wp_iconst 40 0 d_TownText_takeLeg_39 rfl (by decide) ?_
      refine wp_zreturn d_TownText_takeLeg_40 rfl (by first | rfl | exact nbP _) ?_
      have e : (tLg K s t) = _ := ((if_pos (nI_ltN (b := 12) h9 (by omega) (by omega))).trans (if_pos h36))
      rw [e] at hq
      exact hq
  · refine wp_aload_n 13 d_TownText_takeLeg_12 rfl rfl ?_
    refine wp_getfield 16 9 0 d_TownText_takeLeg_13 rfl fl_TownText_15 rfl rfl ?_
    refine wp_bipush 18 6 d_TownText_takeLeg_16 rfl (by decide) ?_
    refine ws_V1 (b' := 0) 21 M_Text_faultHere 1 [1, 2, 3, 4, 5, 6] ((hX tby tco (K.ki) (K.st) (K.va) tfe tle (nI K.nT) (nI s.a) (K.ki s.a) (vlT (K.ki s.a) (K.va s.a)) (woT (K.ki s.a) (K.va s.a)) (s.tk) (s.na) (s.fk) (s.fp))) d_TownText_takeLeg_18 rfl mv_Text_faultHere lk_TownText_60 rfl rfl rfl rfl rfl rfl rfl (eV_int _ _) rfl ?_
    refine s_Text_faultHere ha hK ?_
    refine sI ?_
    simp only [putH, rC, sg, eV, List.map_cons, List.map_nil, List.set_cons_zero, List.set_cons_succ, List.length_cons, List.length_nil, List.getD_cons_zero, List.getD_cons_succ, Nat.zero_add, Nat.reduceAdd, Nat.reduceLT, if_true, ite_true]
    refine wp_zreturn d_TownText_takeLeg_21 rfl (by first | rfl | exact nbP _) ?_
    have e : (tLg K s t) = _ := (if_neg (Nat.not_lt.mpr (nI_nltN (b := 12) h9 (by omega) (by omega))))
    rw [e] at hq
    exact hq

end T42
