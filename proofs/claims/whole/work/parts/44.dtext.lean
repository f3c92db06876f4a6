/-! ===== DaysText: rows ===== -/
abbrev hDX (xop : Nat → Int32) (xde : Int32) (tby : Nat → Int32) (tco : Nat → Int64) (tki : Nat → Int32) (tst : Nat → Int32) (tva : Nat → Int64) (tfe : Int32) (tle : Int32) (tto : Int32) (tat : Int32) (tkd : Int32) (tvl : Int32) (two : Int32) (ttk : Int32) (tna : Int64) (tfk : Int32) (tfp : Int32) (pn : Nat → Int64) (wn : Nat → Int64) (fa : Nat → Int32) (te : Nat → Int32) (fr : Nat → Int32) (to_ : Nat → Int32) (ea : Nat → Int32) (no : Nat → Int32) (pl : Int32) (wa : Int32) (le : Int32) (od : Int32) (sk : Int32) (sd : Int32) (go : Int32) (dk : Nat → Int32) (df : Nat → Int32) (ds : Nat → Int32) (dth : Int32) (dro : Int32) (dst : Int32) : LH := [cO 2 [.ref 2, .ref 8, .ref 17, .ref 1, .int xde], cI 3 xop, cO 7 [.ref 3, .ref 4, .ref 5, .ref 6, .ref 7, .int tfe, .int tle, .int tto, .int tat, .int tkd, .int tvl, .int two, .int ttk, .long tna, .int tfk, .int tfp], cB 900 tby, cL 24 tco, cI 901 tki, cI 901 tst, cL 901 tva, cO 8 [.ref 9, .ref 10, .ref 11, .ref 12, .ref 13, .ref 14, .ref 15, .ref 16, .int pl, .int wa, .int le, .int od, .int sk, .int sd, .int go], cL 7 pn, cL 4 wn, cI 4 fa, cI 12 te, cI 12 fr, cI 12 to_, cI 12 ea, cI 12 no, cO 1 [.ref 18, .ref 19, .ref 20, .int dth, .int dro, .int dst], cI 60 dk, cI 60 df, cI 60 ds]
def DY : Type := (Nat → Int32) × (Nat → Int32) × (Nat → Int32) × Int32 × Nat × Nat × Nat × (Nat → Int32)
def DY.dk (s : DY) : Nat → Int32 := s.1
def DY.df (s : DY) : Nat → Int32 := s.2.1
def DY.ds (s : DY) : Nat → Int32 := s.2.2.1
def DY.dth (s : DY) : Int32 := s.2.2.2.1
def DY.nR (s : DY) : Nat := s.2.2.2.2.1
def DY.nS (s : DY) : Nat := s.2.2.2.2.2.1
def DY.nD (s : DY) : Nat := s.2.2.2.2.2.2.1
def DY.op (s : DY) : Nat → Int32 := s.2.2.2.2.2.2.2
def DY.mk (dk : Nat → Int32) (df : Nat → Int32) (ds : Nat → Int32) (dth : Int32) (nR : Nat) (nS : Nat) (nD : Nat) (op : Nat → Int32) : DY := (dk, df, ds, dth, nR, nS, nD, op)
def dAdd (y : DY) (a b c : Int32) : DY := (DY.mk (upd y.dk y.nR a) (upd y.df y.nR b) (upd y.ds y.nR c) y.dth (y.nR + 1) y.nS y.nD y.op)
def dOp (y : DY) : DY := (DY.mk y.dk y.df y.ds y.dth y.nR y.nS (y.nD + 1) (upd y.op y.nD (nI y.nR)))
def dSp (y : DY) : DY := (DY.mk y.dk y.df y.ds y.dth y.nR (y.nS + 1) y.nD y.op)
def dCl (y : DY) : DY := (DY.mk y.dk y.df y.ds (1) (0) (0) y.nD y.op)
def dBk (y : DY) : DY := (DY.mk y.dk y.df (upd y.ds (y.op (y.nD - 1)).toNatClampNeg (nI y.nR)) y.dth y.nR y.nS (y.nD - 1) y.op)
def dNR (K : TK) (k x z : Int32) (s : CS) (y : DY) : Bool × CS × DY := if (cNu K x z s).1 = true then (true, (cNu K x z s).2, dAdd y k (cNu K x z s).2.tk 0) else (false, (cNu K x z s).2, y)
def dBe (K : TK) (t : TW) (s : CS) (y : DY) : Bool × CS × DY := if (cNm K s).1 = true then (if fWa t (cNm K s).2.na = -1 then (false, cFl K 3 (cNm K s).2, y) else if (cNu K 0 23 (cNx K (cNm K s).2)).1 = true then (true, (cNu K 0 23 (cNx K (cNm K s).2)).2, dAdd y 3 (fWa t (cNm K s).2.na) (cNu K 0 23 (cNx K (cNm K s).2)).2.tk) else (false, (cNu K 0 23 (cNx K (cNm K s).2)).2, y)) else (false, (cNm K s).2, y)
def dAt (K : TK) (t : TW) (s : CS) (y : DY) : Bool × CS × DY := if (cNm K s).1 = true then (if fPl t (cNm K s).2.na = -1 then (false, cFl K 3 (cNm K s).2, y) else (true, cNx K (cNm K s).2, dAdd y 8 (fPl t (cNm K s).2.na) 0)) else (false, (cNm K s).2, y)
def cCmp (K : TK) (s : CS) : Int32 := if K.ki s.a = 5 then (if cVl K s = 60 then 11 else if cVl K s = 61 then 13 else if cVl K s = 62 then 12 else -1) else -1
def dTe (K : TK) (t : TW) (s : CS) (y : DY) : Bool × CS × DY := if cWo K s = 17 then dAt K t (cNx K s) y else if cWo K s = 18 then (true, cNx K s, dAdd y 9 0 0) else if cWo K s = 19 then dNR K 10 0 11 (cNx K s) y else if cWo K s = 20 then (if cCmp K (cNx K s) = -1 then (false, cCs K (cNx K s), y) else dNR K (cCmp K (cNx K s)) 0 9999 (cNx K (cNx K s)) y) else (false, cCs K s, y)
abbrev isSt (w : Int32) : Prop := w = 11 ∨ w = 12 ∨ w = 13 ∨ w = 14 ∨ w = 15 ∨ w = 16 ∨ w = 21 ∨ w = 23
def dS2 (K : TK) (t : TW) (w : Int32) (s : CS) (y : DY) : Bool × CS × DY := if w = 11 then dNR K 0 0 11 s y else if w = 12 then dNR K 1 0 11 s y else if w = 13 then dNR K 2 0 11 s y else if w = 14 then dBe K t s y else if w = 15 then (true, s, dAdd y 4 0 0) else if w = 16 then dTe K t s (dOp y) else if w = 21 then dNR K 6 1 99 s (dOp y) else (true, s, dAdd y 5 0 0)
def dSt (K : TK) (t : TW) (s : CS) (y : DY) : Bool × CS × DY := if isSt (cWo K s) then (if y.nS < 30 then (if (cWo K s = 16 ∨ cWo K s = 21) ∧ 3 ≤ y.nD then (false, cFl K 7 s, y) else dS2 K t (cWo K s) (cNx K s) (dSp y)) else (false, cFl K 6 s, y)) else (false, cCs K s, y)
def dEn (K : TK) (s : CS) (y : DY) : Bool × CS × DY := if 0 < y.nD then (true, cNx K s, dAdd (dBk y) 7 0 (y.op (y.nD - 1))) else (false, cCs K s, y)
def dTu (K : TK) (t : TW) (s : CS) (y : DY) : Bool × CS × DY := if cWo K s = 22 then dEn K s y else dSt K t s y
def dpI (K : TK) (t : TW) : Nat → CS → DY → Bool × CS × DY
  | 0, s, y => (false, cCs K s, y)
  | r + 1, s, y => if K.ki s.a = 0 then (if y.nD = 0 then (true, s, y) else (false, cCs K s, y)) else if (dTu K t s y).1 = true then (if (cSg K 59 (dTu K t s y).2.1).1 = true then dpI K t r (cSg K 59 (dTu K t s y).2.1).2 (dTu K t s y).2.2 else (false, (cSg K 59 (dTu K t s y).2.1).2, (dTu K t s y).2.2)) else (false, (dTu K t s y).2.1, (dTu K t s y).2.2)
section T44
variable {Γ : Gm} {Q : Option Value → LH → Prop}
set_option maxRecDepth 100000 in
set_option maxHeartbeats 4000000 in
theorem c_DaysText_takeNumberRow {tby : Nat → Int32} {tco : Nat → Int64} {tfe tle : Int32} {K : TK} {s : CS} {t : TW} {y : DY} {k x z : Int32} (ha : s.a < K.nT) (hK : K.nT ≤ 901) (hR : y.nR < 60) (hq : Q (some (.int (bP ((dNR K k x z s y).1 = true)))) (hDX ((dNR K k x z s y).2.2.op) (nI (dNR K k x z s y).2.2.nD) tby tco (K.ki) (K.st) (K.va) tfe tle (nI K.nT) (nI (dNR K k x z s y).2.1.a) (K.ki (dNR K k x z s y).2.1.a) (vlT (K.ki (dNR K k x z s y).2.1.a) (K.va (dNR K k x z s y).2.1.a)) (woT (K.ki (dNR K k x z s y).2.1.a) (K.va (dNR K k x z s y).2.1.a)) ((dNR K k x z s y).2.1.tk) ((dNR K k x z s y).2.1.na) ((dNR K k x z s y).2.1.fk) ((dNR K k x z s y).2.1.fp) (t.pn) (t.wn) (t.fa) (t.te) (t.fr) (t.to_) (t.ea) (t.no) (nI t.nP) (nI t.nW) (nI t.nL) (t.od) (t.sk) (t.sd) (t.go) ((dNR K k x z s y).2.2.dk) ((dNR K k x z s y).2.2.df) ((dNR K k x z s y).2.2.ds) ((dNR K k x z s y).2.2.dth) (nI (dNR K k x z s y).2.2.nR) (nI (dNR K k x z s y).2.2.nS))) : Call Γ M_DaysText_takeNumberRow 4 0 0 [.ref 0, .int k, .int x, .int z] (hDX (y.op) (nI y.nD) tby tco (K.ki) (K.st) (K.va) tfe tle (nI K.nT) (nI s.a) (K.ki s.a) (vlT (K.ki s.a) (K.va s.a)) (woT (K.ki s.a) (K.va s.a)) (s.tk) (s.na) (s.fk) (s.fp) (t.pn) (t.wn) (t.fa) (t.te) (t.fr) (t.to_) (t.ea) (t.no) (nI t.nP) (nI t.nW) (nI t.nL) (t.od) (t.sk) (t.sd) (t.go) (y.dk) (y.df) (y.ds) (y.dth) (nI y.nR) (nI y.nS)) Q := by
  refine call_intro (ls := [some (.ref 0), some (.int k), some (.int x), some (.int z)]) rfl rfl rfl ?_
  refine wp_aload_n 1 d_DaysText_takeNumberRow_0 rfl rfl ?_
  refine wp_getfield 4 2 0 d_DaysText_takeNumberRow_1 rfl fl_DaysText_21 rfl rfl ?_
  refine wp_iload_n 5 d_DaysText_takeNumberRow_4 rfl rfl ?_
  refine wp_iload_n 6 d_DaysText_takeNumberRow_5 rfl rfl ?_
  refine ws_V2 (b' := 0) 9 M_Text_takeNumber 3 [2, 3, 4, 5, 6, 7] ((hX tby tco (K.ki) (K.st) (K.va) tfe tle (nI K.nT) (nI s.a) (K.ki s.a) (vlT (K.ki s.a) (K.va s.a)) (woT (K.ki s.a) (K.va s.a)) (s.tk) (s.na) (s.fk) (s.fp))) d_DaysText_takeNumberRow_6 rfl mv_Text_takeNumber lk_DaysText_101 rfl rfl rfl rfl rfl rfl rfl (eV_int _ _) (eV_int _ _) rfl ?_
  refine s_Text_takeNumber ha hK ?_
  refine sI ?_
  simp only [putH, rC, sg, eV, List.map_cons, List.map_nil, List.set_cons_zero, List.set_cons_succ, List.length_cons, List.length_nil, List.getD_cons_zero, List.getD_cons_succ, Nat.zero_add, Nat.reduceAdd, Nat.reduceLT, if_true, ite_true]
  (first | refine wp_ifP_ne 14 12 d_DaysText_takeNumberRow_9 rfl (by decide) (fun h9 => ?_) (fun h9 => ?_) | refine wp_if_ne 14 12 d_DaysText_takeNumberRow_9 rfl (by decide) (fun h9 => ?_) (fun h9 => ?_))
  · refine wp_aload_n 15 d_DaysText_takeNumberRow_14 rfl rfl ?_
    refine wp_getfield 18 2 2 d_DaysText_takeNumberRow_15 rfl fl_DaysText_29 rfl rfl ?_
    refine wp_iload_n 19 d_DaysText_takeNumberRow_18 rfl rfl ?_
    refine wp_aload_n 20 d_DaysText_takeNumberRow_19 rfl rfl ?_
    refine wp_getfield 23 2 0 d_DaysText_takeNumberRow_20 rfl fl_DaysText_21 rfl rfl ?_
    refine wp_getfield 26 7 12 d_DaysText_takeNumberRow_23 rfl fl_DaysText_104 rfl rfl ?_
    refine wp_iconst 27 0 d_DaysText_takeNumberRow_26 rfl (by decide) ?_
    refine ws_V3 (b' := 0) 30 M_Days_addRow 1 [17, 18, 19, 20] ((hD _ _ _ _ _ _)) d_DaysText_takeNumberRow_27 rfl mv_Days_addRow lk_DaysText_68 rfl rfl rfl rfl rfl rfl rfl (eV_int _ _) (eV_int _ _) (eV_int _ _) rfl ?_
    refine c_Days_addRow hR ?_
    refine sV ?_
    simp only [putH, rC, sg, eV, List.map_cons, List.map_nil, List.set_cons_zero, List.set_cons_succ, List.length_cons, List.length_nil, List.getD_cons_zero, List.getD_cons_succ, Nat.zero_add, Nat.reduceAdd, Nat.reduceLT, if_true, ite_true]
    refine wp_iconst 31 1 d_DaysText_takeNumberRow_30 rfl (by decide) ?_
    refine wp_zreturn d_DaysText_takeNumberRow_31 rfl (by first | rfl | exact nbP _) ?_
    have e : (dNR K k x z s y) = _ := (if_pos h9)
    rw [e] at hq
    exact hq
  · refine wp_iconst 13 0 d_DaysText_takeNumberRow_12 rfl (by decide) ?_
    refine wp_zreturn d_DaysText_takeNumberRow_13 rfl (by first | rfl | exact nbP _) ?_
    have e : (dNR K k x z s y) = _ := (if_neg h9)
    rw [e] at hq
    exact hq

set_option maxRecDepth 100000 in
set_option maxHeartbeats 4000000 in
theorem c_DaysText_takeBelieve {tby : Nat → Int32} {tco : Nat → Int64} {tfe tle : Int32} {K : TK} {s : CS} {t : TW} {y : DY}  (ha : s.a < K.nT) (hK : K.nT ≤ 901) (hR : y.nR < 60) (hW : t.nW ≤ 4) (hq : Q (some (.int (bP ((dBe K t s y).1 = true)))) (hDX ((dBe K t s y).2.2.op) (nI (dBe K t s y).2.2.nD) tby tco (K.ki) (K.st) (K.va) tfe tle (nI K.nT) (nI (dBe K t s y).2.1.a) (K.ki (dBe K t s y).2.1.a) (vlT (K.ki (dBe K t s y).2.1.a) (K.va (dBe K t s y).2.1.a)) (woT (K.ki (dBe K t s y).2.1.a) (K.va (dBe K t s y).2.1.a)) ((dBe K t s y).2.1.tk) ((dBe K t s y).2.1.na) ((dBe K t s y).2.1.fk) ((dBe K t s y).2.1.fp) (t.pn) (t.wn) (t.fa) (t.te) (t.fr) (t.to_) (t.ea) (t.no) (nI t.nP) (nI t.nW) (nI t.nL) (t.od) (t.sk) (t.sd) (t.go) ((dBe K t s y).2.2.dk) ((dBe K t s y).2.2.df) ((dBe K t s y).2.2.ds) ((dBe K t s y).2.2.dth) (nI (dBe K t s y).2.2.nR) (nI (dBe K t s y).2.2.nS))) : Call Γ M_DaysText_takeBelieve 4 0 0 [.ref 0] (hDX (y.op) (nI y.nD) tby tco (K.ki) (K.st) (K.va) tfe tle (nI K.nT) (nI s.a) (K.ki s.a) (vlT (K.ki s.a) (K.va s.a)) (woT (K.ki s.a) (K.va s.a)) (s.tk) (s.na) (s.fk) (s.fp) (t.pn) (t.wn) (t.fa) (t.te) (t.fr) (t.to_) (t.ea) (t.no) (nI t.nP) (nI t.nW) (nI t.nL) (t.od) (t.sk) (t.sd) (t.go) (y.dk) (y.df) (y.ds) (y.dth) (nI y.nR) (nI y.nS)) Q := by
  refine call_intro (ls := [some (.ref 0), none]) rfl rfl rfl ?_
  refine wp_aload_n 1 d_DaysText_takeBelieve_0 rfl rfl ?_
  refine wp_getfield 4 2 0 d_DaysText_takeBelieve_1 rfl fl_DaysText_21 rfl rfl ?_
  refine ws_V0 (b' := 0) 7 M_Text_nameHere 3 [2, 3, 4, 5, 6, 7] ((hX tby tco (K.ki) (K.st) (K.va) tfe tle (nI K.nT) (nI s.a) (K.ki s.a) (vlT (K.ki s.a) (K.va s.a)) (woT (K.ki s.a) (K.va s.a)) (s.tk) (s.na) (s.fk) (s.fp))) d_DaysText_takeBelieve_4 rfl mv_Text_nameHere lk_DaysText_107 rfl rfl rfl rfl rfl rfl rfl rfl ?_
  refine s_Text_nameHere ha hK ?_
  refine sI ?_
  simp only [putH, rC, sg, eV, List.map_cons, List.map_nil, List.set_cons_zero, List.set_cons_succ, List.length_cons, List.length_nil, List.getD_cons_zero, List.getD_cons_succ, Nat.zero_add, Nat.reduceAdd, Nat.reduceLT, if_true, ite_true]
  (first | refine wp_ifP_ne 12 10 d_DaysText_takeBelieve_7 rfl (by decide) (fun h7 => ?_) (fun h7 => ?_) | refine wp_if_ne 12 10 d_DaysText_takeBelieve_7 rfl (by decide) (fun h7 => ?_) (fun h7 => ?_))
  · refine wp_aload_n 13 d_DaysText_takeBelieve_12 rfl rfl ?_
    refine wp_getfield 16 2 1 d_DaysText_takeBelieve_13 rfl fl_DaysText_25 rfl rfl ?_
    refine wp_aload_n 17 d_DaysText_takeBelieve_16 rfl rfl ?_
    refine wp_getfield 20 2 0 d_DaysText_takeBelieve_17 rfl fl_DaysText_21 rfl rfl ?_
    refine wp_getfield 23 7 13 d_DaysText_takeBelieve_20 rfl fl_DaysText_110 rfl rfl ?_
    refine ws_V1 (b' := 0) 26 M_Town_walkerNamed 1 [8, 9, 10, 11, 12, 13, 14, 15, 16] ((hT _ _ _ _ _ _ _ _ _ _ _ _ _ _ _)) d_DaysText_takeBelieve_23 rfl mv_Town_walkerNamed lk_DaysText_114 rfl rfl rfl rfl rfl rfl rfl (eV_long _ _) rfl ?_
    refine c_Town_walkerNamed hW ?_
    show Ksub _ _ _ _ _ _ _ _ _ _ _ (some (.int (fWa t (cNm K s).2.na))) _
    refine sIr rfl rfl ?_
    refine wp_istore_1 27 d_DaysText_takeBelieve_26 rfl rfl rfl ?_
    refine wp_iload_n 28 d_DaysText_takeBelieve_27 rfl rfl ?_
    refine wp_iconst 29 (-1) d_DaysText_takeBelieve_28 rfl (by decide) ?_
    refine wp_icmp_ne 41 32 d_DaysText_takeBelieve_29 rfl (by decide) (fun h29 => ?_) (fun h29 => ?_)
    · refine wp_aload_n 42 d_DaysText_takeBelieve_41 rfl rfl ?_
      refine wp_getfield 45 2 0 d_DaysText_takeBelieve_42 rfl fl_DaysText_21 rfl rfl ?_
      refine ws_V0 (b' := 0) 48 M_Text_next 2 [2, 3, 4, 5, 6, 7] ((hX tby tco (K.ki) (K.st) (K.va) tfe tle (nI K.nT) (nI (cNm K s).2.a) (K.ki (cNm K s).2.a) (vlT (K.ki (cNm K s).2.a) (K.va (cNm K s).2.a)) (woT (K.ki (cNm K s).2.a) (K.va (cNm K s).2.a)) ((cNm K s).2.tk) ((cNm K s).2.na) ((cNm K s).2.fk) ((cNm K s).2.fp))) d_DaysText_takeBelieve_45 rfl mv_Text_next lk_DaysText_72 rfl rfl rfl rfl rfl rfl rfl rfl ?_
      refine s_Text_next (cNm_lt ha) hK ?_
      refine sV ?_
      simp only [putH, rC, sg, eV, List.map_cons, List.map_nil, List.set_cons_zero, List.set_cons_succ, List.length_cons, List.length_nil, List.getD_cons_zero, List.getD_cons_succ, Nat.zero_add, Nat.reduceAdd, Nat.reduceLT, if_true, ite_true]
      refine wp_aload_n 49 d_DaysText_takeBelieve_48 rfl rfl ?_
      refine wp_getfield 52 2 0 d_DaysText_takeBelieve_49 rfl fl_DaysText_21 rfl rfl ?_
      refine wp_iconst 53 0 d_DaysText_takeBelieve_52 rfl (by decide) ?_
      refine wp_bipush 55 23 d_DaysText_takeBelieve_53 rfl (by decide) ?_
      refine ws_V2 (b' := 0) 58 M_Text_takeNumber 3 [2, 3, 4, 5, 6, 7] ((hX tby tco (K.ki) (K.st) (K.va) tfe tle (nI K.nT) (nI (cNx K (cNm K s).2).a) (K.ki (cNx K (cNm K s).2).a) (vlT (K.ki (cNx K (cNm K s).2).a) (K.va (cNx K (cNm K s).2).a)) (woT (K.ki (cNx K (cNm K s).2).a) (K.va (cNx K (cNm K s).2).a)) ((cNx K (cNm K s).2).tk) ((cNx K (cNm K s).2).na) ((cNx K (cNm K s).2).fk) ((cNx K (cNm K s).2).fp))) d_DaysText_takeBelieve_55 rfl mv_Text_takeNumber lk_DaysText_101 rfl rfl rfl rfl rfl rfl rfl (eV_int _ _) (eV_int _ _) rfl ?_
      refine s_Text_takeNumber (cNx_lt (cNm_lt ha)) hK ?_
      refine sI ?_
      simp only [putH, rC, sg, eV, List.map_cons, List.map_nil, List.set_cons_zero, List.set_cons_succ, List.length_cons, List.length_nil, List.getD_cons_zero, List.getD_cons_succ, Nat.zero_add, Nat.reduceAdd, Nat.reduceLT, if_true, ite_true]
      (first | refine wp_ifP_ne 63 61 d_DaysText_takeBelieve_58 rfl (by decide) (fun h58 => ?_) (fun h58 => ?_) | refine wp_if_ne 63 61 d_DaysText_takeBelieve_58 rfl (by decide) (fun h58 => ?_) (fun h58 => ?_))
      · refine wp_aload_n 64 d_DaysText_takeBelieve_63 rfl rfl ?_
        refine wp_getfield 67 2 2 d_DaysText_takeBelieve_64 rfl fl_DaysText_29 rfl rfl ?_
        refine wp_iconst 68 3 d_DaysText_takeBelieve_67 rfl (by decide) ?_
        refine wp_iload_n 69 d_DaysText_takeBelieve_68 rfl rfl ?_
        refine wp_aload_n 70 d_DaysText_takeBelieve_69 rfl rfl ?_
        refine wp_getfield 73 2 0 d_DaysText_takeBelieve_70 rfl fl_DaysText_21 rfl rfl ?_
        refine wp_getfield 76 7 12 d_DaysText_takeBelieve_73 rfl fl_DaysText_104 rfl rfl ?_
        refine ws_V3 (b' := 0) 79 M_Days_addRow 1 [17, 18, 19, 20] ((hD _ _ _ _ _ _)) d_DaysText_takeBelieve_76 rfl mv_Days_addRow lk_DaysText_68 rfl rfl rfl rfl rfl rfl rfl (eV_int _ _) (eV_int _ _) (eV_int _ _) rfl ?_
        refine c_Days_addRow hR ?_
        refine sV ?_
        simp only [putH, rC, sg, eV, List.map_cons, List.map_nil, List.set_cons_zero, List.set_cons_succ, List.length_cons, List.length_nil, List.getD_cons_zero, List.getD_cons_succ, Nat.zero_add, Nat.reduceAdd, Nat.reduceLT, if_true, ite_true]
        refine wp_iconst 80 1 d_DaysText_takeBelieve_79 rfl (by decide) ?_
        refine wp_zreturn d_DaysText_takeBelieve_80 rfl (by first | rfl | exact nbP _) ?_
        have e : (dBe K t s y) = _ := (((if_pos h7).trans (if_neg h29)).trans (if_pos h58))
        rw [e] at hq
        exact hq
      · refine wp_iconst 62 0 d_DaysText_takeBelieve_61 rfl (by decide) ?_
        refine wp_zreturn d_DaysText_takeBelieve_62 rfl (by first | rfl | exact nbP _) ?_
        have e : (dBe K t s y) = _ := (((if_pos h7).trans (if_neg h29)).trans (if_neg h58))
        rw [e] at hq
        exact hq
    · refine wp_aload_n 33 d_DaysText_takeBelieve_32 rfl rfl ?_
      refine wp_getfield 36 2 0 d_DaysText_takeBelieve_33 rfl fl_DaysText_21 rfl rfl ?_
      refine wp_iconst 37 3 d_DaysText_takeBelieve_36 rfl (by decide) ?_
      refine ws_V1 (b' := 0) 40 M_Text_faultHere 1 [2, 3, 4, 5, 6, 7] ((hX tby tco (K.ki) (K.st) (K.va) tfe tle (nI K.nT) (nI (cNm K s).2.a) (K.ki (cNm K s).2.a) (vlT (K.ki (cNm K s).2.a) (K.va (cNm K s).2.a)) (woT (K.ki (cNm K s).2.a) (K.va (cNm K s).2.a)) ((cNm K s).2.tk) ((cNm K s).2.na) ((cNm K s).2.fk) ((cNm K s).2.fp))) d_DaysText_takeBelieve_37 rfl mv_Text_faultHere lk_DaysText_81 rfl rfl rfl rfl rfl rfl rfl (eV_int _ _) rfl ?_
      refine s_Text_faultHere (cNm_lt ha) hK ?_
      refine sI ?_
      simp only [putH, rC, sg, eV, List.map_cons, List.map_nil, List.set_cons_zero, List.set_cons_succ, List.length_cons, List.length_nil, List.getD_cons_zero, List.getD_cons_succ, Nat.zero_add, Nat.reduceAdd, Nat.reduceLT, if_true, ite_true]
      refine wp_zreturn d_DaysText_takeBelieve_40 rfl (by first | rfl | exact nbP _) ?_
      have e : (dBe K t s y) = _ := ((if_pos h7).trans (if_pos h29))
      rw [e] at hq
      exact hq
  · refine wp_iconst 11 0 d_DaysText_takeBelieve_10 rfl (by decide) ?_
    refine wp_zreturn d_DaysText_takeBelieve_11 rfl (by first | rfl | exact nbP _) ?_
    have e : (dBe K t s y) = _ := (if_neg h7)
    rw [e] at hq
    exact hq

set_option maxRecDepth 100000 in
set_option maxHeartbeats 4000000 in
theorem c_DaysText_takeAt {tby : Nat → Int32} {tco : Nat → Int64} {tfe tle : Int32} {K : TK} {s : CS} {t : TW} {y : DY}  (ha : s.a < K.nT) (hK : K.nT ≤ 901) (hR : y.nR < 60) (hP : t.nP ≤ 7) (hq : Q (some (.int (bP ((dAt K t s y).1 = true)))) (hDX ((dAt K t s y).2.2.op) (nI (dAt K t s y).2.2.nD) tby tco (K.ki) (K.st) (K.va) tfe tle (nI K.nT) (nI (dAt K t s y).2.1.a) (K.ki (dAt K t s y).2.1.a) (vlT (K.ki (dAt K t s y).2.1.a) (K.va (dAt K t s y).2.1.a)) (woT (K.ki (dAt K t s y).2.1.a) (K.va (dAt K t s y).2.1.a)) ((dAt K t s y).2.1.tk) ((dAt K t s y).2.1.na) ((dAt K t s y).2.1.fk) ((dAt K t s y).2.1.fp) (t.pn) (t.wn) (t.fa) (t.te) (t.fr) (t.to_) (t.ea) (t.no) (nI t.nP) (nI t.nW) (nI t.nL) (t.od) (t.sk) (t.sd) (t.go) ((dAt K t s y).2.2.dk) ((dAt K t s y).2.2.df) ((dAt K t s y).2.2.ds) ((dAt K t s y).2.2.dth) (nI (dAt K t s y).2.2.nR) (nI (dAt K t s y).2.2.nS))) : Call Γ M_DaysText_takeAt 4 0 0 [.ref 0] (hDX (y.op) (nI y.nD) tby tco (K.ki) (K.st) (K.va) tfe tle (nI K.nT) (nI s.a) (K.ki s.a) (vlT (K.ki s.a) (K.va s.a)) (woT (K.ki s.a) (K.va s.a)) (s.tk) (s.na) (s.fk) (s.fp) (t.pn) (t.wn) (t.fa) (t.te) (t.fr) (t.to_) (t.ea) (t.no) (nI t.nP) (nI t.nW) (nI t.nL) (t.od) (t.sk) (t.sd) (t.go) (y.dk) (y.df) (y.ds) (y.dth) (nI y.nR) (nI y.nS)) Q := by
  refine call_intro (ls := [some (.ref 0), none]) rfl rfl rfl ?_
  refine wp_aload_n 1 d_DaysText_takeAt_0 rfl rfl ?_
  refine wp_getfield 4 2 0 d_DaysText_takeAt_1 rfl fl_DaysText_21 rfl rfl ?_
  refine ws_V0 (b' := 0) 7 M_Text_nameHere 3 [2, 3, 4, 5, 6, 7] ((hX tby tco (K.ki) (K.st) (K.va) tfe tle (nI K.nT) (nI s.a) (K.ki s.a) (vlT (K.ki s.a) (K.va s.a)) (woT (K.ki s.a) (K.va s.a)) (s.tk) (s.na) (s.fk) (s.fp))) d_DaysText_takeAt_4 rfl mv_Text_nameHere lk_DaysText_107 rfl rfl rfl rfl rfl rfl rfl rfl ?_
  refine s_Text_nameHere ha hK ?_
  refine sI ?_
  simp only [putH, rC, sg, eV, List.map_cons, List.map_nil, List.set_cons_zero, List.set_cons_succ, List.length_cons, List.length_nil, List.getD_cons_zero, List.getD_cons_succ, Nat.zero_add, Nat.reduceAdd, Nat.reduceLT, if_true, ite_true]
  (first | refine wp_ifP_ne 12 10 d_DaysText_takeAt_7 rfl (by decide) (fun h7 => ?_) (fun h7 => ?_) | refine wp_if_ne 12 10 d_DaysText_takeAt_7 rfl (by decide) (fun h7 => ?_) (fun h7 => ?_))
  · refine wp_aload_n 13 d_DaysText_takeAt_12 rfl rfl ?_
    refine wp_getfield 16 2 1 d_DaysText_takeAt_13 rfl fl_DaysText_25 rfl rfl ?_
    refine wp_aload_n 17 d_DaysText_takeAt_16 rfl rfl ?_
    refine wp_getfield 20 2 0 d_DaysText_takeAt_17 rfl fl_DaysText_21 rfl rfl ?_
    refine wp_getfield 23 7 13 d_DaysText_takeAt_20 rfl fl_DaysText_110 rfl rfl ?_
    refine ws_V1 (b' := 0) 26 M_Town_placeNamed 1 [8, 9, 10, 11, 12, 13, 14, 15, 16] ((hT _ _ _ _ _ _ _ _ _ _ _ _ _ _ _)) d_DaysText_takeAt_23 rfl mv_Town_placeNamed lk_DaysText_133 rfl rfl rfl rfl rfl rfl rfl (eV_long _ _) rfl ?_
    refine c_Town_placeNamed hP ?_
    show Ksub _ _ _ _ _ _ _ _ _ _ _ (some (.int (fPl t (cNm K s).2.na))) _
    refine sIr rfl rfl ?_
    refine wp_istore_1 27 d_DaysText_takeAt_26 rfl rfl rfl ?_
    refine wp_iload_n 28 d_DaysText_takeAt_27 rfl rfl ?_
    refine wp_iconst 29 (-1) d_DaysText_takeAt_28 rfl (by decide) ?_
    refine wp_icmp_ne 41 32 d_DaysText_takeAt_29 rfl (by decide) (fun h29 => ?_) (fun h29 => ?_)
    · refine wp_aload_n 42 d_DaysText_takeAt_41 rfl rfl ?_
      refine wp_getfield 45 2 0 d_DaysText_takeAt_42 rfl fl_DaysText_21 rfl rfl ?_
      refine ws_V0 (b' := 0) 48 M_Text_next 2 [2, 3, 4, 5, 6, 7] ((hX tby tco (K.ki) (K.st) (K.va) tfe tle (nI K.nT) (nI (cNm K s).2.a) (K.ki (cNm K s).2.a) (vlT (K.ki (cNm K s).2.a) (K.va (cNm K s).2.a)) (woT (K.ki (cNm K s).2.a) (K.va (cNm K s).2.a)) ((cNm K s).2.tk) ((cNm K s).2.na) ((cNm K s).2.fk) ((cNm K s).2.fp))) d_DaysText_takeAt_45 rfl mv_Text_next lk_DaysText_72 rfl rfl rfl rfl rfl rfl rfl rfl ?_
      refine s_Text_next (cNm_lt ha) hK ?_
      refine sV ?_
      simp only [putH, rC, sg, eV, List.map_cons, List.map_nil, List.set_cons_zero, List.set_cons_succ, List.length_cons, List.length_nil, List.getD_cons_zero, List.getD_cons_succ, Nat.zero_add, Nat.reduceAdd, Nat.reduceLT, if_true, ite_true]
      refine wp_aload_n 49 d_DaysText_takeAt_48 rfl rfl ?_
      refine wp_getfield 52 2 2 d_DaysText_takeAt_49 rfl fl_DaysText_29 rfl rfl ?_
      refine wp_bipush 54 8 d_DaysText_takeAt_52 rfl (by decide) ?_
      refine wp_iload_n 55 d_DaysText_takeAt_54 rfl rfl ?_
      refine wp_iconst 56 0 d_DaysText_takeAt_55 rfl (by decide) ?_
      refine ws_V3 (b' := 0) 59 M_Days_addRow 1 [17, 18, 19, 20] ((hD _ _ _ _ _ _)) d_DaysText_takeAt_56 rfl mv_Days_addRow lk_DaysText_68 rfl rfl rfl rfl rfl rfl rfl (eV_int _ _) (eV_int _ _) (eV_int _ _) rfl ?_
      refine c_Days_addRow hR ?_
      refine sV ?_
      simp only [putH, rC, sg, eV, List.map_cons, List.map_nil, List.set_cons_zero, List.set_cons_succ, List.length_cons, List.length_nil, List.getD_cons_zero, List.getD_cons_succ, Nat.zero_add, Nat.reduceAdd, Nat.reduceLT, if_true, ite_true]
      refine wp_iconst 60 1 d_DaysText_takeAt_59 rfl (by decide) ?_
      refine wp_zreturn d_DaysText_takeAt_60 rfl (by first | rfl | exact nbP _) ?_
      have e : (dAt K t s y) = _ := ((if_pos h7).trans (if_neg h29))
      rw [e] at hq
      exact hq
    · refine wp_aload_n 33 d_DaysText_takeAt_32 rfl rfl ?_
      refine wp_getfield 36 2 0 d_DaysText_takeAt_33 rfl fl_DaysText_21 rfl rfl ?_
      refine wp_iconst 37 3 d_DaysText_takeAt_36 rfl (by decide) ?_
      refine ws_V1 (b' := 0) 40 M_Text_faultHere 1 [2, 3, 4, 5, 6, 7] ((hX tby tco (K.ki) (K.st) (K.va) tfe tle (nI K.nT) (nI (cNm K s).2.a) (K.ki (cNm K s).2.a) (vlT (K.ki (cNm K s).2.a) (K.va (cNm K s).2.a)) (woT (K.ki (cNm K s).2.a) (K.va (cNm K s).2.a)) ((cNm K s).2.tk) ((cNm K s).2.na) ((cNm K s).2.fk) ((cNm K s).2.fp))) d_DaysText_takeAt_37 rfl mv_Text_faultHere lk_DaysText_81 rfl rfl rfl rfl rfl rfl rfl (eV_int _ _) rfl ?_
      refine s_Text_faultHere (cNm_lt ha) hK ?_
      refine sI ?_
      simp only [putH, rC, sg, eV, List.map_cons, List.map_nil, List.set_cons_zero, List.set_cons_succ, List.length_cons, List.length_nil, List.getD_cons_zero, List.getD_cons_succ, Nat.zero_add, Nat.reduceAdd, Nat.reduceLT, if_true, ite_true]
      refine wp_zreturn d_DaysText_takeAt_40 rfl (by first | rfl | exact nbP _) ?_
      have e : (dAt K t s y) = _ := ((if_pos h7).trans (if_pos h29))
      rw [e] at hq
      exact hq
  · refine wp_iconst 11 0 d_DaysText_takeAt_10 rfl (by decide) ?_
    refine wp_zreturn d_DaysText_takeAt_11 rfl (by first | rfl | exact nbP _) ?_
    have e : (dAt K t s y) = _ := (if_neg h7)
    rw [e] at hq
    exact hq

set_option maxRecDepth 100000 in
set_option maxHeartbeats 4000000 in
theorem c_DaysText_openRow {tby : Nat → Int32} {tco : Nat → Int64} {tfe tle : Int32} {K : TK} {s : CS} {t : TW} {y : DY} (hd3 : y.nD < 3) (hq : Q none (hDX ((dOp y).op) (nI (dOp y).nD) tby tco (K.ki) (K.st) (K.va) tfe tle (nI K.nT) (nI s.a) (K.ki s.a) (vlT (K.ki s.a) (K.va s.a)) (woT (K.ki s.a) (K.va s.a)) (s.tk) (s.na) (s.fk) (s.fp) (t.pn) (t.wn) (t.fa) (t.te) (t.fr) (t.to_) (t.ea) (t.no) (nI t.nP) (nI t.nW) (nI t.nL) (t.od) (t.sk) (t.sd) (t.go) ((dOp y).dk) ((dOp y).df) ((dOp y).ds) ((dOp y).dth) (nI (dOp y).nR) (nI (dOp y).nS))) : Call Γ M_DaysText_openRow 2 0 0 [.ref 0] (hDX (y.op) (nI y.nD) tby tco (K.ki) (K.st) (K.va) tfe tle (nI K.nT) (nI s.a) (K.ki s.a) (vlT (K.ki s.a) (K.va s.a)) (woT (K.ki s.a) (K.va s.a)) (s.tk) (s.na) (s.fk) (s.fp) (t.pn) (t.wn) (t.fa) (t.te) (t.fr) (t.to_) (t.ea) (t.no) (nI t.nP) (nI t.nW) (nI t.nL) (t.od) (t.sk) (t.sd) (t.go) (y.dk) (y.df) (y.ds) (y.dth) (nI y.nR) (nI y.nS)) Q := by
  refine call_intro (ls := [some (.ref 0)]) rfl rfl rfl ?_
  refine wp_aload_n 1 d_DaysText_openRow_0 rfl rfl ?_
  refine wp_getfield 4 2 4 d_DaysText_openRow_1 rfl fl_DaysText_17 rfl rfl ?_
  refine wp_iconst 5 3 d_DaysText_openRow_4 rfl (by decide) ?_
  refine wp_N2 8 M_PM_within 1 d_DaysText_openRow_5 rfl ms_PM_within lk_DaysText_97 rfl rfl ?_
  refine c_PM_within ?_
  refine kI ?_
  (first | refine wp_ifP_eq 37 11 d_DaysText_openRow_8 rfl (by decide) (fun h8 => ?_) (fun h8 => ?_) | refine wp_if_eq 37 11 d_DaysText_openRow_8 rfl (by decide) (fun h8 => ?_) (fun h8 => ?_))
  · exact absurd (inR_N (n := 3) hd3 (by omega)) h8
  · refine wp_aload_n 12 d_DaysText_openRow_11 rfl rfl ?_
    refine wp_getfield 15 2 3 d_DaysText_openRow_12 rfl fl_DaysText_11 rfl rfl ?_
    refine wp_aload_n 16 d_DaysText_openRow_15 rfl rfl ?_
    refine wp_getfield 19 2 4 d_DaysText_openRow_16 rfl fl_DaysText_17 rfl rfl ?_
    refine wp_aload_n 20 d_DaysText_openRow_19 rfl rfl ?_
    refine wp_getfield 23 2 2 d_DaysText_openRow_20 rfl fl_DaysText_29 rfl rfl ?_
    refine wp_getfield 26 1 4 d_DaysText_openRow_23 rfl fl_DaysText_65 rfl rfl ?_
    refine wp_iastoreN 27 d_DaysText_openRow_26 rfl rfl rfl hd3 ?_
    dsimp only [List.set]
    refine wp_aload_n 28 d_DaysText_openRow_27 rfl rfl ?_
    refine wp_dup 29 d_DaysText_openRow_28 rfl rfl ?_
    refine wp_getfield 32 2 4 d_DaysText_openRow_29 rfl fl_DaysText_17 rfl rfl ?_
    refine wp_iconst 33 1 d_DaysText_openRow_32 rfl (by decide) ?_
    refine wp_iadd 34 d_DaysText_openRow_33 rfl ?_
    rw [nI_1]
    refine wp_putfield 37 2 4 _ d_DaysText_openRow_34 rfl fp_DaysText_17 rfl rfl (okP_int _) ?_
    dsimp only [List.set]
    refine wp_return d_DaysText_openRow_37 rfl ?_
    exact hq

set_option maxRecDepth 100000 in
set_option maxHeartbeats 4000000 in
theorem c_DaysText_comparisonHere {tby : Nat → Int32} {tco : Nat → Int64} {tfe tle : Int32} {K : TK} {s : CS} {t : TW} {y : DY} (hq : Q (some (.int (cCmp K s))) (hDX (y.op) (nI y.nD) tby tco (K.ki) (K.st) (K.va) tfe tle (nI K.nT) (nI s.a) (K.ki s.a) (vlT (K.ki s.a) (K.va s.a)) (woT (K.ki s.a) (K.va s.a)) (s.tk) (s.na) (s.fk) (s.fp) (t.pn) (t.wn) (t.fa) (t.te) (t.fr) (t.to_) (t.ea) (t.no) (nI t.nP) (nI t.nW) (nI t.nL) (t.od) (t.sk) (t.sd) (t.go) (y.dk) (y.df) (y.ds) (y.dth) (nI y.nR) (nI y.nS))) : Call Γ M_DaysText_comparisonHere 1 0 0 [.ref 0] (hDX (y.op) (nI y.nD) tby tco (K.ki) (K.st) (K.va) tfe tle (nI K.nT) (nI s.a) (K.ki s.a) (vlT (K.ki s.a) (K.va s.a)) (woT (K.ki s.a) (K.va s.a)) (s.tk) (s.na) (s.fk) (s.fp) (t.pn) (t.wn) (t.fa) (t.te) (t.fr) (t.to_) (t.ea) (t.no) (nI t.nP) (nI t.nW) (nI t.nL) (t.od) (t.sk) (t.sd) (t.go) (y.dk) (y.df) (y.ds) (y.dth) (nI y.nR) (nI y.nS)) Q := by
  refine call_intro (ls := [some (.ref 0)]) rfl rfl rfl ?_
  refine wp_aload_n 1 d_DaysText_comparisonHere_0 rfl rfl ?_
  refine wp_getfield 4 2 0 d_DaysText_comparisonHere_1 rfl fl_DaysText_21 rfl rfl ?_
  refine wp_getfield 7 7 9 d_DaysText_comparisonHere_4 rfl fl_DaysText_127 rfl rfl ?_
  refine wp_iconst 8 5 d_DaysText_comparisonHere_7 rfl (by decide) ?_
  refine wp_icmp_eq 13 11 d_DaysText_comparisonHere_8 rfl (by decide) (fun h8 => ?_) (fun h8 => ?_)
  · refine wp_aload_n 14 d_DaysText_comparisonHere_13 rfl rfl ?_
    refine wp_getfield 17 2 0 d_DaysText_comparisonHere_14 rfl fl_DaysText_21 rfl rfl ?_
    refine wp_getfield 20 7 10 d_DaysText_comparisonHere_17 rfl fl_DaysText_130 rfl rfl ?_
    by_cases h20_0 : vlT (K.ki s.a) (K.va s.a) = 60
    · refine wp_tabIn (off := 28) 48 60 d_DaysText_comparisonHere_20 h20_0 (by decide) (by decide) (by decide) (by decide) ?_
      refine wp_bipush 50 11 d_DaysText_comparisonHere_48 rfl (by decide) ?_
      refine wp_ireturn d_DaysText_comparisonHere_50 rfl ?_
      have e : cCmp K s = _ := ((if_pos h8).trans (if_pos h20_0))
      rw [e] at hq
      exact hq
    by_cases h20_1 : vlT (K.ki s.a) (K.va s.a) = 61
    · refine wp_tabIn (off := 34) 54 61 d_DaysText_comparisonHere_20 h20_1 (by decide) (by decide) (by decide) (by decide) ?_
      refine wp_bipush 56 13 d_DaysText_comparisonHere_54 rfl (by decide) ?_
      refine wp_ireturn d_DaysText_comparisonHere_56 rfl ?_
      have e : cCmp K s = _ := (((if_pos h8).trans (if_neg h20_0)).trans (if_pos h20_1))
      rw [e] at hq
      exact hq
    by_cases h20_2 : vlT (K.ki s.a) (K.va s.a) = 62
    · refine wp_tabIn (off := 31) 51 62 d_DaysText_comparisonHere_20 h20_2 (by decide) (by decide) (by decide) (by decide) ?_
      refine wp_bipush 53 12 d_DaysText_comparisonHere_51 rfl (by decide) ?_
      refine wp_ireturn d_DaysText_comparisonHere_53 rfl ?_
      have e : cCmp K s = _ := ((((if_pos h8).trans (if_neg h20_0)).trans (if_neg h20_1)).trans (if_pos h20_2))
      rw [e] at hq
      exact hq
    refine wp_tabOut 57 d_DaysText_comparisonHere_20 (sw_outL 60 3 (by omega) (fun i hi => match i, hi with
        | 0, _ => h20_0
        | 1, _ => h20_1
        | 2, _ => h20_2
        | i + 3, hi => absurd hi (by omega))) (by decide) ?_
    refine wp_iconst 58 (-1) d_DaysText_comparisonHere_57 rfl (by decide) ?_
    refine wp_ireturn d_DaysText_comparisonHere_58 rfl ?_
    have e : cCmp K s = _ := ((((if_pos h8).trans (if_neg h20_0)).trans (if_neg h20_1)).trans (if_neg h20_2))
    rw [e] at hq
    exact hq
  · refine wp_iconst 12 (-1) d_DaysText_comparisonHere_11 rfl (by decide) ?_
    refine wp_ireturn d_DaysText_comparisonHere_12 rfl ?_
    have e : cCmp K s = _ := if_neg h8
    rw [e] at hq
    exact hq

set_option maxRecDepth 100000 in
set_option maxHeartbeats 4000000 in
theorem c_DaysText_isStep {w : Int32} {h : LH} (hq : Q (some (.int (bP (isSt w)))) h) : Call Γ M_DaysText_isStep 1 0 0 [.int w] h Q := by
  refine call_intro (ls := [some (.int w)]) rfl rfl rfl ?_
  refine wp_iload_n 1 d_DaysText_isStep_0 rfl rfl ?_
  by_cases h1_0 : w = 11
  · refine wp_tabIn (off := 67) 68 11 d_DaysText_isStep_1 h1_0 (by decide) (by decide) (by decide) (by decide) ?_
    refine wp_iconst 69 1 d_DaysText_isStep_68 rfl (by decide) ?_
    refine wp_zreturn d_DaysText_isStep_69 rfl (by first | rfl | exact nbP _) ?_
    exact bq1 (Or.inl h1_0) hq
  by_cases h1_1 : w = 12
  · refine wp_tabIn (off := 67) 68 12 d_DaysText_isStep_1 h1_1 (by decide) (by decide) (by decide) (by decide) ?_
    refine wp_iconst 69 1 d_DaysText_isStep_68 rfl (by decide) ?_
    refine wp_zreturn d_DaysText_isStep_69 rfl (by first | rfl | exact nbP _) ?_
    exact bq1 (Or.inr (Or.inl h1_1)) hq
  by_cases h1_2 : w = 13
  · refine wp_tabIn (off := 67) 68 13 d_DaysText_isStep_1 h1_2 (by decide) (by decide) (by decide) (by decide) ?_
    refine wp_iconst 69 1 d_DaysText_isStep_68 rfl (by decide) ?_
    refine wp_zreturn d_DaysText_isStep_69 rfl (by first | rfl | exact nbP _) ?_
    exact bq1 (Or.inr (Or.inr (Or.inl h1_2))) hq
  by_cases h1_3 : w = 14
  · refine wp_tabIn (off := 67) 68 14 d_DaysText_isStep_1 h1_3 (by decide) (by decide) (by decide) (by decide) ?_
    refine wp_iconst 69 1 d_DaysText_isStep_68 rfl (by decide) ?_
    refine wp_zreturn d_DaysText_isStep_69 rfl (by first | rfl | exact nbP _) ?_
    exact bq1 (Or.inr (Or.inr (Or.inr (Or.inl h1_3)))) hq
  by_cases h1_4 : w = 15
  · refine wp_tabIn (off := 67) 68 15 d_DaysText_isStep_1 h1_4 (by decide) (by decide) (by decide) (by decide) ?_
    refine wp_iconst 69 1 d_DaysText_isStep_68 rfl (by decide) ?_
    refine wp_zreturn d_DaysText_isStep_69 rfl (by first | rfl | exact nbP _) ?_
    exact bq1 (Or.inr (Or.inr (Or.inr (Or.inr (Or.inl h1_4))))) hq
  by_cases h1_5 : w = 16
  · refine wp_tabIn (off := 67) 68 16 d_DaysText_isStep_1 h1_5 (by decide) (by decide) (by decide) (by decide) ?_
    refine wp_iconst 69 1 d_DaysText_isStep_68 rfl (by decide) ?_
    refine wp_zreturn d_DaysText_isStep_69 rfl (by first | rfl | exact nbP _) ?_
    exact bq1 (Or.inr (Or.inr (Or.inr (Or.inr (Or.inr (Or.inl h1_5)))))) hq
  by_cases h1_6 : w = 17
  · refine wp_tabIn (off := 69) 70 17 d_DaysText_isStep_1 h1_6 (by decide) (by decide) (by decide) (by decide) ?_
    refine wp_iconst 71 0 d_DaysText_isStep_70 rfl (by decide) ?_
    refine wp_zreturn d_DaysText_isStep_71 rfl (by first | rfl | exact nbP _) ?_
    exact bq0 (by rw [h1_6]; decide) hq
  by_cases h1_7 : w = 18
  · refine wp_tabIn (off := 69) 70 18 d_DaysText_isStep_1 h1_7 (by decide) (by decide) (by decide) (by decide) ?_
    refine wp_iconst 71 0 d_DaysText_isStep_70 rfl (by decide) ?_
    refine wp_zreturn d_DaysText_isStep_71 rfl (by first | rfl | exact nbP _) ?_
    exact bq0 (by rw [h1_7]; decide) hq
  by_cases h1_8 : w = 19
  · refine wp_tabIn (off := 69) 70 19 d_DaysText_isStep_1 h1_8 (by decide) (by decide) (by decide) (by decide) ?_
    refine wp_iconst 71 0 d_DaysText_isStep_70 rfl (by decide) ?_
    refine wp_zreturn d_DaysText_isStep_71 rfl (by first | rfl | exact nbP _) ?_
    exact bq0 (by rw [h1_8]; decide) hq
  by_cases h1_9 : w = 20
  · refine wp_tabIn (off := 69) 70 20 d_DaysText_isStep_1 h1_9 (by decide) (by decide) (by decide) (by decide) ?_
    refine wp_iconst 71 0 d_DaysText_isStep_70 rfl (by decide) ?_
    refine wp_zreturn d_DaysText_isStep_71 rfl (by first | rfl | exact nbP _) ?_
    exact bq0 (by rw [h1_9]; decide) hq
  by_cases h1_10 : w = 21
  · refine wp_tabIn (off := 67) 68 21 d_DaysText_isStep_1 h1_10 (by decide) (by decide) (by decide) (by decide) ?_
    refine wp_iconst 69 1 d_DaysText_isStep_68 rfl (by decide) ?_
    refine wp_zreturn d_DaysText_isStep_69 rfl (by first | rfl | exact nbP _) ?_
    exact bq1 (Or.inr (Or.inr (Or.inr (Or.inr (Or.inr (Or.inr (Or.inl h1_10))))))) hq
  by_cases h1_11 : w = 22
  · refine wp_tabIn (off := 69) 70 22 d_DaysText_isStep_1 h1_11 (by decide) (by decide) (by decide) (by decide) ?_
    refine wp_iconst 71 0 d_DaysText_isStep_70 rfl (by decide) ?_
    refine wp_zreturn d_DaysText_isStep_71 rfl (by first | rfl | exact nbP _) ?_
    exact bq0 (by rw [h1_11]; decide) hq
  by_cases h1_12 : w = 23
  · refine wp_tabIn (off := 67) 68 23 d_DaysText_isStep_1 h1_12 (by decide) (by decide) (by decide) (by decide) ?_
    refine wp_iconst 69 1 d_DaysText_isStep_68 rfl (by decide) ?_
    refine wp_zreturn d_DaysText_isStep_69 rfl (by first | rfl | exact nbP _) ?_
    exact bq1 (Or.inr (Or.inr (Or.inr (Or.inr (Or.inr (Or.inr (Or.inr (h1_12)))))))) hq
  refine wp_tabOut 70 d_DaysText_isStep_1 (sw_outL 11 13 (by omega) (fun i hi => match i, hi with
      | 0, _ => h1_0
      | 1, _ => h1_1
      | 2, _ => h1_2
      | 3, _ => h1_3
      | 4, _ => h1_4
      | 5, _ => h1_5
      | 6, _ => h1_6
      | 7, _ => h1_7
      | 8, _ => h1_8
      | 9, _ => h1_9
      | 10, _ => h1_10
      | 11, _ => h1_11
      | 12, _ => h1_12
      | i + 13, hi => absurd hi (by omega))) (by decide) ?_
  refine wp_iconst 71 0 d_DaysText_isStep_70 rfl (by decide) ?_
  refine wp_zreturn d_DaysText_isStep_71 rfl (by first | rfl | exact nbP _) ?_
  exact bq0 (fun z => by rcases z with z | z | z | z | z | z | z | z <;> contradiction) hq

set_option maxRecDepth 100000 in
set_option maxHeartbeats 4000000 in
theorem c_DaysText_takeEnd {tby : Nat → Int32} {tco : Nat → Int64} {tfe tle : Int32} {K : TK} {s : CS} {t : TW} {y : DY}  (ha : s.a < K.nT) (hK : K.nT ≤ 901) (hR : 0 < y.nD → y.nR < 60) (hd3 : y.nD ≤ 3) (hop : ∀ j, vp_in (y.op j) 60) (hq : Q (some (.int (bP ((dEn K s y).1 = true)))) (hDX ((dEn K s y).2.2.op) (nI (dEn K s y).2.2.nD) tby tco (K.ki) (K.st) (K.va) tfe tle (nI K.nT) (nI (dEn K s y).2.1.a) (K.ki (dEn K s y).2.1.a) (vlT (K.ki (dEn K s y).2.1.a) (K.va (dEn K s y).2.1.a)) (woT (K.ki (dEn K s y).2.1.a) (K.va (dEn K s y).2.1.a)) ((dEn K s y).2.1.tk) ((dEn K s y).2.1.na) ((dEn K s y).2.1.fk) ((dEn K s y).2.1.fp) (t.pn) (t.wn) (t.fa) (t.te) (t.fr) (t.to_) (t.ea) (t.no) (nI t.nP) (nI t.nW) (nI t.nL) (t.od) (t.sk) (t.sd) (t.go) ((dEn K s y).2.2.dk) ((dEn K s y).2.2.df) ((dEn K s y).2.2.ds) ((dEn K s y).2.2.dth) (nI (dEn K s y).2.2.nR) (nI (dEn K s y).2.2.nS))) : Call Γ M_DaysText_takeEnd 3 0 0 [.ref 0] (hDX (y.op) (nI y.nD) tby tco (K.ki) (K.st) (K.va) tfe tle (nI K.nT) (nI s.a) (K.ki s.a) (vlT (K.ki s.a) (K.va s.a)) (woT (K.ki s.a) (K.va s.a)) (s.tk) (s.na) (s.fk) (s.fp) (t.pn) (t.wn) (t.fa) (t.te) (t.fr) (t.to_) (t.ea) (t.no) (nI t.nP) (nI t.nW) (nI t.nL) (t.od) (t.sk) (t.sd) (t.go) (y.dk) (y.df) (y.ds) (y.dth) (nI y.nR) (nI y.nS)) Q := by
  refine call_intro (ls := [some (.ref 0)]) rfl rfl rfl ?_
  refine wp_aload_n 1 d_DaysText_takeEnd_0 rfl rfl ?_
  refine wp_getfield 4 2 4 d_DaysText_takeEnd_1 rfl fl_DaysText_17 rfl rfl ?_
  refine wp_if_gt 15 7 d_DaysText_takeEnd_4 rfl (by decide) (fun h4 => ?_) (fun h4 => ?_)
  · have hd : 0 < y.nD := nI_ltN (a := 0) h4 (by omega) (by omega)
    refine wp_aload_n 16 d_DaysText_takeEnd_15 rfl rfl ?_
    refine wp_dup 17 d_DaysText_takeEnd_16 rfl rfl ?_
    refine wp_getfield 20 2 4 d_DaysText_takeEnd_17 rfl fl_DaysText_17 rfl rfl ?_
    refine wp_iconst 21 1 d_DaysText_takeEnd_20 rfl (by decide) ?_
    refine wp_isub 22 d_DaysText_takeEnd_21 rfl ?_
    rw [show nI y.nD - 1 = nI (y.nD - 1) from nI_subN (b := 1) (by omega)]
    refine wp_putfield 25 2 4 _ d_DaysText_takeEnd_22 rfl fp_DaysText_17 rfl rfl (okP_int _) ?_
    dsimp only [List.set]
    refine wp_aload_n 26 d_DaysText_takeEnd_25 rfl rfl ?_
    refine wp_getfield 29 2 2 d_DaysText_takeEnd_26 rfl fl_DaysText_29 rfl rfl ?_
    refine wp_getfield 32 1 2 d_DaysText_takeEnd_29 rfl fl_DaysText_62 rfl rfl ?_
    refine wp_aload_n 33 d_DaysText_takeEnd_32 rfl rfl ?_
    refine wp_getfield 36 2 3 d_DaysText_takeEnd_33 rfl fl_DaysText_11 rfl rfl ?_
    refine wp_aload_n 37 d_DaysText_takeEnd_36 rfl rfl ?_
    refine wp_getfield 40 2 4 d_DaysText_takeEnd_37 rfl fl_DaysText_17 rfl rfl ?_
    refine wp_ialoadN 41 d_DaysText_takeEnd_40 rfl rfl rfl (by omega) ?_
    refine wp_aload_n 42 d_DaysText_takeEnd_41 rfl rfl ?_
    refine wp_getfield 45 2 2 d_DaysText_takeEnd_42 rfl fl_DaysText_29 rfl rfl ?_
    refine wp_getfield 48 1 4 d_DaysText_takeEnd_45 rfl fl_DaysText_65 rfl rfl ?_
    refine wp_iastore 49 d_DaysText_takeEnd_48 rfl rfl (hop _) ?_
    dsimp only [List.set]
    refine wp_aload_n 50 d_DaysText_takeEnd_49 rfl rfl ?_
    refine wp_getfield 53 2 2 d_DaysText_takeEnd_50 rfl fl_DaysText_29 rfl rfl ?_
    refine wp_bipush 55 7 d_DaysText_takeEnd_53 rfl (by decide) ?_
    refine wp_iconst 56 0 d_DaysText_takeEnd_55 rfl (by decide) ?_
    refine wp_aload_n 57 d_DaysText_takeEnd_56 rfl rfl ?_
    refine wp_getfield 60 2 3 d_DaysText_takeEnd_57 rfl fl_DaysText_11 rfl rfl ?_
    refine wp_aload_n 61 d_DaysText_takeEnd_60 rfl rfl ?_
    refine wp_getfield 64 2 4 d_DaysText_takeEnd_61 rfl fl_DaysText_17 rfl rfl ?_
    refine wp_ialoadN 65 d_DaysText_takeEnd_64 rfl rfl rfl (by omega) ?_
    refine ws_V3 (b' := 0) 68 M_Days_addRow 1 [17, 18, 19, 20] ((hD _ _ _ _ _ _)) d_DaysText_takeEnd_65 rfl mv_Days_addRow lk_DaysText_68 rfl rfl rfl rfl rfl rfl rfl (eV_int _ _) (eV_int _ _) (eV_int _ _) rfl ?_
    refine c_Days_addRow (hR hd) ?_
    refine sV ?_
    simp only [putH, rC, sg, eV, List.map_cons, List.map_nil, List.set_cons_zero, List.set_cons_succ, List.length_cons, List.length_nil, List.getD_cons_zero, List.getD_cons_succ, Nat.zero_add, Nat.reduceAdd, Nat.reduceLT, if_true, ite_true]
    refine wp_aload_n 69 d_DaysText_takeEnd_68 rfl rfl ?_
    refine wp_getfield 72 2 0 d_DaysText_takeEnd_69 rfl fl_DaysText_21 rfl rfl ?_
    refine ws_V0 (b' := 0) 75 M_Text_next 2 [2, 3, 4, 5, 6, 7] ((hX tby tco (K.ki) (K.st) (K.va) tfe tle (nI K.nT) (nI s.a) (K.ki s.a) (vlT (K.ki s.a) (K.va s.a)) (woT (K.ki s.a) (K.va s.a)) (s.tk) (s.na) (s.fk) (s.fp))) d_DaysText_takeEnd_72 rfl mv_Text_next lk_DaysText_72 rfl rfl rfl rfl rfl rfl rfl rfl ?_
    refine s_Text_next ha hK ?_
    refine sV ?_
    simp only [putH, rC, sg, eV, List.map_cons, List.map_nil, List.set_cons_zero, List.set_cons_succ, List.length_cons, List.length_nil, List.getD_cons_zero, List.getD_cons_succ, Nat.zero_add, Nat.reduceAdd, Nat.reduceLT, if_true, ite_true]
    refine wp_iconst 76 1 d_DaysText_takeEnd_75 rfl (by decide) ?_
    refine wp_zreturn d_DaysText_takeEnd_76 rfl (by first | rfl | exact nbP _) ?_
    have e : (dEn K s y) = _ := (if_pos hd)
    rw [e] at hq
    exact hq
  · refine wp_aload_n 8 d_DaysText_takeEnd_7 rfl rfl ?_
    refine wp_getfield 11 2 0 d_DaysText_takeEnd_8 rfl fl_DaysText_21 rfl rfl ?_
    refine ws_V0 (b' := 0) 14 M_Text_cannotStand 2 [2, 3, 4, 5, 6, 7] ((hX tby tco (K.ki) (K.st) (K.va) tfe tle (nI K.nT) (nI s.a) (K.ki s.a) (vlT (K.ki s.a) (K.va s.a)) (woT (K.ki s.a) (K.va s.a)) (s.tk) (s.na) (s.fk) (s.fp))) d_DaysText_takeEnd_11 rfl mv_Text_cannotStand lk_DaysText_46 rfl rfl rfl rfl rfl rfl rfl rfl ?_
    refine s_Text_cannotStand ha hK ?_
    refine sI ?_
    simp only [putH, rC, sg, eV, List.map_cons, List.map_nil, List.set_cons_zero, List.set_cons_succ, List.length_cons, List.length_nil, List.getD_cons_zero, List.getD_cons_succ, Nat.zero_add, Nat.reduceAdd, Nat.reduceLT, if_true, ite_true]
    refine wp_zreturn d_DaysText_takeEnd_14 rfl (by first | rfl | exact nbP _) ?_
    have e : (dEn K s y) = _ := (if_neg (fun z => h4 ((nI_ltI (a := 0) (by omega) (by omega)).mpr z)))
    rw [e] at hq
    exact hq

end T44
