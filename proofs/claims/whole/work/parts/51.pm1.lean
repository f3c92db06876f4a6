/-! ===== the class: what holds of the records; contracts over records ===== -/
def tOK (t : TW) : Prop := t.nP ≤ 7 ∧ t.nW ≤ 4 ∧ t.nL ≤ 12 ∧ (∀ j, vp_in (t.te j) 4) ∧ (∀ j, vp_in (t.fr j) 7) ∧ ∀ j, vp_in (t.to_ j) 7
def cOK (c : CH) : Prop := ∀ j, vp_in (c.cla j) 12
def uOK (u : UT) : Prop := ∀ j, vp_in (u.cla j) 12
def lOK (l : LT) : Prop := ∀ j, vp_in (l.cla j) 12
def wOK (w : WT) : Prop := ∀ j, vp_in (w.wro j) 7
def dOK (d : DW) : Prop := d.nR ≤ 60 ∧ (∀ j, vp_in (d.ds j) 60) ∧ okP .boolean (.int d.dth)
theorem tOK.hP {t : TW} (h : tOK t) : t.nP ≤ 7 := h.1
theorem tOK.hW {t : TW} (h : tOK t) : t.nW ≤ 4 := h.2.1
theorem tOK.hL {t : TW} (h : tOK t) : t.nL ≤ 12 := h.2.2.1
theorem tOK.te {t : TW} (h : tOK t) : ∀ j, vp_in (t.te j) 4 := h.2.2.2.1
theorem tOK.fr {t : TW} (h : tOK t) : ∀ j, vp_in (t.fr j) 7 := h.2.2.2.2.1
theorem tOK.to_ {t : TW} (h : tOK t) : ∀ j, vp_in (t.to_ j) 7 := h.2.2.2.2.2
def tE_ (t : TW) : Nat → Int32 := mE t.ea t.no t.fa t.te
def tN_ (t : TW) : Nat → Int32 := mN t.ea t.no t.fa t.te
def tTh (t : TW) : Int32 := lTh (nI t.nL) t.sk
def tPo (t : TW) : TrS := pOf (tTh t) t.fr t.to_ t.nL t.nP
abbrev SO (c : CH) (u : UT) (w : WT) (l : LT) : Prop := cOK c ∧ uOK u ∧ wOK w ∧ lOK l
abbrev hCTr (c : CH) (t : TW) : LH := [cO 0 [.ref 1, .ref 2, .ref 3, .ref 4, .ref 5, .ref 6, .ref 7, .int c.cly, .int c.cpt], cI 12 c.cea, cI 12 c.cno, cI 7 c.cx, cI 7 c.cy, cI 7 c.cpo, cI 7 c.cla, cZ 7 c.cba, cO 8 [.ref 9, .ref 10, .ref 11, .ref 12, .ref 13, .ref 14, .ref 15, .ref 16, .int (nI t.nP), .int (nI t.nW), .int (nI t.nL), .int t.od, .int t.sk, .int t.sd, .int t.go], cL 7 t.pn, cL 4 t.wn, cI 4 t.fa, cI 12 t.te, cI 12 t.fr, cI 12 t.to_, cI 12 t.ea, cI 12 t.no]
abbrev hUTr (u : UT) (t : TW) : LH := [cO 3 [.ref 1, .ref 9, .ref 10, .ref 11, .ref 12, .ref 13, .int u.uos, .int u.uon, .int u.uot, .int u.uwa, .int u.uof, .int u.utf, .int u.uaf, .int u.uas], cO 0 [.ref 2, .ref 3, .ref 4, .ref 5, .ref 6, .ref 7, .ref 8, .int u.cly, .int u.cpt], cI 12 u.cea, cI 12 u.cno, cI 7 u.cx, cI 7 u.cy, cI 7 u.cpo, cI 7 u.cla, cZ 7 u.cba, cI 4032 u.usp, cI 1024 u.uke, cI 1024 u.uco, cI 24 u.uow, cI 24 u.utw, cO 8 [.ref 15, .ref 16, .ref 17, .ref 18, .ref 19, .ref 20, .ref 21, .ref 22, .int (nI t.nP), .int (nI t.nW), .int (nI t.nL), .int t.od, .int t.sk, .int t.sd, .int t.go], cL 7 t.pn, cL 4 t.wn, cI 4 t.fa, cI 12 t.te, cI 12 t.fr, cI 12 t.to_, cI 12 t.ea, cI 12 t.no]
abbrev hWTr (w : WT) (t : TW) : LH := [cO 6 [.ref 1, .ref 2, .ref 3, .int w.wpl, .int w.wgo, .int w.wya, .int w.wma], cI 49 w.wle, cI 7 w.wro, cI 7 w.wbe, cO 8 [.ref 5, .ref 6, .ref 7, .ref 8, .ref 9, .ref 10, .ref 11, .ref 12, .int (nI t.nP), .int (nI t.nW), .int (nI t.nL), .int t.od, .int t.sk, .int t.sd, .int t.go], cL 7 t.pn, cL 4 t.wn, cI 4 t.fa, cI 12 t.te, cI 12 t.fr, cI 12 t.to_, cI 12 t.ea, cI 12 t.no]
abbrev hGTr (g : GT) (t : TW) : LH := [cO 4 [.ref 1, .ref 2, .int g.gle, .int g.gst, .int g.gtu, .int g.gan], cI 4096 g.gta, cI 12 g.gen, cO 8 [.ref 4, .ref 5, .ref 6, .ref 7, .ref 8, .ref 9, .ref 10, .ref 11, .int (nI t.nP), .int (nI t.nW), .int (nI t.nL), .int t.od, .int t.sk, .int t.sd, .int t.go], cL 7 t.pn, cL 4 t.wn, cI 4 t.fa, cI 12 t.te, cI 12 t.fr, cI 12 t.to_, cI 12 t.ea, cI 12 t.no]
abbrev hLTDr (l : LT) (t : TW) (d : DW) : LH := [cO 5 [.ref 1, .ref 9, .ref 10, .int l.lst, .int l.ldr], cO 0 [.ref 2, .ref 3, .ref 4, .ref 5, .ref 6, .ref 7, .ref 8, .int l.cly, .int l.cpt], cI 12 l.cea, cI 12 l.cno, cI 7 l.cx, cI 7 l.cy, cI 7 l.cpo, cI 7 l.cla, cZ 7 l.cba, cI 5 l.lco, cI 60 l.lro, cO 8 [.ref 12, .ref 13, .ref 14, .ref 15, .ref 16, .ref 17, .ref 18, .ref 19, .int (nI t.nP), .int (nI t.nW), .int (nI t.nL), .int t.od, .int t.sk, .int t.sd, .int t.go], cL 7 t.pn, cL 4 t.wn, cI 4 t.fa, cI 12 t.te, cI 12 t.fr, cI 12 t.to_, cI 12 t.ea, cI 12 t.no, cO 1 [.ref 21, .ref 22, .ref 23, .int d.dth, .int (nI d.nR), .int (nI d.nS)], cI 60 d.dk, cI 60 d.df, cI 60 d.ds]
abbrev hGr (g : GT) : LH := [cO 4 [.ref 1, .ref 2, .int g.gle, .int g.gst, .int g.gtu, .int g.gan], cI 4096 g.gta, cI 12 g.gen]
abbrev hUr (u : UT) : LH := [cO 3 [.ref 1, .ref 9, .ref 10, .ref 11, .ref 12, .ref 13, .int u.uos, .int u.uon, .int u.uot, .int u.uwa, .int u.uof, .int u.utf, .int u.uaf, .int u.uas], cO 0 [.ref 2, .ref 3, .ref 4, .ref 5, .ref 6, .ref 7, .ref 8, .int u.cly, .int u.cpt], cI 12 u.cea, cI 12 u.cno, cI 7 u.cx, cI 7 u.cy, cI 7 u.cpo, cI 7 u.cla, cZ 7 u.cba, cI 4032 u.usp, cI 1024 u.uke, cI 1024 u.uco, cI 24 u.uow, cI 24 u.utw]
abbrev hCr (c : CH) : LH := [cO 0 [.ref 1, .ref 2, .ref 3, .ref 4, .ref 5, .ref 6, .ref 7, .int c.cly, .int c.cpt], cI 12 c.cea, cI 12 c.cno, cI 7 c.cx, cI 7 c.cy, cI 7 c.cpo, cI 7 c.cla, cZ 7 c.cba]
abbrev hTr (t : TW) : LH := [cO 8 [.ref 1, .ref 2, .ref 3, .ref 4, .ref 5, .ref 6, .ref 7, .ref 8, .int (nI t.nP), .int (nI t.nW), .int (nI t.nL), .int t.od, .int t.sk, .int t.sd, .int t.go], cL 7 t.pn, cL 4 t.wn, cI 4 t.fa, cI 12 t.te, cI 12 t.fr, cI 12 t.to_, cI 12 t.ea, cI 12 t.no]
abbrev hDr (d : DW) : LH := [cO 1 [.ref 1, .ref 2, .ref 3, .int d.dth, .int (nI d.nR), .int (nI d.nS)], cI 60 d.dk, cI 60 d.df, cI 60 d.ds]
abbrev hYr (y : YT) : LH := [cO 10 [.ref 1, .int y.yth, .int y.yso, .int (nI y.nM)], cL 60 y.yn]
abbrev hXr (x : XT) : LH := [cO 7 [.ref 1, .ref 2, .ref 3, .ref 4, .ref 5, .int (nI x.nF), .int x.le, .int x.to, .int x.at_, .int x.kd, .int x.vl, .int x.wo, .int x.tk, .long x.na, .int x.fk, .int x.fp], cB 900 x.by_, cL 24 x.co, cI 901 x.ki, cI 901 x.st, cL 901 x.va]
/-- what a drawn chart says of a town -/
def chT (t : TW) (c : CH) : Prop := chA (tE_ t) (tN_ t) (tTh t) t.fr t.to_ t.nL t.nP c.cea c.cno c.cx c.cy c.cpo ∧ c.cpt = nI (tPo t).2.2.2.2.1
section T51
variable {Γ : Gm} {Q : Option Value → LH → Prop}
theorem hEq {μ : MI} {d cb sb : Nat} {h : LH} (h2 : LH) {pc : Nat} {ls : Lo} {st : List Value} (e : h = h2) (k : WP Γ μ d cb sb h2 pc ls st Q) : WP Γ μ d cb sb h pc ls st Q := e ▸ k
theorem sIe {μ : MI} {d cb sb q : Nat} {h hl' : LH} (h2 : LH) {sl : List Nat} {ls : Lo} {st : List Value} {x : Int32} (e : putH (sg sl) h 0 hl' = h2) (k : WP Γ μ d cb sb h2 q ls (.int x :: st) Q) : Ksub Γ μ d cb sb q h sl ls st Q (some (.int x)) hl' := sI (e ▸ k)
theorem sLe {μ : MI} {d cb sb q : Nat} {h hl' : LH} (h2 : LH) {sl : List Nat} {ls : Lo} {st : List Value} {x : Int64} (e : putH (sg sl) h 0 hl' = h2) (k : WP Γ μ d cb sb h2 q ls (.long x :: st) Q) : Ksub Γ μ d cb sb q h sl ls st Q (some (.long x)) hl' := sL (e ▸ k)
theorem sVe {μ : MI} {d cb sb q : Nat} {h hl' : LH} (h2 : LH) {sl : List Nat} {ls : Lo} {st : List Value} (e : putH (sg sl) h 0 hl' = h2) (k : WP Γ μ d cb sb h2 q ls st Q) : Ksub Γ μ d cb sb q h sl ls st Q none hl' := sV (e ▸ k)
theorem trI_ly {th : Int32} {fr to_ : Nat → Int32} {nL nP : Nat} {po la ba : Nat → Int32} : trN nL (trI th fr to_ nL nP nP (tr0 po la ba)) := trN_I nP (fun j hj => absurd hj (Nat.not_lt_zero j))
theorem c_drawA {c : CH} {t : TW} (I : tOK t) (hc : cOK c) (hq : ∀ c' : CH, cOK c' → chT t c' → Q none (hCTr c' t)) : Call Γ M_Chart_draw 4 0 0 [.ref 0, .ref 8] (hCTr c t) Q := by
  refine c_Chart_draw I.hL I.hP I.te I.fr I.to_ hc ?_
  have e := pOf_eq (there := tTh t) (nL := t.nL) I.hP I.fr I.to_ c.cpo c.cla c.cba
  have hA := lay_chA (E := tE_ t) (N := tN_ t) (cx := c.cx) (cy := c.cy) (cea := mEf t.nL t.ea t.no t.fa t.te c.cea) (cno := mNf t.nL t.ea t.no t.fa t.te c.cno) I.hL I.hP I.fr I.to_ e trI_ly (fun j hj => ⟨if_pos hj, if_pos hj⟩)
  refine hq (CH.mk _ _ _ _ _ _ _ _ _) ?_ ⟨hA, ?_⟩
  · exact trI_la I.hL _ _ hc
  · exact congrArg (fun s : Nat × Nat × Int32 => nI s.2.1) e.2.2
def tOut (t : TW) : Int32 × Int32 := foF (tE_ t) (tN_ t) (tTh t) t.fr t.to_ t.nL t.nP
def tPk (t : TW) (set : Int32) : Int32 × Int32 := pkF set t.nW
def fs0 : FS := (fun _ => 0, fun _ => 0, 0, fun _ => 0, 0, 0)
def tFi (t : TW) (set : Int32) (s : FS) : FS := fiF t.fa t.te t.fr t.to_ t.ea t.no t.nL t.nP (tTh t) (tPk t set).1 (tPk t set).2 (if (tPk t set).1 = -1 then 1 else 24) (if (tPk t set).2 = -1 then 1 else 24) s
def uFs (u : UT) : FS := (fil 24 0 u.uow, fil 24 0 u.utw, 0, u.usp, u.uof, u.utf)
/-- what is known behind findFits -/
def uFit (t : TW) (set : Int32) (u u' : UT) : Prop := u'.usp = (tFi t set (uFs u)).2.2.2.1 ∧ u'.uow = (tFi t set (uFs u)).1 ∧ u'.utw = (tFi t set (uFs u)).2.1 ∧ u'.uon = (tPk t set).1 ∧ u'.uot = (tPk t set).2 ∧ u'.uwa = nI (tFi t set (uFs u)).2.2.1 ∧ u'.uof = (tFi t set (uFs u)).2.2.2.2.1 ∧ u'.utf = (tFi t set (uFs u)).2.2.2.2.2 ∧ (∀ j, j < 7 → u'.cpo j = (tPo t).1 j)
theorem c_findOutA {u : UT} {t : TW} (I : tOK t) (hc : uOK u) (hq : ∀ u' : UT, uOK u' → u'.uos = (tOut t).2 → Q none (hUTr u' t)) : Call Γ M_Doubts_findOut 5 0 0 [.ref 0, .ref 14] (hUTr u t) Q :=
  c_Doubts_findOut I.hL I.hP I.fr I.to_ I.te hc (fun cea cno cx cy cpo cla cba cly cpt h => hq (UT.mk cea cno cx cy cpo cla cba cly cpt u.usp u.uke u.uco u.uow u.utw (tOut t).2 u.uon u.uot u.uwa u.uof u.utf u.uaf u.uas) h rfl)
theorem c_findFitsA {u : UT} {t : TW} {set : Int32} (I : tOK t) (hc : uOK u) (hq : ∀ u' : UT, uOK u' → uFit t set u u' → Q none (hUTr u' t)) : Call Γ M_Doubts_findFits 5 0 0 [.ref 0, .ref 14, .int set] (hUTr u t) Q :=
  c_Doubts_findFits I.hL I.hP I.fr I.to_ I.hW I.te hc (fun cea cno cx cy cpo cla cba cly cpt h1 h2 => hq (UT.mk cea cno cx cy cpo cla cba cly cpt (tFi t set (uFs u)).2.2.2.1 u.uke u.uco (tFi t set (uFs u)).1 (tFi t set (uFs u)).2.1 u.uos (tPk t set).1 (tPk t set).2 (nI (tFi t set (uFs u)).2.2.1) (tFi t set (uFs u)).2.2.2.2.1 (tFi t set (uFs u)).2.2.2.2.2 u.uaf u.uas) h2 ⟨rfl, rfl, rfl, rfl, rfl, rfl, rfl, rfl, h1⟩)
def tLen (t : TW) (f : Nat → Int32) : Nat → Int32 := mAll t.nL (tTh t) t.fr t.to_ (yA t.ea t.no t.fa t.te) (fil 49 (-1) f)
def tWy (t : TW) (a b : Int32) (w : WT) : PS := wOn (tLen t w.wle) b t.nP 6 0 0 (bit a) (upd w.wro 0 a, w.wbe, -1, 0)
theorem c_findA {w : WT} {t : TW} {a b : Int32} (I : tOK t) (hc : wOK w) (ha : vp_in a 7) (hq : ∀ w' : WT, wOK w' → w'.wbe = (tWy t a b w).2.1 → w'.wya = (tWy t a b w).2.2.1 → w'.wma = (tWy t a b w).2.2.2 → Q none (hWTr w' t)) : Call Γ M_Paths_find 15 0 0 [.ref 0, .ref 4, .int a, .int b] (hWTr w t) Q := by
  refine c_Paths_find I.hL I.hP I.te I.fr I.to_ ha hc ?_
  refine hq (WT.mk _ _ _ _ _ _ _) ?_ rfl rfl rfl
  refine wOn_row I.hP 6 0 0 (bit a) _ ?_
  intro j
  show vp_in (upd w.wro 0 a j) 7
  unfold upd
  split
  · exact ha
  · exact hc j
def tGs (g : GT) (t : TW) (n : Int32) : GT := GT.mk (fil 4096 0 g.gta) (fun j => if j < t.nL then bit (t.fr j) ||| bit (t.to_ j) else g.gen j) (nI t.nL) (tTh t) n (bP (0 < nI t.nP))
def tLv (t : TW) (d : DW) (seed : Int32) (lco lro : Nat → Int32) : Int32 × LSt := rnF t.te t.fr t.to_ t.ea t.no t.nL t.nP t.nW t.od d.dk d.df d.ds d.nR 1000000 0 0 (t.fa, t.sk, t.sd, t.go, fil 5 0 lco, lro, seed)
def tLt (t : TW) (r : LSt) : TW := TW.mk t.pn t.wn r.1 t.te t.fr t.to_ t.ea t.no t.nP t.nW t.nL t.od r.2.1 r.2.2.1 r.2.2.2.1
theorem c_runA {l : LT} {t : TW} {d : DW} {seed : Int32} (I : tOK t) (J : dOK d) (hc : lOK l) (hq : ∀ l' : LT, lOK l' → l'.lco = (tLv t d seed l.lco l.lro).2.2.2.2.2.1 → l'.lro = (tLv t d seed l.lco l.lro).2.2.2.2.2.2.1 → l'.lst = (tLv t d seed l.lco l.lro).1 → Q none (hLTDr l' (tLt t (tLv t d seed l.lco l.lro).2) d)) : Call Γ M_Life_run 7 0 0 [.ref 0, .ref 11, .ref 20, .int seed] (hLTDr l t d) Q :=
  c_Life_run I.hL I.hP I.te I.fr I.to_ I.hW J.1 J.2.1 hc (fun cea cno cx cy cpo cla cba cly cpt h => hq (LT.mk cea cno cx cy cpo cla cba cly cpt (tLv t d seed l.lco l.lro).2.2.2.2.2.1 (tLv t d seed l.lco l.lro).2.2.2.2.2.2.1 (tLv t d seed l.lco l.lro).1 (tLv t d seed l.lco l.lro).2.2.2.2.2.2.2) h rfl rfl rfl)
end T51
