/-! ===== the cursor over the tokens; TownText: names, numbers ===== -/
def TK : Type := (Nat → Int32) × (Nat → Int32) × (Nat → Int64) × Nat
def TK.ki (s : TK) : Nat → Int32 := s.1
def TK.st (s : TK) : Nat → Int32 := s.2.1
def TK.va (s : TK) : Nat → Int64 := s.2.2.1
def TK.nT (s : TK) : Nat := s.2.2.2
def TK.mk (ki : Nat → Int32) (st : Nat → Int32) (va : Nat → Int64) (nT : Nat) : TK := (ki, st, va, nT)
def CS : Type := Nat × Int32 × Int64 × Int32 × Int32
def CS.a (s : CS) : Nat := s.1
def CS.tk (s : CS) : Int32 := s.2.1
def CS.na (s : CS) : Int64 := s.2.2.1
def CS.fk (s : CS) : Int32 := s.2.2.2.1
def CS.fp (s : CS) : Int32 := s.2.2.2.2
def CS.mk (a : Nat) (tk : Int32) (na : Int64) (fk : Int32) (fp : Int32) : CS := (a, tk, na, fk, fp)
def TW : Type := (Nat → Int64) × (Nat → Int64) × (Nat → Int32) × (Nat → Int32) × (Nat → Int32) × (Nat → Int32) × (Nat → Int32) × (Nat → Int32) × Nat × Nat × Nat × Int32 × Int32 × Int32 × Int32
def TW.pn (s : TW) : Nat → Int64 := s.1
def TW.wn (s : TW) : Nat → Int64 := s.2.1
def TW.fa (s : TW) : Nat → Int32 := s.2.2.1
def TW.te (s : TW) : Nat → Int32 := s.2.2.2.1
def TW.fr (s : TW) : Nat → Int32 := s.2.2.2.2.1
def TW.to_ (s : TW) : Nat → Int32 := s.2.2.2.2.2.1
def TW.ea (s : TW) : Nat → Int32 := s.2.2.2.2.2.2.1
def TW.no (s : TW) : Nat → Int32 := s.2.2.2.2.2.2.2.1
def TW.nP (s : TW) : Nat := s.2.2.2.2.2.2.2.2.1
def TW.nW (s : TW) : Nat := s.2.2.2.2.2.2.2.2.2.1
def TW.nL (s : TW) : Nat := s.2.2.2.2.2.2.2.2.2.2.1
def TW.od (s : TW) : Int32 := s.2.2.2.2.2.2.2.2.2.2.2.1
def TW.sk (s : TW) : Int32 := s.2.2.2.2.2.2.2.2.2.2.2.2.1
def TW.sd (s : TW) : Int32 := s.2.2.2.2.2.2.2.2.2.2.2.2.2.1
def TW.go (s : TW) : Int32 := s.2.2.2.2.2.2.2.2.2.2.2.2.2.2
def TW.mk (pn : Nat → Int64) (wn : Nat → Int64) (fa : Nat → Int32) (te : Nat → Int32) (fr : Nat → Int32) (to_ : Nat → Int32) (ea : Nat → Int32) (no : Nat → Int32) (nP : Nat) (nW : Nat) (nL : Nat) (od : Int32) (sk : Int32) (sd : Int32) (go : Int32) : TW := (pn, wn, fa, te, fr, to_, ea, no, nP, nW, nL, od, sk, sd, go)
def cNx (K : TK) (s : CS) : CS := (CS.mk (nx K.nT s.a) s.tk s.na s.fk s.fp)
def cFl (K : TK) (k : Int32) (s : CS) : CS := (CS.mk s.a s.tk s.na (k) (K.st s.a))
def cCs (K : TK) (s : CS) : CS := (CS.mk s.a s.tk s.na (csK (K.ki s.a)) (K.st s.a))
def cVl (K : TK) (s : CS) : Int32 := vlT (K.ki s.a) (K.va s.a)
def cWo (K : TK) (s : CS) : Int32 := woT (K.ki s.a) (K.va s.a)
def cSg (K : TK) (c : Int32) (s : CS) : Bool × CS := if K.ki s.a = 5 ∧ cVl K s = c then (true, cNx K s) else (false, cCs K s)
def cNu (K : TK) (x y : Int32) (s : CS) : Bool × CS := if K.ki s.a = 4 then (if x ≤ cVl K s ∧ cVl K s ≤ y then (true, (CS.mk (nx K.nT s.a) (cVl K s) s.na s.fk s.fp)) else (false, cFl K 4 s)) else (false, cCs K s)
def cNm (K : TK) (s : CS) : Bool × CS := if K.ki s.a = 2 then (true, (CS.mk s.a s.tk (K.va s.a) s.fk s.fp)) else (false, cCs K s)
theorem nx_lt {n a : Nat} (h : a < n) : nx n a < n := by unfold nx; split <;> assumption
theorem cNx_lt {K : TK} {s : CS} (h : s.a < K.nT) : (cNx K s).a < K.nT := nx_lt h
theorem cFl_lt {K : TK} {k : Int32} {s : CS} (h : s.a < K.nT) : (cFl K k s).a < K.nT := h
theorem cCs_lt {K : TK} {s : CS} (h : s.a < K.nT) : (cCs K s).a < K.nT := h
theorem cSg_lt {K : TK} {c : Int32} {s : CS} (h : s.a < K.nT) : (cSg K c s).2.a < K.nT := by
  unfold cSg; split
  · exact cNx_lt h
  · exact h
theorem cNu_lt {K : TK} {x y : Int32} {s : CS} (h : s.a < K.nT) : (cNu K x y s).2.a < K.nT := by
  unfold cNu; split
  · split
    · exact nx_lt h
    · exact h
  · exact h
theorem cNm_lt {K : TK} {s : CS} (h : s.a < K.nT) : (cNm K s).2.a < K.nT := by
  unfold cNm; split <;> exact h
def fPl (t : TW) (n : Int64) : Int32 := ffind (fun j => t.pn j = n) 0 t.nP
def fWa (t : TW) (n : Int64) : Int32 := ffind (fun j => t.wn j = n) 0 t.nW
def tNew (K : TK) (t : TW) (s : CS) : Bool × CS := if (cNm K s).1 = true then (if fPl t (cNm K s).2.na = -1 ∧ fWa t (cNm K s).2.na = -1 then (true, cNx K (cNm K s).2) else (false, cFl K 3 (cNm K s).2)) else (false, (cNm K s).2)
def tKW (K : TK) (t : TW) (s : CS) : Int32 × CS := if (cNm K s).1 = true then (if fWa t (cNm K s).2.na = -1 then (-1, cFl K 3 (cNm K s).2) else (fWa t (cNm K s).2.na, cNx K (cNm K s).2)) else (-1, (cNm K s).2)
def tKP (K : TK) (t : TW) (n : Int32) (s : CS) : Int32 × CS := if (cNm K s).1 = true then (if fPl t (cNm K s).2.na = -1 then (-1, cFl K 3 (cNm K s).2) else if fPl t (cNm K s).2.na = n then (-1, cFl K 5 (cNm K s).2) else (fPl t (cNm K s).2.na, cNx K (cNm K s).2)) else (-1, (cNm K s).2)
def tNB (K : TK) (w x y d : Int32) (s : CS) : Int32 × CS := if cWo K s = w then (if (cNu K x y (cNx K s)).1 = true then ((cNu K x y (cNx K s)).2.tk, (cNu K x y (cNx K s)).2) else (-1, (cNu K x y (cNx K s)).2)) else (d, s)
theorem tNew_lt {K : TK} {t : TW} {s : CS} (h : s.a < K.nT) : (tNew K t s).2.a < K.nT := by
  unfold tNew; split
  · split
    · exact cNx_lt (cNm_lt h)
    · exact cFl_lt (cNm_lt h)
  · exact cNm_lt h
theorem tKW_lt {K : TK} {t : TW} {s : CS} (h : s.a < K.nT) : (tKW K t s).2.a < K.nT := by
  unfold tKW; split
  · split
    · exact cFl_lt (cNm_lt h)
    · exact cNx_lt (cNm_lt h)
  · exact cNm_lt h
theorem tKP_lt {K : TK} {t : TW} {n : Int32} {s : CS} (h : s.a < K.nT) : (tKP K t n s).2.a < K.nT := by
  unfold tKP; split
  · split
    · exact cFl_lt (cNm_lt h)
    · split
      · exact cFl_lt (cNm_lt h)
      · exact cNx_lt (cNm_lt h)
  · exact cNm_lt h
theorem tNB_lt {K : TK} {w x y d : Int32} {s : CS} (h : s.a < K.nT) : (tNB K w x y d s).2.a < K.nT := by
  unfold tNB; split
  · split <;> exact cNu_lt (cNx_lt h)
  · exact h
theorem qe {Q : Option Value → LH → Prop} {α : Type} {f : α → Option Value} {g : α → LH} {x y : α} (e : x = y) (hq : Q (f x) (g x)) : Q (f y) (g y) := e ▸ hq
def faO (t l s : Int32) : Int32 := t + (if l = 0 then 0 else 4) + 8 * (s - 1)
abbrev hTX (xod : Int32) (tby : Nat → Int32) (tco : Nat → Int64) (tki : Nat → Int32) (tst : Nat → Int32) (tva : Nat → Int64) (tfe : Int32) (tle : Int32) (tto : Int32) (tat : Int32) (tkd : Int32) (tvl : Int32) (two : Int32) (ttk : Int32) (tna : Int64) (tfk : Int32) (tfp : Int32) (pn : Nat → Int64) (wn : Nat → Int64) (fa : Nat → Int32) (te : Nat → Int32) (fr : Nat → Int32) (to_ : Nat → Int32) (ea : Nat → Int32) (no : Nat → Int32) (pl : Int32) (wa : Int32) (le : Int32) (od : Int32) (sk : Int32) (sd : Int32) (go : Int32) : LH := [cO 9 [.ref 1, .ref 7, .int xod], cO 7 [.ref 2, .ref 3, .ref 4, .ref 5, .ref 6, .int tfe, .int tle, .int tto, .int tat, .int tkd, .int tvl, .int two, .int ttk, .long tna, .int tfk, .int tfp], cB 900 tby, cL 24 tco, cI 901 tki, cI 901 tst, cL 901 tva, cO 8 [.ref 8, .ref 9, .ref 10, .ref 11, .ref 12, .ref 13, .ref 14, .ref 15, .int pl, .int wa, .int le, .int od, .int sk, .int sd, .int go], cL 7 pn, cL 4 wn, cI 4 fa, cI 12 te, cI 12 fr, cI 12 to_, cI 12 ea, cI 12 no]
section T41
variable {Γ : Gm} {Q : Option Value → LH → Prop}
theorem s_Text_next {tby : Nat → Int32} {tco : Nat → Int64} {tfe tle : Int32} {K : TK} {s : CS}  (ha : s.a < K.nT) (hK : K.nT ≤ 901) (hq : Q none (hX tby tco (K.ki) (K.st) (K.va) tfe tle (nI K.nT) (nI (cNx K s).a) (K.ki (cNx K s).a) (vlT (K.ki (cNx K s).a) (K.va (cNx K s).a)) (woT (K.ki (cNx K s).a) (K.va (cNx K s).a)) ((cNx K s).tk) ((cNx K s).na) ((cNx K s).fk) ((cNx K s).fp))) : Call Γ M_Text_next 2 0 0 [.ref 0] (hX tby tco (K.ki) (K.st) (K.va) tfe tle (nI K.nT) (nI s.a) (K.ki s.a) (vlT (K.ki s.a) (K.va s.a)) (woT (K.ki s.a) (K.va s.a)) (s.tk) (s.na) (s.fk) (s.fp)) Q :=
  c_Text_next ha hK hq
theorem s_Text_faultHere {tby : Nat → Int32} {tco : Nat → Int64} {tfe tle : Int32} {K : TK} {s : CS} {k : Int32} (ha : s.a < K.nT) (hK : K.nT ≤ 901) (hq : Q (some (.int 0)) (hX tby tco (K.ki) (K.st) (K.va) tfe tle (nI K.nT) (nI (cFl K k s).a) (K.ki (cFl K k s).a) (vlT (K.ki (cFl K k s).a) (K.va (cFl K k s).a)) (woT (K.ki (cFl K k s).a) (K.va (cFl K k s).a)) ((cFl K k s).tk) ((cFl K k s).na) ((cFl K k s).fk) ((cFl K k s).fp))) : Call Γ M_Text_faultHere 1 0 0 [.ref 0, .int k] (hX tby tco (K.ki) (K.st) (K.va) tfe tle (nI K.nT) (nI s.a) (K.ki s.a) (vlT (K.ki s.a) (K.va s.a)) (woT (K.ki s.a) (K.va s.a)) (s.tk) (s.na) (s.fk) (s.fp)) Q :=
  c_Text_faultHere ha hK hq
theorem s_Text_cannotStand {tby : Nat → Int32} {tco : Nat → Int64} {tfe tle : Int32} {K : TK} {s : CS}  (ha : s.a < K.nT) (hK : K.nT ≤ 901) (hq : Q (some (.int 0)) (hX tby tco (K.ki) (K.st) (K.va) tfe tle (nI K.nT) (nI (cCs K s).a) (K.ki (cCs K s).a) (vlT (K.ki (cCs K s).a) (K.va (cCs K s).a)) (woT (K.ki (cCs K s).a) (K.va (cCs K s).a)) ((cCs K s).tk) ((cCs K s).na) ((cCs K s).fk) ((cCs K s).fp))) : Call Γ M_Text_cannotStand 2 0 0 [.ref 0] (hX tby tco (K.ki) (K.st) (K.va) tfe tle (nI K.nT) (nI s.a) (K.ki s.a) (vlT (K.ki s.a) (K.va s.a)) (woT (K.ki s.a) (K.va s.a)) (s.tk) (s.na) (s.fk) (s.fp)) Q :=
  c_Text_cannotStand ha hK hq
theorem s_Text_takeSign {tby : Nat → Int32} {tco : Nat → Int64} {tfe tle : Int32} {K : TK} {s : CS} {c : Int32} (ha : s.a < K.nT) (hK : K.nT ≤ 901) (hq : Q (some (.int (bP ((cSg K c s).1 = true)))) (hX tby tco (K.ki) (K.st) (K.va) tfe tle (nI K.nT) (nI (cSg K c s).2.a) (K.ki (cSg K c s).2.a) (vlT (K.ki (cSg K c s).2.a) (K.va (cSg K c s).2.a)) (woT (K.ki (cSg K c s).2.a) (K.va (cSg K c s).2.a)) ((cSg K c s).2.tk) ((cSg K c s).2.na) ((cSg K c s).2.fk) ((cSg K c s).2.fp))) : Call Γ M_Text_takeSign 3 0 0 [.ref 0, .int c] (hX tby tco (K.ki) (K.st) (K.va) tfe tle (nI K.nT) (nI s.a) (K.ki s.a) (vlT (K.ki s.a) (K.va s.a)) (woT (K.ki s.a) (K.va s.a)) (s.tk) (s.na) (s.fk) (s.fp)) Q :=
  c_Text_takeSign ha hK (fun z w => by
    have e : (cSg K c s) = _ := if_pos ⟨z, w⟩
    rw [e] at hq
    exact hq) (fun z => by
    have e : (cSg K c s) = _ := if_neg z
    rw [e] at hq
    exact hq)
theorem s_Text_takeNumber {tby : Nat → Int32} {tco : Nat → Int64} {tfe tle : Int32} {K : TK} {s : CS} {x y : Int32} (ha : s.a < K.nT) (hK : K.nT ≤ 901) (hq : Q (some (.int (bP ((cNu K x y s).1 = true)))) (hX tby tco (K.ki) (K.st) (K.va) tfe tle (nI K.nT) (nI (cNu K x y s).2.a) (K.ki (cNu K x y s).2.a) (vlT (K.ki (cNu K x y s).2.a) (K.va (cNu K x y s).2.a)) (woT (K.ki (cNu K x y s).2.a) (K.va (cNu K x y s).2.a)) ((cNu K x y s).2.tk) ((cNu K x y s).2.na) ((cNu K x y s).2.fk) ((cNu K x y s).2.fp))) : Call Γ M_Text_takeNumber 3 0 0 [.ref 0, .int x, .int y] (hX tby tco (K.ki) (K.st) (K.va) tfe tle (nI K.nT) (nI s.a) (K.ki s.a) (vlT (K.ki s.a) (K.va s.a)) (woT (K.ki s.a) (K.va s.a)) (s.tk) (s.na) (s.fk) (s.fp)) Q :=
  c_Text_takeNumber ha hK (fun z w v => by
    have e : (cNu K x y s) = _ := (if_pos z).trans (if_pos ⟨w, v⟩)
    rw [e] at hq
    exact hq) (fun z w => by
    have e : (cNu K x y s) = _ := (if_pos z).trans (if_neg w)
    rw [e] at hq
    exact hq) (fun z => by
    have e : (cNu K x y s) = _ := if_neg z
    rw [e] at hq
    exact hq)
theorem s_Text_nameHere {tby : Nat → Int32} {tco : Nat → Int64} {tfe tle : Int32} {K : TK} {s : CS}  (ha : s.a < K.nT) (hK : K.nT ≤ 901) (hq : Q (some (.int (bP ((cNm K s).1 = true)))) (hX tby tco (K.ki) (K.st) (K.va) tfe tle (nI K.nT) (nI (cNm K s).2.a) (K.ki (cNm K s).2.a) (vlT (K.ki (cNm K s).2.a) (K.va (cNm K s).2.a)) (woT (K.ki (cNm K s).2.a) (K.va (cNm K s).2.a)) ((cNm K s).2.tk) ((cNm K s).2.na) ((cNm K s).2.fk) ((cNm K s).2.fp))) : Call Γ M_Text_nameHere 3 0 0 [.ref 0] (hX tby tco (K.ki) (K.st) (K.va) tfe tle (nI K.nT) (nI s.a) (K.ki s.a) (vlT (K.ki s.a) (K.va s.a)) (woT (K.ki s.a) (K.va s.a)) (s.tk) (s.na) (s.fk) (s.fp)) Q :=
  c_Text_nameHere ha hK (fun z => by
    have e : (cNm K s) = _ := if_pos z
    rw [e] at hq
    exact hq) (fun z => by
    have e : (cNm K s) = _ := if_neg z
    rw [e] at hq
    exact hq)
set_option maxRecDepth 100000 in
set_option maxHeartbeats 4000000 in
theorem c_Town_faultOf {t l s : Int32} {h : LH} (hq : Q (some (.int (faO t l s))) h) : Call Γ M_Town_faultOf 1 0 0 [.int t, .int l, .int s] h Q := by
  refine call_intro (ls := [some (.int t), some (.int l), some (.int s)]) rfl rfl rfl ?_
  refine wp_iload_n 1 d_Town_faultOf_0 rfl rfl ?_
  refine wp_iload_n 2 d_Town_faultOf_1 rfl rfl ?_
  refine wp_if_eq 9 5 d_Town_faultOf_2 rfl (by decide) (fun h2 => ?_) (fun h2 => ?_)
  · refine wp_iconst 10 0 d_Town_faultOf_9 rfl (by decide) ?_
    refine wp_iadd 11 d_Town_faultOf_10 rfl ?_
    refine wp_bipush 13 8 d_Town_faultOf_11 rfl (by decide) ?_
    refine wp_iload_n 14 d_Town_faultOf_13 rfl rfl ?_
    refine wp_iconst 15 1 d_Town_faultOf_14 rfl (by decide) ?_
    refine wp_isub 16 d_Town_faultOf_15 rfl ?_
    refine wp_imul 17 d_Town_faultOf_16 rfl ?_
    refine wp_iadd 18 d_Town_faultOf_17 rfl ?_
    refine wp_ireturn d_Town_faultOf_18 rfl ?_
    unfold faO at hq
    rw [if_pos h2] at hq
    exact hq
  · refine wp_iconst 6 4 d_Town_faultOf_5 rfl (by decide) ?_
    refine wp_goto 10 d_Town_faultOf_6 (by decide) ?_
    refine wp_iadd 11 d_Town_faultOf_10 rfl ?_
    refine wp_bipush 13 8 d_Town_faultOf_11 rfl (by decide) ?_
    refine wp_iload_n 14 d_Town_faultOf_13 rfl rfl ?_
    refine wp_iconst 15 1 d_Town_faultOf_14 rfl (by decide) ?_
    refine wp_isub 16 d_Town_faultOf_15 rfl ?_
    refine wp_imul 17 d_Town_faultOf_16 rfl ?_
    refine wp_iadd 18 d_Town_faultOf_17 rfl ?_
    refine wp_ireturn d_Town_faultOf_18 rfl ?_
    unfold faO at hq
    rw [if_neg h2] at hq
    exact hq

set_option maxRecDepth 100000 in
set_option maxHeartbeats 4000000 in
theorem c_TownText_takeNewName {xod tfe tle : Int32} {tby : Nat → Int32} {tco : Nat → Int64} {K : TK} {s : CS} {t : TW} (ha : s.a < K.nT) (hK : K.nT ≤ 901) (hP : t.nP ≤ 7) (hW : t.nW ≤ 4) (hq : Q (some (.int (bP ((tNew K t s).1 = true)))) (hTX (xod) tby tco (K.ki) (K.st) (K.va) tfe tle (nI K.nT) (nI (tNew K t s).2.a) (K.ki (tNew K t s).2.a) (vlT (K.ki (tNew K t s).2.a) (K.va (tNew K t s).2.a)) (woT (K.ki (tNew K t s).2.a) (K.va (tNew K t s).2.a)) ((tNew K t s).2.tk) ((tNew K t s).2.na) ((tNew K t s).2.fk) ((tNew K t s).2.fp) (t.pn) (t.wn) (t.fa) (t.te) (t.fr) (t.to_) (t.ea) (t.no) (nI t.nP) (nI t.nW) (nI t.nL) (t.od) (t.sk) (t.sd) (t.go))) : Call Γ M_TownText_takeNewName 4 0 0 [.ref 0] (hTX (xod) tby tco (K.ki) (K.st) (K.va) tfe tle (nI K.nT) (nI s.a) (K.ki s.a) (vlT (K.ki s.a) (K.va s.a)) (woT (K.ki s.a) (K.va s.a)) (s.tk) (s.na) (s.fk) (s.fp) (t.pn) (t.wn) (t.fa) (t.te) (t.fr) (t.to_) (t.ea) (t.no) (nI t.nP) (nI t.nW) (nI t.nL) (t.od) (t.sk) (t.sd) (t.go)) Q := by
  refine call_intro (ls := [some (.ref 0)]) rfl rfl rfl ?_
  refine wp_aload_n 1 d_TownText_takeNewName_0 rfl rfl ?_
  refine wp_getfield 4 9 0 d_TownText_takeNewName_1 rfl fl_TownText_15 rfl rfl ?_
  refine ws_V0 (b' := 0) 7 M_Text_nameHere 3 [1, 2, 3, 4, 5, 6] ((hX tby tco (K.ki) (K.st) (K.va) tfe tle (nI K.nT) (nI s.a) (K.ki s.a) (vlT (K.ki s.a) (K.va s.a)) (woT (K.ki s.a) (K.va s.a)) (s.tk) (s.na) (s.fk) (s.fp))) d_TownText_takeNewName_4 rfl mv_Text_nameHere lk_TownText_134 rfl rfl rfl rfl rfl rfl rfl rfl ?_
  refine s_Text_nameHere ha hK ?_
  refine sI ?_
  simp only [putH, rC, sg, eV, List.map_cons, List.map_nil, List.set_cons_zero, List.set_cons_succ, List.length_cons, List.length_nil, List.getD_cons_zero, List.getD_cons_succ, Nat.zero_add, Nat.reduceAdd, Nat.reduceLT, if_true, ite_true]
  (first | refine wp_ifP_ne 12 10 d_TownText_takeNewName_7 rfl (by decide) (fun h7 => ?_) (fun h7 => ?_) | refine wp_if_ne 12 10 d_TownText_takeNewName_7 rfl (by decide) (fun h7 => ?_) (fun h7 => ?_))
  · refine wp_aload_n 13 d_TownText_takeNewName_12 rfl rfl ?_
    refine wp_getfield 16 9 1 d_TownText_takeNewName_13 rfl fl_TownText_19 rfl rfl ?_
    refine wp_aload_n 17 d_TownText_takeNewName_16 rfl rfl ?_
    refine wp_getfield 20 9 0 d_TownText_takeNewName_17 rfl fl_TownText_15 rfl rfl ?_
    refine wp_getfield 23 7 13 d_TownText_takeNewName_20 rfl fl_TownText_82 rfl rfl ?_
    refine ws_V1 (b' := 0) 26 M_Town_placeNamed 1 [7, 8, 9, 10, 11, 12, 13, 14, 15] ((hT _ _ _ _ _ _ _ _ _ _ _ _ _ _ _)) d_TownText_takeNewName_23 rfl mv_Town_placeNamed lk_TownText_137 rfl rfl rfl rfl rfl rfl rfl (eV_long _ _) rfl ?_
    refine c_Town_placeNamed hP ?_
    show Ksub _ _ _ _ _ _ _ _ _ _ _ (some (.int (fPl t (cNm K s).2.na))) _
    refine sIr rfl rfl ?_
    refine wp_iconst 27 (-1) d_TownText_takeNewName_26 rfl (by decide) ?_
    refine wp_icmp_ne 48 30 d_TownText_takeNewName_27 rfl (by decide) (fun h27 => ?_) (fun h27 => ?_)
    · refine wp_aload_n 49 d_TownText_takeNewName_48 rfl rfl ?_
      refine wp_getfield 52 9 0 d_TownText_takeNewName_49 rfl fl_TownText_15 rfl rfl ?_
      refine wp_iconst 53 3 d_TownText_takeNewName_52 rfl (by decide) ?_
      refine ws_V1 (b' := 0) 56 M_Text_faultHere 1 [1, 2, 3, 4, 5, 6] ((hX tby tco (K.ki) (K.st) (K.va) tfe tle (nI K.nT) (nI (cNm K s).2.a) (K.ki (cNm K s).2.a) (vlT (K.ki (cNm K s).2.a) (K.va (cNm K s).2.a)) (woT (K.ki (cNm K s).2.a) (K.va (cNm K s).2.a)) ((cNm K s).2.tk) ((cNm K s).2.na) ((cNm K s).2.fk) ((cNm K s).2.fp))) d_TownText_takeNewName_53 rfl mv_Text_faultHere lk_TownText_60 rfl rfl rfl rfl rfl rfl rfl (eV_int _ _) rfl ?_
      refine s_Text_faultHere (cNm_lt ha) hK ?_
      refine sI ?_
      simp only [putH, rC, sg, eV, List.map_cons, List.map_nil, List.set_cons_zero, List.set_cons_succ, List.length_cons, List.length_nil, List.getD_cons_zero, List.getD_cons_succ, Nat.zero_add, Nat.reduceAdd, Nat.reduceLT, if_true, ite_true]
      refine wp_zreturn d_TownText_takeNewName_56 rfl (by first | rfl | exact nbP _) ?_
      have e : tNew K t s = _ := (if_pos h7).trans (if_neg (fun z => h27 z.1))
      rw [e] at hq
      exact hq
    · refine wp_aload_n 31 d_TownText_takeNewName_30 rfl rfl ?_
      refine wp_getfield 34 9 1 d_TownText_takeNewName_31 rfl fl_TownText_19 rfl rfl ?_
      refine wp_aload_n 35 d_TownText_takeNewName_34 rfl rfl ?_
      refine wp_getfield 38 9 0 d_TownText_takeNewName_35 rfl fl_TownText_15 rfl rfl ?_
      refine wp_getfield 41 7 13 d_TownText_takeNewName_38 rfl fl_TownText_82 rfl rfl ?_
      refine ws_V1 (b' := 0) 44 M_Town_walkerNamed 1 [7, 8, 9, 10, 11, 12, 13, 14, 15] ((hT _ _ _ _ _ _ _ _ _ _ _ _ _ _ _)) d_TownText_takeNewName_41 rfl mv_Town_walkerNamed lk_TownText_140 rfl rfl rfl rfl rfl rfl rfl (eV_long _ _) rfl ?_
      refine c_Town_walkerNamed hW ?_
      show Ksub _ _ _ _ _ _ _ _ _ _ _ (some (.int (fWa t (cNm K s).2.na))) _
      refine sIr rfl rfl ?_
      refine wp_iconst 45 (-1) d_TownText_takeNewName_44 rfl (by decide) ?_
      refine wp_icmp_eq 57 48 d_TownText_takeNewName_45 rfl (by decide) (fun h45 => ?_) (fun h45 => ?_)
      · refine wp_aload_n 58 d_TownText_takeNewName_57 rfl rfl ?_
        refine wp_getfield 61 9 0 d_TownText_takeNewName_58 rfl fl_TownText_15 rfl rfl ?_
        refine ws_V0 (b' := 0) 64 M_Text_next 2 [1, 2, 3, 4, 5, 6] ((hX tby tco (K.ki) (K.st) (K.va) tfe tle (nI K.nT) (nI (cNm K s).2.a) (K.ki (cNm K s).2.a) (vlT (K.ki (cNm K s).2.a) (K.va (cNm K s).2.a)) (woT (K.ki (cNm K s).2.a) (K.va (cNm K s).2.a)) ((cNm K s).2.tk) ((cNm K s).2.na) ((cNm K s).2.fk) ((cNm K s).2.fp))) d_TownText_takeNewName_61 rfl mv_Text_next lk_TownText_63 rfl rfl rfl rfl rfl rfl rfl rfl ?_
        refine s_Text_next (cNm_lt ha) hK ?_
        refine sV ?_
        simp only [putH, rC, sg, eV, List.map_cons, List.map_nil, List.set_cons_zero, List.set_cons_succ, List.length_cons, List.length_nil, List.getD_cons_zero, List.getD_cons_succ, Nat.zero_add, Nat.reduceAdd, Nat.reduceLT, if_true, ite_true]
        refine wp_iconst 65 1 d_TownText_takeNewName_64 rfl (by decide) ?_
        refine wp_zreturn d_TownText_takeNewName_65 rfl (by first | rfl | exact nbP _) ?_
        have e : tNew K t s = _ := (if_pos h7).trans (if_pos ⟨h27, h45⟩)
        rw [e] at hq
        exact hq
      · refine wp_aload_n 49 d_TownText_takeNewName_48 rfl rfl ?_
        refine wp_getfield 52 9 0 d_TownText_takeNewName_49 rfl fl_TownText_15 rfl rfl ?_
        refine wp_iconst 53 3 d_TownText_takeNewName_52 rfl (by decide) ?_
        refine ws_V1 (b' := 0) 56 M_Text_faultHere 1 [1, 2, 3, 4, 5, 6] ((hX tby tco (K.ki) (K.st) (K.va) tfe tle (nI K.nT) (nI (cNm K s).2.a) (K.ki (cNm K s).2.a) (vlT (K.ki (cNm K s).2.a) (K.va (cNm K s).2.a)) (woT (K.ki (cNm K s).2.a) (K.va (cNm K s).2.a)) ((cNm K s).2.tk) ((cNm K s).2.na) ((cNm K s).2.fk) ((cNm K s).2.fp))) d_TownText_takeNewName_53 rfl mv_Text_faultHere lk_TownText_60 rfl rfl rfl rfl rfl rfl rfl (eV_int _ _) rfl ?_
        refine s_Text_faultHere (cNm_lt ha) hK ?_
        refine sI ?_
        simp only [putH, rC, sg, eV, List.map_cons, List.map_nil, List.set_cons_zero, List.set_cons_succ, List.length_cons, List.length_nil, List.getD_cons_zero, List.getD_cons_succ, Nat.zero_add, Nat.reduceAdd, Nat.reduceLT, if_true, ite_true]
        refine wp_zreturn d_TownText_takeNewName_56 rfl (by first | rfl | exact nbP _) ?_
        have e : tNew K t s = _ := (if_pos h7).trans (if_neg (fun z => h45 z.2))
        rw [e] at hq
        exact hq
  · refine wp_iconst 11 0 d_TownText_takeNewName_10 rfl (by decide) ?_
    refine wp_zreturn d_TownText_takeNewName_11 rfl (by first | rfl | exact nbP _) ?_
    have e : (tNew K t s) = _ := (if_neg h7)
    rw [e] at hq
    exact hq

set_option maxRecDepth 100000 in
set_option maxHeartbeats 4000000 in
theorem c_TownText_takeKnownWalker {xod tfe tle : Int32} {tby : Nat → Int32} {tco : Nat → Int64} {K : TK} {s : CS} {t : TW} (ha : s.a < K.nT) (hK : K.nT ≤ 901) (hP : t.nP ≤ 7) (hW : t.nW ≤ 4) (hq : Q (some (.int (tKW K t s).1)) (hTX (xod) tby tco (K.ki) (K.st) (K.va) tfe tle (nI K.nT) (nI (tKW K t s).2.a) (K.ki (tKW K t s).2.a) (vlT (K.ki (tKW K t s).2.a) (K.va (tKW K t s).2.a)) (woT (K.ki (tKW K t s).2.a) (K.va (tKW K t s).2.a)) ((tKW K t s).2.tk) ((tKW K t s).2.na) ((tKW K t s).2.fk) ((tKW K t s).2.fp) (t.pn) (t.wn) (t.fa) (t.te) (t.fr) (t.to_) (t.ea) (t.no) (nI t.nP) (nI t.nW) (nI t.nL) (t.od) (t.sk) (t.sd) (t.go))) : Call Γ M_TownText_takeKnownWalker 4 0 0 [.ref 0] (hTX (xod) tby tco (K.ki) (K.st) (K.va) tfe tle (nI K.nT) (nI s.a) (K.ki s.a) (vlT (K.ki s.a) (K.va s.a)) (woT (K.ki s.a) (K.va s.a)) (s.tk) (s.na) (s.fk) (s.fp) (t.pn) (t.wn) (t.fa) (t.te) (t.fr) (t.to_) (t.ea) (t.no) (nI t.nP) (nI t.nW) (nI t.nL) (t.od) (t.sk) (t.sd) (t.go)) Q := by
  refine call_intro (ls := [some (.ref 0), none]) rfl rfl rfl ?_
  refine wp_aload_n 1 d_TownText_takeKnownWalker_0 rfl rfl ?_
  refine wp_getfield 4 9 0 d_TownText_takeKnownWalker_1 rfl fl_TownText_15 rfl rfl ?_
  refine ws_V0 (b' := 0) 7 M_Text_nameHere 3 [1, 2, 3, 4, 5, 6] ((hX tby tco (K.ki) (K.st) (K.va) tfe tle (nI K.nT) (nI s.a) (K.ki s.a) (vlT (K.ki s.a) (K.va s.a)) (woT (K.ki s.a) (K.va s.a)) (s.tk) (s.na) (s.fk) (s.fp))) d_TownText_takeKnownWalker_4 rfl mv_Text_nameHere lk_TownText_134 rfl rfl rfl rfl rfl rfl rfl rfl ?_
  refine s_Text_nameHere ha hK ?_
  refine sI ?_
  simp only [putH, rC, sg, eV, List.map_cons, List.map_nil, List.set_cons_zero, List.set_cons_succ, List.length_cons, List.length_nil, List.getD_cons_zero, List.getD_cons_succ, Nat.zero_add, Nat.reduceAdd, Nat.reduceLT, if_true, ite_true]
  (first | refine wp_ifP_ne 12 10 d_TownText_takeKnownWalker_7 rfl (by decide) (fun h7 => ?_) (fun h7 => ?_) | refine wp_if_ne 12 10 d_TownText_takeKnownWalker_7 rfl (by decide) (fun h7 => ?_) (fun h7 => ?_))
  · refine wp_aload_n 13 d_TownText_takeKnownWalker_12 rfl rfl ?_
    refine wp_getfield 16 9 1 d_TownText_takeKnownWalker_13 rfl fl_TownText_19 rfl rfl ?_
    refine wp_aload_n 17 d_TownText_takeKnownWalker_16 rfl rfl ?_
    refine wp_getfield 20 9 0 d_TownText_takeKnownWalker_17 rfl fl_TownText_15 rfl rfl ?_
    refine wp_getfield 23 7 13 d_TownText_takeKnownWalker_20 rfl fl_TownText_82 rfl rfl ?_
    refine ws_V1 (b' := 0) 26 M_Town_walkerNamed 1 [7, 8, 9, 10, 11, 12, 13, 14, 15] ((hT _ _ _ _ _ _ _ _ _ _ _ _ _ _ _)) d_TownText_takeKnownWalker_23 rfl mv_Town_walkerNamed lk_TownText_140 rfl rfl rfl rfl rfl rfl rfl (eV_long _ _) rfl ?_
    refine c_Town_walkerNamed hW ?_
    show Ksub _ _ _ _ _ _ _ _ _ _ _ (some (.int (fWa t (cNm K s).2.na))) _
    refine sIr rfl rfl ?_
    refine wp_istore_1 27 d_TownText_takeKnownWalker_26 rfl rfl rfl ?_
    refine wp_iload_n 28 d_TownText_takeKnownWalker_27 rfl rfl ?_
    refine wp_iconst 29 (-1) d_TownText_takeKnownWalker_28 rfl (by decide) ?_
    refine wp_icmp_ne 43 32 d_TownText_takeKnownWalker_29 rfl (by decide) (fun h29 => ?_) (fun h29 => ?_)
    · refine wp_aload_n 44 d_TownText_takeKnownWalker_43 rfl rfl ?_
      refine wp_getfield 47 9 0 d_TownText_takeKnownWalker_44 rfl fl_TownText_15 rfl rfl ?_
      refine ws_V0 (b' := 0) 50 M_Text_next 2 [1, 2, 3, 4, 5, 6] ((hX tby tco (K.ki) (K.st) (K.va) tfe tle (nI K.nT) (nI (cNm K s).2.a) (K.ki (cNm K s).2.a) (vlT (K.ki (cNm K s).2.a) (K.va (cNm K s).2.a)) (woT (K.ki (cNm K s).2.a) (K.va (cNm K s).2.a)) ((cNm K s).2.tk) ((cNm K s).2.na) ((cNm K s).2.fk) ((cNm K s).2.fp))) d_TownText_takeKnownWalker_47 rfl mv_Text_next lk_TownText_63 rfl rfl rfl rfl rfl rfl rfl rfl ?_
      refine s_Text_next (cNm_lt ha) hK ?_
      refine sV ?_
      simp only [putH, rC, sg, eV, List.map_cons, List.map_nil, List.set_cons_zero, List.set_cons_succ, List.length_cons, List.length_nil, List.getD_cons_zero, List.getD_cons_succ, Nat.zero_add, Nat.reduceAdd, Nat.reduceLT, if_true, ite_true]
      refine wp_iload_n 51 d_TownText_takeKnownWalker_50 rfl rfl ?_
      refine wp_ireturn d_TownText_takeKnownWalker_51 rfl ?_
      have e : (tKW K t s) = _ := (if_pos h7).trans (if_neg h29)
      rw [e] at hq
      exact hq
    · refine wp_aload_n 33 d_TownText_takeKnownWalker_32 rfl rfl ?_
      refine wp_getfield 36 9 0 d_TownText_takeKnownWalker_33 rfl fl_TownText_15 rfl rfl ?_
      refine wp_iconst 37 3 d_TownText_takeKnownWalker_36 rfl (by decide) ?_
      refine ws_V1 (b' := 0) 40 M_Text_faultHere 1 [1, 2, 3, 4, 5, 6] ((hX tby tco (K.ki) (K.st) (K.va) tfe tle (nI K.nT) (nI (cNm K s).2.a) (K.ki (cNm K s).2.a) (vlT (K.ki (cNm K s).2.a) (K.va (cNm K s).2.a)) (woT (K.ki (cNm K s).2.a) (K.va (cNm K s).2.a)) ((cNm K s).2.tk) ((cNm K s).2.na) ((cNm K s).2.fk) ((cNm K s).2.fp))) d_TownText_takeKnownWalker_37 rfl mv_Text_faultHere lk_TownText_60 rfl rfl rfl rfl rfl rfl rfl (eV_int _ _) rfl ?_
      refine s_Text_faultHere (cNm_lt ha) hK ?_
      refine sI ?_
      simp only [putH, rC, sg, eV, List.map_cons, List.map_nil, List.set_cons_zero, List.set_cons_succ, List.length_cons, List.length_nil, List.getD_cons_zero, List.getD_cons_succ, Nat.zero_add, Nat.reduceAdd, Nat.reduceLT, if_true, ite_true]
      refine wp_pop 41 d_TownText_takeKnownWalker_40 rfl rfl ?_
      refine wp_iconst 42 (-1) d_TownText_takeKnownWalker_41 rfl (by decide) ?_
      refine wp_ireturn d_TownText_takeKnownWalker_42 rfl ?_
      have e : (tKW K t s) = _ := (if_pos h7).trans (if_pos h29)
      rw [e] at hq
      exact hq
  · refine wp_iconst 11 (-1) d_TownText_takeKnownWalker_10 rfl (by decide) ?_
    refine wp_ireturn d_TownText_takeKnownWalker_11 rfl ?_
    have e : (tKW K t s) = _ := (if_neg h7)
    rw [e] at hq
    exact hq

set_option maxRecDepth 100000 in
set_option maxHeartbeats 4000000 in
theorem c_TownText_takeKnownPlace {xod tfe tle : Int32} {tby : Nat → Int32} {tco : Nat → Int64} {K : TK} {s : CS} {t : TW} {n : Int32} (ha : s.a < K.nT) (hK : K.nT ≤ 901) (hP : t.nP ≤ 7) (hW : t.nW ≤ 4) (hq : Q (some (.int (tKP K t n s).1)) (hTX (xod) tby tco (K.ki) (K.st) (K.va) tfe tle (nI K.nT) (nI (tKP K t n s).2.a) (K.ki (tKP K t n s).2.a) (vlT (K.ki (tKP K t n s).2.a) (K.va (tKP K t n s).2.a)) (woT (K.ki (tKP K t n s).2.a) (K.va (tKP K t n s).2.a)) ((tKP K t n s).2.tk) ((tKP K t n s).2.na) ((tKP K t n s).2.fk) ((tKP K t n s).2.fp) (t.pn) (t.wn) (t.fa) (t.te) (t.fr) (t.to_) (t.ea) (t.no) (nI t.nP) (nI t.nW) (nI t.nL) (t.od) (t.sk) (t.sd) (t.go))) : Call Γ M_TownText_takeKnownPlace 4 0 0 [.ref 0, .int n] (hTX (xod) tby tco (K.ki) (K.st) (K.va) tfe tle (nI K.nT) (nI s.a) (K.ki s.a) (vlT (K.ki s.a) (K.va s.a)) (woT (K.ki s.a) (K.va s.a)) (s.tk) (s.na) (s.fk) (s.fp) (t.pn) (t.wn) (t.fa) (t.te) (t.fr) (t.to_) (t.ea) (t.no) (nI t.nP) (nI t.nW) (nI t.nL) (t.od) (t.sk) (t.sd) (t.go)) Q := by
  refine call_intro (ls := [some (.ref 0), some (.int n), none]) rfl rfl rfl ?_
  refine wp_aload_n 1 d_TownText_takeKnownPlace_0 rfl rfl ?_
  refine wp_getfield 4 9 0 d_TownText_takeKnownPlace_1 rfl fl_TownText_15 rfl rfl ?_
  refine ws_V0 (b' := 0) 7 M_Text_nameHere 3 [1, 2, 3, 4, 5, 6] ((hX tby tco (K.ki) (K.st) (K.va) tfe tle (nI K.nT) (nI s.a) (K.ki s.a) (vlT (K.ki s.a) (K.va s.a)) (woT (K.ki s.a) (K.va s.a)) (s.tk) (s.na) (s.fk) (s.fp))) d_TownText_takeKnownPlace_4 rfl mv_Text_nameHere lk_TownText_134 rfl rfl rfl rfl rfl rfl rfl rfl ?_
  refine s_Text_nameHere ha hK ?_
  refine sI ?_
  simp only [putH, rC, sg, eV, List.map_cons, List.map_nil, List.set_cons_zero, List.set_cons_succ, List.length_cons, List.length_nil, List.getD_cons_zero, List.getD_cons_succ, Nat.zero_add, Nat.reduceAdd, Nat.reduceLT, if_true, ite_true]
  (first | refine wp_ifP_ne 12 10 d_TownText_takeKnownPlace_7 rfl (by decide) (fun h7 => ?_) (fun h7 => ?_) | refine wp_if_ne 12 10 d_TownText_takeKnownPlace_7 rfl (by decide) (fun h7 => ?_) (fun h7 => ?_))
  · refine wp_aload_n 13 d_TownText_takeKnownPlace_12 rfl rfl ?_
    refine wp_getfield 16 9 1 d_TownText_takeKnownPlace_13 rfl fl_TownText_19 rfl rfl ?_
    refine wp_aload_n 17 d_TownText_takeKnownPlace_16 rfl rfl ?_
    refine wp_getfield 20 9 0 d_TownText_takeKnownPlace_17 rfl fl_TownText_15 rfl rfl ?_
    refine wp_getfield 23 7 13 d_TownText_takeKnownPlace_20 rfl fl_TownText_82 rfl rfl ?_
    refine ws_V1 (b' := 0) 26 M_Town_placeNamed 1 [7, 8, 9, 10, 11, 12, 13, 14, 15] ((hT _ _ _ _ _ _ _ _ _ _ _ _ _ _ _)) d_TownText_takeKnownPlace_23 rfl mv_Town_placeNamed lk_TownText_137 rfl rfl rfl rfl rfl rfl rfl (eV_long _ _) rfl ?_
    refine c_Town_placeNamed hP ?_
    show Ksub _ _ _ _ _ _ _ _ _ _ _ (some (.int (fPl t (cNm K s).2.na))) _
    refine sIr rfl rfl ?_
    refine wp_istore_2 27 d_TownText_takeKnownPlace_26 rfl rfl rfl ?_
    refine wp_iload_n 28 d_TownText_takeKnownPlace_27 rfl rfl ?_
    refine wp_iconst 29 (-1) d_TownText_takeKnownPlace_28 rfl (by decide) ?_
    refine wp_icmp_eq 37 32 d_TownText_takeKnownPlace_29 rfl (by decide) (fun h29 => ?_) (fun h29 => ?_)
    · refine wp_aload_n 38 d_TownText_takeKnownPlace_37 rfl rfl ?_
      refine wp_getfield 41 9 0 d_TownText_takeKnownPlace_38 rfl fl_TownText_15 rfl rfl ?_
      refine wp_iload_n 42 d_TownText_takeKnownPlace_41 rfl rfl ?_
      refine wp_iconst 43 (-1) d_TownText_takeKnownPlace_42 rfl (by decide) ?_
      refine wp_icmp_ne 50 46 d_TownText_takeKnownPlace_43 rfl (by decide) (fun h43 => ?_) (fun h43 => ?_)
      · exact absurd h29 h43
      · refine wp_iconst 47 3 d_TownText_takeKnownPlace_46 rfl (by decide) ?_
        refine wp_goto 51 d_TownText_takeKnownPlace_47 (by decide) ?_
        refine ws_V1 (b' := 0) 54 M_Text_faultHere 1 [1, 2, 3, 4, 5, 6] ((hX tby tco (K.ki) (K.st) (K.va) tfe tle (nI K.nT) (nI (cNm K s).2.a) (K.ki (cNm K s).2.a) (vlT (K.ki (cNm K s).2.a) (K.va (cNm K s).2.a)) (woT (K.ki (cNm K s).2.a) (K.va (cNm K s).2.a)) ((cNm K s).2.tk) ((cNm K s).2.na) ((cNm K s).2.fk) ((cNm K s).2.fp))) d_TownText_takeKnownPlace_51 rfl mv_Text_faultHere lk_TownText_60 rfl rfl rfl rfl rfl rfl rfl (eV_int _ _) rfl ?_
        refine s_Text_faultHere (cNm_lt ha) hK ?_
        refine sI ?_
        simp only [putH, rC, sg, eV, List.map_cons, List.map_nil, List.set_cons_zero, List.set_cons_succ, List.length_cons, List.length_nil, List.getD_cons_zero, List.getD_cons_succ, Nat.zero_add, Nat.reduceAdd, Nat.reduceLT, if_true, ite_true]
        refine wp_pop 55 d_TownText_takeKnownPlace_54 rfl rfl ?_
        refine wp_iconst 56 (-1) d_TownText_takeKnownPlace_55 rfl (by decide) ?_
        refine wp_ireturn d_TownText_takeKnownPlace_56 rfl ?_
        have e : (tKP K t n s) = _ := (if_pos h7).trans (if_pos h29)
        rw [e] at hq
        exact hq
    · refine wp_iload_n 33 d_TownText_takeKnownPlace_32 rfl rfl ?_
      refine wp_iload_n 34 d_TownText_takeKnownPlace_33 rfl rfl ?_
      refine wp_icmp_ne 57 37 d_TownText_takeKnownPlace_34 rfl (by decide) (fun h34 => ?_) (fun h34 => ?_)
      · refine wp_aload_n 58 d_TownText_takeKnownPlace_57 rfl rfl ?_
        refine wp_getfield 61 9 0 d_TownText_takeKnownPlace_58 rfl fl_TownText_15 rfl rfl ?_
        refine ws_V0 (b' := 0) 64 M_Text_next 2 [1, 2, 3, 4, 5, 6] ((hX tby tco (K.ki) (K.st) (K.va) tfe tle (nI K.nT) (nI (cNm K s).2.a) (K.ki (cNm K s).2.a) (vlT (K.ki (cNm K s).2.a) (K.va (cNm K s).2.a)) (woT (K.ki (cNm K s).2.a) (K.va (cNm K s).2.a)) ((cNm K s).2.tk) ((cNm K s).2.na) ((cNm K s).2.fk) ((cNm K s).2.fp))) d_TownText_takeKnownPlace_61 rfl mv_Text_next lk_TownText_63 rfl rfl rfl rfl rfl rfl rfl rfl ?_
        refine s_Text_next (cNm_lt ha) hK ?_
        refine sV ?_
        simp only [putH, rC, sg, eV, List.map_cons, List.map_nil, List.set_cons_zero, List.set_cons_succ, List.length_cons, List.length_nil, List.getD_cons_zero, List.getD_cons_succ, Nat.zero_add, Nat.reduceAdd, Nat.reduceLT, if_true, ite_true]
        refine wp_iload_n 65 d_TownText_takeKnownPlace_64 rfl rfl ?_
        refine wp_ireturn d_TownText_takeKnownPlace_65 rfl ?_
        have e : (tKP K t n s) = _ := ((if_pos h7).trans (if_neg h29)).trans (if_neg h34)
        rw [e] at hq
        exact hq
      · refine wp_aload_n 38 d_TownText_takeKnownPlace_37 rfl rfl ?_
        refine wp_getfield 41 9 0 d_TownText_takeKnownPlace_38 rfl fl_TownText_15 rfl rfl ?_
        refine wp_iload_n 42 d_TownText_takeKnownPlace_41 rfl rfl ?_
        refine wp_iconst 43 (-1) d_TownText_takeKnownPlace_42 rfl (by decide) ?_
        refine wp_icmp_ne 50 46 d_TownText_takeKnownPlace_43 rfl (by decide) (fun h43 => ?_) (fun h43 => ?_)
        · refine wp_iconst 51 5 d_TownText_takeKnownPlace_50 rfl (by decide) ?_
          refine ws_V1 (b' := 0) 54 M_Text_faultHere 1 [1, 2, 3, 4, 5, 6] ((hX tby tco (K.ki) (K.st) (K.va) tfe tle (nI K.nT) (nI (cNm K s).2.a) (K.ki (cNm K s).2.a) (vlT (K.ki (cNm K s).2.a) (K.va (cNm K s).2.a)) (woT (K.ki (cNm K s).2.a) (K.va (cNm K s).2.a)) ((cNm K s).2.tk) ((cNm K s).2.na) ((cNm K s).2.fk) ((cNm K s).2.fp))) d_TownText_takeKnownPlace_51 rfl mv_Text_faultHere lk_TownText_60 rfl rfl rfl rfl rfl rfl rfl (eV_int _ _) rfl ?_
          refine s_Text_faultHere (cNm_lt ha) hK ?_
          refine sI ?_
          simp only [putH, rC, sg, eV, List.map_cons, List.map_nil, List.set_cons_zero, List.set_cons_succ, List.length_cons, List.length_nil, List.getD_cons_zero, List.getD_cons_succ, Nat.zero_add, Nat.reduceAdd, Nat.reduceLT, if_true, ite_true]
          refine wp_pop 55 d_TownText_takeKnownPlace_54 rfl rfl ?_
          refine wp_iconst 56 (-1) d_TownText_takeKnownPlace_55 rfl (by decide) ?_
          refine wp_ireturn d_TownText_takeKnownPlace_56 rfl ?_
          have e : (tKP K t n s) = _ := ((if_pos h7).trans (if_neg h29)).trans (if_pos h34)
          rw [e] at hq
          exact hq
        · exact absurd h43 h29
  · refine wp_iconst 11 (-1) d_TownText_takeKnownPlace_10 rfl (by decide) ?_
    refine wp_ireturn d_TownText_takeKnownPlace_11 rfl ?_
    have e : (tKP K t n s) = _ := (if_neg h7)
    rw [e] at hq
    exact hq

set_option maxRecDepth 100000 in
set_option maxHeartbeats 4000000 in
theorem c_TownText_takeNumberBehind {xod tfe tle : Int32} {tby : Nat → Int32} {tco : Nat → Int64} {K : TK} {s : CS} {t : TW} {w x y d : Int32} (ha : s.a < K.nT) (hK : K.nT ≤ 901) (hq : Q (some (.int (tNB K w x y d s).1)) (hTX (xod) tby tco (K.ki) (K.st) (K.va) tfe tle (nI K.nT) (nI (tNB K w x y d s).2.a) (K.ki (tNB K w x y d s).2.a) (vlT (K.ki (tNB K w x y d s).2.a) (K.va (tNB K w x y d s).2.a)) (woT (K.ki (tNB K w x y d s).2.a) (K.va (tNB K w x y d s).2.a)) ((tNB K w x y d s).2.tk) ((tNB K w x y d s).2.na) ((tNB K w x y d s).2.fk) ((tNB K w x y d s).2.fp) (t.pn) (t.wn) (t.fa) (t.te) (t.fr) (t.to_) (t.ea) (t.no) (nI t.nP) (nI t.nW) (nI t.nL) (t.od) (t.sk) (t.sd) (t.go))) : Call Γ M_TownText_takeNumberBehind 4 0 0 [.ref 0, .int w, .int x, .int y, .int d] (hTX (xod) tby tco (K.ki) (K.st) (K.va) tfe tle (nI K.nT) (nI s.a) (K.ki s.a) (vlT (K.ki s.a) (K.va s.a)) (woT (K.ki s.a) (K.va s.a)) (s.tk) (s.na) (s.fk) (s.fp) (t.pn) (t.wn) (t.fa) (t.te) (t.fr) (t.to_) (t.ea) (t.no) (nI t.nP) (nI t.nW) (nI t.nL) (t.od) (t.sk) (t.sd) (t.go)) Q := by
  refine call_intro (ls := [some (.ref 0), some (.int w), some (.int x), some (.int y), some (.int d)]) rfl rfl rfl ?_
  refine wp_aload_n 1 d_TownText_takeNumberBehind_0 rfl rfl ?_
  refine wp_getfield 4 9 0 d_TownText_takeNumberBehind_1 rfl fl_TownText_15 rfl rfl ?_
  refine wp_getfield 7 7 11 d_TownText_takeNumberBehind_4 rfl fl_TownText_44 rfl rfl ?_
  refine wp_iload_n 8 d_TownText_takeNumberBehind_7 rfl rfl ?_
  refine wp_icmp_eq 14 11 d_TownText_takeNumberBehind_8 rfl (by decide) (fun h8 => ?_) (fun h8 => ?_)
  · refine wp_aload_n 15 d_TownText_takeNumberBehind_14 rfl rfl ?_
    refine wp_getfield 18 9 0 d_TownText_takeNumberBehind_15 rfl fl_TownText_15 rfl rfl ?_
    refine ws_V0 (b' := 0) 21 M_Text_next 2 [1, 2, 3, 4, 5, 6] ((hX tby tco (K.ki) (K.st) (K.va) tfe tle (nI K.nT) (nI s.a) (K.ki s.a) (vlT (K.ki s.a) (K.va s.a)) (woT (K.ki s.a) (K.va s.a)) (s.tk) (s.na) (s.fk) (s.fp))) d_TownText_takeNumberBehind_18 rfl mv_Text_next lk_TownText_63 rfl rfl rfl rfl rfl rfl rfl rfl ?_
    refine s_Text_next ha hK ?_
    refine sV ?_
    simp only [putH, rC, sg, eV, List.map_cons, List.map_nil, List.set_cons_zero, List.set_cons_succ, List.length_cons, List.length_nil, List.getD_cons_zero, List.getD_cons_succ, Nat.zero_add, Nat.reduceAdd, Nat.reduceLT, if_true, ite_true]
    refine wp_aload_n 22 d_TownText_takeNumberBehind_21 rfl rfl ?_
    refine wp_getfield 25 9 0 d_TownText_takeNumberBehind_22 rfl fl_TownText_15 rfl rfl ?_
    refine wp_iload_n 26 d_TownText_takeNumberBehind_25 rfl rfl ?_
    refine wp_iload_n 27 d_TownText_takeNumberBehind_26 rfl rfl ?_
    refine ws_V2 (b' := 0) 30 M_Text_takeNumber 3 [1, 2, 3, 4, 5, 6] ((hX tby tco (K.ki) (K.st) (K.va) tfe tle (nI K.nT) (nI (cNx K s).a) (K.ki (cNx K s).a) (vlT (K.ki (cNx K s).a) (K.va (cNx K s).a)) (woT (K.ki (cNx K s).a) (K.va (cNx K s).a)) ((cNx K s).tk) ((cNx K s).na) ((cNx K s).fk) ((cNx K s).fp))) d_TownText_takeNumberBehind_27 rfl mv_Text_takeNumber lk_TownText_66 rfl rfl rfl rfl rfl rfl rfl (eV_int _ _) (eV_int _ _) rfl ?_
    refine s_Text_takeNumber (cNx_lt ha) hK ?_
    refine sI ?_
    simp only [putH, rC, sg, eV, List.map_cons, List.map_nil, List.set_cons_zero, List.set_cons_succ, List.length_cons, List.length_nil, List.getD_cons_zero, List.getD_cons_succ, Nat.zero_add, Nat.reduceAdd, Nat.reduceLT, if_true, ite_true]
    (first | refine wp_ifP_eq 43 33 d_TownText_takeNumberBehind_30 rfl (by decide) (fun h30 => ?_) (fun h30 => ?_) | refine wp_if_eq 43 33 d_TownText_takeNumberBehind_30 rfl (by decide) (fun h30 => ?_) (fun h30 => ?_))
    · refine wp_iconst 44 (-1) d_TownText_takeNumberBehind_43 rfl (by decide) ?_
      refine wp_ireturn d_TownText_takeNumberBehind_44 rfl ?_
      have e : (tNB K w x y d s) = _ := (if_pos h8).trans (if_neg h30)
      rw [e] at hq
      exact hq
    · refine wp_aload_n 34 d_TownText_takeNumberBehind_33 rfl rfl ?_
      refine wp_getfield 37 9 0 d_TownText_takeNumberBehind_34 rfl fl_TownText_15 rfl rfl ?_
      refine wp_getfield 40 7 12 d_TownText_takeNumberBehind_37 rfl fl_TownText_70 rfl rfl ?_
      refine wp_goto 44 d_TownText_takeNumberBehind_40 (by decide) ?_
      refine wp_ireturn d_TownText_takeNumberBehind_44 rfl ?_
      have e : (tNB K w x y d s) = _ := (if_pos h8).trans (if_pos h30)
      rw [e] at hq
      exact hq
  · refine wp_iload 13 d_TownText_takeNumberBehind_11 rfl rfl ?_
    refine wp_ireturn d_TownText_takeNumberBehind_13 rfl ?_
    have e : (tNB K w x y d s) = _ := (if_neg h8)
    rw [e] at hq
    exact hq

end T41
