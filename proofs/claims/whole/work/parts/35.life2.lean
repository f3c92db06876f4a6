/-! ===== Life: any, holds, a step, a run ===== -/
/-- faults, struck, stand, gone, counts, rounds, draws -/
abbrev LSt : Type := (Nat → Int32) × Int32 × Int32 × Int32 × (Nat → Int32) × (Nat → Int32) × Int32
def stGo (fr to_ ea no te : Nat → Int32) (nL : Nat) (leg : Int32) (s : LSt) : LSt := (s.1, s.2.1, if canGo fr to_ (nI nL) s.2.1 s.2.2.1 leg then (if s.2.2.1 = fr leg.toNatClampNeg then to_ leg.toNatClampNeg else fr leg.toNatClampNeg) else s.2.2.1, if canGo fr to_ (nI nL) s.2.1 s.2.2.1 leg then s.2.2.2.1 + yA ea no s.1 te leg.toNatClampNeg else s.2.2.2.1, ctS s.2.2.2.2.1 (if bP (canGo fr to_ (nI nL) s.2.1 s.2.2.1 leg) = 0 then 0 else 1), s.2.2.2.2.2.1, s.2.2.2.2.2.2)
def stStr (nL : Nat) (leg : Int32) (s : LSt) : LSt := (s.1, if inR leg (nI nL) ∧ ¬ hs s.2.1 leg then s.2.1 ||| bit leg else s.2.1, s.2.2.1, s.2.2.2.1, ctS s.2.2.2.2.1 (if bP (inR leg (nI nL) ∧ ¬ hs s.2.1 leg) = 0 then 0 else 2), s.2.2.2.2.2.1, s.2.2.2.2.2.2)
def stRes (nL : Nat) (leg : Int32) (s : LSt) : LSt := (s.1, if inR leg (nI nL) ∧ hs s.2.1 leg then s.2.1 &&& (bit leg ^^^ (-1)) else s.2.1, s.2.2.1, s.2.2.2.1, ctS s.2.2.2.2.1 (if bP (inR leg (nI nL) ∧ hs s.2.1 leg) = 0 then 0 else 3), s.2.2.2.2.2.1, s.2.2.2.2.2.2)
def stBel (nW : Nat) (w f : Int32) (s : LSt) : LSt := (if inR w (nI nW) ∧ ¬ s.1 w.toNatClampNeg = f then upd s.1 w.toNatClampNeg f else s.1, s.2.1, s.2.2.1, s.2.2.2.1, if inR w (nI nW) ∧ ¬ s.1 w.toNatClampNeg = f then s.2.2.2.2.1 else ctS s.2.2.2.2.1 0, s.2.2.2.2.2.1, s.2.2.2.2.2.2)
def stDr2 (s : LSt) : LSt := (s.1, s.2.1, s.2.2.1, s.2.2.2.1, s.2.2.2.2.1, s.2.2.2.2.2.1, drS (drS s.2.2.2.2.2.2))
def stAny (fr to_ ea no te : Nat → Int32) (nL : Nat) (od : Int32) (s : LSt) : LSt :=
  if nI nL = 0 then (s.1, s.2.1, s.2.2.1, s.2.2.2.1, ctS s.2.2.2.2.1 0, s.2.2.2.2.2.1, s.2.2.2.2.2.2)
  else if drV (drS s.2.2.2.2.2.2) 16 < od then (if hs s.2.1 (drV s.2.2.2.2.2.2 (nI nL)) then stRes nL (drV s.2.2.2.2.2.2 (nI nL)) (stDr2 s) else stStr nL (drV s.2.2.2.2.2.2 (nI nL)) (stDr2 s))
  else stGo fr to_ ea no te nL (drV s.2.2.2.2.2.2 (nI nL)) (stDr2 s)
def hoV (te fr to_ ea no : Nat → Int32) (nL nP : Nat) (s : LSt) (k n : Int32) : Int32 := if k = 8 then bP (s.2.2.1 = n) else if k = 9 then bP (cloC (mE ea no s.1 te) (mN ea no s.1 te) (lTh (nI nL) s.2.1) fr to_ nL nP) else if k = 10 then bP (hs (misSC (mE ea no s.1 te) (mN ea no s.1 te) (lTh (nI nL) s.2.1) fr to_ nL nP) n) else if k = 11 then bP (s.2.2.2.1 < n) else if k = 12 then bP (n < s.2.2.2.1) else bP (s.2.2.2.1 = n)
def stLo (r : Nat) (v : Int32) (s : LSt) : LSt := (s.1, s.2.1, s.2.2.1, s.2.2.2.1, s.2.2.2.2.1, upd s.2.2.2.2.2.1 r v, s.2.2.2.2.2.2)
/-- the row behind a step, and what became of all -/
def bsF (te fr to_ ea no : Nat → Int32) (nL nP nW : Nat) (od : Int32) (dk df ds : Nat → Int32) (dro : Int32) (r : Nat) (s : LSt) : Int32 × LSt :=
  if dk r = 0 then (nI (r + 1), stGo fr to_ ea no te nL (df r) s) else if dk r = 1 then (nI (r + 1), stStr nL (df r) s) else if dk r = 2 then (nI (r + 1), stRes nL (df r) s) else if dk r = 3 then (nI (r + 1), stBel nW (df r) (ds r) s) else if dk r = 4 then (nI (r + 1), stAny fr to_ ea no te nL od s) else if dk r = 5 then (dro, s) else if dk r = 6 then (nI (r + 1), stLo r (df r) s)
  else (if hoV te fr to_ ea no nL nP s (dk r) (df r) = 0 then ds r + 1 else nI (r + 1), s)
def beF (dk ds : Nat → Int32) (r : Nat) (s : LSt) : Int32 × LSt := (if dk (ds r).toNatClampNeg = 6 ∧ 0 < s.2.2.2.2.2.1 (ds r).toNatClampNeg - 1 then ds r + 1 else nI (r + 1), (s.1, s.2.1, s.2.2.1, s.2.2.2.1, s.2.2.2.2.1, if dk (ds r).toNatClampNeg = 6 then upd s.2.2.2.2.2.1 (ds r).toNatClampNeg (s.2.2.2.2.2.1 (ds r).toNatClampNeg - 1) else s.2.2.2.2.2.1, s.2.2.2.2.2.2))
def rnF (te fr to_ ea no : Nat → Int32) (nL nP nW : Nat) (od : Int32) (dk df ds : Nat → Int32) (nR : Nat) : Nat → Int32 → Int32 → LSt → Int32 × LSt
  | 0, _, st, s => (st, s)
  | f + 1, row, st, s => if inR row (nI nR) then (if dk row.toNatClampNeg = 7 then rnF te fr to_ ea no nL nP nW od dk df ds nR f (beF dk ds row.toNatClampNeg s).1 st (beF dk ds row.toNatClampNeg s).2
      else if 300 ≤ st then (st, (s.1, s.2.1, s.2.2.1, s.2.2.2.1, upd s.2.2.2.2.1 4 1, s.2.2.2.2.2.1, s.2.2.2.2.2.2))
      else rnF te fr to_ ea no nL nP nW od dk df ds nR f (bsF te fr to_ ea no nL nP nW od dk df ds (nI nR) row.toNatClampNeg s).1 (st + 1) (bsF te fr to_ ea no nL nP nW od dk df ds (nI nR) row.toNatClampNeg s).2) else (st, s)
section T35
variable {Γ : Gm} {Q : Option Value → LH → Prop}
set_option maxRecDepth 100000 in
set_option maxHeartbeats 4000000 in
theorem c_Life_doAny {cea cno cx cy cpo cla cba lco lro fa te fr to_ ea no : Nat → Int32} {cly cpt lst ldr pl wa od sk sd go : Int32} {pn wn : Nat → Int64} {nL : Nat} (hn : nL ≤ 12) (hte : ∀ j, vp_in (te j) 4) (hq : Q none (hLT cea cno cx cy cpo cla cba cly cpt ((stAny fr to_ ea no te nL od (fa, sk, sd, go, lco, lro, ldr)).2.2.2.2.1) ((stAny fr to_ ea no te nL od (fa, sk, sd, go, lco, lro, ldr)).2.2.2.2.2.1) lst ((stAny fr to_ ea no te nL od (fa, sk, sd, go, lco, lro, ldr)).2.2.2.2.2.2) pn wn ((stAny fr to_ ea no te nL od (fa, sk, sd, go, lco, lro, ldr)).1) te fr to_ ea no pl wa (nI nL) od ((stAny fr to_ ea no te nL od (fa, sk, sd, go, lco, lro, ldr)).2.1) ((stAny fr to_ ea no te nL od (fa, sk, sd, go, lco, lro, ldr)).2.2.1) ((stAny fr to_ ea no te nL od (fa, sk, sd, go, lco, lro, ldr)).2.2.2.1))) : Call Γ M_Life_doAny 4 0 0 [.ref 0, .ref 11] (hLT cea cno cx cy cpo cla cba cly cpt lco lro lst ldr pn wn fa te fr to_ ea no pl wa (nI nL) od sk sd go) Q := by
  refine call_intro (ls := [some (.ref 0), some (.ref 11), none, none]) rfl rfl rfl ?_
  refine wp_aload_n 1 d_Life_doAny_0 rfl rfl ?_
  refine wp_getfield 4 8 10 d_Life_doAny_1 rfl fl_Life_99 rfl rfl ?_
  refine wp_if_ne 18 7 d_Life_doAny_4 rfl (by decide) (fun h4 => ?_) (fun h4 => ?_)
  · refine wp_aload_n 19 d_Life_doAny_18 rfl rfl ?_
    refine wp_aload_n 20 d_Life_doAny_19 rfl rfl ?_
    refine wp_getfield 23 8 10 d_Life_doAny_20 rfl fl_Life_99 rfl rfl ?_
    refine ws_V1 (b' := 0) 26 M_Life_draw 1 [0, 1, 2, 3, 4, 5, 6, 7, 8, 9, 10] ((hL _ _ _ _ _ _ _ _ _ _ _ _ _)) d_Life_doAny_23 rfl mv_Life_draw lk_Life_102 rfl rfl rfl rfl rfl rfl rfl (eV_int _ _) rfl ?_
    refine c_Life_draw ?_
    refine sI ?_
    simp only [putH, rC, sg, eV, List.map_cons, List.map_nil, List.set_cons_zero, List.set_cons_succ, List.length_cons, List.length_nil, List.getD_cons_zero, List.getD_cons_succ, Nat.zero_add, Nat.reduceAdd, Nat.reduceLT, if_true, ite_true]
    refine wp_istore_2 27 d_Life_doAny_26 rfl rfl rfl ?_
    refine wp_aload_n 28 d_Life_doAny_27 rfl rfl ?_
    refine wp_bipush 30 16 d_Life_doAny_28 rfl (by decide) ?_
    refine ws_V1 (b' := 0) 33 M_Life_draw 1 [0, 1, 2, 3, 4, 5, 6, 7, 8, 9, 10] ((hL _ _ _ _ _ _ _ _ _ _ _ _ _)) d_Life_doAny_30 rfl mv_Life_draw lk_Life_102 rfl rfl rfl rfl rfl rfl rfl (eV_int _ _) rfl ?_
    refine c_Life_draw ?_
    refine sI ?_
    simp only [putH, rC, sg, eV, List.map_cons, List.map_nil, List.set_cons_zero, List.set_cons_succ, List.length_cons, List.length_nil, List.getD_cons_zero, List.getD_cons_succ, Nat.zero_add, Nat.reduceAdd, Nat.reduceLT, if_true, ite_true]
    refine wp_aload_n 34 d_Life_doAny_33 rfl rfl ?_
    refine wp_getfield 37 8 11 d_Life_doAny_34 rfl fl_Life_106 rfl rfl ?_
    refine wp_icmp_ge 44 40 d_Life_doAny_37 rfl (by decide) (fun h37 => ?_) (fun h37 => ?_)
    · refine wp_iconst 45 0 d_Life_doAny_44 rfl (by decide) ?_
      refine wp_istore_3 46 d_Life_doAny_45 rfl rfl rfl ?_
      refine wp_iload_n 47 d_Life_doAny_46 rfl rfl ?_
      refine wp_if_ne 63 50 d_Life_doAny_47 rfl (by decide) (fun h47 => ?_) (fun h47 => ?_)
      · exact absurd rfl h47
      · refine wp_aload_n 51 d_Life_doAny_50 rfl rfl ?_
        refine wp_iconst 52 1 d_Life_doAny_51 rfl (by decide) ?_
        refine wp_aload_n 53 d_Life_doAny_52 rfl rfl ?_
        refine wp_iload_n 54 d_Life_doAny_53 rfl rfl ?_
        refine ws_V1 (b' := 0) 57 M_Town_walkAlong 3 [11, 12, 13, 14, 15, 16, 17, 18, 19] ((hT _ _ _ _ _ _ _ _ _ _ _ _ _ _ _)) d_Life_doAny_54 rfl mv_Town_walkAlong lk_Life_61 rfl rfl rfl rfl rfl rfl rfl (eV_int _ _) rfl ?_
        refine c_Town_walkAlong hn hte ?_
        refine sI ?_
        simp only [putH, rC, sg, eV, List.map_cons, List.map_nil, List.set_cons_zero, List.set_cons_succ, List.length_cons, List.length_nil, List.getD_cons_zero, List.getD_cons_succ, Nat.zero_add, Nat.reduceAdd, Nat.reduceLT, if_true, ite_true]
        refine ws_V2 (b' := 0) 60 M_Life_count 1 [0, 1, 2, 3, 4, 5, 6, 7, 8, 9, 10] ((hL _ _ _ _ _ _ _ _ _ _ _ _ _)) d_Life_doAny_57 rfl mv_Life_count lk_Life_67 rfl rfl rfl rfl rfl rfl rfl (eV_int _ _) (eV_int _ _) rfl ?_
        refine c_Life_count (vp_in_nI (n := 1) (by omega) (by omega)) ?_
        refine sV ?_
        simp only [putH, rC, sg, eV, List.map_cons, List.map_nil, List.set_cons_zero, List.set_cons_succ, List.length_cons, List.length_nil, List.getD_cons_zero, List.getD_cons_succ, Nat.zero_add, Nat.reduceAdd, Nat.reduceLT, if_true, ite_true]
        refine wp_goto 97 d_Life_doAny_60 (by decide) ?_
        refine wp_return d_Life_doAny_97 rfl ?_
        have h8 : ¬ drV (drS ldr) 16 < od := Int32.not_lt.mpr h37
        simp only [stAny, if_neg h4, if_neg h8] at hq; exact hq
    · refine wp_iconst 41 1 d_Life_doAny_40 rfl (by decide) ?_
      refine wp_goto 45 d_Life_doAny_41 (by decide) ?_
      refine wp_istore_3 46 d_Life_doAny_45 rfl rfl rfl ?_
      refine wp_iload_n 47 d_Life_doAny_46 rfl rfl ?_
      refine wp_if_ne 63 50 d_Life_doAny_47 rfl (by decide) (fun h47 => ?_) (fun h47 => ?_)
      · refine wp_aload_n 64 d_Life_doAny_63 rfl rfl ?_
        refine wp_getfield 67 8 12 d_Life_doAny_64 rfl fl_Life_109 rfl rfl ?_
        refine wp_iload_n 68 d_Life_doAny_67 rfl rfl ?_
        refine wp_N2 71 M_PM_has 1 d_Life_doAny_68 rfl ms_PM_has lk_Life_112 rfl rfl ?_
        refine c_PM_has ?_
        refine kI ?_
        (first | refine wp_ifP_eq 87 74 d_Life_doAny_71 rfl (by decide) (fun h71 => ?_) (fun h71 => ?_) | refine wp_if_eq 87 74 d_Life_doAny_71 rfl (by decide) (fun h71 => ?_) (fun h71 => ?_))
        · refine wp_aload_n 88 d_Life_doAny_87 rfl rfl ?_
          refine wp_iconst 89 2 d_Life_doAny_88 rfl (by decide) ?_
          refine wp_aload_n 90 d_Life_doAny_89 rfl rfl ?_
          refine wp_iload_n 91 d_Life_doAny_90 rfl rfl ?_
          refine ws_V1 (b' := 0) 94 M_Town_strikeLeg 2 [11, 12, 13, 14, 15, 16, 17, 18, 19] ((hT _ _ _ _ _ _ _ _ _ _ _ _ _ _ _)) d_Life_doAny_91 rfl mv_Town_strikeLeg lk_Life_71 rfl rfl rfl rfl rfl rfl rfl (eV_int _ _) rfl ?_
          refine c_Town_strikeLeg ?_
          refine sI ?_
          simp only [putH, rC, sg, eV, List.map_cons, List.map_nil, List.set_cons_zero, List.set_cons_succ, List.length_cons, List.length_nil, List.getD_cons_zero, List.getD_cons_succ, Nat.zero_add, Nat.reduceAdd, Nat.reduceLT, if_true, ite_true]
          refine ws_V2 (b' := 0) 97 M_Life_count 1 [0, 1, 2, 3, 4, 5, 6, 7, 8, 9, 10] ((hL _ _ _ _ _ _ _ _ _ _ _ _ _)) d_Life_doAny_94 rfl mv_Life_count lk_Life_67 rfl rfl rfl rfl rfl rfl rfl (eV_int _ _) (eV_int _ _) rfl ?_
          refine c_Life_count (vp_in_nI (n := 2) (by omega) (by omega)) ?_
          refine sV ?_
          simp only [putH, rC, sg, eV, List.map_cons, List.map_nil, List.set_cons_zero, List.set_cons_succ, List.length_cons, List.length_nil, List.getD_cons_zero, List.getD_cons_succ, Nat.zero_add, Nat.reduceAdd, Nat.reduceLT, if_true, ite_true]
          refine wp_return d_Life_doAny_97 rfl ?_
          have h8 : drV (drS ldr) 16 < od := Int32.not_le.mp h37
          simp only [stAny, if_neg h4, if_pos h8, if_neg h71] at hq; exact hq
        · refine wp_aload_n 75 d_Life_doAny_74 rfl rfl ?_
          refine wp_iconst 76 3 d_Life_doAny_75 rfl (by decide) ?_
          refine wp_aload_n 77 d_Life_doAny_76 rfl rfl ?_
          refine wp_iload_n 78 d_Life_doAny_77 rfl rfl ?_
          refine ws_V1 (b' := 0) 81 M_Town_restoreLeg 2 [11, 12, 13, 14, 15, 16, 17, 18, 19] ((hT _ _ _ _ _ _ _ _ _ _ _ _ _ _ _)) d_Life_doAny_78 rfl mv_Town_restoreLeg lk_Life_74 rfl rfl rfl rfl rfl rfl rfl (eV_int _ _) rfl ?_
          refine c_Town_restoreLeg ?_
          refine sI ?_
          simp only [putH, rC, sg, eV, List.map_cons, List.map_nil, List.set_cons_zero, List.set_cons_succ, List.length_cons, List.length_nil, List.getD_cons_zero, List.getD_cons_succ, Nat.zero_add, Nat.reduceAdd, Nat.reduceLT, if_true, ite_true]
          refine ws_V2 (b' := 0) 84 M_Life_count 1 [0, 1, 2, 3, 4, 5, 6, 7, 8, 9, 10] ((hL _ _ _ _ _ _ _ _ _ _ _ _ _)) d_Life_doAny_81 rfl mv_Life_count lk_Life_67 rfl rfl rfl rfl rfl rfl rfl (eV_int _ _) (eV_int _ _) rfl ?_
          refine c_Life_count (vp_in_nI (n := 3) (by omega) (by omega)) ?_
          refine sV ?_
          simp only [putH, rC, sg, eV, List.map_cons, List.map_nil, List.set_cons_zero, List.set_cons_succ, List.length_cons, List.length_nil, List.getD_cons_zero, List.getD_cons_succ, Nat.zero_add, Nat.reduceAdd, Nat.reduceLT, if_true, ite_true]
          refine wp_goto 97 d_Life_doAny_84 (by decide) ?_
          refine wp_return d_Life_doAny_97 rfl ?_
          have h8 : drV (drS ldr) 16 < od := Int32.not_le.mp h37
          simp only [stAny, if_neg h4, if_pos h8, if_pos h71] at hq; exact hq
      · exact absurd h47 (by decide)
  · refine wp_aload_n 8 d_Life_doAny_7 rfl rfl ?_
    refine wp_getfield 11 5 1 d_Life_doAny_8 rfl fl_Life_18 rfl rfl ?_
    refine wp_iconst 12 0 d_Life_doAny_11 rfl (by decide) ?_
    refine wp_dup2 13 d_Life_doAny_12 rfl rfl rfl ?_
    refine wp_iaload 14 d_Life_doAny_13 rfl rfl (vp_in_nI (n := 0) (by omega) (by omega)) ?_
    refine wp_iconst 15 1 d_Life_doAny_14 rfl (by decide) ?_
    refine wp_iadd 16 d_Life_doAny_15 rfl ?_
    refine wp_iastore 17 d_Life_doAny_16 rfl rfl (vp_in_nI (n := 0) (by omega) (by omega)) ?_
    dsimp only [List.set]
    refine wp_return d_Life_doAny_17 rfl ?_
    simp only [stAny, if_pos h4] at hq; exact hq

set_option maxRecDepth 100000 in
set_option maxHeartbeats 4000000 in
theorem c_Life_holds {lco lro fa te fr to_ ea no : Nat → Int32} {lst ldr wa od sk sd go : Int32} {pn wn : Nat → Int64} {cea cno cx cy cpo cla cba : Nat → Int32} {cly cpt : Int32} {nL nP : Nat} {k n : Int32} (hn : nL ≤ 12) (hP : nP ≤ 7) (hte : ∀ j, vp_in (te j) 4) (hfr : ∀ j, vp_in (fr j) 7) (hto : ∀ j, vp_in (to_ j) 7) (hla : ∀ j, vp_in (cla j) 12) (hq : ∀ (cea cno cx cy cpo cla cba : Nat → Int32) (cly cpt : Int32), (∀ j, vp_in (cla j) 12) → Q (some (.int (hoV te fr to_ ea no nL nP (fa, sk, sd, go, lco, lro, ldr) k n))) (hLT cea cno cx cy cpo cla cba cly cpt lco lro lst ldr pn wn fa te fr to_ ea no (nI nP) wa (nI nL) od sk sd go)) : Call Γ M_Life_holds 5 0 0 [.ref 0, .ref 11, .int k, .int n] (hLT cea cno cx cy cpo cla cba cly cpt lco lro lst ldr pn wn fa te fr to_ ea no (nI nP) wa (nI nL) od sk sd go) Q := by
  refine call_intro (ls := [some (.ref 0), some (.ref 11), some (.int k), some (.int n)]) rfl rfl rfl ?_
  refine wp_iload_n 1 d_Life_holds_0 rfl rfl ?_
  by_cases h1_0 : k = 8
  · refine wp_tabIn (off := 35) 36 8 d_Life_holds_1 h1_0 (by decide) (by decide) (by decide) (by decide) ?_
    refine wp_aload_n 37 d_Life_holds_36 rfl rfl ?_
    refine wp_getfield 40 8 13 d_Life_holds_37 rfl fl_Life_116 rfl rfl ?_
    refine wp_iload_n 41 d_Life_holds_40 rfl rfl ?_
    refine wp_icmp_ne 48 44 d_Life_holds_41 rfl (by decide) (fun h41 => ?_) (fun h41 => ?_)
    · refine wp_iconst 49 0 d_Life_holds_48 rfl (by decide) ?_
      refine wp_zreturn d_Life_holds_49 rfl (by first | rfl | exact nbP _) ?_
      have h9 := hq cea cno cx cy cpo cla cba cly cpt hla
      simp only [hoV, if_pos h1_0] at h9; first | exact bq0 h41 h9 | exact bq1 h41 h9
    · refine wp_iconst 45 1 d_Life_holds_44 rfl (by decide) ?_
      refine wp_goto 49 d_Life_holds_45 (by decide) ?_
      refine wp_zreturn d_Life_holds_49 rfl (by first | rfl | exact nbP _) ?_
      have h9 := hq cea cno cx cy cpo cla cba cly cpt hla
      simp only [hoV, if_pos h1_0] at h9; first | exact bq0 h41 h9 | exact bq1 h41 h9
  by_cases h1_1 : k = 9
  · refine wp_tabIn (off := 49) 50 9 d_Life_holds_1 h1_1 (by decide) (by decide) (by decide) (by decide) ?_
    refine wp_aload_n 51 d_Life_holds_50 rfl rfl ?_
    refine wp_getfield 54 5 0 d_Life_holds_51 rfl fl_Life_12 rfl rfl ?_
    refine wp_aload_n 55 d_Life_holds_54 rfl rfl ?_
    refine ws_V1 (v1' := .ref 8) (b' := 0) 58 M_Chart_draw 4 [1, 2, 3, 4, 5, 6, 7, 8, 11, 12, 13, 14, 15, 16, 17, 18, 19] ((hCT _ _ _ _ _ _ _ _ _ _ _ _ _ _ _ _ _ _ _ _ _ _ _ _)) d_Life_holds_55 rfl mv_Chart_draw lk_Life_119 rfl rfl rfl rfl rfl rfl rfl rfl rfl ?_
    refine c_Chart_drawC hn hP hte hfr hto hla (fun cea cno cx cy cpo cla cba cly hA hla => ?_)
    refine sV ?_
    simp only [putH, rC, sg, eV, List.map_cons, List.map_nil, List.set_cons_zero, List.set_cons_succ, List.length_cons, List.length_nil, List.getD_cons_zero, List.getD_cons_succ, Nat.zero_add, Nat.reduceAdd, Nat.reduceLT, if_true, ite_true]
    refine wp_aload_n 59 d_Life_holds_58 rfl rfl ?_
    refine wp_getfield 62 5 0 d_Life_holds_59 rfl fl_Life_12 rfl rfl ?_
    refine wp_aload_n 63 d_Life_holds_62 rfl rfl ?_
    refine wp_aload_n 64 d_Life_holds_63 rfl rfl ?_
    refine ws_V0 (b' := 0) 67 M_Town_legsThere 1 [11, 12, 13, 14, 15, 16, 17, 18, 19] ((hT _ _ _ _ _ _ _ _ _ _ _ _ _ _ _)) d_Life_holds_64 rfl mv_Town_legsThere lk_Life_121 rfl rfl rfl rfl rfl rfl rfl rfl ?_
    refine c_Town_legsThere ?_
    refine sIr rfl rfl ?_
    refine ws_V2 (v1' := .ref 8) (b' := 0) 70 M_Chart_closes 3 [1, 2, 3, 4, 5, 6, 7, 8, 11, 12, 13, 14, 15, 16, 17, 18, 19] ((hCT _ _ _ _ _ _ _ _ _ _ _ _ _ _ _ _ _ _ _ _ _ _ _ _)) d_Life_holds_67 rfl mv_Chart_closes lk_Life_125 rfl rfl rfl rfl rfl rfl rfl rfl (eV_int _ _) rfl ?_
    refine c_Chart_closesC hn hfr hto hA ?_
    refine sIr rfl rfl ?_
    refine wp_zreturn d_Life_holds_70 rfl (by first | rfl | exact nbP _) ?_
    have h9 := hq cea cno cx cy cpo cla cba cly (nI (pOf (lTh (nI nL) sk) fr to_ nL nP).2.2.2.2.1) hla
    simp only [hoV, if_neg h1_0, if_pos h1_1] at h9; exact h9
  by_cases h1_2 : k = 10
  · refine wp_tabIn (off := 70) 71 10 d_Life_holds_1 h1_2 (by decide) (by decide) (by decide) (by decide) ?_
    refine wp_aload_n 72 d_Life_holds_71 rfl rfl ?_
    refine wp_getfield 75 5 0 d_Life_holds_72 rfl fl_Life_12 rfl rfl ?_
    refine wp_aload_n 76 d_Life_holds_75 rfl rfl ?_
    refine ws_V1 (v1' := .ref 8) (b' := 0) 79 M_Chart_draw 4 [1, 2, 3, 4, 5, 6, 7, 8, 11, 12, 13, 14, 15, 16, 17, 18, 19] ((hCT _ _ _ _ _ _ _ _ _ _ _ _ _ _ _ _ _ _ _ _ _ _ _ _)) d_Life_holds_76 rfl mv_Chart_draw lk_Life_119 rfl rfl rfl rfl rfl rfl rfl rfl rfl ?_
    refine c_Chart_drawC hn hP hte hfr hto hla (fun cea cno cx cy cpo cla cba cly hA hla => ?_)
    refine sV ?_
    simp only [putH, rC, sg, eV, List.map_cons, List.map_nil, List.set_cons_zero, List.set_cons_succ, List.length_cons, List.length_nil, List.getD_cons_zero, List.getD_cons_succ, Nat.zero_add, Nat.reduceAdd, Nat.reduceLT, if_true, ite_true]
    refine wp_aload_n 80 d_Life_holds_79 rfl rfl ?_
    refine wp_getfield 83 5 0 d_Life_holds_80 rfl fl_Life_12 rfl rfl ?_
    refine wp_aload_n 84 d_Life_holds_83 rfl rfl ?_
    refine ws_V1 (v1' := .ref 8) (b' := 0) 87 M_Chart_missSet 4 [1, 2, 3, 4, 5, 6, 7, 8, 11, 12, 13, 14, 15, 16, 17, 18, 19] ((hCT _ _ _ _ _ _ _ _ _ _ _ _ _ _ _ _ _ _ _ _ _ _ _ _)) d_Life_holds_84 rfl mv_Chart_missSet lk_Life_129 rfl rfl rfl rfl rfl rfl rfl rfl rfl ?_
    refine c_Chart_missSetC hn hfr hto hA ?_
    refine sIr rfl rfl ?_
    refine wp_iload_n 88 d_Life_holds_87 rfl rfl ?_
    refine wp_N2 91 M_PM_has 1 d_Life_holds_88 rfl ms_PM_has lk_Life_112 rfl rfl ?_
    refine c_PM_has ?_
    refine kI ?_
    refine wp_zreturn d_Life_holds_91 rfl (by first | rfl | exact nbP _) ?_
    have h9 := hq cea cno cx cy cpo cla cba cly (nI (pOf (lTh (nI nL) sk) fr to_ nL nP).2.2.2.2.1) hla
    simp only [hoV, if_neg h1_0, if_neg h1_1, if_pos h1_2] at h9; exact h9
  by_cases h1_3 : k = 11
  · refine wp_tabIn (off := 91) 92 11 d_Life_holds_1 h1_3 (by decide) (by decide) (by decide) (by decide) ?_
    refine wp_aload_n 93 d_Life_holds_92 rfl rfl ?_
    refine wp_getfield 96 8 14 d_Life_holds_93 rfl fl_Life_133 rfl rfl ?_
    refine wp_iload_n 97 d_Life_holds_96 rfl rfl ?_
    refine wp_icmp_ge 104 100 d_Life_holds_97 rfl (by decide) (fun h97 => ?_) (fun h97 => ?_)
    · refine wp_iconst 105 0 d_Life_holds_104 rfl (by decide) ?_
      refine wp_zreturn d_Life_holds_105 rfl (by first | rfl | exact nbP _) ?_
      have h9 := hq cea cno cx cy cpo cla cba cly cpt hla
      simp only [hoV, if_neg h1_0, if_neg h1_1, if_neg h1_2, if_pos h1_3] at h9; first | exact bq0 (Int32.not_lt.mpr h97) h9 | exact bq1 (Int32.not_le.mp h97) h9
    · refine wp_iconst 101 1 d_Life_holds_100 rfl (by decide) ?_
      refine wp_goto 105 d_Life_holds_101 (by decide) ?_
      refine wp_zreturn d_Life_holds_105 rfl (by first | rfl | exact nbP _) ?_
      have h9 := hq cea cno cx cy cpo cla cba cly cpt hla
      simp only [hoV, if_neg h1_0, if_neg h1_1, if_neg h1_2, if_pos h1_3] at h9; first | exact bq0 (Int32.not_lt.mpr h97) h9 | exact bq1 (Int32.not_le.mp h97) h9
  by_cases h1_4 : k = 12
  · refine wp_tabIn (off := 105) 106 12 d_Life_holds_1 h1_4 (by decide) (by decide) (by decide) (by decide) ?_
    refine wp_aload_n 107 d_Life_holds_106 rfl rfl ?_
    refine wp_getfield 110 8 14 d_Life_holds_107 rfl fl_Life_133 rfl rfl ?_
    refine wp_iload_n 111 d_Life_holds_110 rfl rfl ?_
    refine wp_icmp_le 118 114 d_Life_holds_111 rfl (by decide) (fun h111 => ?_) (fun h111 => ?_)
    · refine wp_iconst 119 0 d_Life_holds_118 rfl (by decide) ?_
      refine wp_zreturn d_Life_holds_119 rfl (by first | rfl | exact nbP _) ?_
      have h9 := hq cea cno cx cy cpo cla cba cly cpt hla
      simp only [hoV, if_neg h1_0, if_neg h1_1, if_neg h1_2, if_neg h1_3, if_pos h1_4] at h9; first | exact bq0 (Int32.not_lt.mpr h111) h9 | exact bq1 (Int32.not_le.mp h111) h9
    · refine wp_iconst 115 1 d_Life_holds_114 rfl (by decide) ?_
      refine wp_goto 119 d_Life_holds_115 (by decide) ?_
      refine wp_zreturn d_Life_holds_119 rfl (by first | rfl | exact nbP _) ?_
      have h9 := hq cea cno cx cy cpo cla cba cly cpt hla
      simp only [hoV, if_neg h1_0, if_neg h1_1, if_neg h1_2, if_neg h1_3, if_pos h1_4] at h9; first | exact bq0 (Int32.not_lt.mpr h111) h9 | exact bq1 (Int32.not_le.mp h111) h9
  refine wp_tabOut 120 d_Life_holds_1 (sw_outL 8 5 (by omega) (fun i hi => match i, hi with
      | 0, _ => h1_0
      | 1, _ => h1_1
      | 2, _ => h1_2
      | 3, _ => h1_3
      | 4, _ => h1_4
      | i + 5, hi => absurd hi (by omega))) (by decide) ?_
  refine wp_aload_n 121 d_Life_holds_120 rfl rfl ?_
  refine wp_getfield 124 8 14 d_Life_holds_121 rfl fl_Life_133 rfl rfl ?_
  refine wp_iload_n 125 d_Life_holds_124 rfl rfl ?_
  refine wp_icmp_ne 132 128 d_Life_holds_125 rfl (by decide) (fun h125 => ?_) (fun h125 => ?_)
  · refine wp_iconst 133 0 d_Life_holds_132 rfl (by decide) ?_
    refine wp_zreturn d_Life_holds_133 rfl (by first | rfl | exact nbP _) ?_
    have h9 := hq cea cno cx cy cpo cla cba cly cpt hla
    simp only [hoV, if_neg h1_0, if_neg h1_1, if_neg h1_2, if_neg h1_3, if_neg h1_4] at h9; first | exact bq0 h125 h9 | exact bq1 h125 h9
  · refine wp_iconst 129 1 d_Life_holds_128 rfl (by decide) ?_
    refine wp_goto 133 d_Life_holds_129 (by decide) ?_
    refine wp_zreturn d_Life_holds_133 rfl (by first | rfl | exact nbP _) ?_
    have h9 := hq cea cno cx cy cpo cla cba cly cpt hla
    simp only [hoV, if_neg h1_0, if_neg h1_1, if_neg h1_2, if_neg h1_3, if_neg h1_4] at h9; first | exact bq0 h125 h9 | exact bq1 h125 h9

end T35
