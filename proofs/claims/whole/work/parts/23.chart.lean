/-! ===== Chart ===== -/
abbrev hCT (cea : Nat → Int32) (cno : Nat → Int32) (cx : Nat → Int32) (cy : Nat → Int32) (cpo : Nat → Int32) (cla : Nat → Int32) (cba : Nat → Int32) (cly : Int32) (cpt : Int32) (pn : Nat → Int64) (wn : Nat → Int64) (fa : Nat → Int32) (te : Nat → Int32) (fr : Nat → Int32) (to_ : Nat → Int32) (ea : Nat → Int32) (no : Nat → Int32) (pl : Int32) (wa : Int32) (le : Int32) (od : Int32) (sk : Int32) (sd : Int32) (go : Int32) : LH := [cO 0 [.ref 1, .ref 2, .ref 3, .ref 4, .ref 5, .ref 6, .ref 7, .int cly, .int cpt], cI 12 cea, cI 12 cno, cI 7 cx, cI 7 cy, cI 7 cpo, cI 7 cla, cZ 7 cba, cO 8 [.ref 9, .ref 10, .ref 11, .ref 12, .ref 13, .ref 14, .ref 15, .ref 16, .int pl, .int wa, .int le, .int od, .int sk, .int sd, .int go], cL 7 pn, cL 4 wn, cI 4 fa, cI 12 te, cI 12 fr, cI 12 to_, cI 12 ea, cI 12 no]
abbrev un (po fr : Nat → Int32) (l : Nat) : Prop := po (fr l).toNatClampNeg = -1
abbrev layP (there : Int32) (po fr to_ : Nat → Int32) (l : Nat) : Prop := hs there (nI l) ∧ ¬ (un po fr l ↔ un po to_ l)
def mE (ea no fa te : Nat → Int32) (l : Nat) : Int32 := rE (ea l) (no l) (fa (te l).toNatClampNeg)
def mN (ea no fa te : Nat → Int32) (l : Nat) : Int32 := rN (ea l) (no l) (fa (te l).toNatClampNeg)
section T23
variable {Γ : Gm} {Q : Option Value → LH → Prop}
set_option maxRecDepth 100000 in
set_option maxHeartbeats 4000000 in
theorem l_Chart_measure_2 {cea cno cx cy cpo cla cba fa te fr to_ ea no : Nat → Int32} {cly cpt pl wa od sk sd go : Int32} {pn wn : Nat → Int64} {nL : Nat} (hn : nL ≤ 12) (hte : ∀ j, vp_in (te j) 4) (hq : Q none (hCT (fun j => if j < nL then mE ea no fa te j else cea j) (fun j => if j < nL then mN ea no fa te j else cno j) cx cy cpo cla cba cly cpt pn wn fa te fr to_ ea no pl wa (nI nL) od sk sd go)) : ∀ (r i : Nat) , i + r = nL → WP Γ M_Chart_measure 3 0 0 (hCT (fun j => if j < i then mE ea no fa te j else cea j) (fun j => if j < i then mN ea no fa te j else cno j) cx cy cpo cla cba cly cpt pn wn fa te fr to_ ea no pl wa (nI nL) od sk sd go) 2 [some (.ref 0), some (.ref 8), some (.int (nI i)), none] [] Q := by
  intro r
  induction r with
  | zero =>
    intro i  hi 
    refine wp_iload_n 3 d_Chart_measure_2 rfl rfl ?_
    refine wp_aload_n 4 d_Chart_measure_3 rfl rfl ?_
    refine wp_getfield 7 8 10 d_Chart_measure_4 rfl fl_Chart_58 rfl rfl ?_
    refine wp_icmp_ge 52 10 d_Chart_measure_7 rfl (by decide) (fun h7 => ?_) (fun h7 => ?_)
    · refine wp_return d_Chart_measure_52 rfl ?_
      have e : i = nL := by omega
      subst e
      exact hq
    · exact absurd ((nI_leI (by omega) (by omega)).mpr (by omega)) h7
  | succ r ih =>
    intro i  hi 
    refine wp_iload_n 3 d_Chart_measure_2 rfl rfl ?_
    refine wp_aload_n 4 d_Chart_measure_3 rfl rfl ?_
    refine wp_getfield 7 8 10 d_Chart_measure_4 rfl fl_Chart_58 rfl rfl ?_
    refine wp_icmp_ge 52 10 d_Chart_measure_7 rfl (by decide) (fun h7 => ?_) (fun h7 => ?_)
    · exact absurd (nI_leN h7 (by omega) (by omega)) (by omega)
    · refine wp_aload_n 11 d_Chart_measure_10 rfl rfl ?_
      refine wp_getfield 14 8 2 d_Chart_measure_11 rfl fl_Chart_61 rfl rfl ?_
      refine wp_aload_n 15 d_Chart_measure_14 rfl rfl ?_
      refine wp_getfield 18 8 3 d_Chart_measure_15 rfl fl_Chart_64 rfl rfl ?_
      refine wp_iload_n 19 d_Chart_measure_18 rfl rfl ?_
      refine wp_ialoadN 20 d_Chart_measure_19 rfl rfl rfl (by omega) ?_
      refine wp_iaload 21 d_Chart_measure_20 rfl rfl (hte _) ?_
      refine wp_istore_3 22 d_Chart_measure_21 rfl rfl rfl ?_
      refine wp_aload_n 23 d_Chart_measure_22 rfl rfl ?_
      refine wp_getfield 26 0 0 d_Chart_measure_23 rfl fl_Chart_9 rfl rfl ?_
      refine wp_iload_n 27 d_Chart_measure_26 rfl rfl ?_
      refine wp_aload_n 28 d_Chart_measure_27 rfl rfl ?_
      refine wp_iload_n 29 d_Chart_measure_28 rfl rfl ?_
      refine wp_iload_n 30 d_Chart_measure_29 rfl rfl ?_
      refine ws_V2 (b' := 0) 33 M_Town_rightEast 2 [8, 9, 10, 11, 12, 13, 14, 15, 16] ((hT _ _ _ _ _ _ _ _ _ _ _ _ _ _ _)) d_Chart_measure_30 rfl mv_Town_rightEast lk_Chart_67 rfl rfl rfl rfl rfl rfl rfl (eV_int _ _) (eV_int _ _) rfl ?_
      refine c_Town_rightEast (by omega) ?_
      refine sIr rfl rfl ?_
      refine wp_iastoreN 34 d_Chart_measure_33 rfl rfl rfl (by omega) ?_
      dsimp only [List.set]
      refine wp_aload_n 35 d_Chart_measure_34 rfl rfl ?_
      refine wp_getfield 38 0 1 d_Chart_measure_35 rfl fl_Chart_15 rfl rfl ?_
      refine wp_iload_n 39 d_Chart_measure_38 rfl rfl ?_
      refine wp_aload_n 40 d_Chart_measure_39 rfl rfl ?_
      refine wp_iload_n 41 d_Chart_measure_40 rfl rfl ?_
      refine wp_iload_n 42 d_Chart_measure_41 rfl rfl ?_
      refine ws_V2 (b' := 0) 45 M_Town_rightNorth 2 [8, 9, 10, 11, 12, 13, 14, 15, 16] ((hT _ _ _ _ _ _ _ _ _ _ _ _ _ _ _)) d_Chart_measure_42 rfl mv_Town_rightNorth lk_Chart_71 rfl rfl rfl rfl rfl rfl rfl (eV_int _ _) (eV_int _ _) rfl ?_
      refine c_Town_rightNorth (by omega) ?_
      refine sIr rfl rfl ?_
      refine wp_iastoreN 46 d_Chart_measure_45 rfl rfl rfl (by omega) ?_
      dsimp only [List.set]
      first | refine wp_iincN_2 49 d_Chart_measure_46 rfl rfl rfl ?_ | refine wp_iinc_2 49 1 d_Chart_measure_46 rfl (by decide) rfl rfl ?_
      refine wp_goto 2 d_Chart_measure_49 (by decide) ?_
      refine wp_fgt (ls' := [some (.ref 0), some (.ref 8), some (.int (nI (i + 1))), none]) ⟨rfl, rfl, rfl, trivial⟩ ?_
      have e1 : upd (fun j => if j < i then mE ea no fa te j else cea j) i (rE (ea i) (no i) (fa (te i).toNatClampNeg)) = fun j => if j < i + 1 then mE ea no fa te j else cea j := upd_lt (f := mE ea no fa te)
      have e2 : upd (fun j => if j < i then mN ea no fa te j else cno j) i (rN (ea i) (no i) (fa (te i).toNatClampNeg)) = fun j => if j < i + 1 then mN ea no fa te j else cno j := upd_lt (f := mN ea no fa te)
      have := ih (i + 1) (by omega)
      rw [e1, e2]
      exact this

set_option maxRecDepth 100000 in
set_option maxHeartbeats 4000000 in
theorem c_Chart_measure {cea cno cx cy cpo cla cba fa te fr to_ ea no : Nat → Int32} {cly cpt pl wa od sk sd go : Int32} {pn wn : Nat → Int64} {nL : Nat} (hn : nL ≤ 12) (hte : ∀ j, vp_in (te j) 4) (hq : Q none (hCT (fun j => if j < nL then mE ea no fa te j else cea j) (fun j => if j < nL then mN ea no fa te j else cno j) cx cy cpo cla cba cly cpt pn wn fa te fr to_ ea no pl wa (nI nL) od sk sd go)) : Call Γ M_Chart_measure 3 0 0 [.ref 0, .ref 8] (hCT cea cno cx cy cpo cla cba cly cpt pn wn fa te fr to_ ea no pl wa (nI nL) od sk sd go) Q := by
  refine call_intro (ls := [some (.ref 0), some (.ref 8), none, none]) rfl rfl rfl ?_
  refine wp_iconst 1 0 d_Chart_measure_0 rfl (by decide) ?_
  refine wp_istore_2 2 d_Chart_measure_1 rfl rfl rfl ?_
  have := l_Chart_measure_2 (Γ := Γ) (cea := cea) (cno := cno) hn hte hq nL 0 (by omega)
  simp only [lt_0f] at this
  exact this

set_option maxRecDepth 100000 in
set_option maxHeartbeats 4000000 in
theorem l_Chart_measureBy_3 {cea cno cx cy cpo cla cba fa te fr to_ ea no : Nat → Int32} {cly cpt pl wa od sk sd go : Int32} {pn wn : Nat → Int64} {nL : Nat} {w f : Int32} (hn : nL ≤ 12) (hq : Q none (hCT (fun j => if j < nL ∧ te j = w then rE (ea j) (no j) f else cea j) (fun j => if j < nL ∧ te j = w then rN (ea j) (no j) f else cno j) cx cy cpo cla cba cly cpt pn wn fa te fr to_ ea no pl wa (nI nL) od sk sd go)) : ∀ (r i : Nat) , i + r = nL → WP Γ M_Chart_measureBy 3 0 0 (hCT (fun j => if j < i ∧ te j = w then rE (ea j) (no j) f else cea j) (fun j => if j < i ∧ te j = w then rN (ea j) (no j) f else cno j) cx cy cpo cla cba cly cpt pn wn fa te fr to_ ea no pl wa (nI nL) od sk sd go) 3 [some (.ref 0), some (.ref 8), some (.int w), some (.int f), some (.int (nI i))] [] Q := by
  intro r
  induction r with
  | zero =>
    intro i  hi 
    refine wp_iload 5 d_Chart_measureBy_3 rfl rfl ?_
    refine wp_aload_n 6 d_Chart_measureBy_5 rfl rfl ?_
    refine wp_getfield 9 8 10 d_Chart_measureBy_6 rfl fl_Chart_58 rfl rfl ?_
    refine wp_icmp_ge 57 12 d_Chart_measureBy_9 rfl (by decide) (fun h9 => ?_) (fun h9 => ?_)
    · refine wp_return d_Chart_measureBy_57 rfl ?_
      have e : i = nL := by omega
      subst e
      exact hq
    · exact absurd ((nI_leI (by omega) (by omega)).mpr (by omega)) h9
  | succ r ih =>
    intro i  hi 
    refine wp_iload 5 d_Chart_measureBy_3 rfl rfl ?_
    refine wp_aload_n 6 d_Chart_measureBy_5 rfl rfl ?_
    refine wp_getfield 9 8 10 d_Chart_measureBy_6 rfl fl_Chart_58 rfl rfl ?_
    refine wp_icmp_ge 57 12 d_Chart_measureBy_9 rfl (by decide) (fun h9 => ?_) (fun h9 => ?_)
    · exact absurd (nI_leN h9 (by omega) (by omega)) (by omega)
    · refine wp_aload_n 13 d_Chart_measureBy_12 rfl rfl ?_
      refine wp_getfield 16 8 3 d_Chart_measureBy_13 rfl fl_Chart_64 rfl rfl ?_
      refine wp_iload 18 d_Chart_measureBy_16 rfl rfl ?_
      refine wp_ialoadN 19 d_Chart_measureBy_18 rfl rfl rfl (by omega) ?_
      refine wp_iload_n 20 d_Chart_measureBy_19 rfl rfl ?_
      refine wp_icmp_ne 51 23 d_Chart_measureBy_20 rfl (by decide) (fun h20 => ?_) (fun h20 => ?_)
      · first | refine wp_iincN_4 54 d_Chart_measureBy_51 rfl rfl rfl ?_ | refine wp_iinc_4 54 1 d_Chart_measureBy_51 rfl (by decide) rfl rfl ?_
        refine wp_goto 3 d_Chart_measureBy_54 (by decide) ?_
        have := ih (i + 1) (by omega)
        first | (have e1 := upd_ltc (f := fun j => rE (ea j) (no j) f) (g := cea) (i := i) (p := fun j => te j = w) h20; have e2 := upd_ltc (f := fun j => rN (ea j) (no j) f) (g := cno) (i := i) (p := fun j => te j = w) h20; rw [e1, e2]; exact this) | (have e1 := upd_ltn (f := fun j => rE (ea j) (no j) f) (g := cea) (i := i) (p := fun j => te j = w) h20; have e2 := upd_ltn (f := fun j => rN (ea j) (no j) f) (g := cno) (i := i) (p := fun j => te j = w) h20; rw [e1, e2]; exact this)
      · refine wp_aload_n 24 d_Chart_measureBy_23 rfl rfl ?_
        refine wp_getfield 27 0 0 d_Chart_measureBy_24 rfl fl_Chart_9 rfl rfl ?_
        refine wp_iload 29 d_Chart_measureBy_27 rfl rfl ?_
        refine wp_aload_n 30 d_Chart_measureBy_29 rfl rfl ?_
        refine wp_iload 32 d_Chart_measureBy_30 rfl rfl ?_
        refine wp_iload_n 33 d_Chart_measureBy_32 rfl rfl ?_
        refine ws_V2 (b' := 0) 36 M_Town_rightEast 2 [8, 9, 10, 11, 12, 13, 14, 15, 16] ((hT _ _ _ _ _ _ _ _ _ _ _ _ _ _ _)) d_Chart_measureBy_33 rfl mv_Town_rightEast lk_Chart_67 rfl rfl rfl rfl rfl rfl rfl (eV_int _ _) (eV_int _ _) rfl ?_
        refine c_Town_rightEast (by omega) ?_
        refine sIr rfl rfl ?_
        refine wp_iastoreN 37 d_Chart_measureBy_36 rfl rfl rfl (by omega) ?_
        dsimp only [List.set]
        refine wp_aload_n 38 d_Chart_measureBy_37 rfl rfl ?_
        refine wp_getfield 41 0 1 d_Chart_measureBy_38 rfl fl_Chart_15 rfl rfl ?_
        refine wp_iload 43 d_Chart_measureBy_41 rfl rfl ?_
        refine wp_aload_n 44 d_Chart_measureBy_43 rfl rfl ?_
        refine wp_iload 46 d_Chart_measureBy_44 rfl rfl ?_
        refine wp_iload_n 47 d_Chart_measureBy_46 rfl rfl ?_
        refine ws_V2 (b' := 0) 50 M_Town_rightNorth 2 [8, 9, 10, 11, 12, 13, 14, 15, 16] ((hT _ _ _ _ _ _ _ _ _ _ _ _ _ _ _)) d_Chart_measureBy_47 rfl mv_Town_rightNorth lk_Chart_71 rfl rfl rfl rfl rfl rfl rfl (eV_int _ _) (eV_int _ _) rfl ?_
        refine c_Town_rightNorth (by omega) ?_
        refine sIr rfl rfl ?_
        refine wp_iastoreN 51 d_Chart_measureBy_50 rfl rfl rfl (by omega) ?_
        dsimp only [List.set]
        first | refine wp_iincN_4 54 d_Chart_measureBy_51 rfl rfl rfl ?_ | refine wp_iinc_4 54 1 d_Chart_measureBy_51 rfl (by decide) rfl rfl ?_
        refine wp_goto 3 d_Chart_measureBy_54 (by decide) ?_
        have := ih (i + 1) (by omega)
        first | (have e1 := upd_ltc (f := fun j => rE (ea j) (no j) f) (g := cea) (i := i) (p := fun j => te j = w) h20; have e2 := upd_ltc (f := fun j => rN (ea j) (no j) f) (g := cno) (i := i) (p := fun j => te j = w) h20; rw [e1, e2]; exact this) | (have e1 := upd_ltn (f := fun j => rE (ea j) (no j) f) (g := cea) (i := i) (p := fun j => te j = w) h20; have e2 := upd_ltn (f := fun j => rN (ea j) (no j) f) (g := cno) (i := i) (p := fun j => te j = w) h20; rw [e1, e2]; exact this)

set_option maxRecDepth 100000 in
set_option maxHeartbeats 4000000 in
theorem c_Chart_measureBy {cea cno cx cy cpo cla cba fa te fr to_ ea no : Nat → Int32} {cly cpt pl wa od sk sd go : Int32} {pn wn : Nat → Int64} {nL : Nat} {w f : Int32} (hn : nL ≤ 12) (hq : Q none (hCT (fun j => if j < nL ∧ te j = w then rE (ea j) (no j) f else cea j) (fun j => if j < nL ∧ te j = w then rN (ea j) (no j) f else cno j) cx cy cpo cla cba cly cpt pn wn fa te fr to_ ea no pl wa (nI nL) od sk sd go)) : Call Γ M_Chart_measureBy 3 0 0 [.ref 0, .ref 8, .int w, .int f] (hCT cea cno cx cy cpo cla cba cly cpt pn wn fa te fr to_ ea no pl wa (nI nL) od sk sd go) Q := by
  refine call_intro (ls := [some (.ref 0), some (.ref 8), some (.int w), some (.int f), none]) rfl rfl rfl ?_
  refine wp_iconst 1 0 d_Chart_measureBy_0 rfl (by decide) ?_
  refine wp_istore_4 3 d_Chart_measureBy_1 rfl rfl rfl ?_
  have := l_Chart_measureBy_3 (Γ := Γ) (cea := cea) (cno := cno) (w := w) (f := f) hn hq nL 0 (by omega)
  simp only [Nat.not_lt_zero, false_and, if_false] at this
  exact this

set_option maxRecDepth 100000 in
set_option maxHeartbeats 4000000 in
theorem l_Chart_firstUnlaid_2 {cea cno cx cy cpo cla cba fa te fr to_ ea no : Nat → Int32} {cly cpt wa le od sk sd go : Int32} {pn wn : Nat → Int64} {nP : Nat} (hn : nP ≤ 7) : ∀ (r i : Nat) , i + r = nP → Q (some (.int (ffind0 (fun j => cpo j = -1) i r))) (hCT cea cno cx cy cpo cla cba cly cpt pn wn fa te fr to_ ea no (nI nP) wa le od sk sd go) → WP Γ M_Chart_firstUnlaid 1 0 0 (hCT cea cno cx cy cpo cla cba cly cpt pn wn fa te fr to_ ea no (nI nP) wa le od sk sd go) 2 [some (.ref 0), some (.ref 8), some (.int (nI i))] [] Q := by
  intro r
  induction r with
  | zero =>
    intro i  hi hinv
    refine wp_iload_n 3 d_Chart_firstUnlaid_2 rfl rfl ?_
    refine wp_aload_n 4 d_Chart_firstUnlaid_3 rfl rfl ?_
    refine wp_getfield 7 8 8 d_Chart_firstUnlaid_4 rfl fl_Chart_80 rfl rfl ?_
    refine wp_icmp_ge 28 10 d_Chart_firstUnlaid_7 rfl (by decide) (fun h7 => ?_) (fun h7 => ?_)
    · refine wp_iconst 29 0 d_Chart_firstUnlaid_28 rfl (by decide) ?_
      refine wp_ireturn d_Chart_firstUnlaid_29 rfl ?_
      simpa only [ffind0] using hinv
    · exact absurd ((nI_leI (by omega) (by omega)).mpr (by omega)) h7
  | succ r ih =>
    intro i  hi hinv
    refine wp_iload_n 3 d_Chart_firstUnlaid_2 rfl rfl ?_
    refine wp_aload_n 4 d_Chart_firstUnlaid_3 rfl rfl ?_
    refine wp_getfield 7 8 8 d_Chart_firstUnlaid_4 rfl fl_Chart_80 rfl rfl ?_
    refine wp_icmp_ge 28 10 d_Chart_firstUnlaid_7 rfl (by decide) (fun h7 => ?_) (fun h7 => ?_)
    · exact absurd (nI_leN h7 (by omega) (by omega)) (by omega)
    · refine wp_aload_n 11 d_Chart_firstUnlaid_10 rfl rfl ?_
      refine wp_getfield 14 0 4 d_Chart_firstUnlaid_11 rfl fl_Chart_24 rfl rfl ?_
      refine wp_iload_n 15 d_Chart_firstUnlaid_14 rfl rfl ?_
      refine wp_ialoadN 16 d_Chart_firstUnlaid_15 rfl rfl rfl (by omega) ?_
      refine wp_iconst 17 (-1) d_Chart_firstUnlaid_16 rfl (by decide) ?_
      refine wp_icmp_ne 22 20 d_Chart_firstUnlaid_17 rfl (by decide) (fun h17 => ?_) (fun h17 => ?_)
      · first | refine wp_iincN_2 25 d_Chart_firstUnlaid_22 rfl rfl rfl ?_ | refine wp_iinc_2 25 1 d_Chart_firstUnlaid_22 rfl (by decide) rfl rfl ?_
        refine wp_goto 2 d_Chart_firstUnlaid_25 (by decide) ?_
        refine ih (i + 1) (by omega) ?_
        simpa only [ffind0, if_neg h17] using hinv
      · refine wp_iload_n 21 d_Chart_firstUnlaid_20 rfl rfl ?_
        refine wp_ireturn d_Chart_firstUnlaid_21 rfl ?_
        simpa only [ffind0, if_pos h17] using hinv

set_option maxRecDepth 100000 in
set_option maxHeartbeats 4000000 in
theorem c_Chart_firstUnlaid {cea cno cx cy cpo cla cba fa te fr to_ ea no : Nat → Int32} {cly cpt wa le od sk sd go : Int32} {pn wn : Nat → Int64} {nP : Nat} (hn : nP ≤ 7) (hq : Q (some (.int (ffind0 (fun j => cpo j = -1) 0 nP))) (hCT cea cno cx cy cpo cla cba cly cpt pn wn fa te fr to_ ea no (nI nP) wa le od sk sd go)) : Call Γ M_Chart_firstUnlaid 1 0 0 [.ref 0, .ref 8] (hCT cea cno cx cy cpo cla cba cly cpt pn wn fa te fr to_ ea no (nI nP) wa le od sk sd go) Q := by
  refine call_intro (ls := [some (.ref 0), some (.ref 8), none]) rfl rfl rfl ?_
  refine wp_iconst 1 0 d_Chart_firstUnlaid_0 rfl (by decide) ?_
  refine wp_istore_2 2 d_Chart_firstUnlaid_1 rfl rfl rfl ?_
  exact l_Chart_firstUnlaid_2 hn nP 0 (by omega) hq

set_option maxRecDepth 100000 in
set_option maxHeartbeats 4000000 in
theorem l_Chart_firstLaying_2 {cea cno cx cy cpo cla cba fa te fr to_ ea no : Nat → Int32} {cly cpt pl wa od sk sd go : Int32} {pn wn : Nat → Int64} {nL : Nat} {there : Int32} (hn : nL ≤ 12) (hfr : ∀ j, vp_in (fr j) 7) (hto : ∀ j, vp_in (to_ j) 7) : ∀ (r i : Nat) , i + r = nL → Q (some (.int (ffind (layP there cpo fr to_) i r))) (hCT cea cno cx cy cpo cla cba cly cpt pn wn fa te fr to_ ea no pl wa (nI nL) od sk sd go) → WP Γ M_Chart_firstLaying 2 0 0 (hCT cea cno cx cy cpo cla cba cly cpt pn wn fa te fr to_ ea no pl wa (nI nL) od sk sd go) 2 [some (.ref 0), some (.ref 8), some (.int there), some (.int (nI i)), none, none] [] Q := by
  intro r
  induction r with
  | zero =>
    intro i  hi hinv
    refine wp_iload_n 3 d_Chart_firstLaying_2 rfl rfl ?_
    refine wp_aload_n 4 d_Chart_firstLaying_3 rfl rfl ?_
    refine wp_getfield 7 8 10 d_Chart_firstLaying_4 rfl fl_Chart_58 rfl rfl ?_
    refine wp_icmp_ge 77 10 d_Chart_firstLaying_7 rfl (by decide) (fun h7 => ?_) (fun h7 => ?_)
    · refine wp_iconst 78 (-1) d_Chart_firstLaying_77 rfl (by decide) ?_
      refine wp_ireturn d_Chart_firstLaying_78 rfl ?_
      simpa only [ffind] using hinv
    · exact absurd ((nI_leI (by omega) (by omega)).mpr (by omega)) h7
  | succ r ih =>
    intro i  hi hinv
    refine wp_iload_n 3 d_Chart_firstLaying_2 rfl rfl ?_
    refine wp_aload_n 4 d_Chart_firstLaying_3 rfl rfl ?_
    refine wp_getfield 7 8 10 d_Chart_firstLaying_4 rfl fl_Chart_58 rfl rfl ?_
    refine wp_icmp_ge 77 10 d_Chart_firstLaying_7 rfl (by decide) (fun h7 => ?_) (fun h7 => ?_)
    · exact absurd (nI_leN h7 (by omega) (by omega)) (by omega)
    · refine wp_aload_n 11 d_Chart_firstLaying_10 rfl rfl ?_
      refine wp_getfield 14 0 4 d_Chart_firstLaying_11 rfl fl_Chart_24 rfl rfl ?_
      refine wp_aload_n 15 d_Chart_firstLaying_14 rfl rfl ?_
      refine wp_getfield 18 8 4 d_Chart_firstLaying_15 rfl fl_Chart_91 rfl rfl ?_
      refine wp_iload_n 19 d_Chart_firstLaying_18 rfl rfl ?_
      refine wp_ialoadN 20 d_Chart_firstLaying_19 rfl rfl rfl (by omega) ?_
      refine wp_iaload 21 d_Chart_firstLaying_20 rfl rfl (hfr _) ?_
      refine wp_iconst 22 (-1) d_Chart_firstLaying_21 rfl (by decide) ?_
      refine wp_icmp_eq 29 25 d_Chart_firstLaying_22 rfl (by decide) (fun h22 => ?_) (fun h22 => ?_)
      · refine wp_iconst 30 0 d_Chart_firstLaying_29 rfl (by decide) ?_
        refine wp_istore_4 32 d_Chart_firstLaying_30 rfl rfl rfl ?_
        refine wp_aload_n 33 d_Chart_firstLaying_32 rfl rfl ?_
        refine wp_getfield 36 0 4 d_Chart_firstLaying_33 rfl fl_Chart_24 rfl rfl ?_
        refine wp_aload_n 37 d_Chart_firstLaying_36 rfl rfl ?_
        refine wp_getfield 40 8 5 d_Chart_firstLaying_37 rfl fl_Chart_94 rfl rfl ?_
        refine wp_iload_n 41 d_Chart_firstLaying_40 rfl rfl ?_
        refine wp_ialoadN 42 d_Chart_firstLaying_41 rfl rfl rfl (by omega) ?_
        refine wp_iaload 43 d_Chart_firstLaying_42 rfl rfl (hto _) ?_
        refine wp_iconst 44 (-1) d_Chart_firstLaying_43 rfl (by decide) ?_
        refine wp_icmp_eq 51 47 d_Chart_firstLaying_44 rfl (by decide) (fun h44 => ?_) (fun h44 => ?_)
        · refine wp_iconst 52 0 d_Chart_firstLaying_51 rfl (by decide) ?_
          refine wp_istore_5 54 d_Chart_firstLaying_52 rfl rfl rfl ?_
          refine wp_iload_n 55 d_Chart_firstLaying_54 rfl rfl ?_
          refine wp_iload_n 56 d_Chart_firstLaying_55 rfl rfl ?_
          refine wp_N2 59 M_PM_has 1 d_Chart_firstLaying_56 rfl ms_PM_has lk_Chart_97 rfl rfl ?_
          refine c_PM_has ?_
          refine kI ?_
          (first | refine wp_ifP_eq 71 62 d_Chart_firstLaying_59 rfl (by decide) (fun h59 => ?_) (fun h59 => ?_) | refine wp_if_eq 71 62 d_Chart_firstLaying_59 rfl (by decide) (fun h59 => ?_) (fun h59 => ?_))
          · first | refine wp_iincN_3 74 d_Chart_firstLaying_71 rfl rfl rfl ?_ | refine wp_iinc_3 74 1 d_Chart_firstLaying_71 rfl (by decide) rfl rfl ?_
            refine wp_goto 2 d_Chart_firstLaying_74 (by decide) ?_
            first | exact absurd h66 (by decide) | (refine wp_fgt (ls' := [some (.ref 0), some (.ref 8), some (.int there), some (.int (nI (i + 1))), none, none]) ⟨rfl, rfl, rfl, rfl, trivial⟩ (ih (i + 1) (by omega) ?_); first | (have hx : ¬ layP there cpo fr to_ i := fun z => h59 z.1; simpa only [ffind, if_neg hx] using hinv) | (have hx : ¬ layP there cpo fr to_ i := fun z => z.2 ⟨fun _ => h44, fun _ => h22⟩; simpa only [ffind, if_neg hx] using hinv) | (have hx : ¬ layP there cpo fr to_ i := fun z => z.2 ⟨fun y => absurd y h22, fun y => absurd y h44⟩; simpa only [ffind, if_neg hx] using hinv))
          · refine wp_iload 64 d_Chart_firstLaying_62 rfl rfl ?_
            refine wp_iload 66 d_Chart_firstLaying_64 rfl rfl ?_
            refine wp_icmp_eq 71 69 d_Chart_firstLaying_66 rfl (by decide) (fun h66 => ?_) (fun h66 => ?_)
            · first | refine wp_iincN_3 74 d_Chart_firstLaying_71 rfl rfl rfl ?_ | refine wp_iinc_3 74 1 d_Chart_firstLaying_71 rfl (by decide) rfl rfl ?_
              refine wp_goto 2 d_Chart_firstLaying_74 (by decide) ?_
              first | exact absurd h66 (by decide) | (refine wp_fgt (ls' := [some (.ref 0), some (.ref 8), some (.int there), some (.int (nI (i + 1))), none, none]) ⟨rfl, rfl, rfl, rfl, trivial⟩ (ih (i + 1) (by omega) ?_); first | (have hx : ¬ layP there cpo fr to_ i := fun z => h59 z.1; simpa only [ffind, if_neg hx] using hinv) | (have hx : ¬ layP there cpo fr to_ i := fun z => z.2 ⟨fun _ => h44, fun _ => h22⟩; simpa only [ffind, if_neg hx] using hinv) | (have hx : ¬ layP there cpo fr to_ i := fun z => z.2 ⟨fun y => absurd y h22, fun y => absurd y h44⟩; simpa only [ffind, if_neg hx] using hinv))
            · refine wp_iload_n 70 d_Chart_firstLaying_69 rfl rfl ?_
              refine wp_ireturn d_Chart_firstLaying_70 rfl ?_
              first | exact absurd h66 (by decide) | exact absurd rfl h66 | (have hx : layP there cpo fr to_ i := ⟨h59, fun z => absurd (z.mp h22) h44⟩; simpa only [ffind, if_pos hx] using hinv) | (have hx : layP there cpo fr to_ i := ⟨h59, fun z => absurd (z.mpr h44) h22⟩; simpa only [ffind, if_pos hx] using hinv)
        · refine wp_iconst 48 1 d_Chart_firstLaying_47 rfl (by decide) ?_
          refine wp_goto 52 d_Chart_firstLaying_48 (by decide) ?_
          refine wp_istore_5 54 d_Chart_firstLaying_52 rfl rfl rfl ?_
          refine wp_iload_n 55 d_Chart_firstLaying_54 rfl rfl ?_
          refine wp_iload_n 56 d_Chart_firstLaying_55 rfl rfl ?_
          refine wp_N2 59 M_PM_has 1 d_Chart_firstLaying_56 rfl ms_PM_has lk_Chart_97 rfl rfl ?_
          refine c_PM_has ?_
          refine kI ?_
          (first | refine wp_ifP_eq 71 62 d_Chart_firstLaying_59 rfl (by decide) (fun h59 => ?_) (fun h59 => ?_) | refine wp_if_eq 71 62 d_Chart_firstLaying_59 rfl (by decide) (fun h59 => ?_) (fun h59 => ?_))
          · first | refine wp_iincN_3 74 d_Chart_firstLaying_71 rfl rfl rfl ?_ | refine wp_iinc_3 74 1 d_Chart_firstLaying_71 rfl (by decide) rfl rfl ?_
            refine wp_goto 2 d_Chart_firstLaying_74 (by decide) ?_
            first | exact absurd h66 (by decide) | (refine wp_fgt (ls' := [some (.ref 0), some (.ref 8), some (.int there), some (.int (nI (i + 1))), none, none]) ⟨rfl, rfl, rfl, rfl, trivial⟩ (ih (i + 1) (by omega) ?_); first | (have hx : ¬ layP there cpo fr to_ i := fun z => h59 z.1; simpa only [ffind, if_neg hx] using hinv) | (have hx : ¬ layP there cpo fr to_ i := fun z => z.2 ⟨fun _ => h44, fun _ => h22⟩; simpa only [ffind, if_neg hx] using hinv) | (have hx : ¬ layP there cpo fr to_ i := fun z => z.2 ⟨fun y => absurd y h22, fun y => absurd y h44⟩; simpa only [ffind, if_neg hx] using hinv))
          · refine wp_iload 64 d_Chart_firstLaying_62 rfl rfl ?_
            refine wp_iload 66 d_Chart_firstLaying_64 rfl rfl ?_
            refine wp_icmp_eq 71 69 d_Chart_firstLaying_66 rfl (by decide) (fun h66 => ?_) (fun h66 => ?_)
            · first | refine wp_iincN_3 74 d_Chart_firstLaying_71 rfl rfl rfl ?_ | refine wp_iinc_3 74 1 d_Chart_firstLaying_71 rfl (by decide) rfl rfl ?_
              refine wp_goto 2 d_Chart_firstLaying_74 (by decide) ?_
              first | exact absurd h66 (by decide) | (refine wp_fgt (ls' := [some (.ref 0), some (.ref 8), some (.int there), some (.int (nI (i + 1))), none, none]) ⟨rfl, rfl, rfl, rfl, trivial⟩ (ih (i + 1) (by omega) ?_); first | (have hx : ¬ layP there cpo fr to_ i := fun z => h59 z.1; simpa only [ffind, if_neg hx] using hinv) | (have hx : ¬ layP there cpo fr to_ i := fun z => z.2 ⟨fun _ => h44, fun _ => h22⟩; simpa only [ffind, if_neg hx] using hinv) | (have hx : ¬ layP there cpo fr to_ i := fun z => z.2 ⟨fun y => absurd y h22, fun y => absurd y h44⟩; simpa only [ffind, if_neg hx] using hinv))
            · refine wp_iload_n 70 d_Chart_firstLaying_69 rfl rfl ?_
              refine wp_ireturn d_Chart_firstLaying_70 rfl ?_
              first | exact absurd h66 (by decide) | exact absurd rfl h66 | (have hx : layP there cpo fr to_ i := ⟨h59, fun z => absurd (z.mp h22) h44⟩; simpa only [ffind, if_pos hx] using hinv) | (have hx : layP there cpo fr to_ i := ⟨h59, fun z => absurd (z.mpr h44) h22⟩; simpa only [ffind, if_pos hx] using hinv)
      · refine wp_iconst 26 1 d_Chart_firstLaying_25 rfl (by decide) ?_
        refine wp_goto 30 d_Chart_firstLaying_26 (by decide) ?_
        refine wp_istore_4 32 d_Chart_firstLaying_30 rfl rfl rfl ?_
        refine wp_aload_n 33 d_Chart_firstLaying_32 rfl rfl ?_
        refine wp_getfield 36 0 4 d_Chart_firstLaying_33 rfl fl_Chart_24 rfl rfl ?_
        refine wp_aload_n 37 d_Chart_firstLaying_36 rfl rfl ?_
        refine wp_getfield 40 8 5 d_Chart_firstLaying_37 rfl fl_Chart_94 rfl rfl ?_
        refine wp_iload_n 41 d_Chart_firstLaying_40 rfl rfl ?_
        refine wp_ialoadN 42 d_Chart_firstLaying_41 rfl rfl rfl (by omega) ?_
        refine wp_iaload 43 d_Chart_firstLaying_42 rfl rfl (hto _) ?_
        refine wp_iconst 44 (-1) d_Chart_firstLaying_43 rfl (by decide) ?_
        refine wp_icmp_eq 51 47 d_Chart_firstLaying_44 rfl (by decide) (fun h44 => ?_) (fun h44 => ?_)
        · refine wp_iconst 52 0 d_Chart_firstLaying_51 rfl (by decide) ?_
          refine wp_istore_5 54 d_Chart_firstLaying_52 rfl rfl rfl ?_
          refine wp_iload_n 55 d_Chart_firstLaying_54 rfl rfl ?_
          refine wp_iload_n 56 d_Chart_firstLaying_55 rfl rfl ?_
          refine wp_N2 59 M_PM_has 1 d_Chart_firstLaying_56 rfl ms_PM_has lk_Chart_97 rfl rfl ?_
          refine c_PM_has ?_
          refine kI ?_
          (first | refine wp_ifP_eq 71 62 d_Chart_firstLaying_59 rfl (by decide) (fun h59 => ?_) (fun h59 => ?_) | refine wp_if_eq 71 62 d_Chart_firstLaying_59 rfl (by decide) (fun h59 => ?_) (fun h59 => ?_))
          · first | refine wp_iincN_3 74 d_Chart_firstLaying_71 rfl rfl rfl ?_ | refine wp_iinc_3 74 1 d_Chart_firstLaying_71 rfl (by decide) rfl rfl ?_
            refine wp_goto 2 d_Chart_firstLaying_74 (by decide) ?_
            first | exact absurd h66 (by decide) | (refine wp_fgt (ls' := [some (.ref 0), some (.ref 8), some (.int there), some (.int (nI (i + 1))), none, none]) ⟨rfl, rfl, rfl, rfl, trivial⟩ (ih (i + 1) (by omega) ?_); first | (have hx : ¬ layP there cpo fr to_ i := fun z => h59 z.1; simpa only [ffind, if_neg hx] using hinv) | (have hx : ¬ layP there cpo fr to_ i := fun z => z.2 ⟨fun _ => h44, fun _ => h22⟩; simpa only [ffind, if_neg hx] using hinv) | (have hx : ¬ layP there cpo fr to_ i := fun z => z.2 ⟨fun y => absurd y h22, fun y => absurd y h44⟩; simpa only [ffind, if_neg hx] using hinv))
          · refine wp_iload 64 d_Chart_firstLaying_62 rfl rfl ?_
            refine wp_iload 66 d_Chart_firstLaying_64 rfl rfl ?_
            refine wp_icmp_eq 71 69 d_Chart_firstLaying_66 rfl (by decide) (fun h66 => ?_) (fun h66 => ?_)
            · first | refine wp_iincN_3 74 d_Chart_firstLaying_71 rfl rfl rfl ?_ | refine wp_iinc_3 74 1 d_Chart_firstLaying_71 rfl (by decide) rfl rfl ?_
              refine wp_goto 2 d_Chart_firstLaying_74 (by decide) ?_
              first | exact absurd h66 (by decide) | (refine wp_fgt (ls' := [some (.ref 0), some (.ref 8), some (.int there), some (.int (nI (i + 1))), none, none]) ⟨rfl, rfl, rfl, rfl, trivial⟩ (ih (i + 1) (by omega) ?_); first | (have hx : ¬ layP there cpo fr to_ i := fun z => h59 z.1; simpa only [ffind, if_neg hx] using hinv) | (have hx : ¬ layP there cpo fr to_ i := fun z => z.2 ⟨fun _ => h44, fun _ => h22⟩; simpa only [ffind, if_neg hx] using hinv) | (have hx : ¬ layP there cpo fr to_ i := fun z => z.2 ⟨fun y => absurd y h22, fun y => absurd y h44⟩; simpa only [ffind, if_neg hx] using hinv))
            · refine wp_iload_n 70 d_Chart_firstLaying_69 rfl rfl ?_
              refine wp_ireturn d_Chart_firstLaying_70 rfl ?_
              first | exact absurd h66 (by decide) | exact absurd rfl h66 | (have hx : layP there cpo fr to_ i := ⟨h59, fun z => absurd (z.mp h22) h44⟩; simpa only [ffind, if_pos hx] using hinv) | (have hx : layP there cpo fr to_ i := ⟨h59, fun z => absurd (z.mpr h44) h22⟩; simpa only [ffind, if_pos hx] using hinv)
        · refine wp_iconst 48 1 d_Chart_firstLaying_47 rfl (by decide) ?_
          refine wp_goto 52 d_Chart_firstLaying_48 (by decide) ?_
          refine wp_istore_5 54 d_Chart_firstLaying_52 rfl rfl rfl ?_
          refine wp_iload_n 55 d_Chart_firstLaying_54 rfl rfl ?_
          refine wp_iload_n 56 d_Chart_firstLaying_55 rfl rfl ?_
          refine wp_N2 59 M_PM_has 1 d_Chart_firstLaying_56 rfl ms_PM_has lk_Chart_97 rfl rfl ?_
          refine c_PM_has ?_
          refine kI ?_
          (first | refine wp_ifP_eq 71 62 d_Chart_firstLaying_59 rfl (by decide) (fun h59 => ?_) (fun h59 => ?_) | refine wp_if_eq 71 62 d_Chart_firstLaying_59 rfl (by decide) (fun h59 => ?_) (fun h59 => ?_))
          · first | refine wp_iincN_3 74 d_Chart_firstLaying_71 rfl rfl rfl ?_ | refine wp_iinc_3 74 1 d_Chart_firstLaying_71 rfl (by decide) rfl rfl ?_
            refine wp_goto 2 d_Chart_firstLaying_74 (by decide) ?_
            first | exact absurd h66 (by decide) | (refine wp_fgt (ls' := [some (.ref 0), some (.ref 8), some (.int there), some (.int (nI (i + 1))), none, none]) ⟨rfl, rfl, rfl, rfl, trivial⟩ (ih (i + 1) (by omega) ?_); first | (have hx : ¬ layP there cpo fr to_ i := fun z => h59 z.1; simpa only [ffind, if_neg hx] using hinv) | (have hx : ¬ layP there cpo fr to_ i := fun z => z.2 ⟨fun _ => h44, fun _ => h22⟩; simpa only [ffind, if_neg hx] using hinv) | (have hx : ¬ layP there cpo fr to_ i := fun z => z.2 ⟨fun y => absurd y h22, fun y => absurd y h44⟩; simpa only [ffind, if_neg hx] using hinv))
          · refine wp_iload 64 d_Chart_firstLaying_62 rfl rfl ?_
            refine wp_iload 66 d_Chart_firstLaying_64 rfl rfl ?_
            refine wp_icmp_eq 71 69 d_Chart_firstLaying_66 rfl (by decide) (fun h66 => ?_) (fun h66 => ?_)
            · first | refine wp_iincN_3 74 d_Chart_firstLaying_71 rfl rfl rfl ?_ | refine wp_iinc_3 74 1 d_Chart_firstLaying_71 rfl (by decide) rfl rfl ?_
              refine wp_goto 2 d_Chart_firstLaying_74 (by decide) ?_
              first | exact absurd h66 (by decide) | (refine wp_fgt (ls' := [some (.ref 0), some (.ref 8), some (.int there), some (.int (nI (i + 1))), none, none]) ⟨rfl, rfl, rfl, rfl, trivial⟩ (ih (i + 1) (by omega) ?_); first | (have hx : ¬ layP there cpo fr to_ i := fun z => h59 z.1; simpa only [ffind, if_neg hx] using hinv) | (have hx : ¬ layP there cpo fr to_ i := fun z => z.2 ⟨fun _ => h44, fun _ => h22⟩; simpa only [ffind, if_neg hx] using hinv) | (have hx : ¬ layP there cpo fr to_ i := fun z => z.2 ⟨fun y => absurd y h22, fun y => absurd y h44⟩; simpa only [ffind, if_neg hx] using hinv))
            · refine wp_iload_n 70 d_Chart_firstLaying_69 rfl rfl ?_
              refine wp_ireturn d_Chart_firstLaying_70 rfl ?_
              first | exact absurd h66 (by decide) | exact absurd rfl h66 | (have hx : layP there cpo fr to_ i := ⟨h59, fun z => absurd (z.mp h22) h44⟩; simpa only [ffind, if_pos hx] using hinv) | (have hx : layP there cpo fr to_ i := ⟨h59, fun z => absurd (z.mpr h44) h22⟩; simpa only [ffind, if_pos hx] using hinv)

set_option maxRecDepth 100000 in
set_option maxHeartbeats 4000000 in
theorem c_Chart_firstLaying {cea cno cx cy cpo cla cba fa te fr to_ ea no : Nat → Int32} {cly cpt pl wa od sk sd go : Int32} {pn wn : Nat → Int64} {nL : Nat} {there : Int32} (hn : nL ≤ 12) (hfr : ∀ j, vp_in (fr j) 7) (hto : ∀ j, vp_in (to_ j) 7) (hq : Q (some (.int (ffind (layP there cpo fr to_) 0 nL))) (hCT cea cno cx cy cpo cla cba cly cpt pn wn fa te fr to_ ea no pl wa (nI nL) od sk sd go)) : Call Γ M_Chart_firstLaying 2 0 0 [.ref 0, .ref 8, .int there] (hCT cea cno cx cy cpo cla cba cly cpt pn wn fa te fr to_ ea no pl wa (nI nL) od sk sd go) Q := by
  refine call_intro (ls := [some (.ref 0), some (.ref 8), some (.int there), none, none, none]) rfl rfl rfl ?_
  refine wp_iconst 1 0 d_Chart_firstLaying_0 rfl (by decide) ?_
  refine wp_istore_3 2 d_Chart_firstLaying_1 rfl rfl rfl ?_
  exact l_Chart_firstLaying_2 hn hfr hto nL 0 (by omega) hq

end T23
