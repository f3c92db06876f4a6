/-! ===== Paths ===== -/
abbrev hW (wle : Nat → Int32) (wro : Nat → Int32) (wbe : Nat → Int32) (wpl : Int32) (wgo : Int32) (wya : Int32) (wma : Int32) : LH := [cO 6 [.ref 1, .ref 2, .ref 3, .int wpl, .int wgo, .int wya, .int wma], cI 49 wle, cI 7 wro, cI 7 wbe]
abbrev hWT (wle : Nat → Int32) (wro : Nat → Int32) (wbe : Nat → Int32) (wpl : Int32) (wgo : Int32) (wya : Int32) (wma : Int32) (pn : Nat → Int64) (wn : Nat → Int64) (fa : Nat → Int32) (te : Nat → Int32) (fr : Nat → Int32) (to_ : Nat → Int32) (ea : Nat → Int32) (no : Nat → Int32) (pl : Int32) (wa : Int32) (le : Int32) (od : Int32) (sk : Int32) (sd : Int32) (go : Int32) : LH := [cO 6 [.ref 1, .ref 2, .ref 3, .int wpl, .int wgo, .int wya, .int wma], cI 49 wle, cI 7 wro, cI 7 wbe, cO 8 [.ref 5, .ref 6, .ref 7, .ref 8, .ref 9, .ref 10, .ref 11, .ref 12, .int pl, .int wa, .int le, .int od, .int sk, .int sd, .int go], cL 7 pn, cL 4 wn, cI 4 fa, cI 12 te, cI 12 fr, cI 12 to_, cI 12 ea, cI 12 no]
def iterN {σ : Type} (g : Nat → σ → σ) : Nat → Nat → σ → σ
  | 0, _, s => s
  | r + 1, i, s => iterN g r (i + 1) (g i s)
def shS (f : Nat → Int32) (k v : Int32) : Nat → Int32 := if f k.toNatClampNeg = -1 ∨ v < f k.toNatClampNeg then upd f k.toNatClampNeg v else f
abbrev ix7 (a b : Int32) : Int32 := a * 7 + b
theorem ix7_in {a b : Int32} (ha : vp_in a 7) (hb : vp_in b 7) : vp_in (ix7 a b) 49 := by
  obtain ⟨i, hi, rfl⟩ := vp_in_of ha (by omega)
  obtain ⟨j, hj, rfl⟩ := vp_in_of hb (by omega)
  have : ix7 (nI i) (nI j) = nI (i * 7 + j) := by
    show nI i * nI 7 + nI j = _
    rw [pk_mul, nI_add]
  rw [this]
  exact vp_in_nI (by omega) (by omega)
/-- the row, the best row, its yards, how many places it has -/
abbrev PS : Type := (Nat → Int32) × (Nat → Int32) × Int32 × Int32
def wOn (len : Nat → Int32) (goal : Int32) (nP : Nat) : Nat → Nat → Int32 → Int32 → PS → PS
  | 0, d, w, sn, s => if s.2.2.1 ≠ -1 ∧ ¬ w < s.2.2.1 then s else if s.1 d = goal then (s.1, va_cpy s.1 s.2.1 0 0 (d + 1), w, nI (d + 1)) else s
  | f + 1, d, w, sn, s => if s.2.2.1 ≠ -1 ∧ ¬ w < s.2.2.1 then s else if s.1 d = goal then (s.1, va_cpy s.1 s.2.1 0 0 (d + 1), w, nI (d + 1)) else
      iterN (fun n s' => if len (ix7 (s.1 d) (nI n)).toNatClampNeg = -1 ∨ hs sn (nI n) then s' else wOn len goal nP f (d + 1) (w + len (ix7 (s.1 d) (nI n)).toNatClampNeg) (sn ||| bit (nI n)) (upd s'.1 (d + 1) (nI n), s'.2)) nP 0 s
def mAll (nL : Nat) (th : Int32) (fr to_ : Nat → Int32) (y : Nat → Int32) (f : Nat → Int32) : Nat → Int32 := iterN (fun l f => if hs th (nI l) then shS (shS f (ix7 (fr l) (to_ l)) (y l)) (ix7 (to_ l) (fr l)) (y l) else f) nL 0 f
theorem iterN_all {σ : Type} {g : Nat → σ → σ} {P : σ → Prop} (N : Nat) (h : ∀ n s, n < N → P s → P (g n s)) : ∀ (r i : Nat) (s : σ), i + r = N → P s → P (iterN g r i s)
  | 0, _, _, _, hs => hs
  | r + 1, i, s, hi, hs => iterN_all N h r (i + 1) _ (by omega) (h i s (by omega) hs)
theorem wOn_row {len : Nat → Int32} {goal : Int32} {nP : Nat} (hP : nP ≤ 7) : ∀ (f d : Nat) (w sn : Int32) (s : PS), (∀ j, vp_in (s.1 j) 7) → ∀ j, vp_in ((wOn len goal nP f d w sn s).1 j) 7
  | 0, d, w, sn, s, h => by
    unfold wOn
    split
    · exact h
    · split <;> exact h
  | f + 1, d, w, sn, s, h => by
    unfold wOn
    split
    · exact h
    · split
      · exact h
      · refine iterN_all (P := fun s' : PS => ∀ j, vp_in (s'.1 j) 7) nP (fun n s' hn h' => ?_) nP 0 s (by omega) h
        split
        · exact h'
        · exact wOn_row hP f _ _ _ _ (upd_all (P := fun x => vp_in x 7) h' (vp_in_nI (by omega) (by omega)))
section T30
variable {Γ : Gm}
variable {Q : Option Value → LH → Prop}
set_option maxRecDepth 100000 in
set_option maxHeartbeats 4000000 in
theorem c_Paths_init (hq : Q none (hW ((fun _ => 0)) ((fun _ => 0)) ((fun _ => 0)) (0) (0) (-1) (0))) : Call Γ M_Paths_init 1 3 63 [.ref 0] [cO 6 [.null, .null, .null, .int 0, .int 0, .int 0, .int 0]] Q := by
  refine call_intro (ls := [some (.ref 0)]) rfl rfl rfl ?_
  refine wp_aload_n 1 d_Paths_init_0 rfl rfl ?_
  refine wp_objInit 4 d_Paths_init_1 rfl lo_Paths_3 oi_inst oi_code (by decide) (by decide) ?_
  refine wp_aload_n 5 d_Paths_init_4 rfl rfl ?_
  refine wp_bipush 7 49 d_Paths_init_5 rfl (by decide) ?_
  refine wp_newarray_int 9 49 1 d_Paths_init_7 rfl ac_int (by decide) (by decide) (by decide) rfl rfl ?_
  simp only [List.cons_append, List.nil_append]
  refine wp_putfinal 12 6 0 _ d_Paths_init_9 rfl fp_Paths_9 rfl rfl rfl (fun _ => ⟨rfl, rfl⟩) ?_
  dsimp only [List.set]
  refine wp_aload_n 13 d_Paths_init_12 rfl rfl ?_
  refine wp_bipush 15 7 d_Paths_init_13 rfl (by decide) ?_
  refine wp_newarray_int 17 7 2 d_Paths_init_15 rfl ac_int (by decide) (by decide) (by decide) rfl rfl ?_
  simp only [List.cons_append, List.nil_append]
  refine wp_putfinal 20 6 1 _ d_Paths_init_17 rfl fp_Paths_15 rfl rfl rfl (fun _ => ⟨rfl, rfl⟩) ?_
  dsimp only [List.set]
  refine wp_aload_n 21 d_Paths_init_20 rfl rfl ?_
  refine wp_bipush 23 7 d_Paths_init_21 rfl (by decide) ?_
  refine wp_newarray_int 25 7 3 d_Paths_init_23 rfl ac_int (by decide) (by decide) (by decide) rfl rfl ?_
  simp only [List.cons_append, List.nil_append]
  refine wp_putfinal 28 6 2 _ d_Paths_init_25 rfl fp_Paths_18 rfl rfl rfl (fun _ => ⟨rfl, rfl⟩) ?_
  dsimp only [List.set]
  refine wp_aload_n 29 d_Paths_init_28 rfl rfl ?_
  refine wp_iconst 30 0 d_Paths_init_29 rfl (by decide) ?_
  refine wp_putfield 33 6 3 _ d_Paths_init_30 rfl fp_Paths_21 rfl rfl (okP_int _) ?_
  dsimp only [List.set]
  refine wp_aload_n 34 d_Paths_init_33 rfl rfl ?_
  refine wp_iconst 35 0 d_Paths_init_34 rfl (by decide) ?_
  refine wp_putfield 38 6 4 _ d_Paths_init_35 rfl fp_Paths_25 rfl rfl (okP_int _) ?_
  dsimp only [List.set]
  refine wp_aload_n 39 d_Paths_init_38 rfl rfl ?_
  refine wp_iconst 40 (-1) d_Paths_init_39 rfl (by decide) ?_
  refine wp_putfield 43 6 5 _ d_Paths_init_40 rfl fp_Paths_28 rfl rfl (okP_int _) ?_
  dsimp only [List.set]
  refine wp_aload_n 44 d_Paths_init_43 rfl rfl ?_
  refine wp_iconst 45 0 d_Paths_init_44 rfl (by decide) ?_
  refine wp_putfield 48 6 6 _ d_Paths_init_45 rfl fp_Paths_31 rfl rfl (okP_int _) ?_
  dsimp only [List.set]
  refine wp_return d_Paths_init_48 rfl ?_
  exact hq

set_option maxRecDepth 100000 in
set_option maxHeartbeats 4000000 in
theorem c_Paths_shorten {wle wro wbe : Nat → Int32} {wpl wgo wya wma : Int32} {k v : Int32} (hk : vp_in k 49) (hq : Q none (hW (shS wle k v) wro wbe wpl wgo wya wma)) : Call Γ M_Paths_shorten 1 0 0 [.ref 0, .int k, .int v] (hW wle wro wbe wpl wgo wya wma) Q := by
  refine call_intro (ls := [some (.ref 0), some (.int k), some (.int v)]) rfl rfl rfl ?_
  refine wp_aload_n 1 d_Paths_shorten_0 rfl rfl ?_
  refine wp_getfield 4 6 0 d_Paths_shorten_1 rfl fl_Paths_9 rfl rfl ?_
  refine wp_iload_n 5 d_Paths_shorten_4 rfl rfl ?_
  refine wp_iaload 6 d_Paths_shorten_5 rfl rfl hk ?_
  refine wp_iconst 7 (-1) d_Paths_shorten_6 rfl (by decide) ?_
  refine wp_icmp_eq 20 10 d_Paths_shorten_7 rfl (by decide) (fun h7 => ?_) (fun h7 => ?_)
  · refine wp_aload_n 21 d_Paths_shorten_20 rfl rfl ?_
    refine wp_getfield 24 6 0 d_Paths_shorten_21 rfl fl_Paths_9 rfl rfl ?_
    refine wp_iload_n 25 d_Paths_shorten_24 rfl rfl ?_
    refine wp_iload_n 26 d_Paths_shorten_25 rfl rfl ?_
    refine wp_iastore 27 d_Paths_shorten_26 rfl rfl hk ?_
    dsimp only [List.set]
    refine wp_return d_Paths_shorten_27 rfl ?_
    first
    | (have e : shS wle k v = upd wle k.toNatClampNeg v := if_pos (Or.inr (Int32.not_le.mp h17))
       rw [e] at hq; exact hq)
    | (have e : shS wle k v = wle := if_neg (fun z => z.elim h7 (fun z => absurd h17 (Int32.not_le.mpr z)))
       rw [e] at hq; exact hq)
    | (have e : shS wle k v = upd wle k.toNatClampNeg v := if_pos (Or.inl h7)
       rw [e] at hq; exact hq)
  · refine wp_iload_n 11 d_Paths_shorten_10 rfl rfl ?_
    refine wp_aload_n 12 d_Paths_shorten_11 rfl rfl ?_
    refine wp_getfield 15 6 0 d_Paths_shorten_12 rfl fl_Paths_9 rfl rfl ?_
    refine wp_iload_n 16 d_Paths_shorten_15 rfl rfl ?_
    refine wp_iaload 17 d_Paths_shorten_16 rfl rfl hk ?_
    refine wp_icmp_ge 27 20 d_Paths_shorten_17 rfl (by decide) (fun h17 => ?_) (fun h17 => ?_)
    · refine wp_return d_Paths_shorten_27 rfl ?_
      first
      | (have e : shS wle k v = upd wle k.toNatClampNeg v := if_pos (Or.inr (Int32.not_le.mp h17))
         rw [e] at hq; exact hq)
      | (have e : shS wle k v = wle := if_neg (fun z => z.elim h7 (fun z => absurd h17 (Int32.not_le.mpr z)))
         rw [e] at hq; exact hq)
      | (have e : shS wle k v = upd wle k.toNatClampNeg v := if_pos (Or.inl h7)
         rw [e] at hq; exact hq)
    · refine wp_aload_n 21 d_Paths_shorten_20 rfl rfl ?_
      refine wp_getfield 24 6 0 d_Paths_shorten_21 rfl fl_Paths_9 rfl rfl ?_
      refine wp_iload_n 25 d_Paths_shorten_24 rfl rfl ?_
      refine wp_iload_n 26 d_Paths_shorten_25 rfl rfl ?_
      refine wp_iastore 27 d_Paths_shorten_26 rfl rfl hk ?_
      dsimp only [List.set]
      refine wp_return d_Paths_shorten_27 rfl ?_
      first
      | (have e : shS wle k v = upd wle k.toNatClampNeg v := if_pos (Or.inr (Int32.not_le.mp h17))
         rw [e] at hq; exact hq)
      | (have e : shS wle k v = wle := if_neg (fun z => z.elim h7 (fun z => absurd h17 (Int32.not_le.mpr z)))
         rw [e] at hq; exact hq)
      | (have e : shS wle k v = upd wle k.toNatClampNeg v := if_pos (Or.inl h7)
         rw [e] at hq; exact hq)

set_option maxRecDepth 100000 in
set_option maxHeartbeats 4000000 in
theorem l_Paths_measureAll_10 {wro wbe fa te fr to_ ea no : Nat → Int32} {wpl wgo wya wma pl wa od sk sd go : Int32} {pn wn : Nat → Int64} {nL : Nat} (hn : nL ≤ 12) (hte : ∀ j, vp_in (te j) 4) (hfr : ∀ j, vp_in (fr j) 7) (hto : ∀ j, vp_in (to_ j) 7) : ∀ (r i : Nat) (wle : Nat → Int32), i + r = nL → Q none (hWT (iterN (fun l f => if hs (lTh (nI nL) sk) (nI l) then shS (shS f (ix7 (fr l) (to_ l)) (yA ea no fa te l)) (ix7 (to_ l) (fr l)) (yA ea no fa te l) else f) r i wle) wro wbe wpl wgo wya wma pn wn fa te fr to_ ea no pl wa (nI nL) od sk sd go) → WP Γ M_Paths_measureAll 3 0 0 (hWT (wle) wro wbe wpl wgo wya wma pn wn fa te fr to_ ea no pl wa (nI nL) od sk sd go) 10 [some (.ref 0), some (.ref 4), some (.int (nI i)), none] [] Q := by
  intro r
  induction r with
  | zero =>
    intro i wle hi hinv
    refine wp_iload_n 11 d_Paths_measureAll_10 rfl rfl ?_
    refine wp_aload_n 12 d_Paths_measureAll_11 rfl rfl ?_
    refine wp_getfield 15 8 10 d_Paths_measureAll_12 rfl fl_Paths_51 rfl rfl ?_
    refine wp_icmp_ge 83 18 d_Paths_measureAll_15 rfl (by decide) (fun h15 => ?_) (fun h15 => ?_)
    · refine wp_return d_Paths_measureAll_83 rfl ?_
      exact hinv
    · exact absurd ((nI_leI (by omega) (by omega)).mpr (by omega)) h15
  | succ r ih =>
    intro i wle hi hinv
    refine wp_iload_n 11 d_Paths_measureAll_10 rfl rfl ?_
    refine wp_aload_n 12 d_Paths_measureAll_11 rfl rfl ?_
    refine wp_getfield 15 8 10 d_Paths_measureAll_12 rfl fl_Paths_51 rfl rfl ?_
    refine wp_icmp_ge 83 18 d_Paths_measureAll_15 rfl (by decide) (fun h15 => ?_) (fun h15 => ?_)
    · exact absurd (nI_leN h15 (by omega) (by omega)) (by omega)
    · refine wp_aload_n 19 d_Paths_measureAll_18 rfl rfl ?_
      refine ws_V0 (b' := 0) 22 M_Town_legsThere 1 [4, 5, 6, 7, 8, 9, 10, 11, 12] ((hT _ _ _ _ _ _ _ _ _ _ _ _ _ _ _)) d_Paths_measureAll_19 rfl mv_Town_legsThere lk_Paths_54 rfl rfl rfl rfl rfl rfl rfl rfl ?_
      refine c_Town_legsThere ?_
      refine sIr rfl rfl ?_
      refine wp_iload_n 23 d_Paths_measureAll_22 rfl rfl ?_
      refine wp_N2 26 M_PM_has 1 d_Paths_measureAll_23 rfl ms_PM_has lk_Paths_58 rfl rfl ?_
      refine c_PM_has ?_
      refine kI ?_
      (first | refine wp_ifP_eq 77 29 d_Paths_measureAll_26 rfl (by decide) (fun h26 => ?_) (fun h26 => ?_) | refine wp_if_eq 77 29 d_Paths_measureAll_26 rfl (by decide) (fun h26 => ?_) (fun h26 => ?_))
      · first | refine wp_iincN_2 80 d_Paths_measureAll_77 rfl rfl rfl ?_ | refine wp_iinc_2 80 1 d_Paths_measureAll_77 rfl (by decide) rfl rfl ?_
        refine wp_goto 10 d_Paths_measureAll_80 (by decide) ?_
        refine wp_fgt (ls' := [some (.ref 0), some (.ref 4), some (.int (nI (i + 1))), none]) ⟨rfl, rfl, rfl, trivial⟩ ?_
        refine ih (i + 1) _ (by omega) ?_
        first | (simpa only [iterN, if_pos h26] using hinv) | (simpa only [iterN, if_neg h26] using hinv)
      · refine wp_aload_n 30 d_Paths_measureAll_29 rfl rfl ?_
        refine wp_iload_n 31 d_Paths_measureAll_30 rfl rfl ?_
        refine ws_V1 (b' := 0) 34 M_Town_yardsAlong 2 [4, 5, 6, 7, 8, 9, 10, 11, 12] ((hT _ _ _ _ _ _ _ _ _ _ _ _ _ _ _)) d_Paths_measureAll_31 rfl mv_Town_yardsAlong lk_Paths_62 rfl rfl rfl rfl rfl rfl rfl (eV_int _ _) rfl ?_
        refine c_Town_yardsAlongN (by omega) hte ?_
        refine sIr rfl rfl ?_
        refine wp_istore_3 35 d_Paths_measureAll_34 rfl rfl rfl ?_
        refine wp_aload_n 36 d_Paths_measureAll_35 rfl rfl ?_
        refine wp_aload_n 37 d_Paths_measureAll_36 rfl rfl ?_
        refine wp_getfield 40 8 4 d_Paths_measureAll_37 rfl fl_Paths_66 rfl rfl ?_
        refine wp_iload_n 41 d_Paths_measureAll_40 rfl rfl ?_
        refine wp_ialoadN 42 d_Paths_measureAll_41 rfl rfl rfl (by omega) ?_
        refine wp_bipush 44 7 d_Paths_measureAll_42 rfl (by decide) ?_
        refine wp_imul 45 d_Paths_measureAll_44 rfl ?_
        refine wp_aload_n 46 d_Paths_measureAll_45 rfl rfl ?_
        refine wp_getfield 49 8 5 d_Paths_measureAll_46 rfl fl_Paths_69 rfl rfl ?_
        refine wp_iload_n 50 d_Paths_measureAll_49 rfl rfl ?_
        refine wp_ialoadN 51 d_Paths_measureAll_50 rfl rfl rfl (by omega) ?_
        refine wp_iadd 52 d_Paths_measureAll_51 rfl ?_
        refine wp_iload_n 53 d_Paths_measureAll_52 rfl rfl ?_
        refine ws_V2 (b' := 0) 56 M_Paths_shorten 1 [0, 1, 2, 3] ((hW _ _ _ _ _ _ _)) d_Paths_measureAll_53 rfl mv_Paths_shorten lk_Paths_72 rfl rfl rfl rfl rfl rfl rfl (eV_int _ _) (eV_int _ _) rfl ?_
        refine c_Paths_shorten (ix7_in (hfr _) (hto _)) ?_
        refine sV ?_
        simp only [putH, rC, sg, eV, List.map_cons, List.map_nil, List.set_cons_zero, List.set_cons_succ, List.length_cons, List.length_nil, List.getD_cons_zero, List.getD_cons_succ, Nat.zero_add, Nat.reduceAdd, Nat.reduceLT, if_true, ite_true]
        refine wp_aload_n 57 d_Paths_measureAll_56 rfl rfl ?_
        refine wp_aload_n 58 d_Paths_measureAll_57 rfl rfl ?_
        refine wp_getfield 61 8 5 d_Paths_measureAll_58 rfl fl_Paths_69 rfl rfl ?_
        refine wp_iload_n 62 d_Paths_measureAll_61 rfl rfl ?_
        refine wp_ialoadN 63 d_Paths_measureAll_62 rfl rfl rfl (by omega) ?_
        refine wp_bipush 65 7 d_Paths_measureAll_63 rfl (by decide) ?_
        refine wp_imul 66 d_Paths_measureAll_65 rfl ?_
        refine wp_aload_n 67 d_Paths_measureAll_66 rfl rfl ?_
        refine wp_getfield 70 8 4 d_Paths_measureAll_67 rfl fl_Paths_66 rfl rfl ?_
        refine wp_iload_n 71 d_Paths_measureAll_70 rfl rfl ?_
        refine wp_ialoadN 72 d_Paths_measureAll_71 rfl rfl rfl (by omega) ?_
        refine wp_iadd 73 d_Paths_measureAll_72 rfl ?_
        refine wp_iload_n 74 d_Paths_measureAll_73 rfl rfl ?_
        refine ws_V2 (b' := 0) 77 M_Paths_shorten 1 [0, 1, 2, 3] ((hW _ _ _ _ _ _ _)) d_Paths_measureAll_74 rfl mv_Paths_shorten lk_Paths_72 rfl rfl rfl rfl rfl rfl rfl (eV_int _ _) (eV_int _ _) rfl ?_
        refine c_Paths_shorten (ix7_in (hto _) (hfr _)) ?_
        refine sV ?_
        simp only [putH, rC, sg, eV, List.map_cons, List.map_nil, List.set_cons_zero, List.set_cons_succ, List.length_cons, List.length_nil, List.getD_cons_zero, List.getD_cons_succ, Nat.zero_add, Nat.reduceAdd, Nat.reduceLT, if_true, ite_true]
        first | refine wp_iincN_2 80 d_Paths_measureAll_77 rfl rfl rfl ?_ | refine wp_iinc_2 80 1 d_Paths_measureAll_77 rfl (by decide) rfl rfl ?_
        refine wp_goto 10 d_Paths_measureAll_80 (by decide) ?_
        refine wp_fgt (ls' := [some (.ref 0), some (.ref 4), some (.int (nI (i + 1))), none]) ⟨rfl, rfl, rfl, trivial⟩ ?_
        refine ih (i + 1) _ (by omega) ?_
        first | (simpa only [iterN, if_pos h26] using hinv) | (simpa only [iterN, if_neg h26] using hinv)

set_option maxRecDepth 100000 in
set_option maxHeartbeats 4000000 in
theorem c_Paths_measureAll {wro wbe fa te fr to_ ea no : Nat → Int32} {wpl wgo wya wma pl wa od sk sd go : Int32} {pn wn : Nat → Int64} {nL : Nat} {wle : Nat → Int32} (hn : nL ≤ 12) (hte : ∀ j, vp_in (te j) 4) (hfr : ∀ j, vp_in (fr j) 7) (hto : ∀ j, vp_in (to_ j) 7) (hq : Q none (hWT (mAll nL (lTh (nI nL) sk) fr to_ (yA ea no fa te) (fil 49 (-1) wle)) wro wbe wpl wgo wya wma pn wn fa te fr to_ ea no pl wa (nI nL) od sk sd go)) : Call Γ M_Paths_measureAll 3 0 0 [.ref 0, .ref 4] (hWT (wle) wro wbe wpl wgo wya wma pn wn fa te fr to_ ea no pl wa (nI nL) od sk sd go) Q := by
  refine call_intro (ls := [some (.ref 0), some (.ref 4), none, none]) rfl rfl rfl ?_
  refine wp_aload_n 1 d_Paths_measureAll_0 rfl rfl ?_
  refine wp_getfield 4 6 0 d_Paths_measureAll_1 rfl fl_Paths_9 rfl rfl ?_
  refine wp_iconst 5 (-1) d_Paths_measureAll_4 rfl (by decide) ?_
  refine ws_S2 (v1' := .ref 0) 8 M_JArr_fillI 1 [1] ([cI 49 _]) d_Paths_measureAll_5 rfl ms_JArr_fillI lk_Paths_45 rfl rfl rfl rfl (eV_int _ _) rfl ?_
  refine c_JArr_fillI rfl ?_
  refine sV ?_
  simp only [putH, rC, sg, eV, List.map_cons, List.map_nil, List.set_cons_zero, List.set_cons_succ, List.length_cons, List.length_nil, List.getD_cons_zero, List.getD_cons_succ, Nat.zero_add, Nat.reduceAdd, Nat.reduceLT, if_true, ite_true]
  refine wp_iconst 9 0 d_Paths_measureAll_8 rfl (by decide) ?_
  refine wp_istore_2 10 d_Paths_measureAll_9 rfl rfl rfl ?_
  exact l_Paths_measureAll_10 hn hte hfr hto nL 0 _ (by omega) hq

/-- what goes on from place d + 1 of the row leaves the places ahead as they are -/
theorem wOn_keep {len : Nat → Int32} {goal : Int32} {nP : Nat} : ∀ (f d : Nat) (w sn : Int32) (s : PS) (j : Nat), j ≤ d → (wOn len goal nP f d w sn s).1 j = s.1 j
  | 0, d, w, sn, s, j, hj => by
    unfold wOn
    split
    · rfl
    · split <;> rfl
  | f + 1, d, w, sn, s, j, hj => by
    unfold wOn
    split
    · rfl
    · split
      · rfl
      · refine iterN_all (P := fun s' : PS => s'.1 j = s.1 j) nP (fun n s' hn h' => ?_) nP 0 s (by omega) rfl
        split
        · exact h'
        · rw [wOn_keep f _ _ _ _ j (by omega)]
          refine Eq.trans ?_ h'
          show upd s'.1 (d + 1) (nI n) j = s'.1 j
          exact if_neg (by omega)
set_option maxRecDepth 100000 in
set_option maxHeartbeats 4000000 in
theorem l_Paths_tryEachNext_3 {wle : Nat → Int32} {wgo : Int32} {nP : Nat} {f d : Nat} {w sn : Int32} {s : PS} (hP : nP ≤ 7) (hd : d + 1 ≤ 6) (hrow : ∀ j, vp_in (s.1 j) 7) (IH : ∀ (w sn : Int32) (s : PS) (Q : Option Value → LH → Prop), (∀ j, vp_in (s.1 j) 7) → Q none (hW wle ((wOn wle wgo nP f (d + 1) w sn s).1) ((wOn wle wgo nP f (d + 1) w sn s).2.1) (nI nP) wgo ((wOn wle wgo nP f (d + 1) w sn s).2.2.1) ((wOn wle wgo nP f (d + 1) w sn s).2.2.2)) → Call Γ M_Paths_walkOn (2 * f + 2) 0 0 [.ref 0, .int (nI (d + 1)), .int w, .int sn] (hW wle (s.1) (s.2.1) (nI nP) wgo (s.2.2.1) (s.2.2.2)) Q) : ∀ (r i : Nat) (t : PS), i + r = nP → ((∀ j, vp_in (t.1 j) 7) ∧ t.1 d = s.1 d ∧ Q none (hW wle ((iterN (fun n s' => if wle (ix7 (s.1 d) (nI n)).toNatClampNeg = -1 ∨ hs sn (nI n) then s' else wOn wle wgo nP f (d + 1) (w + wle (ix7 (s.1 d) (nI n)).toNatClampNeg) (sn ||| bit (nI n)) (upd s'.1 (d + 1) (nI n), s'.2)) r i t).1) ((iterN (fun n s' => if wle (ix7 (s.1 d) (nI n)).toNatClampNeg = -1 ∨ hs sn (nI n) then s' else wOn wle wgo nP f (d + 1) (w + wle (ix7 (s.1 d) (nI n)).toNatClampNeg) (sn ||| bit (nI n)) (upd s'.1 (d + 1) (nI n), s'.2)) r i t).2.1) (nI nP) wgo ((iterN (fun n s' => if wle (ix7 (s.1 d) (nI n)).toNatClampNeg = -1 ∨ hs sn (nI n) then s' else wOn wle wgo nP f (d + 1) (w + wle (ix7 (s.1 d) (nI n)).toNatClampNeg) (sn ||| bit (nI n)) (upd s'.1 (d + 1) (nI n), s'.2)) r i t).2.2.1) ((iterN (fun n s' => if wle (ix7 (s.1 d) (nI n)).toNatClampNeg = -1 ∨ hs sn (nI n) then s' else wOn wle wgo nP f (d + 1) (w + wle (ix7 (s.1 d) (nI n)).toNatClampNeg) (sn ||| bit (nI n)) (upd s'.1 (d + 1) (nI n), s'.2)) r i t).2.2.2))) → WP Γ M_Paths_tryEachNext (2 * f + 3) 0 0 (hW wle (t.1) (t.2.1) (nI nP) wgo (t.2.2.1) (t.2.2.2)) 3 [some (.ref 0), some (.int (nI d)), some (.int w), some (.int sn), some (.int (nI i)), none] [] Q := by
  intro r
  induction r with
  | zero =>
    intro i t hi hinv
    refine wp_iload 5 d_Paths_tryEachNext_3 rfl rfl ?_
    refine wp_aload_n 6 d_Paths_tryEachNext_5 rfl rfl ?_
    refine wp_getfield 9 6 3 d_Paths_tryEachNext_6 rfl fl_Paths_21 rfl rfl ?_
    refine wp_icmp_ge 79 12 d_Paths_tryEachNext_9 rfl (by decide) (fun h9 => ?_) (fun h9 => ?_)
    · refine wp_return d_Paths_tryEachNext_79 rfl ?_
      exact hinv.2.2
    · exact absurd ((nI_leI (by omega) (by omega)).mpr (by omega)) h9
  | succ r ih =>
    intro i t hi hinv
    refine wp_iload 5 d_Paths_tryEachNext_3 rfl rfl ?_
    refine wp_aload_n 6 d_Paths_tryEachNext_5 rfl rfl ?_
    refine wp_getfield 9 6 3 d_Paths_tryEachNext_6 rfl fl_Paths_21 rfl rfl ?_
    refine wp_icmp_ge 79 12 d_Paths_tryEachNext_9 rfl (by decide) (fun h9 => ?_) (fun h9 => ?_)
    · exact absurd (nI_leN h9 (by omega) (by omega)) (by omega)
    · refine wp_aload_n 13 d_Paths_tryEachNext_12 rfl rfl ?_
      refine wp_getfield 16 6 0 d_Paths_tryEachNext_13 rfl fl_Paths_9 rfl rfl ?_
      refine wp_aload_n 17 d_Paths_tryEachNext_16 rfl rfl ?_
      refine wp_getfield 20 6 1 d_Paths_tryEachNext_17 rfl fl_Paths_15 rfl rfl ?_
      refine wp_iload_n 21 d_Paths_tryEachNext_20 rfl rfl ?_
      refine wp_ialoadN 22 d_Paths_tryEachNext_21 rfl rfl rfl (by omega) ?_
      rw [hinv.2.1]
      refine wp_bipush 24 7 d_Paths_tryEachNext_22 rfl (by decide) ?_
      refine wp_imul 25 d_Paths_tryEachNext_24 rfl ?_
      refine wp_iload 27 d_Paths_tryEachNext_25 rfl rfl ?_
      refine wp_iadd 28 d_Paths_tryEachNext_27 rfl ?_
      refine wp_iaload 29 d_Paths_tryEachNext_28 rfl rfl (ix7_in (hrow _) (vp_in_nI (by omega) (by omega))) ?_
      refine wp_istore_5 31 d_Paths_tryEachNext_29 rfl rfl rfl ?_
      refine wp_iload 33 d_Paths_tryEachNext_31 rfl rfl ?_
      refine wp_iconst 34 (-1) d_Paths_tryEachNext_33 rfl (by decide) ?_
      refine wp_icmp_eq 73 37 d_Paths_tryEachNext_34 rfl (by decide) (fun h34 => ?_) (fun h34 => ?_)
      · first | refine wp_iincN_4 76 d_Paths_tryEachNext_73 rfl rfl rfl ?_ | refine wp_iinc_4 76 1 d_Paths_tryEachNext_73 rfl (by decide) rfl rfl ?_
        refine wp_goto 3 d_Paths_tryEachNext_76 (by decide) ?_
        refine wp_fgt (ls' := [some (.ref 0), some (.int (nI d)), some (.int w), some (.int sn), some (.int (nI (i + 1))), none]) ⟨rfl, rfl, rfl, rfl, rfl, trivial⟩ ?_
        first
        | (have hx : ¬ (wle (ix7 (s.1 d) (nI i)).toNatClampNeg = -1 ∨ hs sn (nI i)) := fun z => z.elim h34 h43
           refine ih (i + 1) _ (by omega) ⟨wOn_row hP _ _ _ _ _ (upd_all (P := fun x => vp_in x 7) hinv.1 (vp_in_nI (by omega) (by omega))), ?_, ?_⟩
           · rw [wOn_keep f _ _ _ _ d (by omega)]
             refine Eq.trans ?_ hinv.2.1
             show upd t.1 (d + 1) (nI i) d = t.1 d
             exact if_neg (by omega)
           · have hQ := hinv.2.2
             simp only [iterN, if_neg hx] at hQ
             exact hQ)
        | (have hx : wle (ix7 (s.1 d) (nI i)).toNatClampNeg = -1 ∨ hs sn (nI i) := Or.inr h43
           refine ih (i + 1) _ (by omega) ⟨hinv.1, hinv.2.1, ?_⟩
           have hQ := hinv.2.2
           simp only [iterN, if_pos hx] at hQ
           exact hQ)
        | (have hx : wle (ix7 (s.1 d) (nI i)).toNatClampNeg = -1 ∨ hs sn (nI i) := Or.inl h34
           refine ih (i + 1) _ (by omega) ⟨hinv.1, hinv.2.1, ?_⟩
           have hQ := hinv.2.2
           simp only [iterN, if_pos hx] at hQ
           exact hQ)
      · refine wp_iload_n 38 d_Paths_tryEachNext_37 rfl rfl ?_
        refine wp_iload 40 d_Paths_tryEachNext_38 rfl rfl ?_
        refine wp_N2 43 M_PM_has 1 d_Paths_tryEachNext_40 rfl ms_PM_has lk_Paths_58 rfl rfl ?_
        refine c_PM_has ?_
        refine kI ?_
        (first | refine wp_ifP_ne 73 46 d_Paths_tryEachNext_43 rfl (by decide) (fun h43 => ?_) (fun h43 => ?_) | refine wp_if_ne 73 46 d_Paths_tryEachNext_43 rfl (by decide) (fun h43 => ?_) (fun h43 => ?_))
        · first | refine wp_iincN_4 76 d_Paths_tryEachNext_73 rfl rfl rfl ?_ | refine wp_iinc_4 76 1 d_Paths_tryEachNext_73 rfl (by decide) rfl rfl ?_
          refine wp_goto 3 d_Paths_tryEachNext_76 (by decide) ?_
          refine wp_fgt (ls' := [some (.ref 0), some (.int (nI d)), some (.int w), some (.int sn), some (.int (nI (i + 1))), none]) ⟨rfl, rfl, rfl, rfl, rfl, trivial⟩ ?_
          first
          | (have hx : ¬ (wle (ix7 (s.1 d) (nI i)).toNatClampNeg = -1 ∨ hs sn (nI i)) := fun z => z.elim h34 h43
             refine ih (i + 1) _ (by omega) ⟨wOn_row hP _ _ _ _ _ (upd_all (P := fun x => vp_in x 7) hinv.1 (vp_in_nI (by omega) (by omega))), ?_, ?_⟩
             · rw [wOn_keep f _ _ _ _ d (by omega)]
               refine Eq.trans ?_ hinv.2.1
               show upd t.1 (d + 1) (nI i) d = t.1 d
               exact if_neg (by omega)
             · have hQ := hinv.2.2
               simp only [iterN, if_neg hx] at hQ
               exact hQ)
          | (have hx : wle (ix7 (s.1 d) (nI i)).toNatClampNeg = -1 ∨ hs sn (nI i) := Or.inr h43
             refine ih (i + 1) _ (by omega) ⟨hinv.1, hinv.2.1, ?_⟩
             have hQ := hinv.2.2
             simp only [iterN, if_pos hx] at hQ
             exact hQ)
          | (have hx : wle (ix7 (s.1 d) (nI i)).toNatClampNeg = -1 ∨ hs sn (nI i) := Or.inl h34
             refine ih (i + 1) _ (by omega) ⟨hinv.1, hinv.2.1, ?_⟩
             have hQ := hinv.2.2
             simp only [iterN, if_pos hx] at hQ
             exact hQ)
        · refine wp_aload_n 47 d_Paths_tryEachNext_46 rfl rfl ?_
          refine wp_getfield 50 6 1 d_Paths_tryEachNext_47 rfl fl_Paths_15 rfl rfl ?_
          refine wp_iload_n 51 d_Paths_tryEachNext_50 rfl rfl ?_
          refine wp_iconst 52 1 d_Paths_tryEachNext_51 rfl (by decide) ?_
          refine wp_iadd 53 d_Paths_tryEachNext_52 rfl ?_
          rw [nI_1]
          refine wp_iload 55 d_Paths_tryEachNext_53 rfl rfl ?_
          refine wp_iastoreN 56 d_Paths_tryEachNext_55 rfl rfl rfl (by omega) ?_
          dsimp only [List.set]
          refine wp_aload_n 57 d_Paths_tryEachNext_56 rfl rfl ?_
          refine wp_iload_n 58 d_Paths_tryEachNext_57 rfl rfl ?_
          refine wp_iconst 59 1 d_Paths_tryEachNext_58 rfl (by decide) ?_
          refine wp_iadd 60 d_Paths_tryEachNext_59 rfl ?_
          rw [nI_1]
          refine wp_iload_n 61 d_Paths_tryEachNext_60 rfl rfl ?_
          refine wp_iload 63 d_Paths_tryEachNext_61 rfl rfl ?_
          refine wp_iadd 64 d_Paths_tryEachNext_63 rfl ?_
          refine wp_iload_n 65 d_Paths_tryEachNext_64 rfl rfl ?_
          refine wp_iconst 66 1 d_Paths_tryEachNext_65 rfl (by decide) ?_
          refine wp_iload 68 d_Paths_tryEachNext_66 rfl rfl ?_
          refine wp_ishl 69 d_Paths_tryEachNext_68 rfl ?_
          refine wp_ior 70 d_Paths_tryEachNext_69 rfl ?_
          refine wp_V3 73 M_Paths_walkOn (2 * f + 2) d_Paths_tryEachNext_70 rfl mv_Paths_walkOn lk_Paths_41 (Nat.ble_eq_true_of_le (by omega)) rfl rfl rfl rfl ?_
          refine IH _ _ (upd t.1 (d + 1) (nI i), t.2) _ (upd_all (P := fun x => vp_in x 7) hinv.1 (vp_in_nI (by omega) (by omega))) ?_
          refine kV ?_
          first | refine wp_iincN_4 76 d_Paths_tryEachNext_73 rfl rfl rfl ?_ | refine wp_iinc_4 76 1 d_Paths_tryEachNext_73 rfl (by decide) rfl rfl ?_
          refine wp_goto 3 d_Paths_tryEachNext_76 (by decide) ?_
          refine wp_fgt (ls' := [some (.ref 0), some (.int (nI d)), some (.int w), some (.int sn), some (.int (nI (i + 1))), none]) ⟨rfl, rfl, rfl, rfl, rfl, trivial⟩ ?_
          first
          | (have hx : ¬ (wle (ix7 (s.1 d) (nI i)).toNatClampNeg = -1 ∨ hs sn (nI i)) := fun z => z.elim h34 h43
             refine ih (i + 1) _ (by omega) ⟨wOn_row hP _ _ _ _ _ (upd_all (P := fun x => vp_in x 7) hinv.1 (vp_in_nI (by omega) (by omega))), ?_, ?_⟩
             · rw [wOn_keep f _ _ _ _ d (by omega)]
               refine Eq.trans ?_ hinv.2.1
               show upd t.1 (d + 1) (nI i) d = t.1 d
               exact if_neg (by omega)
             · have hQ := hinv.2.2
               simp only [iterN, if_neg hx] at hQ
               exact hQ)
          | (have hx : wle (ix7 (s.1 d) (nI i)).toNatClampNeg = -1 ∨ hs sn (nI i) := Or.inr h43
             refine ih (i + 1) _ (by omega) ⟨hinv.1, hinv.2.1, ?_⟩
             have hQ := hinv.2.2
             simp only [iterN, if_pos hx] at hQ
             exact hQ)
          | (have hx : wle (ix7 (s.1 d) (nI i)).toNatClampNeg = -1 ∨ hs sn (nI i) := Or.inl h34
             refine ih (i + 1) _ (by omega) ⟨hinv.1, hinv.2.1, ?_⟩
             have hQ := hinv.2.2
             simp only [iterN, if_pos hx] at hQ
             exact hQ)

set_option maxRecDepth 100000 in
set_option maxHeartbeats 4000000 in
theorem c_Paths_tryEachNext {wle : Nat → Int32} {wgo : Int32} {nP : Nat} {f d : Nat} {w sn : Int32} {s : PS} (hP : nP ≤ 7) (hd : d + 1 ≤ 6) (hrow : ∀ j, vp_in (s.1 j) 7) (IH : ∀ (w sn : Int32) (s : PS) (Q : Option Value → LH → Prop), (∀ j, vp_in (s.1 j) 7) → Q none (hW wle ((wOn wle wgo nP f (d + 1) w sn s).1) ((wOn wle wgo nP f (d + 1) w sn s).2.1) (nI nP) wgo ((wOn wle wgo nP f (d + 1) w sn s).2.2.1) ((wOn wle wgo nP f (d + 1) w sn s).2.2.2)) → Call Γ M_Paths_walkOn (2 * f + 2) 0 0 [.ref 0, .int (nI (d + 1)), .int w, .int sn] (hW wle (s.1) (s.2.1) (nI nP) wgo (s.2.2.1) (s.2.2.2)) Q) (hq : Q none (hW wle ((iterN (fun n s' => if wle (ix7 (s.1 d) (nI n)).toNatClampNeg = -1 ∨ hs sn (nI n) then s' else wOn wle wgo nP f (d + 1) (w + wle (ix7 (s.1 d) (nI n)).toNatClampNeg) (sn ||| bit (nI n)) (upd s'.1 (d + 1) (nI n), s'.2)) nP 0 s).1) ((iterN (fun n s' => if wle (ix7 (s.1 d) (nI n)).toNatClampNeg = -1 ∨ hs sn (nI n) then s' else wOn wle wgo nP f (d + 1) (w + wle (ix7 (s.1 d) (nI n)).toNatClampNeg) (sn ||| bit (nI n)) (upd s'.1 (d + 1) (nI n), s'.2)) nP 0 s).2.1) (nI nP) wgo ((iterN (fun n s' => if wle (ix7 (s.1 d) (nI n)).toNatClampNeg = -1 ∨ hs sn (nI n) then s' else wOn wle wgo nP f (d + 1) (w + wle (ix7 (s.1 d) (nI n)).toNatClampNeg) (sn ||| bit (nI n)) (upd s'.1 (d + 1) (nI n), s'.2)) nP 0 s).2.2.1) ((iterN (fun n s' => if wle (ix7 (s.1 d) (nI n)).toNatClampNeg = -1 ∨ hs sn (nI n) then s' else wOn wle wgo nP f (d + 1) (w + wle (ix7 (s.1 d) (nI n)).toNatClampNeg) (sn ||| bit (nI n)) (upd s'.1 (d + 1) (nI n), s'.2)) nP 0 s).2.2.2))) : Call Γ M_Paths_tryEachNext (2 * f + 3) 0 0 [.ref 0, .int (nI d), .int w, .int sn] (hW wle (s.1) (s.2.1) (nI nP) wgo (s.2.2.1) (s.2.2.2)) Q := by
  refine call_intro (ls := [some (.ref 0), some (.int (nI d)), some (.int w), some (.int sn), none, none]) rfl rfl rfl ?_
  refine wp_iconst 1 0 d_Paths_tryEachNext_0 rfl (by decide) ?_
  refine wp_istore_4 3 d_Paths_tryEachNext_1 rfl rfl rfl ?_
  exact l_Paths_tryEachNext_3 hP hd hrow IH nP 0 s (by omega) ⟨hrow, rfl, hq⟩

set_option maxRecDepth 100000 in
set_option maxHeartbeats 4000000 in
theorem c_Paths_walkOn {wle : Nat → Int32} {wgo : Int32} {nP : Nat} (hP : nP ≤ 7) : ∀ (f d : Nat), d + f = 6 → ∀ (w sn : Int32) (s : PS) (Q : Option Value → LH → Prop), (∀ j, vp_in (s.1 j) 7) → Q none (hW wle ((wOn wle wgo nP f d w sn s).1) ((wOn wle wgo nP f d w sn s).2.1) (nI nP) wgo ((wOn wle wgo nP f d w sn s).2.2.1) ((wOn wle wgo nP f d w sn s).2.2.2)) → Call Γ M_Paths_walkOn (2 * f + 2) 0 0 [.ref 0, .int (nI d), .int w, .int sn] (hW wle (s.1) (s.2.1) (nI nP) wgo (s.2.2.1) (s.2.2.2)) Q := by
  intro f
  induction f with
  | zero =>
    intro d hd w sn s Q hrow hq
    refine call_intro (ls := [some (.ref 0), some (.int (nI d)), some (.int w), some (.int sn)]) rfl rfl rfl ?_
    refine wp_aload_n 1 d_Paths_walkOn_0 rfl rfl ?_
    refine wp_getfield 4 6 5 d_Paths_walkOn_1 rfl fl_Paths_28 rfl rfl ?_
    refine wp_iconst 5 (-1) d_Paths_walkOn_4 rfl (by decide) ?_
    refine wp_icmp_eq 17 8 d_Paths_walkOn_5 rfl (by decide) (fun h5 => ?_) (fun h5 => ?_)
    · refine wp_aload_n 18 d_Paths_walkOn_17 rfl rfl ?_
      refine wp_getfield 21 6 1 d_Paths_walkOn_18 rfl fl_Paths_15 rfl rfl ?_
      refine wp_iload_n 22 d_Paths_walkOn_21 rfl rfl ?_
      refine wp_ialoadN 23 d_Paths_walkOn_22 rfl rfl rfl (by omega) ?_
      refine wp_aload_n 24 d_Paths_walkOn_23 rfl rfl ?_
      refine wp_getfield 27 6 4 d_Paths_walkOn_24 rfl fl_Paths_25 rfl rfl ?_
      refine wp_icmp_ne 60 30 d_Paths_walkOn_27 rfl (by decide) (fun h27 => ?_) (fun h27 => ?_)
      · refine wp_iload_n 61 d_Paths_walkOn_60 rfl rfl ?_
        refine wp_iconst 62 1 d_Paths_walkOn_61 rfl (by decide) ?_
        refine wp_iadd 63 d_Paths_walkOn_62 rfl ?_
        rw [nI_1]
        refine wp_bipush 65 7 d_Paths_walkOn_63 rfl (by decide) ?_
        refine wp_icmp_ge 75 68 d_Paths_walkOn_65 rfl (by decide) (fun h65 => ?_) (fun h65 => ?_)
        · refine wp_return d_Paths_walkOn_75 rfl ?_
          first | (have hx : ¬ (s.2.2.1 ≠ -1 ∧ ¬ w < s.2.2.1) := fun z => z.2 h13; simp only [wOn, if_neg hx, if_neg h27] at hq; exact hq) | (have hx : ¬ (s.2.2.1 ≠ -1 ∧ ¬ w < s.2.2.1) := fun z => z.1 h5; simp only [wOn, if_neg hx, if_neg h27] at hq; exact hq)
        · exact absurd (show nI 7 ≤ nI (d + 1) from (nI_leI (by omega) (by omega)).mpr (by omega)) h65
      · refine wp_aload_n 31 d_Paths_walkOn_30 rfl rfl ?_
        refine wp_iload_n 32 d_Paths_walkOn_31 rfl rfl ?_
        refine wp_putfield 35 6 5 _ d_Paths_walkOn_32 rfl fp_Paths_28 rfl rfl (okP_int _) ?_
        dsimp only [List.set]
        refine wp_aload_n 36 d_Paths_walkOn_35 rfl rfl ?_
        refine wp_iload_n 37 d_Paths_walkOn_36 rfl rfl ?_
        refine wp_iconst 38 1 d_Paths_walkOn_37 rfl (by decide) ?_
        refine wp_iadd 39 d_Paths_walkOn_38 rfl ?_
        rw [nI_1]
        refine wp_putfield 42 6 6 _ d_Paths_walkOn_39 rfl fp_Paths_31 rfl rfl (okP_int _) ?_
        dsimp only [List.set]
        refine wp_aload_n 43 d_Paths_walkOn_42 rfl rfl ?_
        refine wp_getfield 46 6 1 d_Paths_walkOn_43 rfl fl_Paths_15 rfl rfl ?_
        refine wp_iconst 47 0 d_Paths_walkOn_46 rfl (by decide) ?_
        refine wp_aload_n 48 d_Paths_walkOn_47 rfl rfl ?_
        refine wp_getfield 51 6 2 d_Paths_walkOn_48 rfl fl_Paths_18 rfl rfl ?_
        refine wp_iconst 52 0 d_Paths_walkOn_51 rfl (by decide) ?_
        refine wp_aload_n 53 d_Paths_walkOn_52 rfl rfl ?_
        refine wp_getfield 56 6 6 d_Paths_walkOn_53 rfl fl_Paths_31 rfl rfl ?_
        refine wp_acopyI (i := 0) (j := 0) (n := d + 1) 59 d_Paths_walkOn_56 rfl lk_Paths_76 rfl rfl ⟨rfl, rfl⟩ (by omega) (by omega) (by omega) rfl ?_
        dsimp only [List.set]
        refine wp_return d_Paths_walkOn_59 rfl ?_
        first | (have hx : ¬ (s.2.2.1 ≠ -1 ∧ ¬ w < s.2.2.1) := fun z => z.2 h13; simp only [wOn, if_neg hx, if_pos h27] at hq; exact hq) | (have hx : ¬ (s.2.2.1 ≠ -1 ∧ ¬ w < s.2.2.1) := fun z => z.1 h5; simp only [wOn, if_neg hx, if_pos h27] at hq; exact hq)
    · refine wp_iload_n 9 d_Paths_walkOn_8 rfl rfl ?_
      refine wp_aload_n 10 d_Paths_walkOn_9 rfl rfl ?_
      refine wp_getfield 13 6 5 d_Paths_walkOn_10 rfl fl_Paths_28 rfl rfl ?_
      refine wp_icmp_lt 17 16 d_Paths_walkOn_13 rfl (by decide) (fun h13 => ?_) (fun h13 => ?_)
      · refine wp_aload_n 18 d_Paths_walkOn_17 rfl rfl ?_
        refine wp_getfield 21 6 1 d_Paths_walkOn_18 rfl fl_Paths_15 rfl rfl ?_
        refine wp_iload_n 22 d_Paths_walkOn_21 rfl rfl ?_
        refine wp_ialoadN 23 d_Paths_walkOn_22 rfl rfl rfl (by omega) ?_
        refine wp_aload_n 24 d_Paths_walkOn_23 rfl rfl ?_
        refine wp_getfield 27 6 4 d_Paths_walkOn_24 rfl fl_Paths_25 rfl rfl ?_
        refine wp_icmp_ne 60 30 d_Paths_walkOn_27 rfl (by decide) (fun h27 => ?_) (fun h27 => ?_)
        · refine wp_iload_n 61 d_Paths_walkOn_60 rfl rfl ?_
          refine wp_iconst 62 1 d_Paths_walkOn_61 rfl (by decide) ?_
          refine wp_iadd 63 d_Paths_walkOn_62 rfl ?_
          rw [nI_1]
          refine wp_bipush 65 7 d_Paths_walkOn_63 rfl (by decide) ?_
          refine wp_icmp_ge 75 68 d_Paths_walkOn_65 rfl (by decide) (fun h65 => ?_) (fun h65 => ?_)
          · refine wp_return d_Paths_walkOn_75 rfl ?_
            first | (have hx : ¬ (s.2.2.1 ≠ -1 ∧ ¬ w < s.2.2.1) := fun z => z.2 h13; simp only [wOn, if_neg hx, if_neg h27] at hq; exact hq) | (have hx : ¬ (s.2.2.1 ≠ -1 ∧ ¬ w < s.2.2.1) := fun z => z.1 h5; simp only [wOn, if_neg hx, if_neg h27] at hq; exact hq)
          · exact absurd (show nI 7 ≤ nI (d + 1) from (nI_leI (by omega) (by omega)).mpr (by omega)) h65
        · refine wp_aload_n 31 d_Paths_walkOn_30 rfl rfl ?_
          refine wp_iload_n 32 d_Paths_walkOn_31 rfl rfl ?_
          refine wp_putfield 35 6 5 _ d_Paths_walkOn_32 rfl fp_Paths_28 rfl rfl (okP_int _) ?_
          dsimp only [List.set]
          refine wp_aload_n 36 d_Paths_walkOn_35 rfl rfl ?_
          refine wp_iload_n 37 d_Paths_walkOn_36 rfl rfl ?_
          refine wp_iconst 38 1 d_Paths_walkOn_37 rfl (by decide) ?_
          refine wp_iadd 39 d_Paths_walkOn_38 rfl ?_
          rw [nI_1]
          refine wp_putfield 42 6 6 _ d_Paths_walkOn_39 rfl fp_Paths_31 rfl rfl (okP_int _) ?_
          dsimp only [List.set]
          refine wp_aload_n 43 d_Paths_walkOn_42 rfl rfl ?_
          refine wp_getfield 46 6 1 d_Paths_walkOn_43 rfl fl_Paths_15 rfl rfl ?_
          refine wp_iconst 47 0 d_Paths_walkOn_46 rfl (by decide) ?_
          refine wp_aload_n 48 d_Paths_walkOn_47 rfl rfl ?_
          refine wp_getfield 51 6 2 d_Paths_walkOn_48 rfl fl_Paths_18 rfl rfl ?_
          refine wp_iconst 52 0 d_Paths_walkOn_51 rfl (by decide) ?_
          refine wp_aload_n 53 d_Paths_walkOn_52 rfl rfl ?_
          refine wp_getfield 56 6 6 d_Paths_walkOn_53 rfl fl_Paths_31 rfl rfl ?_
          refine wp_acopyI (i := 0) (j := 0) (n := d + 1) 59 d_Paths_walkOn_56 rfl lk_Paths_76 rfl rfl ⟨rfl, rfl⟩ (by omega) (by omega) (by omega) rfl ?_
          dsimp only [List.set]
          refine wp_return d_Paths_walkOn_59 rfl ?_
          first | (have hx : ¬ (s.2.2.1 ≠ -1 ∧ ¬ w < s.2.2.1) := fun z => z.2 h13; simp only [wOn, if_neg hx, if_pos h27] at hq; exact hq) | (have hx : ¬ (s.2.2.1 ≠ -1 ∧ ¬ w < s.2.2.1) := fun z => z.1 h5; simp only [wOn, if_neg hx, if_pos h27] at hq; exact hq)
      · refine wp_return d_Paths_walkOn_16 rfl ?_
        have hx : s.2.2.1 ≠ -1 ∧ ¬ w < s.2.2.1 := ⟨h5, h13⟩
        simp only [wOn, if_pos hx] at hq
        exact hq
  | succ f IH =>
    intro d hd w sn s Q hrow hq
    refine call_intro (ls := [some (.ref 0), some (.int (nI d)), some (.int w), some (.int sn)]) rfl rfl rfl ?_
    refine wp_aload_n 1 d_Paths_walkOn_0 rfl rfl ?_
    refine wp_getfield 4 6 5 d_Paths_walkOn_1 rfl fl_Paths_28 rfl rfl ?_
    refine wp_iconst 5 (-1) d_Paths_walkOn_4 rfl (by decide) ?_
    refine wp_icmp_eq 17 8 d_Paths_walkOn_5 rfl (by decide) (fun h5 => ?_) (fun h5 => ?_)
    · refine wp_aload_n 18 d_Paths_walkOn_17 rfl rfl ?_
      refine wp_getfield 21 6 1 d_Paths_walkOn_18 rfl fl_Paths_15 rfl rfl ?_
      refine wp_iload_n 22 d_Paths_walkOn_21 rfl rfl ?_
      refine wp_ialoadN 23 d_Paths_walkOn_22 rfl rfl rfl (by omega) ?_
      refine wp_aload_n 24 d_Paths_walkOn_23 rfl rfl ?_
      refine wp_getfield 27 6 4 d_Paths_walkOn_24 rfl fl_Paths_25 rfl rfl ?_
      refine wp_icmp_ne 60 30 d_Paths_walkOn_27 rfl (by decide) (fun h27 => ?_) (fun h27 => ?_)
      · refine wp_iload_n 61 d_Paths_walkOn_60 rfl rfl ?_
        refine wp_iconst 62 1 d_Paths_walkOn_61 rfl (by decide) ?_
        refine wp_iadd 63 d_Paths_walkOn_62 rfl ?_
        rw [nI_1]
        refine wp_bipush 65 7 d_Paths_walkOn_63 rfl (by decide) ?_
        refine wp_icmp_ge 75 68 d_Paths_walkOn_65 rfl (by decide) (fun h65 => ?_) (fun h65 => ?_)
        · exact absurd (nI_leN (b := 7) h65 (by omega) (by omega)) (by omega)
        · refine wp_aload_n 69 d_Paths_walkOn_68 rfl rfl ?_
          refine wp_iload_n 70 d_Paths_walkOn_69 rfl rfl ?_
          refine wp_iload_n 71 d_Paths_walkOn_70 rfl rfl ?_
          refine wp_iload_n 72 d_Paths_walkOn_71 rfl rfl ?_
          refine wp_V3 75 M_Paths_tryEachNext (2 * f + 3) d_Paths_walkOn_72 rfl mv_Paths_tryEachNext lk_Paths_82 (Nat.ble_eq_true_of_le (by omega)) rfl rfl rfl rfl ?_
          refine c_Paths_tryEachNext hP (by omega) hrow (fun w sn s Q h1 h2 => IH (d + 1) (by omega) w sn s Q h1 h2) ?_
          refine kV ?_
          refine wp_return d_Paths_walkOn_75 rfl ?_
          first | (have hx : ¬ (s.2.2.1 ≠ -1 ∧ ¬ w < s.2.2.1) := fun z => z.2 h13; simp only [wOn, if_neg hx, if_neg h27] at hq; exact hq) | (have hx : ¬ (s.2.2.1 ≠ -1 ∧ ¬ w < s.2.2.1) := fun z => z.1 h5; simp only [wOn, if_neg hx, if_neg h27] at hq; exact hq)
      · refine wp_aload_n 31 d_Paths_walkOn_30 rfl rfl ?_
        refine wp_iload_n 32 d_Paths_walkOn_31 rfl rfl ?_
        refine wp_putfield 35 6 5 _ d_Paths_walkOn_32 rfl fp_Paths_28 rfl rfl (okP_int _) ?_
        dsimp only [List.set]
        refine wp_aload_n 36 d_Paths_walkOn_35 rfl rfl ?_
        refine wp_iload_n 37 d_Paths_walkOn_36 rfl rfl ?_
        refine wp_iconst 38 1 d_Paths_walkOn_37 rfl (by decide) ?_
        refine wp_iadd 39 d_Paths_walkOn_38 rfl ?_
        rw [nI_1]
        refine wp_putfield 42 6 6 _ d_Paths_walkOn_39 rfl fp_Paths_31 rfl rfl (okP_int _) ?_
        dsimp only [List.set]
        refine wp_aload_n 43 d_Paths_walkOn_42 rfl rfl ?_
        refine wp_getfield 46 6 1 d_Paths_walkOn_43 rfl fl_Paths_15 rfl rfl ?_
        refine wp_iconst 47 0 d_Paths_walkOn_46 rfl (by decide) ?_
        refine wp_aload_n 48 d_Paths_walkOn_47 rfl rfl ?_
        refine wp_getfield 51 6 2 d_Paths_walkOn_48 rfl fl_Paths_18 rfl rfl ?_
        refine wp_iconst 52 0 d_Paths_walkOn_51 rfl (by decide) ?_
        refine wp_aload_n 53 d_Paths_walkOn_52 rfl rfl ?_
        refine wp_getfield 56 6 6 d_Paths_walkOn_53 rfl fl_Paths_31 rfl rfl ?_
        refine wp_acopyI (i := 0) (j := 0) (n := d + 1) 59 d_Paths_walkOn_56 rfl lk_Paths_76 rfl rfl ⟨rfl, rfl⟩ (by omega) (by omega) (by omega) rfl ?_
        dsimp only [List.set]
        refine wp_return d_Paths_walkOn_59 rfl ?_
        first | (have hx : ¬ (s.2.2.1 ≠ -1 ∧ ¬ w < s.2.2.1) := fun z => z.2 h13; simp only [wOn, if_neg hx, if_pos h27] at hq; exact hq) | (have hx : ¬ (s.2.2.1 ≠ -1 ∧ ¬ w < s.2.2.1) := fun z => z.1 h5; simp only [wOn, if_neg hx, if_pos h27] at hq; exact hq)
    · refine wp_iload_n 9 d_Paths_walkOn_8 rfl rfl ?_
      refine wp_aload_n 10 d_Paths_walkOn_9 rfl rfl ?_
      refine wp_getfield 13 6 5 d_Paths_walkOn_10 rfl fl_Paths_28 rfl rfl ?_
      refine wp_icmp_lt 17 16 d_Paths_walkOn_13 rfl (by decide) (fun h13 => ?_) (fun h13 => ?_)
      · refine wp_aload_n 18 d_Paths_walkOn_17 rfl rfl ?_
        refine wp_getfield 21 6 1 d_Paths_walkOn_18 rfl fl_Paths_15 rfl rfl ?_
        refine wp_iload_n 22 d_Paths_walkOn_21 rfl rfl ?_
        refine wp_ialoadN 23 d_Paths_walkOn_22 rfl rfl rfl (by omega) ?_
        refine wp_aload_n 24 d_Paths_walkOn_23 rfl rfl ?_
        refine wp_getfield 27 6 4 d_Paths_walkOn_24 rfl fl_Paths_25 rfl rfl ?_
        refine wp_icmp_ne 60 30 d_Paths_walkOn_27 rfl (by decide) (fun h27 => ?_) (fun h27 => ?_)
        · refine wp_iload_n 61 d_Paths_walkOn_60 rfl rfl ?_
          refine wp_iconst 62 1 d_Paths_walkOn_61 rfl (by decide) ?_
          refine wp_iadd 63 d_Paths_walkOn_62 rfl ?_
          rw [nI_1]
          refine wp_bipush 65 7 d_Paths_walkOn_63 rfl (by decide) ?_
          refine wp_icmp_ge 75 68 d_Paths_walkOn_65 rfl (by decide) (fun h65 => ?_) (fun h65 => ?_)
          · exact absurd (nI_leN (b := 7) h65 (by omega) (by omega)) (by omega)
          · refine wp_aload_n 69 d_Paths_walkOn_68 rfl rfl ?_
            refine wp_iload_n 70 d_Paths_walkOn_69 rfl rfl ?_
            refine wp_iload_n 71 d_Paths_walkOn_70 rfl rfl ?_
            refine wp_iload_n 72 d_Paths_walkOn_71 rfl rfl ?_
            refine wp_V3 75 M_Paths_tryEachNext (2 * f + 3) d_Paths_walkOn_72 rfl mv_Paths_tryEachNext lk_Paths_82 (Nat.ble_eq_true_of_le (by omega)) rfl rfl rfl rfl ?_
            refine c_Paths_tryEachNext hP (by omega) hrow (fun w sn s Q h1 h2 => IH (d + 1) (by omega) w sn s Q h1 h2) ?_
            refine kV ?_
            refine wp_return d_Paths_walkOn_75 rfl ?_
            first | (have hx : ¬ (s.2.2.1 ≠ -1 ∧ ¬ w < s.2.2.1) := fun z => z.2 h13; simp only [wOn, if_neg hx, if_neg h27] at hq; exact hq) | (have hx : ¬ (s.2.2.1 ≠ -1 ∧ ¬ w < s.2.2.1) := fun z => z.1 h5; simp only [wOn, if_neg hx, if_neg h27] at hq; exact hq)
        · refine wp_aload_n 31 d_Paths_walkOn_30 rfl rfl ?_
          refine wp_iload_n 32 d_Paths_walkOn_31 rfl rfl ?_
          refine wp_putfield 35 6 5 _ d_Paths_walkOn_32 rfl fp_Paths_28 rfl rfl (okP_int _) ?_
          dsimp only [List.set]
          refine wp_aload_n 36 d_Paths_walkOn_35 rfl rfl ?_
          refine wp_iload_n 37 d_Paths_walkOn_36 rfl rfl ?_
          refine wp_iconst 38 1 d_Paths_walkOn_37 rfl (by decide) ?_
          refine wp_iadd 39 d_Paths_walkOn_38 rfl ?_
          rw [nI_1]
          refine wp_putfield 42 6 6 _ d_Paths_walkOn_39 rfl fp_Paths_31 rfl rfl (okP_int _) ?_
          dsimp only [List.set]
          refine wp_aload_n 43 d_Paths_walkOn_42 rfl rfl ?_
          refine wp_getfield 46 6 1 d_Paths_walkOn_43 rfl fl_Paths_15 rfl rfl ?_
          refine wp_iconst 47 0 d_Paths_walkOn_46 rfl (by decide) ?_
          refine wp_aload_n 48 d_Paths_walkOn_47 rfl rfl ?_
          refine wp_getfield 51 6 2 d_Paths_walkOn_48 rfl fl_Paths_18 rfl rfl ?_
          refine wp_iconst 52 0 d_Paths_walkOn_51 rfl (by decide) ?_
          refine wp_aload_n 53 d_Paths_walkOn_52 rfl rfl ?_
          refine wp_getfield 56 6 6 d_Paths_walkOn_53 rfl fl_Paths_31 rfl rfl ?_
          refine wp_acopyI (i := 0) (j := 0) (n := d + 1) 59 d_Paths_walkOn_56 rfl lk_Paths_76 rfl rfl ⟨rfl, rfl⟩ (by omega) (by omega) (by omega) rfl ?_
          dsimp only [List.set]
          refine wp_return d_Paths_walkOn_59 rfl ?_
          first | (have hx : ¬ (s.2.2.1 ≠ -1 ∧ ¬ w < s.2.2.1) := fun z => z.2 h13; simp only [wOn, if_neg hx, if_pos h27] at hq; exact hq) | (have hx : ¬ (s.2.2.1 ≠ -1 ∧ ¬ w < s.2.2.1) := fun z => z.1 h5; simp only [wOn, if_neg hx, if_pos h27] at hq; exact hq)
      · refine wp_return d_Paths_walkOn_16 rfl ?_
        have hx : s.2.2.1 ≠ -1 ∧ ¬ w < s.2.2.1 := ⟨h5, h13⟩
        simp only [wOn, if_pos hx] at hq
        exact hq
end T30
