/-! ===== Doubts: its parts ===== -/
abbrev hU (cea : Nat → Int32) (cno : Nat → Int32) (cx : Nat → Int32) (cy : Nat → Int32) (cpo : Nat → Int32) (cla : Nat → Int32) (cba : Nat → Int32) (cly : Int32) (cpt : Int32) (usp : Nat → Int32) (uke : Nat → Int32) (uco : Nat → Int32) (uow : Nat → Int32) (utw : Nat → Int32) (uos : Int32) (uon : Int32) (uot : Int32) (uwa : Int32) (uof : Int32) (utf : Int32) (uaf : Int32) (uas : Int32) : LH := [cO 3 [.ref 1, .ref 9, .ref 10, .ref 11, .ref 12, .ref 13, .int uos, .int uon, .int uot, .int uwa, .int uof, .int utf, .int uaf, .int uas], cO 0 [.ref 2, .ref 3, .ref 4, .ref 5, .ref 6, .ref 7, .ref 8, .int cly, .int cpt], cI 12 cea, cI 12 cno, cI 7 cx, cI 7 cy, cI 7 cpo, cI 7 cla, cZ 7 cba, cI 4032 usp, cI 1024 uke, cI 1024 uco, cI 24 uow, cI 24 utw]
abbrev hUT (cea : Nat → Int32) (cno : Nat → Int32) (cx : Nat → Int32) (cy : Nat → Int32) (cpo : Nat → Int32) (cla : Nat → Int32) (cba : Nat → Int32) (cly : Int32) (cpt : Int32) (usp : Nat → Int32) (uke : Nat → Int32) (uco : Nat → Int32) (uow : Nat → Int32) (utw : Nat → Int32) (uos : Int32) (uon : Int32) (uot : Int32) (uwa : Int32) (uof : Int32) (utf : Int32) (uaf : Int32) (uas : Int32) (pn : Nat → Int64) (wn : Nat → Int64) (fa : Nat → Int32) (te : Nat → Int32) (fr : Nat → Int32) (to_ : Nat → Int32) (ea : Nat → Int32) (no : Nat → Int32) (pl : Int32) (wa : Int32) (le : Int32) (od : Int32) (sk : Int32) (sd : Int32) (go : Int32) : LH := [cO 3 [.ref 1, .ref 9, .ref 10, .ref 11, .ref 12, .ref 13, .int uos, .int uon, .int uot, .int uwa, .int uof, .int utf, .int uaf, .int uas], cO 0 [.ref 2, .ref 3, .ref 4, .ref 5, .ref 6, .ref 7, .ref 8, .int cly, .int cpt], cI 12 cea, cI 12 cno, cI 7 cx, cI 7 cy, cI 7 cpo, cI 7 cla, cZ 7 cba, cI 4032 usp, cI 1024 uke, cI 1024 uco, cI 24 uow, cI 24 utw, cO 8 [.ref 15, .ref 16, .ref 17, .ref 18, .ref 19, .ref 20, .ref 21, .ref 22, .int pl, .int wa, .int le, .int od, .int sk, .int sd, .int go], cL 7 pn, cL 4 wn, cI 4 fa, cI 12 te, cI 12 fr, cI 12 to_, cI 12 ea, cI 12 no]
theorem ix7N (a b : Nat) : nI a * 7 + nI b = nI (a * 7 + b) := by
  show nI a * nI 7 + nI b = _
  rw [pk_mul, nI_add]
def slF (cnt : Nat → Int32) (key : Int32) : Nat → Int32 → (Nat → Int32) → Int32 × (Nat → Int32)
  | 0, _, ke => (0, ke)
  | n + 1, sl, ke => if cnt sl.toNatClampNeg = 0 then (sl, upd ke sl.toNatClampNeg key) else if ke sl.toNatClampNeg = key then (sl, ke) else slF cnt key n ((sl + 1) &&& 1023) ke
def slH (key : Int32) : Int32 := ush (key * (-1640531527)) 22
theorem slH_in (key : Int32) : vp_in (slH key) 1024 := by
  have h := (key * (-1640531527)).toBitVec.isLt
  have hlt : (key * (-1640531527)).toBitVec.toNat / 2 ^ 22 < 1024 := by rw [Nat.div_lt_iff_lt_mul (by decide)]; omega
  have e : slH key = nI ((key * (-1640531527)).toBitVec.toNat / 2 ^ 22) := by
    apply Int32.toBitVec_inj.mp
    apply BitVec.eq_of_toNat_eq
    rw [pk_tn (by omega)]
    exact pk_ushr _ 22 22 (by decide)
  rw [e]
  exact vp_in_nI hlt (by omega)
theorem sl_in (x : Int32) : vp_in (x &&& 1023) 1024 := pk_andIn x 10 (by decide) (by decide)
theorem slF_in {cnt : Nat → Int32} {key : Int32} : ∀ (n : Nat) (sl : Int32) (ke : Nat → Int32), vp_in sl 1024 → vp_in (slF cnt key n sl ke).1 1024
  | 0, _, _, _ => vp_in_nI (n := 0) (by omega) (by omega)
  | n + 1, sl, ke, h => by
    simp only [slF]
    split
    · exact h
    · split
      · exact h
      · exact slF_in n _ _ (sl_in _)
/-- counts, keys, the most -/
abbrev MA : Type := (Nat → Int32) × (Nat → Int32) × Int32
def maStep (sp : Nat → Int32) (a b w : Nat) (s : MA) : MA :=
  let q := slF s.1 (sp (w * 7 + b) - sp (w * 7 + a)) 1024 (slH (sp (w * 7 + b) - sp (w * 7 + a))) s.2.1
  (upd s.1 q.1.toNatClampNeg (s.1 q.1.toNatClampNeg + 1), q.2, iMax s.2.2 (s.1 q.1.toNatClampNeg + 1))
def maF (sp : Nat → Int32) (a b nWy : Nat) (co ke : Nat → Int32) : MA := iterN (maStep sp a b) nWy 0 (fil 1024 0 co, ke, 0)
def pkF (set : Int32) (nW : Nat) : Int32 × Int32 := iterN (fun w s => if hs set (nI w) then (if s.1 = -1 then (nI w, s.2) else (s.1, nI w)) else s) nW 0 (-1, -1)
section T37
variable {Γ : Gm} {Q : Option Value → LH → Prop}
set_option maxRecDepth 100000 in
set_option maxHeartbeats 4000000 in
theorem c_Doubts_init (hq : Q none (hU ((fun _ => 0)) ((fun _ => 0)) ((fun _ => 0)) ((fun _ => 0)) ((fun _ => 0)) ((fun _ => 0)) ((fun _ => 0)) (0) (0) ((fun _ => 0)) ((fun _ => 0)) ((fun _ => 0)) ((fun _ => 0)) ((fun _ => 0)) (-1) (-1) (-1) (0) (-1) (-1) (-1) (-1))) : Call Γ M_Doubts_init 2 13 6196 [.ref 0] [cO 3 [.null, .null, .null, .null, .null, .null, .int 0, .int 0, .int 0, .int 0, .int 0, .int 0, .int 0, .int 0]] Q := by
  refine call_intro (ls := [some (.ref 0)]) rfl rfl rfl ?_
  refine wp_aload_n 1 d_Doubts_init_0 rfl rfl ?_
  refine wp_objInit 4 d_Doubts_init_1 rfl lo_Doubts_3 oi_inst oi_code (by decide) (by decide) ?_
  refine wp_aload_n 5 d_Doubts_init_4 rfl rfl ?_
  refine wp_new 8 0 9 1 [.null, .null, .null, .null, .null, .null, .null, .int 0, .int 0] d_Doubts_init_5 rfl nw_Doubts_9 rfl rfl ?_
  simp only [List.cons_append, List.nil_append]
  refine wp_dup 9 d_Doubts_init_8 rfl rfl ?_
  refine wxN0 (b' := 0) 12 M_Chart_init 1 7 59 [1] ([cO 0 [.null, .null, .null, .null, .null, .null, .null, .int 0, .int 0]]) d_Doubts_init_9 rfl mi_Chart_init lk_Doubts_11 rfl rfl rfl rfl rfl rfl ?_
  refine c_Chart_init ?_
  refine kX rfl rfl rfl ?_
  simp only [putX, putH, sgx, rC, eV, XB, List.length_cons, List.length_nil, List.take_succ_cons, List.take_zero, List.drop_succ_cons, List.drop_zero, List.map_cons, List.map_nil, List.set_cons_zero, List.set_cons_succ, List.getD_cons_zero, List.getD_cons_succ, List.cons_append, List.nil_append, Nat.zero_add, Nat.reduceAdd, Nat.reduceSub, Nat.reduceLT, Nat.reduceLeDiff, if_true, if_false, ite_true, ite_false]
  refine wp_putfinal 15 3 0 _ d_Doubts_init_12 rfl fp_Doubts_12 rfl rfl rfl (fun _ => ⟨rfl, rfl⟩) ?_
  dsimp only [List.set]
  refine wp_aload_n 16 d_Doubts_init_15 rfl rfl ?_
  refine wp_sipush 19 4032 d_Doubts_init_16 rfl (by decide) ?_
  refine wp_newarray_int 21 4032 9 d_Doubts_init_19 rfl ac_int (by decide) (by decide) (by decide) rfl rfl ?_
  simp only [List.cons_append, List.nil_append]
  refine wp_putfinal 24 3 1 _ d_Doubts_init_21 rfl fp_Doubts_18 rfl rfl rfl (fun _ => ⟨rfl, rfl⟩) ?_
  dsimp only [List.set]
  refine wp_aload_n 25 d_Doubts_init_24 rfl rfl ?_
  refine wp_sipush 28 1024 d_Doubts_init_25 rfl (by decide) ?_
  refine wp_newarray_int 30 1024 10 d_Doubts_init_28 rfl ac_int (by decide) (by decide) (by decide) rfl rfl ?_
  simp only [List.cons_append, List.nil_append]
  refine wp_putfinal 33 3 2 _ d_Doubts_init_30 rfl fp_Doubts_22 rfl rfl rfl (fun _ => ⟨rfl, rfl⟩) ?_
  dsimp only [List.set]
  refine wp_aload_n 34 d_Doubts_init_33 rfl rfl ?_
  refine wp_sipush 37 1024 d_Doubts_init_34 rfl (by decide) ?_
  refine wp_newarray_int 39 1024 11 d_Doubts_init_37 rfl ac_int (by decide) (by decide) (by decide) rfl rfl ?_
  simp only [List.cons_append, List.nil_append]
  refine wp_putfinal 42 3 3 _ d_Doubts_init_39 rfl fp_Doubts_25 rfl rfl rfl (fun _ => ⟨rfl, rfl⟩) ?_
  dsimp only [List.set]
  refine wp_aload_n 43 d_Doubts_init_42 rfl rfl ?_
  refine wp_bipush 45 24 d_Doubts_init_43 rfl (by decide) ?_
  refine wp_newarray_int 47 24 12 d_Doubts_init_45 rfl ac_int (by decide) (by decide) (by decide) rfl rfl ?_
  simp only [List.cons_append, List.nil_append]
  refine wp_putfinal 50 3 4 _ d_Doubts_init_47 rfl fp_Doubts_28 rfl rfl rfl (fun _ => ⟨rfl, rfl⟩) ?_
  dsimp only [List.set]
  refine wp_aload_n 51 d_Doubts_init_50 rfl rfl ?_
  refine wp_bipush 53 24 d_Doubts_init_51 rfl (by decide) ?_
  refine wp_newarray_int 55 24 13 d_Doubts_init_53 rfl ac_int (by decide) (by decide) (by decide) rfl rfl ?_
  simp only [List.cons_append, List.nil_append]
  refine wp_putfinal 58 3 5 _ d_Doubts_init_55 rfl fp_Doubts_31 rfl rfl rfl (fun _ => ⟨rfl, rfl⟩) ?_
  dsimp only [List.set]
  refine wp_aload_n 59 d_Doubts_init_58 rfl rfl ?_
  refine wp_iconst 60 (-1) d_Doubts_init_59 rfl (by decide) ?_
  refine wp_putfield 63 3 6 _ d_Doubts_init_60 rfl fp_Doubts_34 rfl rfl (okP_int _) ?_
  dsimp only [List.set]
  refine wp_aload_n 64 d_Doubts_init_63 rfl rfl ?_
  refine wp_iconst 65 (-1) d_Doubts_init_64 rfl (by decide) ?_
  refine wp_putfield 68 3 7 _ d_Doubts_init_65 rfl fp_Doubts_38 rfl rfl (okP_int _) ?_
  dsimp only [List.set]
  refine wp_aload_n 69 d_Doubts_init_68 rfl rfl ?_
  refine wp_iconst 70 (-1) d_Doubts_init_69 rfl (by decide) ?_
  refine wp_putfield 73 3 8 _ d_Doubts_init_70 rfl fp_Doubts_41 rfl rfl (okP_int _) ?_
  dsimp only [List.set]
  refine wp_aload_n 74 d_Doubts_init_73 rfl rfl ?_
  refine wp_iconst 75 0 d_Doubts_init_74 rfl (by decide) ?_
  refine wp_putfield 78 3 9 _ d_Doubts_init_75 rfl fp_Doubts_44 rfl rfl (okP_int _) ?_
  dsimp only [List.set]
  refine wp_aload_n 79 d_Doubts_init_78 rfl rfl ?_
  refine wp_iconst 80 (-1) d_Doubts_init_79 rfl (by decide) ?_
  refine wp_putfield 83 3 10 _ d_Doubts_init_80 rfl fp_Doubts_47 rfl rfl (okP_int _) ?_
  dsimp only [List.set]
  refine wp_aload_n 84 d_Doubts_init_83 rfl rfl ?_
  refine wp_iconst 85 (-1) d_Doubts_init_84 rfl (by decide) ?_
  refine wp_putfield 88 3 11 _ d_Doubts_init_85 rfl fp_Doubts_50 rfl rfl (okP_int _) ?_
  dsimp only [List.set]
  refine wp_aload_n 89 d_Doubts_init_88 rfl rfl ?_
  refine wp_iconst 90 (-1) d_Doubts_init_89 rfl (by decide) ?_
  refine wp_putfield 93 3 12 _ d_Doubts_init_90 rfl fp_Doubts_53 rfl rfl (okP_int _) ?_
  dsimp only [List.set]
  refine wp_aload_n 94 d_Doubts_init_93 rfl rfl ?_
  refine wp_iconst 95 (-1) d_Doubts_init_94 rfl (by decide) ?_
  refine wp_putfield 98 3 13 _ d_Doubts_init_95 rfl fp_Doubts_56 rfl rfl (okP_int _) ?_
  dsimp only [List.set]
  refine wp_return d_Doubts_init_98 rfl ?_
  exact hq

set_option maxRecDepth 100000 in
set_option maxHeartbeats 4000000 in
theorem c_Doubts_firstOf {cea cno cx cy cpo cla cba usp uke uco uow utw : Nat → Int32} {cly cpt uos uon uot uwa uof utf uaf uas : Int32} {w : Int32} (hq : Q (some (.int (if w = uon then uof else utf))) (hU cea cno cx cy cpo cla cba cly cpt usp uke uco uow utw uos uon uot uwa uof utf uaf uas)) : Call Γ M_Doubts_firstOf 1 0 0 [.ref 0, .int w] (hU cea cno cx cy cpo cla cba cly cpt usp uke uco uow utw uos uon uot uwa uof utf uaf uas) Q := by
  refine call_intro (ls := [some (.ref 0), some (.int w)]) rfl rfl rfl ?_
  refine wp_iload_n 1 d_Doubts_firstOf_0 rfl rfl ?_
  refine wp_aload_n 2 d_Doubts_firstOf_1 rfl rfl ?_
  refine wp_getfield 5 3 7 d_Doubts_firstOf_2 rfl fl_Doubts_38 rfl rfl ?_
  refine wp_icmp_ne 15 8 d_Doubts_firstOf_5 rfl (by decide) (fun h5 => ?_) (fun h5 => ?_)
  · refine wp_aload_n 16 d_Doubts_firstOf_15 rfl rfl ?_
    refine wp_getfield 19 3 11 d_Doubts_firstOf_16 rfl fl_Doubts_50 rfl rfl ?_
    refine wp_ireturn d_Doubts_firstOf_19 rfl ?_
    refine qI hq ?_; rw [if_neg h5]
  · refine wp_aload_n 9 d_Doubts_firstOf_8 rfl rfl ?_
    refine wp_getfield 12 3 10 d_Doubts_firstOf_9 rfl fl_Doubts_47 rfl rfl ?_
    refine wp_goto 19 d_Doubts_firstOf_12 (by decide) ?_
    refine wp_ireturn d_Doubts_firstOf_19 rfl ?_
    refine qI hq ?_; rw [if_pos h5]

set_option maxRecDepth 100000 in
set_option maxHeartbeats 4000000 in
theorem c_Doubts_waysWith {cea cno cx cy cpo cla cba usp uke uco uow utw : Nat → Int32} {cly cpt uos uon uot uwa uof utf uaf uas : Int32} {w f : Int32} (hf : vp_in f 24) (hq : Q (some (.int (if w = uon then uow f.toNatClampNeg else utw f.toNatClampNeg))) (hU cea cno cx cy cpo cla cba cly cpt usp uke uco uow utw uos uon uot uwa uof utf uaf uas)) : Call Γ M_Doubts_waysWith 1 0 0 [.ref 0, .int w, .int f] (hU cea cno cx cy cpo cla cba cly cpt usp uke uco uow utw uos uon uot uwa uof utf uaf uas) Q := by
  refine call_intro (ls := [some (.ref 0), some (.int w), some (.int f)]) rfl rfl rfl ?_
  refine wp_iload_n 1 d_Doubts_waysWith_0 rfl rfl ?_
  refine wp_aload_n 2 d_Doubts_waysWith_1 rfl rfl ?_
  refine wp_getfield 5 3 7 d_Doubts_waysWith_2 rfl fl_Doubts_38 rfl rfl ?_
  refine wp_icmp_ne 17 8 d_Doubts_waysWith_5 rfl (by decide) (fun h5 => ?_) (fun h5 => ?_)
  · refine wp_aload_n 18 d_Doubts_waysWith_17 rfl rfl ?_
    refine wp_getfield 21 3 5 d_Doubts_waysWith_18 rfl fl_Doubts_31 rfl rfl ?_
    refine wp_iload_n 22 d_Doubts_waysWith_21 rfl rfl ?_
    refine wp_iaload 23 d_Doubts_waysWith_22 rfl rfl hf ?_
    refine wp_ireturn d_Doubts_waysWith_23 rfl ?_
    refine qI hq ?_; rw [if_neg h5]
  · refine wp_aload_n 9 d_Doubts_waysWith_8 rfl rfl ?_
    refine wp_getfield 12 3 4 d_Doubts_waysWith_9 rfl fl_Doubts_28 rfl rfl ?_
    refine wp_iload_n 13 d_Doubts_waysWith_12 rfl rfl ?_
    refine wp_iaload 14 d_Doubts_waysWith_13 rfl rfl hf ?_
    refine wp_goto 23 d_Doubts_waysWith_14 (by decide) ?_
    refine wp_ireturn d_Doubts_waysWith_23 rfl ?_
    refine qI hq ?_; rw [if_pos h5]

set_option maxRecDepth 100000 in
set_option maxHeartbeats 4000000 in
theorem l_Doubts_slotOf_10 {cea cno cx cy cpo cla cba usp uco uow utw : Nat → Int32} {cly cpt uos uon uot uwa uof utf uaf uas : Int32} {key : Int32} : ∀ (r i : Nat) (uke : Nat → Int32) (sl : Int32), i + r = 1024 → (vp_in sl 1024 ∧ Q (some (.int (slF uco key r sl uke).1)) (hU cea cno cx cy cpo cla cba cly cpt usp ((slF uco key r sl uke).2) uco uow utw uos uon uot uwa uof utf uaf uas)) → WP Γ M_Doubts_slotOf 1 0 0 (hU cea cno cx cy cpo cla cba cly cpt usp uke uco uow utw uos uon uot uwa uof utf uaf uas) 10 [some (.ref 0), some (.int key), some (.int sl), some (.int (nI i))] [] Q := by
  intro r
  induction r with
  | zero =>
    intro i uke sl hi hinv
    refine wp_iload_n 11 d_Doubts_slotOf_10 rfl rfl ?_
    refine wp_sipush 14 1024 d_Doubts_slotOf_11 rfl (by decide) ?_
    refine wp_icmp_ge 61 17 d_Doubts_slotOf_14 rfl (by decide) (fun h14 => ?_) (fun h14 => ?_)
    · refine wp_iconst 62 0 d_Doubts_slotOf_61 rfl (by decide) ?_
      refine wp_ireturn d_Doubts_slotOf_62 rfl ?_
      exact hinv.2
    · exact absurd (show nI 1024 ≤ nI i from (nI_leI (by omega) (by omega)).mpr (by omega)) h14
  | succ r ih =>
    intro i uke sl hi hinv
    refine wp_iload_n 11 d_Doubts_slotOf_10 rfl rfl ?_
    refine wp_sipush 14 1024 d_Doubts_slotOf_11 rfl (by decide) ?_
    refine wp_icmp_ge 61 17 d_Doubts_slotOf_14 rfl (by decide) (fun h14 => ?_) (fun h14 => ?_)
    · exact absurd (nI_leN (b := 1024) h14 (by omega) (by omega)) (by omega)
    · refine wp_aload_n 18 d_Doubts_slotOf_17 rfl rfl ?_
      refine wp_getfield 21 3 3 d_Doubts_slotOf_18 rfl fl_Doubts_25 rfl rfl ?_
      refine wp_iload_n 22 d_Doubts_slotOf_21 rfl rfl ?_
      refine wp_iaload 23 d_Doubts_slotOf_22 rfl rfl hinv.1 ?_
      refine wp_if_ne 35 26 d_Doubts_slotOf_23 rfl (by decide) (fun h23 => ?_) (fun h23 => ?_)
      · refine wp_aload_n 36 d_Doubts_slotOf_35 rfl rfl ?_
        refine wp_getfield 39 3 2 d_Doubts_slotOf_36 rfl fl_Doubts_22 rfl rfl ?_
        refine wp_iload_n 40 d_Doubts_slotOf_39 rfl rfl ?_
        refine wp_iaload 41 d_Doubts_slotOf_40 rfl rfl hinv.1 ?_
        refine wp_iload_n 42 d_Doubts_slotOf_41 rfl rfl ?_
        refine wp_icmp_ne 47 45 d_Doubts_slotOf_42 rfl (by decide) (fun h42 => ?_) (fun h42 => ?_)
        · refine wp_iload_n 48 d_Doubts_slotOf_47 rfl rfl ?_
          refine wp_iconst 49 1 d_Doubts_slotOf_48 rfl (by decide) ?_
          refine wp_iadd 50 d_Doubts_slotOf_49 rfl ?_
          refine wp_sipush 53 1023 d_Doubts_slotOf_50 rfl (by decide) ?_
          refine wp_iand 54 d_Doubts_slotOf_53 rfl ?_
          refine wp_istore_2 55 d_Doubts_slotOf_54 rfl rfl rfl ?_
          first | refine wp_iincN_3 58 d_Doubts_slotOf_55 rfl rfl rfl ?_ | refine wp_iinc_3 58 1 d_Doubts_slotOf_55 rfl (by decide) rfl rfl ?_
          refine wp_goto 10 d_Doubts_slotOf_58 (by decide) ?_
          refine ih (i + 1) uke _ (by omega) ⟨sl_in _, ?_⟩
          have hQ := hinv.2
          simp only [slF, if_neg h23, if_neg h42] at hQ; exact hQ
        · refine wp_iload_n 46 d_Doubts_slotOf_45 rfl rfl ?_
          refine wp_ireturn d_Doubts_slotOf_46 rfl ?_
          have hQ := hinv.2
          simp only [slF, if_neg h23, if_pos h42] at hQ; exact hQ
      · refine wp_aload_n 27 d_Doubts_slotOf_26 rfl rfl ?_
        refine wp_getfield 30 3 2 d_Doubts_slotOf_27 rfl fl_Doubts_22 rfl rfl ?_
        refine wp_iload_n 31 d_Doubts_slotOf_30 rfl rfl ?_
        refine wp_iload_n 32 d_Doubts_slotOf_31 rfl rfl ?_
        refine wp_iastore 33 d_Doubts_slotOf_32 rfl rfl hinv.1 ?_
        dsimp only [List.set]
        refine wp_iload_n 34 d_Doubts_slotOf_33 rfl rfl ?_
        refine wp_ireturn d_Doubts_slotOf_34 rfl ?_
        have hQ := hinv.2
        simp only [slF, if_pos h23] at hQ; exact hQ

set_option maxRecDepth 100000 in
set_option maxHeartbeats 4000000 in
theorem c_Doubts_slotOf {cea cno cx cy cpo cla cba usp uke uco uow utw : Nat → Int32} {cly cpt uos uon uot uwa uof utf uaf uas : Int32} {key : Int32} (hq : Q (some (.int (slF uco key 1024 (slH key) uke).1)) (hU cea cno cx cy cpo cla cba cly cpt usp ((slF uco key 1024 (slH key) uke).2) uco uow utw uos uon uot uwa uof utf uaf uas)) : Call Γ M_Doubts_slotOf 1 0 0 [.ref 0, .int key] (hU cea cno cx cy cpo cla cba cly cpt usp uke uco uow utw uos uon uot uwa uof utf uaf uas) Q := by
  refine call_intro (ls := [some (.ref 0), some (.int key), none, none]) rfl rfl rfl ?_
  refine wp_iload_n 1 d_Doubts_slotOf_0 rfl rfl ?_
  refine wp_ldc 3 (-1640531527 : Int32) d_Doubts_slotOf_1 rfl ct_Doubts_143 ?_
  refine wp_imul 4 d_Doubts_slotOf_3 rfl ?_
  refine wp_bipush 6 22 d_Doubts_slotOf_4 rfl (by decide) ?_
  refine wp_iushr 7 d_Doubts_slotOf_6 rfl ?_
  refine wp_istore_2 8 d_Doubts_slotOf_7 rfl rfl rfl ?_
  refine wp_iconst 9 0 d_Doubts_slotOf_8 rfl (by decide) ?_
  refine wp_istore_3 10 d_Doubts_slotOf_9 rfl rfl rfl ?_
  exact l_Doubts_slotOf_10 1024 0 uke (slH key) rfl ⟨slH_in key, hq⟩

set_option maxRecDepth 100000 in
set_option maxHeartbeats 4000000 in
theorem l_Doubts_mostAlike_13 {cea cno cx cy cpo cla cba usp uow utw : Nat → Int32} {cly cpt uos uon uot uof utf uaf uas : Int32} {nWy : Nat} {a b : Nat} (hN : nWy ≤ 576) (ha : a < 7) (hb : b < 7) : ∀ (r i : Nat) (s : MA), i + r = nWy → Q (some (.int (iterN (maStep usp a b) r i s).2.2)) (hU cea cno cx cy cpo cla cba cly cpt usp ((iterN (maStep usp a b) r i s).2.1) ((iterN (maStep usp a b) r i s).1) uow utw uos uon uot (nI nWy) uof utf uaf uas) → WP Γ M_Doubts_mostAlike 2 0 0 (hU cea cno cx cy cpo cla cba cly cpt usp (s.2.1) (s.1) uow utw uos uon uot (nI nWy) uof utf uaf uas) 13 [some (.ref 0), some (.int (nI a)), some (.int (nI b)), some (.int s.2.2), some (.int (nI i)), none] [] Q := by
  intro r
  induction r with
  | zero =>
    intro i s hi hinv
    refine wp_iload 15 d_Doubts_mostAlike_13 rfl rfl ?_
    refine wp_aload_n 16 d_Doubts_mostAlike_15 rfl rfl ?_
    refine wp_getfield 19 3 9 d_Doubts_mostAlike_16 rfl fl_Doubts_44 rfl rfl ?_
    refine wp_icmp_ge 82 22 d_Doubts_mostAlike_19 rfl (by decide) (fun h19 => ?_) (fun h19 => ?_)
    · refine wp_iload_n 83 d_Doubts_mostAlike_82 rfl rfl ?_
      refine wp_ireturn d_Doubts_mostAlike_83 rfl ?_
      exact hinv
    · exact absurd ((nI_leI (by omega) (by omega)).mpr (by omega)) h19
  | succ r ih =>
    intro i s hi hinv
    refine wp_iload 15 d_Doubts_mostAlike_13 rfl rfl ?_
    refine wp_aload_n 16 d_Doubts_mostAlike_15 rfl rfl ?_
    refine wp_getfield 19 3 9 d_Doubts_mostAlike_16 rfl fl_Doubts_44 rfl rfl ?_
    refine wp_icmp_ge 82 22 d_Doubts_mostAlike_19 rfl (by decide) (fun h19 => ?_) (fun h19 => ?_)
    · exact absurd (nI_leN h19 (by omega) (by omega)) (by omega)
    · refine wp_aload_n 23 d_Doubts_mostAlike_22 rfl rfl ?_
      refine wp_aload_n 24 d_Doubts_mostAlike_23 rfl rfl ?_
      refine wp_getfield 27 3 1 d_Doubts_mostAlike_24 rfl fl_Doubts_18 rfl rfl ?_
      refine wp_iload 29 d_Doubts_mostAlike_27 rfl rfl ?_
      refine wp_bipush 31 7 d_Doubts_mostAlike_29 rfl (by decide) ?_
      refine wp_imul 32 d_Doubts_mostAlike_31 rfl ?_
      refine wp_iload_n 33 d_Doubts_mostAlike_32 rfl rfl ?_
      refine wp_iadd 34 d_Doubts_mostAlike_33 rfl ?_
      rw [ix7N]
      refine wp_ialoadN 35 d_Doubts_mostAlike_34 rfl rfl rfl (by omega) ?_
      refine wp_aload_n 36 d_Doubts_mostAlike_35 rfl rfl ?_
      refine wp_getfield 39 3 1 d_Doubts_mostAlike_36 rfl fl_Doubts_18 rfl rfl ?_
      refine wp_iload 41 d_Doubts_mostAlike_39 rfl rfl ?_
      refine wp_bipush 43 7 d_Doubts_mostAlike_41 rfl (by decide) ?_
      refine wp_imul 44 d_Doubts_mostAlike_43 rfl ?_
      refine wp_iload_n 45 d_Doubts_mostAlike_44 rfl rfl ?_
      refine wp_iadd 46 d_Doubts_mostAlike_45 rfl ?_
      rw [ix7N]
      refine wp_ialoadN 47 d_Doubts_mostAlike_46 rfl rfl rfl (by omega) ?_
      refine wp_isub 48 d_Doubts_mostAlike_47 rfl ?_
      refine wp_V1 51 M_Doubts_slotOf 1 d_Doubts_mostAlike_48 rfl mv_Doubts_slotOf lk_Doubts_135 rfl rfl rfl rfl rfl ?_
      refine c_Doubts_slotOf ?_
      refine kI ?_
      refine wp_istore_5 53 d_Doubts_mostAlike_51 rfl rfl rfl ?_
      refine wp_aload_n 54 d_Doubts_mostAlike_53 rfl rfl ?_
      refine wp_getfield 57 3 3 d_Doubts_mostAlike_54 rfl fl_Doubts_25 rfl rfl ?_
      refine wp_iload 59 d_Doubts_mostAlike_57 rfl rfl ?_
      refine wp_dup2 60 d_Doubts_mostAlike_59 rfl rfl rfl ?_
      refine wp_iaload 61 d_Doubts_mostAlike_60 rfl rfl (slF_in _ _ _ (slH_in _)) ?_
      refine wp_iconst 62 1 d_Doubts_mostAlike_61 rfl (by decide) ?_
      refine wp_iadd 63 d_Doubts_mostAlike_62 rfl ?_
      refine wp_iastore 64 d_Doubts_mostAlike_63 rfl rfl (slF_in _ _ _ (slH_in _)) ?_
      dsimp only [List.set]
      refine wp_iload_n 65 d_Doubts_mostAlike_64 rfl rfl ?_
      refine wp_aload_n 66 d_Doubts_mostAlike_65 rfl rfl ?_
      refine wp_getfield 69 3 3 d_Doubts_mostAlike_66 rfl fl_Doubts_25 rfl rfl ?_
      refine wp_iload 71 d_Doubts_mostAlike_69 rfl rfl ?_
      refine wp_iaload 72 d_Doubts_mostAlike_71 rfl rfl (slF_in _ _ _ (slH_in _)) ?_
      simp only [upd, if_true]
      refine wp_S2 75 M_JMath_max 1 d_Doubts_mostAlike_72 rfl ms_JMath_max lk_Doubts_138 rfl rfl ?_
      refine c_JMath_max ?_
      refine kI ?_
      refine wp_istore_3 76 d_Doubts_mostAlike_75 rfl rfl rfl ?_
      first | refine wp_iincN_4 79 d_Doubts_mostAlike_76 rfl rfl rfl ?_ | refine wp_iinc_4 79 1 d_Doubts_mostAlike_76 rfl (by decide) rfl rfl ?_
      refine wp_goto 13 d_Doubts_mostAlike_79 (by decide) ?_
      refine wp_fgt (ls' := [some (.ref 0), some (.int (nI a)), some (.int (nI b)), some (.int _), some (.int (nI (i + 1))), none]) ⟨rfl, rfl, rfl, rfl, rfl, trivial⟩ ?_
      have h9 := ih (i + 1) (maStep usp a b i s) (by omega) hinv
      exact h9

set_option maxRecDepth 100000 in
set_option maxHeartbeats 4000000 in
theorem c_Doubts_mostAlike {cea cno cx cy cpo cla cba usp uow utw : Nat → Int32} {cly cpt uos uon uot uof utf uaf uas : Int32} {uco uke : Nat → Int32} {nWy a b : Nat} (hN : nWy ≤ 576) (ha : a < 7) (hb : b < 7) (hq : Q (some (.int (maF usp a b nWy uco uke).2.2)) (hU cea cno cx cy cpo cla cba cly cpt usp ((maF usp a b nWy uco uke).2.1) ((maF usp a b nWy uco uke).1) uow utw uos uon uot (nI nWy) uof utf uaf uas)) : Call Γ M_Doubts_mostAlike 2 0 0 [.ref 0, .int (nI a), .int (nI b)] (hU cea cno cx cy cpo cla cba cly cpt usp uke uco uow utw uos uon uot (nI nWy) uof utf uaf uas) Q := by
  refine call_intro (ls := [some (.ref 0), some (.int (nI a)), some (.int (nI b)), none, none, none]) rfl rfl rfl ?_
  refine wp_aload_n 1 d_Doubts_mostAlike_0 rfl rfl ?_
  refine wp_getfield 4 3 3 d_Doubts_mostAlike_1 rfl fl_Doubts_25 rfl rfl ?_
  refine wp_iconst 5 0 d_Doubts_mostAlike_4 rfl (by decide) ?_
  refine ws_S2 (v1' := .ref 0) 8 M_JArr_fillI 1 [11] ([cI 1024 _]) d_Doubts_mostAlike_5 rfl ms_JArr_fillI lk_Doubts_92 rfl rfl rfl rfl (eV_int _ _) rfl ?_
  refine c_JArr_fillI rfl ?_
  refine sV ?_
  simp only [putH, rC, sg, eV, List.map_cons, List.map_nil, List.set_cons_zero, List.set_cons_succ, List.length_cons, List.length_nil, List.getD_cons_zero, List.getD_cons_succ, Nat.zero_add, Nat.reduceAdd, Nat.reduceLT, if_true, ite_true]
  refine wp_iconst 9 0 d_Doubts_mostAlike_8 rfl (by decide) ?_
  refine wp_istore_3 10 d_Doubts_mostAlike_9 rfl rfl rfl ?_
  refine wp_iconst 11 0 d_Doubts_mostAlike_10 rfl (by decide) ?_
  refine wp_istore_4 13 d_Doubts_mostAlike_11 rfl rfl rfl ?_
  exact l_Doubts_mostAlike_13 hN ha hb nWy 0 (fil 1024 0 uco, uke, 0) (by omega) hq

set_option maxRecDepth 100000 in
set_option maxHeartbeats 4000000 in
theorem l_Doubts_pickWalkers_12 {cea cno cx cy cpo cla cba usp uke uco uow utw fa te fr to_ ea no : Nat → Int32} {cly cpt uos uwa uof utf uaf uas pl le od sk sd go : Int32} {pn wn : Nat → Int64} {nW : Nat} {set : Int32} (hW : nW ≤ 4) : ∀ (r i : Nat) (s : Int32 × Int32), i + r = nW → Q none (hUT cea cno cx cy cpo cla cba cly cpt usp uke uco uow utw uos ((iterN (fun w (s : Int32 × Int32) => if hs set (nI w) then (if s.1 = -1 then (nI w, s.2) else (s.1, nI w)) else s) r i s).1) ((iterN (fun w (s : Int32 × Int32) => if hs set (nI w) then (if s.1 = -1 then (nI w, s.2) else (s.1, nI w)) else s) r i s).2) uwa uof utf uaf uas pn wn fa te fr to_ ea no pl (nI nW) le od sk sd go) → WP Γ M_Doubts_pickWalkers 2 0 0 (hUT cea cno cx cy cpo cla cba cly cpt usp uke uco uow utw uos (s.1) (s.2) uwa uof utf uaf uas pn wn fa te fr to_ ea no pl (nI nW) le od sk sd go) 12 [some (.ref 0), some (.ref 14), some (.int set), some (.int (nI i))] [] Q := by
  intro r
  induction r with
  | zero =>
    intro i s hi hinv
    refine wp_iload_n 13 d_Doubts_pickWalkers_12 rfl rfl ?_
    refine wp_aload_n 14 d_Doubts_pickWalkers_13 rfl rfl ?_
    refine wp_getfield 17 8 9 d_Doubts_pickWalkers_14 rfl fl_Doubts_112 rfl rfl ?_
    refine wp_icmp_ge 55 20 d_Doubts_pickWalkers_17 rfl (by decide) (fun h17 => ?_) (fun h17 => ?_)
    · refine wp_return d_Doubts_pickWalkers_55 rfl ?_
      exact hinv
    · exact absurd ((nI_leI (by omega) (by omega)).mpr (by omega)) h17
  | succ r ih =>
    intro i s hi hinv
    refine wp_iload_n 13 d_Doubts_pickWalkers_12 rfl rfl ?_
    refine wp_aload_n 14 d_Doubts_pickWalkers_13 rfl rfl ?_
    refine wp_getfield 17 8 9 d_Doubts_pickWalkers_14 rfl fl_Doubts_112 rfl rfl ?_
    refine wp_icmp_ge 55 20 d_Doubts_pickWalkers_17 rfl (by decide) (fun h17 => ?_) (fun h17 => ?_)
    · exact absurd (nI_leN h17 (by omega) (by omega)) (by omega)
    · refine wp_iload_n 21 d_Doubts_pickWalkers_20 rfl rfl ?_
      refine wp_iload_n 22 d_Doubts_pickWalkers_21 rfl rfl ?_
      refine wp_N2 25 M_PM_has 1 d_Doubts_pickWalkers_22 rfl ms_PM_has lk_Doubts_115 rfl rfl ?_
      refine c_PM_has ?_
      refine kI ?_
      (first | refine wp_ifP_eq 49 28 d_Doubts_pickWalkers_25 rfl (by decide) (fun h25 => ?_) (fun h25 => ?_) | refine wp_if_eq 49 28 d_Doubts_pickWalkers_25 rfl (by decide) (fun h25 => ?_) (fun h25 => ?_))
      · first | refine wp_iincN_3 52 d_Doubts_pickWalkers_49 rfl rfl rfl ?_ | refine wp_iinc_3 52 1 d_Doubts_pickWalkers_49 rfl (by decide) rfl rfl ?_
        refine wp_goto 12 d_Doubts_pickWalkers_52 (by decide) ?_
        simp only [iterN, if_neg h25] at hinv
        exact ih (i + 1) s (by omega) hinv
      · refine wp_aload_n 29 d_Doubts_pickWalkers_28 rfl rfl ?_
        refine wp_getfield 32 3 7 d_Doubts_pickWalkers_29 rfl fl_Doubts_38 rfl rfl ?_
        refine wp_iconst 33 (-1) d_Doubts_pickWalkers_32 rfl (by decide) ?_
        refine wp_icmp_ne 44 36 d_Doubts_pickWalkers_33 rfl (by decide) (fun h33 => ?_) (fun h33 => ?_)
        · refine wp_aload_n 45 d_Doubts_pickWalkers_44 rfl rfl ?_
          refine wp_iload_n 46 d_Doubts_pickWalkers_45 rfl rfl ?_
          refine wp_putfield 49 3 8 _ d_Doubts_pickWalkers_46 rfl fp_Doubts_41 rfl rfl (okP_int _) ?_
          dsimp only [List.set]
          first | refine wp_iincN_3 52 d_Doubts_pickWalkers_49 rfl rfl rfl ?_ | refine wp_iinc_3 52 1 d_Doubts_pickWalkers_49 rfl (by decide) rfl rfl ?_
          refine wp_goto 12 d_Doubts_pickWalkers_52 (by decide) ?_
          simp only [iterN, if_pos h25, if_neg h33] at hinv
          exact ih (i + 1) (s.1, nI i) (by omega) hinv
        · refine wp_aload_n 37 d_Doubts_pickWalkers_36 rfl rfl ?_
          refine wp_iload_n 38 d_Doubts_pickWalkers_37 rfl rfl ?_
          refine wp_putfield 41 3 7 _ d_Doubts_pickWalkers_38 rfl fp_Doubts_38 rfl rfl (okP_int _) ?_
          dsimp only [List.set]
          refine wp_goto 49 d_Doubts_pickWalkers_41 (by decide) ?_
          first | refine wp_iincN_3 52 d_Doubts_pickWalkers_49 rfl rfl rfl ?_ | refine wp_iinc_3 52 1 d_Doubts_pickWalkers_49 rfl (by decide) rfl rfl ?_
          refine wp_goto 12 d_Doubts_pickWalkers_52 (by decide) ?_
          simp only [iterN, if_pos h25, if_pos h33] at hinv
          exact ih (i + 1) (nI i, s.2) (by omega) hinv

set_option maxRecDepth 100000 in
set_option maxHeartbeats 4000000 in
theorem c_Doubts_pickWalkers {cea cno cx cy cpo cla cba usp uke uco uow utw fa te fr to_ ea no : Nat → Int32} {cly cpt uos uwa uof utf uaf uas pl le od sk sd go : Int32} {pn wn : Nat → Int64} {uon uot : Int32} {nW : Nat} {set : Int32} (hW : nW ≤ 4) (hq : Q none (hUT cea cno cx cy cpo cla cba cly cpt usp uke uco uow utw uos ((pkF set nW).1) ((pkF set nW).2) uwa uof utf uaf uas pn wn fa te fr to_ ea no pl (nI nW) le od sk sd go)) : Call Γ M_Doubts_pickWalkers 2 0 0 [.ref 0, .ref 14, .int set] (hUT cea cno cx cy cpo cla cba cly cpt usp uke uco uow utw uos uon uot uwa uof utf uaf uas pn wn fa te fr to_ ea no pl (nI nW) le od sk sd go) Q := by
  refine call_intro (ls := [some (.ref 0), some (.ref 14), some (.int set), none]) rfl rfl rfl ?_
  refine wp_aload_n 1 d_Doubts_pickWalkers_0 rfl rfl ?_
  refine wp_iconst 2 (-1) d_Doubts_pickWalkers_1 rfl (by decide) ?_
  refine wp_putfield 5 3 7 _ d_Doubts_pickWalkers_2 rfl fp_Doubts_38 rfl rfl (okP_int _) ?_
  dsimp only [List.set]
  refine wp_aload_n 6 d_Doubts_pickWalkers_5 rfl rfl ?_
  refine wp_iconst 7 (-1) d_Doubts_pickWalkers_6 rfl (by decide) ?_
  refine wp_putfield 10 3 8 _ d_Doubts_pickWalkers_7 rfl fp_Doubts_41 rfl rfl (okP_int _) ?_
  dsimp only [List.set]
  refine wp_iconst 11 0 d_Doubts_pickWalkers_10 rfl (by decide) ?_
  refine wp_istore_3 12 d_Doubts_pickWalkers_11 rfl rfl rfl ?_
  exact l_Doubts_pickWalkers_12 hW nW 0 (-1, -1) (by omega) hq

end T37
