/-! ===== Life: its parts ===== -/
abbrev hL (cea : Nat → Int32) (cno : Nat → Int32) (cx : Nat → Int32) (cy : Nat → Int32) (cpo : Nat → Int32) (cla : Nat → Int32) (cba : Nat → Int32) (cly : Int32) (cpt : Int32) (lco : Nat → Int32) (lro : Nat → Int32) (lst : Int32) (ldr : Int32) : LH := [cO 5 [.ref 1, .ref 9, .ref 10, .int lst, .int ldr], cO 0 [.ref 2, .ref 3, .ref 4, .ref 5, .ref 6, .ref 7, .ref 8, .int cly, .int cpt], cI 12 cea, cI 12 cno, cI 7 cx, cI 7 cy, cI 7 cpo, cI 7 cla, cZ 7 cba, cI 5 lco, cI 60 lro]
abbrev hLT (cea : Nat → Int32) (cno : Nat → Int32) (cx : Nat → Int32) (cy : Nat → Int32) (cpo : Nat → Int32) (cla : Nat → Int32) (cba : Nat → Int32) (cly : Int32) (cpt : Int32) (lco : Nat → Int32) (lro : Nat → Int32) (lst : Int32) (ldr : Int32) (pn : Nat → Int64) (wn : Nat → Int64) (fa : Nat → Int32) (te : Nat → Int32) (fr : Nat → Int32) (to_ : Nat → Int32) (ea : Nat → Int32) (no : Nat → Int32) (pl : Int32) (wa : Int32) (le : Int32) (od : Int32) (sk : Int32) (sd : Int32) (go : Int32) : LH := [cO 5 [.ref 1, .ref 9, .ref 10, .int lst, .int ldr], cO 0 [.ref 2, .ref 3, .ref 4, .ref 5, .ref 6, .ref 7, .ref 8, .int cly, .int cpt], cI 12 cea, cI 12 cno, cI 7 cx, cI 7 cy, cI 7 cpo, cI 7 cla, cZ 7 cba, cI 5 lco, cI 60 lro, cO 8 [.ref 12, .ref 13, .ref 14, .ref 15, .ref 16, .ref 17, .ref 18, .ref 19, .int pl, .int wa, .int le, .int od, .int sk, .int sd, .int go], cL 7 pn, cL 4 wn, cI 4 fa, cI 12 te, cI 12 fr, cI 12 to_, cI 12 ea, cI 12 no]
abbrev hLD (cea : Nat → Int32) (cno : Nat → Int32) (cx : Nat → Int32) (cy : Nat → Int32) (cpo : Nat → Int32) (cla : Nat → Int32) (cba : Nat → Int32) (cly : Int32) (cpt : Int32) (lco : Nat → Int32) (lro : Nat → Int32) (lst : Int32) (ldr : Int32) (dk : Nat → Int32) (df : Nat → Int32) (ds : Nat → Int32) (dth : Int32) (dro : Int32) (dst : Int32) : LH := [cO 5 [.ref 1, .ref 9, .ref 10, .int lst, .int ldr], cO 0 [.ref 2, .ref 3, .ref 4, .ref 5, .ref 6, .ref 7, .ref 8, .int cly, .int cpt], cI 12 cea, cI 12 cno, cI 7 cx, cI 7 cy, cI 7 cpo, cI 7 cla, cZ 7 cba, cI 5 lco, cI 60 lro, cO 1 [.ref 12, .ref 13, .ref 14, .int dth, .int dro, .int dst], cI 60 dk, cI 60 df, cI 60 ds]
abbrev hLTD (cea : Nat → Int32) (cno : Nat → Int32) (cx : Nat → Int32) (cy : Nat → Int32) (cpo : Nat → Int32) (cla : Nat → Int32) (cba : Nat → Int32) (cly : Int32) (cpt : Int32) (lco : Nat → Int32) (lro : Nat → Int32) (lst : Int32) (ldr : Int32) (pn : Nat → Int64) (wn : Nat → Int64) (fa : Nat → Int32) (te : Nat → Int32) (fr : Nat → Int32) (to_ : Nat → Int32) (ea : Nat → Int32) (no : Nat → Int32) (pl : Int32) (wa : Int32) (le : Int32) (od : Int32) (sk : Int32) (sd : Int32) (go : Int32) (dk : Nat → Int32) (df : Nat → Int32) (ds : Nat → Int32) (dth : Int32) (dro : Int32) (dst : Int32) : LH := [cO 5 [.ref 1, .ref 9, .ref 10, .int lst, .int ldr], cO 0 [.ref 2, .ref 3, .ref 4, .ref 5, .ref 6, .ref 7, .ref 8, .int cly, .int cpt], cI 12 cea, cI 12 cno, cI 7 cx, cI 7 cy, cI 7 cpo, cI 7 cla, cZ 7 cba, cI 5 lco, cI 60 lro, cO 8 [.ref 12, .ref 13, .ref 14, .ref 15, .ref 16, .ref 17, .ref 18, .ref 19, .int pl, .int wa, .int le, .int od, .int sk, .int sd, .int go], cL 7 pn, cL 4 wn, cI 4 fa, cI 12 te, cI 12 fr, cI 12 to_, cI 12 ea, cI 12 no, cO 1 [.ref 21, .ref 22, .ref 23, .int dth, .int dro, .int dst], cI 60 dk, cI 60 df, cI 60 ds]
theorem sw_outL {x : Int32} (lo n : Nat) (hn : lo + n < 1000) (h : ∀ i : Nat, i < n → x ≠ nI (lo + i)) : x.toInt < lo ∨ ((lo : Int) + n - 1) < x.toInt := by
  by_cases h0 : x < 0
  · left
    have : x.toInt < 0 := by simpa using Int32.lt_iff_toInt_lt.mp h0
    omega
  · obtain ⟨j, hj, rfl⟩ := nI_of h0
    rw [nI_toInt hj]
    by_cases hjl : j < lo
    · left; omega
    · right
      by_cases hjn : j < lo + n
      · exact absurd rfl (show nI j ≠ nI j from by have := h (j - lo) (by omega); rwa [show lo + (j - lo) = j by omega] at this)
      · omega
def ctS (lco : Nat → Int32) (k : Int32) : Nat → Int32 := upd lco k.toNatClampNeg (lco k.toNatClampNeg + 1)
def drS (s : Int32) : Int32 := (s * 3277 + 11505) - (s * 3277 + 11505) / 65536 * 65536
def drV (s n : Int32) : Int32 := if 0 < n then drS s / 8 - drS s / 8 / n * n else 0
section T34
variable {Γ : Gm} {Q : Option Value → LH → Prop}
set_option maxRecDepth 100000 in
set_option maxHeartbeats 4000000 in
theorem c_Life_init (hq : Q none (hL ((fun _ => 0)) ((fun _ => 0)) ((fun _ => 0)) ((fun _ => 0)) ((fun _ => 0)) ((fun _ => 0)) ((fun _ => 0)) (0) (0) ((fun _ => 0)) ((fun _ => 0)) (0) (0))) : Call Γ M_Life_init 2 10 133 [.ref 0] [cO 5 [.null, .null, .null, .int 0, .int 0]] Q := by
  refine call_intro (ls := [some (.ref 0)]) rfl rfl rfl ?_
  refine wp_aload_n 1 d_Life_init_0 rfl rfl ?_
  refine wp_objInit 4 d_Life_init_1 rfl lo_Life_3 oi_inst oi_code (by decide) (by decide) ?_
  refine wp_aload_n 5 d_Life_init_4 rfl rfl ?_
  refine wp_new 8 0 9 1 [.null, .null, .null, .null, .null, .null, .null, .int 0, .int 0] d_Life_init_5 rfl nw_Life_9 rfl rfl ?_
  simp only [List.cons_append, List.nil_append]
  refine wp_dup 9 d_Life_init_8 rfl rfl ?_
  refine wxN0 (b' := 0) 12 M_Chart_init 1 7 59 [1] ([cO 0 [.null, .null, .null, .null, .null, .null, .null, .int 0, .int 0]]) d_Life_init_9 rfl mi_Chart_init lk_Life_11 rfl rfl rfl rfl rfl rfl ?_
  refine c_Chart_init ?_
  refine kX rfl rfl rfl ?_
  simp only [putX, putH, sgx, rC, eV, XB, List.length_cons, List.length_nil, List.take_succ_cons, List.take_zero, List.drop_succ_cons, List.drop_zero, List.map_cons, List.map_nil, List.set_cons_zero, List.set_cons_succ, List.getD_cons_zero, List.getD_cons_succ, List.cons_append, List.nil_append, Nat.zero_add, Nat.reduceAdd, Nat.reduceSub, Nat.reduceLT, Nat.reduceLeDiff, if_true, if_false, ite_true, ite_false]
  refine wp_putfinal 15 5 0 _ d_Life_init_12 rfl fp_Life_12 rfl rfl rfl (fun _ => ⟨rfl, rfl⟩) ?_
  dsimp only [List.set]
  refine wp_aload_n 16 d_Life_init_15 rfl rfl ?_
  refine wp_iconst 17 5 d_Life_init_16 rfl (by decide) ?_
  refine wp_newarray_int 19 5 9 d_Life_init_17 rfl ac_int (by decide) (by decide) (by decide) rfl rfl ?_
  simp only [List.cons_append, List.nil_append]
  refine wp_putfinal 22 5 1 _ d_Life_init_19 rfl fp_Life_18 rfl rfl rfl (fun _ => ⟨rfl, rfl⟩) ?_
  dsimp only [List.set]
  refine wp_aload_n 23 d_Life_init_22 rfl rfl ?_
  refine wp_bipush 25 60 d_Life_init_23 rfl (by decide) ?_
  refine wp_newarray_int 27 60 10 d_Life_init_25 rfl ac_int (by decide) (by decide) (by decide) rfl rfl ?_
  simp only [List.cons_append, List.nil_append]
  refine wp_putfinal 30 5 2 _ d_Life_init_27 rfl fp_Life_24 rfl rfl rfl (fun _ => ⟨rfl, rfl⟩) ?_
  dsimp only [List.set]
  refine wp_aload_n 31 d_Life_init_30 rfl rfl ?_
  refine wp_iconst 32 0 d_Life_init_31 rfl (by decide) ?_
  refine wp_putfield 35 5 3 _ d_Life_init_32 rfl fp_Life_27 rfl rfl (okP_int _) ?_
  dsimp only [List.set]
  refine wp_aload_n 36 d_Life_init_35 rfl rfl ?_
  refine wp_iconst 37 0 d_Life_init_36 rfl (by decide) ?_
  refine wp_putfield 40 5 4 _ d_Life_init_37 rfl fp_Life_31 rfl rfl (okP_int _) ?_
  dsimp only [List.set]
  refine wp_return d_Life_init_40 rfl ?_
  exact hq

set_option maxRecDepth 100000 in
set_option maxHeartbeats 4000000 in
theorem c_Life_count {cea cno cx cy cpo cla cba lco lro : Nat → Int32} {cly cpt lst ldr : Int32} {k dn : Int32} (hk : vp_in k 5) (hq : Q none (hL cea cno cx cy cpo cla cba cly cpt (ctS lco (if dn = 0 then 0 else k)) lro lst ldr)) : Call Γ M_Life_count 1 0 0 [.ref 0, .int k, .int dn] (hL cea cno cx cy cpo cla cba cly cpt lco lro lst ldr) Q := by
  refine call_intro (ls := [some (.ref 0), some (.int k), some (.int dn)]) rfl rfl rfl ?_
  refine wp_aload_n 1 d_Life_count_0 rfl rfl ?_
  refine wp_getfield 4 5 1 d_Life_count_1 rfl fl_Life_18 rfl rfl ?_
  refine wp_iload_n 5 d_Life_count_4 rfl rfl ?_
  refine wp_if_eq 12 8 d_Life_count_5 rfl (by decide) (fun h5 => ?_) (fun h5 => ?_)
  · refine wp_iconst 13 0 d_Life_count_12 rfl (by decide) ?_
    refine wp_dup2 14 d_Life_count_13 rfl rfl rfl ?_
    first | refine wp_iaload 15 d_Life_count_14 rfl rfl hk ?_ | refine wp_iaload 15 d_Life_count_14 rfl rfl (vp_in_nI (n := 0) (by omega) (by omega)) ?_
    refine wp_iconst 16 1 d_Life_count_15 rfl (by decide) ?_
    refine wp_iadd 17 d_Life_count_16 rfl ?_
    first | refine wp_iastore 18 d_Life_count_17 rfl rfl hk ?_ | refine wp_iastore 18 d_Life_count_17 rfl rfl (vp_in_nI (n := 0) (by omega) (by omega)) ?_
    dsimp only [List.set]
    refine wp_return d_Life_count_18 rfl ?_
    first | (rw [if_pos h5] at hq; exact hq) | (rw [if_neg h5] at hq; exact hq)
  · refine wp_iload_n 9 d_Life_count_8 rfl rfl ?_
    refine wp_goto 13 d_Life_count_9 (by decide) ?_
    refine wp_dup2 14 d_Life_count_13 rfl rfl rfl ?_
    first | refine wp_iaload 15 d_Life_count_14 rfl rfl hk ?_ | refine wp_iaload 15 d_Life_count_14 rfl rfl (vp_in_nI (n := 0) (by omega) (by omega)) ?_
    refine wp_iconst 16 1 d_Life_count_15 rfl (by decide) ?_
    refine wp_iadd 17 d_Life_count_16 rfl ?_
    first | refine wp_iastore 18 d_Life_count_17 rfl rfl hk ?_ | refine wp_iastore 18 d_Life_count_17 rfl rfl (vp_in_nI (n := 0) (by omega) (by omega)) ?_
    dsimp only [List.set]
    refine wp_return d_Life_count_18 rfl ?_
    first | (rw [if_pos h5] at hq; exact hq) | (rw [if_neg h5] at hq; exact hq)

set_option maxRecDepth 100000 in
set_option maxHeartbeats 4000000 in
theorem c_Life_draw {cea cno cx cy cpo cla cba lco lro : Nat → Int32} {cly cpt lst ldr : Int32} {n : Int32} (hq : Q (some (.int (drV ldr n))) (hL cea cno cx cy cpo cla cba cly cpt lco lro lst (drS ldr))) : Call Γ M_Life_draw 1 0 0 [.ref 0, .int n] (hL cea cno cx cy cpo cla cba cly cpt lco lro lst ldr) Q := by
  refine call_intro (ls := [some (.ref 0), some (.int n)]) rfl rfl rfl ?_
  refine wp_aload_n 1 d_Life_draw_0 rfl rfl ?_
  refine wp_aload_n 2 d_Life_draw_1 rfl rfl ?_
  refine wp_getfield 5 5 4 d_Life_draw_2 rfl fl_Life_31 rfl rfl ?_
  refine wp_sipush 8 3277 d_Life_draw_5 rfl (by decide) ?_
  refine wp_imul 9 d_Life_draw_8 rfl ?_
  refine wp_sipush 12 11505 d_Life_draw_9 rfl (by decide) ?_
  refine wp_iadd 13 d_Life_draw_12 rfl ?_
  refine wp_ldc 15 (65536 : Int32) d_Life_draw_13 rfl ct_Life_115 ?_
  refine wp_irem 16 d_Life_draw_15 rfl (by decide) ?_
  refine wp_putfield 19 5 4 _ d_Life_draw_16 rfl fp_Life_31 rfl rfl (okP_int _) ?_
  dsimp only [List.set]
  refine wp_iload_n 20 d_Life_draw_19 rfl rfl ?_
  refine wp_if_le 35 23 d_Life_draw_20 rfl (by decide) (fun h20 => ?_) (fun h20 => ?_)
  · refine wp_iconst 36 0 d_Life_draw_35 rfl (by decide) ?_
    refine wp_ireturn d_Life_draw_36 rfl ?_
    first | (refine qI hq ?_; unfold drV; rw [if_pos (Int32.not_le.mp h20)]; rfl) | (refine qI hq ?_; unfold drV; rw [if_neg (Int32.not_lt.mpr h20)])
  · refine wp_aload_n 24 d_Life_draw_23 rfl rfl ?_
    refine wp_getfield 27 5 4 d_Life_draw_24 rfl fl_Life_31 rfl rfl ?_
    refine wp_bipush 29 8 d_Life_draw_27 rfl (by decide) ?_
    refine wp_idiv 30 d_Life_draw_29 rfl (by decide) ?_
    refine wp_iload_n 31 d_Life_draw_30 rfl rfl ?_
    refine wp_irem 32 d_Life_draw_31 rfl (fun z => absurd h20 (by rw [z]; decide)) ?_
    refine wp_goto 36 d_Life_draw_32 (by decide) ?_
    refine wp_ireturn d_Life_draw_36 rfl ?_
    first | (refine qI hq ?_; unfold drV; rw [if_pos (Int32.not_le.mp h20)]; rfl) | (refine qI hq ?_; unfold drV; rw [if_neg (Int32.not_lt.mpr h20)])

set_option maxRecDepth 100000 in
set_option maxHeartbeats 4000000 in
theorem c_Life_takeBelief {cea cno cx cy cpo cla cba lco lro fa te fr to_ ea no : Nat → Int32} {cly cpt lst ldr pl le od sk sd go : Int32} {pn wn : Nat → Int64} {nW : Nat} {w f : Int32} (hW : nW ≤ 4) (hq : Q none (hLT cea cno cx cy cpo cla cba cly cpt (if inR w (nI nW) ∧ ¬ fa w.toNatClampNeg = f then lco else ctS lco 0) lro lst ldr pn wn (if inR w (nI nW) ∧ ¬ fa w.toNatClampNeg = f then upd fa w.toNatClampNeg f else fa) te fr to_ ea no pl (nI nW) le od sk sd go)) : Call Γ M_Life_takeBelief 2 0 0 [.ref 0, .ref 11, .int w, .int f] (hLT cea cno cx cy cpo cla cba cly cpt lco lro lst ldr pn wn fa te fr to_ ea no pl (nI nW) le od sk sd go) Q := by
  refine call_intro (ls := [some (.ref 0), some (.ref 11), some (.int w), some (.int f)]) rfl rfl rfl ?_
  refine wp_iload_n 1 d_Life_takeBelief_0 rfl rfl ?_
  refine wp_aload_n 2 d_Life_takeBelief_1 rfl rfl ?_
  refine wp_getfield 5 8 9 d_Life_takeBelief_2 rfl fl_Life_89 rfl rfl ?_
  refine wp_N2 8 M_PM_within 1 d_Life_takeBelief_5 rfl ms_PM_within lk_Life_92 rfl rfl ?_
  refine c_PM_within ?_
  refine kI ?_
  (first | refine wp_ifP_eq 21 11 d_Life_takeBelief_8 rfl (by decide) (fun h8 => ?_) (fun h8 => ?_) | refine wp_if_eq 21 11 d_Life_takeBelief_8 rfl (by decide) (fun h8 => ?_) (fun h8 => ?_))
  · refine wp_aload_n 22 d_Life_takeBelief_21 rfl rfl ?_
    refine wp_getfield 25 5 1 d_Life_takeBelief_22 rfl fl_Life_18 rfl rfl ?_
    refine wp_iconst 26 0 d_Life_takeBelief_25 rfl (by decide) ?_
    refine wp_dup2 27 d_Life_takeBelief_26 rfl rfl rfl ?_
    refine wp_iaload 28 d_Life_takeBelief_27 rfl rfl (vp_in_nI (n := 0) (by omega) (by omega)) ?_
    refine wp_iconst 29 1 d_Life_takeBelief_28 rfl (by decide) ?_
    refine wp_iadd 30 d_Life_takeBelief_29 rfl ?_
    refine wp_iastore 31 d_Life_takeBelief_30 rfl rfl (vp_in_nI (n := 0) (by omega) (by omega)) ?_
    dsimp only [List.set]
    refine wp_return d_Life_takeBelief_31 rfl ?_
    first | (have hx : ¬ (inR w (nI nW) ∧ ¬ fa w.toNatClampNeg = f) := fun z => z.2 h18; simp only [if_neg hx] at hq; exact hq) | (have hx : ¬ (inR w (nI nW) ∧ ¬ fa w.toNatClampNeg = f) := fun z => h8 z.1; simp only [if_neg hx] at hq; exact hq)
  · refine wp_aload_n 12 d_Life_takeBelief_11 rfl rfl ?_
    refine wp_getfield 15 8 2 d_Life_takeBelief_12 rfl fl_Life_96 rfl rfl ?_
    refine wp_iload_n 16 d_Life_takeBelief_15 rfl rfl ?_
    refine wp_iaload 17 d_Life_takeBelief_16 rfl rfl (inR_in h8 hW (by omega)) ?_
    refine wp_iload_n 18 d_Life_takeBelief_17 rfl rfl ?_
    refine wp_icmp_ne 32 21 d_Life_takeBelief_18 rfl (by decide) (fun h18 => ?_) (fun h18 => ?_)
    · refine wp_aload_n 33 d_Life_takeBelief_32 rfl rfl ?_
      refine wp_getfield 36 8 2 d_Life_takeBelief_33 rfl fl_Life_96 rfl rfl ?_
      refine wp_iload_n 37 d_Life_takeBelief_36 rfl rfl ?_
      refine wp_iload_n 38 d_Life_takeBelief_37 rfl rfl ?_
      refine wp_iastore 39 d_Life_takeBelief_38 rfl rfl (inR_in h8 hW (by omega)) ?_
      dsimp only [List.set]
      refine wp_return d_Life_takeBelief_39 rfl ?_
      have hx : inR w (nI nW) ∧ ¬ fa w.toNatClampNeg = f := ⟨h8, h18⟩
      simp only [if_pos hx] at hq; exact hq
    · refine wp_aload_n 22 d_Life_takeBelief_21 rfl rfl ?_
      refine wp_getfield 25 5 1 d_Life_takeBelief_22 rfl fl_Life_18 rfl rfl ?_
      refine wp_iconst 26 0 d_Life_takeBelief_25 rfl (by decide) ?_
      refine wp_dup2 27 d_Life_takeBelief_26 rfl rfl rfl ?_
      refine wp_iaload 28 d_Life_takeBelief_27 rfl rfl (vp_in_nI (n := 0) (by omega) (by omega)) ?_
      refine wp_iconst 29 1 d_Life_takeBelief_28 rfl (by decide) ?_
      refine wp_iadd 30 d_Life_takeBelief_29 rfl ?_
      refine wp_iastore 31 d_Life_takeBelief_30 rfl rfl (vp_in_nI (n := 0) (by omega) (by omega)) ?_
      dsimp only [List.set]
      refine wp_return d_Life_takeBelief_31 rfl ?_
      first | (have hx : ¬ (inR w (nI nW) ∧ ¬ fa w.toNatClampNeg = f) := fun z => z.2 h18; simp only [if_neg hx] at hq; exact hq) | (have hx : ¬ (inR w (nI nW) ∧ ¬ fa w.toNatClampNeg = f) := fun z => h8 z.1; simp only [if_neg hx] at hq; exact hq)

set_option maxRecDepth 100000 in
set_option maxHeartbeats 4000000 in
theorem c_Life_behindEnd {cea cno cx cy cpo cla cba lco lro dk df ds : Nat → Int32} {cly cpt lst ldr dth dro dst : Int32} {r : Nat} (hr : r < 60) (hds : ∀ j, vp_in (ds j) 60) (hq : Q (some (.int (if dk (ds r).toNatClampNeg = 6 ∧ 0 < lro (ds r).toNatClampNeg - 1 then ds r + 1 else nI (r + 1)))) (hLD cea cno cx cy cpo cla cba cly cpt lco (if dk (ds r).toNatClampNeg = 6 then upd lro (ds r).toNatClampNeg (lro (ds r).toNatClampNeg - 1) else lro) lst ldr dk df ds dth dro dst)) : Call Γ M_Life_behindEnd 1 0 0 [.ref 0, .ref 11, .int (nI r)] (hLD cea cno cx cy cpo cla cba cly cpt lco lro lst ldr dk df ds dth dro dst) Q := by
  refine call_intro (ls := [some (.ref 0), some (.ref 11), some (.int (nI r)), none]) rfl rfl rfl ?_
  refine wp_aload_n 1 d_Life_behindEnd_0 rfl rfl ?_
  refine wp_getfield 4 1 2 d_Life_behindEnd_1 rfl fl_Life_55 rfl rfl ?_
  refine wp_iload_n 5 d_Life_behindEnd_4 rfl rfl ?_
  refine wp_ialoadN 6 d_Life_behindEnd_5 rfl rfl rfl (by omega) ?_
  refine wp_istore_3 7 d_Life_behindEnd_6 rfl rfl rfl ?_
  refine wp_aload_n 8 d_Life_behindEnd_7 rfl rfl ?_
  refine wp_getfield 11 1 0 d_Life_behindEnd_8 rfl fl_Life_44 rfl rfl ?_
  refine wp_iload_n 12 d_Life_behindEnd_11 rfl rfl ?_
  refine wp_iaload 13 d_Life_behindEnd_12 rfl rfl (hds _) ?_
  refine wp_bipush 15 6 d_Life_behindEnd_13 rfl (by decide) ?_
  refine wp_icmp_eq 22 18 d_Life_behindEnd_15 rfl (by decide) (fun h15 => ?_) (fun h15 => ?_)
  · refine wp_aload_n 23 d_Life_behindEnd_22 rfl rfl ?_
    refine wp_getfield 26 5 2 d_Life_behindEnd_23 rfl fl_Life_24 rfl rfl ?_
    refine wp_iload_n 27 d_Life_behindEnd_26 rfl rfl ?_
    refine wp_dup2 28 d_Life_behindEnd_27 rfl rfl rfl ?_
    refine wp_iaload 29 d_Life_behindEnd_28 rfl rfl (hds _) ?_
    refine wp_iconst 30 1 d_Life_behindEnd_29 rfl (by decide) ?_
    refine wp_isub 31 d_Life_behindEnd_30 rfl ?_
    refine wp_iastore 32 d_Life_behindEnd_31 rfl rfl (hds _) ?_
    dsimp only [List.set]
    refine wp_aload_n 33 d_Life_behindEnd_32 rfl rfl ?_
    refine wp_getfield 36 5 2 d_Life_behindEnd_33 rfl fl_Life_24 rfl rfl ?_
    refine wp_iload_n 37 d_Life_behindEnd_36 rfl rfl ?_
    refine wp_iaload 38 d_Life_behindEnd_37 rfl rfl (hds _) ?_
    simp only [upd, if_true]
    refine wp_if_le 47 41 d_Life_behindEnd_38 rfl (by decide) (fun h38 => ?_) (fun h38 => ?_)
    · refine wp_iload_n 48 d_Life_behindEnd_47 rfl rfl ?_
      refine wp_iconst 49 1 d_Life_behindEnd_48 rfl (by decide) ?_
      refine wp_iadd 50 d_Life_behindEnd_49 rfl ?_
      refine wp_ireturn d_Life_behindEnd_50 rfl ?_
      first | (rw [if_pos ⟨h15, Int32.not_le.mp h38⟩, if_pos h15] at hq; exact hq) | (rw [nI_1]; rw [if_neg (fun z => absurd h38 (Int32.not_le.mpr z.2)), if_pos h15] at hq; exact hq)
    · refine wp_iload_n 42 d_Life_behindEnd_41 rfl rfl ?_
      refine wp_iconst 43 1 d_Life_behindEnd_42 rfl (by decide) ?_
      refine wp_iadd 44 d_Life_behindEnd_43 rfl ?_
      refine wp_goto 50 d_Life_behindEnd_44 (by decide) ?_
      refine wp_ireturn d_Life_behindEnd_50 rfl ?_
      first | (rw [if_pos ⟨h15, Int32.not_le.mp h38⟩, if_pos h15] at hq; exact hq) | (rw [nI_1]; rw [if_neg (fun z => absurd h38 (Int32.not_le.mpr z.2)), if_pos h15] at hq; exact hq)
  · refine wp_iload_n 19 d_Life_behindEnd_18 rfl rfl ?_
    refine wp_iconst 20 1 d_Life_behindEnd_19 rfl (by decide) ?_
    refine wp_iadd 21 d_Life_behindEnd_20 rfl ?_
    refine wp_ireturn d_Life_behindEnd_21 rfl ?_
    rw [nI_1]
    rw [if_neg (fun z => h15 z.1), if_neg h15] at hq; exact hq

end T34
