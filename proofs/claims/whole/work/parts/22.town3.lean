/-! ===== Town: adding, finding, copying, making; Arrays.fill ===== -/
abbrev hTT (pn : Nat → Int64) (wn : Nat → Int64) (fa : Nat → Int32) (te : Nat → Int32) (fr : Nat → Int32) (to_ : Nat → Int32) (ea : Nat → Int32) (no : Nat → Int32) (pl : Int32) (wa : Int32) (le : Int32) (od : Int32) (sk : Int32) (sd : Int32) (go : Int32) (o_pn : Nat → Int64) (o_wn : Nat → Int64) (o_fa : Nat → Int32) (o_te : Nat → Int32) (o_fr : Nat → Int32) (o_to_ : Nat → Int32) (o_ea : Nat → Int32) (o_no : Nat → Int32) (o_pl : Int32) (o_wa : Int32) (o_le : Int32) (o_od : Int32) (o_sk : Int32) (o_sd : Int32) (o_go : Int32) : LH := [cO 8 [.ref 1, .ref 2, .ref 3, .ref 4, .ref 5, .ref 6, .ref 7, .ref 8, .int pl, .int wa, .int le, .int od, .int sk, .int sd, .int go], cL 7 pn, cL 4 wn, cI 4 fa, cI 12 te, cI 12 fr, cI 12 to_, cI 12 ea, cI 12 no, cO 8 [.ref 10, .ref 11, .ref 12, .ref 13, .ref 14, .ref 15, .ref 16, .ref 17, .int o_pl, .int o_wa, .int o_le, .int o_od, .int o_sk, .int o_sd, .int o_go], cL 7 o_pn, cL 4 o_wn, cI 4 o_fa, cI 12 o_te, cI 12 o_fr, cI 12 o_to_, cI 12 o_ea, cI 12 o_no]
theorem lc_0 {x y : Int64} (h : lg_cmp x y = 0) : x = y := by
  unfold lg_cmp at h
  split at h
  · exact absurd h (by decide)
  · split at h
    · assumption
    · exact absurd h (by decide)
theorem lc_n {x y : Int64} (h : lg_cmp x y ≠ 0) : x ≠ y := by
  intro e
  subst e
  apply h
  unfold lg_cmp
  simp
section T22
variable {Γ : Gm} {Q : Option Value → LH → Prop}
set_option maxRecDepth 100000 in
set_option maxHeartbeats 4000000 in
theorem c_Town_addPlace {pn wn : Nat → Int64} {fa te fr to_ ea no : Nat → Int32} {wa le od sk sd go : Int32} {nP : Nat} {name : Int64} (hP : nP < 7) (hq : Q (some (.int (nI nP))) (hT (vp_updL pn nP name) wn fa te fr to_ ea no (nI (nP + 1)) wa le od sk (if nP = 0 then 0 else sd) go)) : Call Γ M_Town_addPlace 1 0 0 [.ref 0, .long name] (hT pn wn fa te fr to_ ea no (nI nP) wa le od sk sd go) Q := by
  refine call_intro (ls := [some (.ref 0), some (.long name), none]) rfl rfl rfl ?_
  refine wp_aload_n 1 d_Town_addPlace_0 rfl rfl ?_
  refine wp_getfield 4 8 8 d_Town_addPlace_1 rfl fl_Town_37 rfl rfl ?_
  refine wp_bipush 6 7 d_Town_addPlace_4 rfl (by decide) ?_
  refine wp_icmp_lt 11 9 d_Town_addPlace_6 rfl (by decide) (fun h6 => ?_) (fun h6 => ?_)
  · refine wp_aload_n 12 d_Town_addPlace_11 rfl rfl ?_
    refine wp_getfield 15 8 0 d_Town_addPlace_12 rfl fl_Town_9 rfl rfl ?_
    refine wp_aload_n 16 d_Town_addPlace_15 rfl rfl ?_
    refine wp_getfield 19 8 8 d_Town_addPlace_16 rfl fl_Town_37 rfl rfl ?_
    refine wp_lload_n 20 d_Town_addPlace_19 rfl rfl ?_
    refine wp_lastoreN 21 d_Town_addPlace_20 rfl rfl rfl hP ?_
    dsimp only [List.set]
    refine wp_aload_n 22 d_Town_addPlace_21 rfl rfl ?_
    refine wp_getfield 25 8 8 d_Town_addPlace_22 rfl fl_Town_37 rfl rfl ?_
    refine wp_if_ne 33 28 d_Town_addPlace_25 rfl (by decide) (fun h25 => ?_) (fun h25 => ?_)
    · refine wp_aload_n 34 d_Town_addPlace_33 rfl rfl ?_
      refine wp_dup 35 d_Town_addPlace_34 rfl rfl ?_
      refine wp_getfield 38 8 8 d_Town_addPlace_35 rfl fl_Town_37 rfl rfl ?_
      refine wp_iconst 39 1 d_Town_addPlace_38 rfl (by decide) ?_
      refine wp_iadd 40 d_Town_addPlace_39 rfl ?_
      refine wp_putfield 43 8 8 _ d_Town_addPlace_40 rfl fp_Town_37 rfl rfl (okP_int _) ?_
      dsimp only [List.set]
      refine wp_aload_n 44 d_Town_addPlace_43 rfl rfl ?_
      refine wp_getfield 47 8 8 d_Town_addPlace_44 rfl fl_Town_37 rfl rfl ?_
      refine wp_iconst 48 1 d_Town_addPlace_47 rfl (by decide) ?_
      refine wp_isub 49 d_Town_addPlace_48 rfl ?_
      refine wp_ireturn d_Town_addPlace_49 rfl ?_
      rw [nI_1, nI_pred]
      first | (rw [if_pos (by by_cases z : nP = 0; exact z; exact absurd h25 (nI_ne0 (by omega) (by omega)))] at hq; exact hq) | (rw [if_neg (fun z => h25 (by rw [z]; rfl))] at hq; exact hq)
    · refine wp_aload_n 29 d_Town_addPlace_28 rfl rfl ?_
      refine wp_iconst 30 0 d_Town_addPlace_29 rfl (by decide) ?_
      refine wp_putfield 33 8 13 _ d_Town_addPlace_30 rfl fp_Town_53 rfl rfl (okP_int _) ?_
      dsimp only [List.set]
      refine wp_aload_n 34 d_Town_addPlace_33 rfl rfl ?_
      refine wp_dup 35 d_Town_addPlace_34 rfl rfl ?_
      refine wp_getfield 38 8 8 d_Town_addPlace_35 rfl fl_Town_37 rfl rfl ?_
      refine wp_iconst 39 1 d_Town_addPlace_38 rfl (by decide) ?_
      refine wp_iadd 40 d_Town_addPlace_39 rfl ?_
      refine wp_putfield 43 8 8 _ d_Town_addPlace_40 rfl fp_Town_37 rfl rfl (okP_int _) ?_
      dsimp only [List.set]
      refine wp_aload_n 44 d_Town_addPlace_43 rfl rfl ?_
      refine wp_getfield 47 8 8 d_Town_addPlace_44 rfl fl_Town_37 rfl rfl ?_
      refine wp_iconst 48 1 d_Town_addPlace_47 rfl (by decide) ?_
      refine wp_isub 49 d_Town_addPlace_48 rfl ?_
      refine wp_ireturn d_Town_addPlace_49 rfl ?_
      rw [nI_1, nI_pred]
      first | (rw [if_pos (by by_cases z : nP = 0; exact z; exact absurd h25 (nI_ne0 (by omega) (by omega)))] at hq; exact hq) | (rw [if_neg (fun z => h25 (by rw [z]; rfl))] at hq; exact hq)
  · exact absurd (show nI nP < nI 7 from (nI_ltI (by omega) (by omega)).mpr hP) h6

set_option maxRecDepth 100000 in
set_option maxHeartbeats 4000000 in
theorem c_Town_addWalker {pn wn : Nat → Int64} {fa te fr to_ ea no : Nat → Int32} {pl le od sk sd go : Int32} {nW : Nat} {name : Int64} {f : Int32} (hW : nW < 4) (hq : Q (some (.int (nI nW))) (hT pn (vp_updL wn nW name) (upd fa nW f) te fr to_ ea no pl (nI (nW + 1)) le od sk sd go)) : Call Γ M_Town_addWalker 1 0 0 [.ref 0, .long name, .int f] (hT pn wn fa te fr to_ ea no pl (nI nW) le od sk sd go) Q := by
  refine call_intro (ls := [some (.ref 0), some (.long name), none, some (.int f)]) rfl rfl rfl ?_
  refine wp_aload_n 1 d_Town_addWalker_0 rfl rfl ?_
  refine wp_getfield 4 8 9 d_Town_addWalker_1 rfl fl_Town_41 rfl rfl ?_
  refine wp_iconst 5 4 d_Town_addWalker_4 rfl (by decide) ?_
  refine wp_icmp_lt 10 8 d_Town_addWalker_5 rfl (by decide) (fun h5 => ?_) (fun h5 => ?_)
  · refine wp_aload_n 11 d_Town_addWalker_10 rfl rfl ?_
    refine wp_getfield 14 8 1 d_Town_addWalker_11 rfl fl_Town_15 rfl rfl ?_
    refine wp_aload_n 15 d_Town_addWalker_14 rfl rfl ?_
    refine wp_getfield 18 8 9 d_Town_addWalker_15 rfl fl_Town_41 rfl rfl ?_
    refine wp_lload_n 19 d_Town_addWalker_18 rfl rfl ?_
    refine wp_lastoreN 20 d_Town_addWalker_19 rfl rfl rfl hW ?_
    dsimp only [List.set]
    refine wp_aload_n 21 d_Town_addWalker_20 rfl rfl ?_
    refine wp_getfield 24 8 2 d_Town_addWalker_21 rfl fl_Town_18 rfl rfl ?_
    refine wp_aload_n 25 d_Town_addWalker_24 rfl rfl ?_
    refine wp_getfield 28 8 9 d_Town_addWalker_25 rfl fl_Town_41 rfl rfl ?_
    refine wp_iload_n 29 d_Town_addWalker_28 rfl rfl ?_
    refine wp_iastoreN 30 d_Town_addWalker_29 rfl rfl rfl hW ?_
    dsimp only [List.set]
    refine wp_aload_n 31 d_Town_addWalker_30 rfl rfl ?_
    refine wp_dup 32 d_Town_addWalker_31 rfl rfl ?_
    refine wp_getfield 35 8 9 d_Town_addWalker_32 rfl fl_Town_41 rfl rfl ?_
    refine wp_iconst 36 1 d_Town_addWalker_35 rfl (by decide) ?_
    refine wp_iadd 37 d_Town_addWalker_36 rfl ?_
    refine wp_putfield 40 8 9 _ d_Town_addWalker_37 rfl fp_Town_41 rfl rfl (okP_int _) ?_
    dsimp only [List.set]
    refine wp_aload_n 41 d_Town_addWalker_40 rfl rfl ?_
    refine wp_getfield 44 8 9 d_Town_addWalker_41 rfl fl_Town_41 rfl rfl ?_
    refine wp_iconst 45 1 d_Town_addWalker_44 rfl (by decide) ?_
    refine wp_isub 46 d_Town_addWalker_45 rfl ?_
    refine wp_ireturn d_Town_addWalker_46 rfl ?_
    rw [nI_1, nI_pred]
    exact hq
  · exact absurd (show nI nW < nI 4 from (nI_ltI (by omega) (by omega)).mpr hW) h5

set_option maxRecDepth 100000 in
set_option maxHeartbeats 4000000 in
theorem c_Town_addLeg {pn wn : Nat → Int64} {fa te fr to_ ea no : Nat → Int32} {pl wa od sk sd go : Int32} {nL : Nat} {t a b : Int32} (hL : nL < 12) (hq : Q (some (.int (nI nL))) (hT pn wn fa (upd te nL t) (upd fr nL a) (upd to_ nL b) (upd ea nL 0) (upd no nL 0) pl wa (nI (nL + 1)) od sk sd go)) : Call Γ M_Town_addLeg 1 0 0 [.ref 0, .int t, .int a, .int b] (hT pn wn fa te fr to_ ea no pl wa (nI nL) od sk sd go) Q := by
  refine call_intro (ls := [some (.ref 0), some (.int t), some (.int a), some (.int b)]) rfl rfl rfl ?_
  refine wp_aload_n 1 d_Town_addLeg_0 rfl rfl ?_
  refine wp_getfield 4 8 10 d_Town_addLeg_1 rfl fl_Town_44 rfl rfl ?_
  refine wp_bipush 6 12 d_Town_addLeg_4 rfl (by decide) ?_
  refine wp_icmp_lt 11 9 d_Town_addLeg_6 rfl (by decide) (fun h6 => ?_) (fun h6 => ?_)
  · refine wp_aload_n 12 d_Town_addLeg_11 rfl rfl ?_
    refine wp_getfield 15 8 3 d_Town_addLeg_12 rfl fl_Town_22 rfl rfl ?_
    refine wp_aload_n 16 d_Town_addLeg_15 rfl rfl ?_
    refine wp_getfield 19 8 10 d_Town_addLeg_16 rfl fl_Town_44 rfl rfl ?_
    refine wp_iload_n 20 d_Town_addLeg_19 rfl rfl ?_
    refine wp_iastoreN 21 d_Town_addLeg_20 rfl rfl rfl hL ?_
    dsimp only [List.set]
    refine wp_aload_n 22 d_Town_addLeg_21 rfl rfl ?_
    refine wp_getfield 25 8 4 d_Town_addLeg_22 rfl fl_Town_25 rfl rfl ?_
    refine wp_aload_n 26 d_Town_addLeg_25 rfl rfl ?_
    refine wp_getfield 29 8 10 d_Town_addLeg_26 rfl fl_Town_44 rfl rfl ?_
    refine wp_iload_n 30 d_Town_addLeg_29 rfl rfl ?_
    refine wp_iastoreN 31 d_Town_addLeg_30 rfl rfl rfl hL ?_
    dsimp only [List.set]
    refine wp_aload_n 32 d_Town_addLeg_31 rfl rfl ?_
    refine wp_getfield 35 8 5 d_Town_addLeg_32 rfl fl_Town_28 rfl rfl ?_
    refine wp_aload_n 36 d_Town_addLeg_35 rfl rfl ?_
    refine wp_getfield 39 8 10 d_Town_addLeg_36 rfl fl_Town_44 rfl rfl ?_
    refine wp_iload_n 40 d_Town_addLeg_39 rfl rfl ?_
    refine wp_iastoreN 41 d_Town_addLeg_40 rfl rfl rfl hL ?_
    dsimp only [List.set]
    refine wp_aload_n 42 d_Town_addLeg_41 rfl rfl ?_
    refine wp_getfield 45 8 6 d_Town_addLeg_42 rfl fl_Town_31 rfl rfl ?_
    refine wp_aload_n 46 d_Town_addLeg_45 rfl rfl ?_
    refine wp_getfield 49 8 10 d_Town_addLeg_46 rfl fl_Town_44 rfl rfl ?_
    refine wp_iconst 50 0 d_Town_addLeg_49 rfl (by decide) ?_
    refine wp_iastoreN 51 d_Town_addLeg_50 rfl rfl rfl hL ?_
    dsimp only [List.set]
    refine wp_aload_n 52 d_Town_addLeg_51 rfl rfl ?_
    refine wp_getfield 55 8 7 d_Town_addLeg_52 rfl fl_Town_34 rfl rfl ?_
    refine wp_aload_n 56 d_Town_addLeg_55 rfl rfl ?_
    refine wp_getfield 59 8 10 d_Town_addLeg_56 rfl fl_Town_44 rfl rfl ?_
    refine wp_iconst 60 0 d_Town_addLeg_59 rfl (by decide) ?_
    refine wp_iastoreN 61 d_Town_addLeg_60 rfl rfl rfl hL ?_
    dsimp only [List.set]
    refine wp_aload_n 62 d_Town_addLeg_61 rfl rfl ?_
    refine wp_dup 63 d_Town_addLeg_62 rfl rfl ?_
    refine wp_getfield 66 8 10 d_Town_addLeg_63 rfl fl_Town_44 rfl rfl ?_
    refine wp_iconst 67 1 d_Town_addLeg_66 rfl (by decide) ?_
    refine wp_iadd 68 d_Town_addLeg_67 rfl ?_
    refine wp_putfield 71 8 10 _ d_Town_addLeg_68 rfl fp_Town_44 rfl rfl (okP_int _) ?_
    dsimp only [List.set]
    refine wp_aload_n 72 d_Town_addLeg_71 rfl rfl ?_
    refine wp_getfield 75 8 10 d_Town_addLeg_72 rfl fl_Town_44 rfl rfl ?_
    refine wp_iconst 76 1 d_Town_addLeg_75 rfl (by decide) ?_
    refine wp_isub 77 d_Town_addLeg_76 rfl ?_
    refine wp_ireturn d_Town_addLeg_77 rfl ?_
    rw [nI_1, nI_pred]
    exact hq
  · exact absurd (show nI nL < nI 12 from (nI_ltI (by omega) (by omega)).mpr hL) h6

set_option maxRecDepth 100000 in
set_option maxHeartbeats 4000000 in
theorem l_Town_placeNamed_2 {pn wn : Nat → Int64} {fa te fr to_ ea no : Nat → Int32} {wa le od sk sd go : Int32} {nP : Nat} {name : Int64} (hn : nP ≤ 7) : ∀ (r i : Nat) , i + r = nP → Q (some (.int (ffind (fun j => pn j = name) i r))) (hT pn wn fa te fr to_ ea no (nI nP) wa le od sk sd go) → WP Γ M_Town_placeNamed 1 0 0 (hT pn wn fa te fr to_ ea no (nI nP) wa le od sk sd go) 2 [some (.ref 0), some (.long name), none, some (.int (nI i))] [] Q := by
  intro r
  induction r with
  | zero =>
    intro i  hi hinv
    refine wp_iload_n 3 d_Town_placeNamed_2 rfl rfl ?_
    refine wp_aload_n 4 d_Town_placeNamed_3 rfl rfl ?_
    refine wp_getfield 7 8 8 d_Town_placeNamed_4 rfl fl_Town_37 rfl rfl ?_
    refine wp_icmp_ge 29 10 d_Town_placeNamed_7 rfl (by decide) (fun h7 => ?_) (fun h7 => ?_)
    · refine wp_iconst 30 (-1) d_Town_placeNamed_29 rfl (by decide) ?_
      refine wp_ireturn d_Town_placeNamed_30 rfl ?_
      simpa only [ffind] using hinv
    · exact absurd ((nI_leI (by omega) (by omega)).mpr (by omega)) h7
  | succ r ih =>
    intro i  hi hinv
    refine wp_iload_n 3 d_Town_placeNamed_2 rfl rfl ?_
    refine wp_aload_n 4 d_Town_placeNamed_3 rfl rfl ?_
    refine wp_getfield 7 8 8 d_Town_placeNamed_4 rfl fl_Town_37 rfl rfl ?_
    refine wp_icmp_ge 29 10 d_Town_placeNamed_7 rfl (by decide) (fun h7 => ?_) (fun h7 => ?_)
    · exact absurd (nI_leN h7 (by omega) (by omega)) (by omega)
    · refine wp_aload_n 11 d_Town_placeNamed_10 rfl rfl ?_
      refine wp_getfield 14 8 0 d_Town_placeNamed_11 rfl fl_Town_9 rfl rfl ?_
      refine wp_iload_n 15 d_Town_placeNamed_14 rfl rfl ?_
      refine wp_laloadN 16 d_Town_placeNamed_15 rfl rfl rfl (by omega) ?_
      refine wp_lload_n 17 d_Town_placeNamed_16 rfl rfl ?_
      refine wp_lcmp 18 d_Town_placeNamed_17 rfl ?_
      refine wp_if_ne 23 21 d_Town_placeNamed_18 rfl (by decide) (fun h18 => ?_) (fun h18 => ?_)
      · first | refine wp_iincN_3 26 d_Town_placeNamed_23 rfl rfl rfl ?_ | refine wp_iinc_3 26 1 d_Town_placeNamed_23 rfl (by decide) rfl rfl ?_
        refine wp_goto 2 d_Town_placeNamed_26 (by decide) ?_
        refine ih (i + 1) (by omega) ?_
        simpa only [ffind, if_neg (lc_n h18)] using hinv
      · refine wp_iload_n 22 d_Town_placeNamed_21 rfl rfl ?_
        refine wp_ireturn d_Town_placeNamed_22 rfl ?_
        simpa only [ffind, if_pos (lc_0 h18)] using hinv

set_option maxRecDepth 100000 in
set_option maxHeartbeats 4000000 in
theorem c_Town_placeNamed {pn wn : Nat → Int64} {fa te fr to_ ea no : Nat → Int32} {wa le od sk sd go : Int32} {nP : Nat} {name : Int64} (hn : nP ≤ 7) (hq : Q (some (.int (ffind (fun j => pn j = name) 0 nP))) (hT pn wn fa te fr to_ ea no (nI nP) wa le od sk sd go)) : Call Γ M_Town_placeNamed 1 0 0 [.ref 0, .long name] (hT pn wn fa te fr to_ ea no (nI nP) wa le od sk sd go) Q := by
  refine call_intro (ls := [some (.ref 0), some (.long name), none, none]) rfl rfl rfl ?_
  refine wp_iconst 1 0 d_Town_placeNamed_0 rfl (by decide) ?_
  refine wp_istore_3 2 d_Town_placeNamed_1 rfl rfl rfl ?_
  exact l_Town_placeNamed_2 hn nP 0 (by omega) hq

set_option maxRecDepth 100000 in
set_option maxHeartbeats 4000000 in
theorem l_Town_walkerNamed_2 {pn wn : Nat → Int64} {fa te fr to_ ea no : Nat → Int32} {pl le od sk sd go : Int32} {nW : Nat} {name : Int64} (hn : nW ≤ 4) : ∀ (r i : Nat) , i + r = nW → Q (some (.int (ffind (fun j => wn j = name) i r))) (hT pn wn fa te fr to_ ea no pl (nI nW) le od sk sd go) → WP Γ M_Town_walkerNamed 1 0 0 (hT pn wn fa te fr to_ ea no pl (nI nW) le od sk sd go) 2 [some (.ref 0), some (.long name), none, some (.int (nI i))] [] Q := by
  intro r
  induction r with
  | zero =>
    intro i  hi hinv
    refine wp_iload_n 3 d_Town_walkerNamed_2 rfl rfl ?_
    refine wp_aload_n 4 d_Town_walkerNamed_3 rfl rfl ?_
    refine wp_getfield 7 8 9 d_Town_walkerNamed_4 rfl fl_Town_41 rfl rfl ?_
    refine wp_icmp_ge 29 10 d_Town_walkerNamed_7 rfl (by decide) (fun h7 => ?_) (fun h7 => ?_)
    · refine wp_iconst 30 (-1) d_Town_walkerNamed_29 rfl (by decide) ?_
      refine wp_ireturn d_Town_walkerNamed_30 rfl ?_
      simpa only [ffind] using hinv
    · exact absurd ((nI_leI (by omega) (by omega)).mpr (by omega)) h7
  | succ r ih =>
    intro i  hi hinv
    refine wp_iload_n 3 d_Town_walkerNamed_2 rfl rfl ?_
    refine wp_aload_n 4 d_Town_walkerNamed_3 rfl rfl ?_
    refine wp_getfield 7 8 9 d_Town_walkerNamed_4 rfl fl_Town_41 rfl rfl ?_
    refine wp_icmp_ge 29 10 d_Town_walkerNamed_7 rfl (by decide) (fun h7 => ?_) (fun h7 => ?_)
    · exact absurd (nI_leN h7 (by omega) (by omega)) (by omega)
    · refine wp_aload_n 11 d_Town_walkerNamed_10 rfl rfl ?_
      refine wp_getfield 14 8 1 d_Town_walkerNamed_11 rfl fl_Town_15 rfl rfl ?_
      refine wp_iload_n 15 d_Town_walkerNamed_14 rfl rfl ?_
      refine wp_laloadN 16 d_Town_walkerNamed_15 rfl rfl rfl (by omega) ?_
      refine wp_lload_n 17 d_Town_walkerNamed_16 rfl rfl ?_
      refine wp_lcmp 18 d_Town_walkerNamed_17 rfl ?_
      refine wp_if_ne 23 21 d_Town_walkerNamed_18 rfl (by decide) (fun h18 => ?_) (fun h18 => ?_)
      · first | refine wp_iincN_3 26 d_Town_walkerNamed_23 rfl rfl rfl ?_ | refine wp_iinc_3 26 1 d_Town_walkerNamed_23 rfl (by decide) rfl rfl ?_
        refine wp_goto 2 d_Town_walkerNamed_26 (by decide) ?_
        refine ih (i + 1) (by omega) ?_
        simpa only [ffind, if_neg (lc_n h18)] using hinv
      · refine wp_iload_n 22 d_Town_walkerNamed_21 rfl rfl ?_
        refine wp_ireturn d_Town_walkerNamed_22 rfl ?_
        simpa only [ffind, if_pos (lc_0 h18)] using hinv

set_option maxRecDepth 100000 in
set_option maxHeartbeats 4000000 in
theorem c_Town_walkerNamed {pn wn : Nat → Int64} {fa te fr to_ ea no : Nat → Int32} {pl le od sk sd go : Int32} {nW : Nat} {name : Int64} (hn : nW ≤ 4) (hq : Q (some (.int (ffind (fun j => wn j = name) 0 nW))) (hT pn wn fa te fr to_ ea no pl (nI nW) le od sk sd go)) : Call Γ M_Town_walkerNamed 1 0 0 [.ref 0, .long name] (hT pn wn fa te fr to_ ea no pl (nI nW) le od sk sd go) Q := by
  refine call_intro (ls := [some (.ref 0), some (.long name), none, none]) rfl rfl rfl ?_
  refine wp_iconst 1 0 d_Town_walkerNamed_0 rfl (by decide) ?_
  refine wp_istore_3 2 d_Town_walkerNamed_1 rfl rfl rfl ?_
  exact l_Town_walkerNamed_2 hn nW 0 (by omega) hq

set_option maxRecDepth 100000 in
set_option maxHeartbeats 4000000 in
theorem c_Town_copyFrom {pn wn o_pn o_wn : Nat → Int64} {fa te fr to_ ea no o_fa o_te o_fr o_to_ o_ea o_no : Nat → Int32} {pl wa le od sk sd go o_pl o_wa o_le o_od o_sk o_sd o_go : Int32} (hq : Q none (hTT (va_cpy o_pn pn 0 0 7) (va_cpy o_wn wn 0 0 4) (va_cpy o_fa fa 0 0 4) (va_cpy o_te te 0 0 12) (va_cpy o_fr fr 0 0 12) (va_cpy o_to_ to_ 0 0 12) (va_cpy o_ea ea 0 0 12) (va_cpy o_no no 0 0 12) (o_pl) (o_wa) (o_le) (o_od) (o_sk) (o_sd) (o_go) o_pn o_wn o_fa o_te o_fr o_to_ o_ea o_no o_pl o_wa o_le o_od o_sk o_sd o_go)) : Call Γ M_Town_copyFrom 1 0 0 [.ref 0, .ref 9] (hTT pn wn fa te fr to_ ea no pl wa le od sk sd go o_pn o_wn o_fa o_te o_fr o_to_ o_ea o_no o_pl o_wa o_le o_od o_sk o_sd o_go) Q := by
  refine call_intro (ls := [some (.ref 0), some (.ref 9)]) rfl rfl rfl ?_
  refine wp_aload_n 1 d_Town_copyFrom_0 rfl rfl ?_
  refine wp_getfield 4 8 0 d_Town_copyFrom_1 rfl fl_Town_9 rfl rfl ?_
  refine wp_iconst 5 0 d_Town_copyFrom_4 rfl (by decide) ?_
  refine wp_aload_n 6 d_Town_copyFrom_5 rfl rfl ?_
  refine wp_getfield 9 8 0 d_Town_copyFrom_6 rfl fl_Town_9 rfl rfl ?_
  refine wp_iconst 10 0 d_Town_copyFrom_9 rfl (by decide) ?_
  refine wp_bipush 12 7 d_Town_copyFrom_10 rfl (by decide) ?_
  refine wp_acopyJ (i := 0) (j := 0) (n := 7) 15 d_Town_copyFrom_12 rfl lk_Town_59 rfl rfl ⟨rfl, rfl⟩ (by decide) (by decide) (by decide) rfl ?_
  dsimp only [List.set]
  refine wp_aload_n 16 d_Town_copyFrom_15 rfl rfl ?_
  refine wp_getfield 19 8 1 d_Town_copyFrom_16 rfl fl_Town_15 rfl rfl ?_
  refine wp_iconst 20 0 d_Town_copyFrom_19 rfl (by decide) ?_
  refine wp_aload_n 21 d_Town_copyFrom_20 rfl rfl ?_
  refine wp_getfield 24 8 1 d_Town_copyFrom_21 rfl fl_Town_15 rfl rfl ?_
  refine wp_iconst 25 0 d_Town_copyFrom_24 rfl (by decide) ?_
  refine wp_iconst 26 4 d_Town_copyFrom_25 rfl (by decide) ?_
  refine wp_acopyJ (i := 0) (j := 0) (n := 4) 29 d_Town_copyFrom_26 rfl lk_Town_59 rfl rfl ⟨rfl, rfl⟩ (by decide) (by decide) (by decide) rfl ?_
  dsimp only [List.set]
  refine wp_aload_n 30 d_Town_copyFrom_29 rfl rfl ?_
  refine wp_getfield 33 8 2 d_Town_copyFrom_30 rfl fl_Town_18 rfl rfl ?_
  refine wp_iconst 34 0 d_Town_copyFrom_33 rfl (by decide) ?_
  refine wp_aload_n 35 d_Town_copyFrom_34 rfl rfl ?_
  refine wp_getfield 38 8 2 d_Town_copyFrom_35 rfl fl_Town_18 rfl rfl ?_
  refine wp_iconst 39 0 d_Town_copyFrom_38 rfl (by decide) ?_
  refine wp_iconst 40 4 d_Town_copyFrom_39 rfl (by decide) ?_
  refine wp_acopyI (i := 0) (j := 0) (n := 4) 43 d_Town_copyFrom_40 rfl lk_Town_59 rfl rfl ⟨rfl, rfl⟩ (by decide) (by decide) (by decide) rfl ?_
  dsimp only [List.set]
  refine wp_aload_n 44 d_Town_copyFrom_43 rfl rfl ?_
  refine wp_getfield 47 8 3 d_Town_copyFrom_44 rfl fl_Town_22 rfl rfl ?_
  refine wp_iconst 48 0 d_Town_copyFrom_47 rfl (by decide) ?_
  refine wp_aload_n 49 d_Town_copyFrom_48 rfl rfl ?_
  refine wp_getfield 52 8 3 d_Town_copyFrom_49 rfl fl_Town_22 rfl rfl ?_
  refine wp_iconst 53 0 d_Town_copyFrom_52 rfl (by decide) ?_
  refine wp_bipush 55 12 d_Town_copyFrom_53 rfl (by decide) ?_
  refine wp_acopyI (i := 0) (j := 0) (n := 12) 58 d_Town_copyFrom_55 rfl lk_Town_59 rfl rfl ⟨rfl, rfl⟩ (by decide) (by decide) (by decide) rfl ?_
  dsimp only [List.set]
  refine wp_aload_n 59 d_Town_copyFrom_58 rfl rfl ?_
  refine wp_getfield 62 8 4 d_Town_copyFrom_59 rfl fl_Town_25 rfl rfl ?_
  refine wp_iconst 63 0 d_Town_copyFrom_62 rfl (by decide) ?_
  refine wp_aload_n 64 d_Town_copyFrom_63 rfl rfl ?_
  refine wp_getfield 67 8 4 d_Town_copyFrom_64 rfl fl_Town_25 rfl rfl ?_
  refine wp_iconst 68 0 d_Town_copyFrom_67 rfl (by decide) ?_
  refine wp_bipush 70 12 d_Town_copyFrom_68 rfl (by decide) ?_
  refine wp_acopyI (i := 0) (j := 0) (n := 12) 73 d_Town_copyFrom_70 rfl lk_Town_59 rfl rfl ⟨rfl, rfl⟩ (by decide) (by decide) (by decide) rfl ?_
  dsimp only [List.set]
  refine wp_aload_n 74 d_Town_copyFrom_73 rfl rfl ?_
  refine wp_getfield 77 8 5 d_Town_copyFrom_74 rfl fl_Town_28 rfl rfl ?_
  refine wp_iconst 78 0 d_Town_copyFrom_77 rfl (by decide) ?_
  refine wp_aload_n 79 d_Town_copyFrom_78 rfl rfl ?_
  refine wp_getfield 82 8 5 d_Town_copyFrom_79 rfl fl_Town_28 rfl rfl ?_
  refine wp_iconst 83 0 d_Town_copyFrom_82 rfl (by decide) ?_
  refine wp_bipush 85 12 d_Town_copyFrom_83 rfl (by decide) ?_
  refine wp_acopyI (i := 0) (j := 0) (n := 12) 88 d_Town_copyFrom_85 rfl lk_Town_59 rfl rfl ⟨rfl, rfl⟩ (by decide) (by decide) (by decide) rfl ?_
  dsimp only [List.set]
  refine wp_aload_n 89 d_Town_copyFrom_88 rfl rfl ?_
  refine wp_getfield 92 8 6 d_Town_copyFrom_89 rfl fl_Town_31 rfl rfl ?_
  refine wp_iconst 93 0 d_Town_copyFrom_92 rfl (by decide) ?_
  refine wp_aload_n 94 d_Town_copyFrom_93 rfl rfl ?_
  refine wp_getfield 97 8 6 d_Town_copyFrom_94 rfl fl_Town_31 rfl rfl ?_
  refine wp_iconst 98 0 d_Town_copyFrom_97 rfl (by decide) ?_
  refine wp_bipush 100 12 d_Town_copyFrom_98 rfl (by decide) ?_
  refine wp_acopyI (i := 0) (j := 0) (n := 12) 103 d_Town_copyFrom_100 rfl lk_Town_59 rfl rfl ⟨rfl, rfl⟩ (by decide) (by decide) (by decide) rfl ?_
  dsimp only [List.set]
  refine wp_aload_n 104 d_Town_copyFrom_103 rfl rfl ?_
  refine wp_getfield 107 8 7 d_Town_copyFrom_104 rfl fl_Town_34 rfl rfl ?_
  refine wp_iconst 108 0 d_Town_copyFrom_107 rfl (by decide) ?_
  refine wp_aload_n 109 d_Town_copyFrom_108 rfl rfl ?_
  refine wp_getfield 112 8 7 d_Town_copyFrom_109 rfl fl_Town_34 rfl rfl ?_
  refine wp_iconst 113 0 d_Town_copyFrom_112 rfl (by decide) ?_
  refine wp_bipush 115 12 d_Town_copyFrom_113 rfl (by decide) ?_
  refine wp_acopyI (i := 0) (j := 0) (n := 12) 118 d_Town_copyFrom_115 rfl lk_Town_59 rfl rfl ⟨rfl, rfl⟩ (by decide) (by decide) (by decide) rfl ?_
  dsimp only [List.set]
  refine wp_aload_n 119 d_Town_copyFrom_118 rfl rfl ?_
  refine wp_aload_n 120 d_Town_copyFrom_119 rfl rfl ?_
  refine wp_getfield 123 8 8 d_Town_copyFrom_120 rfl fl_Town_37 rfl rfl ?_
  refine wp_putfield 126 8 8 _ d_Town_copyFrom_123 rfl fp_Town_37 rfl rfl (okP_int _) ?_
  dsimp only [List.set]
  refine wp_aload_n 127 d_Town_copyFrom_126 rfl rfl ?_
  refine wp_aload_n 128 d_Town_copyFrom_127 rfl rfl ?_
  refine wp_getfield 131 8 9 d_Town_copyFrom_128 rfl fl_Town_41 rfl rfl ?_
  refine wp_putfield 134 8 9 _ d_Town_copyFrom_131 rfl fp_Town_41 rfl rfl (okP_int _) ?_
  dsimp only [List.set]
  refine wp_aload_n 135 d_Town_copyFrom_134 rfl rfl ?_
  refine wp_aload_n 136 d_Town_copyFrom_135 rfl rfl ?_
  refine wp_getfield 139 8 10 d_Town_copyFrom_136 rfl fl_Town_44 rfl rfl ?_
  refine wp_putfield 142 8 10 _ d_Town_copyFrom_139 rfl fp_Town_44 rfl rfl (okP_int _) ?_
  dsimp only [List.set]
  refine wp_aload_n 143 d_Town_copyFrom_142 rfl rfl ?_
  refine wp_aload_n 144 d_Town_copyFrom_143 rfl rfl ?_
  refine wp_getfield 147 8 11 d_Town_copyFrom_144 rfl fl_Town_47 rfl rfl ?_
  refine wp_putfield 150 8 11 _ d_Town_copyFrom_147 rfl fp_Town_47 rfl rfl (okP_int _) ?_
  dsimp only [List.set]
  refine wp_aload_n 151 d_Town_copyFrom_150 rfl rfl ?_
  refine wp_aload_n 152 d_Town_copyFrom_151 rfl rfl ?_
  refine wp_getfield 155 8 12 d_Town_copyFrom_152 rfl fl_Town_50 rfl rfl ?_
  refine wp_putfield 158 8 12 _ d_Town_copyFrom_155 rfl fp_Town_50 rfl rfl (okP_int _) ?_
  dsimp only [List.set]
  refine wp_aload_n 159 d_Town_copyFrom_158 rfl rfl ?_
  refine wp_aload_n 160 d_Town_copyFrom_159 rfl rfl ?_
  refine wp_getfield 163 8 13 d_Town_copyFrom_160 rfl fl_Town_53 rfl rfl ?_
  refine wp_putfield 166 8 13 _ d_Town_copyFrom_163 rfl fp_Town_53 rfl rfl (okP_int _) ?_
  dsimp only [List.set]
  refine wp_aload_n 167 d_Town_copyFrom_166 rfl rfl ?_
  refine wp_aload_n 168 d_Town_copyFrom_167 rfl rfl ?_
  refine wp_getfield 171 8 14 d_Town_copyFrom_168 rfl fl_Town_56 rfl rfl ?_
  refine wp_putfield 174 8 14 _ d_Town_copyFrom_171 rfl fp_Town_56 rfl rfl (okP_int _) ?_
  dsimp only [List.set]
  refine wp_return d_Town_copyFrom_174 rfl ?_
  exact hq

set_option maxRecDepth 100000 in
set_option maxHeartbeats 4000000 in
theorem c_Town_init (hq : Q none (hT ((fun _ => 0)) ((fun _ => 0)) ((fun _ => 0)) ((fun _ => 0)) ((fun _ => 0)) ((fun _ => 0)) ((fun _ => 0)) ((fun _ => 0)) (0) (0) (0) (2) (0) (-1) (0))) : Call Γ M_Town_init 1 8 75 [.ref 0] [cO 8 [.null, .null, .null, .null, .null, .null, .null, .null, .int 0, .int 0, .int 0, .int 0, .int 0, .int 0, .int 0]] Q := by
  refine call_intro (ls := [some (.ref 0)]) rfl rfl rfl ?_
  refine wp_aload_n 1 d_Town_init_0 rfl rfl ?_
  refine wp_objInit 4 d_Town_init_1 rfl lo_Town_3 oi_inst oi_code (by decide) (by decide) ?_
  refine wp_aload_n 5 d_Town_init_4 rfl rfl ?_
  refine wp_bipush 7 7 d_Town_init_5 rfl (by decide) ?_
  refine wp_newarray_long 9 7 1 d_Town_init_7 rfl ac_long (by decide) (by decide) (by decide) rfl rfl ?_
  simp only [List.cons_append, List.nil_append]
  refine wp_putfinal 12 8 0 _ d_Town_init_9 rfl fp_Town_9 rfl rfl rfl (fun _ => ⟨rfl, rfl⟩) ?_
  dsimp only [List.set]
  refine wp_aload_n 13 d_Town_init_12 rfl rfl ?_
  refine wp_iconst 14 4 d_Town_init_13 rfl (by decide) ?_
  refine wp_newarray_long 16 4 2 d_Town_init_14 rfl ac_long (by decide) (by decide) (by decide) rfl rfl ?_
  simp only [List.cons_append, List.nil_append]
  refine wp_putfinal 19 8 1 _ d_Town_init_16 rfl fp_Town_15 rfl rfl rfl (fun _ => ⟨rfl, rfl⟩) ?_
  dsimp only [List.set]
  refine wp_aload_n 20 d_Town_init_19 rfl rfl ?_
  refine wp_iconst 21 4 d_Town_init_20 rfl (by decide) ?_
  refine wp_newarray_int 23 4 3 d_Town_init_21 rfl ac_int (by decide) (by decide) (by decide) rfl rfl ?_
  simp only [List.cons_append, List.nil_append]
  refine wp_putfinal 26 8 2 _ d_Town_init_23 rfl fp_Town_18 rfl rfl rfl (fun _ => ⟨rfl, rfl⟩) ?_
  dsimp only [List.set]
  refine wp_aload_n 27 d_Town_init_26 rfl rfl ?_
  refine wp_bipush 29 12 d_Town_init_27 rfl (by decide) ?_
  refine wp_newarray_int 31 12 4 d_Town_init_29 rfl ac_int (by decide) (by decide) (by decide) rfl rfl ?_
  simp only [List.cons_append, List.nil_append]
  refine wp_putfinal 34 8 3 _ d_Town_init_31 rfl fp_Town_22 rfl rfl rfl (fun _ => ⟨rfl, rfl⟩) ?_
  dsimp only [List.set]
  refine wp_aload_n 35 d_Town_init_34 rfl rfl ?_
  refine wp_bipush 37 12 d_Town_init_35 rfl (by decide) ?_
  refine wp_newarray_int 39 12 5 d_Town_init_37 rfl ac_int (by decide) (by decide) (by decide) rfl rfl ?_
  simp only [List.cons_append, List.nil_append]
  refine wp_putfinal 42 8 4 _ d_Town_init_39 rfl fp_Town_25 rfl rfl rfl (fun _ => ⟨rfl, rfl⟩) ?_
  dsimp only [List.set]
  refine wp_aload_n 43 d_Town_init_42 rfl rfl ?_
  refine wp_bipush 45 12 d_Town_init_43 rfl (by decide) ?_
  refine wp_newarray_int 47 12 6 d_Town_init_45 rfl ac_int (by decide) (by decide) (by decide) rfl rfl ?_
  simp only [List.cons_append, List.nil_append]
  refine wp_putfinal 50 8 5 _ d_Town_init_47 rfl fp_Town_28 rfl rfl rfl (fun _ => ⟨rfl, rfl⟩) ?_
  dsimp only [List.set]
  refine wp_aload_n 51 d_Town_init_50 rfl rfl ?_
  refine wp_bipush 53 12 d_Town_init_51 rfl (by decide) ?_
  refine wp_newarray_int 55 12 7 d_Town_init_53 rfl ac_int (by decide) (by decide) (by decide) rfl rfl ?_
  simp only [List.cons_append, List.nil_append]
  refine wp_putfinal 58 8 6 _ d_Town_init_55 rfl fp_Town_31 rfl rfl rfl (fun _ => ⟨rfl, rfl⟩) ?_
  dsimp only [List.set]
  refine wp_aload_n 59 d_Town_init_58 rfl rfl ?_
  refine wp_bipush 61 12 d_Town_init_59 rfl (by decide) ?_
  refine wp_newarray_int 63 12 8 d_Town_init_61 rfl ac_int (by decide) (by decide) (by decide) rfl rfl ?_
  simp only [List.cons_append, List.nil_append]
  refine wp_putfinal 66 8 7 _ d_Town_init_63 rfl fp_Town_34 rfl rfl rfl (fun _ => ⟨rfl, rfl⟩) ?_
  dsimp only [List.set]
  refine wp_aload_n 67 d_Town_init_66 rfl rfl ?_
  refine wp_iconst 68 0 d_Town_init_67 rfl (by decide) ?_
  refine wp_putfield 71 8 8 _ d_Town_init_68 rfl fp_Town_37 rfl rfl (okP_int _) ?_
  dsimp only [List.set]
  refine wp_aload_n 72 d_Town_init_71 rfl rfl ?_
  refine wp_iconst 73 0 d_Town_init_72 rfl (by decide) ?_
  refine wp_putfield 76 8 9 _ d_Town_init_73 rfl fp_Town_41 rfl rfl (okP_int _) ?_
  dsimp only [List.set]
  refine wp_aload_n 77 d_Town_init_76 rfl rfl ?_
  refine wp_iconst 78 0 d_Town_init_77 rfl (by decide) ?_
  refine wp_putfield 81 8 10 _ d_Town_init_78 rfl fp_Town_44 rfl rfl (okP_int _) ?_
  dsimp only [List.set]
  refine wp_aload_n 82 d_Town_init_81 rfl rfl ?_
  refine wp_iconst 83 2 d_Town_init_82 rfl (by decide) ?_
  refine wp_putfield 86 8 11 _ d_Town_init_83 rfl fp_Town_47 rfl rfl (okP_int _) ?_
  dsimp only [List.set]
  refine wp_aload_n 87 d_Town_init_86 rfl rfl ?_
  refine wp_iconst 88 0 d_Town_init_87 rfl (by decide) ?_
  refine wp_putfield 91 8 12 _ d_Town_init_88 rfl fp_Town_50 rfl rfl (okP_int _) ?_
  dsimp only [List.set]
  refine wp_aload_n 92 d_Town_init_91 rfl rfl ?_
  refine wp_iconst 93 (-1) d_Town_init_92 rfl (by decide) ?_
  refine wp_putfield 96 8 13 _ d_Town_init_93 rfl fp_Town_53 rfl rfl (okP_int _) ?_
  dsimp only [List.set]
  refine wp_aload_n 97 d_Town_init_96 rfl rfl ?_
  refine wp_iconst 98 0 d_Town_init_97 rfl (by decide) ?_
  refine wp_putfield 101 8 14 _ d_Town_init_98 rfl fp_Town_56 rfl rfl (okP_int _) ?_
  dsimp only [List.set]
  refine wp_return d_Town_init_101 rfl ?_
  exact hq

set_option maxRecDepth 100000 in
set_option maxHeartbeats 4000000 in
theorem l_JArr_fillI_5  {n : Nat} {v : Int32} {f : Nat → Int32} (hb : Nat.ble n 1000000 = true) (hn : n ≤ 1000000) (hq : Q none [cI n (fun j => if j < n then v else f j)]) : ∀ (r i : Nat) , i + r = n → WP Γ M_JArr_fillI 1 0 0 [cI n (fun j => if j < i then v else f j)] 5 [some (.ref 0), some (.int v), some (.int (nI i)), some (.int (nI n))] [] Q := by
  intro r
  induction r with
  | zero =>
    intro i  hi 
    refine wp_iload_n 6 d_JArr_fillI_5 rfl rfl ?_
    refine wp_iload_n 7 d_JArr_fillI_6 rfl rfl ?_
    refine wp_icmp_ge 20 10 d_JArr_fillI_7 rfl (by decide) (fun h7 => ?_) (fun h7 => ?_)
    · refine wp_return d_JArr_fillI_20 rfl ?_
      have e : i = n := by omega
      subst e
      exact hq
    · exact absurd ((nI_leI (by omega) (by omega)).mpr (by omega)) h7
  | succ r ih =>
    intro i  hi 
    refine wp_iload_n 6 d_JArr_fillI_5 rfl rfl ?_
    refine wp_iload_n 7 d_JArr_fillI_6 rfl rfl ?_
    refine wp_icmp_ge 20 10 d_JArr_fillI_7 rfl (by decide) (fun h7 => ?_) (fun h7 => ?_)
    · exact absurd (nI_leN h7 (by omega) (by omega)) (by omega)
    · refine wp_aload_n 11 d_JArr_fillI_10 rfl rfl ?_
      refine wp_iload_n 12 d_JArr_fillI_11 rfl rfl ?_
      refine wp_iload_n 13 d_JArr_fillI_12 rfl rfl ?_
      refine wp_iastoreN 14 d_JArr_fillI_13 rfl rfl hb (by omega) ?_
      dsimp only [List.set]
      first | refine wp_iincN_2 17 d_JArr_fillI_14 rfl rfl rfl ?_ | refine wp_iinc_2 17 1 d_JArr_fillI_14 rfl (by decide) rfl rfl ?_
      refine wp_goto 5 d_JArr_fillI_17 (by decide) ?_
      rw [upd_lt (f := fun _ => v)]
      exact ih (i + 1) (by omega)

set_option maxRecDepth 100000 in
set_option maxHeartbeats 4000000 in
theorem c_JArr_fillI {n : Nat} {v : Int32} {f : Nat → Int32} (hb : Nat.ble n 1000000 = true) (hq : Q none [cI n (fun j => if j < n then v else f j)]) : Call Γ M_JArr_fillI 1 0 0 [.ref 0, .int v] [cI n f] Q := by
  refine call_introF (ls := [some (.ref 0), some (.int v), none, none]) (by decide +kernel) rfl rfl ?_
  refine wp_iconst 1 0 d_JArr_fillI_0 rfl (by decide) ?_
  refine wp_istore_2 2 d_JArr_fillI_1 rfl rfl rfl ?_
  refine wp_aload_n 3 d_JArr_fillI_2 rfl rfl ?_
  refine wp_alen_int 4 d_JArr_fillI_3 rfl rfl ?_
  refine wp_istore_3 5 d_JArr_fillI_4 rfl rfl rfl ?_
  have hn := Nat.le_of_ble_eq_true hb
  have := l_JArr_fillI_5 (Γ := Γ) (f := f) hb hn hq n 0 (by omega)
  simp only [lt_0f] at this
  exact this

set_option maxRecDepth 100000 in
set_option maxHeartbeats 4000000 in
theorem l_JArr_fillJ_6  {n : Nat} {v : Int64} {f : Nat → Int64} (hb : Nat.ble n 1000000 = true) (hn : n ≤ 1000000) (hq : Q none [cL n (fun j => if j < n then v else f j)]) : ∀ (r i : Nat) , i + r = n → WP Γ M_JArr_fillJ 1 0 0 [cL n (fun j => if j < i then v else f j)] 6 [some (.ref 0), some (.long v), none, some (.int (nI i)), some (.int (nI n))] [] Q := by
  intro r
  induction r with
  | zero =>
    intro i  hi 
    refine wp_iload_n 7 d_JArr_fillJ_6 rfl rfl ?_
    refine wp_iload 9 d_JArr_fillJ_7 rfl rfl ?_
    refine wp_icmp_ge 22 12 d_JArr_fillJ_9 rfl (by decide) (fun h9 => ?_) (fun h9 => ?_)
    · refine wp_return d_JArr_fillJ_22 rfl ?_
      have e : i = n := by omega
      subst e
      exact hq
    · exact absurd ((nI_leI (by omega) (by omega)).mpr (by omega)) h9
  | succ r ih =>
    intro i  hi 
    refine wp_iload_n 7 d_JArr_fillJ_6 rfl rfl ?_
    refine wp_iload 9 d_JArr_fillJ_7 rfl rfl ?_
    refine wp_icmp_ge 22 12 d_JArr_fillJ_9 rfl (by decide) (fun h9 => ?_) (fun h9 => ?_)
    · exact absurd (nI_leN h9 (by omega) (by omega)) (by omega)
    · refine wp_aload_n 13 d_JArr_fillJ_12 rfl rfl ?_
      refine wp_iload_n 14 d_JArr_fillJ_13 rfl rfl ?_
      refine wp_lload_n 15 d_JArr_fillJ_14 rfl rfl ?_
      refine wp_lastoreN 16 d_JArr_fillJ_15 rfl rfl hb (by omega) ?_
      dsimp only [List.set]
      first | refine wp_iincN_3 19 d_JArr_fillJ_16 rfl rfl rfl ?_ | refine wp_iinc_3 19 1 d_JArr_fillJ_16 rfl (by decide) rfl rfl ?_
      refine wp_goto 6 d_JArr_fillJ_19 (by decide) ?_
      rw [updL_lt (f := fun _ => v)]
      exact ih (i + 1) (by omega)

set_option maxRecDepth 100000 in
set_option maxHeartbeats 4000000 in
theorem c_JArr_fillJ {n : Nat} {v : Int64} {f : Nat → Int64} (hb : Nat.ble n 1000000 = true) (hq : Q none [cL n (fun j => if j < n then v else f j)]) : Call Γ M_JArr_fillJ 1 0 0 [.ref 0, .long v] [cL n f] Q := by
  refine call_introF (ls := [some (.ref 0), some (.long v), none, none, none]) (by decide +kernel) rfl rfl ?_
  refine wp_iconst 1 0 d_JArr_fillJ_0 rfl (by decide) ?_
  refine wp_istore_3 2 d_JArr_fillJ_1 rfl rfl rfl ?_
  refine wp_aload_n 3 d_JArr_fillJ_2 rfl rfl ?_
  refine wp_alen_long 4 d_JArr_fillJ_3 rfl rfl ?_
  refine wp_istore_4 6 d_JArr_fillJ_4 rfl rfl rfl ?_
  have hn := Nat.le_of_ble_eq_true hb
  have := l_JArr_fillJ_6 (Γ := Γ) (f := f) hb hn hq n 0 (by omega)
  simp only [lt_0g] at this
  exact this

end T22
