/-! ===== Life: a step, a run ===== -/
section T36
variable {Γ : Gm} {Q : Option Value → LH → Prop}
set_option maxRecDepth 100000 in
set_option maxHeartbeats 4000000 in
theorem c_Life_behindStep {lco lro fa te fr to_ ea no dk df ds : Nat → Int32} {lst ldr od sk sd go dth dro dst : Int32} {pn wn : Nat → Int64} {cea cno cx cy cpo cla cba : Nat → Int32} {cly cpt : Int32} {nL nP nW r : Nat} (hn : nL ≤ 12) (hP : nP ≤ 7) (hte : ∀ j, vp_in (te j) 4) (hfr : ∀ j, vp_in (fr j) 7) (hto : ∀ j, vp_in (to_ j) 7) (hW : nW ≤ 4) (hr : r < 60) (hla : ∀ j, vp_in (cla j) 12) (hq : ∀ (cea cno cx cy cpo cla cba : Nat → Int32) (cly cpt : Int32), (∀ j, vp_in (cla j) 12) → Q (some (.int (bsF te fr to_ ea no nL nP nW od dk df ds dro r (fa, sk, sd, go, lco, lro, ldr)).1)) (hLTD cea cno cx cy cpo cla cba cly cpt ((bsF te fr to_ ea no nL nP nW od dk df ds dro r (fa, sk, sd, go, lco, lro, ldr)).2.2.2.2.2.1) ((bsF te fr to_ ea no nL nP nW od dk df ds dro r (fa, sk, sd, go, lco, lro, ldr)).2.2.2.2.2.2.1) lst ((bsF te fr to_ ea no nL nP nW od dk df ds dro r (fa, sk, sd, go, lco, lro, ldr)).2.2.2.2.2.2.2) pn wn ((bsF te fr to_ ea no nL nP nW od dk df ds dro r (fa, sk, sd, go, lco, lro, ldr)).2.1) te fr to_ ea no (nI nP) (nI nW) (nI nL) od ((bsF te fr to_ ea no nL nP nW od dk df ds dro r (fa, sk, sd, go, lco, lro, ldr)).2.2.1) ((bsF te fr to_ ea no nL nP nW od dk df ds dro r (fa, sk, sd, go, lco, lro, ldr)).2.2.2.1) ((bsF te fr to_ ea no nL nP nW od dk df ds dro r (fa, sk, sd, go, lco, lro, ldr)).2.2.2.2.1) dk df ds dth dro dst)) : Call Γ M_Life_behindStep 6 0 0 [.ref 0, .ref 11, .ref 20, .int (nI r)] (hLTD cea cno cx cy cpo cla cba cly cpt lco lro lst ldr pn wn fa te fr to_ ea no (nI nP) (nI nW) (nI nL) od sk sd go dk df ds dth dro dst) Q := by
  refine call_intro (ls := [some (.ref 0), some (.ref 11), some (.ref 20), some (.int (nI r)), none]) rfl rfl rfl ?_
  refine wp_aload_n 1 d_Life_behindStep_0 rfl rfl ?_
  refine wp_getfield 4 1 1 d_Life_behindStep_1 rfl fl_Life_58 rfl rfl ?_
  refine wp_iload_n 5 d_Life_behindStep_4 rfl rfl ?_
  refine wp_ialoadN 6 d_Life_behindStep_5 rfl rfl rfl hr ?_
  refine wp_istore_4 8 d_Life_behindStep_6 rfl rfl rfl ?_
  refine wp_aload_n 9 d_Life_behindStep_8 rfl rfl ?_
  refine wp_getfield 12 1 0 d_Life_behindStep_9 rfl fl_Life_44 rfl rfl ?_
  refine wp_iload_n 13 d_Life_behindStep_12 rfl rfl ?_
  refine wp_ialoadN 14 d_Life_behindStep_13 rfl rfl rfl hr ?_
  by_cases h14_0 : dk r = 0
  · refine wp_tabIn (off := 42) 56 0 d_Life_behindStep_14 h14_0 (by decide) (by decide) (by decide) (by decide) ?_
    refine wp_aload_n 57 d_Life_behindStep_56 rfl rfl ?_
    refine wp_iconst 58 1 d_Life_behindStep_57 rfl (by decide) ?_
    refine wp_aload_n 59 d_Life_behindStep_58 rfl rfl ?_
    refine wp_iload 61 d_Life_behindStep_59 rfl rfl ?_
    refine ws_V1 (b' := 0) 64 M_Town_walkAlong 3 [11, 12, 13, 14, 15, 16, 17, 18, 19] ((hT _ _ _ _ _ _ _ _ _ _ _ _ _ _ _)) d_Life_behindStep_61 rfl mv_Town_walkAlong lk_Life_61 rfl rfl rfl rfl rfl rfl rfl (eV_int _ _) rfl ?_
    refine c_Town_walkAlong hn hte ?_
    refine sI ?_
    simp only [putH, rC, sg, eV, List.map_cons, List.map_nil, List.set_cons_zero, List.set_cons_succ, List.length_cons, List.length_nil, List.getD_cons_zero, List.getD_cons_succ, Nat.zero_add, Nat.reduceAdd, Nat.reduceLT, if_true, ite_true]
    refine ws_V2 (b' := 0) 67 M_Life_count 1 [0, 1, 2, 3, 4, 5, 6, 7, 8, 9, 10] ((hL _ _ _ _ _ _ _ _ _ _ _ _ _)) d_Life_behindStep_64 rfl mv_Life_count lk_Life_67 rfl rfl rfl rfl rfl rfl rfl (eV_int _ _) (eV_int _ _) rfl ?_
    refine c_Life_count (vp_in_nI (n := 1) (by omega) (by omega)) ?_
    refine sV ?_
    simp only [putH, rC, sg, eV, List.map_cons, List.map_nil, List.set_cons_zero, List.set_cons_succ, List.length_cons, List.length_nil, List.getD_cons_zero, List.getD_cons_succ, Nat.zero_add, Nat.reduceAdd, Nat.reduceLT, if_true, ite_true]
    refine wp_iload_n 68 d_Life_behindStep_67 rfl rfl ?_
    refine wp_iconst 69 1 d_Life_behindStep_68 rfl (by decide) ?_
    refine wp_iadd 70 d_Life_behindStep_69 rfl ?_
    refine wp_ireturn d_Life_behindStep_70 rfl ?_
    rw [nI_1]
    have h9 := hq cea cno cx cy cpo cla cba cly cpt hla
    simp only [bsF, if_pos h14_0] at h9; exact h9
  by_cases h14_1 : dk r = 1
  · refine wp_tabIn (off := 57) 71 1 d_Life_behindStep_14 h14_1 (by decide) (by decide) (by decide) (by decide) ?_
    refine wp_aload_n 72 d_Life_behindStep_71 rfl rfl ?_
    refine wp_iconst 73 2 d_Life_behindStep_72 rfl (by decide) ?_
    refine wp_aload_n 74 d_Life_behindStep_73 rfl rfl ?_
    refine wp_iload 76 d_Life_behindStep_74 rfl rfl ?_
    refine ws_V1 (b' := 0) 79 M_Town_strikeLeg 2 [11, 12, 13, 14, 15, 16, 17, 18, 19] ((hT _ _ _ _ _ _ _ _ _ _ _ _ _ _ _)) d_Life_behindStep_76 rfl mv_Town_strikeLeg lk_Life_71 rfl rfl rfl rfl rfl rfl rfl (eV_int _ _) rfl ?_
    refine c_Town_strikeLeg ?_
    refine sI ?_
    simp only [putH, rC, sg, eV, List.map_cons, List.map_nil, List.set_cons_zero, List.set_cons_succ, List.length_cons, List.length_nil, List.getD_cons_zero, List.getD_cons_succ, Nat.zero_add, Nat.reduceAdd, Nat.reduceLT, if_true, ite_true]
    refine ws_V2 (b' := 0) 82 M_Life_count 1 [0, 1, 2, 3, 4, 5, 6, 7, 8, 9, 10] ((hL _ _ _ _ _ _ _ _ _ _ _ _ _)) d_Life_behindStep_79 rfl mv_Life_count lk_Life_67 rfl rfl rfl rfl rfl rfl rfl (eV_int _ _) (eV_int _ _) rfl ?_
    refine c_Life_count (vp_in_nI (n := 2) (by omega) (by omega)) ?_
    refine sV ?_
    simp only [putH, rC, sg, eV, List.map_cons, List.map_nil, List.set_cons_zero, List.set_cons_succ, List.length_cons, List.length_nil, List.getD_cons_zero, List.getD_cons_succ, Nat.zero_add, Nat.reduceAdd, Nat.reduceLT, if_true, ite_true]
    refine wp_iload_n 83 d_Life_behindStep_82 rfl rfl ?_
    refine wp_iconst 84 1 d_Life_behindStep_83 rfl (by decide) ?_
    refine wp_iadd 85 d_Life_behindStep_84 rfl ?_
    refine wp_ireturn d_Life_behindStep_85 rfl ?_
    rw [nI_1]
    have h9 := hq cea cno cx cy cpo cla cba cly cpt hla
    simp only [bsF, if_neg h14_0, if_pos h14_1] at h9; exact h9
  by_cases h14_2 : dk r = 2
  · refine wp_tabIn (off := 72) 86 2 d_Life_behindStep_14 h14_2 (by decide) (by decide) (by decide) (by decide) ?_
    refine wp_aload_n 87 d_Life_behindStep_86 rfl rfl ?_
    refine wp_iconst 88 3 d_Life_behindStep_87 rfl (by decide) ?_
    refine wp_aload_n 89 d_Life_behindStep_88 rfl rfl ?_
    refine wp_iload 91 d_Life_behindStep_89 rfl rfl ?_
    refine ws_V1 (b' := 0) 94 M_Town_restoreLeg 2 [11, 12, 13, 14, 15, 16, 17, 18, 19] ((hT _ _ _ _ _ _ _ _ _ _ _ _ _ _ _)) d_Life_behindStep_91 rfl mv_Town_restoreLeg lk_Life_74 rfl rfl rfl rfl rfl rfl rfl (eV_int _ _) rfl ?_
    refine c_Town_restoreLeg ?_
    refine sI ?_
    simp only [putH, rC, sg, eV, List.map_cons, List.map_nil, List.set_cons_zero, List.set_cons_succ, List.length_cons, List.length_nil, List.getD_cons_zero, List.getD_cons_succ, Nat.zero_add, Nat.reduceAdd, Nat.reduceLT, if_true, ite_true]
    refine ws_V2 (b' := 0) 97 M_Life_count 1 [0, 1, 2, 3, 4, 5, 6, 7, 8, 9, 10] ((hL _ _ _ _ _ _ _ _ _ _ _ _ _)) d_Life_behindStep_94 rfl mv_Life_count lk_Life_67 rfl rfl rfl rfl rfl rfl rfl (eV_int _ _) (eV_int _ _) rfl ?_
    refine c_Life_count (vp_in_nI (n := 3) (by omega) (by omega)) ?_
    refine sV ?_
    simp only [putH, rC, sg, eV, List.map_cons, List.map_nil, List.set_cons_zero, List.set_cons_succ, List.length_cons, List.length_nil, List.getD_cons_zero, List.getD_cons_succ, Nat.zero_add, Nat.reduceAdd, Nat.reduceLT, if_true, ite_true]
    refine wp_iload_n 98 d_Life_behindStep_97 rfl rfl ?_
    refine wp_iconst 99 1 d_Life_behindStep_98 rfl (by decide) ?_
    refine wp_iadd 100 d_Life_behindStep_99 rfl ?_
    refine wp_ireturn d_Life_behindStep_100 rfl ?_
    rw [nI_1]
    have h9 := hq cea cno cx cy cpo cla cba cly cpt hla
    simp only [bsF, if_neg h14_0, if_neg h14_1, if_pos h14_2] at h9; exact h9
  by_cases h14_3 : dk r = 3
  · refine wp_tabIn (off := 87) 101 3 d_Life_behindStep_14 h14_3 (by decide) (by decide) (by decide) (by decide) ?_
    refine wp_aload_n 102 d_Life_behindStep_101 rfl rfl ?_
    refine wp_aload_n 103 d_Life_behindStep_102 rfl rfl ?_
    refine wp_iload 105 d_Life_behindStep_103 rfl rfl ?_
    refine wp_aload_n 106 d_Life_behindStep_105 rfl rfl ?_
    refine wp_getfield 109 1 2 d_Life_behindStep_106 rfl fl_Life_55 rfl rfl ?_
    refine wp_iload_n 110 d_Life_behindStep_109 rfl rfl ?_
    refine wp_ialoadN 111 d_Life_behindStep_110 rfl rfl rfl hr ?_
    refine ws_V3 (v1' := .ref 11) (b' := 0) 114 M_Life_takeBelief 2 [0, 1, 2, 3, 4, 5, 6, 7, 8, 9, 10, 11, 12, 13, 14, 15, 16, 17, 18, 19] ((hLT _ _ _ _ _ _ _ _ _ _ _ _ _ _ _ _ _ _ _ _ _ _ _ _ _ _ _ _)) d_Life_behindStep_111 rfl mv_Life_takeBelief lk_Life_77 rfl rfl rfl rfl rfl rfl rfl rfl (eV_int _ _) (eV_int _ _) rfl ?_
    refine c_Life_takeBelief hW ?_
    refine sV ?_
    simp only [putH, rC, sg, eV, List.map_cons, List.map_nil, List.set_cons_zero, List.set_cons_succ, List.length_cons, List.length_nil, List.getD_cons_zero, List.getD_cons_succ, Nat.zero_add, Nat.reduceAdd, Nat.reduceLT, if_true, ite_true]
    refine wp_iload_n 115 d_Life_behindStep_114 rfl rfl ?_
    refine wp_iconst 116 1 d_Life_behindStep_115 rfl (by decide) ?_
    refine wp_iadd 117 d_Life_behindStep_116 rfl ?_
    refine wp_ireturn d_Life_behindStep_117 rfl ?_
    rw [nI_1]
    have h9 := hq cea cno cx cy cpo cla cba cly cpt hla
    simp only [bsF, if_neg h14_0, if_neg h14_1, if_neg h14_2, if_pos h14_3] at h9; exact h9
  by_cases h14_4 : dk r = 4
  · refine wp_tabIn (off := 104) 118 4 d_Life_behindStep_14 h14_4 (by decide) (by decide) (by decide) (by decide) ?_
    refine wp_aload_n 119 d_Life_behindStep_118 rfl rfl ?_
    refine wp_aload_n 120 d_Life_behindStep_119 rfl rfl ?_
    refine ws_V1 (v1' := .ref 11) (b' := 0) 123 M_Life_doAny 4 [0, 1, 2, 3, 4, 5, 6, 7, 8, 9, 10, 11, 12, 13, 14, 15, 16, 17, 18, 19] ((hLT _ _ _ _ _ _ _ _ _ _ _ _ _ _ _ _ _ _ _ _ _ _ _ _ _ _ _ _)) d_Life_behindStep_120 rfl mv_Life_doAny lk_Life_81 rfl rfl rfl rfl rfl rfl rfl rfl rfl ?_
    refine c_Life_doAny hn hte ?_
    refine sV ?_
    simp only [putH, rC, sg, eV, List.map_cons, List.map_nil, List.set_cons_zero, List.set_cons_succ, List.length_cons, List.length_nil, List.getD_cons_zero, List.getD_cons_succ, Nat.zero_add, Nat.reduceAdd, Nat.reduceLT, if_true, ite_true]
    refine wp_iload_n 124 d_Life_behindStep_123 rfl rfl ?_
    refine wp_iconst 125 1 d_Life_behindStep_124 rfl (by decide) ?_
    refine wp_iadd 126 d_Life_behindStep_125 rfl ?_
    refine wp_ireturn d_Life_behindStep_126 rfl ?_
    rw [nI_1]
    have h9 := hq cea cno cx cy cpo cla cba cly cpt hla
    simp only [bsF, if_neg h14_0, if_neg h14_1, if_neg h14_2, if_neg h14_3, if_pos h14_4] at h9; exact h9
  by_cases h14_5 : dk r = 5
  · refine wp_tabIn (off := 125) 139 5 d_Life_behindStep_14 h14_5 (by decide) (by decide) (by decide) (by decide) ?_
    refine wp_aload_n 140 d_Life_behindStep_139 rfl rfl ?_
    refine wp_getfield 143 1 4 d_Life_behindStep_140 rfl fl_Life_41 rfl rfl ?_
    refine wp_ireturn d_Life_behindStep_143 rfl ?_
    have h9 := hq cea cno cx cy cpo cla cba cly cpt hla
    simp only [bsF, if_neg h14_0, if_neg h14_1, if_neg h14_2, if_neg h14_3, if_neg h14_4, if_pos h14_5] at h9; exact h9
  by_cases h14_6 : dk r = 6
  · refine wp_tabIn (off := 113) 127 6 d_Life_behindStep_14 h14_6 (by decide) (by decide) (by decide) (by decide) ?_
    refine wp_aload_n 128 d_Life_behindStep_127 rfl rfl ?_
    refine wp_getfield 131 5 2 d_Life_behindStep_128 rfl fl_Life_24 rfl rfl ?_
    refine wp_iload_n 132 d_Life_behindStep_131 rfl rfl ?_
    refine wp_iload 134 d_Life_behindStep_132 rfl rfl ?_
    refine wp_iastoreN 135 d_Life_behindStep_134 rfl rfl rfl hr ?_
    dsimp only [List.set]
    refine wp_iload_n 136 d_Life_behindStep_135 rfl rfl ?_
    refine wp_iconst 137 1 d_Life_behindStep_136 rfl (by decide) ?_
    refine wp_iadd 138 d_Life_behindStep_137 rfl ?_
    refine wp_ireturn d_Life_behindStep_138 rfl ?_
    rw [nI_1]
    have h9 := hq cea cno cx cy cpo cla cba cly cpt hla
    simp only [bsF, if_neg h14_0, if_neg h14_1, if_neg h14_2, if_neg h14_3, if_neg h14_4, if_neg h14_5, if_pos h14_6] at h9; exact h9
  refine wp_tabOut 144 d_Life_behindStep_14 (sw_out7 h14_0 h14_1 h14_2 h14_3 h14_4 h14_5 h14_6) (by decide) ?_
  refine wp_aload_n 145 d_Life_behindStep_144 rfl rfl ?_
  refine wp_aload_n 146 d_Life_behindStep_145 rfl rfl ?_
  refine wp_aload_n 147 d_Life_behindStep_146 rfl rfl ?_
  refine wp_getfield 150 1 0 d_Life_behindStep_147 rfl fl_Life_44 rfl rfl ?_
  refine wp_iload_n 151 d_Life_behindStep_150 rfl rfl ?_
  refine wp_ialoadN 152 d_Life_behindStep_151 rfl rfl rfl hr ?_
  refine wp_iload 154 d_Life_behindStep_152 rfl rfl ?_
  refine ws_V3 (v1' := .ref 11) (b' := 0) 157 M_Life_holds 5 [0, 1, 2, 3, 4, 5, 6, 7, 8, 9, 10, 11, 12, 13, 14, 15, 16, 17, 18, 19] ((hLT _ _ _ _ _ _ _ _ _ _ _ _ _ _ _ _ _ _ _ _ _ _ _ _ _ _ _ _)) d_Life_behindStep_154 rfl mv_Life_holds lk_Life_85 rfl rfl rfl rfl rfl rfl rfl rfl (eV_int _ _) (eV_int _ _) rfl ?_
  refine c_Life_holds hn hP hte hfr hto hla (fun cea cno cx cy cpo cla cba cly cpt hla => ?_)
  show Ksub _ _ _ _ _ _ _ _ _ _ _ (some (.int (hoV te fr to_ ea no nL nP (fa, sk, sd, go, lco, lro, ldr) (dk r) (df r)))) _
  generalize ho : hoV te fr to_ ea no nL nP (fa, sk, sd, go, lco, lro, ldr) (dk r) (df r) = hv
  refine sI ?_
  simp only [putH, rC, sg, eV, List.map_cons, List.map_nil, List.set_cons_zero, List.set_cons_succ, List.length_cons, List.length_nil, List.getD_cons_zero, List.getD_cons_succ, Nat.zero_add, Nat.reduceAdd, Nat.reduceLT, if_true, ite_true]
  refine wp_if_eq 166 160 d_Life_behindStep_157 rfl (by decide) (fun h157 => ?_) (fun h157 => ?_)
  · refine wp_aload_n 167 d_Life_behindStep_166 rfl rfl ?_
    refine wp_getfield 170 1 2 d_Life_behindStep_167 rfl fl_Life_55 rfl rfl ?_
    refine wp_iload_n 171 d_Life_behindStep_170 rfl rfl ?_
    refine wp_ialoadN 172 d_Life_behindStep_171 rfl rfl rfl hr ?_
    refine wp_iconst 173 1 d_Life_behindStep_172 rfl (by decide) ?_
    refine wp_iadd 174 d_Life_behindStep_173 rfl ?_
    refine wp_ireturn d_Life_behindStep_174 rfl ?_
    have h9 := hq cea cno cx cy cpo cla cba cly cpt hla
    simp only [bsF, if_neg h14_0, if_neg h14_1, if_neg h14_2, if_neg h14_3, if_neg h14_4, if_neg h14_5, if_neg h14_6, ho, if_pos h157] at h9; exact h9
  · refine wp_iload_n 161 d_Life_behindStep_160 rfl rfl ?_
    refine wp_iconst 162 1 d_Life_behindStep_161 rfl (by decide) ?_
    refine wp_iadd 163 d_Life_behindStep_162 rfl ?_
    refine wp_goto 174 d_Life_behindStep_163 (by decide) ?_
    refine wp_ireturn d_Life_behindStep_174 rfl ?_
    rw [nI_1]
    have h9 := hq cea cno cx cy cpo cla cba cly cpt hla
    simp only [bsF, if_neg h14_0, if_neg h14_1, if_neg h14_2, if_neg h14_3, if_neg h14_4, if_neg h14_5, if_neg h14_6, ho, if_neg h157] at h9; exact h9

set_option maxRecDepth 100000 in
set_option maxHeartbeats 4000000 in
theorem l_Life_run_24 {pn wn : Nat → Int64} {te fr to_ ea no dk df ds : Nat → Int32} {od dth dst : Int32} {nL nP nW nR : Nat} {seed : Int32} (hn : nL ≤ 12) (hP : nP ≤ 7) (hte : ∀ j, vp_in (te j) 4) (hfr : ∀ j, vp_in (fr j) 7) (hto : ∀ j, vp_in (to_ j) 7) (hW : nW ≤ 4) (hR : nR ≤ 60) (hds : ∀ j, vp_in (ds j) 60) : ∀ (r i : Nat) (cea cno cx cy cpo cla cba : Nat → Int32) (cly cpt : Int32) (row st : Int32) (s : LSt), i + r = 1000000 → ((∀ j, vp_in (cla j) 12) ∧ ∀ (cea cno cx cy cpo cla cba : Nat → Int32) (cly cpt : Int32), (∀ j, vp_in (cla j) 12) → Q none (hLTD cea cno cx cy cpo cla cba cly cpt ((rnF te fr to_ ea no nL nP nW od dk df ds nR r row st s).2.2.2.2.2.1) ((rnF te fr to_ ea no nL nP nW od dk df ds nR r row st s).2.2.2.2.2.2.1) ((rnF te fr to_ ea no nL nP nW od dk df ds nR r row st s).1) ((rnF te fr to_ ea no nL nP nW od dk df ds nR r row st s).2.2.2.2.2.2.2) pn wn ((rnF te fr to_ ea no nL nP nW od dk df ds nR r row st s).2.1) te fr to_ ea no (nI nP) (nI nW) (nI nL) od ((rnF te fr to_ ea no nL nP nW od dk df ds nR r row st s).2.2.1) ((rnF te fr to_ ea no nL nP nW od dk df ds nR r row st s).2.2.2.1) ((rnF te fr to_ ea no nL nP nW od dk df ds nR r row st s).2.2.2.2.1) dk df ds dth (nI nR) dst)) → WP Γ M_Life_run 7 0 0 (hLTD cea cno cx cy cpo cla cba cly cpt (s.2.2.2.2.1) (s.2.2.2.2.2.1) (st) (s.2.2.2.2.2.2) pn wn (s.1) te fr to_ ea no (nI nP) (nI nW) (nI nL) od (s.2.1) (s.2.2.1) (s.2.2.2.1) dk df ds dth (nI nR) dst) 24 [some (.ref 0), some (.ref 11), some (.ref 20), some (.int seed), some (.int row), some (.int (nI i))] [] Q := by
  intro r
  induction r with
  | zero =>
    intro i cea cno cx cy cpo cla cba cly cpt row st s hi hinv
    refine wp_iload 26 d_Life_run_24 rfl rfl ?_
    refine wp_ldc 28 (1000000 : Int32) d_Life_run_26 rfl ct_Life_40 ?_
    refine wp_icmp_ge 113 31 d_Life_run_28 rfl (by decide) (fun h28 => ?_) (fun h28 => ?_)
    · refine wp_return d_Life_run_113 rfl ?_
      exact hinv.2 cea cno cx cy cpo cla cba cly cpt hinv.1
    · exact absurd (show nI 1000000 ≤ nI i from (nI_leI (by omega) (by omega)).mpr (by omega)) h28
  | succ r ih =>
    intro i cea cno cx cy cpo cla cba cly cpt row st s hi hinv
    refine wp_iload 26 d_Life_run_24 rfl rfl ?_
    refine wp_ldc 28 (1000000 : Int32) d_Life_run_26 rfl ct_Life_40 ?_
    refine wp_icmp_ge 113 31 d_Life_run_28 rfl (by decide) (fun h28 => ?_) (fun h28 => ?_)
    · exact absurd (nI_leN (b := 1000000) h28 (by omega) (by omega)) (by omega)
    · refine wp_iload 33 d_Life_run_31 rfl rfl ?_
      refine wp_if_lt 113 36 d_Life_run_33 rfl (by decide) (fun h33 => ?_) (fun h33 => ?_)
      · refine wp_return d_Life_run_113 rfl ?_
        have hin : ¬ inR row (nI nR) := fun z => absurd h33 (Int32.not_lt.mpr z.1)
        have h9 := hinv.2 cea cno cx cy cpo cla cba cly cpt hinv.1
        simp only [rnF, if_neg hin] at h9; exact h9
      · refine wp_iload 38 d_Life_run_36 rfl rfl ?_
        refine wp_aload_n 39 d_Life_run_38 rfl rfl ?_
        refine wp_getfield 42 1 4 d_Life_run_39 rfl fl_Life_41 rfl rfl ?_
        refine wp_icmp_ge 113 45 d_Life_run_42 rfl (by decide) (fun h42 => ?_) (fun h42 => ?_)
        · refine wp_return d_Life_run_113 rfl ?_
          have hin : ¬ inR row (nI nR) := fun z => absurd h42 (Int32.not_le.mpr z.2)
          have h9 := hinv.2 cea cno cx cy cpo cla cba cly cpt hinv.1
          simp only [rnF, if_neg hin] at h9; exact h9
        · have hin : inR row (nI nR) := ⟨Int32.not_lt.mp h33, Int32.not_le.mp h42⟩
          have hv : vp_in row 60 := inR_in hin hR (by omega)
          obtain ⟨rr, hrr, erow⟩ := inR_ex hin (by omega)
          have ecl : row.toNatClampNeg = rr := by rw [erow]; exact nI_clamp (by omega)
          obtain ⟨hla, hQ⟩ := hinv
          subst erow
          simp only [rnF, if_pos hin, ecl] at hQ
          refine wp_aload_n 46 d_Life_run_45 rfl rfl ?_
          refine wp_getfield 49 1 0 d_Life_run_46 rfl fl_Life_44 rfl rfl ?_
          refine wp_iload 51 d_Life_run_49 rfl rfl ?_
          refine wp_ialoadN 52 d_Life_run_51 rfl rfl rfl (by omega) ?_
          refine wp_bipush 54 7 d_Life_run_52 rfl (by decide) ?_
          refine wp_icmp_ne 69 57 d_Life_run_54 rfl (by decide) (fun h54 => ?_) (fun h54 => ?_)
          · skip
            refine wp_aload_n 70 d_Life_run_69 rfl rfl ?_
            refine wp_getfield 73 5 3 d_Life_run_70 rfl fl_Life_27 rfl rfl ?_
            refine wp_sipush 76 300 d_Life_run_73 rfl (by decide) ?_
            refine wp_icmp_lt 87 79 d_Life_run_76 rfl (by decide) (fun h76 => ?_) (fun h76 => ?_)
            · refine wp_aload_n 88 d_Life_run_87 rfl rfl ?_
              refine wp_dup 89 d_Life_run_88 rfl rfl ?_
              refine wp_getfield 92 5 3 d_Life_run_89 rfl fl_Life_27 rfl rfl ?_
              refine wp_iconst 93 1 d_Life_run_92 rfl (by decide) ?_
              refine wp_iadd 94 d_Life_run_93 rfl ?_
              refine wp_putfield 97 5 3 _ d_Life_run_94 rfl fp_Life_27 rfl rfl (okP_int _) ?_
              dsimp only [List.set]
              refine wp_aload_n 98 d_Life_run_97 rfl rfl ?_
              refine wp_aload_n 99 d_Life_run_98 rfl rfl ?_
              refine wp_aload_n 100 d_Life_run_99 rfl rfl ?_
              refine wp_iload 102 d_Life_run_100 rfl rfl ?_
              refine wp_V3 105 M_Life_behindStep 6 d_Life_run_102 rfl mv_Life_behindStep lk_Life_51 rfl rfl rfl rfl rfl ?_
              refine c_Life_behindStep hn hP hte hfr hto hW (by omega) hla (fun cea cno cx cy cpo cla cba cly cpt hla => ?_)
              refine kI ?_
              refine wp_istore_4 107 d_Life_run_105 rfl rfl rfl ?_
              first | refine wp_iincN_5 110 d_Life_run_107 rfl rfl rfl ?_ | refine wp_iinc_5 110 1 d_Life_run_107 rfl (by decide) rfl rfl ?_
              refine wp_goto 24 d_Life_run_110 (by decide) ?_
              have h8 : ¬ 300 ≤ st := Int32.not_le.mpr h76
              simp only [if_neg h54, if_neg h8] at hQ
              refine ih (i + 1) _ _ _ _ _ _ _ _ _ (bsF te fr to_ ea no nL nP nW od dk df ds (nI nR) rr s).1 (st + 1) (bsF te fr to_ ea no nL nP nW od dk df ds (nI nR) rr s).2 (by omega) ⟨hla, hQ⟩
            · refine wp_aload_n 80 d_Life_run_79 rfl rfl ?_
              refine wp_getfield 83 5 1 d_Life_run_80 rfl fl_Life_18 rfl rfl ?_
              refine wp_iconst 84 4 d_Life_run_83 rfl (by decide) ?_
              refine wp_iconst 85 1 d_Life_run_84 rfl (by decide) ?_
              refine wp_iastore 86 d_Life_run_85 rfl rfl (vp_in_nI (n := 4) (by omega) (by omega)) ?_
              dsimp only [List.set]
              refine wp_return d_Life_run_86 rfl ?_
              have h9 := hQ cea cno cx cy cpo cla cba cly cpt hla
              simp only [if_neg h54, if_pos (Int32.not_lt.mp h76)] at h9; exact h9
          · refine wp_aload_n 58 d_Life_run_57 rfl rfl ?_
            refine wp_aload_n 59 d_Life_run_58 rfl rfl ?_
            refine wp_iload 61 d_Life_run_59 rfl rfl ?_
            refine ws_V2 (v1' := .ref 11) (b' := 0) 64 M_Life_behindEnd 1 [0, 1, 2, 3, 4, 5, 6, 7, 8, 9, 10, 20, 21, 22, 23] ((hLD _ _ _ _ _ _ _ _ _ _ _ _ _ _ _ _ _ _ _)) d_Life_run_61 rfl mv_Life_behindEnd lk_Life_47 rfl rfl rfl rfl rfl rfl rfl rfl (eV_int _ _) rfl ?_
            refine c_Life_behindEnd (by omega) hds ?_
            refine sI ?_
            simp only [putH, rC, sg, eV, List.map_cons, List.map_nil, List.set_cons_zero, List.set_cons_succ, List.length_cons, List.length_nil, List.getD_cons_zero, List.getD_cons_succ, Nat.zero_add, Nat.reduceAdd, Nat.reduceLT, if_true, ite_true]
            refine wp_istore_4 66 d_Life_run_64 rfl rfl rfl ?_
            refine wp_goto 107 d_Life_run_66 (by decide) ?_
            first | refine wp_iincN_5 110 d_Life_run_107 rfl rfl rfl ?_ | refine wp_iinc_5 110 1 d_Life_run_107 rfl (by decide) rfl rfl ?_
            refine wp_goto 24 d_Life_run_110 (by decide) ?_
            simp only [if_pos h54] at hQ
            refine ih (i + 1) _ _ _ _ _ _ _ _ _ (beF dk ds rr s).1 st (beF dk ds rr s).2 (by omega) ⟨hla, hQ⟩

set_option maxRecDepth 100000 in
set_option maxHeartbeats 4000000 in
theorem c_Life_run {lco lro fa te fr to_ ea no dk df ds : Nat → Int32} {lst ldr od sk sd go dth dst : Int32} {pn wn : Nat → Int64} {cea cno cx cy cpo cla cba : Nat → Int32} {cly cpt : Int32} {nL nP nW nR : Nat} {seed : Int32} (hn : nL ≤ 12) (hP : nP ≤ 7) (hte : ∀ j, vp_in (te j) 4) (hfr : ∀ j, vp_in (fr j) 7) (hto : ∀ j, vp_in (to_ j) 7) (hW : nW ≤ 4) (hR : nR ≤ 60) (hds : ∀ j, vp_in (ds j) 60) (hla : ∀ j, vp_in (cla j) 12) (hq : ∀ (cea cno cx cy cpo cla cba : Nat → Int32) (cly cpt : Int32), (∀ j, vp_in (cla j) 12) → Q none (hLTD cea cno cx cy cpo cla cba cly cpt ((rnF te fr to_ ea no nL nP nW od dk df ds nR 1000000 0 0 (fa, sk, sd, go, fil 5 0 lco, lro, seed)).2.2.2.2.2.1) ((rnF te fr to_ ea no nL nP nW od dk df ds nR 1000000 0 0 (fa, sk, sd, go, fil 5 0 lco, lro, seed)).2.2.2.2.2.2.1) ((rnF te fr to_ ea no nL nP nW od dk df ds nR 1000000 0 0 (fa, sk, sd, go, fil 5 0 lco, lro, seed)).1) ((rnF te fr to_ ea no nL nP nW od dk df ds nR 1000000 0 0 (fa, sk, sd, go, fil 5 0 lco, lro, seed)).2.2.2.2.2.2.2) pn wn ((rnF te fr to_ ea no nL nP nW od dk df ds nR 1000000 0 0 (fa, sk, sd, go, fil 5 0 lco, lro, seed)).2.1) te fr to_ ea no (nI nP) (nI nW) (nI nL) od ((rnF te fr to_ ea no nL nP nW od dk df ds nR 1000000 0 0 (fa, sk, sd, go, fil 5 0 lco, lro, seed)).2.2.1) ((rnF te fr to_ ea no nL nP nW od dk df ds nR 1000000 0 0 (fa, sk, sd, go, fil 5 0 lco, lro, seed)).2.2.2.1) ((rnF te fr to_ ea no nL nP nW od dk df ds nR 1000000 0 0 (fa, sk, sd, go, fil 5 0 lco, lro, seed)).2.2.2.2.1) dk df ds dth (nI nR) dst)) : Call Γ M_Life_run 7 0 0 [.ref 0, .ref 11, .ref 20, .int seed] (hLTD cea cno cx cy cpo cla cba cly cpt lco lro lst ldr pn wn fa te fr to_ ea no (nI nP) (nI nW) (nI nL) od sk sd go dk df ds dth (nI nR) dst) Q := by
  refine call_intro (ls := [some (.ref 0), some (.ref 11), some (.ref 20), some (.int seed), none, none]) rfl rfl rfl ?_
  refine wp_aload_n 1 d_Life_run_0 rfl rfl ?_
  refine wp_getfield 4 5 1 d_Life_run_1 rfl fl_Life_18 rfl rfl ?_
  refine wp_iconst 5 0 d_Life_run_4 rfl (by decide) ?_
  refine ws_S2 (v1' := .ref 0) 8 M_JArr_fillI 1 [9] ([cI 5 _]) d_Life_run_5 rfl ms_JArr_fillI lk_Life_34 rfl rfl rfl rfl (eV_int _ _) rfl ?_
  refine c_JArr_fillI rfl ?_
  refine sV ?_
  simp only [putH, rC, sg, eV, List.map_cons, List.map_nil, List.set_cons_zero, List.set_cons_succ, List.length_cons, List.length_nil, List.getD_cons_zero, List.getD_cons_succ, Nat.zero_add, Nat.reduceAdd, Nat.reduceLT, if_true, ite_true]
  refine wp_aload_n 9 d_Life_run_8 rfl rfl ?_
  refine wp_iconst 10 0 d_Life_run_9 rfl (by decide) ?_
  refine wp_putfield 13 5 3 _ d_Life_run_10 rfl fp_Life_27 rfl rfl (okP_int _) ?_
  dsimp only [List.set]
  refine wp_aload_n 14 d_Life_run_13 rfl rfl ?_
  refine wp_iload_n 15 d_Life_run_14 rfl rfl ?_
  refine wp_putfield 18 5 4 _ d_Life_run_15 rfl fp_Life_31 rfl rfl (okP_int _) ?_
  dsimp only [List.set]
  refine wp_iconst 19 0 d_Life_run_18 rfl (by decide) ?_
  refine wp_istore_4 21 d_Life_run_19 rfl rfl rfl ?_
  refine wp_iconst 22 0 d_Life_run_21 rfl (by decide) ?_
  refine wp_istore_5 24 d_Life_run_22 rfl rfl rfl ?_
  exact l_Life_run_24 hn hP hte hfr hto hW hR hds 1000000 0 _ _ _ _ _ _ _ _ _ 0 0 (fa, sk, sd, go, fil 5 0 lco, lro, seed) (by omega) ⟨hla, hq⟩

end T36
