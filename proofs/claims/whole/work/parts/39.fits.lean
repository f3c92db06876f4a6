/-! ===== Doubts: fits, the best pair ===== -/
/-- yards by what is believed, but for one walker's fault f -/
def e1F (r : Int32 → Int32 → Int32 → Int32) (b : Nat → Int32) (ea no te : Nat → Int32) (on : Int32) (f : Int32) (j : Nat) : Int32 := if te j = on then r (ea j) (no j) f else b j
def e2F (r : Int32 → Int32 → Int32 → Int32) (b : Nat → Int32) (ea no te : Nat → Int32) (on ot f g : Int32) (j : Nat) : Int32 := if te j = ot then r (ea j) (no j) g else e1F r b ea no te on f j
/-- a way tried -/
def fiG (fa te fr to_ ea no : Nat → Int32) (nL nP : Nat) (th on ot : Int32) (f g : Nat) (s : FS) : FS :=
  if cloC (e2F rE (mE ea no fa te) ea no te on ot (nI f) (nI g)) (e2F rN (mN ea no fa te) ea no te on ot (nI f) (nI g)) th fr to_ nL nP then
    kwF (cXY (e2F rE (mE ea no fa te) ea no te on ot (nI f) (nI g)) (e2F rN (mN ea no fa te) ea no te on ot (nI f) (nI g)) th fr to_ nL nP).1 (cXY (e2F rE (mE ea no fa te) ea no te on ot (nI f) (nI g)) (e2F rN (mN ea no fa te) ea no te on ot (nI f) (nI g)) th fr to_ nL nP).2 f g s else s
theorem fiG_n (fa te fr to_ ea no : Nat → Int32) (nL nP : Nat) (th on ot : Int32) (f g : Nat) (s : FS) : (fiG fa te fr to_ ea no nL nP th on ot f g s).2.2.1 ≤ s.2.2.1 + 1 := by
  unfold fiG
  split
  · simp [kwF]
  · omega
theorem iterN_le {σ : Type} {g : Nat → σ → σ} {m : σ → Nat} (h : ∀ n s, m (g n s) ≤ m s + 1) : ∀ (r i : Nat) (s : σ), m (iterN g r i s) ≤ m s + r
  | 0, _, _ => Nat.le_refl _
  | r + 1, i, s => by
    simp only [iterN]
    have h1 := iterN_le (g := g) (m := m) h r (i + 1) (g i s)
    have h2 := h i s
    omega
def fiF (fa te fr to_ ea no : Nat → Int32) (nL nP : Nat) (th on ot : Int32) (nF nG : Nat) (s : FS) : FS := iterN (fun f s => iterN (fiG fa te fr to_ ea no nL nP th on ot f) nG 0 s) nF 0 s
section T39
variable {Γ : Gm} {Q : Option Value → LH → Prop}
set_option maxRecDepth 100000 in
set_option maxHeartbeats 4000000 in
theorem l_Doubts_findFits_92 {cpt uos uon uot uaf uas wa od sk sd go : Int32} {uke uco fa te fr to_ ea no : Nat → Int32} {pn wn : Nat → Int64} {nL nP nF nG f : Nat} {S : TrS} {set : Int32} {QW : FS → Prop} (hn : nL ≤ 12) (hP : nP ≤ 7) (hfr : ∀ j, vp_in (fr j) 7) (hto : ∀ j, vp_in (to_ j) 7) (hS : trE S (pOf (lTh (nI nL) sk) fr to_ nL nP)) (hN : trN nL S) (hSl : ∀ j, vp_in (S.2.1 j) 12) (hSy : S.2.2.2.1 ≤ 7) (hnG : nG ≤ 24) (hf : f < 24) (hx : ∀ (cea cno cx cy : Nat → Int32) (s : FS), (∀ j, j < nL → te j ≠ uot → cea j = (e1F rE (mE ea no fa te) ea no te uon (nI f)) j ∧ cno j = (e1F rN (mN ea no fa te) ea no te uon (nI f)) j) → QW s → WP Γ M_Doubts_findFits 5 0 0 (hUT cea cno cx cy (S.1) (S.2.1) (S.2.2.1) (nI S.2.2.2.1) cpt (s.2.2.2.1) uke uco (s.1) (s.2.1) uos uon uot (nI s.2.2.1) (s.2.2.2.2.1) (s.2.2.2.2.2) uaf uas pn wn fa te fr to_ ea no (nI nP) wa (nI nL) od sk sd go) 150 [some (.ref 0), some (.ref 14), some (.int set), some (.int (nI nF)), some (.int (nI nG)), some (.int (nI f)), some (.int (nI nG))] [] Q) : ∀ (r i : Nat) (cea cno cx cy : Nat → Int32) (s : FS), i + r = nG → ((∀ j, j < nL → te j ≠ uot → cea j = (e1F rE (mE ea no fa te) ea no te uon (nI f)) j ∧ cno j = (e1F rN (mN ea no fa te) ea no te uon (nI f)) j) ∧ s.2.2.1 ≤ f * 24 + i ∧ QW (iterN (fiG fa te fr to_ ea no nL nP (lTh (nI nL) sk) uon uot f) r i s)) → WP Γ M_Doubts_findFits 5 0 0 (hUT cea cno cx cy (S.1) (S.2.1) (S.2.2.1) (nI S.2.2.2.1) cpt (s.2.2.2.1) uke uco (s.1) (s.2.1) uos uon uot (nI s.2.2.1) (s.2.2.2.2.1) (s.2.2.2.2.2) uaf uas pn wn fa te fr to_ ea no (nI nP) wa (nI nL) od sk sd go) 92 [some (.ref 0), some (.ref 14), some (.int set), some (.int (nI nF)), some (.int (nI nG)), some (.int (nI f)), some (.int (nI i))] [] Q := by
  intro r
  induction r with
  | zero =>
    intro i cea cno cx cy s hi hinv
    refine wp_iload 94 d_Doubts_findFits_92 rfl rfl ?_
    refine wp_iload 96 d_Doubts_findFits_94 rfl rfl ?_
    refine wp_icmp_ge 150 99 d_Doubts_findFits_96 rfl (by decide) (fun h96 => ?_) (fun h96 => ?_)
    · have e : i = nG := by omega
      subst e
      exact hx _ _ _ _ s hinv.1 hinv.2.2
    · exact absurd ((nI_leI (by omega) (by omega)).mpr (by omega)) h96
  | succ r ih =>
    intro i cea cno cx cy s hi hinv
    refine wp_iload 94 d_Doubts_findFits_92 rfl rfl ?_
    refine wp_iload 96 d_Doubts_findFits_94 rfl rfl ?_
    refine wp_icmp_ge 150 99 d_Doubts_findFits_96 rfl (by decide) (fun h96 => ?_) (fun h96 => ?_)
    · exact absurd (nI_leN h96 (by omega) (by omega)) (by omega)
    · refine wp_aload_n 100 d_Doubts_findFits_99 rfl rfl ?_
      refine wp_getfield 103 3 0 d_Doubts_findFits_100 rfl fl_Doubts_12 rfl rfl ?_
      refine wp_aload_n 104 d_Doubts_findFits_103 rfl rfl ?_
      refine wp_aload_n 105 d_Doubts_findFits_104 rfl rfl ?_
      refine wp_getfield 108 3 8 d_Doubts_findFits_105 rfl fl_Doubts_41 rfl rfl ?_
      refine wp_iload 110 d_Doubts_findFits_108 rfl rfl ?_
      refine ws_V3 (v1' := .ref 8) (b' := 0) 113 M_Chart_measureBy 3 [1, 2, 3, 4, 5, 6, 7, 8, 14, 15, 16, 17, 18, 19, 20, 21, 22] ((hCT _ _ _ _ _ _ _ _ _ _ _ _ _ _ _ _ _ _ _ _ _ _ _ _)) d_Doubts_findFits_110 rfl mv_Chart_measureBy lk_Doubts_104 rfl rfl rfl rfl rfl rfl rfl rfl (eV_int _ _) (eV_int _ _) rfl ?_
      refine c_Chart_measureBy hn ?_
      refine sV ?_
      simp only [putH, rC, sg, eV, List.map_cons, List.map_nil, List.set_cons_zero, List.set_cons_succ, List.length_cons, List.length_nil, List.getD_cons_zero, List.getD_cons_succ, Nat.zero_add, Nat.reduceAdd, Nat.reduceLT, if_true, ite_true]
      refine wp_aload_n 114 d_Doubts_findFits_113 rfl rfl ?_
      refine wp_getfield 117 3 0 d_Doubts_findFits_114 rfl fl_Doubts_12 rfl rfl ?_
      refine wp_aload_n 118 d_Doubts_findFits_117 rfl rfl ?_
      refine ws_V1 (v1' := .ref 8) (b' := 0) 121 M_Chart_lay 2 [1, 2, 3, 4, 5, 6, 7, 8, 14, 15, 16, 17, 18, 19, 20, 21, 22] ((hCT _ _ _ _ _ _ _ _ _ _ _ _ _ _ _ _ _ _ _ _ _ _ _ _)) d_Doubts_findFits_118 rfl mv_Chart_lay lk_Doubts_86 rfl rfl rfl rfl rfl rfl rfl rfl rfl ?_
      refine c_Chart_lay hSy hSl hfr hto ?_
      refine sV ?_
      simp only [putH, rC, sg, eV, List.map_cons, List.map_nil, List.set_cons_zero, List.set_cons_succ, List.length_cons, List.length_nil, List.getD_cons_zero, List.getD_cons_succ, Nat.zero_add, Nat.reduceAdd, Nat.reduceLT, if_true, ite_true]
      refine wp_aload_n 122 d_Doubts_findFits_121 rfl rfl ?_
      refine wp_getfield 125 3 0 d_Doubts_findFits_122 rfl fl_Doubts_12 rfl rfl ?_
      refine wp_aload_n 126 d_Doubts_findFits_125 rfl rfl ?_
      refine wp_aload_n 127 d_Doubts_findFits_126 rfl rfl ?_
      refine ws_V0 (b' := 0) 130 M_Town_legsThere 1 [14, 15, 16, 17, 18, 19, 20, 21, 22] ((hT _ _ _ _ _ _ _ _ _ _ _ _ _ _ _)) d_Doubts_findFits_127 rfl mv_Town_legsThere lk_Doubts_63 rfl rfl rfl rfl rfl rfl rfl rfl ?_
      refine c_Town_legsThere ?_
      refine sIr rfl rfl ?_
      refine ws_V2 (v1' := .ref 8) (b' := 0) 133 M_Chart_closes 3 [1, 2, 3, 4, 5, 6, 7, 8, 14, 15, 16, 17, 18, 19, 20, 21, 22] ((hCT _ _ _ _ _ _ _ _ _ _ _ _ _ _ _ _ _ _ _ _ _ _ _ _)) d_Doubts_findFits_130 rfl mv_Chart_closes lk_Doubts_89 rfl rfl rfl rfl rfl rfl rfl rfl (eV_int _ _) rfl ?_
      have hE2 : ∀ j, j < nL → (if j < nL ∧ te j = uot then rE (ea j) (no j) (nI i) else cea j) = (e2F rE (mE ea no fa te) ea no te uon uot (nI f) (nI i)) j ∧ (if j < nL ∧ te j = uot then rN (ea j) (no j) (nI i) else cno j) = (e2F rN (mN ea no fa te) ea no te uon uot (nI f) (nI i)) j := by
        intro j hj
        by_cases ht : te j = uot
        · simp [hj, ht, e2F]
        · simp [ht, e2F, (hinv.1 j hj ht).1, (hinv.1 j hj ht).2]
      have hA := lay_chA (cx := cx) (cy := cy) hn hP hfr hto hS hN hE2
      refine c_Chart_closesC hn hfr hto hA ?_
      refine sIr rfl rfl ?_
      (first | refine wp_ifP_eq 144 136 d_Doubts_findFits_133 rfl (by decide) (fun h133 => ?_) (fun h133 => ?_) | refine wp_if_eq 144 136 d_Doubts_findFits_133 rfl (by decide) (fun h133 => ?_) (fun h133 => ?_))
      · first | refine wp_iincN_6 147 d_Doubts_findFits_144 rfl rfl rfl ?_ | refine wp_iinc_6 147 1 d_Doubts_findFits_144 rfl (by decide) rfl rfl ?_
        refine wp_goto 92 d_Doubts_findFits_147 (by decide) ?_
        have hE3 : ∀ j, j < nL → te j ≠ uot → (if j < nL ∧ te j = uot then rE (ea j) (no j) (nI i) else cea j) = (e1F rE (mE ea no fa te) ea no te uon (nI f)) j ∧ (if j < nL ∧ te j = uot then rN (ea j) (no j) (nI i) else cno j) = (e1F rN (mN ea no fa te) ea no te uon (nI f)) j := by
          intro j hj ht
          simp only [ht, and_false, if_false]
          exact hinv.1 j hj ht
        have e : fiG fa te fr to_ ea no nL nP (lTh (nI nL) sk) uon uot f i s = s := if_neg h133
        have hQ := hinv.2.2
        simp only [iterN, e] at hQ
        exact ih (i + 1) _ _ _ _ s (by omega) ⟨hE3, by omega, hQ⟩
      · refine wp_aload_n 137 d_Doubts_findFits_136 rfl rfl ?_
        refine wp_iload 139 d_Doubts_findFits_137 rfl rfl ?_
        refine wp_iload 141 d_Doubts_findFits_139 rfl rfl ?_
        refine ws_V2 (b' := 0) 144 M_Doubts_keepWay 1 [0, 1, 2, 3, 4, 5, 6, 7, 8, 9, 10, 11, 12, 13] ((hU _ _ _ _ _ _ _ _ _ _ _ _ _ _ _ _ _ _ _ _ _ _)) d_Doubts_findFits_141 rfl mv_Doubts_keepWay lk_Doubts_108 rfl rfl rfl rfl rfl rfl rfl (eV_int _ _) (eV_int _ _) rfl ?_
        refine c_Doubts_keepWay hf (by omega) (by omega) ?_
        refine sV ?_
        simp only [putH, rC, sg, eV, List.map_cons, List.map_nil, List.set_cons_zero, List.set_cons_succ, List.length_cons, List.length_nil, List.getD_cons_zero, List.getD_cons_succ, Nat.zero_add, Nat.reduceAdd, Nat.reduceLT, if_true, ite_true]
        first | refine wp_iincN_6 147 d_Doubts_findFits_144 rfl rfl rfl ?_ | refine wp_iinc_6 147 1 d_Doubts_findFits_144 rfl (by decide) rfl rfl ?_
        refine wp_goto 92 d_Doubts_findFits_147 (by decide) ?_
        have hE3 : ∀ j, j < nL → te j ≠ uot → (if j < nL ∧ te j = uot then rE (ea j) (no j) (nI i) else cea j) = (e1F rE (mE ea no fa te) ea no te uon (nI f)) j ∧ (if j < nL ∧ te j = uot then rN (ea j) (no j) (nI i) else cno j) = (e1F rN (mN ea no fa te) ea no te uon (nI f)) j := by
          intro j hj ht
          simp only [ht, and_false, if_false]
          exact hinv.1 j hj ht
        have e : fiG fa te fr to_ ea no nL nP (lTh (nI nL) sk) uon uot f i s = _ := if_pos h133
        have hQ := hinv.2.2
        simp only [iterN, e] at hQ
        rw [← kwF_congr hA.2.2] at hQ
        exact ih (i + 1) _ _ _ _ (kwF _ _ f i s) (by omega) ⟨hE3, by simp only [kwF]; omega, hQ⟩

set_option maxRecDepth 100000 in
set_option maxHeartbeats 4000000 in
theorem l_Doubts_findFits_69 {cpt uos uon uot uaf uas wa od sk sd go : Int32} {uke uco fa te fr to_ ea no : Nat → Int32} {pn wn : Nat → Int64} {nL nP nF nG : Nat} {S : TrS} {set : Int32} (hn : nL ≤ 12) (hP : nP ≤ 7) (hfr : ∀ j, vp_in (fr j) 7) (hto : ∀ j, vp_in (to_ j) 7) (hS : trE S (pOf (lTh (nI nL) sk) fr to_ nL nP)) (hN : trN nL S) (hSl : ∀ j, vp_in (S.2.1 j) 12) (hSy : S.2.2.2.1 ≤ 7) (hnG : nG ≤ 24) (hnF : nF ≤ 24) : ∀ (r i : Nat) (cea cno cx cy : Nat → Int32) (s : FS), i + r = nF → ((∀ j, j < nL → te j ≠ uot → te j ≠ uon → cea j = mE ea no fa te j ∧ cno j = mN ea no fa te j) ∧ s.2.2.1 ≤ i * 24 ∧ ∀ (cea cno cx cy : Nat → Int32), Q none (hUT cea cno cx cy (S.1) (S.2.1) (S.2.2.1) (nI S.2.2.2.1) cpt ((iterN (fun f s => iterN (fiG fa te fr to_ ea no nL nP (lTh (nI nL) sk) uon uot f) nG 0 s) r i s).2.2.2.1) uke uco ((iterN (fun f s => iterN (fiG fa te fr to_ ea no nL nP (lTh (nI nL) sk) uon uot f) nG 0 s) r i s).1) ((iterN (fun f s => iterN (fiG fa te fr to_ ea no nL nP (lTh (nI nL) sk) uon uot f) nG 0 s) r i s).2.1) uos uon uot (nI (iterN (fun f s => iterN (fiG fa te fr to_ ea no nL nP (lTh (nI nL) sk) uon uot f) nG 0 s) r i s).2.2.1) ((iterN (fun f s => iterN (fiG fa te fr to_ ea no nL nP (lTh (nI nL) sk) uon uot f) nG 0 s) r i s).2.2.2.2.1) ((iterN (fun f s => iterN (fiG fa te fr to_ ea no nL nP (lTh (nI nL) sk) uon uot f) nG 0 s) r i s).2.2.2.2.2) uaf uas pn wn fa te fr to_ ea no (nI nP) wa (nI nL) od sk sd go)) → WP Γ M_Doubts_findFits 5 0 0 (hUT cea cno cx cy (S.1) (S.2.1) (S.2.2.1) (nI S.2.2.2.1) cpt (s.2.2.2.1) uke uco (s.1) (s.2.1) uos uon uot (nI s.2.2.1) (s.2.2.2.2.1) (s.2.2.2.2.2) uaf uas pn wn fa te fr to_ ea no (nI nP) wa (nI nL) od sk sd go) 69 [some (.ref 0), some (.ref 14), some (.int set), some (.int (nI nF)), some (.int (nI nG)), some (.int (nI i)), none] [] Q := by
  intro r
  induction r with
  | zero =>
    intro i cea cno cx cy s hi hinv
    refine wp_iload 71 d_Doubts_findFits_69 rfl rfl ?_
    refine wp_iload_n 72 d_Doubts_findFits_71 rfl rfl ?_
    refine wp_icmp_ge 156 75 d_Doubts_findFits_72 rfl (by decide) (fun h72 => ?_) (fun h72 => ?_)
    · refine wp_return d_Doubts_findFits_156 rfl ?_
      exact hinv.2.2 _ _ _ _
    · exact absurd ((nI_leI (by omega) (by omega)).mpr (by omega)) h72
  | succ r ih =>
    intro i cea cno cx cy s hi hinv
    refine wp_iload 71 d_Doubts_findFits_69 rfl rfl ?_
    refine wp_iload_n 72 d_Doubts_findFits_71 rfl rfl ?_
    refine wp_icmp_ge 156 75 d_Doubts_findFits_72 rfl (by decide) (fun h72 => ?_) (fun h72 => ?_)
    · exact absurd (nI_leN h72 (by omega) (by omega)) (by omega)
    · refine wp_aload_n 76 d_Doubts_findFits_75 rfl rfl ?_
      refine wp_getfield 79 3 0 d_Doubts_findFits_76 rfl fl_Doubts_12 rfl rfl ?_
      refine wp_aload_n 80 d_Doubts_findFits_79 rfl rfl ?_
      refine wp_aload_n 81 d_Doubts_findFits_80 rfl rfl ?_
      refine wp_getfield 84 3 7 d_Doubts_findFits_81 rfl fl_Doubts_38 rfl rfl ?_
      refine wp_iload 86 d_Doubts_findFits_84 rfl rfl ?_
      refine ws_V3 (v1' := .ref 8) (b' := 0) 89 M_Chart_measureBy 3 [1, 2, 3, 4, 5, 6, 7, 8, 14, 15, 16, 17, 18, 19, 20, 21, 22] ((hCT _ _ _ _ _ _ _ _ _ _ _ _ _ _ _ _ _ _ _ _ _ _ _ _)) d_Doubts_findFits_86 rfl mv_Chart_measureBy lk_Doubts_104 rfl rfl rfl rfl rfl rfl rfl rfl (eV_int _ _) (eV_int _ _) rfl ?_
      refine c_Chart_measureBy hn ?_
      refine sV ?_
      simp only [putH, rC, sg, eV, List.map_cons, List.map_nil, List.set_cons_zero, List.set_cons_succ, List.length_cons, List.length_nil, List.getD_cons_zero, List.getD_cons_succ, Nat.zero_add, Nat.reduceAdd, Nat.reduceLT, if_true, ite_true]
      refine wp_iconst 90 0 d_Doubts_findFits_89 rfl (by decide) ?_
      refine wp_istore_6 92 d_Doubts_findFits_90 rfl rfl rfl ?_
      refine l_Doubts_findFits_92 (f := i) (QW := fun s => s.2.2.1 ≤ (i + 1) * 24 ∧ ∀ (cea cno cx cy : Nat → Int32), Q none (hUT cea cno cx cy (S.1) (S.2.1) (S.2.2.1) (nI S.2.2.2.1) cpt ((iterN (fun f s => iterN (fiG fa te fr to_ ea no nL nP (lTh (nI nL) sk) uon uot f) nG 0 s) r (i + 1) s).2.2.2.1) uke uco ((iterN (fun f s => iterN (fiG fa te fr to_ ea no nL nP (lTh (nI nL) sk) uon uot f) nG 0 s) r (i + 1) s).1) ((iterN (fun f s => iterN (fiG fa te fr to_ ea no nL nP (lTh (nI nL) sk) uon uot f) nG 0 s) r (i + 1) s).2.1) uos uon uot (nI (iterN (fun f s => iterN (fiG fa te fr to_ ea no nL nP (lTh (nI nL) sk) uon uot f) nG 0 s) r (i + 1) s).2.2.1) ((iterN (fun f s => iterN (fiG fa te fr to_ ea no nL nP (lTh (nI nL) sk) uon uot f) nG 0 s) r (i + 1) s).2.2.2.2.1) ((iterN (fun f s => iterN (fiG fa te fr to_ ea no nL nP (lTh (nI nL) sk) uon uot f) nG 0 s) r (i + 1) s).2.2.2.2.2) uaf uas pn wn fa te fr to_ ea no (nI nP) wa (nI nL) od sk sd go)) hn hP hfr hto hS hN hSl hSy hnG (by omega) (fun cea cno cx cy s hE ⟨hW1, hW⟩ => ?_) nG 0 _ _ _ _ s (by omega) ⟨fun j hj ht => ?_, by omega, ?_, hinv.2.2⟩
      · skip
        first | refine wp_iincN_5 153 d_Doubts_findFits_150 rfl rfl rfl ?_ | refine wp_iinc_5 153 1 d_Doubts_findFits_150 rfl (by decide) rfl rfl ?_
        refine wp_goto 69 d_Doubts_findFits_153 (by decide) ?_
        refine wp_fgt (ls' := [some (.ref 0), some (.ref 14), some (.int set), some (.int (nI nF)), some (.int (nI nG)), some (.int (nI (i + 1))), none]) ⟨rfl, rfl, rfl, rfl, rfl, rfl, trivial⟩ ?_
        refine ih (i + 1) _ _ _ _ s (by omega) ⟨fun j hj h1 h2 => ?_, hW1, hW⟩
        have h3 := hE j hj h1
        simp only [e1F, if_neg h2] at h3
        exact h3
      · by_cases h1 : te j = uon
        · simp [hj, h1, e1F]
        · simp [h1, e1F, (hinv.1 j hj ht h1).1, (hinv.1 j hj ht h1).2]
      · have := iterN_le (m := fun s : FS => s.2.2.1) (fiG_n fa te fr to_ ea no nL nP (lTh (nI nL) sk) uon uot i) nG 0 s
        have := hinv.2.1
        omega

set_option maxRecDepth 100000 in
set_option maxHeartbeats 4000000 in
theorem c_Doubts_findFits {usp uke uco uow utw fa te fr to_ ea no : Nat → Int32} {uos uon uot uwa uof utf uaf uas od sk sd go : Int32} {pn wn : Nat → Int64} {cea cno cx cy cpo cla cba : Nat → Int32} {cly cpt : Int32} {nL nP nW : Nat} {set : Int32} (hn : nL ≤ 12) (hP : nP ≤ 7) (hfr : ∀ j, vp_in (fr j) 7) (hto : ∀ j, vp_in (to_ j) 7) (hW : nW ≤ 4) (hte : ∀ j, vp_in (te j) 4) (hla : ∀ j, vp_in (cla j) 12) (hq : ∀ (cea cno cx cy cpo cla cba : Nat → Int32) (cly cpt : Int32), (∀ j, j < 7 → cpo j = (pOf (lTh (nI nL) sk) fr to_ nL nP).1 j) → (∀ j, vp_in (cla j) 12) → Q none (hUT cea cno cx cy cpo cla cba cly cpt ((fiF fa te fr to_ ea no nL nP (lTh (nI nL) sk) (pkF set nW).1 (pkF set nW).2 (if (pkF set nW).1 = -1 then 1 else 24) (if (pkF set nW).2 = -1 then 1 else 24) (fil 24 0 uow, fil 24 0 utw, 0, usp, uof, utf)).2.2.2.1) uke uco ((fiF fa te fr to_ ea no nL nP (lTh (nI nL) sk) (pkF set nW).1 (pkF set nW).2 (if (pkF set nW).1 = -1 then 1 else 24) (if (pkF set nW).2 = -1 then 1 else 24) (fil 24 0 uow, fil 24 0 utw, 0, usp, uof, utf)).1) ((fiF fa te fr to_ ea no nL nP (lTh (nI nL) sk) (pkF set nW).1 (pkF set nW).2 (if (pkF set nW).1 = -1 then 1 else 24) (if (pkF set nW).2 = -1 then 1 else 24) (fil 24 0 uow, fil 24 0 utw, 0, usp, uof, utf)).2.1) uos ((pkF set nW).1) ((pkF set nW).2) (nI (fiF fa te fr to_ ea no nL nP (lTh (nI nL) sk) (pkF set nW).1 (pkF set nW).2 (if (pkF set nW).1 = -1 then 1 else 24) (if (pkF set nW).2 = -1 then 1 else 24) (fil 24 0 uow, fil 24 0 utw, 0, usp, uof, utf)).2.2.1) ((fiF fa te fr to_ ea no nL nP (lTh (nI nL) sk) (pkF set nW).1 (pkF set nW).2 (if (pkF set nW).1 = -1 then 1 else 24) (if (pkF set nW).2 = -1 then 1 else 24) (fil 24 0 uow, fil 24 0 utw, 0, usp, uof, utf)).2.2.2.2.1) ((fiF fa te fr to_ ea no nL nP (lTh (nI nL) sk) (pkF set nW).1 (pkF set nW).2 (if (pkF set nW).1 = -1 then 1 else 24) (if (pkF set nW).2 = -1 then 1 else 24) (fil 24 0 uow, fil 24 0 utw, 0, usp, uof, utf)).2.2.2.2.2) uaf uas pn wn fa te fr to_ ea no (nI nP) (nI nW) (nI nL) od sk sd go)) : Call Γ M_Doubts_findFits 5 0 0 [.ref 0, .ref 14, .int set] (hUT cea cno cx cy cpo cla cba cly cpt usp uke uco uow utw uos uon uot uwa uof utf uaf uas pn wn fa te fr to_ ea no (nI nP) (nI nW) (nI nL) od sk sd go) Q := by
  have hS := pOf_eq (there := (lTh (nI nL) sk)) (nL := nL) hP hfr hto cpo cla cba
  have hla2 := trI_la (there := (lTh (nI nL) sk)) (fr := fr) (to_ := to_) (nP := nP) hn nP (tr0 cpo cla cba) hla
  have hsum := trI_sum (lTh (nI nL) sk) fr to_ nL nP nP (tr0 cpo cla cba)
  simp only [tr0] at hsum
  refine call_intro (ls := [some (.ref 0), some (.ref 14), some (.int set), none, none, none, none]) rfl rfl rfl ?_
  refine wp_aload_n 1 d_Doubts_findFits_0 rfl rfl ?_
  refine wp_getfield 4 3 4 d_Doubts_findFits_1 rfl fl_Doubts_28 rfl rfl ?_
  refine wp_iconst 5 0 d_Doubts_findFits_4 rfl (by decide) ?_
  refine ws_S2 (v1' := .ref 0) 8 M_JArr_fillI 1 [12] ([cI 24 _]) d_Doubts_findFits_5 rfl ms_JArr_fillI lk_Doubts_92 rfl rfl rfl rfl (eV_int _ _) rfl ?_
  refine c_JArr_fillI rfl ?_
  refine sV ?_
  simp only [putH, rC, sg, eV, List.map_cons, List.map_nil, List.set_cons_zero, List.set_cons_succ, List.length_cons, List.length_nil, List.getD_cons_zero, List.getD_cons_succ, Nat.zero_add, Nat.reduceAdd, Nat.reduceLT, if_true, ite_true]
  refine wp_aload_n 9 d_Doubts_findFits_8 rfl rfl ?_
  refine wp_getfield 12 3 5 d_Doubts_findFits_9 rfl fl_Doubts_31 rfl rfl ?_
  refine wp_iconst 13 0 d_Doubts_findFits_12 rfl (by decide) ?_
  refine ws_S2 (v1' := .ref 0) 16 M_JArr_fillI 1 [13] ([cI 24 _]) d_Doubts_findFits_13 rfl ms_JArr_fillI lk_Doubts_92 rfl rfl rfl rfl (eV_int _ _) rfl ?_
  refine c_JArr_fillI rfl ?_
  refine sV ?_
  simp only [putH, rC, sg, eV, List.map_cons, List.map_nil, List.set_cons_zero, List.set_cons_succ, List.length_cons, List.length_nil, List.getD_cons_zero, List.getD_cons_succ, Nat.zero_add, Nat.reduceAdd, Nat.reduceLT, if_true, ite_true]
  refine wp_aload_n 17 d_Doubts_findFits_16 rfl rfl ?_
  refine wp_iconst 18 0 d_Doubts_findFits_17 rfl (by decide) ?_
  refine wp_putfield 21 3 9 _ d_Doubts_findFits_18 rfl fp_Doubts_44 rfl rfl (okP_int _) ?_
  dsimp only [List.set]
  refine wp_aload_n 22 d_Doubts_findFits_21 rfl rfl ?_
  refine wp_aload_n 23 d_Doubts_findFits_22 rfl rfl ?_
  refine wp_iload_n 24 d_Doubts_findFits_23 rfl rfl ?_
  refine wp_V2 27 M_Doubts_pickWalkers 2 d_Doubts_findFits_24 rfl mv_Doubts_pickWalkers lk_Doubts_98 rfl rfl rfl rfl rfl ?_
  refine c_Doubts_pickWalkers hW ?_
  refine kV ?_
  refine wp_aload_n 28 d_Doubts_findFits_27 rfl rfl ?_
  refine wp_getfield 31 3 0 d_Doubts_findFits_28 rfl fl_Doubts_12 rfl rfl ?_
  refine wp_aload_n 32 d_Doubts_findFits_31 rfl rfl ?_
  refine ws_V1 (v1' := .ref 8) (b' := 0) 35 M_Chart_draw 4 [1, 2, 3, 4, 5, 6, 7, 8, 14, 15, 16, 17, 18, 19, 20, 21, 22] ((hCT _ _ _ _ _ _ _ _ _ _ _ _ _ _ _ _ _ _ _ _ _ _ _ _)) d_Doubts_findFits_32 rfl mv_Chart_draw lk_Doubts_101 rfl rfl rfl rfl rfl rfl rfl rfl rfl ?_
  refine c_Chart_draw hn hP hte hfr hto hla ?_
  refine sV ?_
  simp only [putH, rC, sg, eV, List.map_cons, List.map_nil, List.set_cons_zero, List.set_cons_succ, List.length_cons, List.length_nil, List.getD_cons_zero, List.getD_cons_succ, Nat.zero_add, Nat.reduceAdd, Nat.reduceLT, if_true, ite_true]
  refine wp_aload_n 36 d_Doubts_findFits_35 rfl rfl ?_
  refine wp_getfield 39 3 7 d_Doubts_findFits_36 rfl fl_Doubts_38 rfl rfl ?_
  refine wp_iconst 40 (-1) d_Doubts_findFits_39 rfl (by decide) ?_
  refine wp_icmp_ne 47 43 d_Doubts_findFits_40 rfl (by decide) (fun h40 => ?_) (fun h40 => ?_)
  · refine wp_bipush 49 24 d_Doubts_findFits_47 rfl (by decide) ?_
    refine wp_istore_3 50 d_Doubts_findFits_49 rfl rfl rfl ?_
    refine wp_aload_n 51 d_Doubts_findFits_50 rfl rfl ?_
    refine wp_getfield 54 3 8 d_Doubts_findFits_51 rfl fl_Doubts_41 rfl rfl ?_
    refine wp_iconst 55 (-1) d_Doubts_findFits_54 rfl (by decide) ?_
    refine wp_icmp_ne 62 58 d_Doubts_findFits_55 rfl (by decide) (fun h55 => ?_) (fun h55 => ?_)
    · refine wp_bipush 64 24 d_Doubts_findFits_62 rfl (by decide) ?_
      refine wp_istore_4 66 d_Doubts_findFits_64 rfl rfl rfl ?_
      refine wp_iconst 67 0 d_Doubts_findFits_66 rfl (by decide) ?_
      refine wp_istore_5 69 d_Doubts_findFits_67 rfl rfl rfl ?_
      simp only [if_neg h40, if_neg h55] at hq
      exact l_Doubts_findFits_69 (nF := 24) (nG := 24) (S := (trI (lTh (nI nL) sk) fr to_ nL nP nP (tr0 cpo cla cba))) hn hP hfr hto hS (trN_I nP (fun j hj => absurd hj (by simp [tr0]))) hla2 (by simp only [tr0]; omega) (by omega) (by omega) 24 0 _ _ _ _ (fil 24 0 uow, fil 24 0 utw, 0, usp, uof, utf) (by omega) ⟨fun j hj _ _ => by simp [mEf, mNf, hj], Nat.le_refl 0, fun cea cno cx cy => hq _ _ _ _ _ _ _ _ _ hS.1 hla2⟩
    · refine wp_iconst 59 1 d_Doubts_findFits_58 rfl (by decide) ?_
      refine wp_goto 64 d_Doubts_findFits_59 (by decide) ?_
      refine wp_istore_4 66 d_Doubts_findFits_64 rfl rfl rfl ?_
      refine wp_iconst 67 0 d_Doubts_findFits_66 rfl (by decide) ?_
      refine wp_istore_5 69 d_Doubts_findFits_67 rfl rfl rfl ?_
      simp only [if_neg h40, if_pos h55] at hq
      exact l_Doubts_findFits_69 (nF := 24) (nG := 1) (S := (trI (lTh (nI nL) sk) fr to_ nL nP nP (tr0 cpo cla cba))) hn hP hfr hto hS (trN_I nP (fun j hj => absurd hj (by simp [tr0]))) hla2 (by simp only [tr0]; omega) (by omega) (by omega) 24 0 _ _ _ _ (fil 24 0 uow, fil 24 0 utw, 0, usp, uof, utf) (by omega) ⟨fun j hj _ _ => by simp [mEf, mNf, hj], Nat.le_refl 0, fun cea cno cx cy => hq _ _ _ _ _ _ _ _ _ hS.1 hla2⟩
  · refine wp_iconst 44 1 d_Doubts_findFits_43 rfl (by decide) ?_
    refine wp_goto 49 d_Doubts_findFits_44 (by decide) ?_
    refine wp_istore_3 50 d_Doubts_findFits_49 rfl rfl rfl ?_
    refine wp_aload_n 51 d_Doubts_findFits_50 rfl rfl ?_
    refine wp_getfield 54 3 8 d_Doubts_findFits_51 rfl fl_Doubts_41 rfl rfl ?_
    refine wp_iconst 55 (-1) d_Doubts_findFits_54 rfl (by decide) ?_
    refine wp_icmp_ne 62 58 d_Doubts_findFits_55 rfl (by decide) (fun h55 => ?_) (fun h55 => ?_)
    · refine wp_bipush 64 24 d_Doubts_findFits_62 rfl (by decide) ?_
      refine wp_istore_4 66 d_Doubts_findFits_64 rfl rfl rfl ?_
      refine wp_iconst 67 0 d_Doubts_findFits_66 rfl (by decide) ?_
      refine wp_istore_5 69 d_Doubts_findFits_67 rfl rfl rfl ?_
      simp only [if_pos h40, if_neg h55] at hq
      exact l_Doubts_findFits_69 (nF := 1) (nG := 24) (S := (trI (lTh (nI nL) sk) fr to_ nL nP nP (tr0 cpo cla cba))) hn hP hfr hto hS (trN_I nP (fun j hj => absurd hj (by simp [tr0]))) hla2 (by simp only [tr0]; omega) (by omega) (by omega) 1 0 _ _ _ _ (fil 24 0 uow, fil 24 0 utw, 0, usp, uof, utf) (by omega) ⟨fun j hj _ _ => by simp [mEf, mNf, hj], Nat.le_refl 0, fun cea cno cx cy => hq _ _ _ _ _ _ _ _ _ hS.1 hla2⟩
    · refine wp_iconst 59 1 d_Doubts_findFits_58 rfl (by decide) ?_
      refine wp_goto 64 d_Doubts_findFits_59 (by decide) ?_
      refine wp_istore_4 66 d_Doubts_findFits_64 rfl rfl rfl ?_
      refine wp_iconst 67 0 d_Doubts_findFits_66 rfl (by decide) ?_
      refine wp_istore_5 69 d_Doubts_findFits_67 rfl rfl rfl ?_
      simp only [if_pos h40, if_pos h55] at hq
      exact l_Doubts_findFits_69 (nF := 1) (nG := 1) (S := (trI (lTh (nI nL) sk) fr to_ nL nP nP (tr0 cpo cla cba))) hn hP hfr hto hS (trN_I nP (fun j hj => absurd hj (by simp [tr0]))) hla2 (by simp only [tr0]; omega) (by omega) (by omega) 1 0 _ _ _ _ (fil 24 0 uow, fil 24 0 utw, 0, usp, uof, utf) (by omega) ⟨fun j hj _ _ => by simp [mEf, mNf, hj], Nat.le_refl 0, fun cea cno cx cy => hq _ _ _ _ _ _ _ _ _ hS.1 hla2⟩

end T39
