/-! ===== Doubts: the best pair ===== -/
/-- the fewest, the pair, counts, keys -/
abbrev BPr : Type := Int32 × Int32 × Int32 × (Nat → Int32) × (Nat → Int32)
def bpG (sp po : Nat → Int32) (nWy a b : Nat) (s : BPr) : BPr :=
  if po a = po b then
    (if (maF sp a b nWy s.2.2.2.1 s.2.2.2.2).2.2 < s.1 then ((maF sp a b nWy s.2.2.2.1 s.2.2.2.2).2.2, nI a, nI b, (maF sp a b nWy s.2.2.2.1 s.2.2.2.2).1, (maF sp a b nWy s.2.2.2.1 s.2.2.2.2).2.1) else (s.1, s.2.1, s.2.2.1, (maF sp a b nWy s.2.2.2.1 s.2.2.2.2).1, (maF sp a b nWy s.2.2.2.1 s.2.2.2.2).2.1)) else s
def bpI (sp po : Nat → Int32) (nWy nP a : Nat) (s : BPr) : BPr := iterN (bpG sp po nWy a) (nP - (a + 1)) (a + 1) s
def bpF (sp po : Nat → Int32) (nWy nP : Nat) (s : BPr) : BPr := iterN (bpI sp po nWy nP) nP 0 s
section T40
variable {Γ : Gm} {Q : Option Value → LH → Prop}
set_option maxRecDepth 100000 in
set_option maxHeartbeats 4000000 in
theorem l_Doubts_findBestPair_19 {cea cno cx cy cpo cla cba usp uow utw fa te fr to_ ea no : Nat → Int32} {cly cpt uos uon uot uof utf wa le od sk sd go : Int32} {pn wn : Nat → Int64} {nP nWy a : Nat} {QW : BPr → Prop} (hP : nP ≤ 7) (hN : nWy ≤ 576) (ha : a < nP) (hx : ∀ (s : BPr), QW s → WP Γ M_Doubts_findBestPair 3 0 0 (hUT cea cno cx cy cpo cla cba cly cpt usp (s.2.2.2.2) (s.2.2.2.1) uow utw uos uon uot (nI nWy) uof utf (s.2.1) (s.2.2.1) pn wn fa te fr to_ ea no (nI nP) wa le od sk sd go) 80 [some (.ref 0), some (.ref 14), some (.int s.1), some (.int (nI a)), some (.int (nI nP)), none] [] Q) : ∀ (r i : Nat) (s : BPr), i + r = nP → (a < i ∧ QW (iterN (bpG usp cpo nWy a) r i s)) → WP Γ M_Doubts_findBestPair 3 0 0 (hUT cea cno cx cy cpo cla cba cly cpt usp (s.2.2.2.2) (s.2.2.2.1) uow utw uos uon uot (nI nWy) uof utf (s.2.1) (s.2.2.1) pn wn fa te fr to_ ea no (nI nP) wa le od sk sd go) 19 [some (.ref 0), some (.ref 14), some (.int s.1), some (.int (nI a)), some (.int (nI i)), none] [] Q := by
  intro r
  induction r with
  | zero =>
    intro i s hi hinv
    refine wp_iload 21 d_Doubts_findBestPair_19 rfl rfl ?_
    refine wp_aload_n 22 d_Doubts_findBestPair_21 rfl rfl ?_
    refine wp_getfield 25 8 8 d_Doubts_findBestPair_22 rfl fl_Doubts_125 rfl rfl ?_
    refine wp_icmp_ge 80 28 d_Doubts_findBestPair_25 rfl (by decide) (fun h25 => ?_) (fun h25 => ?_)
    · have e : i = nP := by omega
      subst e
      exact hx s hinv.2
    · exact absurd ((nI_leI (by omega) (by omega)).mpr (by omega)) h25
  | succ r ih =>
    intro i s hi hinv
    refine wp_iload 21 d_Doubts_findBestPair_19 rfl rfl ?_
    refine wp_aload_n 22 d_Doubts_findBestPair_21 rfl rfl ?_
    refine wp_getfield 25 8 8 d_Doubts_findBestPair_22 rfl fl_Doubts_125 rfl rfl ?_
    refine wp_icmp_ge 80 28 d_Doubts_findBestPair_25 rfl (by decide) (fun h25 => ?_) (fun h25 => ?_)
    · exact absurd (nI_leN h25 (by omega) (by omega)) (by omega)
    · refine wp_aload_n 29 d_Doubts_findBestPair_28 rfl rfl ?_
      refine wp_getfield 32 3 0 d_Doubts_findBestPair_29 rfl fl_Doubts_12 rfl rfl ?_
      refine wp_iload_n 33 d_Doubts_findBestPair_32 rfl rfl ?_
      refine wp_iload 35 d_Doubts_findBestPair_33 rfl rfl ?_
      refine ws_V2 (b' := 0) 38 M_Chart_sameParts 1 [1, 2, 3, 4, 5, 6, 7, 8] ((hC _ _ _ _ _ _ _ _ _)) d_Doubts_findBestPair_35 rfl mv_Chart_sameParts lk_Doubts_128 rfl rfl rfl rfl rfl rfl rfl (eV_int _ _) (eV_int _ _) rfl ?_
      refine c_Chart_sameParts (vp_in_nI (by omega) (by omega)) (vp_in_nI (by omega) (by omega)) ?_
      rw [nI_clamp (by omega), nI_clamp (by omega)]
      refine sIr rfl rfl ?_
      (first | refine wp_ifP_eq 51 41 d_Doubts_findBestPair_38 rfl (by decide) (fun h38 => ?_) (fun h38 => ?_) | refine wp_if_eq 51 41 d_Doubts_findBestPair_38 rfl (by decide) (fun h38 => ?_) (fun h38 => ?_))
      · refine wp_iload_n 52 d_Doubts_findBestPair_51 rfl rfl ?_
        refine wp_istore_5 54 d_Doubts_findBestPair_52 rfl rfl rfl ?_
        refine wp_iload 56 d_Doubts_findBestPair_54 rfl rfl ?_
        refine wp_iload_n 57 d_Doubts_findBestPair_56 rfl rfl ?_
        refine wp_icmp_ge 74 60 d_Doubts_findBestPair_57 rfl (by decide) (fun h57 => ?_) (fun h57 => ?_)
        · first | refine wp_iincN_4 77 d_Doubts_findBestPair_74 rfl rfl rfl ?_ | refine wp_iinc_4 77 1 d_Doubts_findBestPair_74 rfl (by decide) rfl rfl ?_
          refine wp_goto 19 d_Doubts_findBestPair_77 (by decide) ?_
          refine wp_fgt (ls' := [some (.ref 0), some (.ref 14), some (.int _), some (.int (nI a)), some (.int (nI (i + 1))), none]) ⟨rfl, rfl, rfl, rfl, rfl, trivial⟩ ?_
          have e : bpG usp cpo nWy a i s = s := if_neg h38
          have h9 := ih (i + 1) (bpG usp cpo nWy a i s) (by omega) ⟨by omega, hinv.2⟩
          rw [e] at h9
          exact h9
        · exact absurd (Int32.le_refl _) h57
      · refine wp_aload_n 42 d_Doubts_findBestPair_41 rfl rfl ?_
        refine wp_iload_n 43 d_Doubts_findBestPair_42 rfl rfl ?_
        refine wp_iload 45 d_Doubts_findBestPair_43 rfl rfl ?_
        refine ws_V2 (b' := 0) 48 M_Doubts_mostAlike 2 [0, 1, 2, 3, 4, 5, 6, 7, 8, 9, 10, 11, 12, 13] ((hU _ _ _ _ _ _ _ _ _ _ _ _ _ _ _ _ _ _ _ _ _ _)) d_Doubts_findBestPair_45 rfl mv_Doubts_mostAlike lk_Doubts_131 rfl rfl rfl rfl rfl rfl rfl (eV_int _ _) (eV_int _ _) rfl ?_
        refine c_Doubts_mostAlike hN (by omega) (by omega) ?_
        refine sI ?_
        simp only [putH, rC, sg, eV, List.map_cons, List.map_nil, List.set_cons_zero, List.set_cons_succ, List.length_cons, List.length_nil, List.getD_cons_zero, List.getD_cons_succ, Nat.zero_add, Nat.reduceAdd, Nat.reduceLT, if_true, ite_true]
        refine wp_goto 52 d_Doubts_findBestPair_48 (by decide) ?_
        refine wp_istore_5 54 d_Doubts_findBestPair_52 rfl rfl rfl ?_
        refine wp_iload 56 d_Doubts_findBestPair_54 rfl rfl ?_
        refine wp_iload_n 57 d_Doubts_findBestPair_56 rfl rfl ?_
        refine wp_icmp_ge 74 60 d_Doubts_findBestPair_57 rfl (by decide) (fun h57 => ?_) (fun h57 => ?_)
        · first | refine wp_iincN_4 77 d_Doubts_findBestPair_74 rfl rfl rfl ?_ | refine wp_iinc_4 77 1 d_Doubts_findBestPair_74 rfl (by decide) rfl rfl ?_
          refine wp_goto 19 d_Doubts_findBestPair_77 (by decide) ?_
          refine wp_fgt (ls' := [some (.ref 0), some (.ref 14), some (.int _), some (.int (nI a)), some (.int (nI (i + 1))), none]) ⟨rfl, rfl, rfl, rfl, rfl, trivial⟩ ?_
          have e : bpG usp cpo nWy a i s = _ := (if_pos h38).trans (if_neg (Int32.not_lt.mpr h57))
          have h9 := ih (i + 1) (bpG usp cpo nWy a i s) (by omega) ⟨by omega, hinv.2⟩
          rw [e] at h9
          exact h9
        · refine wp_iload 62 d_Doubts_findBestPair_60 rfl rfl ?_
          refine wp_istore_2 63 d_Doubts_findBestPair_62 rfl rfl rfl ?_
          refine wp_aload_n 64 d_Doubts_findBestPair_63 rfl rfl ?_
          refine wp_iload_n 65 d_Doubts_findBestPair_64 rfl rfl ?_
          refine wp_putfield 68 3 12 _ d_Doubts_findBestPair_65 rfl fp_Doubts_53 rfl rfl (okP_int _) ?_
          dsimp only [List.set]
          refine wp_aload_n 69 d_Doubts_findBestPair_68 rfl rfl ?_
          refine wp_iload 71 d_Doubts_findBestPair_69 rfl rfl ?_
          refine wp_putfield 74 3 13 _ d_Doubts_findBestPair_71 rfl fp_Doubts_56 rfl rfl (okP_int _) ?_
          dsimp only [List.set]
          first | refine wp_iincN_4 77 d_Doubts_findBestPair_74 rfl rfl rfl ?_ | refine wp_iinc_4 77 1 d_Doubts_findBestPair_74 rfl (by decide) rfl rfl ?_
          refine wp_goto 19 d_Doubts_findBestPair_77 (by decide) ?_
          refine wp_fgt (ls' := [some (.ref 0), some (.ref 14), some (.int _), some (.int (nI a)), some (.int (nI (i + 1))), none]) ⟨rfl, rfl, rfl, rfl, rfl, trivial⟩ ?_
          have e : bpG usp cpo nWy a i s = _ := (if_pos h38).trans (if_pos (Int32.not_le.mp h57))
          have h9 := ih (i + 1) (bpG usp cpo nWy a i s) (by omega) ⟨by omega, hinv.2⟩
          rw [e] at h9
          exact h9

set_option maxRecDepth 100000 in
set_option maxHeartbeats 4000000 in
theorem l_Doubts_findBestPair_6 {cea cno cx cy cpo cla cba usp uow utw fa te fr to_ ea no : Nat → Int32} {cly cpt uos uon uot uof utf wa le od sk sd go : Int32} {pn wn : Nat → Int64} {nP nWy : Nat} (hP : nP ≤ 7) (hN : nWy ≤ 576) : ∀ (r i : Nat) (s : BPr), i + r = nP → Q (some (.int (bP ((iterN (bpI usp cpo nWy nP) r i s).1 ≤ 576)))) (hUT cea cno cx cy cpo cla cba cly cpt usp ((iterN (bpI usp cpo nWy nP) r i s).2.2.2.2) ((iterN (bpI usp cpo nWy nP) r i s).2.2.2.1) uow utw uos uon uot (nI nWy) uof utf ((iterN (bpI usp cpo nWy nP) r i s).2.1) ((iterN (bpI usp cpo nWy nP) r i s).2.2.1) pn wn fa te fr to_ ea no (nI nP) wa le od sk sd go) → WP Γ M_Doubts_findBestPair 3 0 0 (hUT cea cno cx cy cpo cla cba cly cpt usp (s.2.2.2.2) (s.2.2.2.1) uow utw uos uon uot (nI nWy) uof utf (s.2.1) (s.2.2.1) pn wn fa te fr to_ ea no (nI nP) wa le od sk sd go) 6 [some (.ref 0), some (.ref 14), some (.int s.1), some (.int (nI i)), none, none] [] Q := by
  intro r
  induction r with
  | zero =>
    intro i s hi hinv
    refine wp_iload_n 7 d_Doubts_findBestPair_6 rfl rfl ?_
    refine wp_aload_n 8 d_Doubts_findBestPair_7 rfl rfl ?_
    refine wp_getfield 11 8 8 d_Doubts_findBestPair_8 rfl fl_Doubts_125 rfl rfl ?_
    refine wp_icmp_ge 86 14 d_Doubts_findBestPair_11 rfl (by decide) (fun h11 => ?_) (fun h11 => ?_)
    · refine wp_iload_n 87 d_Doubts_findBestPair_86 rfl rfl ?_
      refine wp_sipush 90 576 d_Doubts_findBestPair_87 rfl (by decide) ?_
      refine wp_icmp_gt 97 93 d_Doubts_findBestPair_90 rfl (by decide) (fun h90 => ?_) (fun h90 => ?_)
      · refine wp_iconst 98 0 d_Doubts_findBestPair_97 rfl (by decide) ?_
        refine wp_zreturn d_Doubts_findBestPair_98 rfl (by first | rfl | exact nbP _) ?_
        exact bq0 (Int32.not_le.mpr h90) hinv
      · refine wp_iconst 94 1 d_Doubts_findBestPair_93 rfl (by decide) ?_
        refine wp_goto 98 d_Doubts_findBestPair_94 (by decide) ?_
        refine wp_zreturn d_Doubts_findBestPair_98 rfl (by first | rfl | exact nbP _) ?_
        exact bq1 (Int32.not_lt.mp h90) hinv
    · exact absurd ((nI_leI (by omega) (by omega)).mpr (by omega)) h11
  | succ r ih =>
    intro i s hi hinv
    refine wp_iload_n 7 d_Doubts_findBestPair_6 rfl rfl ?_
    refine wp_aload_n 8 d_Doubts_findBestPair_7 rfl rfl ?_
    refine wp_getfield 11 8 8 d_Doubts_findBestPair_8 rfl fl_Doubts_125 rfl rfl ?_
    refine wp_icmp_ge 86 14 d_Doubts_findBestPair_11 rfl (by decide) (fun h11 => ?_) (fun h11 => ?_)
    · exact absurd (nI_leN h11 (by omega) (by omega)) (by omega)
    · refine wp_iload_n 15 d_Doubts_findBestPair_14 rfl rfl ?_
      refine wp_iconst 16 1 d_Doubts_findBestPair_15 rfl (by decide) ?_
      refine wp_iadd 17 d_Doubts_findBestPair_16 rfl ?_
      rw [nI_1]
      refine wp_istore_4 19 d_Doubts_findBestPair_17 rfl rfl rfl ?_
      refine l_Doubts_findBestPair_19 (a := i) (QW := fun s => Q (some (.int (bP ((iterN (bpI usp cpo nWy nP) r (i + 1) s).1 ≤ 576)))) (hUT cea cno cx cy cpo cla cba cly cpt usp ((iterN (bpI usp cpo nWy nP) r (i + 1) s).2.2.2.2) ((iterN (bpI usp cpo nWy nP) r (i + 1) s).2.2.2.1) uow utw uos uon uot (nI nWy) uof utf ((iterN (bpI usp cpo nWy nP) r (i + 1) s).2.1) ((iterN (bpI usp cpo nWy nP) r (i + 1) s).2.2.1) pn wn fa te fr to_ ea no (nI nP) wa le od sk sd go)) hP hN (by omega) (fun s hW => ?_) (nP - (i + 1)) (i + 1) s (by omega) ⟨by omega, hinv⟩
      first | refine wp_iincN_3 83 d_Doubts_findBestPair_80 rfl rfl rfl ?_ | refine wp_iinc_3 83 1 d_Doubts_findBestPair_80 rfl (by decide) rfl rfl ?_
      refine wp_goto 6 d_Doubts_findBestPair_83 (by decide) ?_
      refine wp_fgt (ls' := [some (.ref 0), some (.ref 14), some (.int s.1), some (.int (nI (i + 1))), none, none]) ⟨rfl, rfl, rfl, rfl, trivial⟩ ?_
      exact ih (i + 1) s (by omega) hW

set_option maxRecDepth 100000 in
set_option maxHeartbeats 4000000 in
theorem c_Doubts_findBestPair {cea cno cx cy cpo cla cba usp uow utw fa te fr to_ ea no : Nat → Int32} {cly cpt uos uon uot uof utf wa le od sk sd go : Int32} {pn wn : Nat → Int64} {uaf uas : Int32} {uco uke : Nat → Int32} {nP nWy : Nat} (hP : nP ≤ 7) (hN : nWy ≤ 576) (hq : Q (some (.int (bP ((bpF usp cpo nWy nP (577, uaf, uas, uco, uke)).1 ≤ 576)))) (hUT cea cno cx cy cpo cla cba cly cpt usp ((bpF usp cpo nWy nP (577, uaf, uas, uco, uke)).2.2.2.2) ((bpF usp cpo nWy nP (577, uaf, uas, uco, uke)).2.2.2.1) uow utw uos uon uot (nI nWy) uof utf ((bpF usp cpo nWy nP (577, uaf, uas, uco, uke)).2.1) ((bpF usp cpo nWy nP (577, uaf, uas, uco, uke)).2.2.1) pn wn fa te fr to_ ea no (nI nP) wa le od sk sd go)) : Call Γ M_Doubts_findBestPair 3 0 0 [.ref 0, .ref 14] (hUT cea cno cx cy cpo cla cba cly cpt usp uke uco uow utw uos uon uot (nI nWy) uof utf uaf uas pn wn fa te fr to_ ea no (nI nP) wa le od sk sd go) Q := by
  refine call_intro (ls := [some (.ref 0), some (.ref 14), none, none, none, none]) rfl rfl rfl ?_
  refine wp_sipush 3 577 d_Doubts_findBestPair_0 rfl (by decide) ?_
  refine wp_istore_2 4 d_Doubts_findBestPair_3 rfl rfl rfl ?_
  refine wp_iconst 5 0 d_Doubts_findBestPair_4 rfl (by decide) ?_
  refine wp_istore_3 6 d_Doubts_findBestPair_5 rfl rfl rfl ?_
  exact l_Doubts_findBestPair_6 hP hN nP 0 (577, uaf, uas, uco, uke) (by omega) hq

end T40
