/-! ===== Doubts: out, ways kept ===== -/
theorem bit_N13 : ∀ l, l < 13 → bit (nI l) = nI (2 ^ l) := by decide +kernel
theorem pow_12 : ∀ l, l < 13 → 2 ^ l ≤ 4096 := by decide +kernel
def foG (E N : Nat → Int32) (th : Int32) (fr to_ : Nat → Int32) (nL nP : Nat) (i : Nat) (s : Int32 × Int32) : Int32 × Int32 := if nI i &&& (th ^^^ (-1)) = 0 ∧ bcR (nI i) < s.1 ∧ cloC E N (th &&& (nI i ^^^ (-1))) fr to_ nL nP then (bcR (nI i), nI i) else s
def foF (E N : Nat → Int32) (th : Int32) (fr to_ : Nat → Int32) (nL nP : Nat) : Int32 × Int32 := iterN (foG E N th fr to_ nL nP) (2 ^ nL) 0 (4, -1)
/-- one's faults, other's faults, how many ways, spots, the first way's faults -/
abbrev FS : Type := (Nat → Int32) × (Nat → Int32) × Nat × (Nat → Int32) × Int32 × Int32
def kwF (X Y : Nat → Int32) (f g : Nat) (s : FS) : FS := (upd s.1 f (s.1 f + 1), upd s.2.1 g (s.2.1 g + 1), s.2.2.1 + 1, iterN (fun p sp => upd sp (s.2.2.1 * 7 + p) (X p * 4096 + Y p)) 7 0 s.2.2.2.1, if s.2.2.1 = 0 then nI f else s.2.2.2.2.1, if s.2.2.1 = 0 then nI g else s.2.2.2.2.2)
theorem iterN_congr {σ : Type} {g g' : Nat → σ → σ} (N : Nat) (h : ∀ n s, n < N → g n s = g' n s) : ∀ (r i : Nat) (s : σ), i + r = N → iterN g r i s = iterN g' r i s
  | 0, _, _, _ => rfl
  | r + 1, i, s, hi => by simp only [iterN]; rw [h i s (by omega)]; exact iterN_congr N h r (i + 1) _ (by omega)
theorem kwF_congr {X Y X' Y' : Nat → Int32} (h : ∀ j, j < 7 → X j = X' j ∧ Y j = Y' j) (f g : Nat) (s : FS) : kwF X Y f g s = kwF X' Y' f g s := by
  unfold kwF
  rw [iterN_congr 7 (fun n t hn => by rw [(h n hn).1, (h n hn).2]) 7 0 _ rfl]
section T38
variable {Γ : Gm} {Q : Option Value → LH → Prop}
set_option maxRecDepth 100000 in
set_option maxHeartbeats 4000000 in
theorem c_Doubts_closesWithout {cea cno usp uke uco uow utw fa te fr to_ ea no : Nat → Int32} {uos uon uot uwa uof utf uaf uas wa od sk sd go : Int32} {pn wn : Nat → Int64} {cx cy cpo cla cba : Nat → Int32} {cly cpt : Int32} {E N : Nat → Int32} {nL nP : Nat} {th : Int32} (hn : nL ≤ 12) (hP : nP ≤ 7) (hfr : ∀ j, vp_in (fr j) 7) (hto : ∀ j, vp_in (to_ j) 7) (hE : ∀ j, j < nL → cea j = E j ∧ cno j = N j) (hla : ∀ j, vp_in (cla j) 12) (hq : ∀ (cx cy cpo cla cba : Nat → Int32) (cly cpt : Int32), (∀ j, vp_in (cla j) 12) → Q (some (.int (bP (cloC E N th fr to_ nL nP)))) (hUT cea cno cx cy cpo cla cba cly cpt usp uke uco uow utw uos uon uot uwa uof utf uaf uas pn wn fa te fr to_ ea no (nI nP) wa (nI nL) od sk sd go)) : Call Γ M_Doubts_closesWithout 4 0 0 [.ref 0, .ref 14, .int th] (hUT cea cno cx cy cpo cla cba cly cpt usp uke uco uow utw uos uon uot uwa uof utf uaf uas pn wn fa te fr to_ ea no (nI nP) wa (nI nL) od sk sd go) Q := by
  have hS := pOf_eq (there := th) (nL := nL) hP hfr hto cpo cla cba
  have hla2 := trI_la (there := th) (fr := fr) (to_ := to_) (nP := nP) hn nP (tr0 cpo cla cba) hla
  have hA := lay_chA (cx := cx) (cy := cy) hn hP hfr hto hS (trN_I nP (fun j hj => absurd hj (by simp [tr0]))) hE
  refine call_intro (ls := [some (.ref 0), some (.ref 14), some (.int th)]) rfl rfl rfl ?_
  refine wp_aload_n 1 d_Doubts_closesWithout_0 rfl rfl ?_
  refine wp_getfield 4 3 0 d_Doubts_closesWithout_1 rfl fl_Doubts_12 rfl rfl ?_
  refine wp_aload_n 5 d_Doubts_closesWithout_4 rfl rfl ?_
  refine wp_iload_n 6 d_Doubts_closesWithout_5 rfl rfl ?_
  refine ws_V2 (v1' := .ref 8) (b' := 0) 9 M_Chart_trace 3 [1, 2, 3, 4, 5, 6, 7, 8, 14, 15, 16, 17, 18, 19, 20, 21, 22] ((hCT _ _ _ _ _ _ _ _ _ _ _ _ _ _ _ _ _ _ _ _ _ _ _ _)) d_Doubts_closesWithout_6 rfl mv_Chart_trace lk_Doubts_82 rfl rfl rfl rfl rfl rfl rfl rfl (eV_int _ _) rfl ?_
  refine c_Chart_trace hn hP hfr hto ?_
  refine sV ?_
  simp only [putH, rC, sg, eV, List.map_cons, List.map_nil, List.set_cons_zero, List.set_cons_succ, List.length_cons, List.length_nil, List.getD_cons_zero, List.getD_cons_succ, Nat.zero_add, Nat.reduceAdd, Nat.reduceLT, if_true, ite_true]
  refine wp_aload_n 10 d_Doubts_closesWithout_9 rfl rfl ?_
  refine wp_getfield 13 3 0 d_Doubts_closesWithout_10 rfl fl_Doubts_12 rfl rfl ?_
  refine wp_aload_n 14 d_Doubts_closesWithout_13 rfl rfl ?_
  refine ws_V1 (v1' := .ref 8) (b' := 0) 17 M_Chart_lay 2 [1, 2, 3, 4, 5, 6, 7, 8, 14, 15, 16, 17, 18, 19, 20, 21, 22] ((hCT _ _ _ _ _ _ _ _ _ _ _ _ _ _ _ _ _ _ _ _ _ _ _ _)) d_Doubts_closesWithout_14 rfl mv_Chart_lay lk_Doubts_86 rfl rfl rfl rfl rfl rfl rfl rfl rfl ?_
  refine c_Chart_lay (by have := trI_sum th fr to_ nL nP nP (tr0 cpo cla cba); simp only [tr0] at this; simp only [tr0]; omega) hla2 hfr hto ?_
  refine sV ?_
  simp only [putH, rC, sg, eV, List.map_cons, List.map_nil, List.set_cons_zero, List.set_cons_succ, List.length_cons, List.length_nil, List.getD_cons_zero, List.getD_cons_succ, Nat.zero_add, Nat.reduceAdd, Nat.reduceLT, if_true, ite_true]
  refine wp_aload_n 18 d_Doubts_closesWithout_17 rfl rfl ?_
  refine wp_getfield 21 3 0 d_Doubts_closesWithout_18 rfl fl_Doubts_12 rfl rfl ?_
  refine wp_aload_n 22 d_Doubts_closesWithout_21 rfl rfl ?_
  refine wp_iload_n 23 d_Doubts_closesWithout_22 rfl rfl ?_
  refine ws_V2 (v1' := .ref 8) (b' := 0) 26 M_Chart_closes 3 [1, 2, 3, 4, 5, 6, 7, 8, 14, 15, 16, 17, 18, 19, 20, 21, 22] ((hCT _ _ _ _ _ _ _ _ _ _ _ _ _ _ _ _ _ _ _ _ _ _ _ _)) d_Doubts_closesWithout_23 rfl mv_Chart_closes lk_Doubts_89 rfl rfl rfl rfl rfl rfl rfl rfl (eV_int _ _) rfl ?_
  refine c_Chart_closesC hn hfr hto hA ?_
  refine sIr rfl rfl ?_
  refine wp_zreturn d_Doubts_closesWithout_26 rfl (by first | rfl | exact nbP _) ?_
  exact hq _ _ _ _ _ _ _ hla2

set_option maxRecDepth 100000 in
set_option maxHeartbeats 4000000 in
theorem l_Doubts_findOut_23 {cea cno usp uke uco uow utw fa te fr to_ ea no : Nat → Int32} {uon uot uwa uof utf uaf uas wa od sk sd go : Int32} {pn wn : Nat → Int64} {nL nP : Nat} {E N : Nat → Int32} (hn : nL ≤ 12) (hP : nP ≤ 7) (hfr : ∀ j, vp_in (fr j) 7) (hto : ∀ j, vp_in (to_ j) 7) (hE : ∀ j, j < nL → cea j = E j ∧ cno j = N j) {K : Nat} (hK : bit (nI nL) = nI K) (hK2 : K ≤ 4096) : ∀ (r i : Nat) (cx cy cpo cla cba : Nat → Int32) (cly cpt : Int32) (s : Int32 × Int32), i + r = K → ((∀ j, vp_in (cla j) 12) ∧ ∀ (cx cy cpo cla cba : Nat → Int32) (cly cpt : Int32), (∀ j, vp_in (cla j) 12) → Q none (hUT cea cno cx cy cpo cla cba cly cpt usp uke uco uow utw ((iterN (foG E N (lTh (nI nL) sk) fr to_ nL nP) r i s).2) uon uot uwa uof utf uaf uas pn wn fa te fr to_ ea no (nI nP) wa (nI nL) od sk sd go)) → WP Γ M_Doubts_findOut 5 0 0 (hUT cea cno cx cy cpo cla cba cly cpt usp uke uco uow utw (s.2) uon uot uwa uof utf uaf uas pn wn fa te fr to_ ea no (nI nP) wa (nI nL) od sk sd go) 23 [some (.ref 0), some (.ref 14), some (.int (lTh (nI nL) sk)), some (.int s.1), some (.int (nI i)), none] [] Q := by
  intro r
  induction r with
  | zero =>
    intro i cx cy cpo cla cba cly cpt s hi hinv
    refine wp_iload 25 d_Doubts_findOut_23 rfl rfl ?_
    refine wp_iconst 26 1 d_Doubts_findOut_25 rfl (by decide) ?_
    refine wp_aload_n 27 d_Doubts_findOut_26 rfl rfl ?_
    refine wp_getfield 30 8 10 d_Doubts_findOut_27 rfl fl_Doubts_69 rfl rfl ?_
    refine wp_ishl 31 d_Doubts_findOut_30 rfl ?_
    rw [show (1 : Int32) <<< (nI nL &&& 31) = nI K from hK]
    refine wp_icmp_ge 85 34 d_Doubts_findOut_31 rfl (by decide) (fun h31 => ?_) (fun h31 => ?_)
    · refine wp_return d_Doubts_findOut_85 rfl ?_
      exact hinv.2 _ _ _ _ _ _ _ hinv.1
    · exact absurd ((nI_leI (by omega) (by omega)).mpr (by omega)) h31
  | succ r ih =>
    intro i cx cy cpo cla cba cly cpt s hi hinv
    refine wp_iload 25 d_Doubts_findOut_23 rfl rfl ?_
    refine wp_iconst 26 1 d_Doubts_findOut_25 rfl (by decide) ?_
    refine wp_aload_n 27 d_Doubts_findOut_26 rfl rfl ?_
    refine wp_getfield 30 8 10 d_Doubts_findOut_27 rfl fl_Doubts_69 rfl rfl ?_
    refine wp_ishl 31 d_Doubts_findOut_30 rfl ?_
    rw [show (1 : Int32) <<< (nI nL &&& 31) = nI K from hK]
    refine wp_icmp_ge 85 34 d_Doubts_findOut_31 rfl (by decide) (fun h31 => ?_) (fun h31 => ?_)
    · exact absurd (nI_leN h31 (by omega) (by omega)) (by omega)
    · obtain ⟨hla, hQ⟩ := hinv
      refine wp_iload 36 d_Doubts_findOut_34 rfl rfl ?_
      refine wp_S1 39 M_JInt_bitCount 1 d_Doubts_findOut_36 rfl ms_JInt_bitCount lk_Doubts_72 rfl rfl ?_
      refine c_JInt_bitCount ?_
      refine kI ?_
      refine wp_istore_5 41 d_Doubts_findOut_39 rfl rfl rfl ?_
      refine wp_iload 43 d_Doubts_findOut_41 rfl rfl ?_
      refine wp_iload_n 44 d_Doubts_findOut_43 rfl rfl ?_
      refine wp_iconst 45 (-1) d_Doubts_findOut_44 rfl (by decide) ?_
      refine wp_ixor 46 d_Doubts_findOut_45 rfl ?_
      refine wp_iand 47 d_Doubts_findOut_46 rfl ?_
      refine wp_if_ne 79 50 d_Doubts_findOut_47 rfl (by decide) (fun h47 => ?_) (fun h47 => ?_)
      · first | refine wp_iincN_4 82 d_Doubts_findOut_79 rfl rfl rfl ?_ | refine wp_iinc_4 82 1 d_Doubts_findOut_79 rfl (by decide) rfl rfl ?_
        refine wp_goto 23 d_Doubts_findOut_82 (by decide) ?_
        refine wp_fgt (ls' := [some (.ref 0), some (.ref 14), some (.int (lTh (nI nL) sk)), some (.int _), some (.int (nI (i + 1))), none]) ⟨rfl, rfl, rfl, rfl, rfl, trivial⟩ ?_
        have e : foG E N (lTh (nI nL) sk) fr to_ nL nP i s = s := if_neg (fun z => h47 z.1)
        simp only [iterN, e] at hQ
        exact ih (i + 1) _ _ _ _ _ _ _ s (by omega) ⟨hla, hQ⟩
      · refine wp_iload 52 d_Doubts_findOut_50 rfl rfl ?_
        refine wp_iload_n 53 d_Doubts_findOut_52 rfl rfl ?_
        refine wp_icmp_ge 79 56 d_Doubts_findOut_53 rfl (by decide) (fun h53 => ?_) (fun h53 => ?_)
        · first | refine wp_iincN_4 82 d_Doubts_findOut_79 rfl rfl rfl ?_ | refine wp_iinc_4 82 1 d_Doubts_findOut_79 rfl (by decide) rfl rfl ?_
          refine wp_goto 23 d_Doubts_findOut_82 (by decide) ?_
          refine wp_fgt (ls' := [some (.ref 0), some (.ref 14), some (.int (lTh (nI nL) sk)), some (.int _), some (.int (nI (i + 1))), none]) ⟨rfl, rfl, rfl, rfl, rfl, trivial⟩ ?_
          have e : foG E N (lTh (nI nL) sk) fr to_ nL nP i s = s := if_neg (fun z => absurd h53 (Int32.not_le.mpr z.2.1))
          simp only [iterN, e] at hQ
          exact ih (i + 1) _ _ _ _ _ _ _ s (by omega) ⟨hla, hQ⟩
        · refine wp_aload_n 57 d_Doubts_findOut_56 rfl rfl ?_
          refine wp_aload_n 58 d_Doubts_findOut_57 rfl rfl ?_
          refine wp_iload_n 59 d_Doubts_findOut_58 rfl rfl ?_
          refine wp_iload 61 d_Doubts_findOut_59 rfl rfl ?_
          refine wp_iconst 62 (-1) d_Doubts_findOut_61 rfl (by decide) ?_
          refine wp_ixor 63 d_Doubts_findOut_62 rfl ?_
          refine wp_iand 64 d_Doubts_findOut_63 rfl ?_
          refine wp_V2 67 M_Doubts_closesWithout 4 d_Doubts_findOut_64 rfl mv_Doubts_closesWithout lk_Doubts_78 rfl rfl rfl rfl rfl ?_
          refine c_Doubts_closesWithout hn hP hfr hto hE hla (fun cx cy cpo cla cba cly cpt hla => ?_)
          refine kI ?_
          (first | refine wp_ifP_eq 79 70 d_Doubts_findOut_67 rfl (by decide) (fun h67 => ?_) (fun h67 => ?_) | refine wp_if_eq 79 70 d_Doubts_findOut_67 rfl (by decide) (fun h67 => ?_) (fun h67 => ?_))
          · first | refine wp_iincN_4 82 d_Doubts_findOut_79 rfl rfl rfl ?_ | refine wp_iinc_4 82 1 d_Doubts_findOut_79 rfl (by decide) rfl rfl ?_
            refine wp_goto 23 d_Doubts_findOut_82 (by decide) ?_
            refine wp_fgt (ls' := [some (.ref 0), some (.ref 14), some (.int (lTh (nI nL) sk)), some (.int _), some (.int (nI (i + 1))), none]) ⟨rfl, rfl, rfl, rfl, rfl, trivial⟩ ?_
            have e : foG E N (lTh (nI nL) sk) fr to_ nL nP i s = s := if_neg (fun z => h67 z.2.2)
            simp only [iterN, e] at hQ
            exact ih (i + 1) _ _ _ _ _ _ _ s (by omega) ⟨hla, hQ⟩
          · refine wp_iload 72 d_Doubts_findOut_70 rfl rfl ?_
            refine wp_istore_3 73 d_Doubts_findOut_72 rfl rfl rfl ?_
            refine wp_aload_n 74 d_Doubts_findOut_73 rfl rfl ?_
            refine wp_iload 76 d_Doubts_findOut_74 rfl rfl ?_
            refine wp_putfield 79 3 6 _ d_Doubts_findOut_76 rfl fp_Doubts_34 rfl rfl (okP_int _) ?_
            dsimp only [List.set]
            first | refine wp_iincN_4 82 d_Doubts_findOut_79 rfl rfl rfl ?_ | refine wp_iinc_4 82 1 d_Doubts_findOut_79 rfl (by decide) rfl rfl ?_
            refine wp_goto 23 d_Doubts_findOut_82 (by decide) ?_
            refine wp_fgt (ls' := [some (.ref 0), some (.ref 14), some (.int (lTh (nI nL) sk)), some (.int _), some (.int (nI (i + 1))), none]) ⟨rfl, rfl, rfl, rfl, rfl, trivial⟩ ?_
            have e : foG E N (lTh (nI nL) sk) fr to_ nL nP i s = (bcR (nI i), nI i) := if_pos ⟨h47, Int32.not_le.mp h53, h67⟩
            simp only [iterN, e] at hQ
            exact ih (i + 1) _ _ _ _ _ _ _ (bcR (nI i), nI i) (by omega) ⟨hla, hQ⟩

set_option maxRecDepth 100000 in
set_option maxHeartbeats 4000000 in
theorem c_Doubts_findOut {usp uke uco uow utw fa te fr to_ ea no : Nat → Int32} {uos uon uot uwa uof utf uaf uas wa od sk sd go : Int32} {pn wn : Nat → Int64} {cea cno : Nat → Int32} {cx cy cpo cla cba : Nat → Int32} {cly cpt : Int32} {nL nP : Nat} (hn : nL ≤ 12) (hP : nP ≤ 7) (hfr : ∀ j, vp_in (fr j) 7) (hto : ∀ j, vp_in (to_ j) 7) (hte : ∀ j, vp_in (te j) 4) (hla : ∀ j, vp_in (cla j) 12) (hq : ∀ (cea cno cx cy cpo cla cba : Nat → Int32) (cly cpt : Int32), (∀ j, vp_in (cla j) 12) → Q none (hUT cea cno cx cy cpo cla cba cly cpt usp uke uco uow utw ((foF (mE ea no fa te) (mN ea no fa te) (lTh (nI nL) sk) fr to_ nL nP).2) uon uot uwa uof utf uaf uas pn wn fa te fr to_ ea no (nI nP) wa (nI nL) od sk sd go)) : Call Γ M_Doubts_findOut 5 0 0 [.ref 0, .ref 14] (hUT cea cno cx cy cpo cla cba cly cpt usp uke uco uow utw uos uon uot uwa uof utf uaf uas pn wn fa te fr to_ ea no (nI nP) wa (nI nL) od sk sd go) Q := by
  refine call_intro (ls := [some (.ref 0), some (.ref 14), none, none, none, none]) rfl rfl rfl ?_
  refine wp_aload_n 1 d_Doubts_findOut_0 rfl rfl ?_
  refine wp_getfield 4 3 0 d_Doubts_findOut_1 rfl fl_Doubts_12 rfl rfl ?_
  refine wp_aload_n 5 d_Doubts_findOut_4 rfl rfl ?_
  refine ws_V1 (v1' := .ref 8) (b' := 0) 8 M_Chart_measure 3 [1, 2, 3, 4, 5, 6, 7, 8, 14, 15, 16, 17, 18, 19, 20, 21, 22] ((hCT _ _ _ _ _ _ _ _ _ _ _ _ _ _ _ _ _ _ _ _ _ _ _ _)) d_Doubts_findOut_5 rfl mv_Chart_measure lk_Doubts_59 rfl rfl rfl rfl rfl rfl rfl rfl rfl ?_
  refine c_Chart_measure hn hte ?_
  refine sV ?_
  simp only [putH, rC, sg, eV, List.map_cons, List.map_nil, List.set_cons_zero, List.set_cons_succ, List.length_cons, List.length_nil, List.getD_cons_zero, List.getD_cons_succ, Nat.zero_add, Nat.reduceAdd, Nat.reduceLT, if_true, ite_true]
  refine wp_aload_n 9 d_Doubts_findOut_8 rfl rfl ?_
  refine ws_V0 (b' := 0) 12 M_Town_legsThere 1 [14, 15, 16, 17, 18, 19, 20, 21, 22] ((hT _ _ _ _ _ _ _ _ _ _ _ _ _ _ _)) d_Doubts_findOut_9 rfl mv_Town_legsThere lk_Doubts_63 rfl rfl rfl rfl rfl rfl rfl rfl ?_
  refine c_Town_legsThere ?_
  refine sIr rfl rfl ?_
  refine wp_istore_2 13 d_Doubts_findOut_12 rfl rfl rfl ?_
  refine wp_iconst 14 4 d_Doubts_findOut_13 rfl (by decide) ?_
  refine wp_istore_3 15 d_Doubts_findOut_14 rfl rfl rfl ?_
  refine wp_aload_n 16 d_Doubts_findOut_15 rfl rfl ?_
  refine wp_iconst 17 (-1) d_Doubts_findOut_16 rfl (by decide) ?_
  refine wp_putfield 20 3 6 _ d_Doubts_findOut_17 rfl fp_Doubts_34 rfl rfl (okP_int _) ?_
  dsimp only [List.set]
  refine wp_iconst 21 0 d_Doubts_findOut_20 rfl (by decide) ?_
  refine wp_istore_4 23 d_Doubts_findOut_21 rfl rfl rfl ?_
  exact l_Doubts_findOut_23 (E := mE ea no fa te) (N := mN ea no fa te) hn hP hfr hto (fun j hj => by simp [hj]) (bit_N13 nL (by omega)) (pow_12 nL (by omega)) (2 ^ nL) 0 _ _ _ _ _ _ _ (4, -1) (by omega) ⟨hla, fun cx cy cpo cla cba cly cpt hla => hq _ _ _ _ _ _ _ _ _ hla⟩

set_option maxRecDepth 100000 in
set_option maxHeartbeats 4000000 in
theorem l_Doubts_keepWay_50 {cea cno cx cy cpo cla cba uke uco uow utw : Nat → Int32} {cly cpt uos uon uot uof utf uaf uas : Int32} {w : Nat} {f g : Int32} (hw : w < 576) : ∀ (r i : Nat) (usp : Nat → Int32), i + r = 7 → Q none (hU cea cno cx cy cpo cla cba cly cpt (iterN (fun p sp => upd sp (w * 7 + p) (cx p * 4096 + cy p)) r i usp) uke uco uow utw uos uon uot (nI (w + 1)) uof utf uaf uas) → WP Γ M_Doubts_keepWay 1 0 0 (hU cea cno cx cy cpo cla cba cly cpt (usp) uke uco uow utw uos uon uot (nI w) uof utf uaf uas) 50 [some (.ref 0), some (.int f), some (.int g), some (.int (nI i))] [] Q := by
  intro r
  induction r with
  | zero =>
    intro i usp hi hinv
    refine wp_iload_n 51 d_Doubts_keepWay_50 rfl rfl ?_
    refine wp_bipush 53 7 d_Doubts_keepWay_51 rfl (by decide) ?_
    refine wp_icmp_ge 99 56 d_Doubts_keepWay_53 rfl (by decide) (fun h53 => ?_) (fun h53 => ?_)
    · refine wp_aload_n 100 d_Doubts_keepWay_99 rfl rfl ?_
      refine wp_dup 101 d_Doubts_keepWay_100 rfl rfl ?_
      refine wp_getfield 104 3 9 d_Doubts_keepWay_101 rfl fl_Doubts_44 rfl rfl ?_
      refine wp_iconst 105 1 d_Doubts_keepWay_104 rfl (by decide) ?_
      refine wp_iadd 106 d_Doubts_keepWay_105 rfl ?_
      refine wp_putfield 109 3 9 _ d_Doubts_keepWay_106 rfl fp_Doubts_44 rfl rfl (okP_int _) ?_
      dsimp only [List.set]
      refine wp_return d_Doubts_keepWay_109 rfl ?_
      rw [nI_1]
      exact hinv
    · exact absurd (show nI 7 ≤ nI i from (nI_leI (by omega) (by omega)).mpr (by omega)) h53
  | succ r ih =>
    intro i usp hi hinv
    refine wp_iload_n 51 d_Doubts_keepWay_50 rfl rfl ?_
    refine wp_bipush 53 7 d_Doubts_keepWay_51 rfl (by decide) ?_
    refine wp_icmp_ge 99 56 d_Doubts_keepWay_53 rfl (by decide) (fun h53 => ?_) (fun h53 => ?_)
    · exact absurd (nI_leN (b := 7) h53 (by omega) (by omega)) (by omega)
    · refine wp_aload_n 57 d_Doubts_keepWay_56 rfl rfl ?_
      refine wp_getfield 60 3 1 d_Doubts_keepWay_57 rfl fl_Doubts_18 rfl rfl ?_
      refine wp_aload_n 61 d_Doubts_keepWay_60 rfl rfl ?_
      refine wp_getfield 64 3 9 d_Doubts_keepWay_61 rfl fl_Doubts_44 rfl rfl ?_
      refine wp_bipush 66 7 d_Doubts_keepWay_64 rfl (by decide) ?_
      refine wp_imul 67 d_Doubts_keepWay_66 rfl ?_
      refine wp_iload_n 68 d_Doubts_keepWay_67 rfl rfl ?_
      refine wp_iadd 69 d_Doubts_keepWay_68 rfl ?_
      rw [ix7N]
      refine wp_aload_n 70 d_Doubts_keepWay_69 rfl rfl ?_
      refine wp_getfield 73 3 0 d_Doubts_keepWay_70 rfl fl_Doubts_12 rfl rfl ?_
      refine wp_getfield 76 0 2 d_Doubts_keepWay_73 rfl fl_Doubts_119 rfl rfl ?_
      refine wp_iload_n 77 d_Doubts_keepWay_76 rfl rfl ?_
      refine wp_ialoadN 78 d_Doubts_keepWay_77 rfl rfl rfl (by omega) ?_
      refine wp_sipush 81 4096 d_Doubts_keepWay_78 rfl (by decide) ?_
      refine wp_imul 82 d_Doubts_keepWay_81 rfl ?_
      refine wp_aload_n 83 d_Doubts_keepWay_82 rfl rfl ?_
      refine wp_getfield 86 3 0 d_Doubts_keepWay_83 rfl fl_Doubts_12 rfl rfl ?_
      refine wp_getfield 89 0 3 d_Doubts_keepWay_86 rfl fl_Doubts_122 rfl rfl ?_
      refine wp_iload_n 90 d_Doubts_keepWay_89 rfl rfl ?_
      refine wp_ialoadN 91 d_Doubts_keepWay_90 rfl rfl rfl (by omega) ?_
      refine wp_iadd 92 d_Doubts_keepWay_91 rfl ?_
      refine wp_iastoreN 93 d_Doubts_keepWay_92 rfl rfl rfl (by omega) ?_
      dsimp only [List.set]
      first | refine wp_iincN_3 96 d_Doubts_keepWay_93 rfl rfl rfl ?_ | refine wp_iinc_3 96 1 d_Doubts_keepWay_93 rfl (by decide) rfl rfl ?_
      refine wp_goto 50 d_Doubts_keepWay_96 (by decide) ?_
      exact ih (i + 1) _ (by omega) hinv

set_option maxRecDepth 100000 in
set_option maxHeartbeats 4000000 in
theorem c_Doubts_keepWay {cea cno cx cy cpo cla cba uke uco : Nat → Int32} {cly cpt uos uon uot uaf uas : Int32} {f g : Nat} {s : FS} (hf : f < 24) (hg : g < 24) (hw : s.2.2.1 < 576) (hq : Q none (hU cea cno cx cy cpo cla cba cly cpt ((kwF cx cy f g s).2.2.2.1) uke uco ((kwF cx cy f g s).1) ((kwF cx cy f g s).2.1) uos uon uot (nI (kwF cx cy f g s).2.2.1) ((kwF cx cy f g s).2.2.2.2.1) ((kwF cx cy f g s).2.2.2.2.2) uaf uas)) : Call Γ M_Doubts_keepWay 1 0 0 [.ref 0, .int (nI f), .int (nI g)] (hU cea cno cx cy cpo cla cba cly cpt (s.2.2.2.1) uke uco (s.1) (s.2.1) uos uon uot (nI s.2.2.1) (s.2.2.2.2.1) (s.2.2.2.2.2) uaf uas) Q := by
  refine call_intro (ls := [some (.ref 0), some (.int (nI f)), some (.int (nI g)), none]) rfl rfl rfl ?_
  refine wp_aload_n 1 d_Doubts_keepWay_0 rfl rfl ?_
  refine wp_getfield 4 3 9 d_Doubts_keepWay_1 rfl fl_Doubts_44 rfl rfl ?_
  refine wp_sipush 7 576 d_Doubts_keepWay_4 rfl (by decide) ?_
  refine wp_icmp_lt 11 10 d_Doubts_keepWay_7 rfl (by decide) (fun h7 => ?_) (fun h7 => ?_)
  · refine wp_aload_n 12 d_Doubts_keepWay_11 rfl rfl ?_
    refine wp_getfield 15 3 9 d_Doubts_keepWay_12 rfl fl_Doubts_44 rfl rfl ?_
    refine wp_if_ne 28 18 d_Doubts_keepWay_15 rfl (by decide) (fun h15 => ?_) (fun h15 => ?_)
    · refine wp_aload_n 29 d_Doubts_keepWay_28 rfl rfl ?_
      refine wp_getfield 32 3 4 d_Doubts_keepWay_29 rfl fl_Doubts_28 rfl rfl ?_
      refine wp_iload_n 33 d_Doubts_keepWay_32 rfl rfl ?_
      refine wp_dup2 34 d_Doubts_keepWay_33 rfl rfl rfl ?_
      refine wp_ialoadN 35 d_Doubts_keepWay_34 rfl rfl rfl hf ?_
      refine wp_iconst 36 1 d_Doubts_keepWay_35 rfl (by decide) ?_
      refine wp_iadd 37 d_Doubts_keepWay_36 rfl ?_
      refine wp_iastoreN 38 d_Doubts_keepWay_37 rfl rfl rfl hf ?_
      dsimp only [List.set]
      refine wp_aload_n 39 d_Doubts_keepWay_38 rfl rfl ?_
      refine wp_getfield 42 3 5 d_Doubts_keepWay_39 rfl fl_Doubts_31 rfl rfl ?_
      refine wp_iload_n 43 d_Doubts_keepWay_42 rfl rfl ?_
      refine wp_dup2 44 d_Doubts_keepWay_43 rfl rfl rfl ?_
      refine wp_ialoadN 45 d_Doubts_keepWay_44 rfl rfl rfl hg ?_
      refine wp_iconst 46 1 d_Doubts_keepWay_45 rfl (by decide) ?_
      refine wp_iadd 47 d_Doubts_keepWay_46 rfl ?_
      refine wp_iastoreN 48 d_Doubts_keepWay_47 rfl rfl rfl hg ?_
      dsimp only [List.set]
      refine wp_iconst 49 0 d_Doubts_keepWay_48 rfl (by decide) ?_
      refine wp_istore_3 50 d_Doubts_keepWay_49 rfl rfl rfl ?_
      refine l_Doubts_keepWay_50 hw 7 0 _ rfl ?_
      have h8 : ¬ s.2.2.1 = 0 := fun z => h15 (by rw [z]; rfl)
      simp only [kwF, if_neg h8] at hq
      exact hq
    · refine wp_aload_n 19 d_Doubts_keepWay_18 rfl rfl ?_
      refine wp_iload_n 20 d_Doubts_keepWay_19 rfl rfl ?_
      refine wp_putfield 23 3 10 _ d_Doubts_keepWay_20 rfl fp_Doubts_47 rfl rfl (okP_int _) ?_
      dsimp only [List.set]
      refine wp_aload_n 24 d_Doubts_keepWay_23 rfl rfl ?_
      refine wp_iload_n 25 d_Doubts_keepWay_24 rfl rfl ?_
      refine wp_putfield 28 3 11 _ d_Doubts_keepWay_25 rfl fp_Doubts_50 rfl rfl (okP_int _) ?_
      dsimp only [List.set]
      refine wp_aload_n 29 d_Doubts_keepWay_28 rfl rfl ?_
      refine wp_getfield 32 3 4 d_Doubts_keepWay_29 rfl fl_Doubts_28 rfl rfl ?_
      refine wp_iload_n 33 d_Doubts_keepWay_32 rfl rfl ?_
      refine wp_dup2 34 d_Doubts_keepWay_33 rfl rfl rfl ?_
      refine wp_ialoadN 35 d_Doubts_keepWay_34 rfl rfl rfl hf ?_
      refine wp_iconst 36 1 d_Doubts_keepWay_35 rfl (by decide) ?_
      refine wp_iadd 37 d_Doubts_keepWay_36 rfl ?_
      refine wp_iastoreN 38 d_Doubts_keepWay_37 rfl rfl rfl hf ?_
      dsimp only [List.set]
      refine wp_aload_n 39 d_Doubts_keepWay_38 rfl rfl ?_
      refine wp_getfield 42 3 5 d_Doubts_keepWay_39 rfl fl_Doubts_31 rfl rfl ?_
      refine wp_iload_n 43 d_Doubts_keepWay_42 rfl rfl ?_
      refine wp_dup2 44 d_Doubts_keepWay_43 rfl rfl rfl ?_
      refine wp_ialoadN 45 d_Doubts_keepWay_44 rfl rfl rfl hg ?_
      refine wp_iconst 46 1 d_Doubts_keepWay_45 rfl (by decide) ?_
      refine wp_iadd 47 d_Doubts_keepWay_46 rfl ?_
      refine wp_iastoreN 48 d_Doubts_keepWay_47 rfl rfl rfl hg ?_
      dsimp only [List.set]
      refine wp_iconst 49 0 d_Doubts_keepWay_48 rfl (by decide) ?_
      refine wp_istore_3 50 d_Doubts_keepWay_49 rfl rfl rfl ?_
      refine l_Doubts_keepWay_50 hw 7 0 _ rfl ?_
      have h8 : s.2.2.1 = 0 := by by_cases z : s.2.2.1 = 0; exact z; exact absurd h15 (nI_ne0 (by omega) (by omega))
      simp only [kwF, if_pos h8] at hq
      exact hq
  · exact absurd (show nI s.2.2.1 < nI 576 from (nI_ltI (by omega) (by omega)).mpr hw) h7

end T38
