/-! ===== the class: areas, places copied ===== -/
theorem lc_lt {x y : Int64} : lg_cmp x y < 0 ↔ x < y := by
  unfold lg_cmp
  split
  · rename_i h1
    exact ⟨fun h => absurd h (by decide), fun h => (Int64.lt_irrefl (Int64.lt_trans h h1)).elim⟩
  · split
    · rename_i h1 h2
      subst h2
      exact ⟨fun h => absurd h (by decide), fun h => (Int64.lt_irrefl h).elim⟩
    · rename_i h1 h2
      refine ⟨fun _ => ?_, fun _ => by decide⟩
      rcases Int64.lt_or_eq_of_le (Int64.not_lt.mp h1) with z | z
      · exact z
      · exact absurd z (fun z => h2 (by first | exact z | exact z.symm))
def cfI (T : TW) (yn : Nat → Int64) : Nat → Nat → Int32 → Int32
  | 0, _, w => w
  | r + 1, i, w => if yn i < 0 ∨ (nI T.nP).toInt64 ≤ yn i then 5 else cfI T yn r (i + 1) (if tLp T (yn i).toInt32.toNatClampNeg then w else 6)
def cix (yn : Nat → Int64) (i : Nat) : Nat := (yn i).toInt32.toNatClampNeg
def taG (T : TW) (yn : Nat → Int64) (n i : Nat) (s : Int64) : Int64 := s + ((tX T (cix yn i)).toInt64 * (tY T (cix yn (if i + 1 < n then i + 1 else 0))).toInt64 - (tY T (cix yn i)).toInt64 * (tX T (cix yn (if i + 1 < n then i + 1 else 0))).toInt64)
def taF (T : TW) (yn : Nat → Int64) (n : Nat) : Int64 := iterN (taG T yn n) n 0 0
theorem i64_nI {v : Int64} {n : Nat} (h0 : ¬ v < 0) (h1 : ¬ (nI n).toInt64 ≤ v) (hn : n < 2 ^ 31) : ∃ p, p < n ∧ v.toInt32 = nI p ∧ v.toInt32.toNatClampNeg = p := by
  have a0 : 0 ≤ v.toInt := by
    have := Int64.not_lt.mp h0
    rw [Int64.le_iff_toInt_le] at this
    exact this
  have a1 : v.toInt < n := by
    have := Int64.not_le.mp h1
    rw [Int64.lt_iff_toInt_lt, Int32.toInt_toInt64, nI_toInt hn] at this
    exact this
  have e1 : v.toInt32.toInt = v.toInt := by
    rw [Int64.toInt_toInt32]
    apply Int.bmod_eq_of_le <;> omega
  have e2 : v.toInt32 = nI v.toInt.toNat := Int32.toInt_inj.mp (by rw [e1, nI_toInt (by omega)]; omega)
  exact ⟨v.toInt.toNat, by omega, e2, by rw [e2]; exact nI_clamp (by omega)⟩
theorem cfI_in {T : TW} {yn : Nat → Int64} : ∀ (r i : Nat) (w : Int32), cfI T yn r i w ≠ 5 → ∀ k, i ≤ k → k < i + r → ¬ yn k < 0 ∧ ¬ (nI T.nP).toInt64 ≤ yn k
  | 0, i, w, _, k, h1, h2 => absurd h2 (by omega)
  | r + 1, i, w, h, k, h1, h2 => by
    simp only [cfI] at h
    split at h
    · exact absurd rfl h
    · rename_i hn
      by_cases e : k = i
      · subst e; exact ⟨fun z => hn (Or.inl z), fun z => hn (Or.inr z)⟩
      · exact cfI_in r (i + 1) _ h k (by omega) (by omega)
section T58
variable {Γ : Gm} {Q : Option Value → LH → Prop} {Y : Nat → YT} {X : XT} {T S : TW} {M : Nat → TW} {D E : DW} {N : Nat → DW} {C : CH} {U : UT} {W : WT} {G : GT} {L : LT} {VL : Nat → Int32} {HL ST : Int32} {nK : Nat} {TP BT : Int64}
set_option maxRecDepth 100000 in
set_option maxHeartbeats 4000000 in
theorem l_cf0 {n : Nat} (hn : n ≤ 60) (hP : T.nP ≤ 7) (hA : chT T C) : ∀ (r i : Nat) (w : Int32) (w5 : Option Value), i + r = n → Q (some (.int (cfI T (Y 0).yn r i w))) (hPM Y X T S M D E N C U W G L VL HL nK ST TP BT) → WP Γ M_PM_cornersFault 5 0 0 (hPM Y X T S M D E N C U W G L VL HL nK ST TP BT) 16 [some (.ref 0), some (.ref 77), some (.int (nI n)), some (.int w), some (.int (nI i)), w5, none] [] Q := by
  intro r
  induction r with
  | zero =>
    intro i w w5 hi hinv
    have hq := hinv
    refine wp_iload 18 d_PM_cornersFault_16 rfl rfl ?_
    refine wp_iload_n 19 d_PM_cornersFault_18 rfl rfl ?_
    refine wp_icmp_ge 76 22 d_PM_cornersFault_19 rfl (by decide) (fun h19 => ?_) (fun h19 => ?_)
    · refine wp_iload_n 77 d_PM_cornersFault_76 rfl rfl ?_
      refine wp_ireturn d_PM_cornersFault_77 rfl ?_
      exact hq
    · exact absurd ((nI_leI (a := n) (by omega) (by omega)).mpr (by omega)) h19
  | succ r ih =>
    intro i w w5 hi hinv
    have hq := hinv
    refine wp_iload 18 d_PM_cornersFault_16 rfl rfl ?_
    refine wp_iload_n 19 d_PM_cornersFault_18 rfl rfl ?_
    refine wp_icmp_ge 76 22 d_PM_cornersFault_19 rfl (by decide) (fun h19 => ?_) (fun h19 => ?_)
    · exact absurd (nI_leN (b := n) h19 (by omega) (by omega)) (by omega)
    · refine wp_aload_n 23 d_PM_cornersFault_22 rfl rfl ?_
      refine wp_getfield 26 10 0 d_PM_cornersFault_23 rfl fl_PM_136 rfl rfl ?_
      refine wp_iload 28 d_PM_cornersFault_26 rfl rfl ?_
      refine wp_laloadN 29 d_PM_cornersFault_28 rfl rfl rfl (by omega) ?_
      refine wp_lstore_5 31 d_PM_cornersFault_29 rfl rfl rfl ?_
      refine wp_lload 33 d_PM_cornersFault_31 rfl rfl ?_
      refine wp_lconst 34 0 d_PM_cornersFault_33 rfl (by decide) ?_
      refine wp_lcmp 35 d_PM_cornersFault_34 rfl ?_
      refine wp_if_lt 52 38 d_PM_cornersFault_35 rfl (by decide) (fun h35 => ?_) (fun h35 => ?_)
      · refine wp_iconst 53 5 d_PM_cornersFault_52 rfl (by decide) ?_
        refine wp_ireturn d_PM_cornersFault_53 rfl ?_
        have e : cfI T (Y 0).yn (r + 1) i w = _ := if_pos (Or.inl (lc_lt.mp h35))
        rw [e] at hq
        exact hq
      · refine wp_lload 40 d_PM_cornersFault_38 rfl rfl ?_
        refine wp_aload_n 41 d_PM_cornersFault_40 rfl rfl ?_
        refine wp_getfield 44 11 2 d_PM_cornersFault_41 rfl fl_PM_25 rfl rfl ?_
        refine wp_getfield 47 8 8 d_PM_cornersFault_44 rfl fl_PM_203 rfl rfl ?_
        refine wp_i2l 48 d_PM_cornersFault_47 rfl ?_
        refine wp_lcmp 49 d_PM_cornersFault_48 rfl ?_
        refine wp_if_lt 54 52 d_PM_cornersFault_49 rfl (by decide) (fun h49 => ?_) (fun h49 => ?_)
        · have g1 : ¬ (Y 0).yn i < 0 := fun z => h35 (lc_lt.mpr z)
          have g2 : ¬ (nI T.nP).toInt64 ≤ (Y 0).yn i := Int64.not_le.mpr (lc_lt.mp h49)
          obtain ⟨q, hq7, eq1, ep⟩ := i64_nI g1 g2 (by omega)
          refine wp_aload_n 55 d_PM_cornersFault_54 rfl rfl ?_
          refine wp_getfield 58 11 8 d_PM_cornersFault_55 rfl fl_PM_53 rfl rfl ?_
          refine wp_lload 60 d_PM_cornersFault_58 rfl rfl ?_
          refine wp_l2i 61 d_PM_cornersFault_60 rfl ?_
          rw [eq1]
          refine ws_V1 (b' := 0) 64 M_Chart_lies 2 [36, 37, 38, 39, 40, 41, 42, 43] ((hCr C)) d_PM_cornersFault_61 rfl mv_Chart_lies lk_PM_271 rfl rfl rfl rfl rfl rfl rfl (eV_int _ _) rfl ?_
          refine c_liesA hA (by omega : q < 7) ?_
          refine sIr rfl rfl ?_
          (first | refine wp_ifP_ne 70 67 d_PM_cornersFault_64 rfl (by decide) (fun h64 => ?_) (fun h64 => ?_) | refine wp_if_ne 70 67 d_PM_cornersFault_64 rfl (by decide) (fun h64 => ?_) (fun h64 => ?_))
          · first | refine wp_iincN_4 73 d_PM_cornersFault_70 rfl rfl rfl ?_ | refine wp_iinc_4 73 1 d_PM_cornersFault_70 rfl (by decide) rfl rfl ?_
            refine wp_goto 16 d_PM_cornersFault_73 (by decide) ?_
            have e : cfI T (Y 0).yn (r + 1) i w = _ := if_neg (fun z => z.elim g1 g2)
            rw [e, ep, if_pos h64] at hq
            exact ih (i + 1) _ _ (by omega) hq
          · refine wp_bipush 69 6 d_PM_cornersFault_67 rfl (by decide) ?_
            refine wp_istore_3 70 d_PM_cornersFault_69 rfl rfl rfl ?_
            first | refine wp_iincN_4 73 d_PM_cornersFault_70 rfl rfl rfl ?_ | refine wp_iinc_4 73 1 d_PM_cornersFault_70 rfl (by decide) rfl rfl ?_
            refine wp_goto 16 d_PM_cornersFault_73 (by decide) ?_
            have e : cfI T (Y 0).yn (r + 1) i w = _ := if_neg (fun z => z.elim g1 g2)
            rw [e, ep, if_neg h64] at hq
            exact ih (i + 1) _ _ (by omega) hq
        · refine wp_iconst 53 5 d_PM_cornersFault_52 rfl (by decide) ?_
          refine wp_ireturn d_PM_cornersFault_53 rfl ?_
          have e : cfI T (Y 0).yn (r + 1) i w = _ := if_pos (Or.inr (Int64.not_lt.mp (fun z => h49 (lc_lt.mpr z))))
          rw [e] at hq
          exact hq

set_option maxRecDepth 100000 in
set_option maxHeartbeats 4000000 in
theorem c_PM_cornersFault0 {n : Nat} (hn : n ≤ 60) (I : tOK T) (SO_ : SO C U W L) (hq : ∀ C2, cOK C2 → chT T C2 → Q (some (.int (cfI T (Y 0).yn n 0 0))) (hPM Y X T S M D E N (C2) U W G L VL HL nK ST TP BT)) : Call Γ M_PM_cornersFault 5 0 0 [.ref 0, .ref 77, .int (nI n)] (hPM Y X T S M D E N C U W G L VL HL nK ST TP BT) Q := by
  refine call_intro (ls := [some (.ref 0), some (.ref 77), some (.int (nI n)), none, none, none, none]) rfl rfl rfl ?_
  refine wp_aload_n 1 d_PM_cornersFault_0 rfl rfl ?_
  refine wp_getfield 4 11 8 d_PM_cornersFault_1 rfl fl_PM_53 rfl rfl ?_
  refine wp_aload_n 5 d_PM_cornersFault_4 rfl rfl ?_
  refine wp_getfield 8 11 2 d_PM_cornersFault_5 rfl fl_PM_25 rfl rfl ?_
  refine ws_V1 (v1' := .ref 8) (b' := 0) 11 M_Chart_draw 4 [36, 37, 38, 39, 40, 41, 42, 43, 8, 9, 10, 11, 12, 13, 14, 15, 16] ((hCTr C T)) d_PM_cornersFault_8 rfl mv_Chart_draw lk_PM_260 rfl rfl rfl rfl rfl rfl rfl rfl rfl ?_
  refine c_drawA I SO_.1 (fun c2 hc2 hA => ?_)
  refine sV ?_
  simp only [putH, rC, sg, eV, List.map_cons, List.map_nil, List.set_cons_zero, List.set_cons_succ, List.length_cons, List.length_nil, List.getD_cons_zero, List.getD_cons_succ, Nat.zero_add, Nat.reduceAdd, Nat.reduceLT, if_true, ite_true]
  refine hEq (hPM Y X T S M D E N (c2) U W G L VL HL nK ST TP BT) rfl ?_
  refine wp_iconst 12 0 d_PM_cornersFault_11 rfl (by decide) ?_
  refine wp_istore_3 13 d_PM_cornersFault_12 rfl rfl rfl ?_
  refine wp_iconst 14 0 d_PM_cornersFault_13 rfl (by decide) ?_
  refine wp_istore_4 16 d_PM_cornersFault_14 rfl rfl rfl ?_
  exact l_cf0 hn I.hP hA n 0 0 none (by omega) (hq c2 hc2 hA)

set_option maxRecDepth 100000 in
set_option maxHeartbeats 4000000 in
theorem l_ta0 {n : Nat} (hn : n ≤ 60) (hP : T.nP ≤ 7) (hA : chT T C) (hin : ∀ j, j < n → ¬ (Y 0).yn j < 0 ∧ ¬ (nI T.nP).toInt64 ≤ (Y 0).yn j) : ∀ (r i : Nat) (s : Int64) (w6 w7 : Option Value), i + r = n → Q (some (.long (iterN (taG T (Y 0).yn n) r i s))) (hPM Y X T S M D E N C U W G L VL HL nK ST TP BT) → WP Γ M_PM_twiceArea 1 0 0 (hPM Y X T S M D E N C U W G L VL HL nK ST TP BT) 5 [some (.ref 0), some (.ref 77), some (.int (nI n)), some (.long s), none, some (.int (nI i)), w6, w7] [] Q := by
  intro r
  induction r with
  | zero =>
    intro i s w6 w7 hi hinv
    have hq := hinv
    refine wp_iload 7 d_PM_twiceArea_5 rfl rfl ?_
    refine wp_iload_n 8 d_PM_twiceArea_7 rfl rfl ?_
    refine wp_icmp_ge 101 11 d_PM_twiceArea_8 rfl (by decide) (fun h8 => ?_) (fun h8 => ?_)
    · refine wp_lload_n 102 d_PM_twiceArea_101 rfl rfl ?_
      refine wp_lreturn d_PM_twiceArea_102 rfl ?_
      exact hq
    · exact absurd ((nI_leI (a := n) (by omega) (by omega)).mpr (by omega)) h8
  | succ r ih =>
    intro i s w6 w7 hi hinv
    have hq := hinv
    refine wp_iload 7 d_PM_twiceArea_5 rfl rfl ?_
    refine wp_iload_n 8 d_PM_twiceArea_7 rfl rfl ?_
    refine wp_icmp_ge 101 11 d_PM_twiceArea_8 rfl (by decide) (fun h8 => ?_) (fun h8 => ?_)
    · exact absurd (nI_leN (b := n) h8 (by omega) (by omega)) (by omega)
    · obtain ⟨p, hp, ep, ep2⟩ := i64_nI (hin i (by omega)).1 (hin i (by omega)).2 (by omega)
      refine wp_aload_n 12 d_PM_twiceArea_11 rfl rfl ?_
      refine wp_getfield 15 10 0 d_PM_twiceArea_12 rfl fl_PM_136 rfl rfl ?_
      refine wp_iload 17 d_PM_twiceArea_15 rfl rfl ?_
      refine wp_laloadN 18 d_PM_twiceArea_17 rfl rfl rfl (by omega) ?_
      refine wp_l2i 19 d_PM_twiceArea_18 rfl ?_
      refine wp_istore_6 21 d_PM_twiceArea_19 rfl rfl rfl ?_
      refine wp_aload_n 22 d_PM_twiceArea_21 rfl rfl ?_
      refine wp_getfield 25 10 0 d_PM_twiceArea_22 rfl fl_PM_136 rfl rfl ?_
      refine wp_iload 27 d_PM_twiceArea_25 rfl rfl ?_
      refine wp_iconst 28 1 d_PM_twiceArea_27 rfl (by decide) ?_
      refine wp_iadd 29 d_PM_twiceArea_28 rfl ?_
      refine wp_iload_n 30 d_PM_twiceArea_29 rfl rfl ?_
      refine wp_icmp_ge 40 33 d_PM_twiceArea_30 rfl (by decide) (fun h30 => ?_) (fun h30 => ?_)
      · have hni : ¬ i + 1 < n := Nat.not_lt.mpr (nI_leN (b := n) (a := i + 1) (by rw [← nI_1]; exact h30) (by omega) (by omega))
        obtain ⟨q, hq7, eq1, eq2⟩ := i64_nI (hin 0 (by omega)).1 (hin 0 (by omega)).2 (by omega)
        refine wp_iconst 41 0 d_PM_twiceArea_40 rfl (by decide) ?_
        rw [show (0 : Int32) = nI 0 from rfl]
        refine wp_laloadN 42 d_PM_twiceArea_41 rfl rfl rfl (by omega) ?_
        refine wp_l2i 43 d_PM_twiceArea_42 rfl ?_
        refine wp_istore_7 45 d_PM_twiceArea_43 rfl rfl rfl ?_
        refine wp_lload_n 46 d_PM_twiceArea_45 rfl rfl ?_
        refine wp_aload_n 47 d_PM_twiceArea_46 rfl rfl ?_
        refine wp_getfield 50 11 8 d_PM_twiceArea_47 rfl fl_PM_53 rfl rfl ?_
        refine wp_getfield 53 0 2 d_PM_twiceArea_50 rfl fl_PM_274 rfl rfl ?_
        refine wp_iload 55 d_PM_twiceArea_53 rfl rfl ?_
        refine wp_iaload 56 d_PM_twiceArea_55 rfl rfl (by first | (rw [ep]; exact vp_in_nI (by omega) (by omega)) | (rw [eq1]; exact vp_in_nI (by omega) (by omega))) ?_
        refine wp_i2l 57 d_PM_twiceArea_56 rfl ?_
        refine wp_aload_n 58 d_PM_twiceArea_57 rfl rfl ?_
        refine wp_getfield 61 11 8 d_PM_twiceArea_58 rfl fl_PM_53 rfl rfl ?_
        refine wp_getfield 64 0 3 d_PM_twiceArea_61 rfl fl_PM_277 rfl rfl ?_
        refine wp_iload 66 d_PM_twiceArea_64 rfl rfl ?_
        refine wp_iaload 67 d_PM_twiceArea_66 rfl rfl (by first | (rw [ep]; exact vp_in_nI (by omega) (by omega)) | (rw [eq1]; exact vp_in_nI (by omega) (by omega))) ?_
        refine wp_i2l 68 d_PM_twiceArea_67 rfl ?_
        refine wp_lmul 69 d_PM_twiceArea_68 rfl ?_
        refine wp_aload_n 70 d_PM_twiceArea_69 rfl rfl ?_
        refine wp_getfield 73 11 8 d_PM_twiceArea_70 rfl fl_PM_53 rfl rfl ?_
        refine wp_getfield 76 0 3 d_PM_twiceArea_73 rfl fl_PM_277 rfl rfl ?_
        refine wp_iload 78 d_PM_twiceArea_76 rfl rfl ?_
        refine wp_iaload 79 d_PM_twiceArea_78 rfl rfl (by first | (rw [ep]; exact vp_in_nI (by omega) (by omega)) | (rw [eq1]; exact vp_in_nI (by omega) (by omega))) ?_
        refine wp_i2l 80 d_PM_twiceArea_79 rfl ?_
        refine wp_aload_n 81 d_PM_twiceArea_80 rfl rfl ?_
        refine wp_getfield 84 11 8 d_PM_twiceArea_81 rfl fl_PM_53 rfl rfl ?_
        refine wp_getfield 87 0 2 d_PM_twiceArea_84 rfl fl_PM_274 rfl rfl ?_
        refine wp_iload 89 d_PM_twiceArea_87 rfl rfl ?_
        refine wp_iaload 90 d_PM_twiceArea_89 rfl rfl (by first | (rw [ep]; exact vp_in_nI (by omega) (by omega)) | (rw [eq1]; exact vp_in_nI (by omega) (by omega))) ?_
        refine wp_i2l 91 d_PM_twiceArea_90 rfl ?_
        refine wp_lmul 92 d_PM_twiceArea_91 rfl ?_
        refine wp_lsub 93 d_PM_twiceArea_92 rfl ?_
        refine wp_ladd 94 d_PM_twiceArea_93 rfl ?_
        refine wp_lstore_3 95 d_PM_twiceArea_94 rfl rfl rfl ?_
        first | refine wp_iincN_5 98 d_PM_twiceArea_95 rfl rfl rfl ?_ | refine wp_iinc_5 98 1 d_PM_twiceArea_95 rfl (by decide) rfl rfl ?_
        refine wp_goto 5 d_PM_twiceArea_98 (by decide) ?_
        have e : taG T (Y 0).yn n i s = s + ((tX T p).toInt64 * (tY T q).toInt64 - (tY T p).toInt64 * (tX T q).toInt64) := by
          unfold taG cix
          rw [if_neg hni, ep2, eq2]
        rw [show iterN (taG T (Y 0).yn n) (r + 1) i s = iterN (taG T (Y 0).yn n) r (i + 1) (taG T (Y 0).yn n i s) from rfl, e] at hq
        rw [ep, eq1, nI_clamp (by omega : p < 2 ^ 31), nI_clamp (by omega : q < 2 ^ 31), (hA.1.2.2 p (by omega)).1, (hA.1.2.2 p (by omega)).2, (hA.1.2.2 q (by omega)).1, (hA.1.2.2 q (by omega)).2]
        exact ih (i + 1) _ _ _ (by omega) hq
      · have hni : i + 1 < n := nI_ltN (a := i + 1) (by rw [← nI_1]; exact Int32.not_le.mp h30) (by omega) (by omega)
        obtain ⟨q, hq7, eq1, eq2⟩ := i64_nI (hin (i + 1) (by omega)).1 (hin (i + 1) (by omega)).2 (by omega)
        refine wp_iload 35 d_PM_twiceArea_33 rfl rfl ?_
        refine wp_iconst 36 1 d_PM_twiceArea_35 rfl (by decide) ?_
        refine wp_iadd 37 d_PM_twiceArea_36 rfl ?_
        rw [nI_1]
        refine wp_goto 41 d_PM_twiceArea_37 (by decide) ?_
        refine wp_laloadN 42 d_PM_twiceArea_41 rfl rfl rfl (by omega) ?_
        refine wp_l2i 43 d_PM_twiceArea_42 rfl ?_
        refine wp_istore_7 45 d_PM_twiceArea_43 rfl rfl rfl ?_
        refine wp_lload_n 46 d_PM_twiceArea_45 rfl rfl ?_
        refine wp_aload_n 47 d_PM_twiceArea_46 rfl rfl ?_
        refine wp_getfield 50 11 8 d_PM_twiceArea_47 rfl fl_PM_53 rfl rfl ?_
        refine wp_getfield 53 0 2 d_PM_twiceArea_50 rfl fl_PM_274 rfl rfl ?_
        refine wp_iload 55 d_PM_twiceArea_53 rfl rfl ?_
        refine wp_iaload 56 d_PM_twiceArea_55 rfl rfl (by first | (rw [ep]; exact vp_in_nI (by omega) (by omega)) | (rw [eq1]; exact vp_in_nI (by omega) (by omega))) ?_
        refine wp_i2l 57 d_PM_twiceArea_56 rfl ?_
        refine wp_aload_n 58 d_PM_twiceArea_57 rfl rfl ?_
        refine wp_getfield 61 11 8 d_PM_twiceArea_58 rfl fl_PM_53 rfl rfl ?_
        refine wp_getfield 64 0 3 d_PM_twiceArea_61 rfl fl_PM_277 rfl rfl ?_
        refine wp_iload 66 d_PM_twiceArea_64 rfl rfl ?_
        refine wp_iaload 67 d_PM_twiceArea_66 rfl rfl (by first | (rw [ep]; exact vp_in_nI (by omega) (by omega)) | (rw [eq1]; exact vp_in_nI (by omega) (by omega))) ?_
        refine wp_i2l 68 d_PM_twiceArea_67 rfl ?_
        refine wp_lmul 69 d_PM_twiceArea_68 rfl ?_
        refine wp_aload_n 70 d_PM_twiceArea_69 rfl rfl ?_
        refine wp_getfield 73 11 8 d_PM_twiceArea_70 rfl fl_PM_53 rfl rfl ?_
        refine wp_getfield 76 0 3 d_PM_twiceArea_73 rfl fl_PM_277 rfl rfl ?_
        refine wp_iload 78 d_PM_twiceArea_76 rfl rfl ?_
        refine wp_iaload 79 d_PM_twiceArea_78 rfl rfl (by first | (rw [ep]; exact vp_in_nI (by omega) (by omega)) | (rw [eq1]; exact vp_in_nI (by omega) (by omega))) ?_
        refine wp_i2l 80 d_PM_twiceArea_79 rfl ?_
        refine wp_aload_n 81 d_PM_twiceArea_80 rfl rfl ?_
        refine wp_getfield 84 11 8 d_PM_twiceArea_81 rfl fl_PM_53 rfl rfl ?_
        refine wp_getfield 87 0 2 d_PM_twiceArea_84 rfl fl_PM_274 rfl rfl ?_
        refine wp_iload 89 d_PM_twiceArea_87 rfl rfl ?_
        refine wp_iaload 90 d_PM_twiceArea_89 rfl rfl (by first | (rw [ep]; exact vp_in_nI (by omega) (by omega)) | (rw [eq1]; exact vp_in_nI (by omega) (by omega))) ?_
        refine wp_i2l 91 d_PM_twiceArea_90 rfl ?_
        refine wp_lmul 92 d_PM_twiceArea_91 rfl ?_
        refine wp_lsub 93 d_PM_twiceArea_92 rfl ?_
        refine wp_ladd 94 d_PM_twiceArea_93 rfl ?_
        refine wp_lstore_3 95 d_PM_twiceArea_94 rfl rfl rfl ?_
        first | refine wp_iincN_5 98 d_PM_twiceArea_95 rfl rfl rfl ?_ | refine wp_iinc_5 98 1 d_PM_twiceArea_95 rfl (by decide) rfl rfl ?_
        refine wp_goto 5 d_PM_twiceArea_98 (by decide) ?_
        have e : taG T (Y 0).yn n i s = s + ((tX T p).toInt64 * (tY T q).toInt64 - (tY T p).toInt64 * (tX T q).toInt64) := by
          unfold taG cix
          rw [if_pos hni, ep2, eq2]
        rw [show iterN (taG T (Y 0).yn n) (r + 1) i s = iterN (taG T (Y 0).yn n) r (i + 1) (taG T (Y 0).yn n i s) from rfl, e] at hq
        rw [ep, eq1, nI_clamp (by omega : p < 2 ^ 31), nI_clamp (by omega : q < 2 ^ 31), (hA.1.2.2 p (by omega)).1, (hA.1.2.2 p (by omega)).2, (hA.1.2.2 q (by omega)).1, (hA.1.2.2 q (by omega)).2]
        exact ih (i + 1) _ _ _ (by omega) hq

set_option maxRecDepth 100000 in
set_option maxHeartbeats 4000000 in
theorem c_PM_twiceArea0 {n : Nat} (hn : n ≤ 60) (hP : T.nP ≤ 7) (hA : chT T C) (hin : ∀ j, j < n → ¬ (Y 0).yn j < 0 ∧ ¬ (nI T.nP).toInt64 ≤ (Y 0).yn j) (hq : Q (some (.long (taF T (Y 0).yn n))) (hPM Y X T S M D E N C U W G L VL HL nK ST TP BT)) : Call Γ M_PM_twiceArea 1 0 0 [.ref 0, .ref 77, .int (nI n)] (hPM Y X T S M D E N C U W G L VL HL nK ST TP BT) Q := by
  refine call_intro (ls := [some (.ref 0), some (.ref 77), some (.int (nI n)), none, none, none, none, none]) rfl rfl rfl ?_
  refine wp_lconst 1 0 d_PM_twiceArea_0 rfl (by decide) ?_
  refine wp_lstore_3 2 d_PM_twiceArea_1 rfl rfl rfl ?_
  refine wp_iconst 3 0 d_PM_twiceArea_2 rfl (by decide) ?_
  refine wp_istore_5 5 d_PM_twiceArea_3 rfl rfl rfl ?_
  exact l_ta0 hn hP hA hin n 0 0 none none (by omega) hq

set_option maxRecDepth 100000 in
set_option maxHeartbeats 4000000 in
theorem l_cf1 {n : Nat} (hn : n ≤ 60) (hP : T.nP ≤ 7) (hA : chT T C) : ∀ (r i : Nat) (w : Int32) (w5 : Option Value), i + r = n → Q (some (.int (cfI T (Y 1).yn r i w))) (hPM Y X T S M D E N C U W G L VL HL nK ST TP BT) → WP Γ M_PM_cornersFault 5 0 0 (hPM Y X T S M D E N C U W G L VL HL nK ST TP BT) 16 [some (.ref 0), some (.ref 79), some (.int (nI n)), some (.int w), some (.int (nI i)), w5, none] [] Q := by
  intro r
  induction r with
  | zero =>
    intro i w w5 hi hinv
    have hq := hinv
    refine wp_iload 18 d_PM_cornersFault_16 rfl rfl ?_
    refine wp_iload_n 19 d_PM_cornersFault_18 rfl rfl ?_
    refine wp_icmp_ge 76 22 d_PM_cornersFault_19 rfl (by decide) (fun h19 => ?_) (fun h19 => ?_)
    · refine wp_iload_n 77 d_PM_cornersFault_76 rfl rfl ?_
      refine wp_ireturn d_PM_cornersFault_77 rfl ?_
      exact hq
    · exact absurd ((nI_leI (a := n) (by omega) (by omega)).mpr (by omega)) h19
  | succ r ih =>
    intro i w w5 hi hinv
    have hq := hinv
    refine wp_iload 18 d_PM_cornersFault_16 rfl rfl ?_
    refine wp_iload_n 19 d_PM_cornersFault_18 rfl rfl ?_
    refine wp_icmp_ge 76 22 d_PM_cornersFault_19 rfl (by decide) (fun h19 => ?_) (fun h19 => ?_)
    · exact absurd (nI_leN (b := n) h19 (by omega) (by omega)) (by omega)
    · refine wp_aload_n 23 d_PM_cornersFault_22 rfl rfl ?_
      refine wp_getfield 26 10 0 d_PM_cornersFault_23 rfl fl_PM_136 rfl rfl ?_
      refine wp_iload 28 d_PM_cornersFault_26 rfl rfl ?_
      refine wp_laloadN 29 d_PM_cornersFault_28 rfl rfl rfl (by omega) ?_
      refine wp_lstore_5 31 d_PM_cornersFault_29 rfl rfl rfl ?_
      refine wp_lload 33 d_PM_cornersFault_31 rfl rfl ?_
      refine wp_lconst 34 0 d_PM_cornersFault_33 rfl (by decide) ?_
      refine wp_lcmp 35 d_PM_cornersFault_34 rfl ?_
      refine wp_if_lt 52 38 d_PM_cornersFault_35 rfl (by decide) (fun h35 => ?_) (fun h35 => ?_)
      · refine wp_iconst 53 5 d_PM_cornersFault_52 rfl (by decide) ?_
        refine wp_ireturn d_PM_cornersFault_53 rfl ?_
        have e : cfI T (Y 1).yn (r + 1) i w = _ := if_pos (Or.inl (lc_lt.mp h35))
        rw [e] at hq
        exact hq
      · refine wp_lload 40 d_PM_cornersFault_38 rfl rfl ?_
        refine wp_aload_n 41 d_PM_cornersFault_40 rfl rfl ?_
        refine wp_getfield 44 11 2 d_PM_cornersFault_41 rfl fl_PM_25 rfl rfl ?_
        refine wp_getfield 47 8 8 d_PM_cornersFault_44 rfl fl_PM_203 rfl rfl ?_
        refine wp_i2l 48 d_PM_cornersFault_47 rfl ?_
        refine wp_lcmp 49 d_PM_cornersFault_48 rfl ?_
        refine wp_if_lt 54 52 d_PM_cornersFault_49 rfl (by decide) (fun h49 => ?_) (fun h49 => ?_)
        · have g1 : ¬ (Y 1).yn i < 0 := fun z => h35 (lc_lt.mpr z)
          have g2 : ¬ (nI T.nP).toInt64 ≤ (Y 1).yn i := Int64.not_le.mpr (lc_lt.mp h49)
          obtain ⟨q, hq7, eq1, ep⟩ := i64_nI g1 g2 (by omega)
          refine wp_aload_n 55 d_PM_cornersFault_54 rfl rfl ?_
          refine wp_getfield 58 11 8 d_PM_cornersFault_55 rfl fl_PM_53 rfl rfl ?_
          refine wp_lload 60 d_PM_cornersFault_58 rfl rfl ?_
          refine wp_l2i 61 d_PM_cornersFault_60 rfl ?_
          rw [eq1]
          refine ws_V1 (b' := 0) 64 M_Chart_lies 2 [36, 37, 38, 39, 40, 41, 42, 43] ((hCr C)) d_PM_cornersFault_61 rfl mv_Chart_lies lk_PM_271 rfl rfl rfl rfl rfl rfl rfl (eV_int _ _) rfl ?_
          refine c_liesA hA (by omega : q < 7) ?_
          refine sIr rfl rfl ?_
          (first | refine wp_ifP_ne 70 67 d_PM_cornersFault_64 rfl (by decide) (fun h64 => ?_) (fun h64 => ?_) | refine wp_if_ne 70 67 d_PM_cornersFault_64 rfl (by decide) (fun h64 => ?_) (fun h64 => ?_))
          · first | refine wp_iincN_4 73 d_PM_cornersFault_70 rfl rfl rfl ?_ | refine wp_iinc_4 73 1 d_PM_cornersFault_70 rfl (by decide) rfl rfl ?_
            refine wp_goto 16 d_PM_cornersFault_73 (by decide) ?_
            have e : cfI T (Y 1).yn (r + 1) i w = _ := if_neg (fun z => z.elim g1 g2)
            rw [e, ep, if_pos h64] at hq
            exact ih (i + 1) _ _ (by omega) hq
          · refine wp_bipush 69 6 d_PM_cornersFault_67 rfl (by decide) ?_
            refine wp_istore_3 70 d_PM_cornersFault_69 rfl rfl rfl ?_
            first | refine wp_iincN_4 73 d_PM_cornersFault_70 rfl rfl rfl ?_ | refine wp_iinc_4 73 1 d_PM_cornersFault_70 rfl (by decide) rfl rfl ?_
            refine wp_goto 16 d_PM_cornersFault_73 (by decide) ?_
            have e : cfI T (Y 1).yn (r + 1) i w = _ := if_neg (fun z => z.elim g1 g2)
            rw [e, ep, if_neg h64] at hq
            exact ih (i + 1) _ _ (by omega) hq
        · refine wp_iconst 53 5 d_PM_cornersFault_52 rfl (by decide) ?_
          refine wp_ireturn d_PM_cornersFault_53 rfl ?_
          have e : cfI T (Y 1).yn (r + 1) i w = _ := if_pos (Or.inr (Int64.not_lt.mp (fun z => h49 (lc_lt.mpr z))))
          rw [e] at hq
          exact hq

set_option maxRecDepth 100000 in
set_option maxHeartbeats 4000000 in
theorem c_PM_cornersFault1 {n : Nat} (hn : n ≤ 60) (I : tOK T) (SO_ : SO C U W L) (hq : ∀ C2, cOK C2 → chT T C2 → Q (some (.int (cfI T (Y 1).yn n 0 0))) (hPM Y X T S M D E N (C2) U W G L VL HL nK ST TP BT)) : Call Γ M_PM_cornersFault 5 0 0 [.ref 0, .ref 79, .int (nI n)] (hPM Y X T S M D E N C U W G L VL HL nK ST TP BT) Q := by
  refine call_intro (ls := [some (.ref 0), some (.ref 79), some (.int (nI n)), none, none, none, none]) rfl rfl rfl ?_
  refine wp_aload_n 1 d_PM_cornersFault_0 rfl rfl ?_
  refine wp_getfield 4 11 8 d_PM_cornersFault_1 rfl fl_PM_53 rfl rfl ?_
  refine wp_aload_n 5 d_PM_cornersFault_4 rfl rfl ?_
  refine wp_getfield 8 11 2 d_PM_cornersFault_5 rfl fl_PM_25 rfl rfl ?_
  refine ws_V1 (v1' := .ref 8) (b' := 0) 11 M_Chart_draw 4 [36, 37, 38, 39, 40, 41, 42, 43, 8, 9, 10, 11, 12, 13, 14, 15, 16] ((hCTr C T)) d_PM_cornersFault_8 rfl mv_Chart_draw lk_PM_260 rfl rfl rfl rfl rfl rfl rfl rfl rfl ?_
  refine c_drawA I SO_.1 (fun c2 hc2 hA => ?_)
  refine sV ?_
  simp only [putH, rC, sg, eV, List.map_cons, List.map_nil, List.set_cons_zero, List.set_cons_succ, List.length_cons, List.length_nil, List.getD_cons_zero, List.getD_cons_succ, Nat.zero_add, Nat.reduceAdd, Nat.reduceLT, if_true, ite_true]
  refine hEq (hPM Y X T S M D E N (c2) U W G L VL HL nK ST TP BT) rfl ?_
  refine wp_iconst 12 0 d_PM_cornersFault_11 rfl (by decide) ?_
  refine wp_istore_3 13 d_PM_cornersFault_12 rfl rfl rfl ?_
  refine wp_iconst 14 0 d_PM_cornersFault_13 rfl (by decide) ?_
  refine wp_istore_4 16 d_PM_cornersFault_14 rfl rfl rfl ?_
  exact l_cf1 hn I.hP hA n 0 0 none (by omega) (hq c2 hc2 hA)

set_option maxRecDepth 100000 in
set_option maxHeartbeats 4000000 in
theorem l_ta1 {n : Nat} (hn : n ≤ 60) (hP : T.nP ≤ 7) (hA : chT T C) (hin : ∀ j, j < n → ¬ (Y 1).yn j < 0 ∧ ¬ (nI T.nP).toInt64 ≤ (Y 1).yn j) : ∀ (r i : Nat) (s : Int64) (w6 w7 : Option Value), i + r = n → Q (some (.long (iterN (taG T (Y 1).yn n) r i s))) (hPM Y X T S M D E N C U W G L VL HL nK ST TP BT) → WP Γ M_PM_twiceArea 1 0 0 (hPM Y X T S M D E N C U W G L VL HL nK ST TP BT) 5 [some (.ref 0), some (.ref 79), some (.int (nI n)), some (.long s), none, some (.int (nI i)), w6, w7] [] Q := by
  intro r
  induction r with
  | zero =>
    intro i s w6 w7 hi hinv
    have hq := hinv
    refine wp_iload 7 d_PM_twiceArea_5 rfl rfl ?_
    refine wp_iload_n 8 d_PM_twiceArea_7 rfl rfl ?_
    refine wp_icmp_ge 101 11 d_PM_twiceArea_8 rfl (by decide) (fun h8 => ?_) (fun h8 => ?_)
    · refine wp_lload_n 102 d_PM_twiceArea_101 rfl rfl ?_
      refine wp_lreturn d_PM_twiceArea_102 rfl ?_
      exact hq
    · exact absurd ((nI_leI (a := n) (by omega) (by omega)).mpr (by omega)) h8
  | succ r ih =>
    intro i s w6 w7 hi hinv
    have hq := hinv
    refine wp_iload 7 d_PM_twiceArea_5 rfl rfl ?_
    refine wp_iload_n 8 d_PM_twiceArea_7 rfl rfl ?_
    refine wp_icmp_ge 101 11 d_PM_twiceArea_8 rfl (by decide) (fun h8 => ?_) (fun h8 => ?_)
    · exact absurd (nI_leN (b := n) h8 (by omega) (by omega)) (by omega)
    · obtain ⟨p, hp, ep, ep2⟩ := i64_nI (hin i (by omega)).1 (hin i (by omega)).2 (by omega)
      refine wp_aload_n 12 d_PM_twiceArea_11 rfl rfl ?_
      refine wp_getfield 15 10 0 d_PM_twiceArea_12 rfl fl_PM_136 rfl rfl ?_
      refine wp_iload 17 d_PM_twiceArea_15 rfl rfl ?_
      refine wp_laloadN 18 d_PM_twiceArea_17 rfl rfl rfl (by omega) ?_
      refine wp_l2i 19 d_PM_twiceArea_18 rfl ?_
      refine wp_istore_6 21 d_PM_twiceArea_19 rfl rfl rfl ?_
      refine wp_aload_n 22 d_PM_twiceArea_21 rfl rfl ?_
      refine wp_getfield 25 10 0 d_PM_twiceArea_22 rfl fl_PM_136 rfl rfl ?_
      refine wp_iload 27 d_PM_twiceArea_25 rfl rfl ?_
      refine wp_iconst 28 1 d_PM_twiceArea_27 rfl (by decide) ?_
      refine wp_iadd 29 d_PM_twiceArea_28 rfl ?_
      refine wp_iload_n 30 d_PM_twiceArea_29 rfl rfl ?_
      refine wp_icmp_ge 40 33 d_PM_twiceArea_30 rfl (by decide) (fun h30 => ?_) (fun h30 => ?_)
      · have hni : ¬ i + 1 < n := Nat.not_lt.mpr (nI_leN (b := n) (a := i + 1) (by rw [← nI_1]; exact h30) (by omega) (by omega))
        obtain ⟨q, hq7, eq1, eq2⟩ := i64_nI (hin 0 (by omega)).1 (hin 0 (by omega)).2 (by omega)
        refine wp_iconst 41 0 d_PM_twiceArea_40 rfl (by decide) ?_
        rw [show (0 : Int32) = nI 0 from rfl]
        refine wp_laloadN 42 d_PM_twiceArea_41 rfl rfl rfl (by omega) ?_
        refine wp_l2i 43 d_PM_twiceArea_42 rfl ?_
        refine wp_istore_7 45 d_PM_twiceArea_43 rfl rfl rfl ?_
        refine wp_lload_n 46 d_PM_twiceArea_45 rfl rfl ?_
        refine wp_aload_n 47 d_PM_twiceArea_46 rfl rfl ?_
        refine wp_getfield 50 11 8 d_PM_twiceArea_47 rfl fl_PM_53 rfl rfl ?_
        refine wp_getfield 53 0 2 d_PM_twiceArea_50 rfl fl_PM_274 rfl rfl ?_
        refine wp_iload 55 d_PM_twiceArea_53 rfl rfl ?_
        refine wp_iaload 56 d_PM_twiceArea_55 rfl rfl (by first | (rw [ep]; exact vp_in_nI (by omega) (by omega)) | (rw [eq1]; exact vp_in_nI (by omega) (by omega))) ?_
        refine wp_i2l 57 d_PM_twiceArea_56 rfl ?_
        refine wp_aload_n 58 d_PM_twiceArea_57 rfl rfl ?_
        refine wp_getfield 61 11 8 d_PM_twiceArea_58 rfl fl_PM_53 rfl rfl ?_
        refine wp_getfield 64 0 3 d_PM_twiceArea_61 rfl fl_PM_277 rfl rfl ?_
        refine wp_iload 66 d_PM_twiceArea_64 rfl rfl ?_
        refine wp_iaload 67 d_PM_twiceArea_66 rfl rfl (by first | (rw [ep]; exact vp_in_nI (by omega) (by omega)) | (rw [eq1]; exact vp_in_nI (by omega) (by omega))) ?_
        refine wp_i2l 68 d_PM_twiceArea_67 rfl ?_
        refine wp_lmul 69 d_PM_twiceArea_68 rfl ?_
        refine wp_aload_n 70 d_PM_twiceArea_69 rfl rfl ?_
        refine wp_getfield 73 11 8 d_PM_twiceArea_70 rfl fl_PM_53 rfl rfl ?_
        refine wp_getfield 76 0 3 d_PM_twiceArea_73 rfl fl_PM_277 rfl rfl ?_
        refine wp_iload 78 d_PM_twiceArea_76 rfl rfl ?_
        refine wp_iaload 79 d_PM_twiceArea_78 rfl rfl (by first | (rw [ep]; exact vp_in_nI (by omega) (by omega)) | (rw [eq1]; exact vp_in_nI (by omega) (by omega))) ?_
        refine wp_i2l 80 d_PM_twiceArea_79 rfl ?_
        refine wp_aload_n 81 d_PM_twiceArea_80 rfl rfl ?_
        refine wp_getfield 84 11 8 d_PM_twiceArea_81 rfl fl_PM_53 rfl rfl ?_
        refine wp_getfield 87 0 2 d_PM_twiceArea_84 rfl fl_PM_274 rfl rfl ?_
        refine wp_iload 89 d_PM_twiceArea_87 rfl rfl ?_
        refine wp_iaload 90 d_PM_twiceArea_89 rfl rfl (by first | (rw [ep]; exact vp_in_nI (by omega) (by omega)) | (rw [eq1]; exact vp_in_nI (by omega) (by omega))) ?_
        refine wp_i2l 91 d_PM_twiceArea_90 rfl ?_
        refine wp_lmul 92 d_PM_twiceArea_91 rfl ?_
        refine wp_lsub 93 d_PM_twiceArea_92 rfl ?_
        refine wp_ladd 94 d_PM_twiceArea_93 rfl ?_
        refine wp_lstore_3 95 d_PM_twiceArea_94 rfl rfl rfl ?_
        first | refine wp_iincN_5 98 d_PM_twiceArea_95 rfl rfl rfl ?_ | refine wp_iinc_5 98 1 d_PM_twiceArea_95 rfl (by decide) rfl rfl ?_
        refine wp_goto 5 d_PM_twiceArea_98 (by decide) ?_
        have e : taG T (Y 1).yn n i s = s + ((tX T p).toInt64 * (tY T q).toInt64 - (tY T p).toInt64 * (tX T q).toInt64) := by
          unfold taG cix
          rw [if_neg hni, ep2, eq2]
        rw [show iterN (taG T (Y 1).yn n) (r + 1) i s = iterN (taG T (Y 1).yn n) r (i + 1) (taG T (Y 1).yn n i s) from rfl, e] at hq
        rw [ep, eq1, nI_clamp (by omega : p < 2 ^ 31), nI_clamp (by omega : q < 2 ^ 31), (hA.1.2.2 p (by omega)).1, (hA.1.2.2 p (by omega)).2, (hA.1.2.2 q (by omega)).1, (hA.1.2.2 q (by omega)).2]
        exact ih (i + 1) _ _ _ (by omega) hq
      · have hni : i + 1 < n := nI_ltN (a := i + 1) (by rw [← nI_1]; exact Int32.not_le.mp h30) (by omega) (by omega)
        obtain ⟨q, hq7, eq1, eq2⟩ := i64_nI (hin (i + 1) (by omega)).1 (hin (i + 1) (by omega)).2 (by omega)
        refine wp_iload 35 d_PM_twiceArea_33 rfl rfl ?_
        refine wp_iconst 36 1 d_PM_twiceArea_35 rfl (by decide) ?_
        refine wp_iadd 37 d_PM_twiceArea_36 rfl ?_
        rw [nI_1]
        refine wp_goto 41 d_PM_twiceArea_37 (by decide) ?_
        refine wp_laloadN 42 d_PM_twiceArea_41 rfl rfl rfl (by omega) ?_
        refine wp_l2i 43 d_PM_twiceArea_42 rfl ?_
        refine wp_istore_7 45 d_PM_twiceArea_43 rfl rfl rfl ?_
        refine wp_lload_n 46 d_PM_twiceArea_45 rfl rfl ?_
        refine wp_aload_n 47 d_PM_twiceArea_46 rfl rfl ?_
        refine wp_getfield 50 11 8 d_PM_twiceArea_47 rfl fl_PM_53 rfl rfl ?_
        refine wp_getfield 53 0 2 d_PM_twiceArea_50 rfl fl_PM_274 rfl rfl ?_
        refine wp_iload 55 d_PM_twiceArea_53 rfl rfl ?_
        refine wp_iaload 56 d_PM_twiceArea_55 rfl rfl (by first | (rw [ep]; exact vp_in_nI (by omega) (by omega)) | (rw [eq1]; exact vp_in_nI (by omega) (by omega))) ?_
        refine wp_i2l 57 d_PM_twiceArea_56 rfl ?_
        refine wp_aload_n 58 d_PM_twiceArea_57 rfl rfl ?_
        refine wp_getfield 61 11 8 d_PM_twiceArea_58 rfl fl_PM_53 rfl rfl ?_
        refine wp_getfield 64 0 3 d_PM_twiceArea_61 rfl fl_PM_277 rfl rfl ?_
        refine wp_iload 66 d_PM_twiceArea_64 rfl rfl ?_
        refine wp_iaload 67 d_PM_twiceArea_66 rfl rfl (by first | (rw [ep]; exact vp_in_nI (by omega) (by omega)) | (rw [eq1]; exact vp_in_nI (by omega) (by omega))) ?_
        refine wp_i2l 68 d_PM_twiceArea_67 rfl ?_
        refine wp_lmul 69 d_PM_twiceArea_68 rfl ?_
        refine wp_aload_n 70 d_PM_twiceArea_69 rfl rfl ?_
        refine wp_getfield 73 11 8 d_PM_twiceArea_70 rfl fl_PM_53 rfl rfl ?_
        refine wp_getfield 76 0 3 d_PM_twiceArea_73 rfl fl_PM_277 rfl rfl ?_
        refine wp_iload 78 d_PM_twiceArea_76 rfl rfl ?_
        refine wp_iaload 79 d_PM_twiceArea_78 rfl rfl (by first | (rw [ep]; exact vp_in_nI (by omega) (by omega)) | (rw [eq1]; exact vp_in_nI (by omega) (by omega))) ?_
        refine wp_i2l 80 d_PM_twiceArea_79 rfl ?_
        refine wp_aload_n 81 d_PM_twiceArea_80 rfl rfl ?_
        refine wp_getfield 84 11 8 d_PM_twiceArea_81 rfl fl_PM_53 rfl rfl ?_
        refine wp_getfield 87 0 2 d_PM_twiceArea_84 rfl fl_PM_274 rfl rfl ?_
        refine wp_iload 89 d_PM_twiceArea_87 rfl rfl ?_
        refine wp_iaload 90 d_PM_twiceArea_89 rfl rfl (by first | (rw [ep]; exact vp_in_nI (by omega) (by omega)) | (rw [eq1]; exact vp_in_nI (by omega) (by omega))) ?_
        refine wp_i2l 91 d_PM_twiceArea_90 rfl ?_
        refine wp_lmul 92 d_PM_twiceArea_91 rfl ?_
        refine wp_lsub 93 d_PM_twiceArea_92 rfl ?_
        refine wp_ladd 94 d_PM_twiceArea_93 rfl ?_
        refine wp_lstore_3 95 d_PM_twiceArea_94 rfl rfl rfl ?_
        first | refine wp_iincN_5 98 d_PM_twiceArea_95 rfl rfl rfl ?_ | refine wp_iinc_5 98 1 d_PM_twiceArea_95 rfl (by decide) rfl rfl ?_
        refine wp_goto 5 d_PM_twiceArea_98 (by decide) ?_
        have e : taG T (Y 1).yn n i s = s + ((tX T p).toInt64 * (tY T q).toInt64 - (tY T p).toInt64 * (tX T q).toInt64) := by
          unfold taG cix
          rw [if_pos hni, ep2, eq2]
        rw [show iterN (taG T (Y 1).yn n) (r + 1) i s = iterN (taG T (Y 1).yn n) r (i + 1) (taG T (Y 1).yn n i s) from rfl, e] at hq
        rw [ep, eq1, nI_clamp (by omega : p < 2 ^ 31), nI_clamp (by omega : q < 2 ^ 31), (hA.1.2.2 p (by omega)).1, (hA.1.2.2 p (by omega)).2, (hA.1.2.2 q (by omega)).1, (hA.1.2.2 q (by omega)).2]
        exact ih (i + 1) _ _ _ (by omega) hq

set_option maxRecDepth 100000 in
set_option maxHeartbeats 4000000 in
theorem c_PM_twiceArea1 {n : Nat} (hn : n ≤ 60) (hP : T.nP ≤ 7) (hA : chT T C) (hin : ∀ j, j < n → ¬ (Y 1).yn j < 0 ∧ ¬ (nI T.nP).toInt64 ≤ (Y 1).yn j) (hq : Q (some (.long (taF T (Y 1).yn n))) (hPM Y X T S M D E N C U W G L VL HL nK ST TP BT)) : Call Γ M_PM_twiceArea 1 0 0 [.ref 0, .ref 79, .int (nI n)] (hPM Y X T S M D E N C U W G L VL HL nK ST TP BT) Q := by
  refine call_intro (ls := [some (.ref 0), some (.ref 79), some (.int (nI n)), none, none, none, none, none]) rfl rfl rfl ?_
  refine wp_lconst 1 0 d_PM_twiceArea_0 rfl (by decide) ?_
  refine wp_lstore_3 2 d_PM_twiceArea_1 rfl rfl rfl ?_
  refine wp_iconst 3 0 d_PM_twiceArea_2 rfl (by decide) ?_
  refine wp_istore_5 5 d_PM_twiceArea_3 rfl rfl rfl ?_
  exact l_ta1 hn hP hA hin n 0 0 none none (by omega) hq

set_option maxRecDepth 100000 in
set_option maxHeartbeats 4000000 in
theorem l_cf2 {n : Nat} (hn : n ≤ 60) (hP : T.nP ≤ 7) (hA : chT T C) : ∀ (r i : Nat) (w : Int32) (w5 : Option Value), i + r = n → Q (some (.int (cfI T (Y 2).yn r i w))) (hPM Y X T S M D E N C U W G L VL HL nK ST TP BT) → WP Γ M_PM_cornersFault 5 0 0 (hPM Y X T S M D E N C U W G L VL HL nK ST TP BT) 16 [some (.ref 0), some (.ref 81), some (.int (nI n)), some (.int w), some (.int (nI i)), w5, none] [] Q := by
  intro r
  induction r with
  | zero =>
    intro i w w5 hi hinv
    have hq := hinv
    refine wp_iload 18 d_PM_cornersFault_16 rfl rfl ?_
    refine wp_iload_n 19 d_PM_cornersFault_18 rfl rfl ?_
    refine wp_icmp_ge 76 22 d_PM_cornersFault_19 rfl (by decide) (fun h19 => ?_) (fun h19 => ?_)
    · refine wp_iload_n 77 d_PM_cornersFault_76 rfl rfl ?_
      refine wp_ireturn d_PM_cornersFault_77 rfl ?_
      exact hq
    · exact absurd ((nI_leI (a := n) (by omega) (by omega)).mpr (by omega)) h19
  | succ r ih =>
    intro i w w5 hi hinv
    have hq := hinv
    refine wp_iload 18 d_PM_cornersFault_16 rfl rfl ?_
    refine wp_iload_n 19 d_PM_cornersFault_18 rfl rfl ?_
    refine wp_icmp_ge 76 22 d_PM_cornersFault_19 rfl (by decide) (fun h19 => ?_) (fun h19 => ?_)
    · exact absurd (nI_leN (b := n) h19 (by omega) (by omega)) (by omega)
    · refine wp_aload_n 23 d_PM_cornersFault_22 rfl rfl ?_
      refine wp_getfield 26 10 0 d_PM_cornersFault_23 rfl fl_PM_136 rfl rfl ?_
      refine wp_iload 28 d_PM_cornersFault_26 rfl rfl ?_
      refine wp_laloadN 29 d_PM_cornersFault_28 rfl rfl rfl (by omega) ?_
      refine wp_lstore_5 31 d_PM_cornersFault_29 rfl rfl rfl ?_
      refine wp_lload 33 d_PM_cornersFault_31 rfl rfl ?_
      refine wp_lconst 34 0 d_PM_cornersFault_33 rfl (by decide) ?_
      refine wp_lcmp 35 d_PM_cornersFault_34 rfl ?_
      refine wp_if_lt 52 38 d_PM_cornersFault_35 rfl (by decide) (fun h35 => ?_) (fun h35 => ?_)
      · refine wp_iconst 53 5 d_PM_cornersFault_52 rfl (by decide) ?_
        refine wp_ireturn d_PM_cornersFault_53 rfl ?_
        have e : cfI T (Y 2).yn (r + 1) i w = _ := if_pos (Or.inl (lc_lt.mp h35))
        rw [e] at hq
        exact hq
      · refine wp_lload 40 d_PM_cornersFault_38 rfl rfl ?_
        refine wp_aload_n 41 d_PM_cornersFault_40 rfl rfl ?_
        refine wp_getfield 44 11 2 d_PM_cornersFault_41 rfl fl_PM_25 rfl rfl ?_
        refine wp_getfield 47 8 8 d_PM_cornersFault_44 rfl fl_PM_203 rfl rfl ?_
        refine wp_i2l 48 d_PM_cornersFault_47 rfl ?_
        refine wp_lcmp 49 d_PM_cornersFault_48 rfl ?_
        refine wp_if_lt 54 52 d_PM_cornersFault_49 rfl (by decide) (fun h49 => ?_) (fun h49 => ?_)
        · have g1 : ¬ (Y 2).yn i < 0 := fun z => h35 (lc_lt.mpr z)
          have g2 : ¬ (nI T.nP).toInt64 ≤ (Y 2).yn i := Int64.not_le.mpr (lc_lt.mp h49)
          obtain ⟨q, hq7, eq1, ep⟩ := i64_nI g1 g2 (by omega)
          refine wp_aload_n 55 d_PM_cornersFault_54 rfl rfl ?_
          refine wp_getfield 58 11 8 d_PM_cornersFault_55 rfl fl_PM_53 rfl rfl ?_
          refine wp_lload 60 d_PM_cornersFault_58 rfl rfl ?_
          refine wp_l2i 61 d_PM_cornersFault_60 rfl ?_
          rw [eq1]
          refine ws_V1 (b' := 0) 64 M_Chart_lies 2 [36, 37, 38, 39, 40, 41, 42, 43] ((hCr C)) d_PM_cornersFault_61 rfl mv_Chart_lies lk_PM_271 rfl rfl rfl rfl rfl rfl rfl (eV_int _ _) rfl ?_
          refine c_liesA hA (by omega : q < 7) ?_
          refine sIr rfl rfl ?_
          (first | refine wp_ifP_ne 70 67 d_PM_cornersFault_64 rfl (by decide) (fun h64 => ?_) (fun h64 => ?_) | refine wp_if_ne 70 67 d_PM_cornersFault_64 rfl (by decide) (fun h64 => ?_) (fun h64 => ?_))
          · first | refine wp_iincN_4 73 d_PM_cornersFault_70 rfl rfl rfl ?_ | refine wp_iinc_4 73 1 d_PM_cornersFault_70 rfl (by decide) rfl rfl ?_
            refine wp_goto 16 d_PM_cornersFault_73 (by decide) ?_
            have e : cfI T (Y 2).yn (r + 1) i w = _ := if_neg (fun z => z.elim g1 g2)
            rw [e, ep, if_pos h64] at hq
            exact ih (i + 1) _ _ (by omega) hq
          · refine wp_bipush 69 6 d_PM_cornersFault_67 rfl (by decide) ?_
            refine wp_istore_3 70 d_PM_cornersFault_69 rfl rfl rfl ?_
            first | refine wp_iincN_4 73 d_PM_cornersFault_70 rfl rfl rfl ?_ | refine wp_iinc_4 73 1 d_PM_cornersFault_70 rfl (by decide) rfl rfl ?_
            refine wp_goto 16 d_PM_cornersFault_73 (by decide) ?_
            have e : cfI T (Y 2).yn (r + 1) i w = _ := if_neg (fun z => z.elim g1 g2)
            rw [e, ep, if_neg h64] at hq
            exact ih (i + 1) _ _ (by omega) hq
        · refine wp_iconst 53 5 d_PM_cornersFault_52 rfl (by decide) ?_
          refine wp_ireturn d_PM_cornersFault_53 rfl ?_
          have e : cfI T (Y 2).yn (r + 1) i w = _ := if_pos (Or.inr (Int64.not_lt.mp (fun z => h49 (lc_lt.mpr z))))
          rw [e] at hq
          exact hq

set_option maxRecDepth 100000 in
set_option maxHeartbeats 4000000 in
theorem c_PM_cornersFault2 {n : Nat} (hn : n ≤ 60) (I : tOK T) (SO_ : SO C U W L) (hq : ∀ C2, cOK C2 → chT T C2 → Q (some (.int (cfI T (Y 2).yn n 0 0))) (hPM Y X T S M D E N (C2) U W G L VL HL nK ST TP BT)) : Call Γ M_PM_cornersFault 5 0 0 [.ref 0, .ref 81, .int (nI n)] (hPM Y X T S M D E N C U W G L VL HL nK ST TP BT) Q := by
  refine call_intro (ls := [some (.ref 0), some (.ref 81), some (.int (nI n)), none, none, none, none]) rfl rfl rfl ?_
  refine wp_aload_n 1 d_PM_cornersFault_0 rfl rfl ?_
  refine wp_getfield 4 11 8 d_PM_cornersFault_1 rfl fl_PM_53 rfl rfl ?_
  refine wp_aload_n 5 d_PM_cornersFault_4 rfl rfl ?_
  refine wp_getfield 8 11 2 d_PM_cornersFault_5 rfl fl_PM_25 rfl rfl ?_
  refine ws_V1 (v1' := .ref 8) (b' := 0) 11 M_Chart_draw 4 [36, 37, 38, 39, 40, 41, 42, 43, 8, 9, 10, 11, 12, 13, 14, 15, 16] ((hCTr C T)) d_PM_cornersFault_8 rfl mv_Chart_draw lk_PM_260 rfl rfl rfl rfl rfl rfl rfl rfl rfl ?_
  refine c_drawA I SO_.1 (fun c2 hc2 hA => ?_)
  refine sV ?_
  simp only [putH, rC, sg, eV, List.map_cons, List.map_nil, List.set_cons_zero, List.set_cons_succ, List.length_cons, List.length_nil, List.getD_cons_zero, List.getD_cons_succ, Nat.zero_add, Nat.reduceAdd, Nat.reduceLT, if_true, ite_true]
  refine hEq (hPM Y X T S M D E N (c2) U W G L VL HL nK ST TP BT) rfl ?_
  refine wp_iconst 12 0 d_PM_cornersFault_11 rfl (by decide) ?_
  refine wp_istore_3 13 d_PM_cornersFault_12 rfl rfl rfl ?_
  refine wp_iconst 14 0 d_PM_cornersFault_13 rfl (by decide) ?_
  refine wp_istore_4 16 d_PM_cornersFault_14 rfl rfl rfl ?_
  exact l_cf2 hn I.hP hA n 0 0 none (by omega) (hq c2 hc2 hA)

set_option maxRecDepth 100000 in
set_option maxHeartbeats 4000000 in
theorem l_ta2 {n : Nat} (hn : n ≤ 60) (hP : T.nP ≤ 7) (hA : chT T C) (hin : ∀ j, j < n → ¬ (Y 2).yn j < 0 ∧ ¬ (nI T.nP).toInt64 ≤ (Y 2).yn j) : ∀ (r i : Nat) (s : Int64) (w6 w7 : Option Value), i + r = n → Q (some (.long (iterN (taG T (Y 2).yn n) r i s))) (hPM Y X T S M D E N C U W G L VL HL nK ST TP BT) → WP Γ M_PM_twiceArea 1 0 0 (hPM Y X T S M D E N C U W G L VL HL nK ST TP BT) 5 [some (.ref 0), some (.ref 81), some (.int (nI n)), some (.long s), none, some (.int (nI i)), w6, w7] [] Q := by
  intro r
  induction r with
  | zero =>
    intro i s w6 w7 hi hinv
    have hq := hinv
    refine wp_iload 7 d_PM_twiceArea_5 rfl rfl ?_
    refine wp_iload_n 8 d_PM_twiceArea_7 rfl rfl ?_
    refine wp_icmp_ge 101 11 d_PM_twiceArea_8 rfl (by decide) (fun h8 => ?_) (fun h8 => ?_)
    · refine wp_lload_n 102 d_PM_twiceArea_101 rfl rfl ?_
      refine wp_lreturn d_PM_twiceArea_102 rfl ?_
      exact hq
    · exact absurd ((nI_leI (a := n) (by omega) (by omega)).mpr (by omega)) h8
  | succ r ih =>
    intro i s w6 w7 hi hinv
    have hq := hinv
    refine wp_iload 7 d_PM_twiceArea_5 rfl rfl ?_
    refine wp_iload_n 8 d_PM_twiceArea_7 rfl rfl ?_
    refine wp_icmp_ge 101 11 d_PM_twiceArea_8 rfl (by decide) (fun h8 => ?_) (fun h8 => ?_)
    · exact absurd (nI_leN (b := n) h8 (by omega) (by omega)) (by omega)
    · obtain ⟨p, hp, ep, ep2⟩ := i64_nI (hin i (by omega)).1 (hin i (by omega)).2 (by omega)
      refine wp_aload_n 12 d_PM_twiceArea_11 rfl rfl ?_
      refine wp_getfield 15 10 0 d_PM_twiceArea_12 rfl fl_PM_136 rfl rfl ?_
      refine wp_iload 17 d_PM_twiceArea_15 rfl rfl ?_
      refine wp_laloadN 18 d_PM_twiceArea_17 rfl rfl rfl (by omega) ?_
      refine wp_l2i 19 d_PM_twiceArea_18 rfl ?_
      refine wp_istore_6 21 d_PM_twiceArea_19 rfl rfl rfl ?_
      refine wp_aload_n 22 d_PM_twiceArea_21 rfl rfl ?_
      refine wp_getfield 25 10 0 d_PM_twiceArea_22 rfl fl_PM_136 rfl rfl ?_
      refine wp_iload 27 d_PM_twiceArea_25 rfl rfl ?_
      refine wp_iconst 28 1 d_PM_twiceArea_27 rfl (by decide) ?_
      refine wp_iadd 29 d_PM_twiceArea_28 rfl ?_
      refine wp_iload_n 30 d_PM_twiceArea_29 rfl rfl ?_
      refine wp_icmp_ge 40 33 d_PM_twiceArea_30 rfl (by decide) (fun h30 => ?_) (fun h30 => ?_)
      · have hni : ¬ i + 1 < n := Nat.not_lt.mpr (nI_leN (b := n) (a := i + 1) (by rw [← nI_1]; exact h30) (by omega) (by omega))
        obtain ⟨q, hq7, eq1, eq2⟩ := i64_nI (hin 0 (by omega)).1 (hin 0 (by omega)).2 (by omega)
        refine wp_iconst 41 0 d_PM_twiceArea_40 rfl (by decide) ?_
        rw [show (0 : Int32) = nI 0 from rfl]
        refine wp_laloadN 42 d_PM_twiceArea_41 rfl rfl rfl (by omega) ?_
        refine wp_l2i 43 d_PM_twiceArea_42 rfl ?_
        refine wp_istore_7 45 d_PM_twiceArea_43 rfl rfl rfl ?_
        refine wp_lload_n 46 d_PM_twiceArea_45 rfl rfl ?_
        refine wp_aload_n 47 d_PM_twiceArea_46 rfl rfl ?_
        refine wp_getfield 50 11 8 d_PM_twiceArea_47 rfl fl_PM_53 rfl rfl ?_
        refine wp_getfield 53 0 2 d_PM_twiceArea_50 rfl fl_PM_274 rfl rfl ?_
        refine wp_iload 55 d_PM_twiceArea_53 rfl rfl ?_
        refine wp_iaload 56 d_PM_twiceArea_55 rfl rfl (by first | (rw [ep]; exact vp_in_nI (by omega) (by omega)) | (rw [eq1]; exact vp_in_nI (by omega) (by omega))) ?_
        refine wp_i2l 57 d_PM_twiceArea_56 rfl ?_
        refine wp_aload_n 58 d_PM_twiceArea_57 rfl rfl ?_
        refine wp_getfield 61 11 8 d_PM_twiceArea_58 rfl fl_PM_53 rfl rfl ?_
        refine wp_getfield 64 0 3 d_PM_twiceArea_61 rfl fl_PM_277 rfl rfl ?_
        refine wp_iload 66 d_PM_twiceArea_64 rfl rfl ?_
        refine wp_iaload 67 d_PM_twiceArea_66 rfl rfl (by first | (rw [ep]; exact vp_in_nI (by omega) (by omega)) | (rw [eq1]; exact vp_in_nI (by omega) (by omega))) ?_
        refine wp_i2l 68 d_PM_twiceArea_67 rfl ?_
        refine wp_lmul 69 d_PM_twiceArea_68 rfl ?_
        refine wp_aload_n 70 d_PM_twiceArea_69 rfl rfl ?_
        refine wp_getfield 73 11 8 d_PM_twiceArea_70 rfl fl_PM_53 rfl rfl ?_
        refine wp_getfield 76 0 3 d_PM_twiceArea_73 rfl fl_PM_277 rfl rfl ?_
        refine wp_iload 78 d_PM_twiceArea_76 rfl rfl ?_
        refine wp_iaload 79 d_PM_twiceArea_78 rfl rfl (by first | (rw [ep]; exact vp_in_nI (by omega) (by omega)) | (rw [eq1]; exact vp_in_nI (by omega) (by omega))) ?_
        refine wp_i2l 80 d_PM_twiceArea_79 rfl ?_
        refine wp_aload_n 81 d_PM_twiceArea_80 rfl rfl ?_
        refine wp_getfield 84 11 8 d_PM_twiceArea_81 rfl fl_PM_53 rfl rfl ?_
        refine wp_getfield 87 0 2 d_PM_twiceArea_84 rfl fl_PM_274 rfl rfl ?_
        refine wp_iload 89 d_PM_twiceArea_87 rfl rfl ?_
        refine wp_iaload 90 d_PM_twiceArea_89 rfl rfl (by first | (rw [ep]; exact vp_in_nI (by omega) (by omega)) | (rw [eq1]; exact vp_in_nI (by omega) (by omega))) ?_
        refine wp_i2l 91 d_PM_twiceArea_90 rfl ?_
        refine wp_lmul 92 d_PM_twiceArea_91 rfl ?_
        refine wp_lsub 93 d_PM_twiceArea_92 rfl ?_
        refine wp_ladd 94 d_PM_twiceArea_93 rfl ?_
        refine wp_lstore_3 95 d_PM_twiceArea_94 rfl rfl rfl ?_
        first | refine wp_iincN_5 98 d_PM_twiceArea_95 rfl rfl rfl ?_ | refine wp_iinc_5 98 1 d_PM_twiceArea_95 rfl (by decide) rfl rfl ?_
        refine wp_goto 5 d_PM_twiceArea_98 (by decide) ?_
        have e : taG T (Y 2).yn n i s = s + ((tX T p).toInt64 * (tY T q).toInt64 - (tY T p).toInt64 * (tX T q).toInt64) := by
          unfold taG cix
          rw [if_neg hni, ep2, eq2]
        rw [show iterN (taG T (Y 2).yn n) (r + 1) i s = iterN (taG T (Y 2).yn n) r (i + 1) (taG T (Y 2).yn n i s) from rfl, e] at hq
        rw [ep, eq1, nI_clamp (by omega : p < 2 ^ 31), nI_clamp (by omega : q < 2 ^ 31), (hA.1.2.2 p (by omega)).1, (hA.1.2.2 p (by omega)).2, (hA.1.2.2 q (by omega)).1, (hA.1.2.2 q (by omega)).2]
        exact ih (i + 1) _ _ _ (by omega) hq
      · have hni : i + 1 < n := nI_ltN (a := i + 1) (by rw [← nI_1]; exact Int32.not_le.mp h30) (by omega) (by omega)
        obtain ⟨q, hq7, eq1, eq2⟩ := i64_nI (hin (i + 1) (by omega)).1 (hin (i + 1) (by omega)).2 (by omega)
        refine wp_iload 35 d_PM_twiceArea_33 rfl rfl ?_
        refine wp_iconst 36 1 d_PM_twiceArea_35 rfl (by decide) ?_
        refine wp_iadd 37 d_PM_twiceArea_36 rfl ?_
        rw [nI_1]
        refine wp_goto 41 d_PM_twiceArea_37 (by decide) ?_
        refine wp_laloadN 42 d_PM_twiceArea_41 rfl rfl rfl (by omega) ?_
        refine wp_l2i 43 d_PM_twiceArea_42 rfl ?_
        refine wp_istore_7 45 d_PM_twiceArea_43 rfl rfl rfl ?_
        refine wp_lload_n 46 d_PM_twiceArea_45 rfl rfl ?_
        refine wp_aload_n 47 d_PM_twiceArea_46 rfl rfl ?_
        refine wp_getfield 50 11 8 d_PM_twiceArea_47 rfl fl_PM_53 rfl rfl ?_
        refine wp_getfield 53 0 2 d_PM_twiceArea_50 rfl fl_PM_274 rfl rfl ?_
        refine wp_iload 55 d_PM_twiceArea_53 rfl rfl ?_
        refine wp_iaload 56 d_PM_twiceArea_55 rfl rfl (by first | (rw [ep]; exact vp_in_nI (by omega) (by omega)) | (rw [eq1]; exact vp_in_nI (by omega) (by omega))) ?_
        refine wp_i2l 57 d_PM_twiceArea_56 rfl ?_
        refine wp_aload_n 58 d_PM_twiceArea_57 rfl rfl ?_
        refine wp_getfield 61 11 8 d_PM_twiceArea_58 rfl fl_PM_53 rfl rfl ?_
        refine wp_getfield 64 0 3 d_PM_twiceArea_61 rfl fl_PM_277 rfl rfl ?_
        refine wp_iload 66 d_PM_twiceArea_64 rfl rfl ?_
        refine wp_iaload 67 d_PM_twiceArea_66 rfl rfl (by first | (rw [ep]; exact vp_in_nI (by omega) (by omega)) | (rw [eq1]; exact vp_in_nI (by omega) (by omega))) ?_
        refine wp_i2l 68 d_PM_twiceArea_67 rfl ?_
        refine wp_lmul 69 d_PM_twiceArea_68 rfl ?_
        refine wp_aload_n 70 d_PM_twiceArea_69 rfl rfl ?_
        refine wp_getfield 73 11 8 d_PM_twiceArea_70 rfl fl_PM_53 rfl rfl ?_
        refine wp_getfield 76 0 3 d_PM_twiceArea_73 rfl fl_PM_277 rfl rfl ?_
        refine wp_iload 78 d_PM_twiceArea_76 rfl rfl ?_
        refine wp_iaload 79 d_PM_twiceArea_78 rfl rfl (by first | (rw [ep]; exact vp_in_nI (by omega) (by omega)) | (rw [eq1]; exact vp_in_nI (by omega) (by omega))) ?_
        refine wp_i2l 80 d_PM_twiceArea_79 rfl ?_
        refine wp_aload_n 81 d_PM_twiceArea_80 rfl rfl ?_
        refine wp_getfield 84 11 8 d_PM_twiceArea_81 rfl fl_PM_53 rfl rfl ?_
        refine wp_getfield 87 0 2 d_PM_twiceArea_84 rfl fl_PM_274 rfl rfl ?_
        refine wp_iload 89 d_PM_twiceArea_87 rfl rfl ?_
        refine wp_iaload 90 d_PM_twiceArea_89 rfl rfl (by first | (rw [ep]; exact vp_in_nI (by omega) (by omega)) | (rw [eq1]; exact vp_in_nI (by omega) (by omega))) ?_
        refine wp_i2l 91 d_PM_twiceArea_90 rfl ?_
        refine wp_lmul 92 d_PM_twiceArea_91 rfl ?_
        refine wp_lsub 93 d_PM_twiceArea_92 rfl ?_
        refine wp_ladd 94 d_PM_twiceArea_93 rfl ?_
        refine wp_lstore_3 95 d_PM_twiceArea_94 rfl rfl rfl ?_
        first | refine wp_iincN_5 98 d_PM_twiceArea_95 rfl rfl rfl ?_ | refine wp_iinc_5 98 1 d_PM_twiceArea_95 rfl (by decide) rfl rfl ?_
        refine wp_goto 5 d_PM_twiceArea_98 (by decide) ?_
        have e : taG T (Y 2).yn n i s = s + ((tX T p).toInt64 * (tY T q).toInt64 - (tY T p).toInt64 * (tX T q).toInt64) := by
          unfold taG cix
          rw [if_pos hni, ep2, eq2]
        rw [show iterN (taG T (Y 2).yn n) (r + 1) i s = iterN (taG T (Y 2).yn n) r (i + 1) (taG T (Y 2).yn n i s) from rfl, e] at hq
        rw [ep, eq1, nI_clamp (by omega : p < 2 ^ 31), nI_clamp (by omega : q < 2 ^ 31), (hA.1.2.2 p (by omega)).1, (hA.1.2.2 p (by omega)).2, (hA.1.2.2 q (by omega)).1, (hA.1.2.2 q (by omega)).2]
        exact ih (i + 1) _ _ _ (by omega) hq

set_option maxRecDepth 100000 in
set_option maxHeartbeats 4000000 in
theorem c_PM_twiceArea2 {n : Nat} (hn : n ≤ 60) (hP : T.nP ≤ 7) (hA : chT T C) (hin : ∀ j, j < n → ¬ (Y 2).yn j < 0 ∧ ¬ (nI T.nP).toInt64 ≤ (Y 2).yn j) (hq : Q (some (.long (taF T (Y 2).yn n))) (hPM Y X T S M D E N C U W G L VL HL nK ST TP BT)) : Call Γ M_PM_twiceArea 1 0 0 [.ref 0, .ref 81, .int (nI n)] (hPM Y X T S M D E N C U W G L VL HL nK ST TP BT) Q := by
  refine call_intro (ls := [some (.ref 0), some (.ref 81), some (.int (nI n)), none, none, none, none, none]) rfl rfl rfl ?_
  refine wp_lconst 1 0 d_PM_twiceArea_0 rfl (by decide) ?_
  refine wp_lstore_3 2 d_PM_twiceArea_1 rfl rfl rfl ?_
  refine wp_iconst 3 0 d_PM_twiceArea_2 rfl (by decide) ?_
  refine wp_istore_5 5 d_PM_twiceArea_3 rfl rfl rfl ?_
  exact l_ta2 hn hP hA hin n 0 0 none none (by omega) hq

set_option maxRecDepth 100000 in
set_option maxHeartbeats 4000000 in
theorem l_cf3 {n : Nat} (hn : n ≤ 60) (hP : T.nP ≤ 7) (hA : chT T C) : ∀ (r i : Nat) (w : Int32) (w5 : Option Value), i + r = n → Q (some (.int (cfI T (Y 3).yn r i w))) (hPM Y X T S M D E N C U W G L VL HL nK ST TP BT) → WP Γ M_PM_cornersFault 5 0 0 (hPM Y X T S M D E N C U W G L VL HL nK ST TP BT) 16 [some (.ref 0), some (.ref 83), some (.int (nI n)), some (.int w), some (.int (nI i)), w5, none] [] Q := by
  intro r
  induction r with
  | zero =>
    intro i w w5 hi hinv
    have hq := hinv
    refine wp_iload 18 d_PM_cornersFault_16 rfl rfl ?_
    refine wp_iload_n 19 d_PM_cornersFault_18 rfl rfl ?_
    refine wp_icmp_ge 76 22 d_PM_cornersFault_19 rfl (by decide) (fun h19 => ?_) (fun h19 => ?_)
    · refine wp_iload_n 77 d_PM_cornersFault_76 rfl rfl ?_
      refine wp_ireturn d_PM_cornersFault_77 rfl ?_
      exact hq
    · exact absurd ((nI_leI (a := n) (by omega) (by omega)).mpr (by omega)) h19
  | succ r ih =>
    intro i w w5 hi hinv
    have hq := hinv
    refine wp_iload 18 d_PM_cornersFault_16 rfl rfl ?_
    refine wp_iload_n 19 d_PM_cornersFault_18 rfl rfl ?_
    refine wp_icmp_ge 76 22 d_PM_cornersFault_19 rfl (by decide) (fun h19 => ?_) (fun h19 => ?_)
    · exact absurd (nI_leN (b := n) h19 (by omega) (by omega)) (by omega)
    · refine wp_aload_n 23 d_PM_cornersFault_22 rfl rfl ?_
      refine wp_getfield 26 10 0 d_PM_cornersFault_23 rfl fl_PM_136 rfl rfl ?_
      refine wp_iload 28 d_PM_cornersFault_26 rfl rfl ?_
      refine wp_laloadN 29 d_PM_cornersFault_28 rfl rfl rfl (by omega) ?_
      refine wp_lstore_5 31 d_PM_cornersFault_29 rfl rfl rfl ?_
      refine wp_lload 33 d_PM_cornersFault_31 rfl rfl ?_
      refine wp_lconst 34 0 d_PM_cornersFault_33 rfl (by decide) ?_
      refine wp_lcmp 35 d_PM_cornersFault_34 rfl ?_
      refine wp_if_lt 52 38 d_PM_cornersFault_35 rfl (by decide) (fun h35 => ?_) (fun h35 => ?_)
      · refine wp_iconst 53 5 d_PM_cornersFault_52 rfl (by decide) ?_
        refine wp_ireturn d_PM_cornersFault_53 rfl ?_
        have e : cfI T (Y 3).yn (r + 1) i w = _ := if_pos (Or.inl (lc_lt.mp h35))
        rw [e] at hq
        exact hq
      · refine wp_lload 40 d_PM_cornersFault_38 rfl rfl ?_
        refine wp_aload_n 41 d_PM_cornersFault_40 rfl rfl ?_
        refine wp_getfield 44 11 2 d_PM_cornersFault_41 rfl fl_PM_25 rfl rfl ?_
        refine wp_getfield 47 8 8 d_PM_cornersFault_44 rfl fl_PM_203 rfl rfl ?_
        refine wp_i2l 48 d_PM_cornersFault_47 rfl ?_
        refine wp_lcmp 49 d_PM_cornersFault_48 rfl ?_
        refine wp_if_lt 54 52 d_PM_cornersFault_49 rfl (by decide) (fun h49 => ?_) (fun h49 => ?_)
        · have g1 : ¬ (Y 3).yn i < 0 := fun z => h35 (lc_lt.mpr z)
          have g2 : ¬ (nI T.nP).toInt64 ≤ (Y 3).yn i := Int64.not_le.mpr (lc_lt.mp h49)
          obtain ⟨q, hq7, eq1, ep⟩ := i64_nI g1 g2 (by omega)
          refine wp_aload_n 55 d_PM_cornersFault_54 rfl rfl ?_
          refine wp_getfield 58 11 8 d_PM_cornersFault_55 rfl fl_PM_53 rfl rfl ?_
          refine wp_lload 60 d_PM_cornersFault_58 rfl rfl ?_
          refine wp_l2i 61 d_PM_cornersFault_60 rfl ?_
          rw [eq1]
          refine ws_V1 (b' := 0) 64 M_Chart_lies 2 [36, 37, 38, 39, 40, 41, 42, 43] ((hCr C)) d_PM_cornersFault_61 rfl mv_Chart_lies lk_PM_271 rfl rfl rfl rfl rfl rfl rfl (eV_int _ _) rfl ?_
          refine c_liesA hA (by omega : q < 7) ?_
          refine sIr rfl rfl ?_
          (first | refine wp_ifP_ne 70 67 d_PM_cornersFault_64 rfl (by decide) (fun h64 => ?_) (fun h64 => ?_) | refine wp_if_ne 70 67 d_PM_cornersFault_64 rfl (by decide) (fun h64 => ?_) (fun h64 => ?_))
          · first | refine wp_iincN_4 73 d_PM_cornersFault_70 rfl rfl rfl ?_ | refine wp_iinc_4 73 1 d_PM_cornersFault_70 rfl (by decide) rfl rfl ?_
            refine wp_goto 16 d_PM_cornersFault_73 (by decide) ?_
            have e : cfI T (Y 3).yn (r + 1) i w = _ := if_neg (fun z => z.elim g1 g2)
            rw [e, ep, if_pos h64] at hq
            exact ih (i + 1) _ _ (by omega) hq
          · refine wp_bipush 69 6 d_PM_cornersFault_67 rfl (by decide) ?_
            refine wp_istore_3 70 d_PM_cornersFault_69 rfl rfl rfl ?_
            first | refine wp_iincN_4 73 d_PM_cornersFault_70 rfl rfl rfl ?_ | refine wp_iinc_4 73 1 d_PM_cornersFault_70 rfl (by decide) rfl rfl ?_
            refine wp_goto 16 d_PM_cornersFault_73 (by decide) ?_
            have e : cfI T (Y 3).yn (r + 1) i w = _ := if_neg (fun z => z.elim g1 g2)
            rw [e, ep, if_neg h64] at hq
            exact ih (i + 1) _ _ (by omega) hq
        · refine wp_iconst 53 5 d_PM_cornersFault_52 rfl (by decide) ?_
          refine wp_ireturn d_PM_cornersFault_53 rfl ?_
          have e : cfI T (Y 3).yn (r + 1) i w = _ := if_pos (Or.inr (Int64.not_lt.mp (fun z => h49 (lc_lt.mpr z))))
          rw [e] at hq
          exact hq

set_option maxRecDepth 100000 in
set_option maxHeartbeats 4000000 in
theorem c_PM_cornersFault3 {n : Nat} (hn : n ≤ 60) (I : tOK T) (SO_ : SO C U W L) (hq : ∀ C2, cOK C2 → chT T C2 → Q (some (.int (cfI T (Y 3).yn n 0 0))) (hPM Y X T S M D E N (C2) U W G L VL HL nK ST TP BT)) : Call Γ M_PM_cornersFault 5 0 0 [.ref 0, .ref 83, .int (nI n)] (hPM Y X T S M D E N C U W G L VL HL nK ST TP BT) Q := by
  refine call_intro (ls := [some (.ref 0), some (.ref 83), some (.int (nI n)), none, none, none, none]) rfl rfl rfl ?_
  refine wp_aload_n 1 d_PM_cornersFault_0 rfl rfl ?_
  refine wp_getfield 4 11 8 d_PM_cornersFault_1 rfl fl_PM_53 rfl rfl ?_
  refine wp_aload_n 5 d_PM_cornersFault_4 rfl rfl ?_
  refine wp_getfield 8 11 2 d_PM_cornersFault_5 rfl fl_PM_25 rfl rfl ?_
  refine ws_V1 (v1' := .ref 8) (b' := 0) 11 M_Chart_draw 4 [36, 37, 38, 39, 40, 41, 42, 43, 8, 9, 10, 11, 12, 13, 14, 15, 16] ((hCTr C T)) d_PM_cornersFault_8 rfl mv_Chart_draw lk_PM_260 rfl rfl rfl rfl rfl rfl rfl rfl rfl ?_
  refine c_drawA I SO_.1 (fun c2 hc2 hA => ?_)
  refine sV ?_
  simp only [putH, rC, sg, eV, List.map_cons, List.map_nil, List.set_cons_zero, List.set_cons_succ, List.length_cons, List.length_nil, List.getD_cons_zero, List.getD_cons_succ, Nat.zero_add, Nat.reduceAdd, Nat.reduceLT, if_true, ite_true]
  refine hEq (hPM Y X T S M D E N (c2) U W G L VL HL nK ST TP BT) rfl ?_
  refine wp_iconst 12 0 d_PM_cornersFault_11 rfl (by decide) ?_
  refine wp_istore_3 13 d_PM_cornersFault_12 rfl rfl rfl ?_
  refine wp_iconst 14 0 d_PM_cornersFault_13 rfl (by decide) ?_
  refine wp_istore_4 16 d_PM_cornersFault_14 rfl rfl rfl ?_
  exact l_cf3 hn I.hP hA n 0 0 none (by omega) (hq c2 hc2 hA)

set_option maxRecDepth 100000 in
set_option maxHeartbeats 4000000 in
theorem l_ta3 {n : Nat} (hn : n ≤ 60) (hP : T.nP ≤ 7) (hA : chT T C) (hin : ∀ j, j < n → ¬ (Y 3).yn j < 0 ∧ ¬ (nI T.nP).toInt64 ≤ (Y 3).yn j) : ∀ (r i : Nat) (s : Int64) (w6 w7 : Option Value), i + r = n → Q (some (.long (iterN (taG T (Y 3).yn n) r i s))) (hPM Y X T S M D E N C U W G L VL HL nK ST TP BT) → WP Γ M_PM_twiceArea 1 0 0 (hPM Y X T S M D E N C U W G L VL HL nK ST TP BT) 5 [some (.ref 0), some (.ref 83), some (.int (nI n)), some (.long s), none, some (.int (nI i)), w6, w7] [] Q := by
  intro r
  induction r with
  | zero =>
    intro i s w6 w7 hi hinv
    have hq := hinv
    refine wp_iload 7 d_PM_twiceArea_5 rfl rfl ?_
    refine wp_iload_n 8 d_PM_twiceArea_7 rfl rfl ?_
    refine wp_icmp_ge 101 11 d_PM_twiceArea_8 rfl (by decide) (fun h8 => ?_) (fun h8 => ?_)
    · refine wp_lload_n 102 d_PM_twiceArea_101 rfl rfl ?_
      refine wp_lreturn d_PM_twiceArea_102 rfl ?_
      exact hq
    · exact absurd ((nI_leI (a := n) (by omega) (by omega)).mpr (by omega)) h8
  | succ r ih =>
    intro i s w6 w7 hi hinv
    have hq := hinv
    refine wp_iload 7 d_PM_twiceArea_5 rfl rfl ?_
    refine wp_iload_n 8 d_PM_twiceArea_7 rfl rfl ?_
    refine wp_icmp_ge 101 11 d_PM_twiceArea_8 rfl (by decide) (fun h8 => ?_) (fun h8 => ?_)
    · exact absurd (nI_leN (b := n) h8 (by omega) (by omega)) (by omega)
    · obtain ⟨p, hp, ep, ep2⟩ := i64_nI (hin i (by omega)).1 (hin i (by omega)).2 (by omega)
      refine wp_aload_n 12 d_PM_twiceArea_11 rfl rfl ?_
      refine wp_getfield 15 10 0 d_PM_twiceArea_12 rfl fl_PM_136 rfl rfl ?_
      refine wp_iload 17 d_PM_twiceArea_15 rfl rfl ?_
      refine wp_laloadN 18 d_PM_twiceArea_17 rfl rfl rfl (by omega) ?_
      refine wp_l2i 19 d_PM_twiceArea_18 rfl ?_
      refine wp_istore_6 21 d_PM_twiceArea_19 rfl rfl rfl ?_
      refine wp_aload_n 22 d_PM_twiceArea_21 rfl rfl ?_
      refine wp_getfield 25 10 0 d_PM_twiceArea_22 rfl fl_PM_136 rfl rfl ?_
      refine wp_iload 27 d_PM_twiceArea_25 rfl rfl ?_
      refine wp_iconst 28 1 d_PM_twiceArea_27 rfl (by decide) ?_
      refine wp_iadd 29 d_PM_twiceArea_28 rfl ?_
      refine wp_iload_n 30 d_PM_twiceArea_29 rfl rfl ?_
      refine wp_icmp_ge 40 33 d_PM_twiceArea_30 rfl (by decide) (fun h30 => ?_) (fun h30 => ?_)
      · have hni : ¬ i + 1 < n := Nat.not_lt.mpr (nI_leN (b := n) (a := i + 1) (by rw [← nI_1]; exact h30) (by omega) (by omega))
        obtain ⟨q, hq7, eq1, eq2⟩ := i64_nI (hin 0 (by omega)).1 (hin 0 (by omega)).2 (by omega)
        refine wp_iconst 41 0 d_PM_twiceArea_40 rfl (by decide) ?_
        rw [show (0 : Int32) = nI 0 from rfl]
        refine wp_laloadN 42 d_PM_twiceArea_41 rfl rfl rfl (by omega) ?_
        refine wp_l2i 43 d_PM_twiceArea_42 rfl ?_
        refine wp_istore_7 45 d_PM_twiceArea_43 rfl rfl rfl ?_
        refine wp_lload_n 46 d_PM_twiceArea_45 rfl rfl ?_
        refine wp_aload_n 47 d_PM_twiceArea_46 rfl rfl ?_
        refine wp_getfield 50 11 8 d_PM_twiceArea_47 rfl fl_PM_53 rfl rfl ?_
        refine wp_getfield 53 0 2 d_PM_twiceArea_50 rfl fl_PM_274 rfl rfl ?_
        refine wp_iload 55 d_PM_twiceArea_53 rfl rfl ?_
        refine wp_iaload 56 d_PM_twiceArea_55 rfl rfl (by first | (rw [ep]; exact vp_in_nI (by omega) (by omega)) | (rw [eq1]; exact vp_in_nI (by omega) (by omega))) ?_
        refine wp_i2l 57 d_PM_twiceArea_56 rfl ?_
        refine wp_aload_n 58 d_PM_twiceArea_57 rfl rfl ?_
        refine wp_getfield 61 11 8 d_PM_twiceArea_58 rfl fl_PM_53 rfl rfl ?_
        refine wp_getfield 64 0 3 d_PM_twiceArea_61 rfl fl_PM_277 rfl rfl ?_
        refine wp_iload 66 d_PM_twiceArea_64 rfl rfl ?_
        refine wp_iaload 67 d_PM_twiceArea_66 rfl rfl (by first | (rw [ep]; exact vp_in_nI (by omega) (by omega)) | (rw [eq1]; exact vp_in_nI (by omega) (by omega))) ?_
        refine wp_i2l 68 d_PM_twiceArea_67 rfl ?_
        refine wp_lmul 69 d_PM_twiceArea_68 rfl ?_
        refine wp_aload_n 70 d_PM_twiceArea_69 rfl rfl ?_
        refine wp_getfield 73 11 8 d_PM_twiceArea_70 rfl fl_PM_53 rfl rfl ?_
        refine wp_getfield 76 0 3 d_PM_twiceArea_73 rfl fl_PM_277 rfl rfl ?_
        refine wp_iload 78 d_PM_twiceArea_76 rfl rfl ?_
        refine wp_iaload 79 d_PM_twiceArea_78 rfl rfl (by first | (rw [ep]; exact vp_in_nI (by omega) (by omega)) | (rw [eq1]; exact vp_in_nI (by omega) (by omega))) ?_
        refine wp_i2l 80 d_PM_twiceArea_79 rfl ?_
        refine wp_aload_n 81 d_PM_twiceArea_80 rfl rfl ?_
        refine wp_getfield 84 11 8 d_PM_twiceArea_81 rfl fl_PM_53 rfl rfl ?_
        refine wp_getfield 87 0 2 d_PM_twiceArea_84 rfl fl_PM_274 rfl rfl ?_
        refine wp_iload 89 d_PM_twiceArea_87 rfl rfl ?_
        refine wp_iaload 90 d_PM_twiceArea_89 rfl rfl (by first | (rw [ep]; exact vp_in_nI (by omega) (by omega)) | (rw [eq1]; exact vp_in_nI (by omega) (by omega))) ?_
        refine wp_i2l 91 d_PM_twiceArea_90 rfl ?_
        refine wp_lmul 92 d_PM_twiceArea_91 rfl ?_
        refine wp_lsub 93 d_PM_twiceArea_92 rfl ?_
        refine wp_ladd 94 d_PM_twiceArea_93 rfl ?_
        refine wp_lstore_3 95 d_PM_twiceArea_94 rfl rfl rfl ?_
        first | refine wp_iincN_5 98 d_PM_twiceArea_95 rfl rfl rfl ?_ | refine wp_iinc_5 98 1 d_PM_twiceArea_95 rfl (by decide) rfl rfl ?_
        refine wp_goto 5 d_PM_twiceArea_98 (by decide) ?_
        have e : taG T (Y 3).yn n i s = s + ((tX T p).toInt64 * (tY T q).toInt64 - (tY T p).toInt64 * (tX T q).toInt64) := by
          unfold taG cix
          rw [if_neg hni, ep2, eq2]
        rw [show iterN (taG T (Y 3).yn n) (r + 1) i s = iterN (taG T (Y 3).yn n) r (i + 1) (taG T (Y 3).yn n i s) from rfl, e] at hq
        rw [ep, eq1, nI_clamp (by omega : p < 2 ^ 31), nI_clamp (by omega : q < 2 ^ 31), (hA.1.2.2 p (by omega)).1, (hA.1.2.2 p (by omega)).2, (hA.1.2.2 q (by omega)).1, (hA.1.2.2 q (by omega)).2]
        exact ih (i + 1) _ _ _ (by omega) hq
      · have hni : i + 1 < n := nI_ltN (a := i + 1) (by rw [← nI_1]; exact Int32.not_le.mp h30) (by omega) (by omega)
        obtain ⟨q, hq7, eq1, eq2⟩ := i64_nI (hin (i + 1) (by omega)).1 (hin (i + 1) (by omega)).2 (by omega)
        refine wp_iload 35 d_PM_twiceArea_33 rfl rfl ?_
        refine wp_iconst 36 1 d_PM_twiceArea_35 rfl (by decide) ?_
        refine wp_iadd 37 d_PM_twiceArea_36 rfl ?_
        rw [nI_1]
        refine wp_goto 41 d_PM_twiceArea_37 (by decide) ?_
        refine wp_laloadN 42 d_PM_twiceArea_41 rfl rfl rfl (by omega) ?_
        refine wp_l2i 43 d_PM_twiceArea_42 rfl ?_
        refine wp_istore_7 45 d_PM_twiceArea_43 rfl rfl rfl ?_
        refine wp_lload_n 46 d_PM_twiceArea_45 rfl rfl ?_
        refine wp_aload_n 47 d_PM_twiceArea_46 rfl rfl ?_
        refine wp_getfield 50 11 8 d_PM_twiceArea_47 rfl fl_PM_53 rfl rfl ?_
        refine wp_getfield 53 0 2 d_PM_twiceArea_50 rfl fl_PM_274 rfl rfl ?_
        refine wp_iload 55 d_PM_twiceArea_53 rfl rfl ?_
        refine wp_iaload 56 d_PM_twiceArea_55 rfl rfl (by first | (rw [ep]; exact vp_in_nI (by omega) (by omega)) | (rw [eq1]; exact vp_in_nI (by omega) (by omega))) ?_
        refine wp_i2l 57 d_PM_twiceArea_56 rfl ?_
        refine wp_aload_n 58 d_PM_twiceArea_57 rfl rfl ?_
        refine wp_getfield 61 11 8 d_PM_twiceArea_58 rfl fl_PM_53 rfl rfl ?_
        refine wp_getfield 64 0 3 d_PM_twiceArea_61 rfl fl_PM_277 rfl rfl ?_
        refine wp_iload 66 d_PM_twiceArea_64 rfl rfl ?_
        refine wp_iaload 67 d_PM_twiceArea_66 rfl rfl (by first | (rw [ep]; exact vp_in_nI (by omega) (by omega)) | (rw [eq1]; exact vp_in_nI (by omega) (by omega))) ?_
        refine wp_i2l 68 d_PM_twiceArea_67 rfl ?_
        refine wp_lmul 69 d_PM_twiceArea_68 rfl ?_
        refine wp_aload_n 70 d_PM_twiceArea_69 rfl rfl ?_
        refine wp_getfield 73 11 8 d_PM_twiceArea_70 rfl fl_PM_53 rfl rfl ?_
        refine wp_getfield 76 0 3 d_PM_twiceArea_73 rfl fl_PM_277 rfl rfl ?_
        refine wp_iload 78 d_PM_twiceArea_76 rfl rfl ?_
        refine wp_iaload 79 d_PM_twiceArea_78 rfl rfl (by first | (rw [ep]; exact vp_in_nI (by omega) (by omega)) | (rw [eq1]; exact vp_in_nI (by omega) (by omega))) ?_
        refine wp_i2l 80 d_PM_twiceArea_79 rfl ?_
        refine wp_aload_n 81 d_PM_twiceArea_80 rfl rfl ?_
        refine wp_getfield 84 11 8 d_PM_twiceArea_81 rfl fl_PM_53 rfl rfl ?_
        refine wp_getfield 87 0 2 d_PM_twiceArea_84 rfl fl_PM_274 rfl rfl ?_
        refine wp_iload 89 d_PM_twiceArea_87 rfl rfl ?_
        refine wp_iaload 90 d_PM_twiceArea_89 rfl rfl (by first | (rw [ep]; exact vp_in_nI (by omega) (by omega)) | (rw [eq1]; exact vp_in_nI (by omega) (by omega))) ?_
        refine wp_i2l 91 d_PM_twiceArea_90 rfl ?_
        refine wp_lmul 92 d_PM_twiceArea_91 rfl ?_
        refine wp_lsub 93 d_PM_twiceArea_92 rfl ?_
        refine wp_ladd 94 d_PM_twiceArea_93 rfl ?_
        refine wp_lstore_3 95 d_PM_twiceArea_94 rfl rfl rfl ?_
        first | refine wp_iincN_5 98 d_PM_twiceArea_95 rfl rfl rfl ?_ | refine wp_iinc_5 98 1 d_PM_twiceArea_95 rfl (by decide) rfl rfl ?_
        refine wp_goto 5 d_PM_twiceArea_98 (by decide) ?_
        have e : taG T (Y 3).yn n i s = s + ((tX T p).toInt64 * (tY T q).toInt64 - (tY T p).toInt64 * (tX T q).toInt64) := by
          unfold taG cix
          rw [if_pos hni, ep2, eq2]
        rw [show iterN (taG T (Y 3).yn n) (r + 1) i s = iterN (taG T (Y 3).yn n) r (i + 1) (taG T (Y 3).yn n i s) from rfl, e] at hq
        rw [ep, eq1, nI_clamp (by omega : p < 2 ^ 31), nI_clamp (by omega : q < 2 ^ 31), (hA.1.2.2 p (by omega)).1, (hA.1.2.2 p (by omega)).2, (hA.1.2.2 q (by omega)).1, (hA.1.2.2 q (by omega)).2]
        exact ih (i + 1) _ _ _ (by omega) hq

set_option maxRecDepth 100000 in
set_option maxHeartbeats 4000000 in
theorem c_PM_twiceArea3 {n : Nat} (hn : n ≤ 60) (hP : T.nP ≤ 7) (hA : chT T C) (hin : ∀ j, j < n → ¬ (Y 3).yn j < 0 ∧ ¬ (nI T.nP).toInt64 ≤ (Y 3).yn j) (hq : Q (some (.long (taF T (Y 3).yn n))) (hPM Y X T S M D E N C U W G L VL HL nK ST TP BT)) : Call Γ M_PM_twiceArea 1 0 0 [.ref 0, .ref 83, .int (nI n)] (hPM Y X T S M D E N C U W G L VL HL nK ST TP BT) Q := by
  refine call_intro (ls := [some (.ref 0), some (.ref 83), some (.int (nI n)), none, none, none, none, none]) rfl rfl rfl ?_
  refine wp_lconst 1 0 d_PM_twiceArea_0 rfl (by decide) ?_
  refine wp_lstore_3 2 d_PM_twiceArea_1 rfl rfl rfl ?_
  refine wp_iconst 3 0 d_PM_twiceArea_2 rfl (by decide) ?_
  refine wp_istore_5 5 d_PM_twiceArea_3 rfl rfl rfl ?_
  exact l_ta3 hn hP hA hin n 0 0 none none (by omega) hq

end T58
