/-! ===== the class: mean, marks, pour, area ===== -/
abbrev hTTr (s t : TW) : LH := [cO 8 [.ref 1, .ref 2, .ref 3, .ref 4, .ref 5, .ref 6, .ref 7, .ref 8, .int (nI s.nP), .int (nI s.nW), .int (nI s.nL), .int s.od, .int s.sk, .int s.sd, .int s.go], cL 7 s.pn, cL 4 s.wn, cI 4 s.fa, cI 12 s.te, cI 12 s.fr, cI 12 s.to_, cI 12 s.ea, cI 12 s.no, cO 8 [.ref 10, .ref 11, .ref 12, .ref 13, .ref 14, .ref 15, .ref 16, .ref 17, .int (nI t.nP), .int (nI t.nW), .int (nI t.nL), .int t.od, .int t.sk, .int t.sd, .int t.go], cL 7 t.pn, cL 4 t.wn, cI 4 t.fa, cI 12 t.te, cI 12 t.fr, cI 12 t.to_, cI 12 t.ea, cI 12 t.no]
abbrev hDDr (s t : DW) : LH := [cO 1 [.ref 1, .ref 2, .ref 3, .int s.dth, .int (nI s.nR), .int (nI s.nS)], cI 60 s.dk, cI 60 s.df, cI 60 s.ds, cO 1 [.ref 5, .ref 6, .ref 7, .int t.dth, .int (nI t.nR), .int (nI t.nS)], cI 60 t.dk, cI 60 t.df, cI 60 t.ds]
def mnF (T : TW) (D : DW) (sd : Int32) (m : Nat) (S : TW) (lco lro : Nat → Int32) : Int64 := (iterN (mnG T D sd) m 0 (0, S, lco, lro)).1
abbrev meC (a b : Int32) : Prop := inR a 10000 ∧ ¬ b < 1 ∧ ¬ 20 < b ∧ ¬ 9999 < a + b - 1
theorem lt3 {n : Nat} (h : n < 3) : n = 0 ∨ n = 1 ∨ n = 2 := by omega
theorem gt3 {n : Nat} (h : 0 < n) (h2 : n ≤ 3) : n = 1 ∨ n = 2 ∨ n = 3 := by omega
def poS (Y : Nat → YT) (f p t a m : Int32) : Int32 := if inR f 4 ∧ inR t 4 ∧ ¬ p < 0 ∧ ¬ a < 0 ∧ ¬ m < 0 then (if (Y f.toNatClampNeg).yth = 0 ∨ (Y t.toNatClampNeg).yth = 0 then 2 else if ¬ (Y f.toNatClampNeg).yso = (Y t.toNatClampNeg).yso then 8 else if p.toInt64 + m.toInt64 ≤ (nI (Y f.toNatClampNeg).nM).toInt64 ∧ a.toInt64 + m.toInt64 ≤ (nI (Y t.toNatClampNeg).nM).toInt64 then 0 else 3) else 1
def poY (Y : Nat → YT) (f p t a m : Nat) : Nat → YT := updY Y t (YT.mk (va_cpy (Y f).yn (Y t).yn p a m) (Y t).yth (Y t).yso (Y t).nM)
theorem sum64 {p m n : Nat} (hp : p < 2 ^ 31) (hm : m < 2 ^ 31) (hn : n < 2 ^ 31) : (nI p).toInt64 + (nI m).toInt64 ≤ (nI n).toInt64 ↔ p + m ≤ n := by
  have e : ((nI p).toInt64 + (nI m).toInt64).toInt = (p : Int) + m := by
    rw [Int64.toInt_add, Int32.toInt_toInt64, Int32.toInt_toInt64, nI_toInt hp, nI_toInt hm]
    apply Int.bmod_eq_of_le <;> omega
  rw [Int64.le_iff_toInt_le, e, Int32.toInt_toInt64, nI_toInt hn]
  omega
section T57
variable {Γ : Gm} {Q : Option Value → LH → Prop} {Y : Nat → YT} {X : XT} {T S : TW} {M : Nat → TW} {D E : DW} {N : Nat → DW} {C : CH} {U : UT} {W : WT} {G : GT} {L : LT} {VL : Nat → Int32} {HL ST : Int32} {nK : Nat} {TP BT : Int64}
set_option maxRecDepth 100000 in
set_option maxHeartbeats 4000000 in
theorem l_PM_mean_60 {sd : Int32} {m : Nat} (hm : m < 1000) (I : tOK T) (J : dOK D) : ∀ (r i : Nat) (S : TW) (C : CH) (L : LT) (w : Int64), i + r = m → tOK S → SO C U W L → (∀ S2 C2 L2, tOK S2 → SO C2 U W L2 → WP Γ M_PM_mean 8 0 0 (hPM Y X T (S2) M D E N (C2) U W G (L2) VL HL nK ST TP BT) 131 [some (.ref 0), some (.int sd), some (.int (nI m)), some (.long (iterN (mnG T D sd) r i (w, S, L.lco, L.lro)).1), none, some (.int (nI m))] [] Q) → WP Γ M_PM_mean 8 0 0 (hPM Y X T S M D E N C U W G L VL HL nK ST TP BT) 60 [some (.ref 0), some (.int sd), some (.int (nI m)), some (.long w), none, some (.int (nI i))] [] Q := by
  intro r
  induction r with
  | zero =>
    intro i S C L w hi hinv
    intro SO_ hq
    refine wp_iload 62 d_PM_mean_60 rfl rfl ?_
    refine wp_iload_n 63 d_PM_mean_62 rfl rfl ?_
    refine wp_icmp_ge 131 66 d_PM_mean_63 rfl (by decide) (fun h63 => ?_) (fun h63 => ?_)
    · have e : i = m := by omega
      subst e
      exact hq S C L hinv SO_
    · exact absurd ((nI_leI (a := m) (by omega) (by omega)).mpr (by omega)) h63
  | succ r ih =>
    intro i S C L w hi hinv
    intro SO_ hq
    have IS := hinv
    refine wp_iload 62 d_PM_mean_60 rfl rfl ?_
    refine wp_iload_n 63 d_PM_mean_62 rfl rfl ?_
    refine wp_icmp_ge 131 66 d_PM_mean_63 rfl (by decide) (fun h63 => ?_) (fun h63 => ?_)
    · exact absurd (nI_leN (b := m) h63 (by omega) (by omega)) (by omega)
    · refine wp_aload_n 67 d_PM_mean_66 rfl rfl ?_
      refine wp_getfield 70 11 3 d_PM_mean_67 rfl fl_PM_29 rfl rfl ?_
      refine wp_aload_n 71 d_PM_mean_70 rfl rfl ?_
      refine wp_getfield 74 11 2 d_PM_mean_71 rfl fl_PM_25 rfl rfl ?_
      refine ws_V1 (v1' := .ref 9) (b' := 0) 77 M_Town_copyFrom 1 [17, 18, 19, 20, 21, 22, 23, 24, 25, 8, 9, 10, 11, 12, 13, 14, 15, 16] ((hTTr S T)) d_PM_mean_74 rfl mv_Town_copyFrom lk_PM_172 rfl rfl rfl rfl rfl rfl rfl rfl rfl ?_
      refine c_Town_copyFrom ?_
      refine sV ?_
      simp only [putH, rC, sg, eV, List.map_cons, List.map_nil, List.set_cons_zero, List.set_cons_succ, List.length_cons, List.length_nil, List.getD_cons_zero, List.getD_cons_succ, Nat.zero_add, Nat.reduceAdd, Nat.reduceLT, if_true, ite_true]
      refine hEq (hPM Y X T ((tCp T S)) M D E N C U W G L VL HL nK ST TP BT) rfl ?_
      refine wp_aload_n 78 d_PM_mean_77 rfl rfl ?_
      refine wp_getfield 81 11 12 d_PM_mean_78 rfl fl_PM_81 rfl rfl ?_
      refine wp_aload_n 82 d_PM_mean_81 rfl rfl ?_
      refine wp_getfield 85 11 3 d_PM_mean_82 rfl fl_PM_29 rfl rfl ?_
      refine wp_aload_n 86 d_PM_mean_85 rfl rfl ?_
      refine wp_getfield 89 11 4 d_PM_mean_86 rfl fl_PM_35 rfl rfl ?_
      refine wp_iload_n 90 d_PM_mean_89 rfl rfl ?_
      refine wp_iload 92 d_PM_mean_90 rfl rfl ?_
      refine wp_iadd 93 d_PM_mean_92 rfl ?_
      refine ws_V3 (v1' := .ref 11) (v2' := .ref 20) (b' := 0) 96 M_Life_run 7 [65, 66, 67, 68, 69, 70, 71, 72, 73, 74, 75, 17, 18, 19, 20, 21, 22, 23, 24, 25, 26, 27, 28, 29] ((hLTDr L (tCp T S) D)) d_PM_mean_93 rfl mv_Life_run lk_PM_411 rfl rfl rfl rfl rfl rfl rfl rfl rfl (eV_int _ _) rfl ?_
      refine c_runA (tCp_OK I IS) J SO_.2.2.2 (fun l2 hl2 e1 e2 e3 => ?_)
      refine sV ?_
      simp only [putH, rC, sg, eV, List.map_cons, List.map_nil, List.set_cons_zero, List.set_cons_succ, List.length_cons, List.length_nil, List.getD_cons_zero, List.getD_cons_succ, Nat.zero_add, Nat.reduceAdd, Nat.reduceLT, if_true, ite_true]
      refine hEq (hPM Y X T ((tLt (tCp T S) (mnR T D sd i (w, S, L.lco, L.lro)).2)) M D E N C U W G (l2) VL HL nK ST TP BT) rfl ?_
      refine wp_aload_n 97 d_PM_mean_96 rfl rfl ?_
      refine wp_getfield 100 11 8 d_PM_mean_97 rfl fl_PM_53 rfl rfl ?_
      refine wp_aload_n 101 d_PM_mean_100 rfl rfl ?_
      refine wp_getfield 104 11 3 d_PM_mean_101 rfl fl_PM_29 rfl rfl ?_
      refine ws_V1 (v1' := .ref 8) (b' := 0) 107 M_Chart_draw 4 [36, 37, 38, 39, 40, 41, 42, 43, 17, 18, 19, 20, 21, 22, 23, 24, 25] ((hCTr C (tLt (tCp T S) (mnR T D sd i (w, S, L.lco, L.lro)).2))) d_PM_mean_104 rfl mv_Chart_draw lk_PM_260 rfl rfl rfl rfl rfl rfl rfl rfl rfl ?_
      refine c_drawA (tLt_OK (tCp_OK I IS)) SO_.1 (fun c2 hc2 hA => ?_)
      refine sV ?_
      simp only [putH, rC, sg, eV, List.map_cons, List.map_nil, List.set_cons_zero, List.set_cons_succ, List.length_cons, List.length_nil, List.getD_cons_zero, List.getD_cons_succ, Nat.zero_add, Nat.reduceAdd, Nat.reduceLT, if_true, ite_true]
      refine hEq (hPM Y X T ((tLt (tCp T S) (mnR T D sd i (w, S, L.lco, L.lro)).2)) M D E N (c2) U W G (l2) VL HL nK ST TP BT) rfl ?_
      refine wp_lload_n 108 d_PM_mean_107 rfl rfl ?_
      refine wp_aload_n 109 d_PM_mean_108 rfl rfl ?_
      refine wp_getfield 112 11 8 d_PM_mean_109 rfl fl_PM_53 rfl rfl ?_
      refine wp_aload_n 113 d_PM_mean_112 rfl rfl ?_
      refine wp_getfield 116 11 3 d_PM_mean_113 rfl fl_PM_29 rfl rfl ?_
      refine ws_V1 (v1' := .ref 8) (b' := 0) 119 M_Chart_liesSet 3 [36, 37, 38, 39, 40, 41, 42, 43, 17, 18, 19, 20, 21, 22, 23, 24, 25] ((hCTr c2 (tLt (tCp T S) (mnR T D sd i (w, S, L.lco, L.lro)).2))) d_PM_mean_116 rfl mv_Chart_liesSet lk_PM_406 rfl rfl rfl rfl rfl rfl rfl rfl rfl ?_
      refine c_liesSetA (tLt_OK (tCp_OK I IS)) hA ?_
      refine sIr rfl rfl ?_
      refine wp_S1 122 M_JInt_bitCount 1 d_PM_mean_119 rfl ms_JInt_bitCount lk_PM_309 rfl rfl ?_
      refine c_JInt_bitCount ?_
      refine kI ?_
      refine wp_i2l 123 d_PM_mean_122 rfl ?_
      refine wp_ladd 124 d_PM_mean_123 rfl ?_
      refine wp_lstore_3 125 d_PM_mean_124 rfl rfl rfl ?_
      first | refine wp_iincN_5 128 d_PM_mean_125 rfl rfl rfl ?_ | refine wp_iinc_5 128 1 d_PM_mean_125 rfl (by decide) rfl rfl ?_
      refine wp_goto 60 d_PM_mean_128 (by decide) ?_
      refine ih (i + 1) _ _ _ _ (by omega) (tLt_OK (tCp_OK I IS)) ⟨hc2, SO_.2.1, SO_.2.2.1, hl2⟩ (fun S2 C2 L2 a1 a2 => ?_)
      have h9 := hq S2 C2 L2 a1 a2
      rw [e1, e2]
      exact h9

set_option maxRecDepth 100000 in
set_option maxHeartbeats 4000000 in
theorem c_PM_mean {a b : Int32} (I : tOK T) (IS : tOK S) (J : dOK D) (SO_ : SO C U W L) (hq0 : ∀ v : Int32, (¬ meC a b ∧ v = 1) ∨ (meC a b ∧ D.dth = 0 ∧ v = 6) → Q (some (.int 0)) (hPM Y X T S M D E N C U W G L VL HL nK (v) TP BT)) (hq1 : meC a b → ¬ D.dth = 0 → ∀ S2 C2 L2, tOK S2 → SO C2 U W L2 → Q (some (.int 1)) (hPM Y X T (S2) M D E N (C2) U W G (L2) VL HL nK (0) (frT (mnF T D a b.toNatClampNeg S L.lco L.lro) b.toInt64 TP) (frB (mnF T D a b.toNatClampNeg S L.lco L.lro) b.toInt64 BT))) : Call Γ M_PM_mean 8 0 0 [.ref 0, .int a, .int b] (hPM Y X T S M D E N C U W G L VL HL nK ST TP BT) Q := by
  refine call_intro (ls := [some (.ref 0), some (.int a), some (.int b), none, none, none]) rfl rfl rfl ?_
  refine wp_iload_n 1 d_PM_mean_0 rfl rfl ?_
  refine wp_sipush 4 10000 d_PM_mean_1 rfl (by decide) ?_
  refine wp_S2 7 M_PM_within 1 d_PM_mean_4 rfl ms_PM_within lk_PM_108 rfl rfl ?_
  refine c_PM_within ?_
  refine kI ?_
  (first | refine wp_ifP_eq 32 10 d_PM_mean_7 rfl (by decide) (fun h7 => ?_) (fun h7 => ?_) | refine wp_if_eq 32 10 d_PM_mean_7 rfl (by decide) (fun h7 => ?_) (fun h7 => ?_))
  · refine wp_aload_n 33 d_PM_mean_32 rfl rfl ?_
    refine wp_iconst 34 1 d_PM_mean_33 rfl (by decide) ?_
    refine wp_V1 37 M_PM_refuse 1 d_PM_mean_34 rfl mv_PM_refuse lk_PM_112 rfl rfl rfl rfl rfl ?_
    refine c_PM_refuse ?_
    refine kI ?_
    refine wp_zreturn d_PM_mean_37 rfl (by first | rfl | exact nbP _) ?_
    exact hq0 1 (Or.inl ⟨fun z => h7 z.1, rfl⟩)
  · refine wp_iload_n 11 d_PM_mean_10 rfl rfl ?_
    refine wp_iconst 12 1 d_PM_mean_11 rfl (by decide) ?_
    refine wp_icmp_lt 32 15 d_PM_mean_12 rfl (by decide) (fun h12 => ?_) (fun h12 => ?_)
    · refine wp_aload_n 33 d_PM_mean_32 rfl rfl ?_
      refine wp_iconst 34 1 d_PM_mean_33 rfl (by decide) ?_
      refine wp_V1 37 M_PM_refuse 1 d_PM_mean_34 rfl mv_PM_refuse lk_PM_112 rfl rfl rfl rfl rfl ?_
      refine c_PM_refuse ?_
      refine kI ?_
      refine wp_zreturn d_PM_mean_37 rfl (by first | rfl | exact nbP _) ?_
      exact hq0 1 (Or.inl ⟨fun z => z.2.1 h12, rfl⟩)
    · refine wp_iload_n 16 d_PM_mean_15 rfl rfl ?_
      refine wp_bipush 18 20 d_PM_mean_16 rfl (by decide) ?_
      refine wp_icmp_gt 32 21 d_PM_mean_18 rfl (by decide) (fun h18 => ?_) (fun h18 => ?_)
      · refine wp_aload_n 33 d_PM_mean_32 rfl rfl ?_
        refine wp_iconst 34 1 d_PM_mean_33 rfl (by decide) ?_
        refine wp_V1 37 M_PM_refuse 1 d_PM_mean_34 rfl mv_PM_refuse lk_PM_112 rfl rfl rfl rfl rfl ?_
        refine c_PM_refuse ?_
        refine kI ?_
        refine wp_zreturn d_PM_mean_37 rfl (by first | rfl | exact nbP _) ?_
        exact hq0 1 (Or.inl ⟨fun z => z.2.2.1 h18, rfl⟩)
      · refine wp_iload_n 22 d_PM_mean_21 rfl rfl ?_
        refine wp_iload_n 23 d_PM_mean_22 rfl rfl ?_
        refine wp_iadd 24 d_PM_mean_23 rfl ?_
        refine wp_iconst 25 1 d_PM_mean_24 rfl (by decide) ?_
        refine wp_isub 26 d_PM_mean_25 rfl ?_
        refine wp_sipush 29 9999 d_PM_mean_26 rfl (by decide) ?_
        refine wp_icmp_le 38 32 d_PM_mean_29 rfl (by decide) (fun h29 => ?_) (fun h29 => ?_)
        · have hb0 : ¬ b < 0 := fun z => h12 (Int32.lt_of_lt_of_le z (by decide))
          obtain ⟨m, hm, rfl⟩ := nI_of hb0
          have hm20 : m ≤ 20 := nI_nltN (a := 20) h18 (by omega) (by omega)
          refine wp_aload_n 39 d_PM_mean_38 rfl rfl ?_
          refine wp_getfield 42 11 4 d_PM_mean_39 rfl fl_PM_35 rfl rfl ?_
          refine wp_getfield 45 1 3 d_PM_mean_42 rfl fl_PM_410 rfl rfl ?_
          refine wp_if_ne 55 48 d_PM_mean_45 rfl (by decide) (fun h45 => ?_) (fun h45 => ?_)
          · refine wp_lconst 56 0 d_PM_mean_55 rfl (by decide) ?_
            refine wp_lstore_3 57 d_PM_mean_56 rfl rfl rfl ?_
            refine wp_iconst 58 0 d_PM_mean_57 rfl (by decide) ?_
            refine wp_istore_5 60 d_PM_mean_58 rfl rfl rfl ?_
            refine l_PM_mean_60 (by omega) I J m 0 S C L 0 (by omega) IS SO_ (fun S2 C2 L2 a1 a2 => ?_)
            refine wp_aload_n 132 d_PM_mean_131 rfl rfl ?_
            refine wp_lload_n 133 d_PM_mean_132 rfl rfl ?_
            refine wp_iload_n 134 d_PM_mean_133 rfl rfl ?_
            refine wp_i2l 135 d_PM_mean_134 rfl ?_
            refine wp_V2 138 M_PM_acceptFraction 2 d_PM_mean_135 rfl mv_PM_acceptFraction lk_PM_348 rfl rfl rfl rfl rfl ?_
            refine c_PM_acceptFraction ?_
            refine kI ?_
            refine wp_zreturn d_PM_mean_138 rfl (by first | rfl | exact nbP _) ?_
            have h9 := hq1 ⟨h7, h12, h18, Int32.not_lt.mpr h29⟩ h45 S2 C2 L2 a1 a2
            rw [nI_clamp (by omega : m < 2 ^ 31)] at h9
            exact h9
          · refine wp_aload_n 49 d_PM_mean_48 rfl rfl ?_
            refine wp_bipush 51 6 d_PM_mean_49 rfl (by decide) ?_
            refine wp_V1 54 M_PM_refuse 1 d_PM_mean_51 rfl mv_PM_refuse lk_PM_112 rfl rfl rfl rfl rfl ?_
            refine c_PM_refuse ?_
            refine kI ?_
            refine wp_zreturn d_PM_mean_54 rfl (by first | rfl | exact nbP _) ?_
            exact hq0 6 (Or.inr ⟨⟨h7, h12, h18, Int32.not_lt.mpr h29⟩, h45, rfl⟩)
        · refine wp_aload_n 33 d_PM_mean_32 rfl rfl ?_
          refine wp_iconst 34 1 d_PM_mean_33 rfl (by decide) ?_
          refine wp_V1 37 M_PM_refuse 1 d_PM_mean_34 rfl mv_PM_refuse lk_PM_112 rfl rfl rfl rfl rfl ?_
          refine c_PM_refuse ?_
          refine kI ?_
          refine wp_zreturn d_PM_mean_37 rfl (by first | rfl | exact nbP _) ?_
          exact hq0 1 (Or.inl ⟨fun z => z.2.2.2 (Int32.not_le.mp h29), rfl⟩)

set_option maxRecDepth 100000 in
set_option maxHeartbeats 4000000 in
theorem c_PM_mark (J : dOK D) (hK : nK ≤ 3) (hq0 : ¬ nK < 3 → Q (some (.int (-1))) (hPM Y X T S M D E N C U W G L VL HL nK (4) TP BT)) (hq1 : nK < 3 → Q (some (.int (nI (nK + 1)))) (hPM Y X T S (updY M nK (tCp T (M nK))) D E (updY N nK (dCp D (N nK))) C U W G L VL HL (nK + 1) (0) TP BT)) : Call Γ M_PM_mark 2 0 0 [.ref 0] (hPM Y X T S M D E N C U W G L VL HL nK ST TP BT) Q := by
  refine call_intro (ls := [some (.ref 0)]) rfl rfl rfl ?_
  refine wp_aload_n 1 d_PM_mark_0 rfl rfl ?_
  refine wp_getfield 4 11 15 d_PM_mark_1 rfl fl_PM_93 rfl rfl ?_
  refine wp_iconst 5 3 d_PM_mark_4 rfl (by decide) ?_
  refine wp_icmp_lt 14 8 d_PM_mark_5 rfl (by decide) (fun h5 => ?_) (fun h5 => ?_)
  · have hk3 : nK < 3 := nI_ltN (b := 3) h5 (by omega) (by omega)
    refine wp_aload_n 15 d_PM_mark_14 rfl rfl ?_
    refine wp_getfield 18 11 6 d_PM_mark_15 rfl fl_PM_42 rfl rfl ?_
    refine wp_aload_n 19 d_PM_mark_18 rfl rfl ?_
    refine wp_getfield 22 11 15 d_PM_mark_19 rfl fl_PM_93 rfl rfl ?_
    rcases lt3 hk3 with rfl | rfl | rfl
    · refine wp_aaload 23 5 85 d_PM_mark_22 rfl rfl (fun _ => rfl) (vp_in_nI (by decide) (by decide)) rfl ?_
      refine wp_aload_n 24 d_PM_mark_23 rfl rfl ?_
      refine wp_getfield 27 11 2 d_PM_mark_24 rfl fl_PM_25 rfl rfl ?_
      refine ws_V1 (v1' := .ref 9) (b' := 0) 30 M_Town_copyFrom 1 [85, 86, 87, 88, 89, 90, 91, 92, 93, 8, 9, 10, 11, 12, 13, 14, 15, 16] ((hTTr (M 0) T)) d_PM_mark_27 rfl mv_Town_copyFrom lk_PM_172 rfl rfl rfl rfl rfl rfl rfl rfl rfl ?_
      refine c_Town_copyFrom ?_
      refine sV ?_
      simp only [putH, rC, sg, eV, List.map_cons, List.map_nil, List.set_cons_zero, List.set_cons_succ, List.length_cons, List.length_nil, List.getD_cons_zero, List.getD_cons_succ, Nat.zero_add, Nat.reduceAdd, Nat.reduceLT, if_true, ite_true]
      refine hEq (hPM Y X T S (updY M 0 (tCp T (M 0))) D E N C U W G L VL HL (0) ST TP BT) rfl ?_
      refine wp_aload_n 31 d_PM_mark_30 rfl rfl ?_
      refine wp_getfield 34 11 7 d_PM_mark_31 rfl fl_PM_46 rfl rfl ?_
      refine wp_aload_n 35 d_PM_mark_34 rfl rfl ?_
      refine wp_getfield 38 11 15 d_PM_mark_35 rfl fl_PM_93 rfl rfl ?_
      refine wp_aaload 39 6 94 d_PM_mark_38 rfl rfl (fun _ => rfl) (vp_in_nI (by decide) (by decide)) rfl ?_
      refine wp_aload_n 40 d_PM_mark_39 rfl rfl ?_
      refine wp_getfield 43 11 4 d_PM_mark_40 rfl fl_PM_35 rfl rfl ?_
      refine ws_V1 (v1' := .ref 4) (b' := 0) 46 M_Days_copyFrom 1 [94, 95, 96, 97, 26, 27, 28, 29] ((hDDr (N 0) D)) d_PM_mark_43 rfl mv_Days_copyFrom lk_PM_191 rfl rfl rfl rfl rfl rfl rfl rfl rfl ?_
      refine c_Days_copyFrom J.2.2 ?_
      refine sV ?_
      simp only [putH, rC, sg, eV, List.map_cons, List.map_nil, List.set_cons_zero, List.set_cons_succ, List.length_cons, List.length_nil, List.getD_cons_zero, List.getD_cons_succ, Nat.zero_add, Nat.reduceAdd, Nat.reduceLT, if_true, ite_true]
      refine hEq (hPM Y X T S (updY M 0 (tCp T (M 0))) D E (updY N 0 (dCp D (N 0))) C U W G L VL HL (0) ST TP BT) rfl ?_
      refine wp_aload_n 47 d_PM_mark_46 rfl rfl ?_
      refine wp_dup 48 d_PM_mark_47 rfl rfl ?_
      refine wp_getfield 51 11 15 d_PM_mark_48 rfl fl_PM_93 rfl rfl ?_
      refine wp_iconst 52 1 d_PM_mark_51 rfl (by decide) ?_
      refine wp_iadd 53 d_PM_mark_52 rfl ?_
      refine wp_putfield 56 11 15 _ d_PM_mark_53 rfl fp_PM_93 rfl rfl (okP_int _) ?_
      rw [nI_1]
      refine hEq (hPM Y X T S (updY M 0 (tCp T (M 0))) D E (updY N 0 (dCp D (N 0))) C U W G L VL HL (0 + 1) ST TP BT) rfl ?_
      refine wp_aload_n 57 d_PM_mark_56 rfl rfl ?_
      refine wp_aload_n 58 d_PM_mark_57 rfl rfl ?_
      refine wp_getfield 61 11 15 d_PM_mark_58 rfl fl_PM_93 rfl rfl ?_
      refine wp_V1 64 M_PM_answer 1 d_PM_mark_61 rfl mv_PM_answer lk_PM_182 rfl rfl rfl rfl rfl ?_
      refine c_PM_answer ?_
      refine kI ?_
      refine wp_ireturn d_PM_mark_64 rfl ?_
      exact hq1 hk3
    · refine wp_aaload 23 5 98 d_PM_mark_22 rfl rfl (fun _ => rfl) (vp_in_nI (by decide) (by decide)) rfl ?_
      refine wp_aload_n 24 d_PM_mark_23 rfl rfl ?_
      refine wp_getfield 27 11 2 d_PM_mark_24 rfl fl_PM_25 rfl rfl ?_
      refine ws_V1 (v1' := .ref 9) (b' := 0) 30 M_Town_copyFrom 1 [98, 99, 100, 101, 102, 103, 104, 105, 106, 8, 9, 10, 11, 12, 13, 14, 15, 16] ((hTTr (M 1) T)) d_PM_mark_27 rfl mv_Town_copyFrom lk_PM_172 rfl rfl rfl rfl rfl rfl rfl rfl rfl ?_
      refine c_Town_copyFrom ?_
      refine sV ?_
      simp only [putH, rC, sg, eV, List.map_cons, List.map_nil, List.set_cons_zero, List.set_cons_succ, List.length_cons, List.length_nil, List.getD_cons_zero, List.getD_cons_succ, Nat.zero_add, Nat.reduceAdd, Nat.reduceLT, if_true, ite_true]
      refine hEq (hPM Y X T S (updY M 1 (tCp T (M 1))) D E N C U W G L VL HL (1) ST TP BT) rfl ?_
      refine wp_aload_n 31 d_PM_mark_30 rfl rfl ?_
      refine wp_getfield 34 11 7 d_PM_mark_31 rfl fl_PM_46 rfl rfl ?_
      refine wp_aload_n 35 d_PM_mark_34 rfl rfl ?_
      refine wp_getfield 38 11 15 d_PM_mark_35 rfl fl_PM_93 rfl rfl ?_
      refine wp_aaload 39 6 107 d_PM_mark_38 rfl rfl (fun _ => rfl) (vp_in_nI (by decide) (by decide)) rfl ?_
      refine wp_aload_n 40 d_PM_mark_39 rfl rfl ?_
      refine wp_getfield 43 11 4 d_PM_mark_40 rfl fl_PM_35 rfl rfl ?_
      refine ws_V1 (v1' := .ref 4) (b' := 0) 46 M_Days_copyFrom 1 [107, 108, 109, 110, 26, 27, 28, 29] ((hDDr (N 1) D)) d_PM_mark_43 rfl mv_Days_copyFrom lk_PM_191 rfl rfl rfl rfl rfl rfl rfl rfl rfl ?_
      refine c_Days_copyFrom J.2.2 ?_
      refine sV ?_
      simp only [putH, rC, sg, eV, List.map_cons, List.map_nil, List.set_cons_zero, List.set_cons_succ, List.length_cons, List.length_nil, List.getD_cons_zero, List.getD_cons_succ, Nat.zero_add, Nat.reduceAdd, Nat.reduceLT, if_true, ite_true]
      refine hEq (hPM Y X T S (updY M 1 (tCp T (M 1))) D E (updY N 1 (dCp D (N 1))) C U W G L VL HL (1) ST TP BT) rfl ?_
      refine wp_aload_n 47 d_PM_mark_46 rfl rfl ?_
      refine wp_dup 48 d_PM_mark_47 rfl rfl ?_
      refine wp_getfield 51 11 15 d_PM_mark_48 rfl fl_PM_93 rfl rfl ?_
      refine wp_iconst 52 1 d_PM_mark_51 rfl (by decide) ?_
      refine wp_iadd 53 d_PM_mark_52 rfl ?_
      refine wp_putfield 56 11 15 _ d_PM_mark_53 rfl fp_PM_93 rfl rfl (okP_int _) ?_
      rw [nI_1]
      refine hEq (hPM Y X T S (updY M 1 (tCp T (M 1))) D E (updY N 1 (dCp D (N 1))) C U W G L VL HL (1 + 1) ST TP BT) rfl ?_
      refine wp_aload_n 57 d_PM_mark_56 rfl rfl ?_
      refine wp_aload_n 58 d_PM_mark_57 rfl rfl ?_
      refine wp_getfield 61 11 15 d_PM_mark_58 rfl fl_PM_93 rfl rfl ?_
      refine wp_V1 64 M_PM_answer 1 d_PM_mark_61 rfl mv_PM_answer lk_PM_182 rfl rfl rfl rfl rfl ?_
      refine c_PM_answer ?_
      refine kI ?_
      refine wp_ireturn d_PM_mark_64 rfl ?_
      exact hq1 hk3
    · refine wp_aaload 23 5 111 d_PM_mark_22 rfl rfl (fun _ => rfl) (vp_in_nI (by decide) (by decide)) rfl ?_
      refine wp_aload_n 24 d_PM_mark_23 rfl rfl ?_
      refine wp_getfield 27 11 2 d_PM_mark_24 rfl fl_PM_25 rfl rfl ?_
      refine ws_V1 (v1' := .ref 9) (b' := 0) 30 M_Town_copyFrom 1 [111, 112, 113, 114, 115, 116, 117, 118, 119, 8, 9, 10, 11, 12, 13, 14, 15, 16] ((hTTr (M 2) T)) d_PM_mark_27 rfl mv_Town_copyFrom lk_PM_172 rfl rfl rfl rfl rfl rfl rfl rfl rfl ?_
      refine c_Town_copyFrom ?_
      refine sV ?_
      simp only [putH, rC, sg, eV, List.map_cons, List.map_nil, List.set_cons_zero, List.set_cons_succ, List.length_cons, List.length_nil, List.getD_cons_zero, List.getD_cons_succ, Nat.zero_add, Nat.reduceAdd, Nat.reduceLT, if_true, ite_true]
      refine hEq (hPM Y X T S (updY M 2 (tCp T (M 2))) D E N C U W G L VL HL (2) ST TP BT) rfl ?_
      refine wp_aload_n 31 d_PM_mark_30 rfl rfl ?_
      refine wp_getfield 34 11 7 d_PM_mark_31 rfl fl_PM_46 rfl rfl ?_
      refine wp_aload_n 35 d_PM_mark_34 rfl rfl ?_
      refine wp_getfield 38 11 15 d_PM_mark_35 rfl fl_PM_93 rfl rfl ?_
      refine wp_aaload 39 6 120 d_PM_mark_38 rfl rfl (fun _ => rfl) (vp_in_nI (by decide) (by decide)) rfl ?_
      refine wp_aload_n 40 d_PM_mark_39 rfl rfl ?_
      refine wp_getfield 43 11 4 d_PM_mark_40 rfl fl_PM_35 rfl rfl ?_
      refine ws_V1 (v1' := .ref 4) (b' := 0) 46 M_Days_copyFrom 1 [120, 121, 122, 123, 26, 27, 28, 29] ((hDDr (N 2) D)) d_PM_mark_43 rfl mv_Days_copyFrom lk_PM_191 rfl rfl rfl rfl rfl rfl rfl rfl rfl ?_
      refine c_Days_copyFrom J.2.2 ?_
      refine sV ?_
      simp only [putH, rC, sg, eV, List.map_cons, List.map_nil, List.set_cons_zero, List.set_cons_succ, List.length_cons, List.length_nil, List.getD_cons_zero, List.getD_cons_succ, Nat.zero_add, Nat.reduceAdd, Nat.reduceLT, if_true, ite_true]
      refine hEq (hPM Y X T S (updY M 2 (tCp T (M 2))) D E (updY N 2 (dCp D (N 2))) C U W G L VL HL (2) ST TP BT) rfl ?_
      refine wp_aload_n 47 d_PM_mark_46 rfl rfl ?_
      refine wp_dup 48 d_PM_mark_47 rfl rfl ?_
      refine wp_getfield 51 11 15 d_PM_mark_48 rfl fl_PM_93 rfl rfl ?_
      refine wp_iconst 52 1 d_PM_mark_51 rfl (by decide) ?_
      refine wp_iadd 53 d_PM_mark_52 rfl ?_
      refine wp_putfield 56 11 15 _ d_PM_mark_53 rfl fp_PM_93 rfl rfl (okP_int _) ?_
      rw [nI_1]
      refine hEq (hPM Y X T S (updY M 2 (tCp T (M 2))) D E (updY N 2 (dCp D (N 2))) C U W G L VL HL (2 + 1) ST TP BT) rfl ?_
      refine wp_aload_n 57 d_PM_mark_56 rfl rfl ?_
      refine wp_aload_n 58 d_PM_mark_57 rfl rfl ?_
      refine wp_getfield 61 11 15 d_PM_mark_58 rfl fl_PM_93 rfl rfl ?_
      refine wp_V1 64 M_PM_answer 1 d_PM_mark_61 rfl mv_PM_answer lk_PM_182 rfl rfl rfl rfl rfl ?_
      refine c_PM_answer ?_
      refine kI ?_
      refine wp_ireturn d_PM_mark_64 rfl ?_
      exact hq1 hk3
  · refine wp_aload_n 9 d_PM_mark_8 rfl rfl ?_
    refine wp_iconst 10 4 d_PM_mark_9 rfl (by decide) ?_
    refine wp_V1 13 M_PM_fail 1 d_PM_mark_10 rfl mv_PM_fail lk_PM_132 rfl rfl rfl rfl rfl ?_
    refine c_PM_fail ?_
    refine kI ?_
    refine wp_ireturn d_PM_mark_13 rfl ?_
    exact hq0 (fun z => h5 (show nI nK < nI 3 from (nI_ltI (by omega) (by omega)).mpr z))

set_option maxRecDepth 100000 in
set_option maxHeartbeats 4000000 in
theorem c_PM_undo (JN : ∀ k, dOK (N k)) (hK : nK ≤ 3) (hq0 : ¬ 0 < nK → Q (some (.int (-1))) (hPM Y X T S M D E N C U W G L VL HL nK (6) TP BT)) (hq1 : 0 < nK → Q (some (.int (nI (nK - 1)))) (hPM Y X (tCp (M (nK - 1)) T) S M (dCp (N (nK - 1)) D) E N C U W G L VL HL (nK - 1) (0) TP BT)) : Call Γ M_PM_undo 2 0 0 [.ref 0] (hPM Y X T S M D E N C U W G L VL HL nK ST TP BT) Q := by
  refine call_intro (ls := [some (.ref 0)]) rfl rfl rfl ?_
  refine wp_aload_n 1 d_PM_undo_0 rfl rfl ?_
  refine wp_getfield 4 11 15 d_PM_undo_1 rfl fl_PM_93 rfl rfl ?_
  refine wp_if_gt 14 7 d_PM_undo_4 rfl (by decide) (fun h4 => ?_) (fun h4 => ?_)
  · have hk0 : 0 < nK := nI_ltN (a := 0) h4 (by omega) (by omega)
    refine wp_aload_n 15 d_PM_undo_14 rfl rfl ?_
    refine wp_dup 16 d_PM_undo_15 rfl rfl ?_
    refine wp_getfield 19 11 15 d_PM_undo_16 rfl fl_PM_93 rfl rfl ?_
    refine wp_iconst 20 1 d_PM_undo_19 rfl (by decide) ?_
    refine wp_isub 21 d_PM_undo_20 rfl ?_
    rw [show nI nK - 1 = nI (nK - 1) from nI_subN (a := nK) (b := 1) hk0]
    refine wp_putfield 24 11 15 _ d_PM_undo_21 rfl fp_PM_93 rfl rfl (okP_int _) ?_
    refine hEq (hPM Y X T S M D E N C U W G L VL HL (nK - 1) ST TP BT) rfl ?_
    refine wp_aload_n 25 d_PM_undo_24 rfl rfl ?_
    refine wp_getfield 28 11 2 d_PM_undo_25 rfl fl_PM_25 rfl rfl ?_
    refine wp_aload_n 29 d_PM_undo_28 rfl rfl ?_
    refine wp_getfield 32 11 6 d_PM_undo_29 rfl fl_PM_42 rfl rfl ?_
    refine wp_aload_n 33 d_PM_undo_32 rfl rfl ?_
    refine wp_getfield 36 11 15 d_PM_undo_33 rfl fl_PM_93 rfl rfl ?_
    rcases gt3 hk0 hK with rfl | rfl | rfl
    · refine wp_aaload 37 5 85 d_PM_undo_36 rfl rfl (fun _ => rfl) (vp_in_nI (by decide) (by decide)) rfl ?_
      refine ws_V1 (v1' := .ref 9) (b' := 0) 40 M_Town_copyFrom 1 [8, 9, 10, 11, 12, 13, 14, 15, 16, 85, 86, 87, 88, 89, 90, 91, 92, 93] ((hTTr T (M 0))) d_PM_undo_37 rfl mv_Town_copyFrom lk_PM_172 rfl rfl rfl rfl rfl rfl rfl rfl rfl ?_
      refine c_Town_copyFrom ?_
      refine sV ?_
      simp only [putH, rC, sg, eV, List.map_cons, List.map_nil, List.set_cons_zero, List.set_cons_succ, List.length_cons, List.length_nil, List.getD_cons_zero, List.getD_cons_succ, Nat.zero_add, Nat.reduceAdd, Nat.reduceLT, if_true, ite_true]
      refine hEq (hPM Y X (tCp (M 0) T) S M D E N C U W G L VL HL (0) ST TP BT) rfl ?_
      refine wp_aload_n 41 d_PM_undo_40 rfl rfl ?_
      refine wp_getfield 44 11 4 d_PM_undo_41 rfl fl_PM_35 rfl rfl ?_
      refine wp_aload_n 45 d_PM_undo_44 rfl rfl ?_
      refine wp_getfield 48 11 7 d_PM_undo_45 rfl fl_PM_46 rfl rfl ?_
      refine wp_aload_n 49 d_PM_undo_48 rfl rfl ?_
      refine wp_getfield 52 11 15 d_PM_undo_49 rfl fl_PM_93 rfl rfl ?_
      refine wp_aaload 53 6 94 d_PM_undo_52 rfl rfl (fun _ => rfl) (vp_in_nI (by decide) (by decide)) rfl ?_
      refine ws_V1 (v1' := .ref 4) (b' := 0) 56 M_Days_copyFrom 1 [26, 27, 28, 29, 94, 95, 96, 97] ((hDDr D (N 0))) d_PM_undo_53 rfl mv_Days_copyFrom lk_PM_191 rfl rfl rfl rfl rfl rfl rfl rfl rfl ?_
      refine c_Days_copyFrom (JN 0).2.2 ?_
      refine sV ?_
      simp only [putH, rC, sg, eV, List.map_cons, List.map_nil, List.set_cons_zero, List.set_cons_succ, List.length_cons, List.length_nil, List.getD_cons_zero, List.getD_cons_succ, Nat.zero_add, Nat.reduceAdd, Nat.reduceLT, if_true, ite_true]
      refine hEq (hPM Y X (tCp (M 0) T) S M (dCp (N 0) D) E N C U W G L VL HL (0) ST TP BT) rfl ?_
      refine wp_aload_n 57 d_PM_undo_56 rfl rfl ?_
      refine wp_aload_n 58 d_PM_undo_57 rfl rfl ?_
      refine wp_getfield 61 11 15 d_PM_undo_58 rfl fl_PM_93 rfl rfl ?_
      refine wp_V1 64 M_PM_answer 1 d_PM_undo_61 rfl mv_PM_answer lk_PM_182 rfl rfl rfl rfl rfl ?_
      refine c_PM_answer ?_
      refine kI ?_
      refine wp_ireturn d_PM_undo_64 rfl ?_
      exact hq1 hk0
    · refine wp_aaload 37 5 98 d_PM_undo_36 rfl rfl (fun _ => rfl) (vp_in_nI (by decide) (by decide)) rfl ?_
      refine ws_V1 (v1' := .ref 9) (b' := 0) 40 M_Town_copyFrom 1 [8, 9, 10, 11, 12, 13, 14, 15, 16, 98, 99, 100, 101, 102, 103, 104, 105, 106] ((hTTr T (M 1))) d_PM_undo_37 rfl mv_Town_copyFrom lk_PM_172 rfl rfl rfl rfl rfl rfl rfl rfl rfl ?_
      refine c_Town_copyFrom ?_
      refine sV ?_
      simp only [putH, rC, sg, eV, List.map_cons, List.map_nil, List.set_cons_zero, List.set_cons_succ, List.length_cons, List.length_nil, List.getD_cons_zero, List.getD_cons_succ, Nat.zero_add, Nat.reduceAdd, Nat.reduceLT, if_true, ite_true]
      refine hEq (hPM Y X (tCp (M 1) T) S M D E N C U W G L VL HL (1) ST TP BT) rfl ?_
      refine wp_aload_n 41 d_PM_undo_40 rfl rfl ?_
      refine wp_getfield 44 11 4 d_PM_undo_41 rfl fl_PM_35 rfl rfl ?_
      refine wp_aload_n 45 d_PM_undo_44 rfl rfl ?_
      refine wp_getfield 48 11 7 d_PM_undo_45 rfl fl_PM_46 rfl rfl ?_
      refine wp_aload_n 49 d_PM_undo_48 rfl rfl ?_
      refine wp_getfield 52 11 15 d_PM_undo_49 rfl fl_PM_93 rfl rfl ?_
      refine wp_aaload 53 6 107 d_PM_undo_52 rfl rfl (fun _ => rfl) (vp_in_nI (by decide) (by decide)) rfl ?_
      refine ws_V1 (v1' := .ref 4) (b' := 0) 56 M_Days_copyFrom 1 [26, 27, 28, 29, 107, 108, 109, 110] ((hDDr D (N 1))) d_PM_undo_53 rfl mv_Days_copyFrom lk_PM_191 rfl rfl rfl rfl rfl rfl rfl rfl rfl ?_
      refine c_Days_copyFrom (JN 1).2.2 ?_
      refine sV ?_
      simp only [putH, rC, sg, eV, List.map_cons, List.map_nil, List.set_cons_zero, List.set_cons_succ, List.length_cons, List.length_nil, List.getD_cons_zero, List.getD_cons_succ, Nat.zero_add, Nat.reduceAdd, Nat.reduceLT, if_true, ite_true]
      refine hEq (hPM Y X (tCp (M 1) T) S M (dCp (N 1) D) E N C U W G L VL HL (1) ST TP BT) rfl ?_
      refine wp_aload_n 57 d_PM_undo_56 rfl rfl ?_
      refine wp_aload_n 58 d_PM_undo_57 rfl rfl ?_
      refine wp_getfield 61 11 15 d_PM_undo_58 rfl fl_PM_93 rfl rfl ?_
      refine wp_V1 64 M_PM_answer 1 d_PM_undo_61 rfl mv_PM_answer lk_PM_182 rfl rfl rfl rfl rfl ?_
      refine c_PM_answer ?_
      refine kI ?_
      refine wp_ireturn d_PM_undo_64 rfl ?_
      exact hq1 hk0
    · refine wp_aaload 37 5 111 d_PM_undo_36 rfl rfl (fun _ => rfl) (vp_in_nI (by decide) (by decide)) rfl ?_
      refine ws_V1 (v1' := .ref 9) (b' := 0) 40 M_Town_copyFrom 1 [8, 9, 10, 11, 12, 13, 14, 15, 16, 111, 112, 113, 114, 115, 116, 117, 118, 119] ((hTTr T (M 2))) d_PM_undo_37 rfl mv_Town_copyFrom lk_PM_172 rfl rfl rfl rfl rfl rfl rfl rfl rfl ?_
      refine c_Town_copyFrom ?_
      refine sV ?_
      simp only [putH, rC, sg, eV, List.map_cons, List.map_nil, List.set_cons_zero, List.set_cons_succ, List.length_cons, List.length_nil, List.getD_cons_zero, List.getD_cons_succ, Nat.zero_add, Nat.reduceAdd, Nat.reduceLT, if_true, ite_true]
      refine hEq (hPM Y X (tCp (M 2) T) S M D E N C U W G L VL HL (2) ST TP BT) rfl ?_
      refine wp_aload_n 41 d_PM_undo_40 rfl rfl ?_
      refine wp_getfield 44 11 4 d_PM_undo_41 rfl fl_PM_35 rfl rfl ?_
      refine wp_aload_n 45 d_PM_undo_44 rfl rfl ?_
      refine wp_getfield 48 11 7 d_PM_undo_45 rfl fl_PM_46 rfl rfl ?_
      refine wp_aload_n 49 d_PM_undo_48 rfl rfl ?_
      refine wp_getfield 52 11 15 d_PM_undo_49 rfl fl_PM_93 rfl rfl ?_
      refine wp_aaload 53 6 120 d_PM_undo_52 rfl rfl (fun _ => rfl) (vp_in_nI (by decide) (by decide)) rfl ?_
      refine ws_V1 (v1' := .ref 4) (b' := 0) 56 M_Days_copyFrom 1 [26, 27, 28, 29, 120, 121, 122, 123] ((hDDr D (N 2))) d_PM_undo_53 rfl mv_Days_copyFrom lk_PM_191 rfl rfl rfl rfl rfl rfl rfl rfl rfl ?_
      refine c_Days_copyFrom (JN 2).2.2 ?_
      refine sV ?_
      simp only [putH, rC, sg, eV, List.map_cons, List.map_nil, List.set_cons_zero, List.set_cons_succ, List.length_cons, List.length_nil, List.getD_cons_zero, List.getD_cons_succ, Nat.zero_add, Nat.reduceAdd, Nat.reduceLT, if_true, ite_true]
      refine hEq (hPM Y X (tCp (M 2) T) S M (dCp (N 2) D) E N C U W G L VL HL (2) ST TP BT) rfl ?_
      refine wp_aload_n 57 d_PM_undo_56 rfl rfl ?_
      refine wp_aload_n 58 d_PM_undo_57 rfl rfl ?_
      refine wp_getfield 61 11 15 d_PM_undo_58 rfl fl_PM_93 rfl rfl ?_
      refine wp_V1 64 M_PM_answer 1 d_PM_undo_61 rfl mv_PM_answer lk_PM_182 rfl rfl rfl rfl rfl ?_
      refine c_PM_answer ?_
      refine kI ?_
      refine wp_ireturn d_PM_undo_64 rfl ?_
      exact hq1 hk0
  · refine wp_aload_n 8 d_PM_undo_7 rfl rfl ?_
    refine wp_bipush 10 6 d_PM_undo_8 rfl (by decide) ?_
    refine wp_V1 13 M_PM_fail 1 d_PM_undo_10 rfl mv_PM_fail lk_PM_132 rfl rfl rfl rfl rfl ?_
    refine c_PM_fail ?_
    refine kI ?_
    refine wp_ireturn d_PM_undo_13 rfl ?_
    exact hq0 (fun z => h4 (show nI 0 < nI nK from (nI_ltI (by omega) (by omega)).mpr z))

set_option maxRecDepth 100000 in
set_option maxHeartbeats 4000000 in
theorem c_PM_pour {f p t a m : Int32} (hY : ∀ k, (Y k).nM ≤ 60) (hq0 : ∀ v, poS Y f p t a m = v → ¬ v = 0 → Q (some (.int 0)) (hPM Y X T S M D E N C U W G L VL HL nK (v) TP BT)) (hq1 : poS Y f p t a m = 0 → Q (some (.int 1)) (hPM (poY Y f.toNatClampNeg p.toNatClampNeg t.toNatClampNeg a.toNatClampNeg m.toNatClampNeg) X T S M D E N C U W G L VL HL nK (0) TP BT)) : Call Γ M_PM_pour 2 0 0 [.ref 0, .int f, .int p, .int t, .int a, .int m] (hPM Y X T S M D E N C U W G L VL HL nK ST TP BT) Q := by
  refine call_intro (ls := [some (.ref 0), some (.int f), some (.int p), some (.int t), some (.int a), some (.int m), none, none]) rfl rfl rfl ?_
  refine wp_iload_n 1 d_PM_pour_0 rfl rfl ?_
  refine wp_iconst 2 4 d_PM_pour_1 rfl (by decide) ?_
  refine wp_S2 5 M_PM_within 1 d_PM_pour_2 rfl ms_PM_within lk_PM_108 rfl rfl ?_
  refine c_PM_within ?_
  refine kI ?_
  (first | refine wp_ifP_eq 30 8 d_PM_pour_5 rfl (by decide) (fun h5 => ?_) (fun h5 => ?_) | refine wp_if_eq 30 8 d_PM_pour_5 rfl (by decide) (fun h5 => ?_) (fun h5 => ?_))
  · refine wp_aload_n 31 d_PM_pour_30 rfl rfl ?_
    refine wp_iconst 32 1 d_PM_pour_31 rfl (by decide) ?_
    refine wp_V1 35 M_PM_refuse 1 d_PM_pour_32 rfl mv_PM_refuse lk_PM_112 rfl rfl rfl rfl rfl ?_
    refine c_PM_refuse ?_
    refine kI ?_
    refine wp_zreturn d_PM_pour_35 rfl (by first | rfl | exact nbP _) ?_
    have e : poS Y f p t a m = 1 := if_neg (fun z => h5 z.1)
    exact hq0 1 e (by decide)
  · refine wp_iload_n 9 d_PM_pour_8 rfl rfl ?_
    refine wp_iconst 10 4 d_PM_pour_9 rfl (by decide) ?_
    refine wp_S2 13 M_PM_within 1 d_PM_pour_10 rfl ms_PM_within lk_PM_108 rfl rfl ?_
    refine c_PM_within ?_
    refine kI ?_
    (first | refine wp_ifP_eq 30 16 d_PM_pour_13 rfl (by decide) (fun h13 => ?_) (fun h13 => ?_) | refine wp_if_eq 30 16 d_PM_pour_13 rfl (by decide) (fun h13 => ?_) (fun h13 => ?_))
    · refine wp_aload_n 31 d_PM_pour_30 rfl rfl ?_
      refine wp_iconst 32 1 d_PM_pour_31 rfl (by decide) ?_
      refine wp_V1 35 M_PM_refuse 1 d_PM_pour_32 rfl mv_PM_refuse lk_PM_112 rfl rfl rfl rfl rfl ?_
      refine c_PM_refuse ?_
      refine kI ?_
      refine wp_zreturn d_PM_pour_35 rfl (by first | rfl | exact nbP _) ?_
      have e : poS Y f p t a m = 1 := if_neg (fun z => h13 z.2.1)
      exact hq0 1 e (by decide)
    · refine wp_iload_n 17 d_PM_pour_16 rfl rfl ?_
      refine wp_if_lt 30 20 d_PM_pour_17 rfl (by decide) (fun h17 => ?_) (fun h17 => ?_)
      · refine wp_aload_n 31 d_PM_pour_30 rfl rfl ?_
        refine wp_iconst 32 1 d_PM_pour_31 rfl (by decide) ?_
        refine wp_V1 35 M_PM_refuse 1 d_PM_pour_32 rfl mv_PM_refuse lk_PM_112 rfl rfl rfl rfl rfl ?_
        refine c_PM_refuse ?_
        refine kI ?_
        refine wp_zreturn d_PM_pour_35 rfl (by first | rfl | exact nbP _) ?_
        have e : poS Y f p t a m = 1 := if_neg (fun z => z.2.2.1 h17)
        exact hq0 1 e (by decide)
      · refine wp_iload 22 d_PM_pour_20 rfl rfl ?_
        refine wp_if_lt 30 25 d_PM_pour_22 rfl (by decide) (fun h22 => ?_) (fun h22 => ?_)
        · refine wp_aload_n 31 d_PM_pour_30 rfl rfl ?_
          refine wp_iconst 32 1 d_PM_pour_31 rfl (by decide) ?_
          refine wp_V1 35 M_PM_refuse 1 d_PM_pour_32 rfl mv_PM_refuse lk_PM_112 rfl rfl rfl rfl rfl ?_
          refine c_PM_refuse ?_
          refine kI ?_
          refine wp_zreturn d_PM_pour_35 rfl (by first | rfl | exact nbP _) ?_
          have e : poS Y f p t a m = 1 := if_neg (fun z => z.2.2.2.1 h22)
          exact hq0 1 e (by decide)
        · refine wp_iload 27 d_PM_pour_25 rfl rfl ?_
          refine wp_if_ge 36 30 d_PM_pour_27 rfl (by decide) (fun h27 => ?_) (fun h27 => ?_)
          · obtain ⟨p, hp, rfl⟩ := nI_of h17
            obtain ⟨a, ha, rfl⟩ := nI_of h22
            obtain ⟨m, hm, rfl⟩ := nI_of (Int32.not_lt.mpr h27)
            refine wp_aload_n 37 d_PM_pour_36 rfl rfl ?_
            refine wp_getfield 40 11 0 d_PM_pour_37 rfl fl_PM_11 rfl rfl ?_
            refine wp_iload_n 41 d_PM_pour_40 rfl rfl ?_
            rcases inR4 h5 with rfl | rfl | rfl | rfl
            · refine wp_aaload 42 4 77 d_PM_pour_41 rfl rfl (fun _ => rfl) (vp_in_nI (by decide) (by decide)) rfl ?_
              refine wp_astore_6 44 d_PM_pour_42 rfl rfl rfl ?_
              refine wp_aload_n 45 d_PM_pour_44 rfl rfl ?_
              refine wp_getfield 48 11 0 d_PM_pour_45 rfl fl_PM_11 rfl rfl ?_
              refine wp_iload_n 49 d_PM_pour_48 rfl rfl ?_
              rcases inR4 h13 with rfl | rfl | rfl | rfl
              · refine wp_aaload 50 4 77 d_PM_pour_49 rfl rfl (fun _ => rfl) (vp_in_nI (by decide) (by decide)) rfl ?_
                refine wp_astore_7 52 d_PM_pour_50 rfl rfl rfl ?_
                refine wp_aload 54 d_PM_pour_52 rfl rfl ?_
                refine wp_getfield 57 10 1 d_PM_pour_54 rfl fl_PM_140 rfl rfl ?_
                refine wp_if_eq 68 60 d_PM_pour_57 rfl (by decide) (fun h57 => ?_) (fun h57 => ?_)
                · refine wp_aload_n 69 d_PM_pour_68 rfl rfl ?_
                  refine wp_iconst 70 2 d_PM_pour_69 rfl (by decide) ?_
                  refine wp_V1 73 M_PM_refuse 1 d_PM_pour_70 rfl mv_PM_refuse lk_PM_112 rfl rfl rfl rfl rfl ?_
                  refine c_PM_refuse ?_
                  refine kI ?_
                  refine wp_zreturn d_PM_pour_73 rfl (by first | rfl | exact nbP _) ?_
                  have e : poS Y (nI 0) (nI p) (nI 0) (nI a) (nI m) = 2 := ((if_pos ⟨h5, h13, h17, h22, Int32.not_lt.mpr h27⟩).trans (if_pos (Or.inl h57)))
                  exact hq0 2 e (by decide)
                · refine wp_aload 62 d_PM_pour_60 rfl rfl ?_
                  refine wp_getfield 65 10 1 d_PM_pour_62 rfl fl_PM_140 rfl rfl ?_
                  refine wp_if_ne 74 68 d_PM_pour_65 rfl (by decide) (fun h65 => ?_) (fun h65 => ?_)
                  · refine wp_aload 76 d_PM_pour_74 rfl rfl ?_
                    refine wp_getfield 79 10 2 d_PM_pour_76 rfl fl_PM_143 rfl rfl ?_
                    refine wp_aload 81 d_PM_pour_79 rfl rfl ?_
                    refine wp_getfield 84 10 2 d_PM_pour_81 rfl fl_PM_143 rfl rfl ?_
                    refine wp_icmp_eq 94 87 d_PM_pour_84 rfl (by decide) (fun h84 => ?_) (fun h84 => ?_)
                    · refine wp_aload 96 d_PM_pour_94 rfl rfl ?_
                      refine wp_iload_n 97 d_PM_pour_96 rfl rfl ?_
                      refine wp_iload 99 d_PM_pour_97 rfl rfl ?_
                      refine ws_V2 (b' := 0) 102 M_Tray_holds 1 [77, 78] ((hYr (Y 0))) d_PM_pour_99 rfl mv_Tray_holds lk_PM_146 rfl rfl rfl rfl rfl rfl rfl (eV_int _ _) (eV_int _ _) rfl ?_
                      refine c_Tray_holds ?_
                      refine sIr rfl rfl ?_
                      (first | refine wp_ifP_eq 117 105 d_PM_pour_102 rfl (by decide) (fun h102 => ?_) (fun h102 => ?_) | refine wp_if_eq 117 105 d_PM_pour_102 rfl (by decide) (fun h102 => ?_) (fun h102 => ?_))
                      · refine wp_aload_n 118 d_PM_pour_117 rfl rfl ?_
                        refine wp_iconst 119 3 d_PM_pour_118 rfl (by decide) ?_
                        refine wp_V1 122 M_PM_refuse 1 d_PM_pour_119 rfl mv_PM_refuse lk_PM_112 rfl rfl rfl rfl rfl ?_
                        refine c_PM_refuse ?_
                        refine kI ?_
                        refine wp_zreturn d_PM_pour_122 rfl (by first | rfl | exact nbP _) ?_
                        have e : poS Y (nI 0) (nI p) (nI 0) (nI a) (nI m) = 3 := ((((if_pos ⟨h5, h13, h17, h22, Int32.not_lt.mpr h27⟩).trans (if_neg (fun z => z.elim h57 h65))).trans (if_neg (fun z => z h84))).trans (if_neg (fun z => h102 z.1)))
                        exact hq0 3 e (by decide)
                      · refine wp_aload 107 d_PM_pour_105 rfl rfl ?_
                        refine wp_iload 109 d_PM_pour_107 rfl rfl ?_
                        refine wp_iload 111 d_PM_pour_109 rfl rfl ?_
                        refine ws_V2 (b' := 0) 114 M_Tray_holds 1 [77, 78] ((hYr (Y 0))) d_PM_pour_111 rfl mv_Tray_holds lk_PM_146 rfl rfl rfl rfl rfl rfl rfl (eV_int _ _) (eV_int _ _) rfl ?_
                        refine c_Tray_holds ?_
                        refine sIr rfl rfl ?_
                        (first | refine wp_ifP_ne 123 117 d_PM_pour_114 rfl (by decide) (fun h114 => ?_) (fun h114 => ?_) | refine wp_if_ne 123 117 d_PM_pour_114 rfl (by decide) (fun h114 => ?_) (fun h114 => ?_))
                        · refine wp_aload 125 d_PM_pour_123 rfl rfl ?_
                          refine wp_getfield 128 10 0 d_PM_pour_125 rfl fl_PM_136 rfl rfl ?_
                          refine wp_iload_n 129 d_PM_pour_128 rfl rfl ?_
                          refine wp_aload 131 d_PM_pour_129 rfl rfl ?_
                          refine wp_getfield 134 10 0 d_PM_pour_131 rfl fl_PM_136 rfl rfl ?_
                          refine wp_iload 136 d_PM_pour_134 rfl rfl ?_
                          refine wp_iload 138 d_PM_pour_136 rfl rfl ?_
                          have hY1 := hY 0
                          have hY2 := hY 0
                          have g1 := (sum64 (by omega) (by omega) (by omega)).mp h102
                          have g2 := (sum64 (by omega) (by omega) (by omega)).mp h114
                          refine wp_acopyJ (i := p) (j := a) (n := m) 141 d_PM_pour_138 rfl lk_PM_149 rfl rfl ⟨rfl, rfl⟩ (by omega) (by omega) (by decide) rfl ?_
                          dsimp only [List.set]
                          refine hEq (hPM (poY Y 0 p 0 a m) X T S M D E N C U W G L VL HL nK ST TP BT) rfl ?_
                          refine wp_aload_n 142 d_PM_pour_141 rfl rfl ?_
                          refine wp_V0 145 M_PM_accept 1 d_PM_pour_142 rfl mv_PM_accept lk_PM_120 rfl rfl rfl rfl rfl ?_
                          refine c_PM_accept ?_
                          refine kI ?_
                          refine wp_zreturn d_PM_pour_145 rfl (by first | rfl | exact nbP _) ?_
                          have e : poS Y (nI 0) (nI p) (nI 0) (nI a) (nI m) = 0 := ((((if_pos ⟨h5, h13, h17, h22, Int32.not_lt.mpr h27⟩).trans (if_neg (fun z => z.elim h57 h65))).trans (if_neg (fun z => z h84))).trans (if_pos ⟨h102, h114⟩))
                          have h9 := hq1 e
                          rw [nI_clamp (by omega : p < 2 ^ 31), nI_clamp (by omega : a < 2 ^ 31), nI_clamp (by omega : m < 2 ^ 31)] at h9
                          exact h9
                        · refine wp_aload_n 118 d_PM_pour_117 rfl rfl ?_
                          refine wp_iconst 119 3 d_PM_pour_118 rfl (by decide) ?_
                          refine wp_V1 122 M_PM_refuse 1 d_PM_pour_119 rfl mv_PM_refuse lk_PM_112 rfl rfl rfl rfl rfl ?_
                          refine c_PM_refuse ?_
                          refine kI ?_
                          refine wp_zreturn d_PM_pour_122 rfl (by first | rfl | exact nbP _) ?_
                          have e : poS Y (nI 0) (nI p) (nI 0) (nI a) (nI m) = 3 := ((((if_pos ⟨h5, h13, h17, h22, Int32.not_lt.mpr h27⟩).trans (if_neg (fun z => z.elim h57 h65))).trans (if_neg (fun z => z h84))).trans (if_neg (fun z => h114 z.2)))
                          exact hq0 3 e (by decide)
                    · refine wp_aload_n 88 d_PM_pour_87 rfl rfl ?_
                      refine wp_bipush 90 8 d_PM_pour_88 rfl (by decide) ?_
                      refine wp_V1 93 M_PM_refuse 1 d_PM_pour_90 rfl mv_PM_refuse lk_PM_112 rfl rfl rfl rfl rfl ?_
                      refine c_PM_refuse ?_
                      refine kI ?_
                      refine wp_zreturn d_PM_pour_93 rfl (by first | rfl | exact nbP _) ?_
                      have e : poS Y (nI 0) (nI p) (nI 0) (nI a) (nI m) = 8 := (((if_pos ⟨h5, h13, h17, h22, Int32.not_lt.mpr h27⟩).trans (if_neg (fun z => z.elim h57 h65))).trans (if_pos h84))
                      exact hq0 8 e (by decide)
                  · refine wp_aload_n 69 d_PM_pour_68 rfl rfl ?_
                    refine wp_iconst 70 2 d_PM_pour_69 rfl (by decide) ?_
                    refine wp_V1 73 M_PM_refuse 1 d_PM_pour_70 rfl mv_PM_refuse lk_PM_112 rfl rfl rfl rfl rfl ?_
                    refine c_PM_refuse ?_
                    refine kI ?_
                    refine wp_zreturn d_PM_pour_73 rfl (by first | rfl | exact nbP _) ?_
                    have e : poS Y (nI 0) (nI p) (nI 0) (nI a) (nI m) = 2 := ((if_pos ⟨h5, h13, h17, h22, Int32.not_lt.mpr h27⟩).trans (if_pos (Or.inr h65)))
                    exact hq0 2 e (by decide)
              · refine wp_aaload 50 4 79 d_PM_pour_49 rfl rfl (fun _ => rfl) (vp_in_nI (by decide) (by decide)) rfl ?_
                refine wp_astore_7 52 d_PM_pour_50 rfl rfl rfl ?_
                refine wp_aload 54 d_PM_pour_52 rfl rfl ?_
                refine wp_getfield 57 10 1 d_PM_pour_54 rfl fl_PM_140 rfl rfl ?_
                refine wp_if_eq 68 60 d_PM_pour_57 rfl (by decide) (fun h57 => ?_) (fun h57 => ?_)
                · refine wp_aload_n 69 d_PM_pour_68 rfl rfl ?_
                  refine wp_iconst 70 2 d_PM_pour_69 rfl (by decide) ?_
                  refine wp_V1 73 M_PM_refuse 1 d_PM_pour_70 rfl mv_PM_refuse lk_PM_112 rfl rfl rfl rfl rfl ?_
                  refine c_PM_refuse ?_
                  refine kI ?_
                  refine wp_zreturn d_PM_pour_73 rfl (by first | rfl | exact nbP _) ?_
                  have e : poS Y (nI 0) (nI p) (nI 1) (nI a) (nI m) = 2 := ((if_pos ⟨h5, h13, h17, h22, Int32.not_lt.mpr h27⟩).trans (if_pos (Or.inl h57)))
                  exact hq0 2 e (by decide)
                · refine wp_aload 62 d_PM_pour_60 rfl rfl ?_
                  refine wp_getfield 65 10 1 d_PM_pour_62 rfl fl_PM_140 rfl rfl ?_
                  refine wp_if_ne 74 68 d_PM_pour_65 rfl (by decide) (fun h65 => ?_) (fun h65 => ?_)
                  · refine wp_aload 76 d_PM_pour_74 rfl rfl ?_
                    refine wp_getfield 79 10 2 d_PM_pour_76 rfl fl_PM_143 rfl rfl ?_
                    refine wp_aload 81 d_PM_pour_79 rfl rfl ?_
                    refine wp_getfield 84 10 2 d_PM_pour_81 rfl fl_PM_143 rfl rfl ?_
                    refine wp_icmp_eq 94 87 d_PM_pour_84 rfl (by decide) (fun h84 => ?_) (fun h84 => ?_)
                    · refine wp_aload 96 d_PM_pour_94 rfl rfl ?_
                      refine wp_iload_n 97 d_PM_pour_96 rfl rfl ?_
                      refine wp_iload 99 d_PM_pour_97 rfl rfl ?_
                      refine ws_V2 (b' := 0) 102 M_Tray_holds 1 [77, 78] ((hYr (Y 0))) d_PM_pour_99 rfl mv_Tray_holds lk_PM_146 rfl rfl rfl rfl rfl rfl rfl (eV_int _ _) (eV_int _ _) rfl ?_
                      refine c_Tray_holds ?_
                      refine sIr rfl rfl ?_
                      (first | refine wp_ifP_eq 117 105 d_PM_pour_102 rfl (by decide) (fun h102 => ?_) (fun h102 => ?_) | refine wp_if_eq 117 105 d_PM_pour_102 rfl (by decide) (fun h102 => ?_) (fun h102 => ?_))
                      · refine wp_aload_n 118 d_PM_pour_117 rfl rfl ?_
                        refine wp_iconst 119 3 d_PM_pour_118 rfl (by decide) ?_
                        refine wp_V1 122 M_PM_refuse 1 d_PM_pour_119 rfl mv_PM_refuse lk_PM_112 rfl rfl rfl rfl rfl ?_
                        refine c_PM_refuse ?_
                        refine kI ?_
                        refine wp_zreturn d_PM_pour_122 rfl (by first | rfl | exact nbP _) ?_
                        have e : poS Y (nI 0) (nI p) (nI 1) (nI a) (nI m) = 3 := ((((if_pos ⟨h5, h13, h17, h22, Int32.not_lt.mpr h27⟩).trans (if_neg (fun z => z.elim h57 h65))).trans (if_neg (fun z => z h84))).trans (if_neg (fun z => h102 z.1)))
                        exact hq0 3 e (by decide)
                      · refine wp_aload 107 d_PM_pour_105 rfl rfl ?_
                        refine wp_iload 109 d_PM_pour_107 rfl rfl ?_
                        refine wp_iload 111 d_PM_pour_109 rfl rfl ?_
                        refine ws_V2 (b' := 0) 114 M_Tray_holds 1 [79, 80] ((hYr (Y 1))) d_PM_pour_111 rfl mv_Tray_holds lk_PM_146 rfl rfl rfl rfl rfl rfl rfl (eV_int _ _) (eV_int _ _) rfl ?_
                        refine c_Tray_holds ?_
                        refine sIr rfl rfl ?_
                        (first | refine wp_ifP_ne 123 117 d_PM_pour_114 rfl (by decide) (fun h114 => ?_) (fun h114 => ?_) | refine wp_if_ne 123 117 d_PM_pour_114 rfl (by decide) (fun h114 => ?_) (fun h114 => ?_))
                        · refine wp_aload 125 d_PM_pour_123 rfl rfl ?_
                          refine wp_getfield 128 10 0 d_PM_pour_125 rfl fl_PM_136 rfl rfl ?_
                          refine wp_iload_n 129 d_PM_pour_128 rfl rfl ?_
                          refine wp_aload 131 d_PM_pour_129 rfl rfl ?_
                          refine wp_getfield 134 10 0 d_PM_pour_131 rfl fl_PM_136 rfl rfl ?_
                          refine wp_iload 136 d_PM_pour_134 rfl rfl ?_
                          refine wp_iload 138 d_PM_pour_136 rfl rfl ?_
                          have hY1 := hY 0
                          have hY2 := hY 1
                          have g1 := (sum64 (by omega) (by omega) (by omega)).mp h102
                          have g2 := (sum64 (by omega) (by omega) (by omega)).mp h114
                          refine wp_acopyJ (i := p) (j := a) (n := m) 141 d_PM_pour_138 rfl lk_PM_149 rfl rfl ⟨rfl, rfl⟩ (by omega) (by omega) (by decide) rfl ?_
                          dsimp only [List.set]
                          refine hEq (hPM (poY Y 0 p 1 a m) X T S M D E N C U W G L VL HL nK ST TP BT) rfl ?_
                          refine wp_aload_n 142 d_PM_pour_141 rfl rfl ?_
                          refine wp_V0 145 M_PM_accept 1 d_PM_pour_142 rfl mv_PM_accept lk_PM_120 rfl rfl rfl rfl rfl ?_
                          refine c_PM_accept ?_
                          refine kI ?_
                          refine wp_zreturn d_PM_pour_145 rfl (by first | rfl | exact nbP _) ?_
                          have e : poS Y (nI 0) (nI p) (nI 1) (nI a) (nI m) = 0 := ((((if_pos ⟨h5, h13, h17, h22, Int32.not_lt.mpr h27⟩).trans (if_neg (fun z => z.elim h57 h65))).trans (if_neg (fun z => z h84))).trans (if_pos ⟨h102, h114⟩))
                          have h9 := hq1 e
                          rw [nI_clamp (by omega : p < 2 ^ 31), nI_clamp (by omega : a < 2 ^ 31), nI_clamp (by omega : m < 2 ^ 31)] at h9
                          exact h9
                        · refine wp_aload_n 118 d_PM_pour_117 rfl rfl ?_
                          refine wp_iconst 119 3 d_PM_pour_118 rfl (by decide) ?_
                          refine wp_V1 122 M_PM_refuse 1 d_PM_pour_119 rfl mv_PM_refuse lk_PM_112 rfl rfl rfl rfl rfl ?_
                          refine c_PM_refuse ?_
                          refine kI ?_
                          refine wp_zreturn d_PM_pour_122 rfl (by first | rfl | exact nbP _) ?_
                          have e : poS Y (nI 0) (nI p) (nI 1) (nI a) (nI m) = 3 := ((((if_pos ⟨h5, h13, h17, h22, Int32.not_lt.mpr h27⟩).trans (if_neg (fun z => z.elim h57 h65))).trans (if_neg (fun z => z h84))).trans (if_neg (fun z => h114 z.2)))
                          exact hq0 3 e (by decide)
                    · refine wp_aload_n 88 d_PM_pour_87 rfl rfl ?_
                      refine wp_bipush 90 8 d_PM_pour_88 rfl (by decide) ?_
                      refine wp_V1 93 M_PM_refuse 1 d_PM_pour_90 rfl mv_PM_refuse lk_PM_112 rfl rfl rfl rfl rfl ?_
                      refine c_PM_refuse ?_
                      refine kI ?_
                      refine wp_zreturn d_PM_pour_93 rfl (by first | rfl | exact nbP _) ?_
                      have e : poS Y (nI 0) (nI p) (nI 1) (nI a) (nI m) = 8 := (((if_pos ⟨h5, h13, h17, h22, Int32.not_lt.mpr h27⟩).trans (if_neg (fun z => z.elim h57 h65))).trans (if_pos h84))
                      exact hq0 8 e (by decide)
                  · refine wp_aload_n 69 d_PM_pour_68 rfl rfl ?_
                    refine wp_iconst 70 2 d_PM_pour_69 rfl (by decide) ?_
                    refine wp_V1 73 M_PM_refuse 1 d_PM_pour_70 rfl mv_PM_refuse lk_PM_112 rfl rfl rfl rfl rfl ?_
                    refine c_PM_refuse ?_
                    refine kI ?_
                    refine wp_zreturn d_PM_pour_73 rfl (by first | rfl | exact nbP _) ?_
                    have e : poS Y (nI 0) (nI p) (nI 1) (nI a) (nI m) = 2 := ((if_pos ⟨h5, h13, h17, h22, Int32.not_lt.mpr h27⟩).trans (if_pos (Or.inr h65)))
                    exact hq0 2 e (by decide)
              · refine wp_aaload 50 4 81 d_PM_pour_49 rfl rfl (fun _ => rfl) (vp_in_nI (by decide) (by decide)) rfl ?_
                refine wp_astore_7 52 d_PM_pour_50 rfl rfl rfl ?_
                refine wp_aload 54 d_PM_pour_52 rfl rfl ?_
                refine wp_getfield 57 10 1 d_PM_pour_54 rfl fl_PM_140 rfl rfl ?_
                refine wp_if_eq 68 60 d_PM_pour_57 rfl (by decide) (fun h57 => ?_) (fun h57 => ?_)
                · refine wp_aload_n 69 d_PM_pour_68 rfl rfl ?_
                  refine wp_iconst 70 2 d_PM_pour_69 rfl (by decide) ?_
                  refine wp_V1 73 M_PM_refuse 1 d_PM_pour_70 rfl mv_PM_refuse lk_PM_112 rfl rfl rfl rfl rfl ?_
                  refine c_PM_refuse ?_
                  refine kI ?_
                  refine wp_zreturn d_PM_pour_73 rfl (by first | rfl | exact nbP _) ?_
                  have e : poS Y (nI 0) (nI p) (nI 2) (nI a) (nI m) = 2 := ((if_pos ⟨h5, h13, h17, h22, Int32.not_lt.mpr h27⟩).trans (if_pos (Or.inl h57)))
                  exact hq0 2 e (by decide)
                · refine wp_aload 62 d_PM_pour_60 rfl rfl ?_
                  refine wp_getfield 65 10 1 d_PM_pour_62 rfl fl_PM_140 rfl rfl ?_
                  refine wp_if_ne 74 68 d_PM_pour_65 rfl (by decide) (fun h65 => ?_) (fun h65 => ?_)
                  · refine wp_aload 76 d_PM_pour_74 rfl rfl ?_
                    refine wp_getfield 79 10 2 d_PM_pour_76 rfl fl_PM_143 rfl rfl ?_
                    refine wp_aload 81 d_PM_pour_79 rfl rfl ?_
                    refine wp_getfield 84 10 2 d_PM_pour_81 rfl fl_PM_143 rfl rfl ?_
                    refine wp_icmp_eq 94 87 d_PM_pour_84 rfl (by decide) (fun h84 => ?_) (fun h84 => ?_)
                    · refine wp_aload 96 d_PM_pour_94 rfl rfl ?_
                      refine wp_iload_n 97 d_PM_pour_96 rfl rfl ?_
                      refine wp_iload 99 d_PM_pour_97 rfl rfl ?_
                      refine ws_V2 (b' := 0) 102 M_Tray_holds 1 [77, 78] ((hYr (Y 0))) d_PM_pour_99 rfl mv_Tray_holds lk_PM_146 rfl rfl rfl rfl rfl rfl rfl (eV_int _ _) (eV_int _ _) rfl ?_
                      refine c_Tray_holds ?_
                      refine sIr rfl rfl ?_
                      (first | refine wp_ifP_eq 117 105 d_PM_pour_102 rfl (by decide) (fun h102 => ?_) (fun h102 => ?_) | refine wp_if_eq 117 105 d_PM_pour_102 rfl (by decide) (fun h102 => ?_) (fun h102 => ?_))
                      · refine wp_aload_n 118 d_PM_pour_117 rfl rfl ?_
                        refine wp_iconst 119 3 d_PM_pour_118 rfl (by decide) ?_
                        refine wp_V1 122 M_PM_refuse 1 d_PM_pour_119 rfl mv_PM_refuse lk_PM_112 rfl rfl rfl rfl rfl ?_
                        refine c_PM_refuse ?_
                        refine kI ?_
                        refine wp_zreturn d_PM_pour_122 rfl (by first | rfl | exact nbP _) ?_
                        have e : poS Y (nI 0) (nI p) (nI 2) (nI a) (nI m) = 3 := ((((if_pos ⟨h5, h13, h17, h22, Int32.not_lt.mpr h27⟩).trans (if_neg (fun z => z.elim h57 h65))).trans (if_neg (fun z => z h84))).trans (if_neg (fun z => h102 z.1)))
                        exact hq0 3 e (by decide)
                      · refine wp_aload 107 d_PM_pour_105 rfl rfl ?_
                        refine wp_iload 109 d_PM_pour_107 rfl rfl ?_
                        refine wp_iload 111 d_PM_pour_109 rfl rfl ?_
                        refine ws_V2 (b' := 0) 114 M_Tray_holds 1 [81, 82] ((hYr (Y 2))) d_PM_pour_111 rfl mv_Tray_holds lk_PM_146 rfl rfl rfl rfl rfl rfl rfl (eV_int _ _) (eV_int _ _) rfl ?_
                        refine c_Tray_holds ?_
                        refine sIr rfl rfl ?_
                        (first | refine wp_ifP_ne 123 117 d_PM_pour_114 rfl (by decide) (fun h114 => ?_) (fun h114 => ?_) | refine wp_if_ne 123 117 d_PM_pour_114 rfl (by decide) (fun h114 => ?_) (fun h114 => ?_))
                        · refine wp_aload 125 d_PM_pour_123 rfl rfl ?_
                          refine wp_getfield 128 10 0 d_PM_pour_125 rfl fl_PM_136 rfl rfl ?_
                          refine wp_iload_n 129 d_PM_pour_128 rfl rfl ?_
                          refine wp_aload 131 d_PM_pour_129 rfl rfl ?_
                          refine wp_getfield 134 10 0 d_PM_pour_131 rfl fl_PM_136 rfl rfl ?_
                          refine wp_iload 136 d_PM_pour_134 rfl rfl ?_
                          refine wp_iload 138 d_PM_pour_136 rfl rfl ?_
                          have hY1 := hY 0
                          have hY2 := hY 2
                          have g1 := (sum64 (by omega) (by omega) (by omega)).mp h102
                          have g2 := (sum64 (by omega) (by omega) (by omega)).mp h114
                          refine wp_acopyJ (i := p) (j := a) (n := m) 141 d_PM_pour_138 rfl lk_PM_149 rfl rfl ⟨rfl, rfl⟩ (by omega) (by omega) (by decide) rfl ?_
                          dsimp only [List.set]
                          refine hEq (hPM (poY Y 0 p 2 a m) X T S M D E N C U W G L VL HL nK ST TP BT) rfl ?_
                          refine wp_aload_n 142 d_PM_pour_141 rfl rfl ?_
                          refine wp_V0 145 M_PM_accept 1 d_PM_pour_142 rfl mv_PM_accept lk_PM_120 rfl rfl rfl rfl rfl ?_
                          refine c_PM_accept ?_
                          refine kI ?_
                          refine wp_zreturn d_PM_pour_145 rfl (by first | rfl | exact nbP _) ?_
                          have e : poS Y (nI 0) (nI p) (nI 2) (nI a) (nI m) = 0 := ((((if_pos ⟨h5, h13, h17, h22, Int32.not_lt.mpr h27⟩).trans (if_neg (fun z => z.elim h57 h65))).trans (if_neg (fun z => z h84))).trans (if_pos ⟨h102, h114⟩))
                          have h9 := hq1 e
                          rw [nI_clamp (by omega : p < 2 ^ 31), nI_clamp (by omega : a < 2 ^ 31), nI_clamp (by omega : m < 2 ^ 31)] at h9
                          exact h9
                        · refine wp_aload_n 118 d_PM_pour_117 rfl rfl ?_
                          refine wp_iconst 119 3 d_PM_pour_118 rfl (by decide) ?_
                          refine wp_V1 122 M_PM_refuse 1 d_PM_pour_119 rfl mv_PM_refuse lk_PM_112 rfl rfl rfl rfl rfl ?_
                          refine c_PM_refuse ?_
                          refine kI ?_
                          refine wp_zreturn d_PM_pour_122 rfl (by first | rfl | exact nbP _) ?_
                          have e : poS Y (nI 0) (nI p) (nI 2) (nI a) (nI m) = 3 := ((((if_pos ⟨h5, h13, h17, h22, Int32.not_lt.mpr h27⟩).trans (if_neg (fun z => z.elim h57 h65))).trans (if_neg (fun z => z h84))).trans (if_neg (fun z => h114 z.2)))
                          exact hq0 3 e (by decide)
                    · refine wp_aload_n 88 d_PM_pour_87 rfl rfl ?_
                      refine wp_bipush 90 8 d_PM_pour_88 rfl (by decide) ?_
                      refine wp_V1 93 M_PM_refuse 1 d_PM_pour_90 rfl mv_PM_refuse lk_PM_112 rfl rfl rfl rfl rfl ?_
                      refine c_PM_refuse ?_
                      refine kI ?_
                      refine wp_zreturn d_PM_pour_93 rfl (by first | rfl | exact nbP _) ?_
                      have e : poS Y (nI 0) (nI p) (nI 2) (nI a) (nI m) = 8 := (((if_pos ⟨h5, h13, h17, h22, Int32.not_lt.mpr h27⟩).trans (if_neg (fun z => z.elim h57 h65))).trans (if_pos h84))
                      exact hq0 8 e (by decide)
                  · refine wp_aload_n 69 d_PM_pour_68 rfl rfl ?_
                    refine wp_iconst 70 2 d_PM_pour_69 rfl (by decide) ?_
                    refine wp_V1 73 M_PM_refuse 1 d_PM_pour_70 rfl mv_PM_refuse lk_PM_112 rfl rfl rfl rfl rfl ?_
                    refine c_PM_refuse ?_
                    refine kI ?_
                    refine wp_zreturn d_PM_pour_73 rfl (by first | rfl | exact nbP _) ?_
                    have e : poS Y (nI 0) (nI p) (nI 2) (nI a) (nI m) = 2 := ((if_pos ⟨h5, h13, h17, h22, Int32.not_lt.mpr h27⟩).trans (if_pos (Or.inr h65)))
                    exact hq0 2 e (by decide)
              · refine wp_aaload 50 4 83 d_PM_pour_49 rfl rfl (fun _ => rfl) (vp_in_nI (by decide) (by decide)) rfl ?_
                refine wp_astore_7 52 d_PM_pour_50 rfl rfl rfl ?_
                refine wp_aload 54 d_PM_pour_52 rfl rfl ?_
                refine wp_getfield 57 10 1 d_PM_pour_54 rfl fl_PM_140 rfl rfl ?_
                refine wp_if_eq 68 60 d_PM_pour_57 rfl (by decide) (fun h57 => ?_) (fun h57 => ?_)
                · refine wp_aload_n 69 d_PM_pour_68 rfl rfl ?_
                  refine wp_iconst 70 2 d_PM_pour_69 rfl (by decide) ?_
                  refine wp_V1 73 M_PM_refuse 1 d_PM_pour_70 rfl mv_PM_refuse lk_PM_112 rfl rfl rfl rfl rfl ?_
                  refine c_PM_refuse ?_
                  refine kI ?_
                  refine wp_zreturn d_PM_pour_73 rfl (by first | rfl | exact nbP _) ?_
                  have e : poS Y (nI 0) (nI p) (nI 3) (nI a) (nI m) = 2 := ((if_pos ⟨h5, h13, h17, h22, Int32.not_lt.mpr h27⟩).trans (if_pos (Or.inl h57)))
                  exact hq0 2 e (by decide)
                · refine wp_aload 62 d_PM_pour_60 rfl rfl ?_
                  refine wp_getfield 65 10 1 d_PM_pour_62 rfl fl_PM_140 rfl rfl ?_
                  refine wp_if_ne 74 68 d_PM_pour_65 rfl (by decide) (fun h65 => ?_) (fun h65 => ?_)
                  · refine wp_aload 76 d_PM_pour_74 rfl rfl ?_
                    refine wp_getfield 79 10 2 d_PM_pour_76 rfl fl_PM_143 rfl rfl ?_
                    refine wp_aload 81 d_PM_pour_79 rfl rfl ?_
                    refine wp_getfield 84 10 2 d_PM_pour_81 rfl fl_PM_143 rfl rfl ?_
                    refine wp_icmp_eq 94 87 d_PM_pour_84 rfl (by decide) (fun h84 => ?_) (fun h84 => ?_)
                    · refine wp_aload 96 d_PM_pour_94 rfl rfl ?_
                      refine wp_iload_n 97 d_PM_pour_96 rfl rfl ?_
                      refine wp_iload 99 d_PM_pour_97 rfl rfl ?_
                      refine ws_V2 (b' := 0) 102 M_Tray_holds 1 [77, 78] ((hYr (Y 0))) d_PM_pour_99 rfl mv_Tray_holds lk_PM_146 rfl rfl rfl rfl rfl rfl rfl (eV_int _ _) (eV_int _ _) rfl ?_
                      refine c_Tray_holds ?_
                      refine sIr rfl rfl ?_
                      (first | refine wp_ifP_eq 117 105 d_PM_pour_102 rfl (by decide) (fun h102 => ?_) (fun h102 => ?_) | refine wp_if_eq 117 105 d_PM_pour_102 rfl (by decide) (fun h102 => ?_) (fun h102 => ?_))
                      · refine wp_aload_n 118 d_PM_pour_117 rfl rfl ?_
                        refine wp_iconst 119 3 d_PM_pour_118 rfl (by decide) ?_
                        refine wp_V1 122 M_PM_refuse 1 d_PM_pour_119 rfl mv_PM_refuse lk_PM_112 rfl rfl rfl rfl rfl ?_
                        refine c_PM_refuse ?_
                        refine kI ?_
                        refine wp_zreturn d_PM_pour_122 rfl (by first | rfl | exact nbP _) ?_
                        have e : poS Y (nI 0) (nI p) (nI 3) (nI a) (nI m) = 3 := ((((if_pos ⟨h5, h13, h17, h22, Int32.not_lt.mpr h27⟩).trans (if_neg (fun z => z.elim h57 h65))).trans (if_neg (fun z => z h84))).trans (if_neg (fun z => h102 z.1)))
                        exact hq0 3 e (by decide)
                      · refine wp_aload 107 d_PM_pour_105 rfl rfl ?_
                        refine wp_iload 109 d_PM_pour_107 rfl rfl ?_
                        refine wp_iload 111 d_PM_pour_109 rfl rfl ?_
                        refine ws_V2 (b' := 0) 114 M_Tray_holds 1 [83, 84] ((hYr (Y 3))) d_PM_pour_111 rfl mv_Tray_holds lk_PM_146 rfl rfl rfl rfl rfl rfl rfl (eV_int _ _) (eV_int _ _) rfl ?_
                        refine c_Tray_holds ?_
                        refine sIr rfl rfl ?_
                        (first | refine wp_ifP_ne 123 117 d_PM_pour_114 rfl (by decide) (fun h114 => ?_) (fun h114 => ?_) | refine wp_if_ne 123 117 d_PM_pour_114 rfl (by decide) (fun h114 => ?_) (fun h114 => ?_))
                        · refine wp_aload 125 d_PM_pour_123 rfl rfl ?_
                          refine wp_getfield 128 10 0 d_PM_pour_125 rfl fl_PM_136 rfl rfl ?_
                          refine wp_iload_n 129 d_PM_pour_128 rfl rfl ?_
                          refine wp_aload 131 d_PM_pour_129 rfl rfl ?_
                          refine wp_getfield 134 10 0 d_PM_pour_131 rfl fl_PM_136 rfl rfl ?_
                          refine wp_iload 136 d_PM_pour_134 rfl rfl ?_
                          refine wp_iload 138 d_PM_pour_136 rfl rfl ?_
                          have hY1 := hY 0
                          have hY2 := hY 3
                          have g1 := (sum64 (by omega) (by omega) (by omega)).mp h102
                          have g2 := (sum64 (by omega) (by omega) (by omega)).mp h114
                          refine wp_acopyJ (i := p) (j := a) (n := m) 141 d_PM_pour_138 rfl lk_PM_149 rfl rfl ⟨rfl, rfl⟩ (by omega) (by omega) (by decide) rfl ?_
                          dsimp only [List.set]
                          refine hEq (hPM (poY Y 0 p 3 a m) X T S M D E N C U W G L VL HL nK ST TP BT) rfl ?_
                          refine wp_aload_n 142 d_PM_pour_141 rfl rfl ?_
                          refine wp_V0 145 M_PM_accept 1 d_PM_pour_142 rfl mv_PM_accept lk_PM_120 rfl rfl rfl rfl rfl ?_
                          refine c_PM_accept ?_
                          refine kI ?_
                          refine wp_zreturn d_PM_pour_145 rfl (by first | rfl | exact nbP _) ?_
                          have e : poS Y (nI 0) (nI p) (nI 3) (nI a) (nI m) = 0 := ((((if_pos ⟨h5, h13, h17, h22, Int32.not_lt.mpr h27⟩).trans (if_neg (fun z => z.elim h57 h65))).trans (if_neg (fun z => z h84))).trans (if_pos ⟨h102, h114⟩))
                          have h9 := hq1 e
                          rw [nI_clamp (by omega : p < 2 ^ 31), nI_clamp (by omega : a < 2 ^ 31), nI_clamp (by omega : m < 2 ^ 31)] at h9
                          exact h9
                        · refine wp_aload_n 118 d_PM_pour_117 rfl rfl ?_
                          refine wp_iconst 119 3 d_PM_pour_118 rfl (by decide) ?_
                          refine wp_V1 122 M_PM_refuse 1 d_PM_pour_119 rfl mv_PM_refuse lk_PM_112 rfl rfl rfl rfl rfl ?_
                          refine c_PM_refuse ?_
                          refine kI ?_
                          refine wp_zreturn d_PM_pour_122 rfl (by first | rfl | exact nbP _) ?_
                          have e : poS Y (nI 0) (nI p) (nI 3) (nI a) (nI m) = 3 := ((((if_pos ⟨h5, h13, h17, h22, Int32.not_lt.mpr h27⟩).trans (if_neg (fun z => z.elim h57 h65))).trans (if_neg (fun z => z h84))).trans (if_neg (fun z => h114 z.2)))
                          exact hq0 3 e (by decide)
                    · refine wp_aload_n 88 d_PM_pour_87 rfl rfl ?_
                      refine wp_bipush 90 8 d_PM_pour_88 rfl (by decide) ?_
                      refine wp_V1 93 M_PM_refuse 1 d_PM_pour_90 rfl mv_PM_refuse lk_PM_112 rfl rfl rfl rfl rfl ?_
                      refine c_PM_refuse ?_
                      refine kI ?_
                      refine wp_zreturn d_PM_pour_93 rfl (by first | rfl | exact nbP _) ?_
                      have e : poS Y (nI 0) (nI p) (nI 3) (nI a) (nI m) = 8 := (((if_pos ⟨h5, h13, h17, h22, Int32.not_lt.mpr h27⟩).trans (if_neg (fun z => z.elim h57 h65))).trans (if_pos h84))
                      exact hq0 8 e (by decide)
                  · refine wp_aload_n 69 d_PM_pour_68 rfl rfl ?_
                    refine wp_iconst 70 2 d_PM_pour_69 rfl (by decide) ?_
                    refine wp_V1 73 M_PM_refuse 1 d_PM_pour_70 rfl mv_PM_refuse lk_PM_112 rfl rfl rfl rfl rfl ?_
                    refine c_PM_refuse ?_
                    refine kI ?_
                    refine wp_zreturn d_PM_pour_73 rfl (by first | rfl | exact nbP _) ?_
                    have e : poS Y (nI 0) (nI p) (nI 3) (nI a) (nI m) = 2 := ((if_pos ⟨h5, h13, h17, h22, Int32.not_lt.mpr h27⟩).trans (if_pos (Or.inr h65)))
                    exact hq0 2 e (by decide)
            · refine wp_aaload 42 4 79 d_PM_pour_41 rfl rfl (fun _ => rfl) (vp_in_nI (by decide) (by decide)) rfl ?_
              refine wp_astore_6 44 d_PM_pour_42 rfl rfl rfl ?_
              refine wp_aload_n 45 d_PM_pour_44 rfl rfl ?_
              refine wp_getfield 48 11 0 d_PM_pour_45 rfl fl_PM_11 rfl rfl ?_
              refine wp_iload_n 49 d_PM_pour_48 rfl rfl ?_
              rcases inR4 h13 with rfl | rfl | rfl | rfl
              · refine wp_aaload 50 4 77 d_PM_pour_49 rfl rfl (fun _ => rfl) (vp_in_nI (by decide) (by decide)) rfl ?_
                refine wp_astore_7 52 d_PM_pour_50 rfl rfl rfl ?_
                refine wp_aload 54 d_PM_pour_52 rfl rfl ?_
                refine wp_getfield 57 10 1 d_PM_pour_54 rfl fl_PM_140 rfl rfl ?_
                refine wp_if_eq 68 60 d_PM_pour_57 rfl (by decide) (fun h57 => ?_) (fun h57 => ?_)
                · refine wp_aload_n 69 d_PM_pour_68 rfl rfl ?_
                  refine wp_iconst 70 2 d_PM_pour_69 rfl (by decide) ?_
                  refine wp_V1 73 M_PM_refuse 1 d_PM_pour_70 rfl mv_PM_refuse lk_PM_112 rfl rfl rfl rfl rfl ?_
                  refine c_PM_refuse ?_
                  refine kI ?_
                  refine wp_zreturn d_PM_pour_73 rfl (by first | rfl | exact nbP _) ?_
                  have e : poS Y (nI 1) (nI p) (nI 0) (nI a) (nI m) = 2 := ((if_pos ⟨h5, h13, h17, h22, Int32.not_lt.mpr h27⟩).trans (if_pos (Or.inl h57)))
                  exact hq0 2 e (by decide)
                · refine wp_aload 62 d_PM_pour_60 rfl rfl ?_
                  refine wp_getfield 65 10 1 d_PM_pour_62 rfl fl_PM_140 rfl rfl ?_
                  refine wp_if_ne 74 68 d_PM_pour_65 rfl (by decide) (fun h65 => ?_) (fun h65 => ?_)
                  · refine wp_aload 76 d_PM_pour_74 rfl rfl ?_
                    refine wp_getfield 79 10 2 d_PM_pour_76 rfl fl_PM_143 rfl rfl ?_
                    refine wp_aload 81 d_PM_pour_79 rfl rfl ?_
                    refine wp_getfield 84 10 2 d_PM_pour_81 rfl fl_PM_143 rfl rfl ?_
                    refine wp_icmp_eq 94 87 d_PM_pour_84 rfl (by decide) (fun h84 => ?_) (fun h84 => ?_)
                    · refine wp_aload 96 d_PM_pour_94 rfl rfl ?_
                      refine wp_iload_n 97 d_PM_pour_96 rfl rfl ?_
                      refine wp_iload 99 d_PM_pour_97 rfl rfl ?_
                      refine ws_V2 (b' := 0) 102 M_Tray_holds 1 [79, 80] ((hYr (Y 1))) d_PM_pour_99 rfl mv_Tray_holds lk_PM_146 rfl rfl rfl rfl rfl rfl rfl (eV_int _ _) (eV_int _ _) rfl ?_
                      refine c_Tray_holds ?_
                      refine sIr rfl rfl ?_
                      (first | refine wp_ifP_eq 117 105 d_PM_pour_102 rfl (by decide) (fun h102 => ?_) (fun h102 => ?_) | refine wp_if_eq 117 105 d_PM_pour_102 rfl (by decide) (fun h102 => ?_) (fun h102 => ?_))
                      · refine wp_aload_n 118 d_PM_pour_117 rfl rfl ?_
                        refine wp_iconst 119 3 d_PM_pour_118 rfl (by decide) ?_
                        refine wp_V1 122 M_PM_refuse 1 d_PM_pour_119 rfl mv_PM_refuse lk_PM_112 rfl rfl rfl rfl rfl ?_
                        refine c_PM_refuse ?_
                        refine kI ?_
                        refine wp_zreturn d_PM_pour_122 rfl (by first | rfl | exact nbP _) ?_
                        have e : poS Y (nI 1) (nI p) (nI 0) (nI a) (nI m) = 3 := ((((if_pos ⟨h5, h13, h17, h22, Int32.not_lt.mpr h27⟩).trans (if_neg (fun z => z.elim h57 h65))).trans (if_neg (fun z => z h84))).trans (if_neg (fun z => h102 z.1)))
                        exact hq0 3 e (by decide)
                      · refine wp_aload 107 d_PM_pour_105 rfl rfl ?_
                        refine wp_iload 109 d_PM_pour_107 rfl rfl ?_
                        refine wp_iload 111 d_PM_pour_109 rfl rfl ?_
                        refine ws_V2 (b' := 0) 114 M_Tray_holds 1 [77, 78] ((hYr (Y 0))) d_PM_pour_111 rfl mv_Tray_holds lk_PM_146 rfl rfl rfl rfl rfl rfl rfl (eV_int _ _) (eV_int _ _) rfl ?_
                        refine c_Tray_holds ?_
                        refine sIr rfl rfl ?_
                        (first | refine wp_ifP_ne 123 117 d_PM_pour_114 rfl (by decide) (fun h114 => ?_) (fun h114 => ?_) | refine wp_if_ne 123 117 d_PM_pour_114 rfl (by decide) (fun h114 => ?_) (fun h114 => ?_))
                        · refine wp_aload 125 d_PM_pour_123 rfl rfl ?_
                          refine wp_getfield 128 10 0 d_PM_pour_125 rfl fl_PM_136 rfl rfl ?_
                          refine wp_iload_n 129 d_PM_pour_128 rfl rfl ?_
                          refine wp_aload 131 d_PM_pour_129 rfl rfl ?_
                          refine wp_getfield 134 10 0 d_PM_pour_131 rfl fl_PM_136 rfl rfl ?_
                          refine wp_iload 136 d_PM_pour_134 rfl rfl ?_
                          refine wp_iload 138 d_PM_pour_136 rfl rfl ?_
                          have hY1 := hY 1
                          have hY2 := hY 0
                          have g1 := (sum64 (by omega) (by omega) (by omega)).mp h102
                          have g2 := (sum64 (by omega) (by omega) (by omega)).mp h114
                          refine wp_acopyJ (i := p) (j := a) (n := m) 141 d_PM_pour_138 rfl lk_PM_149 rfl rfl ⟨rfl, rfl⟩ (by omega) (by omega) (by decide) rfl ?_
                          dsimp only [List.set]
                          refine hEq (hPM (poY Y 1 p 0 a m) X T S M D E N C U W G L VL HL nK ST TP BT) rfl ?_
                          refine wp_aload_n 142 d_PM_pour_141 rfl rfl ?_
                          refine wp_V0 145 M_PM_accept 1 d_PM_pour_142 rfl mv_PM_accept lk_PM_120 rfl rfl rfl rfl rfl ?_
                          refine c_PM_accept ?_
                          refine kI ?_
                          refine wp_zreturn d_PM_pour_145 rfl (by first | rfl | exact nbP _) ?_
                          have e : poS Y (nI 1) (nI p) (nI 0) (nI a) (nI m) = 0 := ((((if_pos ⟨h5, h13, h17, h22, Int32.not_lt.mpr h27⟩).trans (if_neg (fun z => z.elim h57 h65))).trans (if_neg (fun z => z h84))).trans (if_pos ⟨h102, h114⟩))
                          have h9 := hq1 e
                          rw [nI_clamp (by omega : p < 2 ^ 31), nI_clamp (by omega : a < 2 ^ 31), nI_clamp (by omega : m < 2 ^ 31)] at h9
                          exact h9
                        · refine wp_aload_n 118 d_PM_pour_117 rfl rfl ?_
                          refine wp_iconst 119 3 d_PM_pour_118 rfl (by decide) ?_
                          refine wp_V1 122 M_PM_refuse 1 d_PM_pour_119 rfl mv_PM_refuse lk_PM_112 rfl rfl rfl rfl rfl ?_
                          refine c_PM_refuse ?_
                          refine kI ?_
                          refine wp_zreturn d_PM_pour_122 rfl (by first | rfl | exact nbP _) ?_
                          have e : poS Y (nI 1) (nI p) (nI 0) (nI a) (nI m) = 3 := ((((if_pos ⟨h5, h13, h17, h22, Int32.not_lt.mpr h27⟩).trans (if_neg (fun z => z.elim h57 h65))).trans (if_neg (fun z => z h84))).trans (if_neg (fun z => h114 z.2)))
                          exact hq0 3 e (by decide)
                    · refine wp_aload_n 88 d_PM_pour_87 rfl rfl ?_
                      refine wp_bipush 90 8 d_PM_pour_88 rfl (by decide) ?_
                      refine wp_V1 93 M_PM_refuse 1 d_PM_pour_90 rfl mv_PM_refuse lk_PM_112 rfl rfl rfl rfl rfl ?_
                      refine c_PM_refuse ?_
                      refine kI ?_
                      refine wp_zreturn d_PM_pour_93 rfl (by first | rfl | exact nbP _) ?_
                      have e : poS Y (nI 1) (nI p) (nI 0) (nI a) (nI m) = 8 := (((if_pos ⟨h5, h13, h17, h22, Int32.not_lt.mpr h27⟩).trans (if_neg (fun z => z.elim h57 h65))).trans (if_pos h84))
                      exact hq0 8 e (by decide)
                  · refine wp_aload_n 69 d_PM_pour_68 rfl rfl ?_
                    refine wp_iconst 70 2 d_PM_pour_69 rfl (by decide) ?_
                    refine wp_V1 73 M_PM_refuse 1 d_PM_pour_70 rfl mv_PM_refuse lk_PM_112 rfl rfl rfl rfl rfl ?_
                    refine c_PM_refuse ?_
                    refine kI ?_
                    refine wp_zreturn d_PM_pour_73 rfl (by first | rfl | exact nbP _) ?_
                    have e : poS Y (nI 1) (nI p) (nI 0) (nI a) (nI m) = 2 := ((if_pos ⟨h5, h13, h17, h22, Int32.not_lt.mpr h27⟩).trans (if_pos (Or.inr h65)))
                    exact hq0 2 e (by decide)
              · refine wp_aaload 50 4 79 d_PM_pour_49 rfl rfl (fun _ => rfl) (vp_in_nI (by decide) (by decide)) rfl ?_
                refine wp_astore_7 52 d_PM_pour_50 rfl rfl rfl ?_
                refine wp_aload 54 d_PM_pour_52 rfl rfl ?_
                refine wp_getfield 57 10 1 d_PM_pour_54 rfl fl_PM_140 rfl rfl ?_
                refine wp_if_eq 68 60 d_PM_pour_57 rfl (by decide) (fun h57 => ?_) (fun h57 => ?_)
                · refine wp_aload_n 69 d_PM_pour_68 rfl rfl ?_
                  refine wp_iconst 70 2 d_PM_pour_69 rfl (by decide) ?_
                  refine wp_V1 73 M_PM_refuse 1 d_PM_pour_70 rfl mv_PM_refuse lk_PM_112 rfl rfl rfl rfl rfl ?_
                  refine c_PM_refuse ?_
                  refine kI ?_
                  refine wp_zreturn d_PM_pour_73 rfl (by first | rfl | exact nbP _) ?_
                  have e : poS Y (nI 1) (nI p) (nI 1) (nI a) (nI m) = 2 := ((if_pos ⟨h5, h13, h17, h22, Int32.not_lt.mpr h27⟩).trans (if_pos (Or.inl h57)))
                  exact hq0 2 e (by decide)
                · refine wp_aload 62 d_PM_pour_60 rfl rfl ?_
                  refine wp_getfield 65 10 1 d_PM_pour_62 rfl fl_PM_140 rfl rfl ?_
                  refine wp_if_ne 74 68 d_PM_pour_65 rfl (by decide) (fun h65 => ?_) (fun h65 => ?_)
                  · refine wp_aload 76 d_PM_pour_74 rfl rfl ?_
                    refine wp_getfield 79 10 2 d_PM_pour_76 rfl fl_PM_143 rfl rfl ?_
                    refine wp_aload 81 d_PM_pour_79 rfl rfl ?_
                    refine wp_getfield 84 10 2 d_PM_pour_81 rfl fl_PM_143 rfl rfl ?_
                    refine wp_icmp_eq 94 87 d_PM_pour_84 rfl (by decide) (fun h84 => ?_) (fun h84 => ?_)
                    · refine wp_aload 96 d_PM_pour_94 rfl rfl ?_
                      refine wp_iload_n 97 d_PM_pour_96 rfl rfl ?_
                      refine wp_iload 99 d_PM_pour_97 rfl rfl ?_
                      refine ws_V2 (b' := 0) 102 M_Tray_holds 1 [79, 80] ((hYr (Y 1))) d_PM_pour_99 rfl mv_Tray_holds lk_PM_146 rfl rfl rfl rfl rfl rfl rfl (eV_int _ _) (eV_int _ _) rfl ?_
                      refine c_Tray_holds ?_
                      refine sIr rfl rfl ?_
                      (first | refine wp_ifP_eq 117 105 d_PM_pour_102 rfl (by decide) (fun h102 => ?_) (fun h102 => ?_) | refine wp_if_eq 117 105 d_PM_pour_102 rfl (by decide) (fun h102 => ?_) (fun h102 => ?_))
                      · refine wp_aload_n 118 d_PM_pour_117 rfl rfl ?_
                        refine wp_iconst 119 3 d_PM_pour_118 rfl (by decide) ?_
                        refine wp_V1 122 M_PM_refuse 1 d_PM_pour_119 rfl mv_PM_refuse lk_PM_112 rfl rfl rfl rfl rfl ?_
                        refine c_PM_refuse ?_
                        refine kI ?_
                        refine wp_zreturn d_PM_pour_122 rfl (by first | rfl | exact nbP _) ?_
                        have e : poS Y (nI 1) (nI p) (nI 1) (nI a) (nI m) = 3 := ((((if_pos ⟨h5, h13, h17, h22, Int32.not_lt.mpr h27⟩).trans (if_neg (fun z => z.elim h57 h65))).trans (if_neg (fun z => z h84))).trans (if_neg (fun z => h102 z.1)))
                        exact hq0 3 e (by decide)
                      · refine wp_aload 107 d_PM_pour_105 rfl rfl ?_
                        refine wp_iload 109 d_PM_pour_107 rfl rfl ?_
                        refine wp_iload 111 d_PM_pour_109 rfl rfl ?_
                        refine ws_V2 (b' := 0) 114 M_Tray_holds 1 [79, 80] ((hYr (Y 1))) d_PM_pour_111 rfl mv_Tray_holds lk_PM_146 rfl rfl rfl rfl rfl rfl rfl (eV_int _ _) (eV_int _ _) rfl ?_
                        refine c_Tray_holds ?_
                        refine sIr rfl rfl ?_
                        (first | refine wp_ifP_ne 123 117 d_PM_pour_114 rfl (by decide) (fun h114 => ?_) (fun h114 => ?_) | refine wp_if_ne 123 117 d_PM_pour_114 rfl (by decide) (fun h114 => ?_) (fun h114 => ?_))
                        · refine wp_aload 125 d_PM_pour_123 rfl rfl ?_
                          refine wp_getfield 128 10 0 d_PM_pour_125 rfl fl_PM_136 rfl rfl ?_
                          refine wp_iload_n 129 d_PM_pour_128 rfl rfl ?_
                          refine wp_aload 131 d_PM_pour_129 rfl rfl ?_
                          refine wp_getfield 134 10 0 d_PM_pour_131 rfl fl_PM_136 rfl rfl ?_
                          refine wp_iload 136 d_PM_pour_134 rfl rfl ?_
                          refine wp_iload 138 d_PM_pour_136 rfl rfl ?_
                          have hY1 := hY 1
                          have hY2 := hY 1
                          have g1 := (sum64 (by omega) (by omega) (by omega)).mp h102
                          have g2 := (sum64 (by omega) (by omega) (by omega)).mp h114
                          refine wp_acopyJ (i := p) (j := a) (n := m) 141 d_PM_pour_138 rfl lk_PM_149 rfl rfl ⟨rfl, rfl⟩ (by omega) (by omega) (by decide) rfl ?_
                          dsimp only [List.set]
                          refine hEq (hPM (poY Y 1 p 1 a m) X T S M D E N C U W G L VL HL nK ST TP BT) rfl ?_
                          refine wp_aload_n 142 d_PM_pour_141 rfl rfl ?_
                          refine wp_V0 145 M_PM_accept 1 d_PM_pour_142 rfl mv_PM_accept lk_PM_120 rfl rfl rfl rfl rfl ?_
                          refine c_PM_accept ?_
                          refine kI ?_
                          refine wp_zreturn d_PM_pour_145 rfl (by first | rfl | exact nbP _) ?_
                          have e : poS Y (nI 1) (nI p) (nI 1) (nI a) (nI m) = 0 := ((((if_pos ⟨h5, h13, h17, h22, Int32.not_lt.mpr h27⟩).trans (if_neg (fun z => z.elim h57 h65))).trans (if_neg (fun z => z h84))).trans (if_pos ⟨h102, h114⟩))
                          have h9 := hq1 e
                          rw [nI_clamp (by omega : p < 2 ^ 31), nI_clamp (by omega : a < 2 ^ 31), nI_clamp (by omega : m < 2 ^ 31)] at h9
                          exact h9
                        · refine wp_aload_n 118 d_PM_pour_117 rfl rfl ?_
                          refine wp_iconst 119 3 d_PM_pour_118 rfl (by decide) ?_
                          refine wp_V1 122 M_PM_refuse 1 d_PM_pour_119 rfl mv_PM_refuse lk_PM_112 rfl rfl rfl rfl rfl ?_
                          refine c_PM_refuse ?_
                          refine kI ?_
                          refine wp_zreturn d_PM_pour_122 rfl (by first | rfl | exact nbP _) ?_
                          have e : poS Y (nI 1) (nI p) (nI 1) (nI a) (nI m) = 3 := ((((if_pos ⟨h5, h13, h17, h22, Int32.not_lt.mpr h27⟩).trans (if_neg (fun z => z.elim h57 h65))).trans (if_neg (fun z => z h84))).trans (if_neg (fun z => h114 z.2)))
                          exact hq0 3 e (by decide)
                    · refine wp_aload_n 88 d_PM_pour_87 rfl rfl ?_
                      refine wp_bipush 90 8 d_PM_pour_88 rfl (by decide) ?_
                      refine wp_V1 93 M_PM_refuse 1 d_PM_pour_90 rfl mv_PM_refuse lk_PM_112 rfl rfl rfl rfl rfl ?_
                      refine c_PM_refuse ?_
                      refine kI ?_
                      refine wp_zreturn d_PM_pour_93 rfl (by first | rfl | exact nbP _) ?_
                      have e : poS Y (nI 1) (nI p) (nI 1) (nI a) (nI m) = 8 := (((if_pos ⟨h5, h13, h17, h22, Int32.not_lt.mpr h27⟩).trans (if_neg (fun z => z.elim h57 h65))).trans (if_pos h84))
                      exact hq0 8 e (by decide)
                  · refine wp_aload_n 69 d_PM_pour_68 rfl rfl ?_
                    refine wp_iconst 70 2 d_PM_pour_69 rfl (by decide) ?_
                    refine wp_V1 73 M_PM_refuse 1 d_PM_pour_70 rfl mv_PM_refuse lk_PM_112 rfl rfl rfl rfl rfl ?_
                    refine c_PM_refuse ?_
                    refine kI ?_
                    refine wp_zreturn d_PM_pour_73 rfl (by first | rfl | exact nbP _) ?_
                    have e : poS Y (nI 1) (nI p) (nI 1) (nI a) (nI m) = 2 := ((if_pos ⟨h5, h13, h17, h22, Int32.not_lt.mpr h27⟩).trans (if_pos (Or.inr h65)))
                    exact hq0 2 e (by decide)
              · refine wp_aaload 50 4 81 d_PM_pour_49 rfl rfl (fun _ => rfl) (vp_in_nI (by decide) (by decide)) rfl ?_
                refine wp_astore_7 52 d_PM_pour_50 rfl rfl rfl ?_
                refine wp_aload 54 d_PM_pour_52 rfl rfl ?_
                refine wp_getfield 57 10 1 d_PM_pour_54 rfl fl_PM_140 rfl rfl ?_
                refine wp_if_eq 68 60 d_PM_pour_57 rfl (by decide) (fun h57 => ?_) (fun h57 => ?_)
                · refine wp_aload_n 69 d_PM_pour_68 rfl rfl ?_
                  refine wp_iconst 70 2 d_PM_pour_69 rfl (by decide) ?_
                  refine wp_V1 73 M_PM_refuse 1 d_PM_pour_70 rfl mv_PM_refuse lk_PM_112 rfl rfl rfl rfl rfl ?_
                  refine c_PM_refuse ?_
                  refine kI ?_
                  refine wp_zreturn d_PM_pour_73 rfl (by first | rfl | exact nbP _) ?_
                  have e : poS Y (nI 1) (nI p) (nI 2) (nI a) (nI m) = 2 := ((if_pos ⟨h5, h13, h17, h22, Int32.not_lt.mpr h27⟩).trans (if_pos (Or.inl h57)))
                  exact hq0 2 e (by decide)
                · refine wp_aload 62 d_PM_pour_60 rfl rfl ?_
                  refine wp_getfield 65 10 1 d_PM_pour_62 rfl fl_PM_140 rfl rfl ?_
                  refine wp_if_ne 74 68 d_PM_pour_65 rfl (by decide) (fun h65 => ?_) (fun h65 => ?_)
                  · refine wp_aload 76 d_PM_pour_74 rfl rfl ?_
                    refine wp_getfield 79 10 2 d_PM_pour_76 rfl fl_PM_143 rfl rfl ?_
                    refine wp_aload 81 d_PM_pour_79 rfl rfl ?_
                    refine wp_getfield 84 10 2 d_PM_pour_81 rfl fl_PM_143 rfl rfl ?_
                    refine wp_icmp_eq 94 87 d_PM_pour_84 rfl (by decide) (fun h84 => ?_) (fun h84 => ?_)
                    · refine wp_aload 96 d_PM_pour_94 rfl rfl ?_
                      refine wp_iload_n 97 d_PM_pour_96 rfl rfl ?_
                      refine wp_iload 99 d_PM_pour_97 rfl rfl ?_
                      refine ws_V2 (b' := 0) 102 M_Tray_holds 1 [79, 80] ((hYr (Y 1))) d_PM_pour_99 rfl mv_Tray_holds lk_PM_146 rfl rfl rfl rfl rfl rfl rfl (eV_int _ _) (eV_int _ _) rfl ?_
                      refine c_Tray_holds ?_
                      refine sIr rfl rfl ?_
                      (first | refine wp_ifP_eq 117 105 d_PM_pour_102 rfl (by decide) (fun h102 => ?_) (fun h102 => ?_) | refine wp_if_eq 117 105 d_PM_pour_102 rfl (by decide) (fun h102 => ?_) (fun h102 => ?_))
                      · refine wp_aload_n 118 d_PM_pour_117 rfl rfl ?_
                        refine wp_iconst 119 3 d_PM_pour_118 rfl (by decide) ?_
                        refine wp_V1 122 M_PM_refuse 1 d_PM_pour_119 rfl mv_PM_refuse lk_PM_112 rfl rfl rfl rfl rfl ?_
                        refine c_PM_refuse ?_
                        refine kI ?_
                        refine wp_zreturn d_PM_pour_122 rfl (by first | rfl | exact nbP _) ?_
                        have e : poS Y (nI 1) (nI p) (nI 2) (nI a) (nI m) = 3 := ((((if_pos ⟨h5, h13, h17, h22, Int32.not_lt.mpr h27⟩).trans (if_neg (fun z => z.elim h57 h65))).trans (if_neg (fun z => z h84))).trans (if_neg (fun z => h102 z.1)))
                        exact hq0 3 e (by decide)
                      · refine wp_aload 107 d_PM_pour_105 rfl rfl ?_
                        refine wp_iload 109 d_PM_pour_107 rfl rfl ?_
                        refine wp_iload 111 d_PM_pour_109 rfl rfl ?_
                        refine ws_V2 (b' := 0) 114 M_Tray_holds 1 [81, 82] ((hYr (Y 2))) d_PM_pour_111 rfl mv_Tray_holds lk_PM_146 rfl rfl rfl rfl rfl rfl rfl (eV_int _ _) (eV_int _ _) rfl ?_
                        refine c_Tray_holds ?_
                        refine sIr rfl rfl ?_
                        (first | refine wp_ifP_ne 123 117 d_PM_pour_114 rfl (by decide) (fun h114 => ?_) (fun h114 => ?_) | refine wp_if_ne 123 117 d_PM_pour_114 rfl (by decide) (fun h114 => ?_) (fun h114 => ?_))
                        · refine wp_aload 125 d_PM_pour_123 rfl rfl ?_
                          refine wp_getfield 128 10 0 d_PM_pour_125 rfl fl_PM_136 rfl rfl ?_
                          refine wp_iload_n 129 d_PM_pour_128 rfl rfl ?_
                          refine wp_aload 131 d_PM_pour_129 rfl rfl ?_
                          refine wp_getfield 134 10 0 d_PM_pour_131 rfl fl_PM_136 rfl rfl ?_
                          refine wp_iload 136 d_PM_pour_134 rfl rfl ?_
                          refine wp_iload 138 d_PM_pour_136 rfl rfl ?_
                          have hY1 := hY 1
                          have hY2 := hY 2
                          have g1 := (sum64 (by omega) (by omega) (by omega)).mp h102
                          have g2 := (sum64 (by omega) (by omega) (by omega)).mp h114
                          refine wp_acopyJ (i := p) (j := a) (n := m) 141 d_PM_pour_138 rfl lk_PM_149 rfl rfl ⟨rfl, rfl⟩ (by omega) (by omega) (by decide) rfl ?_
                          dsimp only [List.set]
                          refine hEq (hPM (poY Y 1 p 2 a m) X T S M D E N C U W G L VL HL nK ST TP BT) rfl ?_
                          refine wp_aload_n 142 d_PM_pour_141 rfl rfl ?_
                          refine wp_V0 145 M_PM_accept 1 d_PM_pour_142 rfl mv_PM_accept lk_PM_120 rfl rfl rfl rfl rfl ?_
                          refine c_PM_accept ?_
                          refine kI ?_
                          refine wp_zreturn d_PM_pour_145 rfl (by first | rfl | exact nbP _) ?_
                          have e : poS Y (nI 1) (nI p) (nI 2) (nI a) (nI m) = 0 := ((((if_pos ⟨h5, h13, h17, h22, Int32.not_lt.mpr h27⟩).trans (if_neg (fun z => z.elim h57 h65))).trans (if_neg (fun z => z h84))).trans (if_pos ⟨h102, h114⟩))
                          have h9 := hq1 e
                          rw [nI_clamp (by omega : p < 2 ^ 31), nI_clamp (by omega : a < 2 ^ 31), nI_clamp (by omega : m < 2 ^ 31)] at h9
                          exact h9
                        · refine wp_aload_n 118 d_PM_pour_117 rfl rfl ?_
                          refine wp_iconst 119 3 d_PM_pour_118 rfl (by decide) ?_
                          refine wp_V1 122 M_PM_refuse 1 d_PM_pour_119 rfl mv_PM_refuse lk_PM_112 rfl rfl rfl rfl rfl ?_
                          refine c_PM_refuse ?_
                          refine kI ?_
                          refine wp_zreturn d_PM_pour_122 rfl (by first | rfl | exact nbP _) ?_
                          have e : poS Y (nI 1) (nI p) (nI 2) (nI a) (nI m) = 3 := ((((if_pos ⟨h5, h13, h17, h22, Int32.not_lt.mpr h27⟩).trans (if_neg (fun z => z.elim h57 h65))).trans (if_neg (fun z => z h84))).trans (if_neg (fun z => h114 z.2)))
                          exact hq0 3 e (by decide)
                    · refine wp_aload_n 88 d_PM_pour_87 rfl rfl ?_
                      refine wp_bipush 90 8 d_PM_pour_88 rfl (by decide) ?_
                      refine wp_V1 93 M_PM_refuse 1 d_PM_pour_90 rfl mv_PM_refuse lk_PM_112 rfl rfl rfl rfl rfl ?_
                      refine c_PM_refuse ?_
                      refine kI ?_
                      refine wp_zreturn d_PM_pour_93 rfl (by first | rfl | exact nbP _) ?_
                      have e : poS Y (nI 1) (nI p) (nI 2) (nI a) (nI m) = 8 := (((if_pos ⟨h5, h13, h17, h22, Int32.not_lt.mpr h27⟩).trans (if_neg (fun z => z.elim h57 h65))).trans (if_pos h84))
                      exact hq0 8 e (by decide)
                  · refine wp_aload_n 69 d_PM_pour_68 rfl rfl ?_
                    refine wp_iconst 70 2 d_PM_pour_69 rfl (by decide) ?_
                    refine wp_V1 73 M_PM_refuse 1 d_PM_pour_70 rfl mv_PM_refuse lk_PM_112 rfl rfl rfl rfl rfl ?_
                    refine c_PM_refuse ?_
                    refine kI ?_
                    refine wp_zreturn d_PM_pour_73 rfl (by first | rfl | exact nbP _) ?_
                    have e : poS Y (nI 1) (nI p) (nI 2) (nI a) (nI m) = 2 := ((if_pos ⟨h5, h13, h17, h22, Int32.not_lt.mpr h27⟩).trans (if_pos (Or.inr h65)))
                    exact hq0 2 e (by decide)
              · refine wp_aaload 50 4 83 d_PM_pour_49 rfl rfl (fun _ => rfl) (vp_in_nI (by decide) (by decide)) rfl ?_
                refine wp_astore_7 52 d_PM_pour_50 rfl rfl rfl ?_
                refine wp_aload 54 d_PM_pour_52 rfl rfl ?_
                refine wp_getfield 57 10 1 d_PM_pour_54 rfl fl_PM_140 rfl rfl ?_
                refine wp_if_eq 68 60 d_PM_pour_57 rfl (by decide) (fun h57 => ?_) (fun h57 => ?_)
                · refine wp_aload_n 69 d_PM_pour_68 rfl rfl ?_
                  refine wp_iconst 70 2 d_PM_pour_69 rfl (by decide) ?_
                  refine wp_V1 73 M_PM_refuse 1 d_PM_pour_70 rfl mv_PM_refuse lk_PM_112 rfl rfl rfl rfl rfl ?_
                  refine c_PM_refuse ?_
                  refine kI ?_
                  refine wp_zreturn d_PM_pour_73 rfl (by first | rfl | exact nbP _) ?_
                  have e : poS Y (nI 1) (nI p) (nI 3) (nI a) (nI m) = 2 := ((if_pos ⟨h5, h13, h17, h22, Int32.not_lt.mpr h27⟩).trans (if_pos (Or.inl h57)))
                  exact hq0 2 e (by decide)
                · refine wp_aload 62 d_PM_pour_60 rfl rfl ?_
                  refine wp_getfield 65 10 1 d_PM_pour_62 rfl fl_PM_140 rfl rfl ?_
                  refine wp_if_ne 74 68 d_PM_pour_65 rfl (by decide) (fun h65 => ?_) (fun h65 => ?_)
                  · refine wp_aload 76 d_PM_pour_74 rfl rfl ?_
                    refine wp_getfield 79 10 2 d_PM_pour_76 rfl fl_PM_143 rfl rfl ?_
                    refine wp_aload 81 d_PM_pour_79 rfl rfl ?_
                    refine wp_getfield 84 10 2 d_PM_pour_81 rfl fl_PM_143 rfl rfl ?_
                    refine wp_icmp_eq 94 87 d_PM_pour_84 rfl (by decide) (fun h84 => ?_) (fun h84 => ?_)
                    · refine wp_aload 96 d_PM_pour_94 rfl rfl ?_
                      refine wp_iload_n 97 d_PM_pour_96 rfl rfl ?_
                      refine wp_iload 99 d_PM_pour_97 rfl rfl ?_
                      refine ws_V2 (b' := 0) 102 M_Tray_holds 1 [79, 80] ((hYr (Y 1))) d_PM_pour_99 rfl mv_Tray_holds lk_PM_146 rfl rfl rfl rfl rfl rfl rfl (eV_int _ _) (eV_int _ _) rfl ?_
                      refine c_Tray_holds ?_
                      refine sIr rfl rfl ?_
                      (first | refine wp_ifP_eq 117 105 d_PM_pour_102 rfl (by decide) (fun h102 => ?_) (fun h102 => ?_) | refine wp_if_eq 117 105 d_PM_pour_102 rfl (by decide) (fun h102 => ?_) (fun h102 => ?_))
                      · refine wp_aload_n 118 d_PM_pour_117 rfl rfl ?_
                        refine wp_iconst 119 3 d_PM_pour_118 rfl (by decide) ?_
                        refine wp_V1 122 M_PM_refuse 1 d_PM_pour_119 rfl mv_PM_refuse lk_PM_112 rfl rfl rfl rfl rfl ?_
                        refine c_PM_refuse ?_
                        refine kI ?_
                        refine wp_zreturn d_PM_pour_122 rfl (by first | rfl | exact nbP _) ?_
                        have e : poS Y (nI 1) (nI p) (nI 3) (nI a) (nI m) = 3 := ((((if_pos ⟨h5, h13, h17, h22, Int32.not_lt.mpr h27⟩).trans (if_neg (fun z => z.elim h57 h65))).trans (if_neg (fun z => z h84))).trans (if_neg (fun z => h102 z.1)))
                        exact hq0 3 e (by decide)
                      · refine wp_aload 107 d_PM_pour_105 rfl rfl ?_
                        refine wp_iload 109 d_PM_pour_107 rfl rfl ?_
                        refine wp_iload 111 d_PM_pour_109 rfl rfl ?_
                        refine ws_V2 (b' := 0) 114 M_Tray_holds 1 [83, 84] ((hYr (Y 3))) d_PM_pour_111 rfl mv_Tray_holds lk_PM_146 rfl rfl rfl rfl rfl rfl rfl (eV_int _ _) (eV_int _ _) rfl ?_
                        refine c_Tray_holds ?_
                        refine sIr rfl rfl ?_
                        (first | refine wp_ifP_ne 123 117 d_PM_pour_114 rfl (by decide) (fun h114 => ?_) (fun h114 => ?_) | refine wp_if_ne 123 117 d_PM_pour_114 rfl (by decide) (fun h114 => ?_) (fun h114 => ?_))
                        · refine wp_aload 125 d_PM_pour_123 rfl rfl ?_
                          refine wp_getfield 128 10 0 d_PM_pour_125 rfl fl_PM_136 rfl rfl ?_
                          refine wp_iload_n 129 d_PM_pour_128 rfl rfl ?_
                          refine wp_aload 131 d_PM_pour_129 rfl rfl ?_
                          refine wp_getfield 134 10 0 d_PM_pour_131 rfl fl_PM_136 rfl rfl ?_
                          refine wp_iload 136 d_PM_pour_134 rfl rfl ?_
                          refine wp_iload 138 d_PM_pour_136 rfl rfl ?_
                          have hY1 := hY 1
                          have hY2 := hY 3
                          have g1 := (sum64 (by omega) (by omega) (by omega)).mp h102
                          have g2 := (sum64 (by omega) (by omega) (by omega)).mp h114
                          refine wp_acopyJ (i := p) (j := a) (n := m) 141 d_PM_pour_138 rfl lk_PM_149 rfl rfl ⟨rfl, rfl⟩ (by omega) (by omega) (by decide) rfl ?_
                          dsimp only [List.set]
                          refine hEq (hPM (poY Y 1 p 3 a m) X T S M D E N C U W G L VL HL nK ST TP BT) rfl ?_
                          refine wp_aload_n 142 d_PM_pour_141 rfl rfl ?_
                          refine wp_V0 145 M_PM_accept 1 d_PM_pour_142 rfl mv_PM_accept lk_PM_120 rfl rfl rfl rfl rfl ?_
                          refine c_PM_accept ?_
                          refine kI ?_
                          refine wp_zreturn d_PM_pour_145 rfl (by first | rfl | exact nbP _) ?_
                          have e : poS Y (nI 1) (nI p) (nI 3) (nI a) (nI m) = 0 := ((((if_pos ⟨h5, h13, h17, h22, Int32.not_lt.mpr h27⟩).trans (if_neg (fun z => z.elim h57 h65))).trans (if_neg (fun z => z h84))).trans (if_pos ⟨h102, h114⟩))
                          have h9 := hq1 e
                          rw [nI_clamp (by omega : p < 2 ^ 31), nI_clamp (by omega : a < 2 ^ 31), nI_clamp (by omega : m < 2 ^ 31)] at h9
                          exact h9
                        · refine wp_aload_n 118 d_PM_pour_117 rfl rfl ?_
                          refine wp_iconst 119 3 d_PM_pour_118 rfl (by decide) ?_
                          refine wp_V1 122 M_PM_refuse 1 d_PM_pour_119 rfl mv_PM_refuse lk_PM_112 rfl rfl rfl rfl rfl ?_
                          refine c_PM_refuse ?_
                          refine kI ?_
                          refine wp_zreturn d_PM_pour_122 rfl (by first | rfl | exact nbP _) ?_
                          have e : poS Y (nI 1) (nI p) (nI 3) (nI a) (nI m) = 3 := ((((if_pos ⟨h5, h13, h17, h22, Int32.not_lt.mpr h27⟩).trans (if_neg (fun z => z.elim h57 h65))).trans (if_neg (fun z => z h84))).trans (if_neg (fun z => h114 z.2)))
                          exact hq0 3 e (by decide)
                    · refine wp_aload_n 88 d_PM_pour_87 rfl rfl ?_
                      refine wp_bipush 90 8 d_PM_pour_88 rfl (by decide) ?_
                      refine wp_V1 93 M_PM_refuse 1 d_PM_pour_90 rfl mv_PM_refuse lk_PM_112 rfl rfl rfl rfl rfl ?_
                      refine c_PM_refuse ?_
                      refine kI ?_
                      refine wp_zreturn d_PM_pour_93 rfl (by first | rfl | exact nbP _) ?_
                      have e : poS Y (nI 1) (nI p) (nI 3) (nI a) (nI m) = 8 := (((if_pos ⟨h5, h13, h17, h22, Int32.not_lt.mpr h27⟩).trans (if_neg (fun z => z.elim h57 h65))).trans (if_pos h84))
                      exact hq0 8 e (by decide)
                  · refine wp_aload_n 69 d_PM_pour_68 rfl rfl ?_
                    refine wp_iconst 70 2 d_PM_pour_69 rfl (by decide) ?_
                    refine wp_V1 73 M_PM_refuse 1 d_PM_pour_70 rfl mv_PM_refuse lk_PM_112 rfl rfl rfl rfl rfl ?_
                    refine c_PM_refuse ?_
                    refine kI ?_
                    refine wp_zreturn d_PM_pour_73 rfl (by first | rfl | exact nbP _) ?_
                    have e : poS Y (nI 1) (nI p) (nI 3) (nI a) (nI m) = 2 := ((if_pos ⟨h5, h13, h17, h22, Int32.not_lt.mpr h27⟩).trans (if_pos (Or.inr h65)))
                    exact hq0 2 e (by decide)
            · refine wp_aaload 42 4 81 d_PM_pour_41 rfl rfl (fun _ => rfl) (vp_in_nI (by decide) (by decide)) rfl ?_
              refine wp_astore_6 44 d_PM_pour_42 rfl rfl rfl ?_
              refine wp_aload_n 45 d_PM_pour_44 rfl rfl ?_
              refine wp_getfield 48 11 0 d_PM_pour_45 rfl fl_PM_11 rfl rfl ?_
              refine wp_iload_n 49 d_PM_pour_48 rfl rfl ?_
              rcases inR4 h13 with rfl | rfl | rfl | rfl
              · refine wp_aaload 50 4 77 d_PM_pour_49 rfl rfl (fun _ => rfl) (vp_in_nI (by decide) (by decide)) rfl ?_
                refine wp_astore_7 52 d_PM_pour_50 rfl rfl rfl ?_
                refine wp_aload 54 d_PM_pour_52 rfl rfl ?_
                refine wp_getfield 57 10 1 d_PM_pour_54 rfl fl_PM_140 rfl rfl ?_
                refine wp_if_eq 68 60 d_PM_pour_57 rfl (by decide) (fun h57 => ?_) (fun h57 => ?_)
                · refine wp_aload_n 69 d_PM_pour_68 rfl rfl ?_
                  refine wp_iconst 70 2 d_PM_pour_69 rfl (by decide) ?_
                  refine wp_V1 73 M_PM_refuse 1 d_PM_pour_70 rfl mv_PM_refuse lk_PM_112 rfl rfl rfl rfl rfl ?_
                  refine c_PM_refuse ?_
                  refine kI ?_
                  refine wp_zreturn d_PM_pour_73 rfl (by first | rfl | exact nbP _) ?_
                  have e : poS Y (nI 2) (nI p) (nI 0) (nI a) (nI m) = 2 := ((if_pos ⟨h5, h13, h17, h22, Int32.not_lt.mpr h27⟩).trans (if_pos (Or.inl h57)))
                  exact hq0 2 e (by decide)
                · refine wp_aload 62 d_PM_pour_60 rfl rfl ?_
                  refine wp_getfield 65 10 1 d_PM_pour_62 rfl fl_PM_140 rfl rfl ?_
                  refine wp_if_ne 74 68 d_PM_pour_65 rfl (by decide) (fun h65 => ?_) (fun h65 => ?_)
                  · refine wp_aload 76 d_PM_pour_74 rfl rfl ?_
                    refine wp_getfield 79 10 2 d_PM_pour_76 rfl fl_PM_143 rfl rfl ?_
                    refine wp_aload 81 d_PM_pour_79 rfl rfl ?_
                    refine wp_getfield 84 10 2 d_PM_pour_81 rfl fl_PM_143 rfl rfl ?_
                    refine wp_icmp_eq 94 87 d_PM_pour_84 rfl (by decide) (fun h84 => ?_) (fun h84 => ?_)
                    · refine wp_aload 96 d_PM_pour_94 rfl rfl ?_
                      refine wp_iload_n 97 d_PM_pour_96 rfl rfl ?_
                      refine wp_iload 99 d_PM_pour_97 rfl rfl ?_
                      refine ws_V2 (b' := 0) 102 M_Tray_holds 1 [81, 82] ((hYr (Y 2))) d_PM_pour_99 rfl mv_Tray_holds lk_PM_146 rfl rfl rfl rfl rfl rfl rfl (eV_int _ _) (eV_int _ _) rfl ?_
                      refine c_Tray_holds ?_
                      refine sIr rfl rfl ?_
                      (first | refine wp_ifP_eq 117 105 d_PM_pour_102 rfl (by decide) (fun h102 => ?_) (fun h102 => ?_) | refine wp_if_eq 117 105 d_PM_pour_102 rfl (by decide) (fun h102 => ?_) (fun h102 => ?_))
                      · refine wp_aload_n 118 d_PM_pour_117 rfl rfl ?_
                        refine wp_iconst 119 3 d_PM_pour_118 rfl (by decide) ?_
                        refine wp_V1 122 M_PM_refuse 1 d_PM_pour_119 rfl mv_PM_refuse lk_PM_112 rfl rfl rfl rfl rfl ?_
                        refine c_PM_refuse ?_
                        refine kI ?_
                        refine wp_zreturn d_PM_pour_122 rfl (by first | rfl | exact nbP _) ?_
                        have e : poS Y (nI 2) (nI p) (nI 0) (nI a) (nI m) = 3 := ((((if_pos ⟨h5, h13, h17, h22, Int32.not_lt.mpr h27⟩).trans (if_neg (fun z => z.elim h57 h65))).trans (if_neg (fun z => z h84))).trans (if_neg (fun z => h102 z.1)))
                        exact hq0 3 e (by decide)
                      · refine wp_aload 107 d_PM_pour_105 rfl rfl ?_
                        refine wp_iload 109 d_PM_pour_107 rfl rfl ?_
                        refine wp_iload 111 d_PM_pour_109 rfl rfl ?_
                        refine ws_V2 (b' := 0) 114 M_Tray_holds 1 [77, 78] ((hYr (Y 0))) d_PM_pour_111 rfl mv_Tray_holds lk_PM_146 rfl rfl rfl rfl rfl rfl rfl (eV_int _ _) (eV_int _ _) rfl ?_
                        refine c_Tray_holds ?_
                        refine sIr rfl rfl ?_
                        (first | refine wp_ifP_ne 123 117 d_PM_pour_114 rfl (by decide) (fun h114 => ?_) (fun h114 => ?_) | refine wp_if_ne 123 117 d_PM_pour_114 rfl (by decide) (fun h114 => ?_) (fun h114 => ?_))
                        · refine wp_aload 125 d_PM_pour_123 rfl rfl ?_
                          refine wp_getfield 128 10 0 d_PM_pour_125 rfl fl_PM_136 rfl rfl ?_
                          refine wp_iload_n 129 d_PM_pour_128 rfl rfl ?_
                          refine wp_aload 131 d_PM_pour_129 rfl rfl ?_
                          refine wp_getfield 134 10 0 d_PM_pour_131 rfl fl_PM_136 rfl rfl ?_
                          refine wp_iload 136 d_PM_pour_134 rfl rfl ?_
                          refine wp_iload 138 d_PM_pour_136 rfl rfl ?_
                          have hY1 := hY 2
                          have hY2 := hY 0
                          have g1 := (sum64 (by omega) (by omega) (by omega)).mp h102
                          have g2 := (sum64 (by omega) (by omega) (by omega)).mp h114
                          refine wp_acopyJ (i := p) (j := a) (n := m) 141 d_PM_pour_138 rfl lk_PM_149 rfl rfl ⟨rfl, rfl⟩ (by omega) (by omega) (by decide) rfl ?_
                          dsimp only [List.set]
                          refine hEq (hPM (poY Y 2 p 0 a m) X T S M D E N C U W G L VL HL nK ST TP BT) rfl ?_
                          refine wp_aload_n 142 d_PM_pour_141 rfl rfl ?_
                          refine wp_V0 145 M_PM_accept 1 d_PM_pour_142 rfl mv_PM_accept lk_PM_120 rfl rfl rfl rfl rfl ?_
                          refine c_PM_accept ?_
                          refine kI ?_
                          refine wp_zreturn d_PM_pour_145 rfl (by first | rfl | exact nbP _) ?_
                          have e : poS Y (nI 2) (nI p) (nI 0) (nI a) (nI m) = 0 := ((((if_pos ⟨h5, h13, h17, h22, Int32.not_lt.mpr h27⟩).trans (if_neg (fun z => z.elim h57 h65))).trans (if_neg (fun z => z h84))).trans (if_pos ⟨h102, h114⟩))
                          have h9 := hq1 e
                          rw [nI_clamp (by omega : p < 2 ^ 31), nI_clamp (by omega : a < 2 ^ 31), nI_clamp (by omega : m < 2 ^ 31)] at h9
                          exact h9
                        · refine wp_aload_n 118 d_PM_pour_117 rfl rfl ?_
                          refine wp_iconst 119 3 d_PM_pour_118 rfl (by decide) ?_
                          refine wp_V1 122 M_PM_refuse 1 d_PM_pour_119 rfl mv_PM_refuse lk_PM_112 rfl rfl rfl rfl rfl ?_
                          refine c_PM_refuse ?_
                          refine kI ?_
                          refine wp_zreturn d_PM_pour_122 rfl (by first | rfl | exact nbP _) ?_
                          have e : poS Y (nI 2) (nI p) (nI 0) (nI a) (nI m) = 3 := ((((if_pos ⟨h5, h13, h17, h22, Int32.not_lt.mpr h27⟩).trans (if_neg (fun z => z.elim h57 h65))).trans (if_neg (fun z => z h84))).trans (if_neg (fun z => h114 z.2)))
                          exact hq0 3 e (by decide)
                    · refine wp_aload_n 88 d_PM_pour_87 rfl rfl ?_
                      refine wp_bipush 90 8 d_PM_pour_88 rfl (by decide) ?_
                      refine wp_V1 93 M_PM_refuse 1 d_PM_pour_90 rfl mv_PM_refuse lk_PM_112 rfl rfl rfl rfl rfl ?_
                      refine c_PM_refuse ?_
                      refine kI ?_
                      refine wp_zreturn d_PM_pour_93 rfl (by first | rfl | exact nbP _) ?_
                      have e : poS Y (nI 2) (nI p) (nI 0) (nI a) (nI m) = 8 := (((if_pos ⟨h5, h13, h17, h22, Int32.not_lt.mpr h27⟩).trans (if_neg (fun z => z.elim h57 h65))).trans (if_pos h84))
                      exact hq0 8 e (by decide)
                  · refine wp_aload_n 69 d_PM_pour_68 rfl rfl ?_
                    refine wp_iconst 70 2 d_PM_pour_69 rfl (by decide) ?_
                    refine wp_V1 73 M_PM_refuse 1 d_PM_pour_70 rfl mv_PM_refuse lk_PM_112 rfl rfl rfl rfl rfl ?_
                    refine c_PM_refuse ?_
                    refine kI ?_
                    refine wp_zreturn d_PM_pour_73 rfl (by first | rfl | exact nbP _) ?_
                    have e : poS Y (nI 2) (nI p) (nI 0) (nI a) (nI m) = 2 := ((if_pos ⟨h5, h13, h17, h22, Int32.not_lt.mpr h27⟩).trans (if_pos (Or.inr h65)))
                    exact hq0 2 e (by decide)
              · refine wp_aaload 50 4 79 d_PM_pour_49 rfl rfl (fun _ => rfl) (vp_in_nI (by decide) (by decide)) rfl ?_
                refine wp_astore_7 52 d_PM_pour_50 rfl rfl rfl ?_
                refine wp_aload 54 d_PM_pour_52 rfl rfl ?_
                refine wp_getfield 57 10 1 d_PM_pour_54 rfl fl_PM_140 rfl rfl ?_
                refine wp_if_eq 68 60 d_PM_pour_57 rfl (by decide) (fun h57 => ?_) (fun h57 => ?_)
                · refine wp_aload_n 69 d_PM_pour_68 rfl rfl ?_
                  refine wp_iconst 70 2 d_PM_pour_69 rfl (by decide) ?_
                  refine wp_V1 73 M_PM_refuse 1 d_PM_pour_70 rfl mv_PM_refuse lk_PM_112 rfl rfl rfl rfl rfl ?_
                  refine c_PM_refuse ?_
                  refine kI ?_
                  refine wp_zreturn d_PM_pour_73 rfl (by first | rfl | exact nbP _) ?_
                  have e : poS Y (nI 2) (nI p) (nI 1) (nI a) (nI m) = 2 := ((if_pos ⟨h5, h13, h17, h22, Int32.not_lt.mpr h27⟩).trans (if_pos (Or.inl h57)))
                  exact hq0 2 e (by decide)
                · refine wp_aload 62 d_PM_pour_60 rfl rfl ?_
                  refine wp_getfield 65 10 1 d_PM_pour_62 rfl fl_PM_140 rfl rfl ?_
                  refine wp_if_ne 74 68 d_PM_pour_65 rfl (by decide) (fun h65 => ?_) (fun h65 => ?_)
                  · refine wp_aload 76 d_PM_pour_74 rfl rfl ?_
                    refine wp_getfield 79 10 2 d_PM_pour_76 rfl fl_PM_143 rfl rfl ?_
                    refine wp_aload 81 d_PM_pour_79 rfl rfl ?_
                    refine wp_getfield 84 10 2 d_PM_pour_81 rfl fl_PM_143 rfl rfl ?_
                    refine wp_icmp_eq 94 87 d_PM_pour_84 rfl (by decide) (fun h84 => ?_) (fun h84 => ?_)
                    · refine wp_aload 96 d_PM_pour_94 rfl rfl ?_
                      refine wp_iload_n 97 d_PM_pour_96 rfl rfl ?_
                      refine wp_iload 99 d_PM_pour_97 rfl rfl ?_
                      refine ws_V2 (b' := 0) 102 M_Tray_holds 1 [81, 82] ((hYr (Y 2))) d_PM_pour_99 rfl mv_Tray_holds lk_PM_146 rfl rfl rfl rfl rfl rfl rfl (eV_int _ _) (eV_int _ _) rfl ?_
                      refine c_Tray_holds ?_
                      refine sIr rfl rfl ?_
                      (first | refine wp_ifP_eq 117 105 d_PM_pour_102 rfl (by decide) (fun h102 => ?_) (fun h102 => ?_) | refine wp_if_eq 117 105 d_PM_pour_102 rfl (by decide) (fun h102 => ?_) (fun h102 => ?_))
                      · refine wp_aload_n 118 d_PM_pour_117 rfl rfl ?_
                        refine wp_iconst 119 3 d_PM_pour_118 rfl (by decide) ?_
                        refine wp_V1 122 M_PM_refuse 1 d_PM_pour_119 rfl mv_PM_refuse lk_PM_112 rfl rfl rfl rfl rfl ?_
                        refine c_PM_refuse ?_
                        refine kI ?_
                        refine wp_zreturn d_PM_pour_122 rfl (by first | rfl | exact nbP _) ?_
                        have e : poS Y (nI 2) (nI p) (nI 1) (nI a) (nI m) = 3 := ((((if_pos ⟨h5, h13, h17, h22, Int32.not_lt.mpr h27⟩).trans (if_neg (fun z => z.elim h57 h65))).trans (if_neg (fun z => z h84))).trans (if_neg (fun z => h102 z.1)))
                        exact hq0 3 e (by decide)
                      · refine wp_aload 107 d_PM_pour_105 rfl rfl ?_
                        refine wp_iload 109 d_PM_pour_107 rfl rfl ?_
                        refine wp_iload 111 d_PM_pour_109 rfl rfl ?_
                        refine ws_V2 (b' := 0) 114 M_Tray_holds 1 [79, 80] ((hYr (Y 1))) d_PM_pour_111 rfl mv_Tray_holds lk_PM_146 rfl rfl rfl rfl rfl rfl rfl (eV_int _ _) (eV_int _ _) rfl ?_
                        refine c_Tray_holds ?_
                        refine sIr rfl rfl ?_
                        (first | refine wp_ifP_ne 123 117 d_PM_pour_114 rfl (by decide) (fun h114 => ?_) (fun h114 => ?_) | refine wp_if_ne 123 117 d_PM_pour_114 rfl (by decide) (fun h114 => ?_) (fun h114 => ?_))
                        · refine wp_aload 125 d_PM_pour_123 rfl rfl ?_
                          refine wp_getfield 128 10 0 d_PM_pour_125 rfl fl_PM_136 rfl rfl ?_
                          refine wp_iload_n 129 d_PM_pour_128 rfl rfl ?_
                          refine wp_aload 131 d_PM_pour_129 rfl rfl ?_
                          refine wp_getfield 134 10 0 d_PM_pour_131 rfl fl_PM_136 rfl rfl ?_
                          refine wp_iload 136 d_PM_pour_134 rfl rfl ?_
                          refine wp_iload 138 d_PM_pour_136 rfl rfl ?_
                          have hY1 := hY 2
                          have hY2 := hY 1
                          have g1 := (sum64 (by omega) (by omega) (by omega)).mp h102
                          have g2 := (sum64 (by omega) (by omega) (by omega)).mp h114
                          refine wp_acopyJ (i := p) (j := a) (n := m) 141 d_PM_pour_138 rfl lk_PM_149 rfl rfl ⟨rfl, rfl⟩ (by omega) (by omega) (by decide) rfl ?_
                          dsimp only [List.set]
                          refine hEq (hPM (poY Y 2 p 1 a m) X T S M D E N C U W G L VL HL nK ST TP BT) rfl ?_
                          refine wp_aload_n 142 d_PM_pour_141 rfl rfl ?_
                          refine wp_V0 145 M_PM_accept 1 d_PM_pour_142 rfl mv_PM_accept lk_PM_120 rfl rfl rfl rfl rfl ?_
                          refine c_PM_accept ?_
                          refine kI ?_
                          refine wp_zreturn d_PM_pour_145 rfl (by first | rfl | exact nbP _) ?_
                          have e : poS Y (nI 2) (nI p) (nI 1) (nI a) (nI m) = 0 := ((((if_pos ⟨h5, h13, h17, h22, Int32.not_lt.mpr h27⟩).trans (if_neg (fun z => z.elim h57 h65))).trans (if_neg (fun z => z h84))).trans (if_pos ⟨h102, h114⟩))
                          have h9 := hq1 e
                          rw [nI_clamp (by omega : p < 2 ^ 31), nI_clamp (by omega : a < 2 ^ 31), nI_clamp (by omega : m < 2 ^ 31)] at h9
                          exact h9
                        · refine wp_aload_n 118 d_PM_pour_117 rfl rfl ?_
                          refine wp_iconst 119 3 d_PM_pour_118 rfl (by decide) ?_
                          refine wp_V1 122 M_PM_refuse 1 d_PM_pour_119 rfl mv_PM_refuse lk_PM_112 rfl rfl rfl rfl rfl ?_
                          refine c_PM_refuse ?_
                          refine kI ?_
                          refine wp_zreturn d_PM_pour_122 rfl (by first | rfl | exact nbP _) ?_
                          have e : poS Y (nI 2) (nI p) (nI 1) (nI a) (nI m) = 3 := ((((if_pos ⟨h5, h13, h17, h22, Int32.not_lt.mpr h27⟩).trans (if_neg (fun z => z.elim h57 h65))).trans (if_neg (fun z => z h84))).trans (if_neg (fun z => h114 z.2)))
                          exact hq0 3 e (by decide)
                    · refine wp_aload_n 88 d_PM_pour_87 rfl rfl ?_
                      refine wp_bipush 90 8 d_PM_pour_88 rfl (by decide) ?_
                      refine wp_V1 93 M_PM_refuse 1 d_PM_pour_90 rfl mv_PM_refuse lk_PM_112 rfl rfl rfl rfl rfl ?_
                      refine c_PM_refuse ?_
                      refine kI ?_
                      refine wp_zreturn d_PM_pour_93 rfl (by first | rfl | exact nbP _) ?_
                      have e : poS Y (nI 2) (nI p) (nI 1) (nI a) (nI m) = 8 := (((if_pos ⟨h5, h13, h17, h22, Int32.not_lt.mpr h27⟩).trans (if_neg (fun z => z.elim h57 h65))).trans (if_pos h84))
                      exact hq0 8 e (by decide)
                  · refine wp_aload_n 69 d_PM_pour_68 rfl rfl ?_
                    refine wp_iconst 70 2 d_PM_pour_69 rfl (by decide) ?_
                    refine wp_V1 73 M_PM_refuse 1 d_PM_pour_70 rfl mv_PM_refuse lk_PM_112 rfl rfl rfl rfl rfl ?_
                    refine c_PM_refuse ?_
                    refine kI ?_
                    refine wp_zreturn d_PM_pour_73 rfl (by first | rfl | exact nbP _) ?_
                    have e : poS Y (nI 2) (nI p) (nI 1) (nI a) (nI m) = 2 := ((if_pos ⟨h5, h13, h17, h22, Int32.not_lt.mpr h27⟩).trans (if_pos (Or.inr h65)))
                    exact hq0 2 e (by decide)
              · refine wp_aaload 50 4 81 d_PM_pour_49 rfl rfl (fun _ => rfl) (vp_in_nI (by decide) (by decide)) rfl ?_
                refine wp_astore_7 52 d_PM_pour_50 rfl rfl rfl ?_
                refine wp_aload 54 d_PM_pour_52 rfl rfl ?_
                refine wp_getfield 57 10 1 d_PM_pour_54 rfl fl_PM_140 rfl rfl ?_
                refine wp_if_eq 68 60 d_PM_pour_57 rfl (by decide) (fun h57 => ?_) (fun h57 => ?_)
                · refine wp_aload_n 69 d_PM_pour_68 rfl rfl ?_
                  refine wp_iconst 70 2 d_PM_pour_69 rfl (by decide) ?_
                  refine wp_V1 73 M_PM_refuse 1 d_PM_pour_70 rfl mv_PM_refuse lk_PM_112 rfl rfl rfl rfl rfl ?_
                  refine c_PM_refuse ?_
                  refine kI ?_
                  refine wp_zreturn d_PM_pour_73 rfl (by first | rfl | exact nbP _) ?_
                  have e : poS Y (nI 2) (nI p) (nI 2) (nI a) (nI m) = 2 := ((if_pos ⟨h5, h13, h17, h22, Int32.not_lt.mpr h27⟩).trans (if_pos (Or.inl h57)))
                  exact hq0 2 e (by decide)
                · refine wp_aload 62 d_PM_pour_60 rfl rfl ?_
                  refine wp_getfield 65 10 1 d_PM_pour_62 rfl fl_PM_140 rfl rfl ?_
                  refine wp_if_ne 74 68 d_PM_pour_65 rfl (by decide) (fun h65 => ?_) (fun h65 => ?_)
                  · refine wp_aload 76 d_PM_pour_74 rfl rfl ?_
                    refine wp_getfield 79 10 2 d_PM_pour_76 rfl fl_PM_143 rfl rfl ?_
                    refine wp_aload 81 d_PM_pour_79 rfl rfl ?_
                    refine wp_getfield 84 10 2 d_PM_pour_81 rfl fl_PM_143 rfl rfl ?_
                    refine wp_icmp_eq 94 87 d_PM_pour_84 rfl (by decide) (fun h84 => ?_) (fun h84 => ?_)
                    · refine wp_aload 96 d_PM_pour_94 rfl rfl ?_
                      refine wp_iload_n 97 d_PM_pour_96 rfl rfl ?_
                      refine wp_iload 99 d_PM_pour_97 rfl rfl ?_
                      refine ws_V2 (b' := 0) 102 M_Tray_holds 1 [81, 82] ((hYr (Y 2))) d_PM_pour_99 rfl mv_Tray_holds lk_PM_146 rfl rfl rfl rfl rfl rfl rfl (eV_int _ _) (eV_int _ _) rfl ?_
                      refine c_Tray_holds ?_
                      refine sIr rfl rfl ?_
                      (first | refine wp_ifP_eq 117 105 d_PM_pour_102 rfl (by decide) (fun h102 => ?_) (fun h102 => ?_) | refine wp_if_eq 117 105 d_PM_pour_102 rfl (by decide) (fun h102 => ?_) (fun h102 => ?_))
                      · refine wp_aload_n 118 d_PM_pour_117 rfl rfl ?_
                        refine wp_iconst 119 3 d_PM_pour_118 rfl (by decide) ?_
                        refine wp_V1 122 M_PM_refuse 1 d_PM_pour_119 rfl mv_PM_refuse lk_PM_112 rfl rfl rfl rfl rfl ?_
                        refine c_PM_refuse ?_
                        refine kI ?_
                        refine wp_zreturn d_PM_pour_122 rfl (by first | rfl | exact nbP _) ?_
                        have e : poS Y (nI 2) (nI p) (nI 2) (nI a) (nI m) = 3 := ((((if_pos ⟨h5, h13, h17, h22, Int32.not_lt.mpr h27⟩).trans (if_neg (fun z => z.elim h57 h65))).trans (if_neg (fun z => z h84))).trans (if_neg (fun z => h102 z.1)))
                        exact hq0 3 e (by decide)
                      · refine wp_aload 107 d_PM_pour_105 rfl rfl ?_
                        refine wp_iload 109 d_PM_pour_107 rfl rfl ?_
                        refine wp_iload 111 d_PM_pour_109 rfl rfl ?_
                        refine ws_V2 (b' := 0) 114 M_Tray_holds 1 [81, 82] ((hYr (Y 2))) d_PM_pour_111 rfl mv_Tray_holds lk_PM_146 rfl rfl rfl rfl rfl rfl rfl (eV_int _ _) (eV_int _ _) rfl ?_
                        refine c_Tray_holds ?_
                        refine sIr rfl rfl ?_
                        (first | refine wp_ifP_ne 123 117 d_PM_pour_114 rfl (by decide) (fun h114 => ?_) (fun h114 => ?_) | refine wp_if_ne 123 117 d_PM_pour_114 rfl (by decide) (fun h114 => ?_) (fun h114 => ?_))
                        · refine wp_aload 125 d_PM_pour_123 rfl rfl ?_
                          refine wp_getfield 128 10 0 d_PM_pour_125 rfl fl_PM_136 rfl rfl ?_
                          refine wp_iload_n 129 d_PM_pour_128 rfl rfl ?_
                          refine wp_aload 131 d_PM_pour_129 rfl rfl ?_
                          refine wp_getfield 134 10 0 d_PM_pour_131 rfl fl_PM_136 rfl rfl ?_
                          refine wp_iload 136 d_PM_pour_134 rfl rfl ?_
                          refine wp_iload 138 d_PM_pour_136 rfl rfl ?_
                          have hY1 := hY 2
                          have hY2 := hY 2
                          have g1 := (sum64 (by omega) (by omega) (by omega)).mp h102
                          have g2 := (sum64 (by omega) (by omega) (by omega)).mp h114
                          refine wp_acopyJ (i := p) (j := a) (n := m) 141 d_PM_pour_138 rfl lk_PM_149 rfl rfl ⟨rfl, rfl⟩ (by omega) (by omega) (by decide) rfl ?_
                          dsimp only [List.set]
                          refine hEq (hPM (poY Y 2 p 2 a m) X T S M D E N C U W G L VL HL nK ST TP BT) rfl ?_
                          refine wp_aload_n 142 d_PM_pour_141 rfl rfl ?_
                          refine wp_V0 145 M_PM_accept 1 d_PM_pour_142 rfl mv_PM_accept lk_PM_120 rfl rfl rfl rfl rfl ?_
                          refine c_PM_accept ?_
                          refine kI ?_
                          refine wp_zreturn d_PM_pour_145 rfl (by first | rfl | exact nbP _) ?_
                          have e : poS Y (nI 2) (nI p) (nI 2) (nI a) (nI m) = 0 := ((((if_pos ⟨h5, h13, h17, h22, Int32.not_lt.mpr h27⟩).trans (if_neg (fun z => z.elim h57 h65))).trans (if_neg (fun z => z h84))).trans (if_pos ⟨h102, h114⟩))
                          have h9 := hq1 e
                          rw [nI_clamp (by omega : p < 2 ^ 31), nI_clamp (by omega : a < 2 ^ 31), nI_clamp (by omega : m < 2 ^ 31)] at h9
                          exact h9
                        · refine wp_aload_n 118 d_PM_pour_117 rfl rfl ?_
                          refine wp_iconst 119 3 d_PM_pour_118 rfl (by decide) ?_
                          refine wp_V1 122 M_PM_refuse 1 d_PM_pour_119 rfl mv_PM_refuse lk_PM_112 rfl rfl rfl rfl rfl ?_
                          refine c_PM_refuse ?_
                          refine kI ?_
                          refine wp_zreturn d_PM_pour_122 rfl (by first | rfl | exact nbP _) ?_
                          have e : poS Y (nI 2) (nI p) (nI 2) (nI a) (nI m) = 3 := ((((if_pos ⟨h5, h13, h17, h22, Int32.not_lt.mpr h27⟩).trans (if_neg (fun z => z.elim h57 h65))).trans (if_neg (fun z => z h84))).trans (if_neg (fun z => h114 z.2)))
                          exact hq0 3 e (by decide)
                    · refine wp_aload_n 88 d_PM_pour_87 rfl rfl ?_
                      refine wp_bipush 90 8 d_PM_pour_88 rfl (by decide) ?_
                      refine wp_V1 93 M_PM_refuse 1 d_PM_pour_90 rfl mv_PM_refuse lk_PM_112 rfl rfl rfl rfl rfl ?_
                      refine c_PM_refuse ?_
                      refine kI ?_
                      refine wp_zreturn d_PM_pour_93 rfl (by first | rfl | exact nbP _) ?_
                      have e : poS Y (nI 2) (nI p) (nI 2) (nI a) (nI m) = 8 := (((if_pos ⟨h5, h13, h17, h22, Int32.not_lt.mpr h27⟩).trans (if_neg (fun z => z.elim h57 h65))).trans (if_pos h84))
                      exact hq0 8 e (by decide)
                  · refine wp_aload_n 69 d_PM_pour_68 rfl rfl ?_
                    refine wp_iconst 70 2 d_PM_pour_69 rfl (by decide) ?_
                    refine wp_V1 73 M_PM_refuse 1 d_PM_pour_70 rfl mv_PM_refuse lk_PM_112 rfl rfl rfl rfl rfl ?_
                    refine c_PM_refuse ?_
                    refine kI ?_
                    refine wp_zreturn d_PM_pour_73 rfl (by first | rfl | exact nbP _) ?_
                    have e : poS Y (nI 2) (nI p) (nI 2) (nI a) (nI m) = 2 := ((if_pos ⟨h5, h13, h17, h22, Int32.not_lt.mpr h27⟩).trans (if_pos (Or.inr h65)))
                    exact hq0 2 e (by decide)
              · refine wp_aaload 50 4 83 d_PM_pour_49 rfl rfl (fun _ => rfl) (vp_in_nI (by decide) (by decide)) rfl ?_
                refine wp_astore_7 52 d_PM_pour_50 rfl rfl rfl ?_
                refine wp_aload 54 d_PM_pour_52 rfl rfl ?_
                refine wp_getfield 57 10 1 d_PM_pour_54 rfl fl_PM_140 rfl rfl ?_
                refine wp_if_eq 68 60 d_PM_pour_57 rfl (by decide) (fun h57 => ?_) (fun h57 => ?_)
                · refine wp_aload_n 69 d_PM_pour_68 rfl rfl ?_
                  refine wp_iconst 70 2 d_PM_pour_69 rfl (by decide) ?_
                  refine wp_V1 73 M_PM_refuse 1 d_PM_pour_70 rfl mv_PM_refuse lk_PM_112 rfl rfl rfl rfl rfl ?_
                  refine c_PM_refuse ?_
                  refine kI ?_
                  refine wp_zreturn d_PM_pour_73 rfl (by first | rfl | exact nbP _) ?_
                  have e : poS Y (nI 2) (nI p) (nI 3) (nI a) (nI m) = 2 := ((if_pos ⟨h5, h13, h17, h22, Int32.not_lt.mpr h27⟩).trans (if_pos (Or.inl h57)))
                  exact hq0 2 e (by decide)
                · refine wp_aload 62 d_PM_pour_60 rfl rfl ?_
                  refine wp_getfield 65 10 1 d_PM_pour_62 rfl fl_PM_140 rfl rfl ?_
                  refine wp_if_ne 74 68 d_PM_pour_65 rfl (by decide) (fun h65 => ?_) (fun h65 => ?_)
                  · refine wp_aload 76 d_PM_pour_74 rfl rfl ?_
                    refine wp_getfield 79 10 2 d_PM_pour_76 rfl fl_PM_143 rfl rfl ?_
                    refine wp_aload 81 d_PM_pour_79 rfl rfl ?_
                    refine wp_getfield 84 10 2 d_PM_pour_81 rfl fl_PM_143 rfl rfl ?_
                    refine wp_icmp_eq 94 87 d_PM_pour_84 rfl (by decide) (fun h84 => ?_) (fun h84 => ?_)
                    · refine wp_aload 96 d_PM_pour_94 rfl rfl ?_
                      refine wp_iload_n 97 d_PM_pour_96 rfl rfl ?_
                      refine wp_iload 99 d_PM_pour_97 rfl rfl ?_
                      refine ws_V2 (b' := 0) 102 M_Tray_holds 1 [81, 82] ((hYr (Y 2))) d_PM_pour_99 rfl mv_Tray_holds lk_PM_146 rfl rfl rfl rfl rfl rfl rfl (eV_int _ _) (eV_int _ _) rfl ?_
                      refine c_Tray_holds ?_
                      refine sIr rfl rfl ?_
                      (first | refine wp_ifP_eq 117 105 d_PM_pour_102 rfl (by decide) (fun h102 => ?_) (fun h102 => ?_) | refine wp_if_eq 117 105 d_PM_pour_102 rfl (by decide) (fun h102 => ?_) (fun h102 => ?_))
                      · refine wp_aload_n 118 d_PM_pour_117 rfl rfl ?_
                        refine wp_iconst 119 3 d_PM_pour_118 rfl (by decide) ?_
                        refine wp_V1 122 M_PM_refuse 1 d_PM_pour_119 rfl mv_PM_refuse lk_PM_112 rfl rfl rfl rfl rfl ?_
                        refine c_PM_refuse ?_
                        refine kI ?_
                        refine wp_zreturn d_PM_pour_122 rfl (by first | rfl | exact nbP _) ?_
                        have e : poS Y (nI 2) (nI p) (nI 3) (nI a) (nI m) = 3 := ((((if_pos ⟨h5, h13, h17, h22, Int32.not_lt.mpr h27⟩).trans (if_neg (fun z => z.elim h57 h65))).trans (if_neg (fun z => z h84))).trans (if_neg (fun z => h102 z.1)))
                        exact hq0 3 e (by decide)
                      · refine wp_aload 107 d_PM_pour_105 rfl rfl ?_
                        refine wp_iload 109 d_PM_pour_107 rfl rfl ?_
                        refine wp_iload 111 d_PM_pour_109 rfl rfl ?_
                        refine ws_V2 (b' := 0) 114 M_Tray_holds 1 [83, 84] ((hYr (Y 3))) d_PM_pour_111 rfl mv_Tray_holds lk_PM_146 rfl rfl rfl rfl rfl rfl rfl (eV_int _ _) (eV_int _ _) rfl ?_
                        refine c_Tray_holds ?_
                        refine sIr rfl rfl ?_
                        (first | refine wp_ifP_ne 123 117 d_PM_pour_114 rfl (by decide) (fun h114 => ?_) (fun h114 => ?_) | refine wp_if_ne 123 117 d_PM_pour_114 rfl (by decide) (fun h114 => ?_) (fun h114 => ?_))
                        · refine wp_aload 125 d_PM_pour_123 rfl rfl ?_
                          refine wp_getfield 128 10 0 d_PM_pour_125 rfl fl_PM_136 rfl rfl ?_
                          refine wp_iload_n 129 d_PM_pour_128 rfl rfl ?_
                          refine wp_aload 131 d_PM_pour_129 rfl rfl ?_
                          refine wp_getfield 134 10 0 d_PM_pour_131 rfl fl_PM_136 rfl rfl ?_
                          refine wp_iload 136 d_PM_pour_134 rfl rfl ?_
                          refine wp_iload 138 d_PM_pour_136 rfl rfl ?_
                          have hY1 := hY 2
                          have hY2 := hY 3
                          have g1 := (sum64 (by omega) (by omega) (by omega)).mp h102
                          have g2 := (sum64 (by omega) (by omega) (by omega)).mp h114
                          refine wp_acopyJ (i := p) (j := a) (n := m) 141 d_PM_pour_138 rfl lk_PM_149 rfl rfl ⟨rfl, rfl⟩ (by omega) (by omega) (by decide) rfl ?_
                          dsimp only [List.set]
                          refine hEq (hPM (poY Y 2 p 3 a m) X T S M D E N C U W G L VL HL nK ST TP BT) rfl ?_
                          refine wp_aload_n 142 d_PM_pour_141 rfl rfl ?_
                          refine wp_V0 145 M_PM_accept 1 d_PM_pour_142 rfl mv_PM_accept lk_PM_120 rfl rfl rfl rfl rfl ?_
                          refine c_PM_accept ?_
                          refine kI ?_
                          refine wp_zreturn d_PM_pour_145 rfl (by first | rfl | exact nbP _) ?_
                          have e : poS Y (nI 2) (nI p) (nI 3) (nI a) (nI m) = 0 := ((((if_pos ⟨h5, h13, h17, h22, Int32.not_lt.mpr h27⟩).trans (if_neg (fun z => z.elim h57 h65))).trans (if_neg (fun z => z h84))).trans (if_pos ⟨h102, h114⟩))
                          have h9 := hq1 e
                          rw [nI_clamp (by omega : p < 2 ^ 31), nI_clamp (by omega : a < 2 ^ 31), nI_clamp (by omega : m < 2 ^ 31)] at h9
                          exact h9
                        · refine wp_aload_n 118 d_PM_pour_117 rfl rfl ?_
                          refine wp_iconst 119 3 d_PM_pour_118 rfl (by decide) ?_
                          refine wp_V1 122 M_PM_refuse 1 d_PM_pour_119 rfl mv_PM_refuse lk_PM_112 rfl rfl rfl rfl rfl ?_
                          refine c_PM_refuse ?_
                          refine kI ?_
                          refine wp_zreturn d_PM_pour_122 rfl (by first | rfl | exact nbP _) ?_
                          have e : poS Y (nI 2) (nI p) (nI 3) (nI a) (nI m) = 3 := ((((if_pos ⟨h5, h13, h17, h22, Int32.not_lt.mpr h27⟩).trans (if_neg (fun z => z.elim h57 h65))).trans (if_neg (fun z => z h84))).trans (if_neg (fun z => h114 z.2)))
                          exact hq0 3 e (by decide)
                    · refine wp_aload_n 88 d_PM_pour_87 rfl rfl ?_
                      refine wp_bipush 90 8 d_PM_pour_88 rfl (by decide) ?_
                      refine wp_V1 93 M_PM_refuse 1 d_PM_pour_90 rfl mv_PM_refuse lk_PM_112 rfl rfl rfl rfl rfl ?_
                      refine c_PM_refuse ?_
                      refine kI ?_
                      refine wp_zreturn d_PM_pour_93 rfl (by first | rfl | exact nbP _) ?_
                      have e : poS Y (nI 2) (nI p) (nI 3) (nI a) (nI m) = 8 := (((if_pos ⟨h5, h13, h17, h22, Int32.not_lt.mpr h27⟩).trans (if_neg (fun z => z.elim h57 h65))).trans (if_pos h84))
                      exact hq0 8 e (by decide)
                  · refine wp_aload_n 69 d_PM_pour_68 rfl rfl ?_
                    refine wp_iconst 70 2 d_PM_pour_69 rfl (by decide) ?_
                    refine wp_V1 73 M_PM_refuse 1 d_PM_pour_70 rfl mv_PM_refuse lk_PM_112 rfl rfl rfl rfl rfl ?_
                    refine c_PM_refuse ?_
                    refine kI ?_
                    refine wp_zreturn d_PM_pour_73 rfl (by first | rfl | exact nbP _) ?_
                    have e : poS Y (nI 2) (nI p) (nI 3) (nI a) (nI m) = 2 := ((if_pos ⟨h5, h13, h17, h22, Int32.not_lt.mpr h27⟩).trans (if_pos (Or.inr h65)))
                    exact hq0 2 e (by decide)
            · refine wp_aaload 42 4 83 d_PM_pour_41 rfl rfl (fun _ => rfl) (vp_in_nI (by decide) (by decide)) rfl ?_
              refine wp_astore_6 44 d_PM_pour_42 rfl rfl rfl ?_
              refine wp_aload_n 45 d_PM_pour_44 rfl rfl ?_
              refine wp_getfield 48 11 0 d_PM_pour_45 rfl fl_PM_11 rfl rfl ?_
              refine wp_iload_n 49 d_PM_pour_48 rfl rfl ?_
              rcases inR4 h13 with rfl | rfl | rfl | rfl
              · refine wp_aaload 50 4 77 d_PM_pour_49 rfl rfl (fun _ => rfl) (vp_in_nI (by decide) (by decide)) rfl ?_
                refine wp_astore_7 52 d_PM_pour_50 rfl rfl rfl ?_
                refine wp_aload 54 d_PM_pour_52 rfl rfl ?_
                refine wp_getfield 57 10 1 d_PM_pour_54 rfl fl_PM_140 rfl rfl ?_
                refine wp_if_eq 68 60 d_PM_pour_57 rfl (by decide) (fun h57 => ?_) (fun h57 => ?_)
                · refine wp_aload_n 69 d_PM_pour_68 rfl rfl ?_
                  refine wp_iconst 70 2 d_PM_pour_69 rfl (by decide) ?_
                  refine wp_V1 73 M_PM_refuse 1 d_PM_pour_70 rfl mv_PM_refuse lk_PM_112 rfl rfl rfl rfl rfl ?_
                  refine c_PM_refuse ?_
                  refine kI ?_
                  refine wp_zreturn d_PM_pour_73 rfl (by first | rfl | exact nbP _) ?_
                  have e : poS Y (nI 3) (nI p) (nI 0) (nI a) (nI m) = 2 := ((if_pos ⟨h5, h13, h17, h22, Int32.not_lt.mpr h27⟩).trans (if_pos (Or.inl h57)))
                  exact hq0 2 e (by decide)
                · refine wp_aload 62 d_PM_pour_60 rfl rfl ?_
                  refine wp_getfield 65 10 1 d_PM_pour_62 rfl fl_PM_140 rfl rfl ?_
                  refine wp_if_ne 74 68 d_PM_pour_65 rfl (by decide) (fun h65 => ?_) (fun h65 => ?_)
                  · refine wp_aload 76 d_PM_pour_74 rfl rfl ?_
                    refine wp_getfield 79 10 2 d_PM_pour_76 rfl fl_PM_143 rfl rfl ?_
                    refine wp_aload 81 d_PM_pour_79 rfl rfl ?_
                    refine wp_getfield 84 10 2 d_PM_pour_81 rfl fl_PM_143 rfl rfl ?_
                    refine wp_icmp_eq 94 87 d_PM_pour_84 rfl (by decide) (fun h84 => ?_) (fun h84 => ?_)
                    · refine wp_aload 96 d_PM_pour_94 rfl rfl ?_
                      refine wp_iload_n 97 d_PM_pour_96 rfl rfl ?_
                      refine wp_iload 99 d_PM_pour_97 rfl rfl ?_
                      refine ws_V2 (b' := 0) 102 M_Tray_holds 1 [83, 84] ((hYr (Y 3))) d_PM_pour_99 rfl mv_Tray_holds lk_PM_146 rfl rfl rfl rfl rfl rfl rfl (eV_int _ _) (eV_int _ _) rfl ?_
                      refine c_Tray_holds ?_
                      refine sIr rfl rfl ?_
                      (first | refine wp_ifP_eq 117 105 d_PM_pour_102 rfl (by decide) (fun h102 => ?_) (fun h102 => ?_) | refine wp_if_eq 117 105 d_PM_pour_102 rfl (by decide) (fun h102 => ?_) (fun h102 => ?_))
                      · refine wp_aload_n 118 d_PM_pour_117 rfl rfl ?_
                        refine wp_iconst 119 3 d_PM_pour_118 rfl (by decide) ?_
                        refine wp_V1 122 M_PM_refuse 1 d_PM_pour_119 rfl mv_PM_refuse lk_PM_112 rfl rfl rfl rfl rfl ?_
                        refine c_PM_refuse ?_
                        refine kI ?_
                        refine wp_zreturn d_PM_pour_122 rfl (by first | rfl | exact nbP _) ?_
                        have e : poS Y (nI 3) (nI p) (nI 0) (nI a) (nI m) = 3 := ((((if_pos ⟨h5, h13, h17, h22, Int32.not_lt.mpr h27⟩).trans (if_neg (fun z => z.elim h57 h65))).trans (if_neg (fun z => z h84))).trans (if_neg (fun z => h102 z.1)))
                        exact hq0 3 e (by decide)
                      · refine wp_aload 107 d_PM_pour_105 rfl rfl ?_
                        refine wp_iload 109 d_PM_pour_107 rfl rfl ?_
                        refine wp_iload 111 d_PM_pour_109 rfl rfl ?_
                        refine ws_V2 (b' := 0) 114 M_Tray_holds 1 [77, 78] ((hYr (Y 0))) d_PM_pour_111 rfl mv_Tray_holds lk_PM_146 rfl rfl rfl rfl rfl rfl rfl (eV_int _ _) (eV_int _ _) rfl ?_
                        refine c_Tray_holds ?_
                        refine sIr rfl rfl ?_
                        (first | refine wp_ifP_ne 123 117 d_PM_pour_114 rfl (by decide) (fun h114 => ?_) (fun h114 => ?_) | refine wp_if_ne 123 117 d_PM_pour_114 rfl (by decide) (fun h114 => ?_) (fun h114 => ?_))
                        · refine wp_aload 125 d_PM_pour_123 rfl rfl ?_
                          refine wp_getfield 128 10 0 d_PM_pour_125 rfl fl_PM_136 rfl rfl ?_
                          refine wp_iload_n 129 d_PM_pour_128 rfl rfl ?_
                          refine wp_aload 131 d_PM_pour_129 rfl rfl ?_
                          refine wp_getfield 134 10 0 d_PM_pour_131 rfl fl_PM_136 rfl rfl ?_
                          refine wp_iload 136 d_PM_pour_134 rfl rfl ?_
                          refine wp_iload 138 d_PM_pour_136 rfl rfl ?_
                          have hY1 := hY 3
                          have hY2 := hY 0
                          have g1 := (sum64 (by omega) (by omega) (by omega)).mp h102
                          have g2 := (sum64 (by omega) (by omega) (by omega)).mp h114
                          refine wp_acopyJ (i := p) (j := a) (n := m) 141 d_PM_pour_138 rfl lk_PM_149 rfl rfl ⟨rfl, rfl⟩ (by omega) (by omega) (by decide) rfl ?_
                          dsimp only [List.set]
                          refine hEq (hPM (poY Y 3 p 0 a m) X T S M D E N C U W G L VL HL nK ST TP BT) rfl ?_
                          refine wp_aload_n 142 d_PM_pour_141 rfl rfl ?_
                          refine wp_V0 145 M_PM_accept 1 d_PM_pour_142 rfl mv_PM_accept lk_PM_120 rfl rfl rfl rfl rfl ?_
                          refine c_PM_accept ?_
                          refine kI ?_
                          refine wp_zreturn d_PM_pour_145 rfl (by first | rfl | exact nbP _) ?_
                          have e : poS Y (nI 3) (nI p) (nI 0) (nI a) (nI m) = 0 := ((((if_pos ⟨h5, h13, h17, h22, Int32.not_lt.mpr h27⟩).trans (if_neg (fun z => z.elim h57 h65))).trans (if_neg (fun z => z h84))).trans (if_pos ⟨h102, h114⟩))
                          have h9 := hq1 e
                          rw [nI_clamp (by omega : p < 2 ^ 31), nI_clamp (by omega : a < 2 ^ 31), nI_clamp (by omega : m < 2 ^ 31)] at h9
                          exact h9
                        · refine wp_aload_n 118 d_PM_pour_117 rfl rfl ?_
                          refine wp_iconst 119 3 d_PM_pour_118 rfl (by decide) ?_
                          refine wp_V1 122 M_PM_refuse 1 d_PM_pour_119 rfl mv_PM_refuse lk_PM_112 rfl rfl rfl rfl rfl ?_
                          refine c_PM_refuse ?_
                          refine kI ?_
                          refine wp_zreturn d_PM_pour_122 rfl (by first | rfl | exact nbP _) ?_
                          have e : poS Y (nI 3) (nI p) (nI 0) (nI a) (nI m) = 3 := ((((if_pos ⟨h5, h13, h17, h22, Int32.not_lt.mpr h27⟩).trans (if_neg (fun z => z.elim h57 h65))).trans (if_neg (fun z => z h84))).trans (if_neg (fun z => h114 z.2)))
                          exact hq0 3 e (by decide)
                    · refine wp_aload_n 88 d_PM_pour_87 rfl rfl ?_
                      refine wp_bipush 90 8 d_PM_pour_88 rfl (by decide) ?_
                      refine wp_V1 93 M_PM_refuse 1 d_PM_pour_90 rfl mv_PM_refuse lk_PM_112 rfl rfl rfl rfl rfl ?_
                      refine c_PM_refuse ?_
                      refine kI ?_
                      refine wp_zreturn d_PM_pour_93 rfl (by first | rfl | exact nbP _) ?_
                      have e : poS Y (nI 3) (nI p) (nI 0) (nI a) (nI m) = 8 := (((if_pos ⟨h5, h13, h17, h22, Int32.not_lt.mpr h27⟩).trans (if_neg (fun z => z.elim h57 h65))).trans (if_pos h84))
                      exact hq0 8 e (by decide)
                  · refine wp_aload_n 69 d_PM_pour_68 rfl rfl ?_
                    refine wp_iconst 70 2 d_PM_pour_69 rfl (by decide) ?_
                    refine wp_V1 73 M_PM_refuse 1 d_PM_pour_70 rfl mv_PM_refuse lk_PM_112 rfl rfl rfl rfl rfl ?_
                    refine c_PM_refuse ?_
                    refine kI ?_
                    refine wp_zreturn d_PM_pour_73 rfl (by first | rfl | exact nbP _) ?_
                    have e : poS Y (nI 3) (nI p) (nI 0) (nI a) (nI m) = 2 := ((if_pos ⟨h5, h13, h17, h22, Int32.not_lt.mpr h27⟩).trans (if_pos (Or.inr h65)))
                    exact hq0 2 e (by decide)
              · refine wp_aaload 50 4 79 d_PM_pour_49 rfl rfl (fun _ => rfl) (vp_in_nI (by decide) (by decide)) rfl ?_
                refine wp_astore_7 52 d_PM_pour_50 rfl rfl rfl ?_
                refine wp_aload 54 d_PM_pour_52 rfl rfl ?_
                refine wp_getfield 57 10 1 d_PM_pour_54 rfl fl_PM_140 rfl rfl ?_
                refine wp_if_eq 68 60 d_PM_pour_57 rfl (by decide) (fun h57 => ?_) (fun h57 => ?_)
                · refine wp_aload_n 69 d_PM_pour_68 rfl rfl ?_
                  refine wp_iconst 70 2 d_PM_pour_69 rfl (by decide) ?_
                  refine wp_V1 73 M_PM_refuse 1 d_PM_pour_70 rfl mv_PM_refuse lk_PM_112 rfl rfl rfl rfl rfl ?_
                  refine c_PM_refuse ?_
                  refine kI ?_
                  refine wp_zreturn d_PM_pour_73 rfl (by first | rfl | exact nbP _) ?_
                  have e : poS Y (nI 3) (nI p) (nI 1) (nI a) (nI m) = 2 := ((if_pos ⟨h5, h13, h17, h22, Int32.not_lt.mpr h27⟩).trans (if_pos (Or.inl h57)))
                  exact hq0 2 e (by decide)
                · refine wp_aload 62 d_PM_pour_60 rfl rfl ?_
                  refine wp_getfield 65 10 1 d_PM_pour_62 rfl fl_PM_140 rfl rfl ?_
                  refine wp_if_ne 74 68 d_PM_pour_65 rfl (by decide) (fun h65 => ?_) (fun h65 => ?_)
                  · refine wp_aload 76 d_PM_pour_74 rfl rfl ?_
                    refine wp_getfield 79 10 2 d_PM_pour_76 rfl fl_PM_143 rfl rfl ?_
                    refine wp_aload 81 d_PM_pour_79 rfl rfl ?_
                    refine wp_getfield 84 10 2 d_PM_pour_81 rfl fl_PM_143 rfl rfl ?_
                    refine wp_icmp_eq 94 87 d_PM_pour_84 rfl (by decide) (fun h84 => ?_) (fun h84 => ?_)
                    · refine wp_aload 96 d_PM_pour_94 rfl rfl ?_
                      refine wp_iload_n 97 d_PM_pour_96 rfl rfl ?_
                      refine wp_iload 99 d_PM_pour_97 rfl rfl ?_
                      refine ws_V2 (b' := 0) 102 M_Tray_holds 1 [83, 84] ((hYr (Y 3))) d_PM_pour_99 rfl mv_Tray_holds lk_PM_146 rfl rfl rfl rfl rfl rfl rfl (eV_int _ _) (eV_int _ _) rfl ?_
                      refine c_Tray_holds ?_
                      refine sIr rfl rfl ?_
                      (first | refine wp_ifP_eq 117 105 d_PM_pour_102 rfl (by decide) (fun h102 => ?_) (fun h102 => ?_) | refine wp_if_eq 117 105 d_PM_pour_102 rfl (by decide) (fun h102 => ?_) (fun h102 => ?_))
                      · refine wp_aload_n 118 d_PM_pour_117 rfl rfl ?_
                        refine wp_iconst 119 3 d_PM_pour_118 rfl (by decide) ?_
                        refine wp_V1 122 M_PM_refuse 1 d_PM_pour_119 rfl mv_PM_refuse lk_PM_112 rfl rfl rfl rfl rfl ?_
                        refine c_PM_refuse ?_
                        refine kI ?_
                        refine wp_zreturn d_PM_pour_122 rfl (by first | rfl | exact nbP _) ?_
                        have e : poS Y (nI 3) (nI p) (nI 1) (nI a) (nI m) = 3 := ((((if_pos ⟨h5, h13, h17, h22, Int32.not_lt.mpr h27⟩).trans (if_neg (fun z => z.elim h57 h65))).trans (if_neg (fun z => z h84))).trans (if_neg (fun z => h102 z.1)))
                        exact hq0 3 e (by decide)
                      · refine wp_aload 107 d_PM_pour_105 rfl rfl ?_
                        refine wp_iload 109 d_PM_pour_107 rfl rfl ?_
                        refine wp_iload 111 d_PM_pour_109 rfl rfl ?_
                        refine ws_V2 (b' := 0) 114 M_Tray_holds 1 [79, 80] ((hYr (Y 1))) d_PM_pour_111 rfl mv_Tray_holds lk_PM_146 rfl rfl rfl rfl rfl rfl rfl (eV_int _ _) (eV_int _ _) rfl ?_
                        refine c_Tray_holds ?_
                        refine sIr rfl rfl ?_
                        (first | refine wp_ifP_ne 123 117 d_PM_pour_114 rfl (by decide) (fun h114 => ?_) (fun h114 => ?_) | refine wp_if_ne 123 117 d_PM_pour_114 rfl (by decide) (fun h114 => ?_) (fun h114 => ?_))
                        · refine wp_aload 125 d_PM_pour_123 rfl rfl ?_
                          refine wp_getfield 128 10 0 d_PM_pour_125 rfl fl_PM_136 rfl rfl ?_
                          refine wp_iload_n 129 d_PM_pour_128 rfl rfl ?_
                          refine wp_aload 131 d_PM_pour_129 rfl rfl ?_
                          refine wp_getfield 134 10 0 d_PM_pour_131 rfl fl_PM_136 rfl rfl ?_
                          refine wp_iload 136 d_PM_pour_134 rfl rfl ?_
                          refine wp_iload 138 d_PM_pour_136 rfl rfl ?_
                          have hY1 := hY 3
                          have hY2 := hY 1
                          have g1 := (sum64 (by omega) (by omega) (by omega)).mp h102
                          have g2 := (sum64 (by omega) (by omega) (by omega)).mp h114
                          refine wp_acopyJ (i := p) (j := a) (n := m) 141 d_PM_pour_138 rfl lk_PM_149 rfl rfl ⟨rfl, rfl⟩ (by omega) (by omega) (by decide) rfl ?_
                          dsimp only [List.set]
                          refine hEq (hPM (poY Y 3 p 1 a m) X T S M D E N C U W G L VL HL nK ST TP BT) rfl ?_
                          refine wp_aload_n 142 d_PM_pour_141 rfl rfl ?_
                          refine wp_V0 145 M_PM_accept 1 d_PM_pour_142 rfl mv_PM_accept lk_PM_120 rfl rfl rfl rfl rfl ?_
                          refine c_PM_accept ?_
                          refine kI ?_
                          refine wp_zreturn d_PM_pour_145 rfl (by first | rfl | exact nbP _) ?_
                          have e : poS Y (nI 3) (nI p) (nI 1) (nI a) (nI m) = 0 := ((((if_pos ⟨h5, h13, h17, h22, Int32.not_lt.mpr h27⟩).trans (if_neg (fun z => z.elim h57 h65))).trans (if_neg (fun z => z h84))).trans (if_pos ⟨h102, h114⟩))
                          have h9 := hq1 e
                          rw [nI_clamp (by omega : p < 2 ^ 31), nI_clamp (by omega : a < 2 ^ 31), nI_clamp (by omega : m < 2 ^ 31)] at h9
                          exact h9
                        · refine wp_aload_n 118 d_PM_pour_117 rfl rfl ?_
                          refine wp_iconst 119 3 d_PM_pour_118 rfl (by decide) ?_
                          refine wp_V1 122 M_PM_refuse 1 d_PM_pour_119 rfl mv_PM_refuse lk_PM_112 rfl rfl rfl rfl rfl ?_
                          refine c_PM_refuse ?_
                          refine kI ?_
                          refine wp_zreturn d_PM_pour_122 rfl (by first | rfl | exact nbP _) ?_
                          have e : poS Y (nI 3) (nI p) (nI 1) (nI a) (nI m) = 3 := ((((if_pos ⟨h5, h13, h17, h22, Int32.not_lt.mpr h27⟩).trans (if_neg (fun z => z.elim h57 h65))).trans (if_neg (fun z => z h84))).trans (if_neg (fun z => h114 z.2)))
                          exact hq0 3 e (by decide)
                    · refine wp_aload_n 88 d_PM_pour_87 rfl rfl ?_
                      refine wp_bipush 90 8 d_PM_pour_88 rfl (by decide) ?_
                      refine wp_V1 93 M_PM_refuse 1 d_PM_pour_90 rfl mv_PM_refuse lk_PM_112 rfl rfl rfl rfl rfl ?_
                      refine c_PM_refuse ?_
                      refine kI ?_
                      refine wp_zreturn d_PM_pour_93 rfl (by first | rfl | exact nbP _) ?_
                      have e : poS Y (nI 3) (nI p) (nI 1) (nI a) (nI m) = 8 := (((if_pos ⟨h5, h13, h17, h22, Int32.not_lt.mpr h27⟩).trans (if_neg (fun z => z.elim h57 h65))).trans (if_pos h84))
                      exact hq0 8 e (by decide)
                  · refine wp_aload_n 69 d_PM_pour_68 rfl rfl ?_
                    refine wp_iconst 70 2 d_PM_pour_69 rfl (by decide) ?_
                    refine wp_V1 73 M_PM_refuse 1 d_PM_pour_70 rfl mv_PM_refuse lk_PM_112 rfl rfl rfl rfl rfl ?_
                    refine c_PM_refuse ?_
                    refine kI ?_
                    refine wp_zreturn d_PM_pour_73 rfl (by first | rfl | exact nbP _) ?_
                    have e : poS Y (nI 3) (nI p) (nI 1) (nI a) (nI m) = 2 := ((if_pos ⟨h5, h13, h17, h22, Int32.not_lt.mpr h27⟩).trans (if_pos (Or.inr h65)))
                    exact hq0 2 e (by decide)
              · refine wp_aaload 50 4 81 d_PM_pour_49 rfl rfl (fun _ => rfl) (vp_in_nI (by decide) (by decide)) rfl ?_
                refine wp_astore_7 52 d_PM_pour_50 rfl rfl rfl ?_
                refine wp_aload 54 d_PM_pour_52 rfl rfl ?_
                refine wp_getfield 57 10 1 d_PM_pour_54 rfl fl_PM_140 rfl rfl ?_
                refine wp_if_eq 68 60 d_PM_pour_57 rfl (by decide) (fun h57 => ?_) (fun h57 => ?_)
                · refine wp_aload_n 69 d_PM_pour_68 rfl rfl ?_
                  refine wp_iconst 70 2 d_PM_pour_69 rfl (by decide) ?_
                  refine wp_V1 73 M_PM_refuse 1 d_PM_pour_70 rfl mv_PM_refuse lk_PM_112 rfl rfl rfl rfl rfl ?_
                  refine c_PM_refuse ?_
                  refine kI ?_
                  refine wp_zreturn d_PM_pour_73 rfl (by first | rfl | exact nbP _) ?_
                  have e : poS Y (nI 3) (nI p) (nI 2) (nI a) (nI m) = 2 := ((if_pos ⟨h5, h13, h17, h22, Int32.not_lt.mpr h27⟩).trans (if_pos (Or.inl h57)))
                  exact hq0 2 e (by decide)
                · refine wp_aload 62 d_PM_pour_60 rfl rfl ?_
                  refine wp_getfield 65 10 1 d_PM_pour_62 rfl fl_PM_140 rfl rfl ?_
                  refine wp_if_ne 74 68 d_PM_pour_65 rfl (by decide) (fun h65 => ?_) (fun h65 => ?_)
                  · refine wp_aload 76 d_PM_pour_74 rfl rfl ?_
                    refine wp_getfield 79 10 2 d_PM_pour_76 rfl fl_PM_143 rfl rfl ?_
                    refine wp_aload 81 d_PM_pour_79 rfl rfl ?_
                    refine wp_getfield 84 10 2 d_PM_pour_81 rfl fl_PM_143 rfl rfl ?_
                    refine wp_icmp_eq 94 87 d_PM_pour_84 rfl (by decide) (fun h84 => ?_) (fun h84 => ?_)
                    · refine wp_aload 96 d_PM_pour_94 rfl rfl ?_
                      refine wp_iload_n 97 d_PM_pour_96 rfl rfl ?_
                      refine wp_iload 99 d_PM_pour_97 rfl rfl ?_
                      refine ws_V2 (b' := 0) 102 M_Tray_holds 1 [83, 84] ((hYr (Y 3))) d_PM_pour_99 rfl mv_Tray_holds lk_PM_146 rfl rfl rfl rfl rfl rfl rfl (eV_int _ _) (eV_int _ _) rfl ?_
                      refine c_Tray_holds ?_
                      refine sIr rfl rfl ?_
                      (first | refine wp_ifP_eq 117 105 d_PM_pour_102 rfl (by decide) (fun h102 => ?_) (fun h102 => ?_) | refine wp_if_eq 117 105 d_PM_pour_102 rfl (by decide) (fun h102 => ?_) (fun h102 => ?_))
                      · refine wp_aload_n 118 d_PM_pour_117 rfl rfl ?_
                        refine wp_iconst 119 3 d_PM_pour_118 rfl (by decide) ?_
                        refine wp_V1 122 M_PM_refuse 1 d_PM_pour_119 rfl mv_PM_refuse lk_PM_112 rfl rfl rfl rfl rfl ?_
                        refine c_PM_refuse ?_
                        refine kI ?_
                        refine wp_zreturn d_PM_pour_122 rfl (by first | rfl | exact nbP _) ?_
                        have e : poS Y (nI 3) (nI p) (nI 2) (nI a) (nI m) = 3 := ((((if_pos ⟨h5, h13, h17, h22, Int32.not_lt.mpr h27⟩).trans (if_neg (fun z => z.elim h57 h65))).trans (if_neg (fun z => z h84))).trans (if_neg (fun z => h102 z.1)))
                        exact hq0 3 e (by decide)
                      · refine wp_aload 107 d_PM_pour_105 rfl rfl ?_
                        refine wp_iload 109 d_PM_pour_107 rfl rfl ?_
                        refine wp_iload 111 d_PM_pour_109 rfl rfl ?_
                        refine ws_V2 (b' := 0) 114 M_Tray_holds 1 [81, 82] ((hYr (Y 2))) d_PM_pour_111 rfl mv_Tray_holds lk_PM_146 rfl rfl rfl rfl rfl rfl rfl (eV_int _ _) (eV_int _ _) rfl ?_
                        refine c_Tray_holds ?_
                        refine sIr rfl rfl ?_
                        (first | refine wp_ifP_ne 123 117 d_PM_pour_114 rfl (by decide) (fun h114 => ?_) (fun h114 => ?_) | refine wp_if_ne 123 117 d_PM_pour_114 rfl (by decide) (fun h114 => ?_) (fun h114 => ?_))
                        · refine wp_aload 125 d_PM_pour_123 rfl rfl ?_
                          refine wp_getfield 128 10 0 d_PM_pour_125 rfl fl_PM_136 rfl rfl ?_
                          refine wp_iload_n 129 d_PM_pour_128 rfl rfl ?_
                          refine wp_aload 131 d_PM_pour_129 rfl rfl ?_
                          refine wp_getfield 134 10 0 d_PM_pour_131 rfl fl_PM_136 rfl rfl ?_
                          refine wp_iload 136 d_PM_pour_134 rfl rfl ?_
                          refine wp_iload 138 d_PM_pour_136 rfl rfl ?_
                          have hY1 := hY 3
                          have hY2 := hY 2
                          have g1 := (sum64 (by omega) (by omega) (by omega)).mp h102
                          have g2 := (sum64 (by omega) (by omega) (by omega)).mp h114
                          refine wp_acopyJ (i := p) (j := a) (n := m) 141 d_PM_pour_138 rfl lk_PM_149 rfl rfl ⟨rfl, rfl⟩ (by omega) (by omega) (by decide) rfl ?_
                          dsimp only [List.set]
                          refine hEq (hPM (poY Y 3 p 2 a m) X T S M D E N C U W G L VL HL nK ST TP BT) rfl ?_
                          refine wp_aload_n 142 d_PM_pour_141 rfl rfl ?_
                          refine wp_V0 145 M_PM_accept 1 d_PM_pour_142 rfl mv_PM_accept lk_PM_120 rfl rfl rfl rfl rfl ?_
                          refine c_PM_accept ?_
                          refine kI ?_
                          refine wp_zreturn d_PM_pour_145 rfl (by first | rfl | exact nbP _) ?_
                          have e : poS Y (nI 3) (nI p) (nI 2) (nI a) (nI m) = 0 := ((((if_pos ⟨h5, h13, h17, h22, Int32.not_lt.mpr h27⟩).trans (if_neg (fun z => z.elim h57 h65))).trans (if_neg (fun z => z h84))).trans (if_pos ⟨h102, h114⟩))
                          have h9 := hq1 e
                          rw [nI_clamp (by omega : p < 2 ^ 31), nI_clamp (by omega : a < 2 ^ 31), nI_clamp (by omega : m < 2 ^ 31)] at h9
                          exact h9
                        · refine wp_aload_n 118 d_PM_pour_117 rfl rfl ?_
                          refine wp_iconst 119 3 d_PM_pour_118 rfl (by decide) ?_
                          refine wp_V1 122 M_PM_refuse 1 d_PM_pour_119 rfl mv_PM_refuse lk_PM_112 rfl rfl rfl rfl rfl ?_
                          refine c_PM_refuse ?_
                          refine kI ?_
                          refine wp_zreturn d_PM_pour_122 rfl (by first | rfl | exact nbP _) ?_
                          have e : poS Y (nI 3) (nI p) (nI 2) (nI a) (nI m) = 3 := ((((if_pos ⟨h5, h13, h17, h22, Int32.not_lt.mpr h27⟩).trans (if_neg (fun z => z.elim h57 h65))).trans (if_neg (fun z => z h84))).trans (if_neg (fun z => h114 z.2)))
                          exact hq0 3 e (by decide)
                    · refine wp_aload_n 88 d_PM_pour_87 rfl rfl ?_
                      refine wp_bipush 90 8 d_PM_pour_88 rfl (by decide) ?_
                      refine wp_V1 93 M_PM_refuse 1 d_PM_pour_90 rfl mv_PM_refuse lk_PM_112 rfl rfl rfl rfl rfl ?_
                      refine c_PM_refuse ?_
                      refine kI ?_
                      refine wp_zreturn d_PM_pour_93 rfl (by first | rfl | exact nbP _) ?_
                      have e : poS Y (nI 3) (nI p) (nI 2) (nI a) (nI m) = 8 := (((if_pos ⟨h5, h13, h17, h22, Int32.not_lt.mpr h27⟩).trans (if_neg (fun z => z.elim h57 h65))).trans (if_pos h84))
                      exact hq0 8 e (by decide)
                  · refine wp_aload_n 69 d_PM_pour_68 rfl rfl ?_
                    refine wp_iconst 70 2 d_PM_pour_69 rfl (by decide) ?_
                    refine wp_V1 73 M_PM_refuse 1 d_PM_pour_70 rfl mv_PM_refuse lk_PM_112 rfl rfl rfl rfl rfl ?_
                    refine c_PM_refuse ?_
                    refine kI ?_
                    refine wp_zreturn d_PM_pour_73 rfl (by first | rfl | exact nbP _) ?_
                    have e : poS Y (nI 3) (nI p) (nI 2) (nI a) (nI m) = 2 := ((if_pos ⟨h5, h13, h17, h22, Int32.not_lt.mpr h27⟩).trans (if_pos (Or.inr h65)))
                    exact hq0 2 e (by decide)
              · refine wp_aaload 50 4 83 d_PM_pour_49 rfl rfl (fun _ => rfl) (vp_in_nI (by decide) (by decide)) rfl ?_
                refine wp_astore_7 52 d_PM_pour_50 rfl rfl rfl ?_
                refine wp_aload 54 d_PM_pour_52 rfl rfl ?_
                refine wp_getfield 57 10 1 d_PM_pour_54 rfl fl_PM_140 rfl rfl ?_
                refine wp_if_eq 68 60 d_PM_pour_57 rfl (by decide) (fun h57 => ?_) (fun h57 => ?_)
                · refine wp_aload_n 69 d_PM_pour_68 rfl rfl ?_
                  refine wp_iconst 70 2 d_PM_pour_69 rfl (by decide) ?_
                  refine wp_V1 73 M_PM_refuse 1 d_PM_pour_70 rfl mv_PM_refuse lk_PM_112 rfl rfl rfl rfl rfl ?_
                  refine c_PM_refuse ?_
                  refine kI ?_
                  refine wp_zreturn d_PM_pour_73 rfl (by first | rfl | exact nbP _) ?_
                  have e : poS Y (nI 3) (nI p) (nI 3) (nI a) (nI m) = 2 := ((if_pos ⟨h5, h13, h17, h22, Int32.not_lt.mpr h27⟩).trans (if_pos (Or.inl h57)))
                  exact hq0 2 e (by decide)
                · refine wp_aload 62 d_PM_pour_60 rfl rfl ?_
                  refine wp_getfield 65 10 1 d_PM_pour_62 rfl fl_PM_140 rfl rfl ?_
                  refine wp_if_ne 74 68 d_PM_pour_65 rfl (by decide) (fun h65 => ?_) (fun h65 => ?_)
                  · refine wp_aload 76 d_PM_pour_74 rfl rfl ?_
                    refine wp_getfield 79 10 2 d_PM_pour_76 rfl fl_PM_143 rfl rfl ?_
                    refine wp_aload 81 d_PM_pour_79 rfl rfl ?_
                    refine wp_getfield 84 10 2 d_PM_pour_81 rfl fl_PM_143 rfl rfl ?_
                    refine wp_icmp_eq 94 87 d_PM_pour_84 rfl (by decide) (fun h84 => ?_) (fun h84 => ?_)
                    · refine wp_aload 96 d_PM_pour_94 rfl rfl ?_
                      refine wp_iload_n 97 d_PM_pour_96 rfl rfl ?_
                      refine wp_iload 99 d_PM_pour_97 rfl rfl ?_
                      refine ws_V2 (b' := 0) 102 M_Tray_holds 1 [83, 84] ((hYr (Y 3))) d_PM_pour_99 rfl mv_Tray_holds lk_PM_146 rfl rfl rfl rfl rfl rfl rfl (eV_int _ _) (eV_int _ _) rfl ?_
                      refine c_Tray_holds ?_
                      refine sIr rfl rfl ?_
                      (first | refine wp_ifP_eq 117 105 d_PM_pour_102 rfl (by decide) (fun h102 => ?_) (fun h102 => ?_) | refine wp_if_eq 117 105 d_PM_pour_102 rfl (by decide) (fun h102 => ?_) (fun h102 => ?_))
                      · refine wp_aload_n 118 d_PM_pour_117 rfl rfl ?_
                        refine wp_iconst 119 3 d_PM_pour_118 rfl (by decide) ?_
                        refine wp_V1 122 M_PM_refuse 1 d_PM_pour_119 rfl mv_PM_refuse lk_PM_112 rfl rfl rfl rfl rfl ?_
                        refine c_PM_refuse ?_
                        refine kI ?_
                        refine wp_zreturn d_PM_pour_122 rfl (by first | rfl | exact nbP _) ?_
                        have e : poS Y (nI 3) (nI p) (nI 3) (nI a) (nI m) = 3 := ((((if_pos ⟨h5, h13, h17, h22, Int32.not_lt.mpr h27⟩).trans (if_neg (fun z => z.elim h57 h65))).trans (if_neg (fun z => z h84))).trans (if_neg (fun z => h102 z.1)))
                        exact hq0 3 e (by decide)
                      · refine wp_aload 107 d_PM_pour_105 rfl rfl ?_
                        refine wp_iload 109 d_PM_pour_107 rfl rfl ?_
                        refine wp_iload 111 d_PM_pour_109 rfl rfl ?_
                        refine ws_V2 (b' := 0) 114 M_Tray_holds 1 [83, 84] ((hYr (Y 3))) d_PM_pour_111 rfl mv_Tray_holds lk_PM_146 rfl rfl rfl rfl rfl rfl rfl (eV_int _ _) (eV_int _ _) rfl ?_
                        refine c_Tray_holds ?_
                        refine sIr rfl rfl ?_
                        (first | refine wp_ifP_ne 123 117 d_PM_pour_114 rfl (by decide) (fun h114 => ?_) (fun h114 => ?_) | refine wp_if_ne 123 117 d_PM_pour_114 rfl (by decide) (fun h114 => ?_) (fun h114 => ?_))
                        · refine wp_aload 125 d_PM_pour_123 rfl rfl ?_
                          refine wp_getfield 128 10 0 d_PM_pour_125 rfl fl_PM_136 rfl rfl ?_
                          refine wp_iload_n 129 d_PM_pour_128 rfl rfl ?_
                          refine wp_aload 131 d_PM_pour_129 rfl rfl ?_
                          refine wp_getfield 134 10 0 d_PM_pour_131 rfl fl_PM_136 rfl rfl ?_
                          refine wp_iload 136 d_PM_pour_134 rfl rfl ?_
                          refine wp_iload 138 d_PM_pour_136 rfl rfl ?_
                          have hY1 := hY 3
                          have hY2 := hY 3
                          have g1 := (sum64 (by omega) (by omega) (by omega)).mp h102
                          have g2 := (sum64 (by omega) (by omega) (by omega)).mp h114
                          refine wp_acopyJ (i := p) (j := a) (n := m) 141 d_PM_pour_138 rfl lk_PM_149 rfl rfl ⟨rfl, rfl⟩ (by omega) (by omega) (by decide) rfl ?_
                          dsimp only [List.set]
                          refine hEq (hPM (poY Y 3 p 3 a m) X T S M D E N C U W G L VL HL nK ST TP BT) rfl ?_
                          refine wp_aload_n 142 d_PM_pour_141 rfl rfl ?_
                          refine wp_V0 145 M_PM_accept 1 d_PM_pour_142 rfl mv_PM_accept lk_PM_120 rfl rfl rfl rfl rfl ?_
                          refine c_PM_accept ?_
                          refine kI ?_
                          refine wp_zreturn d_PM_pour_145 rfl (by first | rfl | exact nbP _) ?_
                          have e : poS Y (nI 3) (nI p) (nI 3) (nI a) (nI m) = 0 := ((((if_pos ⟨h5, h13, h17, h22, Int32.not_lt.mpr h27⟩).trans (if_neg (fun z => z.elim h57 h65))).trans (if_neg (fun z => z h84))).trans (if_pos ⟨h102, h114⟩))
                          have h9 := hq1 e
                          rw [nI_clamp (by omega : p < 2 ^ 31), nI_clamp (by omega : a < 2 ^ 31), nI_clamp (by omega : m < 2 ^ 31)] at h9
                          exact h9
                        · refine wp_aload_n 118 d_PM_pour_117 rfl rfl ?_
                          refine wp_iconst 119 3 d_PM_pour_118 rfl (by decide) ?_
                          refine wp_V1 122 M_PM_refuse 1 d_PM_pour_119 rfl mv_PM_refuse lk_PM_112 rfl rfl rfl rfl rfl ?_
                          refine c_PM_refuse ?_
                          refine kI ?_
                          refine wp_zreturn d_PM_pour_122 rfl (by first | rfl | exact nbP _) ?_
                          have e : poS Y (nI 3) (nI p) (nI 3) (nI a) (nI m) = 3 := ((((if_pos ⟨h5, h13, h17, h22, Int32.not_lt.mpr h27⟩).trans (if_neg (fun z => z.elim h57 h65))).trans (if_neg (fun z => z h84))).trans (if_neg (fun z => h114 z.2)))
                          exact hq0 3 e (by decide)
                    · refine wp_aload_n 88 d_PM_pour_87 rfl rfl ?_
                      refine wp_bipush 90 8 d_PM_pour_88 rfl (by decide) ?_
                      refine wp_V1 93 M_PM_refuse 1 d_PM_pour_90 rfl mv_PM_refuse lk_PM_112 rfl rfl rfl rfl rfl ?_
                      refine c_PM_refuse ?_
                      refine kI ?_
                      refine wp_zreturn d_PM_pour_93 rfl (by first | rfl | exact nbP _) ?_
                      have e : poS Y (nI 3) (nI p) (nI 3) (nI a) (nI m) = 8 := (((if_pos ⟨h5, h13, h17, h22, Int32.not_lt.mpr h27⟩).trans (if_neg (fun z => z.elim h57 h65))).trans (if_pos h84))
                      exact hq0 8 e (by decide)
                  · refine wp_aload_n 69 d_PM_pour_68 rfl rfl ?_
                    refine wp_iconst 70 2 d_PM_pour_69 rfl (by decide) ?_
                    refine wp_V1 73 M_PM_refuse 1 d_PM_pour_70 rfl mv_PM_refuse lk_PM_112 rfl rfl rfl rfl rfl ?_
                    refine c_PM_refuse ?_
                    refine kI ?_
                    refine wp_zreturn d_PM_pour_73 rfl (by first | rfl | exact nbP _) ?_
                    have e : poS Y (nI 3) (nI p) (nI 3) (nI a) (nI m) = 2 := ((if_pos ⟨h5, h13, h17, h22, Int32.not_lt.mpr h27⟩).trans (if_pos (Or.inr h65)))
                    exact hq0 2 e (by decide)
          · refine wp_aload_n 31 d_PM_pour_30 rfl rfl ?_
            refine wp_iconst 32 1 d_PM_pour_31 rfl (by decide) ?_
            refine wp_V1 35 M_PM_refuse 1 d_PM_pour_32 rfl mv_PM_refuse lk_PM_112 rfl rfl rfl rfl rfl ?_
            refine c_PM_refuse ?_
            refine kI ?_
            refine wp_zreturn d_PM_pour_35 rfl (by first | rfl | exact nbP _) ?_
            have e : poS Y f p t a m = 1 := if_neg (fun z => z.2.2.2.2 (Int32.not_le.mp h27))
            exact hq0 1 e (by decide)

end T57
