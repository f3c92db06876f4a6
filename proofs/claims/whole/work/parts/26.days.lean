/-! ===== Chart.bridges; Days; Tray ===== -/
abbrev hD (dk : Nat → Int32) (df : Nat → Int32) (ds : Nat → Int32) (dth : Int32) (dro : Int32) (dst : Int32) : LH := [cO 1 [.ref 1, .ref 2, .ref 3, .int dth, .int dro, .int dst], cI 60 dk, cI 60 df, cI 60 ds]
abbrev hDD (dk : Nat → Int32) (df : Nat → Int32) (ds : Nat → Int32) (dth : Int32) (dro : Int32) (dst : Int32) (o_dk : Nat → Int32) (o_df : Nat → Int32) (o_ds : Nat → Int32) (o_dth : Int32) (o_dro : Int32) (o_dst : Int32) : LH := [cO 1 [.ref 1, .ref 2, .ref 3, .int dth, .int dro, .int dst], cI 60 dk, cI 60 df, cI 60 ds, cO 1 [.ref 5, .ref 6, .ref 7, .int o_dth, .int o_dro, .int o_dst], cI 60 o_dk, cI 60 o_df, cI 60 o_ds]
abbrev hY (yn : Nat → Int64) (yth : Int32) (yso : Int32) (yma : Int32) : LH := [cO 10 [.ref 1, .int yth, .int yso, .int yma], cL 60 yn]
abbrev brP (fr to_ : Nat → Int32) (nL nP : Nat) (th : Int32) (l : Nat) : Prop := hs th (nI l) ∧ ¬ (pOf (th &&& (bit (nI l) ^^^ (-1))) fr to_ nL nP).1 (fr l).toNatClampNeg = (pOf (th &&& (bit (nI l) ^^^ (-1))) fr to_ nL nP).1 (to_ l).toNatClampNeg
def cutR (s : Int32) (v : Int64) : Int64 := if s = 0 then v.toInt32.toInt8.toInt32.toInt64 else if s = 1 then v.toInt32.toInt16.toInt32.toInt64 else if s = 2 then v.toInt32.toInt64 else v
theorem qJ {Q : Option Value → LH → Prop} {h : LH} {a b : Int64} (hq : Q (some (.long a)) h) (e : b = a) : Q (some (.long b)) h := e ▸ hq
theorem lc_gt {x y : Int64} : 0 < lg_cmp x y ↔ y < x := by
  unfold lg_cmp
  split
  · constructor
    · intro _; assumption
    · intro _; decide
  · split
    · constructor
      · intro h; exact absurd h (by decide)
      · intro h; rename_i h1 h2; exact absurd h h1
    · constructor
      · intro h; exact absurd h (by decide)
      · intro h; rename_i h1 h2; exact absurd h h1
section T26
variable {Γ : Gm} {Q : Option Value → LH → Prop}
set_option maxRecDepth 100000 in
set_option maxHeartbeats 4000000 in
theorem l_Chart_bridges_10 {cea cno cx cy fa te fr to_ ea no : Nat → Int32} {pn wn : Nat → Int64} {wa od sk sd go : Int32} {nL nP : Nat} (hn : nL ≤ 12) (hP : nP ≤ 7) (hfr : ∀ j, vp_in (fr j) 7) (hto : ∀ j, vp_in (to_ j) 7) (hq : ∀ (cpo cla cba : Nat → Int32) (cly cpt : Int32), (∀ j, vp_in (cla j) 12) → Q (some (.int (iorr (fun l => if brP fr to_ nL nP (lTh (nI nL) sk) l then bit (nI l) else 0) nL))) (hCT cea cno cx cy cpo cla cba cly cpt pn wn fa te fr to_ ea no (nI nP) wa (nI nL) od sk sd go)) : ∀ (r i : Nat) (cpo cla cba : Nat → Int32) (cly cpt : Int32), i + r = nL → (∀ j, vp_in (cla j) 12) → WP Γ M_Chart_bridges 4 0 0 (hCT cea cno cx cy cpo cla cba cly cpt pn wn fa te fr to_ ea no (nI nP) wa (nI nL) od sk sd go) 10 [some (.ref 0), some (.ref 8), some (.int (lTh (nI nL) sk)), some (.int (iorr (fun l => if brP fr to_ nL nP (lTh (nI nL) sk) l then bit (nI l) else 0) i)), some (.int (nI i))] [] Q := by
  intro r
  induction r with
  | zero =>
    intro i cpo cla cba cly cpt hi hinv
    refine wp_iload 12 d_Chart_bridges_10 rfl rfl ?_
    refine wp_aload_n 13 d_Chart_bridges_12 rfl rfl ?_
    refine wp_getfield 16 8 10 d_Chart_bridges_13 rfl fl_Chart_58 rfl rfl ?_
    refine wp_icmp_ge 75 19 d_Chart_bridges_16 rfl (by decide) (fun h16 => ?_) (fun h16 => ?_)
    · refine wp_iload_n 76 d_Chart_bridges_75 rfl rfl ?_
      refine wp_ireturn d_Chart_bridges_76 rfl ?_
      have e : i = nL := by omega
      subst e
      exact hq _ _ _ _ _ hinv
    · exact absurd ((nI_leI (by omega) (by omega)).mpr (by omega)) h16
  | succ r ih =>
    intro i cpo cla cba cly cpt hi hinv
    refine wp_iload 12 d_Chart_bridges_10 rfl rfl ?_
    refine wp_aload_n 13 d_Chart_bridges_12 rfl rfl ?_
    refine wp_getfield 16 8 10 d_Chart_bridges_13 rfl fl_Chart_58 rfl rfl ?_
    refine wp_icmp_ge 75 19 d_Chart_bridges_16 rfl (by decide) (fun h16 => ?_) (fun h16 => ?_)
    · exact absurd (nI_leN h16 (by omega) (by omega)) (by omega)
    · refine wp_iload_n 20 d_Chart_bridges_19 rfl rfl ?_
      refine wp_iload 22 d_Chart_bridges_20 rfl rfl ?_
      refine wp_N2 25 M_PM_has 1 d_Chart_bridges_22 rfl ms_PM_has lk_Chart_97 rfl rfl ?_
      refine c_PM_has ?_
      refine kI ?_
      (first | refine wp_ifP_eq 69 28 d_Chart_bridges_25 rfl (by decide) (fun h25 => ?_) (fun h25 => ?_) | refine wp_if_eq 69 28 d_Chart_bridges_25 rfl (by decide) (fun h25 => ?_) (fun h25 => ?_))
      · first | refine wp_iincN_4 72 d_Chart_bridges_69 rfl rfl rfl ?_ | refine wp_iinc_4 72 1 d_Chart_bridges_69 rfl (by decide) rfl rfl ?_
        refine wp_goto 10 d_Chart_bridges_72 (by decide) ?_
        refine qL2 (show _ = [some (.ref 0), some (.ref 8), some (.int (lTh (nI nL) sk)), some (.int (iorr (fun l => if brP fr to_ nL nP (lTh (nI nL) sk) l then bit (nI l) else 0) (i + 1))), some (.int (nI (i + 1)))] from ?_) (ih (i + 1) _ _ _ _ _ (by omega) ?_)
        · first
          | (have h7 : brP fr to_ nL nP (lTh (nI nL) sk) i := ⟨h25, (by have e := (pOf_eq (there := lTh (nI nL) sk &&& (bit (nI i) ^^^ (-1))) (nL := nL) hP hfr hto cpo cla cba).1; rw [← e _ (Nat.not_le.mp fun q => hfr _ (Or.inr q)), ← e _ (Nat.not_le.mp fun q => hto _ (Or.inr q))]; exact h59)⟩; simp only [iorr, if_pos h7])
          | (have h7 : ¬ brP fr to_ nL nP (lTh (nI nL) sk) i := (by rintro ⟨-, z⟩; have e := (pOf_eq (there := lTh (nI nL) sk &&& (bit (nI i) ^^^ (-1))) (nL := nL) hP hfr hto cpo cla cba).1; rw [← e _ (Nat.not_le.mp fun q => hfr _ (Or.inr q)), ← e _ (Nat.not_le.mp fun q => hto _ (Or.inr q))] at z; exact z h59); simp only [iorr, if_neg h7, or_0])
          | (have h7 : ¬ brP fr to_ nL nP (lTh (nI nL) sk) i := fun z => h25 z.1; simp only [iorr, if_neg h7, or_0])
        · first | exact hinv | exact trI_la hn _ _ hinv
      · refine wp_aload_n 29 d_Chart_bridges_28 rfl rfl ?_
        refine wp_aload_n 30 d_Chart_bridges_29 rfl rfl ?_
        refine wp_iload_n 31 d_Chart_bridges_30 rfl rfl ?_
        refine wp_iconst 32 1 d_Chart_bridges_31 rfl (by decide) ?_
        refine wp_iload 34 d_Chart_bridges_32 rfl rfl ?_
        refine wp_ishl 35 d_Chart_bridges_34 rfl ?_
        refine wp_iconst 36 (-1) d_Chart_bridges_35 rfl (by decide) ?_
        refine wp_ixor 37 d_Chart_bridges_36 rfl ?_
        refine wp_iand 38 d_Chart_bridges_37 rfl ?_
        refine wp_V2 41 M_Chart_trace 3 d_Chart_bridges_38 rfl mv_Chart_trace lk_Chart_51 rfl rfl rfl rfl rfl ?_
        refine c_Chart_trace hn hP hfr hto ?_
        refine kV ?_
        refine wp_aload_n 42 d_Chart_bridges_41 rfl rfl ?_
        refine wp_aload_n 43 d_Chart_bridges_42 rfl rfl ?_
        refine wp_getfield 46 8 4 d_Chart_bridges_43 rfl fl_Chart_91 rfl rfl ?_
        refine wp_iload 48 d_Chart_bridges_46 rfl rfl ?_
        refine wp_ialoadN 49 d_Chart_bridges_48 rfl rfl rfl (by omega) ?_
        refine wp_aload_n 50 d_Chart_bridges_49 rfl rfl ?_
        refine wp_getfield 53 8 5 d_Chart_bridges_50 rfl fl_Chart_94 rfl rfl ?_
        refine wp_iload 55 d_Chart_bridges_53 rfl rfl ?_
        refine wp_ialoadN 56 d_Chart_bridges_55 rfl rfl rfl (by omega) ?_
        refine ws_V2 (b' := 0) 59 M_Chart_sameParts 1 [0, 1, 2, 3, 4, 5, 6, 7] ((hC _ _ _ _ _ _ _ _ _)) d_Chart_bridges_56 rfl mv_Chart_sameParts lk_Chart_121 rfl rfl rfl rfl rfl rfl rfl (eV_int _ _) (eV_int _ _) rfl ?_
        refine c_Chart_sameParts (hfr _) (hto _) ?_
        refine sIr rfl rfl ?_
        (first | refine wp_ifP_ne 69 62 d_Chart_bridges_59 rfl (by decide) (fun h59 => ?_) (fun h59 => ?_) | refine wp_if_ne 69 62 d_Chart_bridges_59 rfl (by decide) (fun h59 => ?_) (fun h59 => ?_))
        · first | refine wp_iincN_4 72 d_Chart_bridges_69 rfl rfl rfl ?_ | refine wp_iinc_4 72 1 d_Chart_bridges_69 rfl (by decide) rfl rfl ?_
          refine wp_goto 10 d_Chart_bridges_72 (by decide) ?_
          refine qL2 (show _ = [some (.ref 0), some (.ref 8), some (.int (lTh (nI nL) sk)), some (.int (iorr (fun l => if brP fr to_ nL nP (lTh (nI nL) sk) l then bit (nI l) else 0) (i + 1))), some (.int (nI (i + 1)))] from ?_) (ih (i + 1) _ _ _ _ _ (by omega) ?_)
          · first
            | (have h7 : brP fr to_ nL nP (lTh (nI nL) sk) i := ⟨h25, (by have e := (pOf_eq (there := lTh (nI nL) sk &&& (bit (nI i) ^^^ (-1))) (nL := nL) hP hfr hto cpo cla cba).1; rw [← e _ (Nat.not_le.mp fun q => hfr _ (Or.inr q)), ← e _ (Nat.not_le.mp fun q => hto _ (Or.inr q))]; exact h59)⟩; simp only [iorr, if_pos h7])
            | (have h7 : ¬ brP fr to_ nL nP (lTh (nI nL) sk) i := (by rintro ⟨-, z⟩; have e := (pOf_eq (there := lTh (nI nL) sk &&& (bit (nI i) ^^^ (-1))) (nL := nL) hP hfr hto cpo cla cba).1; rw [← e _ (Nat.not_le.mp fun q => hfr _ (Or.inr q)), ← e _ (Nat.not_le.mp fun q => hto _ (Or.inr q))] at z; exact z h59); simp only [iorr, if_neg h7, or_0])
            | (have h7 : ¬ brP fr to_ nL nP (lTh (nI nL) sk) i := fun z => h25 z.1; simp only [iorr, if_neg h7, or_0])
          · first | exact hinv | exact trI_la hn _ _ hinv
        · refine wp_iload_n 63 d_Chart_bridges_62 rfl rfl ?_
          refine wp_iconst 64 1 d_Chart_bridges_63 rfl (by decide) ?_
          refine wp_iload 66 d_Chart_bridges_64 rfl rfl ?_
          refine wp_ishl 67 d_Chart_bridges_66 rfl ?_
          refine wp_ior 68 d_Chart_bridges_67 rfl ?_
          refine wp_istore_3 69 d_Chart_bridges_68 rfl rfl rfl ?_
          first | refine wp_iincN_4 72 d_Chart_bridges_69 rfl rfl rfl ?_ | refine wp_iinc_4 72 1 d_Chart_bridges_69 rfl (by decide) rfl rfl ?_
          refine wp_goto 10 d_Chart_bridges_72 (by decide) ?_
          refine qL2 (show _ = [some (.ref 0), some (.ref 8), some (.int (lTh (nI nL) sk)), some (.int (iorr (fun l => if brP fr to_ nL nP (lTh (nI nL) sk) l then bit (nI l) else 0) (i + 1))), some (.int (nI (i + 1)))] from ?_) (ih (i + 1) _ _ _ _ _ (by omega) ?_)
          · first
            | (have h7 : brP fr to_ nL nP (lTh (nI nL) sk) i := ⟨h25, (by have e := (pOf_eq (there := lTh (nI nL) sk &&& (bit (nI i) ^^^ (-1))) (nL := nL) hP hfr hto cpo cla cba).1; rw [← e _ (Nat.not_le.mp fun q => hfr _ (Or.inr q)), ← e _ (Nat.not_le.mp fun q => hto _ (Or.inr q))]; exact h59)⟩; simp only [iorr, if_pos h7])
            | (have h7 : ¬ brP fr to_ nL nP (lTh (nI nL) sk) i := (by rintro ⟨-, z⟩; have e := (pOf_eq (there := lTh (nI nL) sk &&& (bit (nI i) ^^^ (-1))) (nL := nL) hP hfr hto cpo cla cba).1; rw [← e _ (Nat.not_le.mp fun q => hfr _ (Or.inr q)), ← e _ (Nat.not_le.mp fun q => hto _ (Or.inr q))] at z; exact z h59); simp only [iorr, if_neg h7, or_0])
            | (have h7 : ¬ brP fr to_ nL nP (lTh (nI nL) sk) i := fun z => h25 z.1; simp only [iorr, if_neg h7, or_0])
          · first | exact hinv | exact trI_la hn _ _ hinv

set_option maxRecDepth 100000 in
set_option maxHeartbeats 4000000 in
theorem c_Chart_bridges {cea cno cx cy fa te fr to_ ea no : Nat → Int32} {pn wn : Nat → Int64} {wa od sk sd go : Int32} {nL nP : Nat} {cpo cla cba : Nat → Int32} {cly cpt : Int32} (hn : nL ≤ 12) (hP : nP ≤ 7) (hfr : ∀ j, vp_in (fr j) 7) (hto : ∀ j, vp_in (to_ j) 7) (hla : ∀ j, vp_in (cla j) 12) (hq : ∀ (cpo cla cba : Nat → Int32) (cly cpt : Int32), (∀ j, vp_in (cla j) 12) → Q (some (.int (iorr (fun l => if brP fr to_ nL nP (lTh (nI nL) sk) l then bit (nI l) else 0) nL))) (hCT cea cno cx cy cpo cla cba cly cpt pn wn fa te fr to_ ea no (nI nP) wa (nI nL) od sk sd go)) : Call Γ M_Chart_bridges 4 0 0 [.ref 0, .ref 8] (hCT cea cno cx cy cpo cla cba cly cpt pn wn fa te fr to_ ea no (nI nP) wa (nI nL) od sk sd go) Q := by
  refine call_intro (ls := [some (.ref 0), some (.ref 8), none, none, none]) rfl rfl rfl ?_
  refine wp_aload_n 1 d_Chart_bridges_0 rfl rfl ?_
  refine ws_V0 (b' := 0) 4 M_Town_legsThere 1 [8, 9, 10, 11, 12, 13, 14, 15, 16] ((hT _ _ _ _ _ _ _ _ _ _ _ _ _ _ _)) d_Chart_bridges_1 rfl mv_Town_legsThere lk_Chart_45 rfl rfl rfl rfl rfl rfl rfl rfl ?_
  refine c_Town_legsThere ?_
  refine sIr rfl rfl ?_
  refine wp_istore_2 5 d_Chart_bridges_4 rfl rfl rfl ?_
  refine wp_iconst 6 0 d_Chart_bridges_5 rfl (by decide) ?_
  refine wp_istore_3 7 d_Chart_bridges_6 rfl rfl rfl ?_
  refine wp_iconst 8 0 d_Chart_bridges_7 rfl (by decide) ?_
  refine wp_istore_4 10 d_Chart_bridges_8 rfl rfl rfl ?_
  exact l_Chart_bridges_10 hn hP hfr hto hq nL 0 _ _ _ _ _ (by omega) hla

set_option maxRecDepth 100000 in
set_option maxHeartbeats 4000000 in
theorem c_Days_clear {dk df ds : Nat → Int32} {dth dro dst : Int32} (hq : Q none (hD dk df ds (0) (0) (0))) : Call Γ M_Days_clear 1 0 0 [.ref 0] (hD dk df ds dth dro dst) Q := by
  refine call_intro (ls := [some (.ref 0)]) rfl rfl rfl ?_
  refine wp_aload_n 1 d_Days_clear_0 rfl rfl ?_
  refine wp_iconst 2 0 d_Days_clear_1 rfl (by decide) ?_
  refine wp_putfield 5 1 3 _ d_Days_clear_2 rfl fp_Days_19 rfl rfl (fun _ => ⟨rfl, rfl⟩) ?_
  dsimp only [List.set]
  refine wp_aload_n 6 d_Days_clear_5 rfl rfl ?_
  refine wp_iconst 7 0 d_Days_clear_6 rfl (by decide) ?_
  refine wp_putfield 10 1 4 _ d_Days_clear_7 rfl fp_Days_23 rfl rfl (okP_int _) ?_
  dsimp only [List.set]
  refine wp_aload_n 11 d_Days_clear_10 rfl rfl ?_
  refine wp_iconst 12 0 d_Days_clear_11 rfl (by decide) ?_
  refine wp_putfield 15 1 5 _ d_Days_clear_12 rfl fp_Days_27 rfl rfl (okP_int _) ?_
  dsimp only [List.set]
  refine wp_return d_Days_clear_15 rfl ?_
  exact hq

set_option maxRecDepth 100000 in
set_option maxHeartbeats 4000000 in
theorem c_Days_copyFrom {dk df ds o_dk o_df o_ds : Nat → Int32} {dth dro dst o_dth o_dro o_dst : Int32} (hth : okP .boolean (.int o_dth)) (hq : Q none (hDD (va_cpy o_dk dk 0 0 60) (va_cpy o_df df 0 0 60) (va_cpy o_ds ds 0 0 60) (o_dth) (o_dro) (o_dst) o_dk o_df o_ds o_dth o_dro o_dst)) : Call Γ M_Days_copyFrom 1 0 0 [.ref 0, .ref 4] (hDD dk df ds dth dro dst o_dk o_df o_ds o_dth o_dro o_dst) Q := by
  refine call_intro (ls := [some (.ref 0), some (.ref 4)]) rfl rfl rfl ?_
  refine wp_aload_n 1 d_Days_copyFrom_0 rfl rfl ?_
  refine wp_getfield 4 1 0 d_Days_copyFrom_1 rfl fl_Days_9 rfl rfl ?_
  refine wp_iconst 5 0 d_Days_copyFrom_4 rfl (by decide) ?_
  refine wp_aload_n 6 d_Days_copyFrom_5 rfl rfl ?_
  refine wp_getfield 9 1 0 d_Days_copyFrom_6 rfl fl_Days_9 rfl rfl ?_
  refine wp_iconst 10 0 d_Days_copyFrom_9 rfl (by decide) ?_
  refine wp_bipush 12 60 d_Days_copyFrom_10 rfl (by decide) ?_
  refine wp_acopyI (i := 0) (j := 0) (n := 60) 15 d_Days_copyFrom_12 rfl lk_Days_30 rfl rfl ⟨rfl, rfl⟩ (by decide) (by decide) (by decide) rfl ?_
  dsimp only [List.set]
  refine wp_aload_n 16 d_Days_copyFrom_15 rfl rfl ?_
  refine wp_getfield 19 1 1 d_Days_copyFrom_16 rfl fl_Days_13 rfl rfl ?_
  refine wp_iconst 20 0 d_Days_copyFrom_19 rfl (by decide) ?_
  refine wp_aload_n 21 d_Days_copyFrom_20 rfl rfl ?_
  refine wp_getfield 24 1 1 d_Days_copyFrom_21 rfl fl_Days_13 rfl rfl ?_
  refine wp_iconst 25 0 d_Days_copyFrom_24 rfl (by decide) ?_
  refine wp_bipush 27 60 d_Days_copyFrom_25 rfl (by decide) ?_
  refine wp_acopyI (i := 0) (j := 0) (n := 60) 30 d_Days_copyFrom_27 rfl lk_Days_30 rfl rfl ⟨rfl, rfl⟩ (by decide) (by decide) (by decide) rfl ?_
  dsimp only [List.set]
  refine wp_aload_n 31 d_Days_copyFrom_30 rfl rfl ?_
  refine wp_getfield 34 1 2 d_Days_copyFrom_31 rfl fl_Days_16 rfl rfl ?_
  refine wp_iconst 35 0 d_Days_copyFrom_34 rfl (by decide) ?_
  refine wp_aload_n 36 d_Days_copyFrom_35 rfl rfl ?_
  refine wp_getfield 39 1 2 d_Days_copyFrom_36 rfl fl_Days_16 rfl rfl ?_
  refine wp_iconst 40 0 d_Days_copyFrom_39 rfl (by decide) ?_
  refine wp_bipush 42 60 d_Days_copyFrom_40 rfl (by decide) ?_
  refine wp_acopyI (i := 0) (j := 0) (n := 60) 45 d_Days_copyFrom_42 rfl lk_Days_30 rfl rfl ⟨rfl, rfl⟩ (by decide) (by decide) (by decide) rfl ?_
  dsimp only [List.set]
  refine wp_aload_n 46 d_Days_copyFrom_45 rfl rfl ?_
  refine wp_aload_n 47 d_Days_copyFrom_46 rfl rfl ?_
  refine wp_getfield 50 1 3 d_Days_copyFrom_47 rfl fl_Days_19 rfl rfl ?_
  refine wp_putfield 53 1 3 _ d_Days_copyFrom_50 rfl fp_Days_19 rfl rfl hth ?_
  dsimp only [List.set]
  refine wp_aload_n 54 d_Days_copyFrom_53 rfl rfl ?_
  refine wp_aload_n 55 d_Days_copyFrom_54 rfl rfl ?_
  refine wp_getfield 58 1 4 d_Days_copyFrom_55 rfl fl_Days_23 rfl rfl ?_
  refine wp_putfield 61 1 4 _ d_Days_copyFrom_58 rfl fp_Days_23 rfl rfl (okP_int _) ?_
  dsimp only [List.set]
  refine wp_aload_n 62 d_Days_copyFrom_61 rfl rfl ?_
  refine wp_aload_n 63 d_Days_copyFrom_62 rfl rfl ?_
  refine wp_getfield 66 1 5 d_Days_copyFrom_63 rfl fl_Days_27 rfl rfl ?_
  refine wp_putfield 69 1 5 _ d_Days_copyFrom_66 rfl fp_Days_27 rfl rfl (okP_int _) ?_
  dsimp only [List.set]
  refine wp_return d_Days_copyFrom_69 rfl ?_
  exact hq

set_option maxRecDepth 100000 in
set_option maxHeartbeats 4000000 in
theorem c_Days_addRow {dk df ds : Nat → Int32} {dth dst : Int32} {nR : Nat} {a b c : Int32} (hR : nR < 60) (hq : Q none (hD (upd dk nR a) (upd df nR b) (upd ds nR c) dth (nI (nR + 1)) dst)) : Call Γ M_Days_addRow 1 0 0 [.ref 0, .int a, .int b, .int c] (hD dk df ds dth (nI nR) dst) Q := by
  refine call_intro (ls := [some (.ref 0), some (.int a), some (.int b), some (.int c)]) rfl rfl rfl ?_
  refine wp_aload_n 1 d_Days_addRow_0 rfl rfl ?_
  refine wp_getfield 4 1 4 d_Days_addRow_1 rfl fl_Days_23 rfl rfl ?_
  refine wp_bipush 6 60 d_Days_addRow_4 rfl (by decide) ?_
  refine wp_icmp_ge 49 9 d_Days_addRow_6 rfl (by decide) (fun h6 => ?_) (fun h6 => ?_)
  · exact absurd (nI_leN (b := 60) h6 (by omega) (by omega)) (by omega)
  · refine wp_aload_n 10 d_Days_addRow_9 rfl rfl ?_
    refine wp_getfield 13 1 0 d_Days_addRow_10 rfl fl_Days_9 rfl rfl ?_
    refine wp_aload_n 14 d_Days_addRow_13 rfl rfl ?_
    refine wp_getfield 17 1 4 d_Days_addRow_14 rfl fl_Days_23 rfl rfl ?_
    refine wp_iload_n 18 d_Days_addRow_17 rfl rfl ?_
    refine wp_iastoreN 19 d_Days_addRow_18 rfl rfl rfl hR ?_
    dsimp only [List.set]
    refine wp_aload_n 20 d_Days_addRow_19 rfl rfl ?_
    refine wp_getfield 23 1 1 d_Days_addRow_20 rfl fl_Days_13 rfl rfl ?_
    refine wp_aload_n 24 d_Days_addRow_23 rfl rfl ?_
    refine wp_getfield 27 1 4 d_Days_addRow_24 rfl fl_Days_23 rfl rfl ?_
    refine wp_iload_n 28 d_Days_addRow_27 rfl rfl ?_
    refine wp_iastoreN 29 d_Days_addRow_28 rfl rfl rfl hR ?_
    dsimp only [List.set]
    refine wp_aload_n 30 d_Days_addRow_29 rfl rfl ?_
    refine wp_getfield 33 1 2 d_Days_addRow_30 rfl fl_Days_16 rfl rfl ?_
    refine wp_aload_n 34 d_Days_addRow_33 rfl rfl ?_
    refine wp_getfield 37 1 4 d_Days_addRow_34 rfl fl_Days_23 rfl rfl ?_
    refine wp_iload_n 38 d_Days_addRow_37 rfl rfl ?_
    refine wp_iastoreN 39 d_Days_addRow_38 rfl rfl rfl hR ?_
    dsimp only [List.set]
    refine wp_aload_n 40 d_Days_addRow_39 rfl rfl ?_
    refine wp_dup 41 d_Days_addRow_40 rfl rfl ?_
    refine wp_getfield 44 1 4 d_Days_addRow_41 rfl fl_Days_23 rfl rfl ?_
    refine wp_iconst 45 1 d_Days_addRow_44 rfl (by decide) ?_
    refine wp_iadd 46 d_Days_addRow_45 rfl ?_
    refine wp_putfield 49 1 4 _ d_Days_addRow_46 rfl fp_Days_23 rfl rfl (okP_int _) ?_
    dsimp only [List.set]
    refine wp_return d_Days_addRow_49 rfl ?_
    rw [nI_1]; exact hq

set_option maxRecDepth 100000 in
set_option maxHeartbeats 4000000 in
theorem c_Days_init (hq : Q none (hD ((fun _ => 0)) ((fun _ => 0)) ((fun _ => 0)) (0) (0) (0))) : Call Γ M_Days_init 1 3 180 [.ref 0] [cO 1 [.null, .null, .null, .int 0, .int 0, .int 0]] Q := by
  refine call_intro (ls := [some (.ref 0)]) rfl rfl rfl ?_
  refine wp_aload_n 1 d_Days_init_0 rfl rfl ?_
  refine wp_objInit 4 d_Days_init_1 rfl lo_Days_3 oi_inst oi_code (by decide) (by decide) ?_
  refine wp_aload_n 5 d_Days_init_4 rfl rfl ?_
  refine wp_bipush 7 60 d_Days_init_5 rfl (by decide) ?_
  refine wp_newarray_int 9 60 1 d_Days_init_7 rfl ac_int (by decide) (by decide) (by decide) rfl rfl ?_
  simp only [List.cons_append, List.nil_append]
  refine wp_putfinal 12 1 0 _ d_Days_init_9 rfl fp_Days_9 rfl rfl rfl (fun _ => ⟨rfl, rfl⟩) ?_
  dsimp only [List.set]
  refine wp_aload_n 13 d_Days_init_12 rfl rfl ?_
  refine wp_bipush 15 60 d_Days_init_13 rfl (by decide) ?_
  refine wp_newarray_int 17 60 2 d_Days_init_15 rfl ac_int (by decide) (by decide) (by decide) rfl rfl ?_
  simp only [List.cons_append, List.nil_append]
  refine wp_putfinal 20 1 1 _ d_Days_init_17 rfl fp_Days_13 rfl rfl rfl (fun _ => ⟨rfl, rfl⟩) ?_
  dsimp only [List.set]
  refine wp_aload_n 21 d_Days_init_20 rfl rfl ?_
  refine wp_bipush 23 60 d_Days_init_21 rfl (by decide) ?_
  refine wp_newarray_int 25 60 3 d_Days_init_23 rfl ac_int (by decide) (by decide) (by decide) rfl rfl ?_
  simp only [List.cons_append, List.nil_append]
  refine wp_putfinal 28 1 2 _ d_Days_init_25 rfl fp_Days_16 rfl rfl rfl (fun _ => ⟨rfl, rfl⟩) ?_
  dsimp only [List.set]
  refine wp_aload_n 29 d_Days_init_28 rfl rfl ?_
  refine wp_iconst 30 0 d_Days_init_29 rfl (by decide) ?_
  refine wp_putfield 33 1 3 _ d_Days_init_30 rfl fp_Days_19 rfl rfl (fun _ => ⟨rfl, rfl⟩) ?_
  dsimp only [List.set]
  refine wp_aload_n 34 d_Days_init_33 rfl rfl ?_
  refine wp_iconst 35 0 d_Days_init_34 rfl (by decide) ?_
  refine wp_putfield 38 1 4 _ d_Days_init_35 rfl fp_Days_23 rfl rfl (okP_int _) ?_
  dsimp only [List.set]
  refine wp_aload_n 39 d_Days_init_38 rfl rfl ?_
  refine wp_iconst 40 0 d_Days_init_39 rfl (by decide) ?_
  refine wp_putfield 43 1 5 _ d_Days_init_40 rfl fp_Days_27 rfl rfl (okP_int _) ?_
  dsimp only [List.set]
  refine wp_return d_Days_init_43 rfl ?_
  exact hq

set_option maxRecDepth 100000 in
set_option maxHeartbeats 4000000 in
theorem c_Tray_init (hq : Q none (hY ((fun _ => 0)) (0) (0) (0))) : Call Γ M_Tray_init 1 1 60 [.ref 0] [cO 10 [.null, .int 0, .int 0, .int 0]] Q := by
  refine call_intro (ls := [some (.ref 0)]) rfl rfl rfl ?_
  refine wp_aload_n 1 d_Tray_init_0 rfl rfl ?_
  refine wp_objInit 4 d_Tray_init_1 rfl lo_Tray_3 oi_inst oi_code (by decide) (by decide) ?_
  refine wp_aload_n 5 d_Tray_init_4 rfl rfl ?_
  refine wp_bipush 7 60 d_Tray_init_5 rfl (by decide) ?_
  refine wp_newarray_long 9 60 1 d_Tray_init_7 rfl ac_long (by decide) (by decide) (by decide) rfl rfl ?_
  simp only [List.cons_append, List.nil_append]
  refine wp_putfinal 12 10 0 _ d_Tray_init_9 rfl fp_Tray_9 rfl rfl rfl (fun _ => ⟨rfl, rfl⟩) ?_
  dsimp only [List.set]
  refine wp_aload_n 13 d_Tray_init_12 rfl rfl ?_
  refine wp_iconst 14 0 d_Tray_init_13 rfl (by decide) ?_
  refine wp_putfield 17 10 1 _ d_Tray_init_14 rfl fp_Tray_15 rfl rfl (fun _ => ⟨rfl, rfl⟩) ?_
  dsimp only [List.set]
  refine wp_aload_n 18 d_Tray_init_17 rfl rfl ?_
  refine wp_iconst 19 0 d_Tray_init_18 rfl (by decide) ?_
  refine wp_putfield 22 10 2 _ d_Tray_init_19 rfl fp_Tray_19 rfl rfl (okP_int _) ?_
  dsimp only [List.set]
  refine wp_aload_n 23 d_Tray_init_22 rfl rfl ?_
  refine wp_iconst 24 0 d_Tray_init_23 rfl (by decide) ?_
  refine wp_putfield 27 10 3 _ d_Tray_init_24 rfl fp_Tray_23 rfl rfl (okP_int _) ?_
  dsimp only [List.set]
  refine wp_return d_Tray_init_27 rfl ?_
  exact hq

set_option maxRecDepth 100000 in
set_option maxHeartbeats 4000000 in
theorem c_Tray_begin {yn : Nat → Int64} {yth yso yma : Int32} {s m : Int32} (hq : Q none (hY (fun j => if j < 60 then 0 else yn j) (1) (s) (m))) : Call Γ M_Tray_begin 2 0 0 [.ref 0, .int s, .int m] (hY yn yth yso yma) Q := by
  refine call_intro (ls := [some (.ref 0), some (.int s), some (.int m)]) rfl rfl rfl ?_
  refine wp_aload_n 1 d_Tray_begin_0 rfl rfl ?_
  refine wp_getfield 4 10 0 d_Tray_begin_1 rfl fl_Tray_9 rfl rfl ?_
  refine wp_lconst 5 0 d_Tray_begin_4 rfl (by decide) ?_
  refine ws_S2 (v1' := .ref 0) 8 M_JArr_fillJ 1 [1] ([cL 60 _]) d_Tray_begin_5 rfl ms_JArr_fillJ lk_Tray_26 rfl rfl rfl rfl (eV_long _ _) rfl ?_
  refine c_JArr_fillJ rfl ?_
  refine sV ?_
  simp only [putH, rC, sg, eV, List.map_cons, List.map_nil, List.set_cons_zero, List.set_cons_succ, List.length_cons, List.length_nil, List.getD_cons_zero, List.getD_cons_succ, Nat.zero_add, Nat.reduceAdd, Nat.reduceLT, if_true, ite_true]
  refine wp_aload_n 9 d_Tray_begin_8 rfl rfl ?_
  refine wp_iconst 10 1 d_Tray_begin_9 rfl (by decide) ?_
  refine wp_putfield 13 10 1 _ d_Tray_begin_10 rfl fp_Tray_15 rfl rfl (fun _ => ⟨rfl, rfl⟩) ?_
  dsimp only [List.set]
  refine wp_aload_n 14 d_Tray_begin_13 rfl rfl ?_
  refine wp_iload_n 15 d_Tray_begin_14 rfl rfl ?_
  refine wp_putfield 18 10 2 _ d_Tray_begin_15 rfl fp_Tray_19 rfl rfl (okP_int _) ?_
  dsimp only [List.set]
  refine wp_aload_n 19 d_Tray_begin_18 rfl rfl ?_
  refine wp_iload_n 20 d_Tray_begin_19 rfl rfl ?_
  refine wp_putfield 23 10 3 _ d_Tray_begin_20 rfl fp_Tray_23 rfl rfl (okP_int _) ?_
  dsimp only [List.set]
  refine wp_return d_Tray_begin_23 rfl ?_
  exact hq

set_option maxRecDepth 100000 in
set_option maxHeartbeats 4000000 in
theorem c_Tray_holds {yn : Nat → Int64} {yth yso yma : Int32} {p n : Int32} (hq : Q (some (.int (bP (p.toInt64 + n.toInt64 ≤ yma.toInt64)))) (hY yn yth yso yma)) : Call Γ M_Tray_holds 1 0 0 [.ref 0, .int p, .int n] (hY yn yth yso yma) Q := by
  refine call_intro (ls := [some (.ref 0), some (.int p), some (.int n)]) rfl rfl rfl ?_
  refine wp_iload_n 1 d_Tray_holds_0 rfl rfl ?_
  refine wp_i2l 2 d_Tray_holds_1 rfl ?_
  refine wp_iload_n 3 d_Tray_holds_2 rfl rfl ?_
  refine wp_i2l 4 d_Tray_holds_3 rfl ?_
  refine wp_ladd 5 d_Tray_holds_4 rfl ?_
  refine wp_aload_n 6 d_Tray_holds_5 rfl rfl ?_
  refine wp_getfield 9 10 3 d_Tray_holds_6 rfl fl_Tray_23 rfl rfl ?_
  refine wp_i2l 10 d_Tray_holds_9 rfl ?_
  refine wp_lcmp 11 d_Tray_holds_10 rfl ?_
  refine wp_if_gt 18 14 d_Tray_holds_11 rfl (by decide) (fun h11 => ?_) (fun h11 => ?_)
  · refine wp_iconst 19 0 d_Tray_holds_18 rfl (by decide) ?_
    refine wp_zreturn d_Tray_holds_19 rfl (by first | rfl | exact nbP _) ?_
    first | exact bq1 (Int64.not_lt.mp (fun z => h11 (lc_gt.mpr z))) hq | exact bq0 (Int64.not_le.mpr (lc_gt.mp h11)) hq
  · refine wp_iconst 15 1 d_Tray_holds_14 rfl (by decide) ?_
    refine wp_goto 19 d_Tray_holds_15 (by decide) ?_
    refine wp_zreturn d_Tray_holds_19 rfl (by first | rfl | exact nbP _) ?_
    first | exact bq1 (Int64.not_lt.mp (fun z => h11 (lc_gt.mpr z))) hq | exact bq0 (Int64.not_le.mpr (lc_gt.mp h11)) hq

set_option maxRecDepth 100000 in
set_option maxHeartbeats 4000000 in
theorem c_Tray_cut {yn : Nat → Int64} {yth yso yma : Int32} {v : Int64} (hq : Q (some (.long (cutR yso v))) (hY yn yth yso yma)) : Call Γ M_Tray_cut 1 0 0 [.ref 0, .long v] (hY yn yth yso yma) Q := by
  refine call_intro (ls := [some (.ref 0), some (.long v), none]) rfl rfl rfl ?_
  refine wp_aload_n 1 d_Tray_cut_0 rfl rfl ?_
  refine wp_getfield 4 10 2 d_Tray_cut_1 rfl fl_Tray_19 rfl rfl ?_
  by_cases h4_0 : yso = 0
  · refine wp_tabIn (off := 28) 32 0 d_Tray_cut_4 h4_0 (by decide) (by decide) (by decide) (by decide) ?_
    refine wp_lload_n 33 d_Tray_cut_32 rfl rfl ?_
    refine wp_l2i 34 d_Tray_cut_33 rfl ?_
    refine wp_i2b 35 d_Tray_cut_34 rfl ?_
    refine wp_i2l 36 d_Tray_cut_35 rfl ?_
    refine wp_lreturn d_Tray_cut_36 rfl ?_
    refine qJ hq ?_; simp [cutR, *]
  by_cases h4_1 : yso = 1
  · refine wp_tabIn (off := 33) 37 1 d_Tray_cut_4 h4_1 (by decide) (by decide) (by decide) (by decide) ?_
    refine wp_lload_n 38 d_Tray_cut_37 rfl rfl ?_
    refine wp_l2i 39 d_Tray_cut_38 rfl ?_
    refine wp_i2s 40 d_Tray_cut_39 rfl ?_
    refine wp_i2l 41 d_Tray_cut_40 rfl ?_
    refine wp_lreturn d_Tray_cut_41 rfl ?_
    refine qJ hq ?_; simp [cutR, *]
  by_cases h4_2 : yso = 2
  · refine wp_tabIn (off := 38) 42 2 d_Tray_cut_4 h4_2 (by decide) (by decide) (by decide) (by decide) ?_
    refine wp_lload_n 43 d_Tray_cut_42 rfl rfl ?_
    refine wp_l2i 44 d_Tray_cut_43 rfl ?_
    refine wp_i2l 45 d_Tray_cut_44 rfl ?_
    refine wp_lreturn d_Tray_cut_45 rfl ?_
    refine qJ hq ?_; simp [cutR, *]
  refine wp_tabOut 46 d_Tray_cut_4 (sw_out3 h4_0 h4_1 h4_2) (by decide) ?_
  refine wp_lload_n 47 d_Tray_cut_46 rfl rfl ?_
  refine wp_lreturn d_Tray_cut_47 rfl ?_
  refine qJ hq ?_; simp [cutR, *]

set_option maxRecDepth 100000 in
set_option maxHeartbeats 4000000 in
theorem c_Tray_put {yn : Nat → Int64} {yth yso : Int32} {nM : Nat} {p : Int32} {v : Int64} (hM : nM ≤ 60) (hq : Q none (hY (if inR p (nI nM) then vp_updL yn p.toNatClampNeg (cutR yso v) else yn) yth yso (nI nM))) : Call Γ M_Tray_put 2 0 0 [.ref 0, .int p, .long v] (hY yn yth yso (nI nM)) Q := by
  refine call_intro (ls := [some (.ref 0), some (.int p), some (.long v), none]) rfl rfl rfl ?_
  refine wp_iload_n 1 d_Tray_put_0 rfl rfl ?_
  refine wp_aload_n 2 d_Tray_put_1 rfl rfl ?_
  refine wp_getfield 5 10 3 d_Tray_put_2 rfl fl_Tray_23 rfl rfl ?_
  refine wp_N2 8 M_PM_within 1 d_Tray_put_5 rfl ms_PM_within lk_Tray_32 rfl rfl ?_
  refine c_PM_within ?_
  refine kI ?_
  (first | refine wp_ifP_eq 22 11 d_Tray_put_8 rfl (by decide) (fun h8 => ?_) (fun h8 => ?_) | refine wp_if_eq 22 11 d_Tray_put_8 rfl (by decide) (fun h8 => ?_) (fun h8 => ?_))
  · refine wp_return d_Tray_put_22 rfl ?_
    first | (rw [if_pos h8] at hq; exact hq) | (rw [if_neg h8] at hq; exact hq)
  · refine wp_aload_n 12 d_Tray_put_11 rfl rfl ?_
    refine wp_getfield 15 10 0 d_Tray_put_12 rfl fl_Tray_9 rfl rfl ?_
    refine wp_iload_n 16 d_Tray_put_15 rfl rfl ?_
    refine wp_aload_n 17 d_Tray_put_16 rfl rfl ?_
    refine wp_lload_n 18 d_Tray_put_17 rfl rfl ?_
    refine wp_V1 21 M_Tray_cut 1 d_Tray_put_18 rfl mv_Tray_cut lk_Tray_36 rfl rfl rfl rfl rfl ?_
    refine c_Tray_cut ?_
    refine kL ?_
    refine wp_lastore 22 d_Tray_put_21 rfl rfl (inR_in h8 hM (by omega)) ?_
    dsimp only [List.set]
    refine wp_return d_Tray_put_22 rfl ?_
    first | (rw [if_pos h8] at hq; exact hq) | (rw [if_neg h8] at hq; exact hq)

end T26
