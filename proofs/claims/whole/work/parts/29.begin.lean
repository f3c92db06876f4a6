/-! ===== Text: begin, feedFour ===== -/
def iMin (x y : Int32) : Int32 := if x ≤ y then x else y
def iMax (x y : Int32) : Int32 := if y ≤ x then x else y
/-- kinds, starts, values, how many tokens, the place -/
abbrev ScS : Type := (Nat → Int32) × (Nat → Int32) × (Nat → Int64) × Nat × Nat
def scStep (co : Nat → Int64) (b : Nat → Int32) (len : Nat) (s : ScS) : ScS :=
  if isBl (b s.2.2.2.2) then (s.1, s.2.1, s.2.2.1, s.2.2.2.1, s.2.2.2.2 + 1)
  else (upd s.1 s.2.2.2.1 (tokAt co b len s.2.2.2.2).1.1, upd s.2.1 s.2.2.2.1 (tokAt co b len s.2.2.2.2).1.2.1, vp_updL s.2.2.1 s.2.2.2.1 (tokAt co b len s.2.2.2.2).1.2.2, s.2.2.2.1 + 1, (tokAt co b len s.2.2.2.2).2)
def scI (co : Nat → Int64) (b : Nat → Int32) (len : Nat) : Nat → ScS → ScS
  | 0, s => s
  | r + 1, s => if s.2.2.2.2 < len then scI co b len r (scStep co b len s) else s
theorem scStep_n (co : Nat → Int64) (b : Nat → Int32) (len : Nat) (s : ScS) : (scStep co b len s).2.2.2.1 ≤ s.2.2.2.1 + 1 := by
  unfold scStep; split <;> simp
theorem scI_n (co : Nat → Int64) (b : Nat → Int32) (len : Nat) : ∀ (r : Nat) (s : ScS), (scI co b len r s).2.2.2.1 ≤ s.2.2.2.1 + r
  | 0, s => by simp [scI]
  | r + 1, s => by
    simp only [scI]
    split
    · have h1 := scI_n co b len r (scStep co b len s)
      have h2 := scStep_n co b len s
      omega
    · omega
def byt (v sh : Int32) : Int32 := (v >>> (sh &&& 31)).toInt8.toInt32
section T29
variable {Γ : Gm} {Q : Option Value → LH → Prop}
set_option maxRecDepth 100000 in
set_option maxHeartbeats 4000000 in
theorem c_JMath_min {x y : Int32} {h : LH} (hq : Q (some (.int (iMin x y))) h) : Call Γ M_JMath_min 1 0 0 [.int x, .int y] h Q := by
  refine call_introF (ls := [some (.int x), some (.int y)]) (by decide +kernel) rfl rfl ?_
  refine wp_iload_n 1 d_JMath_min_0 rfl rfl ?_
  refine wp_iload_n 2 d_JMath_min_1 rfl rfl ?_
  refine wp_icmp_gt 9 5 d_JMath_min_2 rfl (by decide) (fun h2 => ?_) (fun h2 => ?_)
  · refine wp_iload_n 10 d_JMath_min_9 rfl rfl ?_
    refine wp_ireturn d_JMath_min_10 rfl ?_
    refine qI hq ?_; unfold iMin; first | rw [if_pos (by assumption)] | rw [if_neg (by assumption)] | rw [if_neg (Int32.not_le.mpr (by assumption))] | rw [if_pos (Int32.not_lt.mp (by assumption))]
  · refine wp_iload_n 6 d_JMath_min_5 rfl rfl ?_
    refine wp_goto 10 d_JMath_min_6 (by decide) ?_
    refine wp_ireturn d_JMath_min_10 rfl ?_
    refine qI hq ?_; unfold iMin; first | rw [if_pos (by assumption)] | rw [if_neg (by assumption)] | rw [if_neg (Int32.not_le.mpr (by assumption))] | rw [if_pos (Int32.not_lt.mp (by assumption))]

set_option maxRecDepth 100000 in
set_option maxHeartbeats 4000000 in
theorem c_JMath_max {x y : Int32} {h : LH} (hq : Q (some (.int (iMax x y))) h) : Call Γ M_JMath_max 1 0 0 [.int x, .int y] h Q := by
  refine call_introF (ls := [some (.int x), some (.int y)]) (by decide +kernel) rfl rfl ?_
  refine wp_iload_n 1 d_JMath_max_0 rfl rfl ?_
  refine wp_iload_n 2 d_JMath_max_1 rfl rfl ?_
  refine wp_icmp_lt 9 5 d_JMath_max_2 rfl (by decide) (fun h2 => ?_) (fun h2 => ?_)
  · refine wp_iload_n 10 d_JMath_max_9 rfl rfl ?_
    refine wp_ireturn d_JMath_max_10 rfl ?_
    refine qI hq ?_; unfold iMax; first | rw [if_pos (by assumption)] | rw [if_neg (by assumption)] | rw [if_neg (Int32.not_le.mpr (by assumption))] | rw [if_pos (Int32.not_lt.mp (by assumption))]
  · refine wp_iload_n 6 d_JMath_max_5 rfl rfl ?_
    refine wp_goto 10 d_JMath_max_6 (by decide) ?_
    refine wp_ireturn d_JMath_max_10 rfl ?_
    refine qI hq ?_; unfold iMax; first | rw [if_pos (by assumption)] | rw [if_neg (by assumption)] | rw [if_neg (Int32.not_le.mpr (by assumption))] | rw [if_pos (Int32.not_lt.mp (by assumption))]

theorem tokAt_lt {co : Nat → Int64} {b : Nat → Int32} {len p : Nat} (hp : p < len) : (tokAt co b len p).2 ≤ len := by
  have hr : ∀ (P : Int32 → Prop) [DecidablePred P] (n i : Nat), runL P b n i ≤ n := by
    intro P _ n
    induction n with
    | zero => intro i; exact Nat.le_refl _
    | succ n ih =>
      intro i
      simp only [runL]
      split
      · have := ih (i + 1); omega
      · omega
  unfold tokAt
  split
  · have := hr isLe (len - p) p; dsimp only; omega
  · split
    · have := hr isDi (len - p) p; dsimp only; omega
    · dsimp only; omega
theorem scStep_p {co : Nat → Int64} {b : Nat → Int32} {len : Nat} {s : ScS} (h : s.2.2.2.2 < len) : (scStep co b len s).2.2.2.2 ≤ len := by
  unfold scStep
  split
  · dsimp only; omega
  · exact tokAt_lt h
set_option maxRecDepth 100000 in
set_option maxHeartbeats 4000000 in
theorem l_Text_begin_36 {tby : Nat → Int32} {tco : Nat → Int64} {tfe tat tkd tvl two ttk tfk tfp : Int32} {tna : Int64} {len : Nat} {n : Int32} {QW : ScS → Prop} (hlen : len ≤ 900) (hx : ∀ (S : ScS) (i : Nat), QW S → WP Γ M_Text_begin 4 0 0 (hX tby tco (S.1) (S.2.1) (S.2.2.1) tfe (nI len) (nI S.2.2.2.1) tat tkd tvl two ttk tna tfk tfp) 81 [some (.ref 0), some (.int n), some (.int (nI S.2.2.2.2)), some (.int (nI i))] [] Q) : ∀ (r i : Nat) (s : ScS), i + r = 900 → (s.2.2.2.1 ≤ i ∧ s.2.2.2.2 ≤ len ∧ QW (scI tco tby len r s)) → WP Γ M_Text_begin 4 0 0 (hX tby tco (s.1) (s.2.1) (s.2.2.1) tfe (nI len) (nI s.2.2.2.1) tat tkd tvl two ttk tna tfk tfp) 36 [some (.ref 0), some (.int n), some (.int (nI s.2.2.2.2)), some (.int (nI i))] [] Q := by
  intro r
  induction r with
  | zero =>
    intro i s hi hinv
    refine wp_iload_n 37 d_Text_begin_36 rfl rfl ?_
    refine wp_sipush 40 900 d_Text_begin_37 rfl (by decide) ?_
    refine wp_icmp_ge 81 43 d_Text_begin_40 rfl (by decide) (fun h40 => ?_) (fun h40 => ?_)
    · exact hx s i hinv.2.2
    · exact absurd (show nI 900 ≤ nI i from (nI_leI (by omega) (by omega)).mpr (by omega)) h40
  | succ r ih =>
    intro i s hi hinv
    refine wp_iload_n 37 d_Text_begin_36 rfl rfl ?_
    refine wp_sipush 40 900 d_Text_begin_37 rfl (by decide) ?_
    refine wp_icmp_ge 81 43 d_Text_begin_40 rfl (by decide) (fun h40 => ?_) (fun h40 => ?_)
    · exact absurd (nI_leN (b := 900) h40 (by omega) (by omega)) (by omega)
    · obtain ⟨hN, hp, hW⟩ := hinv
      refine wp_iload_n 44 d_Text_begin_43 rfl rfl ?_
      refine wp_aload_n 45 d_Text_begin_44 rfl rfl ?_
      refine wp_getfield 48 7 6 d_Text_begin_45 rfl fl_Text_33 rfl rfl ?_
      refine wp_icmp_ge 81 51 d_Text_begin_48 rfl (by decide) (fun h48 => ?_) (fun h48 => ?_)
      · refine hx s i ?_
        have hge : ¬ s.2.2.2.2 < len := by have := nI_leN h48 (by omega) (by omega); omega
        simpa only [scI, if_neg hge] using hW
      · have hlt : s.2.2.2.2 < len := nI_nleN h48 (by omega) (by omega)
        refine wp_aload_n 52 d_Text_begin_51 rfl rfl ?_
        refine wp_getfield 55 7 0 d_Text_begin_52 rfl fl_Text_9 rfl rfl ?_
        refine wp_iload_n 56 d_Text_begin_55 rfl rfl ?_
        refine wp_baloadN 57 d_Text_begin_56 rfl rfl rfl (by omega) ?_
        refine wp_S1 60 M_Text_isBlank 1 d_Text_begin_57 rfl ms_Text_isBlank lk_Text_85 rfl rfl ?_
        refine c_Text_isBlank ?_
        refine kI ?_
        (first | refine wp_ifP_eq 69 63 d_Text_begin_60 rfl (by decide) (fun h60 => ?_) (fun h60 => ?_) | refine wp_if_eq 69 63 d_Text_begin_60 rfl (by decide) (fun h60 => ?_) (fun h60 => ?_))
        · refine wp_aload_n 70 d_Text_begin_69 rfl rfl ?_
          refine wp_iload_n 71 d_Text_begin_70 rfl rfl ?_
          refine wp_V1 74 M_Text_scan 3 d_Text_begin_71 rfl mv_Text_scan lk_Text_89 rfl rfl rfl rfl rfl ?_
          refine c_Text_scan (by omega) hlen hlt ?_
          refine kI ?_
          refine wp_istore_2 75 d_Text_begin_74 rfl rfl rfl ?_
          first | refine wp_iincN_3 78 d_Text_begin_75 rfl rfl rfl ?_ | refine wp_iinc_3 78 1 d_Text_begin_75 rfl (by decide) rfl rfl ?_
          refine wp_goto 36 d_Text_begin_78 (by decide) ?_
          have e3 : scI tco tby len (r + 1) s = scI tco tby len r (scStep tco tby len s) := by simp only [scI, if_pos hlt]
          rw [e3] at hW
          have hb := scStep_n tco tby len s
          have h9 := ih (i + 1) (scStep tco tby len s) (by omega) ⟨by omega, scStep_p hlt, hW⟩
          first
          | (have e4 : scStep tco tby len s = _ := if_pos h60
             rw [e4] at h9
             rw [nI_1]
             exact h9)
          | (have e4 : scStep tco tby len s = _ := if_neg h60
             rw [e4] at h9
             exact h9)
        · refine wp_iload_n 64 d_Text_begin_63 rfl rfl ?_
          refine wp_iconst 65 1 d_Text_begin_64 rfl (by decide) ?_
          refine wp_iadd 66 d_Text_begin_65 rfl ?_
          refine wp_goto 74 d_Text_begin_66 (by decide) ?_
          refine wp_istore_2 75 d_Text_begin_74 rfl rfl rfl ?_
          first | refine wp_iincN_3 78 d_Text_begin_75 rfl rfl rfl ?_ | refine wp_iinc_3 78 1 d_Text_begin_75 rfl (by decide) rfl rfl ?_
          refine wp_goto 36 d_Text_begin_78 (by decide) ?_
          have e3 : scI tco tby len (r + 1) s = scI tco tby len r (scStep tco tby len s) := by simp only [scI, if_pos hlt]
          rw [e3] at hW
          have hb := scStep_n tco tby len s
          have h9 := ih (i + 1) (scStep tco tby len s) (by omega) ⟨by omega, scStep_p hlt, hW⟩
          first
          | (have e4 : scStep tco tby len s = _ := if_pos h60
             rw [e4] at h9
             rw [nI_1]
             exact h9)
          | (have e4 : scStep tco tby len s = _ := if_neg h60
             rw [e4] at h9
             exact h9)

set_option maxRecDepth 100000 in
set_option maxHeartbeats 4000000 in
theorem c_Text_begin {tby tki tst : Nat → Int32} {tco tva : Nat → Int64} {tle tto tat tkd tvl two ttk tfk tfp : Int32} {tna : Int64} {nF len : Nat} (hF : nF ≤ 900) (hl : len ≤ nF) (hq : Q none (hX tby tco (upd (scI tco tby len 900 (tki, tst, tva, 0, 0)).1 (scI tco tby len 900 (tki, tst, tva, 0, 0)).2.2.2.1 0) (upd (scI tco tby len 900 (tki, tst, tva, 0, 0)).2.1 (scI tco tby len 900 (tki, tst, tva, 0, 0)).2.2.2.1 (nI len)) (vp_updL (scI tco tby len 900 (tki, tst, tva, 0, 0)).2.2.1 (scI tco tby len 900 (tki, tst, tva, 0, 0)).2.2.2.1 0) (0) (nI len) (nI ((scI tco tby len 900 (tki, tst, tva, 0, 0)).2.2.2.1 + 1)) (nI 0) ((upd (scI tco tby len 900 (tki, tst, tva, 0, 0)).1 (scI tco tby len 900 (tki, tst, tva, 0, 0)).2.2.2.1 0) 0) (vlT ((upd (scI tco tby len 900 (tki, tst, tva, 0, 0)).1 (scI tco tby len 900 (tki, tst, tva, 0, 0)).2.2.2.1 0) 0) ((vp_updL (scI tco tby len 900 (tki, tst, tva, 0, 0)).2.2.1 (scI tco tby len 900 (tki, tst, tva, 0, 0)).2.2.2.1 0) 0)) (woT ((upd (scI tco tby len 900 (tki, tst, tva, 0, 0)).1 (scI tco tby len 900 (tki, tst, tva, 0, 0)).2.2.2.1 0) 0) ((vp_updL (scI tco tby len 900 (tki, tst, tva, 0, 0)).2.2.1 (scI tco tby len 900 (tki, tst, tva, 0, 0)).2.2.2.1 0) 0)) ttk tna (0) (-1))) : Call Γ M_Text_begin 4 0 0 [.ref 0, .int (nI len)] (hX tby tco tki tst tva (nI nF) tle tto tat tkd tvl two ttk tna tfk tfp) Q := by
  refine call_intro (ls := [some (.ref 0), some (.int (nI len)), none, none]) rfl rfl rfl ?_
  refine wp_aload_n 1 d_Text_begin_0 rfl rfl ?_
  refine wp_iload_n 2 d_Text_begin_1 rfl rfl ?_
  refine wp_aload_n 3 d_Text_begin_2 rfl rfl ?_
  refine wp_getfield 6 7 5 d_Text_begin_3 rfl fl_Text_29 rfl rfl ?_
  refine wp_S2 9 M_JMath_min 1 d_Text_begin_6 rfl ms_JMath_min lk_Text_79 rfl rfl ?_
  refine c_JMath_min ?_
  refine kI ?_
  rw [show iMin (nI len) (nI nF) = nI len from if_pos ((nI_leI (by omega) (by omega)).mpr hl)]
  refine wp_putfield 12 7 6 _ d_Text_begin_9 rfl fp_Text_33 rfl rfl (okP_int _) ?_
  dsimp only [List.set]
  refine wp_aload_n 13 d_Text_begin_12 rfl rfl ?_
  refine wp_iconst 14 0 d_Text_begin_13 rfl (by decide) ?_
  refine wp_putfield 17 7 5 _ d_Text_begin_14 rfl fp_Text_29 rfl rfl (okP_int _) ?_
  dsimp only [List.set]
  refine wp_aload_n 18 d_Text_begin_17 rfl rfl ?_
  refine wp_iconst 19 0 d_Text_begin_18 rfl (by decide) ?_
  refine wp_putfield 22 7 14 _ d_Text_begin_19 rfl fp_Text_58 rfl rfl (okP_int _) ?_
  dsimp only [List.set]
  refine wp_aload_n 23 d_Text_begin_22 rfl rfl ?_
  refine wp_iconst 24 (-1) d_Text_begin_23 rfl (by decide) ?_
  refine wp_putfield 27 7 15 _ d_Text_begin_24 rfl fp_Text_61 rfl rfl (okP_int _) ?_
  dsimp only [List.set]
  refine wp_aload_n 28 d_Text_begin_27 rfl rfl ?_
  refine wp_iconst 29 0 d_Text_begin_28 rfl (by decide) ?_
  refine wp_putfield 32 7 7 _ d_Text_begin_29 rfl fp_Text_36 rfl rfl (okP_int _) ?_
  dsimp only [List.set]
  refine wp_iconst 33 0 d_Text_begin_32 rfl (by decide) ?_
  refine wp_istore_2 34 d_Text_begin_33 rfl rfl rfl ?_
  refine wp_iconst 35 0 d_Text_begin_34 rfl (by decide) ?_
  refine wp_istore_3 36 d_Text_begin_35 rfl rfl rfl ?_
  refine l_Text_begin_36 (QW := fun S => S.2.2.2.1 ≤ 900 ∧ Q none (hX tby tco (upd S.1 S.2.2.2.1 0) (upd S.2.1 S.2.2.2.1 (nI len)) (vp_updL S.2.2.1 S.2.2.2.1 0) (0) (nI len) (nI (S.2.2.2.1 + 1)) (nI 0) ((upd S.1 S.2.2.2.1 0) 0) (vlT ((upd S.1 S.2.2.2.1 0) 0) ((vp_updL S.2.2.1 S.2.2.2.1 0) 0)) (woT ((upd S.1 S.2.2.2.1 0) 0) ((vp_updL S.2.2.1 S.2.2.2.1 0) 0)) ttk tna (0) (-1))) (by omega) (fun S i ⟨hle, hW⟩ => ?_) 900 0 (tki, tst, tva, 0, 0) (by omega) ⟨Nat.le_refl _, Nat.zero_le _, by have := scI_n tco tby len 900 (tki, tst, tva, 0, 0); simpa using this, hq⟩
  refine wp_aload_n 82 d_Text_begin_81 rfl rfl ?_
  refine wp_iconst 83 0 d_Text_begin_82 rfl (by decide) ?_
  refine wp_aload_n 84 d_Text_begin_83 rfl rfl ?_
  refine wp_getfield 87 7 6 d_Text_begin_84 rfl fl_Text_33 rfl rfl ?_
  refine wp_lconst 88 0 d_Text_begin_87 rfl (by decide) ?_
  refine wp_V3 91 M_Text_addToken 1 d_Text_begin_88 rfl mv_Text_addToken lk_Text_93 rfl rfl rfl rfl rfl ?_
  refine c_Text_addToken (by omega) ?_
  refine kV ?_
  refine wp_aload_n 92 d_Text_begin_91 rfl rfl ?_
  refine wp_iconst 93 0 d_Text_begin_92 rfl (by decide) ?_
  refine wp_putfield 96 7 8 _ d_Text_begin_93 rfl fp_Text_39 rfl rfl (okP_int _) ?_
  dsimp only [List.set]
  refine wp_aload_n 97 d_Text_begin_96 rfl rfl ?_
  refine wp_V0 100 M_Text_look 1 d_Text_begin_97 rfl mv_Text_look lk_Text_97 rfl rfl rfl rfl rfl ?_
  refine c_Text_look (a := 0) (by omega) (by omega) ?_
  refine kV ?_
  refine wp_return d_Text_begin_100 rfl ?_
  exact hW

set_option maxRecDepth 100000 in
theorem l_Text_feedFour_3 {tco tva : Nat → Int64} {tki tst : Nat → Int32} {tle tto tat tkd tvl two ttk tfk tfp : Int32} {tna : Int64} {tby : Nat → Int32} {nF : Nat} {v sh : Int32} (hsh : ¬ sh < 0) (hF : nF < 900) (k : WP Γ M_Text_feedFour 1 0 0 (hX ((upd tby nF (byt v sh))) tco tki tst tva (nI (nF + 1)) tle tto tat tkd tvl two ttk tna tfk tfp) 3 [some (.ref 0), some (.int v), some (.int (sh + (-8)))] [] Q) : WP Γ M_Text_feedFour 1 0 0 (hX (tby) tco tki tst tva (nI nF) tle tto tat tkd tvl two ttk tna tfk tfp) 3 [some (.ref 0), some (.int v), some (.int sh)] [] Q := by
  refine wp_iload_n 4 d_Text_feedFour_3 rfl rfl ?_
  refine wp_if_lt 46 7 d_Text_feedFour_4 rfl (by decide) (fun h4 => ?_) (fun h4 => ?_)
  · exact absurd h4 hsh
  · refine wp_aload_n 8 d_Text_feedFour_7 rfl rfl ?_
    refine wp_getfield 11 7 5 d_Text_feedFour_8 rfl fl_Text_29 rfl rfl ?_
    refine wp_sipush 14 900 d_Text_feedFour_11 rfl (by decide) ?_
    refine wp_icmp_ge 40 17 d_Text_feedFour_14 rfl (by decide) (fun h14 => ?_) (fun h14 => ?_)
    · exact absurd (nI_leN (b := 900) h14 (by omega) (by omega)) (by omega)
    · refine wp_aload_n 18 d_Text_feedFour_17 rfl rfl ?_
      refine wp_getfield 21 7 0 d_Text_feedFour_18 rfl fl_Text_9 rfl rfl ?_
      refine wp_aload_n 22 d_Text_feedFour_21 rfl rfl ?_
      refine wp_getfield 25 7 5 d_Text_feedFour_22 rfl fl_Text_29 rfl rfl ?_
      refine wp_iload_n 26 d_Text_feedFour_25 rfl rfl ?_
      refine wp_iload_n 27 d_Text_feedFour_26 rfl rfl ?_
      refine wp_ishr 28 d_Text_feedFour_27 rfl ?_
      refine wp_i2b 29 d_Text_feedFour_28 rfl ?_
      refine wp_bastoreN 30 d_Text_feedFour_29 rfl rfl rfl (by omega) ?_
      dsimp only [List.set]
      refine wp_aload_n 31 d_Text_feedFour_30 rfl rfl ?_
      refine wp_dup 32 d_Text_feedFour_31 rfl rfl ?_
      refine wp_getfield 35 7 5 d_Text_feedFour_32 rfl fl_Text_29 rfl rfl ?_
      refine wp_iconst 36 1 d_Text_feedFour_35 rfl (by decide) ?_
      refine wp_iadd 37 d_Text_feedFour_36 rfl ?_
      refine wp_putfield 40 7 5 _ d_Text_feedFour_37 rfl fp_Text_29 rfl rfl (okP_int _) ?_
      dsimp only [List.set]
      refine wp_iinc_2 43 (-8) d_Text_feedFour_40 rfl (by decide) rfl rfl ?_
      refine wp_goto 3 d_Text_feedFour_43 (by decide) ?_
      rw [nI_1]
      have e : vp_nar .byte (v >>> (sh &&& 31)).toInt8.toInt32 = byt v sh := pk_vb _
      rw [e]
      exact k
set_option maxRecDepth 100000 in
set_option maxHeartbeats 4000000 in
theorem c_Text_feedFour {tco tva : Nat → Int64} {tki tst : Nat → Int32} {tle tto tat tkd tvl two ttk tfk tfp : Int32} {tna : Int64} {tby : Nat → Int32} {nF : Nat} {v : Int32} (hF : nF + 4 ≤ 900) (hq : Q none (hX (upd (upd (upd (upd tby nF (byt v 24)) (nF + 1) (byt v 16)) (nF + 2) (byt v 8)) (nF + 3) (byt v 0)) tco tki tst tva (nI (nF + 4)) tle tto tat tkd tvl two ttk tna tfk tfp)) : Call Γ M_Text_feedFour 1 0 0 [.ref 0, .int v] (hX (tby) tco tki tst tva (nI nF) tle tto tat tkd tvl two ttk tna tfk tfp) Q := by
  refine call_intro (ls := [some (.ref 0), some (.int v), none]) rfl rfl rfl ?_
  refine wp_bipush 2 24 d_Text_feedFour_0 rfl (by decide) ?_
  refine wp_istore_2 3 d_Text_feedFour_2 rfl rfl rfl ?_
  refine l_Text_feedFour_3 (sh := 24) (by decide) (by omega) ?_
  refine qL2 (show _ = [some (.ref 0), some (.int v), some (.int 16)] from rfl) ?_
  refine l_Text_feedFour_3 (sh := 16) (by decide) (by omega) ?_
  refine qL2 (show _ = [some (.ref 0), some (.int v), some (.int 8)] from rfl) ?_
  refine l_Text_feedFour_3 (sh := 8) (by decide) (by omega) ?_
  refine qL2 (show _ = [some (.ref 0), some (.int v), some (.int 0)] from rfl) ?_
  refine l_Text_feedFour_3 (sh := 0) (by decide) (by omega) ?_
  refine qL2 (show _ = [some (.ref 0), some (.int v), some (.int (-8))] from rfl) ?_
  refine wp_iload_n 4 d_Text_feedFour_3 rfl rfl ?_
  refine wp_if_lt 46 7 d_Text_feedFour_4 rfl (by decide) (fun h4 => ?_) (fun h4 => ?_)
  · refine wp_return d_Text_feedFour_46 rfl ?_
    exact hq
  · exact absurd (by decide) h4

end T29
