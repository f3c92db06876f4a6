/-! ===== Town: raw functions, contracts ===== -/
abbrev hT (pn : Nat → Int64) (wn : Nat → Int64) (fa : Nat → Int32) (te : Nat → Int32) (fr : Nat → Int32) (to_ : Nat → Int32) (ea : Nat → Int32) (no : Nat → Int32) (pl : Int32) (wa : Int32) (le : Int32) (od : Int32) (sk : Int32) (sd : Int32) (go : Int32) : LH := [cO 8 [.ref 1, .ref 2, .ref 3, .ref 4, .ref 5, .ref 6, .ref 7, .ref 8, .int pl, .int wa, .int le, .int od, .int sk, .int sd, .int go], cL 7 pn, cL 4 wn, cI 4 fa, cI 12 te, cI 12 fr, cI 12 to_, cI 12 ea, cI 12 no]
abbrev hs (s k : Int32) : Prop := ¬ (s >>> (k &&& 31)) &&& 1 = 0
abbrev inR (n m : Int32) : Prop := 0 ≤ n ∧ n < m
def tB (f : Int32) : Int32 := f - f / 4 * 4
def lB (f : Int32) : Int32 := f / 4 - f / 4 / 2 * 2
def sB (f : Int32) : Int32 := 1 + f / 8
def rE (e n f : Int32) : Int32 := if tB f = 0 then sB f * (if lB f = 1 then -e else e) else if tB f = 1 then sB f * n else if tB f = 2 then sB f * -(if lB f = 1 then -e else e) else sB f * -n
def rN (e n f : Int32) : Int32 := if tB f = 0 then sB f * n else if tB f = 1 then sB f * -(if lB f = 1 then -e else e) else if tB f = 2 then sB f * -n else sB f * (if lB f = 1 then -e else e)
def aB (x : Int32) : Int32 := if x < 0 then -x else x
theorem qI {Q : Option Value → LH → Prop} {h : LH} {a b : Int32} (hq : Q (some (.int a)) h) (e : b = a) : Q (some (.int b)) h := e ▸ hq
section T20
variable {Γ : Gm} {Q : Option Value → LH → Prop}
set_option maxRecDepth 100000 in
set_option maxHeartbeats 4000000 in
theorem c_PM_within {n m : Int32} {h : LH} (hq : Q (some (.int (bP (inR n m)))) h) : Call Γ M_PM_within 1 0 0 [.int n, .int m] h Q := by
  refine call_intro (ls := [some (.int n), some (.int m)]) rfl rfl rfl ?_
  refine wp_iload_n 1 d_PM_within_0 rfl rfl ?_
  refine wp_if_lt 13 4 d_PM_within_1 rfl (by decide) (fun h1 => ?_) (fun h1 => ?_)
  · refine wp_iconst 14 0 d_PM_within_13 rfl (by decide) ?_
    refine wp_zreturn d_PM_within_14 rfl (by first | rfl | exact nbP _) ?_
    first | exact bq1 ⟨Int32.not_lt.mp h1, Int32.not_le.mp h6⟩ hq | exact bq0 (fun z => h6 z.2) hq | exact bq0 (fun z => absurd h1 (Int32.not_lt.mpr z.1)) hq | exact bq0 (fun z => absurd h6 (Int32.not_le.mpr z.2)) hq
  · refine wp_iload_n 5 d_PM_within_4 rfl rfl ?_
    refine wp_iload_n 6 d_PM_within_5 rfl rfl ?_
    refine wp_icmp_ge 13 9 d_PM_within_6 rfl (by decide) (fun h6 => ?_) (fun h6 => ?_)
    · refine wp_iconst 14 0 d_PM_within_13 rfl (by decide) ?_
      refine wp_zreturn d_PM_within_14 rfl (by first | rfl | exact nbP _) ?_
      first | exact bq1 ⟨Int32.not_lt.mp h1, Int32.not_le.mp h6⟩ hq | exact bq0 (fun z => h6 z.2) hq | exact bq0 (fun z => absurd h1 (Int32.not_lt.mpr z.1)) hq | exact bq0 (fun z => absurd h6 (Int32.not_le.mpr z.2)) hq
    · refine wp_iconst 10 1 d_PM_within_9 rfl (by decide) ?_
      refine wp_goto 14 d_PM_within_10 (by decide) ?_
      refine wp_zreturn d_PM_within_14 rfl (by first | rfl | exact nbP _) ?_
      first | exact bq1 ⟨Int32.not_lt.mp h1, Int32.not_le.mp h6⟩ hq | exact bq0 (fun z => h6 z.2) hq | exact bq0 (fun z => absurd h1 (Int32.not_lt.mpr z.1)) hq | exact bq0 (fun z => absurd h6 (Int32.not_le.mpr z.2)) hq

set_option maxRecDepth 100000 in
set_option maxHeartbeats 4000000 in
theorem c_PM_has {s k : Int32} {h : LH} (hq : Q (some (.int (bP (hs s k)))) h) : Call Γ M_PM_has 1 0 0 [.int s, .int k] h Q := by
  refine call_intro (ls := [some (.int s), some (.int k)]) rfl rfl rfl ?_
  refine wp_iload_n 1 d_PM_has_0 rfl rfl ?_
  refine wp_iload_n 2 d_PM_has_1 rfl rfl ?_
  refine wp_ishr 3 d_PM_has_2 rfl ?_
  refine wp_iconst 4 1 d_PM_has_3 rfl (by decide) ?_
  refine wp_iand 5 d_PM_has_4 rfl ?_
  refine wp_if_eq 12 8 d_PM_has_5 rfl (by decide) (fun h5 => ?_) (fun h5 => ?_)
  · refine wp_iconst 13 0 d_PM_has_12 rfl (by decide) ?_
    refine wp_zreturn d_PM_has_13 rfl (by first | rfl | exact nbP _) ?_
    first | exact bq1 h5 hq | exact bq0 (fun z => z h5) hq
  · refine wp_iconst 9 1 d_PM_has_8 rfl (by decide) ?_
    refine wp_goto 13 d_PM_has_9 (by decide) ?_
    refine wp_zreturn d_PM_has_13 rfl (by first | rfl | exact nbP _) ?_
    first | exact bq1 h5 hq | exact bq0 (fun z => z h5) hq

set_option maxRecDepth 100000 in
set_option maxHeartbeats 4000000 in
theorem c_JMath_absI {x : Int32} {h : LH} (hq : Q (some (.int (aB x))) h) : Call Γ M_JMath_absI 1 0 0 [.int x] h Q := by
  refine call_introF (ls := [some (.int x)]) (by decide +kernel) rfl rfl ?_
  refine wp_iload_n 1 d_JMath_absI_0 rfl rfl ?_
  refine wp_if_ge 9 4 d_JMath_absI_1 rfl (by decide) (fun h1 => ?_) (fun h1 => ?_)
  · refine wp_iload_n 10 d_JMath_absI_9 rfl rfl ?_
    refine wp_ireturn d_JMath_absI_10 rfl ?_
    refine qI hq ?_; unfold aB; first | rw [if_neg (Int32.not_lt.mpr h1)] | rw [if_pos (Int32.not_le.mp h1)]
  · refine wp_iload_n 5 d_JMath_absI_4 rfl rfl ?_
    refine wp_ineg 6 d_JMath_absI_5 rfl ?_
    refine wp_goto 10 d_JMath_absI_6 (by decide) ?_
    refine wp_ireturn d_JMath_absI_10 rfl ?_
    refine qI hq ?_; unfold aB; first | rw [if_neg (Int32.not_lt.mpr h1)] | rw [if_pos (Int32.not_le.mp h1)]

set_option maxRecDepth 100000 in
set_option maxHeartbeats 4000000 in
theorem c_Town_turnedBy {f : Int32} {h : LH} (hq : Q (some (.int (tB f))) h) : Call Γ M_Town_turnedBy 1 0 0 [.int f] h Q := by
  refine call_intro (ls := [some (.int f)]) rfl rfl rfl ?_
  refine wp_iload_n 1 d_Town_turnedBy_0 rfl rfl ?_
  refine wp_iconst 2 4 d_Town_turnedBy_1 rfl (by decide) ?_
  refine wp_irem 3 d_Town_turnedBy_2 rfl (by decide) ?_
  refine wp_ireturn d_Town_turnedBy_3 rfl ?_
  exact hq

set_option maxRecDepth 100000 in
set_option maxHeartbeats 4000000 in
theorem c_Town_isLeft {f : Int32} {h : LH} (hq : Q (some (.int (bP (lB f = 1)))) h) : Call Γ M_Town_isLeft 1 0 0 [.int f] h Q := by
  refine call_intro (ls := [some (.int f)]) rfl rfl rfl ?_
  refine wp_iload_n 1 d_Town_isLeft_0 rfl rfl ?_
  refine wp_iconst 2 4 d_Town_isLeft_1 rfl (by decide) ?_
  refine wp_idiv 3 d_Town_isLeft_2 rfl (by decide) ?_
  refine wp_iconst 4 2 d_Town_isLeft_3 rfl (by decide) ?_
  refine wp_irem 5 d_Town_isLeft_4 rfl (by decide) ?_
  refine wp_iconst 6 1 d_Town_isLeft_5 rfl (by decide) ?_
  refine wp_icmp_ne 13 9 d_Town_isLeft_6 rfl (by decide) (fun h6 => ?_) (fun h6 => ?_)
  · refine wp_iconst 14 0 d_Town_isLeft_13 rfl (by decide) ?_
    refine wp_zreturn d_Town_isLeft_14 rfl (by first | rfl | exact nbP _) ?_
    first | exact bq1 (show lB f = 1 from h6) hq | exact bq0 (fun z => h6 z) hq
  · refine wp_iconst 10 1 d_Town_isLeft_9 rfl (by decide) ?_
    refine wp_goto 14 d_Town_isLeft_10 (by decide) ?_
    refine wp_zreturn d_Town_isLeft_14 rfl (by first | rfl | exact nbP _) ?_
    first | exact bq1 (show lB f = 1 from h6) hq | exact bq0 (fun z => h6 z) hq

set_option maxRecDepth 100000 in
set_option maxHeartbeats 4000000 in
theorem c_Town_strideBy {f : Int32} {h : LH} (hq : Q (some (.int (sB f))) h) : Call Γ M_Town_strideBy 1 0 0 [.int f] h Q := by
  refine call_intro (ls := [some (.int f)]) rfl rfl rfl ?_
  refine wp_iconst 1 1 d_Town_strideBy_0 rfl (by decide) ?_
  refine wp_iload_n 2 d_Town_strideBy_1 rfl rfl ?_
  refine wp_bipush 4 8 d_Town_strideBy_2 rfl (by decide) ?_
  refine wp_idiv 5 d_Town_strideBy_4 rfl (by decide) ?_
  refine wp_iadd 6 d_Town_strideBy_5 rfl ?_
  refine wp_ireturn d_Town_strideBy_6 rfl ?_
  exact hq

set_option maxRecDepth 100000 in
set_option maxHeartbeats 4000000 in
theorem c_Town_rightEast {pn wn : Nat → Int64} {fa te fr to_ ea no : Nat → Int32} {pl wa le od sk sd go : Int32} {l : Nat} {f : Int32} (hl : l < 12) (hq : Q (some (.int (rE (ea l) (no l) f))) (hT pn wn fa te fr to_ ea no pl wa le od sk sd go)) : Call Γ M_Town_rightEast 2 0 0 [.ref 0, .int (nI l), .int f] (hT pn wn fa te fr to_ ea no pl wa le od sk sd go) Q := by
  refine call_intro (ls := [some (.ref 0), some (.int (nI l)), some (.int f), none, none]) rfl rfl rfl ?_
  refine wp_iload_n 1 d_Town_rightEast_0 rfl rfl ?_
  refine wp_S1 4 M_Town_isLeft 1 d_Town_rightEast_1 rfl ms_Town_isLeft lk_Town_65 rfl rfl ?_
  refine c_Town_isLeft ?_
  refine kI ?_
  (first | refine wp_ifP_eq 17 7 d_Town_rightEast_4 rfl (by decide) (fun h4 => ?_) (fun h4 => ?_) | refine wp_if_eq 17 7 d_Town_rightEast_4 rfl (by decide) (fun h4 => ?_) (fun h4 => ?_))
  · refine wp_aload_n 18 d_Town_rightEast_17 rfl rfl ?_
    refine wp_getfield 21 8 6 d_Town_rightEast_18 rfl fl_Town_31 rfl rfl ?_
    refine wp_iload_n 22 d_Town_rightEast_21 rfl rfl ?_
    refine wp_ialoadN 23 d_Town_rightEast_22 rfl rfl rfl (by omega) ?_
    refine wp_istore_3 24 d_Town_rightEast_23 rfl rfl rfl ?_
    refine wp_iload_n 25 d_Town_rightEast_24 rfl rfl ?_
    refine wp_S1 28 M_Town_strideBy 1 d_Town_rightEast_25 rfl ms_Town_strideBy lk_Town_69 rfl rfl ?_
    refine c_Town_strideBy ?_
    refine kI ?_
    refine wp_istore_4 30 d_Town_rightEast_28 rfl rfl rfl ?_
    refine wp_iload_n 31 d_Town_rightEast_30 rfl rfl ?_
    refine wp_S1 34 M_Town_turnedBy 1 d_Town_rightEast_31 rfl ms_Town_turnedBy lk_Town_73 rfl rfl ?_
    refine c_Town_turnedBy ?_
    refine kI ?_
    by_cases h34_0 : tB f = 0
    · refine wp_tabIn (off := 26) 60 0 d_Town_rightEast_34 h34_0 (by decide) (by decide) (by decide) (by decide) ?_
      refine wp_iload 62 d_Town_rightEast_60 rfl rfl ?_
      refine wp_iload_n 63 d_Town_rightEast_62 rfl rfl ?_
      refine wp_imul 64 d_Town_rightEast_63 rfl ?_
      refine wp_ireturn d_Town_rightEast_64 rfl ?_
      refine qI hq ?_; simp [rE, *]
    by_cases h34_1 : tB f = 1
    · refine wp_tabIn (off := 31) 65 1 d_Town_rightEast_34 h34_1 (by decide) (by decide) (by decide) (by decide) ?_
      refine wp_iload 67 d_Town_rightEast_65 rfl rfl ?_
      refine wp_aload_n 68 d_Town_rightEast_67 rfl rfl ?_
      refine wp_getfield 71 8 7 d_Town_rightEast_68 rfl fl_Town_34 rfl rfl ?_
      refine wp_iload_n 72 d_Town_rightEast_71 rfl rfl ?_
      refine wp_ialoadN 73 d_Town_rightEast_72 rfl rfl rfl (by omega) ?_
      refine wp_imul 74 d_Town_rightEast_73 rfl ?_
      refine wp_ireturn d_Town_rightEast_74 rfl ?_
      refine qI hq ?_; simp [rE, *]
    by_cases h34_2 : tB f = 2
    · refine wp_tabIn (off := 41) 75 2 d_Town_rightEast_34 h34_2 (by decide) (by decide) (by decide) (by decide) ?_
      refine wp_iload 77 d_Town_rightEast_75 rfl rfl ?_
      refine wp_iload_n 78 d_Town_rightEast_77 rfl rfl ?_
      refine wp_ineg 79 d_Town_rightEast_78 rfl ?_
      refine wp_imul 80 d_Town_rightEast_79 rfl ?_
      refine wp_ireturn d_Town_rightEast_80 rfl ?_
      refine qI hq ?_; simp [rE, *]
    refine wp_tabOut 81 d_Town_rightEast_34 (sw_out3 h34_0 h34_1 h34_2) (by decide) ?_
    refine wp_iload 83 d_Town_rightEast_81 rfl rfl ?_
    refine wp_aload_n 84 d_Town_rightEast_83 rfl rfl ?_
    refine wp_getfield 87 8 7 d_Town_rightEast_84 rfl fl_Town_34 rfl rfl ?_
    refine wp_iload_n 88 d_Town_rightEast_87 rfl rfl ?_
    refine wp_ialoadN 89 d_Town_rightEast_88 rfl rfl rfl (by omega) ?_
    refine wp_ineg 90 d_Town_rightEast_89 rfl ?_
    refine wp_imul 91 d_Town_rightEast_90 rfl ?_
    refine wp_ireturn d_Town_rightEast_91 rfl ?_
    refine qI hq ?_; simp [rE, *]
  · refine wp_aload_n 8 d_Town_rightEast_7 rfl rfl ?_
    refine wp_getfield 11 8 6 d_Town_rightEast_8 rfl fl_Town_31 rfl rfl ?_
    refine wp_iload_n 12 d_Town_rightEast_11 rfl rfl ?_
    refine wp_ialoadN 13 d_Town_rightEast_12 rfl rfl rfl (by omega) ?_
    refine wp_ineg 14 d_Town_rightEast_13 rfl ?_
    refine wp_goto 23 d_Town_rightEast_14 (by decide) ?_
    refine wp_istore_3 24 d_Town_rightEast_23 rfl rfl rfl ?_
    refine wp_iload_n 25 d_Town_rightEast_24 rfl rfl ?_
    refine wp_S1 28 M_Town_strideBy 1 d_Town_rightEast_25 rfl ms_Town_strideBy lk_Town_69 rfl rfl ?_
    refine c_Town_strideBy ?_
    refine kI ?_
    refine wp_istore_4 30 d_Town_rightEast_28 rfl rfl rfl ?_
    refine wp_iload_n 31 d_Town_rightEast_30 rfl rfl ?_
    refine wp_S1 34 M_Town_turnedBy 1 d_Town_rightEast_31 rfl ms_Town_turnedBy lk_Town_73 rfl rfl ?_
    refine c_Town_turnedBy ?_
    refine kI ?_
    by_cases h34_0 : tB f = 0
    · refine wp_tabIn (off := 26) 60 0 d_Town_rightEast_34 h34_0 (by decide) (by decide) (by decide) (by decide) ?_
      refine wp_iload 62 d_Town_rightEast_60 rfl rfl ?_
      refine wp_iload_n 63 d_Town_rightEast_62 rfl rfl ?_
      refine wp_imul 64 d_Town_rightEast_63 rfl ?_
      refine wp_ireturn d_Town_rightEast_64 rfl ?_
      refine qI hq ?_; simp [rE, *]
    by_cases h34_1 : tB f = 1
    · refine wp_tabIn (off := 31) 65 1 d_Town_rightEast_34 h34_1 (by decide) (by decide) (by decide) (by decide) ?_
      refine wp_iload 67 d_Town_rightEast_65 rfl rfl ?_
      refine wp_aload_n 68 d_Town_rightEast_67 rfl rfl ?_
      refine wp_getfield 71 8 7 d_Town_rightEast_68 rfl fl_Town_34 rfl rfl ?_
      refine wp_iload_n 72 d_Town_rightEast_71 rfl rfl ?_
      refine wp_ialoadN 73 d_Town_rightEast_72 rfl rfl rfl (by omega) ?_
      refine wp_imul 74 d_Town_rightEast_73 rfl ?_
      refine wp_ireturn d_Town_rightEast_74 rfl ?_
      refine qI hq ?_; simp [rE, *]
    by_cases h34_2 : tB f = 2
    · refine wp_tabIn (off := 41) 75 2 d_Town_rightEast_34 h34_2 (by decide) (by decide) (by decide) (by decide) ?_
      refine wp_iload 77 d_Town_rightEast_75 rfl rfl ?_
      refine wp_iload_n 78 d_Town_rightEast_77 rfl rfl ?_
      refine wp_ineg 79 d_Town_rightEast_78 rfl ?_
      refine wp_imul 80 d_Town_rightEast_79 rfl ?_
      refine wp_ireturn d_Town_rightEast_80 rfl ?_
      refine qI hq ?_; simp [rE, *]
    refine wp_tabOut 81 d_Town_rightEast_34 (sw_out3 h34_0 h34_1 h34_2) (by decide) ?_
    refine wp_iload 83 d_Town_rightEast_81 rfl rfl ?_
    refine wp_aload_n 84 d_Town_rightEast_83 rfl rfl ?_
    refine wp_getfield 87 8 7 d_Town_rightEast_84 rfl fl_Town_34 rfl rfl ?_
    refine wp_iload_n 88 d_Town_rightEast_87 rfl rfl ?_
    refine wp_ialoadN 89 d_Town_rightEast_88 rfl rfl rfl (by omega) ?_
    refine wp_ineg 90 d_Town_rightEast_89 rfl ?_
    refine wp_imul 91 d_Town_rightEast_90 rfl ?_
    refine wp_ireturn d_Town_rightEast_91 rfl ?_
    refine qI hq ?_; simp [rE, *]

set_option maxRecDepth 100000 in
set_option maxHeartbeats 4000000 in
theorem c_Town_rightNorth {pn wn : Nat → Int64} {fa te fr to_ ea no : Nat → Int32} {pl wa le od sk sd go : Int32} {l : Nat} {f : Int32} (hl : l < 12) (hq : Q (some (.int (rN (ea l) (no l) f))) (hT pn wn fa te fr to_ ea no pl wa le od sk sd go)) : Call Γ M_Town_rightNorth 2 0 0 [.ref 0, .int (nI l), .int f] (hT pn wn fa te fr to_ ea no pl wa le od sk sd go) Q := by
  refine call_intro (ls := [some (.ref 0), some (.int (nI l)), some (.int f), none, none]) rfl rfl rfl ?_
  refine wp_iload_n 1 d_Town_rightNorth_0 rfl rfl ?_
  refine wp_S1 4 M_Town_isLeft 1 d_Town_rightNorth_1 rfl ms_Town_isLeft lk_Town_65 rfl rfl ?_
  refine c_Town_isLeft ?_
  refine kI ?_
  (first | refine wp_ifP_eq 17 7 d_Town_rightNorth_4 rfl (by decide) (fun h4 => ?_) (fun h4 => ?_) | refine wp_if_eq 17 7 d_Town_rightNorth_4 rfl (by decide) (fun h4 => ?_) (fun h4 => ?_))
  · refine wp_aload_n 18 d_Town_rightNorth_17 rfl rfl ?_
    refine wp_getfield 21 8 6 d_Town_rightNorth_18 rfl fl_Town_31 rfl rfl ?_
    refine wp_iload_n 22 d_Town_rightNorth_21 rfl rfl ?_
    refine wp_ialoadN 23 d_Town_rightNorth_22 rfl rfl rfl (by omega) ?_
    refine wp_istore_3 24 d_Town_rightNorth_23 rfl rfl rfl ?_
    refine wp_iload_n 25 d_Town_rightNorth_24 rfl rfl ?_
    refine wp_S1 28 M_Town_strideBy 1 d_Town_rightNorth_25 rfl ms_Town_strideBy lk_Town_69 rfl rfl ?_
    refine c_Town_strideBy ?_
    refine kI ?_
    refine wp_istore_4 30 d_Town_rightNorth_28 rfl rfl rfl ?_
    refine wp_iload_n 31 d_Town_rightNorth_30 rfl rfl ?_
    refine wp_S1 34 M_Town_turnedBy 1 d_Town_rightNorth_31 rfl ms_Town_turnedBy lk_Town_73 rfl rfl ?_
    refine c_Town_turnedBy ?_
    refine kI ?_
    by_cases h34_0 : tB f = 0
    · refine wp_tabIn (off := 26) 60 0 d_Town_rightNorth_34 h34_0 (by decide) (by decide) (by decide) (by decide) ?_
      refine wp_iload 62 d_Town_rightNorth_60 rfl rfl ?_
      refine wp_aload_n 63 d_Town_rightNorth_62 rfl rfl ?_
      refine wp_getfield 66 8 7 d_Town_rightNorth_63 rfl fl_Town_34 rfl rfl ?_
      refine wp_iload_n 67 d_Town_rightNorth_66 rfl rfl ?_
      refine wp_ialoadN 68 d_Town_rightNorth_67 rfl rfl rfl (by omega) ?_
      refine wp_imul 69 d_Town_rightNorth_68 rfl ?_
      refine wp_ireturn d_Town_rightNorth_69 rfl ?_
      refine qI hq ?_; simp [rN, *]
    by_cases h34_1 : tB f = 1
    · refine wp_tabIn (off := 36) 70 1 d_Town_rightNorth_34 h34_1 (by decide) (by decide) (by decide) (by decide) ?_
      refine wp_iload 72 d_Town_rightNorth_70 rfl rfl ?_
      refine wp_iload_n 73 d_Town_rightNorth_72 rfl rfl ?_
      refine wp_ineg 74 d_Town_rightNorth_73 rfl ?_
      refine wp_imul 75 d_Town_rightNorth_74 rfl ?_
      refine wp_ireturn d_Town_rightNorth_75 rfl ?_
      refine qI hq ?_; simp [rN, *]
    by_cases h34_2 : tB f = 2
    · refine wp_tabIn (off := 42) 76 2 d_Town_rightNorth_34 h34_2 (by decide) (by decide) (by decide) (by decide) ?_
      refine wp_iload 78 d_Town_rightNorth_76 rfl rfl ?_
      refine wp_aload_n 79 d_Town_rightNorth_78 rfl rfl ?_
      refine wp_getfield 82 8 7 d_Town_rightNorth_79 rfl fl_Town_34 rfl rfl ?_
      refine wp_iload_n 83 d_Town_rightNorth_82 rfl rfl ?_
      refine wp_ialoadN 84 d_Town_rightNorth_83 rfl rfl rfl (by omega) ?_
      refine wp_ineg 85 d_Town_rightNorth_84 rfl ?_
      refine wp_imul 86 d_Town_rightNorth_85 rfl ?_
      refine wp_ireturn d_Town_rightNorth_86 rfl ?_
      refine qI hq ?_; simp [rN, *]
    refine wp_tabOut 87 d_Town_rightNorth_34 (sw_out3 h34_0 h34_1 h34_2) (by decide) ?_
    refine wp_iload 89 d_Town_rightNorth_87 rfl rfl ?_
    refine wp_iload_n 90 d_Town_rightNorth_89 rfl rfl ?_
    refine wp_imul 91 d_Town_rightNorth_90 rfl ?_
    refine wp_ireturn d_Town_rightNorth_91 rfl ?_
    refine qI hq ?_; simp [rN, *]
  · refine wp_aload_n 8 d_Town_rightNorth_7 rfl rfl ?_
    refine wp_getfield 11 8 6 d_Town_rightNorth_8 rfl fl_Town_31 rfl rfl ?_
    refine wp_iload_n 12 d_Town_rightNorth_11 rfl rfl ?_
    refine wp_ialoadN 13 d_Town_rightNorth_12 rfl rfl rfl (by omega) ?_
    refine wp_ineg 14 d_Town_rightNorth_13 rfl ?_
    refine wp_goto 23 d_Town_rightNorth_14 (by decide) ?_
    refine wp_istore_3 24 d_Town_rightNorth_23 rfl rfl rfl ?_
    refine wp_iload_n 25 d_Town_rightNorth_24 rfl rfl ?_
    refine wp_S1 28 M_Town_strideBy 1 d_Town_rightNorth_25 rfl ms_Town_strideBy lk_Town_69 rfl rfl ?_
    refine c_Town_strideBy ?_
    refine kI ?_
    refine wp_istore_4 30 d_Town_rightNorth_28 rfl rfl rfl ?_
    refine wp_iload_n 31 d_Town_rightNorth_30 rfl rfl ?_
    refine wp_S1 34 M_Town_turnedBy 1 d_Town_rightNorth_31 rfl ms_Town_turnedBy lk_Town_73 rfl rfl ?_
    refine c_Town_turnedBy ?_
    refine kI ?_
    by_cases h34_0 : tB f = 0
    · refine wp_tabIn (off := 26) 60 0 d_Town_rightNorth_34 h34_0 (by decide) (by decide) (by decide) (by decide) ?_
      refine wp_iload 62 d_Town_rightNorth_60 rfl rfl ?_
      refine wp_aload_n 63 d_Town_rightNorth_62 rfl rfl ?_
      refine wp_getfield 66 8 7 d_Town_rightNorth_63 rfl fl_Town_34 rfl rfl ?_
      refine wp_iload_n 67 d_Town_rightNorth_66 rfl rfl ?_
      refine wp_ialoadN 68 d_Town_rightNorth_67 rfl rfl rfl (by omega) ?_
      refine wp_imul 69 d_Town_rightNorth_68 rfl ?_
      refine wp_ireturn d_Town_rightNorth_69 rfl ?_
      refine qI hq ?_; simp [rN, *]
    by_cases h34_1 : tB f = 1
    · refine wp_tabIn (off := 36) 70 1 d_Town_rightNorth_34 h34_1 (by decide) (by decide) (by decide) (by decide) ?_
      refine wp_iload 72 d_Town_rightNorth_70 rfl rfl ?_
      refine wp_iload_n 73 d_Town_rightNorth_72 rfl rfl ?_
      refine wp_ineg 74 d_Town_rightNorth_73 rfl ?_
      refine wp_imul 75 d_Town_rightNorth_74 rfl ?_
      refine wp_ireturn d_Town_rightNorth_75 rfl ?_
      refine qI hq ?_; simp [rN, *]
    by_cases h34_2 : tB f = 2
    · refine wp_tabIn (off := 42) 76 2 d_Town_rightNorth_34 h34_2 (by decide) (by decide) (by decide) (by decide) ?_
      refine wp_iload 78 d_Town_rightNorth_76 rfl rfl ?_
      refine wp_aload_n 79 d_Town_rightNorth_78 rfl rfl ?_
      refine wp_getfield 82 8 7 d_Town_rightNorth_79 rfl fl_Town_34 rfl rfl ?_
      refine wp_iload_n 83 d_Town_rightNorth_82 rfl rfl ?_
      refine wp_ialoadN 84 d_Town_rightNorth_83 rfl rfl rfl (by omega) ?_
      refine wp_ineg 85 d_Town_rightNorth_84 rfl ?_
      refine wp_imul 86 d_Town_rightNorth_85 rfl ?_
      refine wp_ireturn d_Town_rightNorth_86 rfl ?_
      refine qI hq ?_; simp [rN, *]
    refine wp_tabOut 87 d_Town_rightNorth_34 (sw_out3 h34_0 h34_1 h34_2) (by decide) ?_
    refine wp_iload 89 d_Town_rightNorth_87 rfl rfl ?_
    refine wp_iload_n 90 d_Town_rightNorth_89 rfl rfl ?_
    refine wp_imul 91 d_Town_rightNorth_90 rfl ?_
    refine wp_ireturn d_Town_rightNorth_91 rfl ?_
    refine qI hq ?_; simp [rN, *]

end T20
