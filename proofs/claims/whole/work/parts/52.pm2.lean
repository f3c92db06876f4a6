/-! ===== the class: helpers ===== -/
def cdI : Nat → Int64 → Int64 → Int64
  | 0, a, _ => a
  | r + 1, a, b => if b = 0 then a else cdI r b (a - a / b * b)
def cdF (a b : Int64) : Int64 := cdI 100 a b
def frT (a b v : Int64) : Int64 := if 0 < cdF a b then a / cdF a b else v
def frB (a b v : Int64) : Int64 := if 0 < cdF a b then b / cdF a b else v
abbrev isPa (x : Int32) : Prop := ¬ x < -99 ∧ ¬ 99 < x
abbrev isTw (T : TW) (a b : Int32) : Prop := inR a (nI T.nP) ∧ inR b (nI T.nP) ∧ ¬ a = b
abbrev isWs (T : TW) (s : Int32) : Prop := inR s (bit (nI T.nW)) ∧ ¬ 2 < bcR s
def updY {α : Type} (Y : Nat → α) (k : Nat) (y : α) : Nat → α := fun j => if j = k then y else Y j
def spF (Y : Nat → YT) (a b : Int32) : Int32 := if inR a 4 then (if (Y a.toNatClampNeg).yth = 0 then 2 else if inR b (nI (Y a.toNatClampNeg).nM) then 0 else 3) else 1
def chW (n m : Int32) (i : Nat) (w : Int64) : Int64 := w * (n - m + nI i).toInt64 / (nI i).toInt64
def chF (n m : Int32) (k : Nat) : Int64 := iterN (chW n m) k 1 1
def pwF (b : Int32) (k : Nat) : Int64 := iterN (fun _ w => w * b.toInt64) k 0 1
theorem inR4 {x : Int32} (h : inR x 4) : x = nI 0 ∨ x = nI 1 ∨ x = nI 2 ∨ x = nI 3 := by
  obtain ⟨j, hj, rfl⟩ := inR_ex (n := 4) h (by omega)
  match j, hj with
  | 0, _ => exact Or.inl rfl
  | 1, _ => exact Or.inr (Or.inl rfl)
  | 2, _ => exact Or.inr (Or.inr (Or.inl rfl))
  | 3, _ => exact Or.inr (Or.inr (Or.inr rfl))
theorem lc_le {x y : Int64} (h : lg_cmp x y ≤ 0) : ¬ y < x := fun z => absurd (lc_gt.mpr z) (Int32.not_lt.mpr h)
section T52
variable {Γ : Gm} {Q : Option Value → LH → Prop} {Y : Nat → YT} {X : XT} {T S : TW} {M : Nat → TW} {D E : DW} {N : Nat → DW} {C : CH} {U : UT} {W : WT} {G : GT} {L : LT} {VL : Nat → Int32} {HL ST : Int32} {nK : Nat} {TP BT : Int64}
set_option maxRecDepth 100000 in
set_option maxHeartbeats 4000000 in
theorem c_PM_fail {v : Int32} (hq : Q (some (.int (-1))) (hPM Y X T S M D E N C U W G L VL HL nK (v) TP BT)) : Call Γ M_PM_fail 1 0 0 [.ref 0, .int v] (hPM Y X T S M D E N C U W G L VL HL nK ST TP BT) Q := by
  refine call_intro (ls := [some (.ref 0), some (.int v)]) rfl rfl rfl ?_
  refine wp_aload_n 1 d_PM_fail_0 rfl rfl ?_
  refine wp_iload_n 2 d_PM_fail_1 rfl rfl ?_
  refine wp_putfield 5 11 16 _ d_PM_fail_2 rfl fp_PM_97 rfl rfl (okP_int _) ?_
  refine hEq (hPM Y X T S M D E N C U W G L VL HL nK (v) TP BT) rfl ?_
  refine wp_iconst 6 (-1) d_PM_fail_5 rfl (by decide) ?_
  refine wp_ireturn d_PM_fail_6 rfl ?_
  exact hq

set_option maxRecDepth 100000 in
set_option maxHeartbeats 4000000 in
theorem c_PM_refuse {v : Int32} (hq : Q (some (.int 0)) (hPM Y X T S M D E N C U W G L VL HL nK (v) TP BT)) : Call Γ M_PM_refuse 1 0 0 [.ref 0, .int v] (hPM Y X T S M D E N C U W G L VL HL nK ST TP BT) Q := by
  refine call_intro (ls := [some (.ref 0), some (.int v)]) rfl rfl rfl ?_
  refine wp_aload_n 1 d_PM_refuse_0 rfl rfl ?_
  refine wp_iload_n 2 d_PM_refuse_1 rfl rfl ?_
  refine wp_putfield 5 11 16 _ d_PM_refuse_2 rfl fp_PM_97 rfl rfl (okP_int _) ?_
  refine hEq (hPM Y X T S M D E N C U W G L VL HL nK (v) TP BT) rfl ?_
  refine wp_iconst 6 0 d_PM_refuse_5 rfl (by decide) ?_
  refine wp_zreturn d_PM_refuse_6 rfl (by first | rfl | exact nbP _) ?_
  exact hq

set_option maxRecDepth 100000 in
set_option maxHeartbeats 4000000 in
theorem c_PM_answer {v : Int32} (hq : Q (some (.int v)) (hPM Y X T S M D E N C U W G L VL HL nK (0) TP BT)) : Call Γ M_PM_answer 1 0 0 [.ref 0, .int v] (hPM Y X T S M D E N C U W G L VL HL nK ST TP BT) Q := by
  refine call_intro (ls := [some (.ref 0), some (.int v)]) rfl rfl rfl ?_
  refine wp_aload_n 1 d_PM_answer_0 rfl rfl ?_
  refine wp_iconst 2 0 d_PM_answer_1 rfl (by decide) ?_
  refine wp_putfield 5 11 16 _ d_PM_answer_2 rfl fp_PM_97 rfl rfl (okP_int _) ?_
  refine hEq (hPM Y X T S M D E N C U W G L VL HL nK (0) TP BT) rfl ?_
  refine wp_iload_n 6 d_PM_answer_5 rfl rfl ?_
  refine wp_ireturn d_PM_answer_6 rfl ?_
  exact hq

set_option maxRecDepth 100000 in
set_option maxHeartbeats 4000000 in
theorem c_PM_accept  (hq : Q (some (.int 1)) (hPM Y X T S M D E N C U W G L VL HL nK (0) TP BT)) : Call Γ M_PM_accept 1 0 0 [.ref 0] (hPM Y X T S M D E N C U W G L VL HL nK ST TP BT) Q := by
  refine call_intro (ls := [some (.ref 0)]) rfl rfl rfl ?_
  refine wp_aload_n 1 d_PM_accept_0 rfl rfl ?_
  refine wp_iconst 2 0 d_PM_accept_1 rfl (by decide) ?_
  refine wp_putfield 5 11 16 _ d_PM_accept_2 rfl fp_PM_97 rfl rfl (okP_int _) ?_
  refine hEq (hPM Y X T S M D E N C U W G L VL HL nK (0) TP BT) rfl ?_
  refine wp_iconst 6 1 d_PM_accept_5 rfl (by decide) ?_
  refine wp_zreturn d_PM_accept_6 rfl (by first | rfl | exact nbP _) ?_
  exact hq

set_option maxRecDepth 100000 in
set_option maxHeartbeats 4000000 in
theorem l_PM_commonDivisor_9 {x y : Int64} {h : LH}  : ∀ (r i : Nat) (a b : Int64) (w9 w10 : Option Value), i + r = 100 → Q (some (.long (cdI r a b))) h → WP Γ M_PM_commonDivisor 1 0 0 h 9 [some (.long x), none, some (.long y), none, some (.long a), none, some (.long b), none, some (.int (nI i)), w9, w10] [] Q := by
  intro r
  induction r with
  | zero =>
    intro i a b w9 w10 hi hinv
    have hq := hinv
    refine wp_iload 11 d_PM_commonDivisor_9 rfl rfl ?_
    refine wp_bipush 13 100 d_PM_commonDivisor_11 rfl (by decide) ?_
    refine wp_icmp_ge 44 16 d_PM_commonDivisor_13 rfl (by decide) (fun h13 => ?_) (fun h13 => ?_)
    · refine wp_lload 46 d_PM_commonDivisor_44 rfl rfl ?_
      refine wp_lreturn d_PM_commonDivisor_46 rfl ?_
      exact hq
    · exact absurd ((nI_leI (a := 100) (by omega) (by omega)).mpr (by omega)) h13
  | succ r ih =>
    intro i a b w9 w10 hi hinv
    have hq := hinv
    refine wp_iload 11 d_PM_commonDivisor_9 rfl rfl ?_
    refine wp_bipush 13 100 d_PM_commonDivisor_11 rfl (by decide) ?_
    refine wp_icmp_ge 44 16 d_PM_commonDivisor_13 rfl (by decide) (fun h13 => ?_) (fun h13 => ?_)
    · exact absurd (nI_leN (b := 100) h13 (by omega) (by omega)) (by omega)
    · refine wp_lload 18 d_PM_commonDivisor_16 rfl rfl ?_
      refine wp_lconst 19 0 d_PM_commonDivisor_18 rfl (by decide) ?_
      refine wp_lcmp 20 d_PM_commonDivisor_19 rfl ?_
      refine wp_if_eq 44 23 d_PM_commonDivisor_20 rfl (by decide) (fun h20 => ?_) (fun h20 => ?_)
      · refine wp_lload 46 d_PM_commonDivisor_44 rfl rfl ?_
        refine wp_lreturn d_PM_commonDivisor_46 rfl ?_
        have e : cdI (r + 1) a b = a := if_pos (lc_0 h20)
        rw [e] at hq
        exact hq
      · refine wp_lload 25 d_PM_commonDivisor_23 rfl rfl ?_
        refine wp_lload 27 d_PM_commonDivisor_25 rfl rfl ?_
        refine wp_lrem 28 d_PM_commonDivisor_27 rfl (fun e => lc_n h20 e) ?_
        refine wp_lstore_9 30 d_PM_commonDivisor_28 rfl rfl rfl ?_
        refine wp_lload 32 d_PM_commonDivisor_30 rfl rfl ?_
        refine wp_lstore_4 34 d_PM_commonDivisor_32 rfl rfl rfl ?_
        refine wp_lload 36 d_PM_commonDivisor_34 rfl rfl ?_
        refine wp_lstore_6 38 d_PM_commonDivisor_36 rfl rfl rfl ?_
        first | refine wp_iincN_8 41 d_PM_commonDivisor_38 rfl rfl rfl ?_ | refine wp_iinc_8 41 1 d_PM_commonDivisor_38 rfl (by decide) rfl rfl ?_
        refine wp_goto 9 d_PM_commonDivisor_41 (by decide) ?_
        have e : cdI (r + 1) a b = cdI r b (a - a / b * b) := if_neg (lc_n h20)
        rw [e] at hq
        exact ih (i + 1) _ _ _ _ (by omega) hq

set_option maxRecDepth 100000 in
set_option maxHeartbeats 4000000 in
theorem c_PM_commonDivisor {x y : Int64} {h : LH} (hq : Q (some (.long (cdF x y))) h) : Call Γ M_PM_commonDivisor 1 0 0 [.long x, .long y] h Q := by
  refine call_intro (ls := [some (.long x), none, some (.long y), none, none, none, none, none, none, none, none]) rfl rfl rfl ?_
  refine wp_lload_n 1 d_PM_commonDivisor_0 rfl rfl ?_
  refine wp_lstore_4 3 d_PM_commonDivisor_1 rfl rfl rfl ?_
  refine wp_lload_n 4 d_PM_commonDivisor_3 rfl rfl ?_
  refine wp_lstore_6 6 d_PM_commonDivisor_4 rfl rfl rfl ?_
  refine wp_iconst 7 0 d_PM_commonDivisor_6 rfl (by decide) ?_
  refine wp_istore_8 9 d_PM_commonDivisor_7 rfl rfl rfl ?_
  exact l_PM_commonDivisor_9 100 0 x y none none (by omega) hq

set_option maxRecDepth 100000 in
set_option maxHeartbeats 4000000 in
theorem c_PM_acceptFraction {a b : Int64} (hq : Q (some (.int 1)) (hPM Y X T S M D E N C U W G L VL HL nK (0) (frT a b TP) (frB a b BT))) : Call Γ M_PM_acceptFraction 2 0 0 [.ref 0, .long a, .long b] (hPM Y X T S M D E N C U W G L VL HL nK ST TP BT) Q := by
  refine call_intro (ls := [some (.ref 0), some (.long a), none, some (.long b), none, none, none]) rfl rfl rfl ?_
  refine wp_lload_n 1 d_PM_acceptFraction_0 rfl rfl ?_
  refine wp_lload_n 2 d_PM_acceptFraction_1 rfl rfl ?_
  refine wp_S2 5 M_PM_commonDivisor 1 d_PM_acceptFraction_2 rfl ms_PM_commonDivisor lk_PM_419 rfl rfl ?_
  refine c_PM_commonDivisor ?_
  refine kL ?_
  refine wp_lstore_5 7 d_PM_acceptFraction_5 rfl rfl rfl ?_
  refine wp_lload 9 d_PM_acceptFraction_7 rfl rfl ?_
  refine wp_lconst 10 0 d_PM_acceptFraction_9 rfl (by decide) ?_
  refine wp_lcmp 11 d_PM_acceptFraction_10 rfl ?_
  refine wp_if_le 30 14 d_PM_acceptFraction_11 rfl (by decide) (fun h11 => ?_) (fun h11 => ?_)
  · refine wp_aload_n 31 d_PM_acceptFraction_30 rfl rfl ?_
    refine wp_V0 34 M_PM_accept 1 d_PM_acceptFraction_31 rfl mv_PM_accept lk_PM_120 rfl rfl rfl rfl rfl ?_
    refine c_PM_accept ?_
    refine kI ?_
    refine wp_zreturn d_PM_acceptFraction_34 rfl (by first | rfl | exact nbP _) ?_
    rw [show frT a b TP = _ from if_neg (lc_le h11), show frB a b BT = _ from if_neg (lc_le h11)] at hq
    exact hq
  · refine wp_aload_n 15 d_PM_acceptFraction_14 rfl rfl ?_
    refine wp_lload_n 16 d_PM_acceptFraction_15 rfl rfl ?_
    refine wp_lload 18 d_PM_acceptFraction_16 rfl rfl ?_
    refine wp_ldiv 19 d_PM_acceptFraction_18 rfl (fun e => absurd h11 (by rw [e]; decide)) ?_
    refine wp_putfield 22 11 17 _ d_PM_acceptFraction_19 rfl fp_PM_100 rfl rfl (okP_long _) ?_
    refine hEq (hPM Y X T S M D E N C U W G L VL HL nK ST (a / cdF a b) BT) rfl ?_
    refine wp_aload_n 23 d_PM_acceptFraction_22 rfl rfl ?_
    refine wp_lload_n 24 d_PM_acceptFraction_23 rfl rfl ?_
    refine wp_lload 26 d_PM_acceptFraction_24 rfl rfl ?_
    refine wp_ldiv 27 d_PM_acceptFraction_26 rfl (fun e => absurd h11 (by rw [e]; decide)) ?_
    refine wp_putfield 30 11 18 _ d_PM_acceptFraction_27 rfl fp_PM_104 rfl rfl (okP_long _) ?_
    refine hEq (hPM Y X T S M D E N C U W G L VL HL nK ST (a / cdF a b) (b / cdF a b)) rfl ?_
    refine wp_aload_n 31 d_PM_acceptFraction_30 rfl rfl ?_
    refine wp_V0 34 M_PM_accept 1 d_PM_acceptFraction_31 rfl mv_PM_accept lk_PM_120 rfl rfl rfl rfl rfl ?_
    refine c_PM_accept ?_
    refine kI ?_
    refine wp_zreturn d_PM_acceptFraction_34 rfl (by first | rfl | exact nbP _) ?_
    rw [show frT a b TP = _ from if_pos (lc_gt.mp (Int32.not_le.mp h11)), show frB a b BT = _ from if_pos (lc_gt.mp (Int32.not_le.mp h11))] at hq
    exact hq

set_option maxRecDepth 100000 in
set_option maxHeartbeats 4000000 in
theorem c_PM_canBePaces {x : Int32} {h : LH} (hq : Q (some (.int (bP (isPa x)))) h) : Call Γ M_PM_canBePaces 1 0 0 [.int x] h Q := by
  refine call_intro (ls := [some (.int x)]) rfl rfl rfl ?_
  refine wp_iload_n 1 d_PM_canBePaces_0 rfl rfl ?_
  refine wp_bipush 3 (-99) d_PM_canBePaces_1 rfl (by decide) ?_
  refine wp_icmp_lt 16 6 d_PM_canBePaces_3 rfl (by decide) (fun h3 => ?_) (fun h3 => ?_)
  · refine wp_iconst 17 0 d_PM_canBePaces_16 rfl (by decide) ?_
    refine wp_zreturn d_PM_canBePaces_17 rfl (by first | rfl | exact nbP _) ?_
    exact bq0 (fun z => z.1 h3) hq
  · refine wp_iload_n 7 d_PM_canBePaces_6 rfl rfl ?_
    refine wp_bipush 9 99 d_PM_canBePaces_7 rfl (by decide) ?_
    refine wp_icmp_gt 16 12 d_PM_canBePaces_9 rfl (by decide) (fun h9 => ?_) (fun h9 => ?_)
    · refine wp_iconst 17 0 d_PM_canBePaces_16 rfl (by decide) ?_
      refine wp_zreturn d_PM_canBePaces_17 rfl (by first | rfl | exact nbP _) ?_
      exact bq0 (fun z => z.2 h9) hq
    · refine wp_iconst 13 1 d_PM_canBePaces_12 rfl (by decide) ?_
      refine wp_goto 17 d_PM_canBePaces_13 (by decide) ?_
      refine wp_zreturn d_PM_canBePaces_17 rfl (by first | rfl | exact nbP _) ?_
      exact bq1 ⟨h3, h9⟩ hq

set_option maxRecDepth 100000 in
set_option maxHeartbeats 4000000 in
theorem c_PM_twoPlaces {a b : Int32} (hq : Q (some (.int (bP (isTw T a b)))) (hPM Y X T S M D E N C U W G L VL HL nK ST TP BT)) : Call Γ M_PM_twoPlaces 2 0 0 [.ref 0, .int a, .int b] (hPM Y X T S M D E N C U W G L VL HL nK ST TP BT) Q := by
  refine call_intro (ls := [some (.ref 0), some (.int a), some (.int b)]) rfl rfl rfl ?_
  refine wp_iload_n 1 d_PM_twoPlaces_0 rfl rfl ?_
  refine wp_aload_n 2 d_PM_twoPlaces_1 rfl rfl ?_
  refine wp_getfield 5 11 2 d_PM_twoPlaces_2 rfl fl_PM_25 rfl rfl ?_
  refine wp_getfield 8 8 8 d_PM_twoPlaces_5 rfl fl_PM_203 rfl rfl ?_
  refine wp_S2 11 M_PM_within 1 d_PM_twoPlaces_8 rfl ms_PM_within lk_PM_108 rfl rfl ?_
  refine c_PM_within ?_
  refine kI ?_
  (first | refine wp_ifP_eq 37 14 d_PM_twoPlaces_11 rfl (by decide) (fun h11 => ?_) (fun h11 => ?_) | refine wp_if_eq 37 14 d_PM_twoPlaces_11 rfl (by decide) (fun h11 => ?_) (fun h11 => ?_))
  · refine wp_iconst 38 0 d_PM_twoPlaces_37 rfl (by decide) ?_
    refine wp_zreturn d_PM_twoPlaces_38 rfl (by first | rfl | exact nbP _) ?_
    exact bq0 (fun z => h11 z.1) hq
  · refine wp_iload_n 15 d_PM_twoPlaces_14 rfl rfl ?_
    refine wp_aload_n 16 d_PM_twoPlaces_15 rfl rfl ?_
    refine wp_getfield 19 11 2 d_PM_twoPlaces_16 rfl fl_PM_25 rfl rfl ?_
    refine wp_getfield 22 8 8 d_PM_twoPlaces_19 rfl fl_PM_203 rfl rfl ?_
    refine wp_S2 25 M_PM_within 1 d_PM_twoPlaces_22 rfl ms_PM_within lk_PM_108 rfl rfl ?_
    refine c_PM_within ?_
    refine kI ?_
    (first | refine wp_ifP_eq 37 28 d_PM_twoPlaces_25 rfl (by decide) (fun h25 => ?_) (fun h25 => ?_) | refine wp_if_eq 37 28 d_PM_twoPlaces_25 rfl (by decide) (fun h25 => ?_) (fun h25 => ?_))
    · refine wp_iconst 38 0 d_PM_twoPlaces_37 rfl (by decide) ?_
      refine wp_zreturn d_PM_twoPlaces_38 rfl (by first | rfl | exact nbP _) ?_
      exact bq0 (fun z => h25 z.2.1) hq
    · refine wp_iload_n 29 d_PM_twoPlaces_28 rfl rfl ?_
      refine wp_iload_n 30 d_PM_twoPlaces_29 rfl rfl ?_
      refine wp_icmp_eq 37 33 d_PM_twoPlaces_30 rfl (by decide) (fun h30 => ?_) (fun h30 => ?_)
      · refine wp_iconst 38 0 d_PM_twoPlaces_37 rfl (by decide) ?_
        refine wp_zreturn d_PM_twoPlaces_38 rfl (by first | rfl | exact nbP _) ?_
        exact bq0 (fun z => z.2.2 h30) hq
      · refine wp_iconst 34 1 d_PM_twoPlaces_33 rfl (by decide) ?_
        refine wp_goto 38 d_PM_twoPlaces_34 (by decide) ?_
        refine wp_zreturn d_PM_twoPlaces_38 rfl (by first | rfl | exact nbP _) ?_
        exact bq1 ⟨h11, h25, h30⟩ hq

set_option maxRecDepth 100000 in
set_option maxHeartbeats 4000000 in
theorem c_PM_canBeWalkers {a : Int32} (hq : Q (some (.int (bP (isWs T a)))) (hPM Y X T S M D E N C U W G L VL HL nK ST TP BT)) : Call Γ M_PM_canBeWalkers 2 0 0 [.ref 0, .int a] (hPM Y X T S M D E N C U W G L VL HL nK ST TP BT) Q := by
  refine call_intro (ls := [some (.ref 0), some (.int a)]) rfl rfl rfl ?_
  refine wp_iload_n 1 d_PM_canBeWalkers_0 rfl rfl ?_
  refine wp_iconst 2 1 d_PM_canBeWalkers_1 rfl (by decide) ?_
  refine wp_aload_n 3 d_PM_canBeWalkers_2 rfl rfl ?_
  refine wp_getfield 6 11 2 d_PM_canBeWalkers_3 rfl fl_PM_25 rfl rfl ?_
  refine wp_getfield 9 8 9 d_PM_canBeWalkers_6 rfl fl_PM_206 rfl rfl ?_
  refine wp_ishl 10 d_PM_canBeWalkers_9 rfl ?_
  refine wp_S2 13 M_PM_within 1 d_PM_canBeWalkers_10 rfl ms_PM_within lk_PM_108 rfl rfl ?_
  refine c_PM_within ?_
  refine kI ?_
  (first | refine wp_ifP_eq 28 16 d_PM_canBeWalkers_13 rfl (by decide) (fun h13 => ?_) (fun h13 => ?_) | refine wp_if_eq 28 16 d_PM_canBeWalkers_13 rfl (by decide) (fun h13 => ?_) (fun h13 => ?_))
  · refine wp_iconst 29 0 d_PM_canBeWalkers_28 rfl (by decide) ?_
    refine wp_zreturn d_PM_canBeWalkers_29 rfl (by first | rfl | exact nbP _) ?_
    exact bq0 (fun z => h13 z.1) hq
  · refine wp_iload_n 17 d_PM_canBeWalkers_16 rfl rfl ?_
    refine wp_S1 20 M_JInt_bitCount 1 d_PM_canBeWalkers_17 rfl ms_JInt_bitCount lk_PM_309 rfl rfl ?_
    refine c_JInt_bitCount ?_
    refine kI ?_
    refine wp_iconst 21 2 d_PM_canBeWalkers_20 rfl (by decide) ?_
    refine wp_icmp_gt 28 24 d_PM_canBeWalkers_21 rfl (by decide) (fun h21 => ?_) (fun h21 => ?_)
    · refine wp_iconst 29 0 d_PM_canBeWalkers_28 rfl (by decide) ?_
      refine wp_zreturn d_PM_canBeWalkers_29 rfl (by first | rfl | exact nbP _) ?_
      exact bq0 (fun z => z.2 h21) hq
    · refine wp_iconst 25 1 d_PM_canBeWalkers_24 rfl (by decide) ?_
      refine wp_goto 29 d_PM_canBeWalkers_25 (by decide) ?_
      refine wp_zreturn d_PM_canBeWalkers_29 rfl (by first | rfl | exact nbP _) ?_
      exact bq1 ⟨h13, h21⟩ hq

set_option maxRecDepth 100000 in
set_option maxHeartbeats 4000000 in
theorem c_PM_spotFault {a b : Int32} (hq : Q (some (.int (spF Y a b))) (hPM Y X T S M D E N C U W G L VL HL nK ST TP BT)) : Call Γ M_PM_spotFault 2 0 0 [.ref 0, .int a, .int b] (hPM Y X T S M D E N C U W G L VL HL nK ST TP BT) Q := by
  refine call_intro (ls := [some (.ref 0), some (.int a), some (.int b)]) rfl rfl rfl ?_
  refine wp_iload_n 1 d_PM_spotFault_0 rfl rfl ?_
  refine wp_iconst 2 4 d_PM_spotFault_1 rfl (by decide) ?_
  refine wp_S2 5 M_PM_within 1 d_PM_spotFault_2 rfl ms_PM_within lk_PM_108 rfl rfl ?_
  refine c_PM_within ?_
  refine kI ?_
  (first | refine wp_ifP_ne 10 8 d_PM_spotFault_5 rfl (by decide) (fun h5 => ?_) (fun h5 => ?_) | refine wp_if_ne 10 8 d_PM_spotFault_5 rfl (by decide) (fun h5 => ?_) (fun h5 => ?_))
  · refine wp_aload_n 11 d_PM_spotFault_10 rfl rfl ?_
    refine wp_getfield 14 11 0 d_PM_spotFault_11 rfl fl_PM_11 rfl rfl ?_
    refine wp_iload_n 15 d_PM_spotFault_14 rfl rfl ?_
    rcases inR4 h5 with rfl | rfl | rfl | rfl
    · refine wp_aaload 16 4 77 d_PM_spotFault_15 rfl rfl (fun _ => rfl) (vp_in_nI (by decide) (by decide)) rfl ?_
      refine wp_getfield 19 10 1 d_PM_spotFault_16 rfl fl_PM_140 rfl rfl ?_
      refine wp_if_ne 24 22 d_PM_spotFault_19 rfl (by decide) (fun h19 => ?_) (fun h19 => ?_)
      · refine wp_iload_n 25 d_PM_spotFault_24 rfl rfl ?_
        refine wp_aload_n 26 d_PM_spotFault_25 rfl rfl ?_
        refine wp_getfield 29 11 0 d_PM_spotFault_26 rfl fl_PM_11 rfl rfl ?_
        refine wp_iload_n 30 d_PM_spotFault_29 rfl rfl ?_
        refine wp_aaload 31 4 77 d_PM_spotFault_30 rfl rfl (fun _ => rfl) (vp_in_nI (by decide) (by decide)) rfl ?_
        refine wp_getfield 34 10 3 d_PM_spotFault_31 rfl fl_PM_423 rfl rfl ?_
        refine wp_S2 37 M_PM_within 1 d_PM_spotFault_34 rfl ms_PM_within lk_PM_108 rfl rfl ?_
        refine c_PM_within ?_
        refine kI ?_
        (first | refine wp_ifP_eq 44 40 d_PM_spotFault_37 rfl (by decide) (fun h37 => ?_) (fun h37 => ?_) | refine wp_if_eq 44 40 d_PM_spotFault_37 rfl (by decide) (fun h37 => ?_) (fun h37 => ?_))
        · refine wp_iconst 45 3 d_PM_spotFault_44 rfl (by decide) ?_
          refine wp_ireturn d_PM_spotFault_45 rfl ?_
          rw [show spF Y (nI 0) b = _ from ((if_pos h5).trans (if_neg h19)).trans (if_neg h37)] at hq
          exact hq
        · refine wp_iconst 41 0 d_PM_spotFault_40 rfl (by decide) ?_
          refine wp_goto 45 d_PM_spotFault_41 (by decide) ?_
          refine wp_ireturn d_PM_spotFault_45 rfl ?_
          rw [show spF Y (nI 0) b = _ from ((if_pos h5).trans (if_neg h19)).trans (if_pos h37)] at hq
          exact hq
      · refine wp_iconst 23 2 d_PM_spotFault_22 rfl (by decide) ?_
        refine wp_ireturn d_PM_spotFault_23 rfl ?_
        rw [show spF Y (nI 0) b = _ from (if_pos h5).trans (if_pos h19)] at hq
        exact hq
    · refine wp_aaload 16 4 79 d_PM_spotFault_15 rfl rfl (fun _ => rfl) (vp_in_nI (by decide) (by decide)) rfl ?_
      refine wp_getfield 19 10 1 d_PM_spotFault_16 rfl fl_PM_140 rfl rfl ?_
      refine wp_if_ne 24 22 d_PM_spotFault_19 rfl (by decide) (fun h19 => ?_) (fun h19 => ?_)
      · refine wp_iload_n 25 d_PM_spotFault_24 rfl rfl ?_
        refine wp_aload_n 26 d_PM_spotFault_25 rfl rfl ?_
        refine wp_getfield 29 11 0 d_PM_spotFault_26 rfl fl_PM_11 rfl rfl ?_
        refine wp_iload_n 30 d_PM_spotFault_29 rfl rfl ?_
        refine wp_aaload 31 4 79 d_PM_spotFault_30 rfl rfl (fun _ => rfl) (vp_in_nI (by decide) (by decide)) rfl ?_
        refine wp_getfield 34 10 3 d_PM_spotFault_31 rfl fl_PM_423 rfl rfl ?_
        refine wp_S2 37 M_PM_within 1 d_PM_spotFault_34 rfl ms_PM_within lk_PM_108 rfl rfl ?_
        refine c_PM_within ?_
        refine kI ?_
        (first | refine wp_ifP_eq 44 40 d_PM_spotFault_37 rfl (by decide) (fun h37 => ?_) (fun h37 => ?_) | refine wp_if_eq 44 40 d_PM_spotFault_37 rfl (by decide) (fun h37 => ?_) (fun h37 => ?_))
        · refine wp_iconst 45 3 d_PM_spotFault_44 rfl (by decide) ?_
          refine wp_ireturn d_PM_spotFault_45 rfl ?_
          rw [show spF Y (nI 1) b = _ from ((if_pos h5).trans (if_neg h19)).trans (if_neg h37)] at hq
          exact hq
        · refine wp_iconst 41 0 d_PM_spotFault_40 rfl (by decide) ?_
          refine wp_goto 45 d_PM_spotFault_41 (by decide) ?_
          refine wp_ireturn d_PM_spotFault_45 rfl ?_
          rw [show spF Y (nI 1) b = _ from ((if_pos h5).trans (if_neg h19)).trans (if_pos h37)] at hq
          exact hq
      · refine wp_iconst 23 2 d_PM_spotFault_22 rfl (by decide) ?_
        refine wp_ireturn d_PM_spotFault_23 rfl ?_
        rw [show spF Y (nI 1) b = _ from (if_pos h5).trans (if_pos h19)] at hq
        exact hq
    · refine wp_aaload 16 4 81 d_PM_spotFault_15 rfl rfl (fun _ => rfl) (vp_in_nI (by decide) (by decide)) rfl ?_
      refine wp_getfield 19 10 1 d_PM_spotFault_16 rfl fl_PM_140 rfl rfl ?_
      refine wp_if_ne 24 22 d_PM_spotFault_19 rfl (by decide) (fun h19 => ?_) (fun h19 => ?_)
      · refine wp_iload_n 25 d_PM_spotFault_24 rfl rfl ?_
        refine wp_aload_n 26 d_PM_spotFault_25 rfl rfl ?_
        refine wp_getfield 29 11 0 d_PM_spotFault_26 rfl fl_PM_11 rfl rfl ?_
        refine wp_iload_n 30 d_PM_spotFault_29 rfl rfl ?_
        refine wp_aaload 31 4 81 d_PM_spotFault_30 rfl rfl (fun _ => rfl) (vp_in_nI (by decide) (by decide)) rfl ?_
        refine wp_getfield 34 10 3 d_PM_spotFault_31 rfl fl_PM_423 rfl rfl ?_
        refine wp_S2 37 M_PM_within 1 d_PM_spotFault_34 rfl ms_PM_within lk_PM_108 rfl rfl ?_
        refine c_PM_within ?_
        refine kI ?_
        (first | refine wp_ifP_eq 44 40 d_PM_spotFault_37 rfl (by decide) (fun h37 => ?_) (fun h37 => ?_) | refine wp_if_eq 44 40 d_PM_spotFault_37 rfl (by decide) (fun h37 => ?_) (fun h37 => ?_))
        · refine wp_iconst 45 3 d_PM_spotFault_44 rfl (by decide) ?_
          refine wp_ireturn d_PM_spotFault_45 rfl ?_
          rw [show spF Y (nI 2) b = _ from ((if_pos h5).trans (if_neg h19)).trans (if_neg h37)] at hq
          exact hq
        · refine wp_iconst 41 0 d_PM_spotFault_40 rfl (by decide) ?_
          refine wp_goto 45 d_PM_spotFault_41 (by decide) ?_
          refine wp_ireturn d_PM_spotFault_45 rfl ?_
          rw [show spF Y (nI 2) b = _ from ((if_pos h5).trans (if_neg h19)).trans (if_pos h37)] at hq
          exact hq
      · refine wp_iconst 23 2 d_PM_spotFault_22 rfl (by decide) ?_
        refine wp_ireturn d_PM_spotFault_23 rfl ?_
        rw [show spF Y (nI 2) b = _ from (if_pos h5).trans (if_pos h19)] at hq
        exact hq
    · refine wp_aaload 16 4 83 d_PM_spotFault_15 rfl rfl (fun _ => rfl) (vp_in_nI (by decide) (by decide)) rfl ?_
      refine wp_getfield 19 10 1 d_PM_spotFault_16 rfl fl_PM_140 rfl rfl ?_
      refine wp_if_ne 24 22 d_PM_spotFault_19 rfl (by decide) (fun h19 => ?_) (fun h19 => ?_)
      · refine wp_iload_n 25 d_PM_spotFault_24 rfl rfl ?_
        refine wp_aload_n 26 d_PM_spotFault_25 rfl rfl ?_
        refine wp_getfield 29 11 0 d_PM_spotFault_26 rfl fl_PM_11 rfl rfl ?_
        refine wp_iload_n 30 d_PM_spotFault_29 rfl rfl ?_
        refine wp_aaload 31 4 83 d_PM_spotFault_30 rfl rfl (fun _ => rfl) (vp_in_nI (by decide) (by decide)) rfl ?_
        refine wp_getfield 34 10 3 d_PM_spotFault_31 rfl fl_PM_423 rfl rfl ?_
        refine wp_S2 37 M_PM_within 1 d_PM_spotFault_34 rfl ms_PM_within lk_PM_108 rfl rfl ?_
        refine c_PM_within ?_
        refine kI ?_
        (first | refine wp_ifP_eq 44 40 d_PM_spotFault_37 rfl (by decide) (fun h37 => ?_) (fun h37 => ?_) | refine wp_if_eq 44 40 d_PM_spotFault_37 rfl (by decide) (fun h37 => ?_) (fun h37 => ?_))
        · refine wp_iconst 45 3 d_PM_spotFault_44 rfl (by decide) ?_
          refine wp_ireturn d_PM_spotFault_45 rfl ?_
          rw [show spF Y (nI 3) b = _ from ((if_pos h5).trans (if_neg h19)).trans (if_neg h37)] at hq
          exact hq
        · refine wp_iconst 41 0 d_PM_spotFault_40 rfl (by decide) ?_
          refine wp_goto 45 d_PM_spotFault_41 (by decide) ?_
          refine wp_ireturn d_PM_spotFault_45 rfl ?_
          rw [show spF Y (nI 3) b = _ from ((if_pos h5).trans (if_neg h19)).trans (if_pos h37)] at hq
          exact hq
      · refine wp_iconst 23 2 d_PM_spotFault_22 rfl (by decide) ?_
        refine wp_ireturn d_PM_spotFault_23 rfl ?_
        rw [show spF Y (nI 3) b = _ from (if_pos h5).trans (if_pos h19)] at hq
        exact hq
  · refine wp_iconst 9 1 d_PM_spotFault_8 rfl (by decide) ?_
    refine wp_ireturn d_PM_spotFault_9 rfl ?_
    rw [show spF Y a b = _ from if_neg h5] at hq
    exact hq

theorem ne64 {i : Nat} (h : 0 < i) (h2 : i < 2 ^ 31) : ¬ (nI i).toInt64 = 0 := by
  intro e
  have h3 := congrArg Int64.toInt e
  rw [Int32.toInt_toInt64, nI_toInt h2] at h3
  have h4 : ((0 : Int64).toInt) = 0 := rfl
  omega
set_option maxRecDepth 100000 in
set_option maxHeartbeats 4000000 in
theorem l_PM_choose_5 {n : Int32} {m : Nat} {h : LH} (hm : m < 1000) : ∀ (r i : Nat) (w : Int64), i + r = m + 1 → (0 < i ∧ Q (some (.long (iterN (chW n (nI m)) r i w))) h) → WP Γ M_PM_choose 1 0 0 h 5 [some (.int n), some (.int (nI m)), some (.long w), none, some (.int (nI i))] [] Q := by
  intro r
  induction r with
  | zero =>
    intro i w hi hinv
    obtain ⟨h0, hq⟩ := hinv
    refine wp_iload 7 d_PM_choose_5 rfl rfl ?_
    refine wp_iload_n 8 d_PM_choose_7 rfl rfl ?_
    refine wp_icmp_gt 31 11 d_PM_choose_8 rfl (by decide) (fun h8 => ?_) (fun h8 => ?_)
    · refine wp_lload_n 32 d_PM_choose_31 rfl rfl ?_
      refine wp_lreturn d_PM_choose_32 rfl ?_
      exact hq
    · exact absurd ((nI_ltI (a := m) (by omega) (by omega)).mpr (by omega)) h8
  | succ r ih =>
    intro i w hi hinv
    obtain ⟨h0, hq⟩ := hinv
    refine wp_iload 7 d_PM_choose_5 rfl rfl ?_
    refine wp_iload_n 8 d_PM_choose_7 rfl rfl ?_
    refine wp_icmp_gt 31 11 d_PM_choose_8 rfl (by decide) (fun h8 => ?_) (fun h8 => ?_)
    · exact absurd (nI_ltN (a := m) h8 (by omega) (by omega)) (by omega)
    · refine wp_lload_n 12 d_PM_choose_11 rfl rfl ?_
      refine wp_iload_n 13 d_PM_choose_12 rfl rfl ?_
      refine wp_iload_n 14 d_PM_choose_13 rfl rfl ?_
      refine wp_isub 15 d_PM_choose_14 rfl ?_
      refine wp_iload 17 d_PM_choose_15 rfl rfl ?_
      refine wp_iadd 18 d_PM_choose_17 rfl ?_
      refine wp_i2l 19 d_PM_choose_18 rfl ?_
      refine wp_lmul 20 d_PM_choose_19 rfl ?_
      refine wp_iload 22 d_PM_choose_20 rfl rfl ?_
      refine wp_i2l 23 d_PM_choose_22 rfl ?_
      refine wp_ldiv 24 d_PM_choose_23 rfl (fun e => absurd e (ne64 (by omega) (by omega))) ?_
      refine wp_lstore_2 25 d_PM_choose_24 rfl rfl rfl ?_
      first | refine wp_iincN_4 28 d_PM_choose_25 rfl rfl rfl ?_ | refine wp_iinc_4 28 1 d_PM_choose_25 rfl (by decide) rfl rfl ?_
      refine wp_goto 5 d_PM_choose_28 (by decide) ?_
      exact ih (i + 1) _ (by omega) ⟨by omega, hq⟩

set_option maxRecDepth 100000 in
set_option maxHeartbeats 4000000 in
theorem c_PM_choose {n : Int32} {m : Nat} {h : LH} (hm : m < 1000) (hq : Q (some (.long (chF n (nI m) m))) h) : Call Γ M_PM_choose 1 0 0 [.int n, .int (nI m)] h Q := by
  refine call_intro (ls := [some (.int n), some (.int (nI m)), none, none, none]) rfl rfl rfl ?_
  refine wp_lconst 1 1 d_PM_choose_0 rfl (by decide) ?_
  refine wp_lstore_2 2 d_PM_choose_1 rfl rfl rfl ?_
  refine wp_iconst 3 1 d_PM_choose_2 rfl (by decide) ?_
  refine wp_istore_4 5 d_PM_choose_3 rfl rfl rfl ?_
  exact l_PM_choose_5 hm m 1 1 (by omega) ⟨by omega, hq⟩

set_option maxRecDepth 100000 in
set_option maxHeartbeats 4000000 in
theorem l_PM_power_5 {n : Int32} {m : Nat} {h : LH} (hm : m < 1000) : ∀ (r i : Nat) (w : Int64), i + r = m → Q (some (.long (iterN (fun _ w => w * n.toInt64) r i w))) h → WP Γ M_PM_power 1 0 0 h 5 [some (.int n), some (.int (nI m)), some (.long w), none, some (.int (nI i))] [] Q := by
  intro r
  induction r with
  | zero =>
    intro i w hi hinv
    have hq := hinv
    refine wp_iload 7 d_PM_power_5 rfl rfl ?_
    refine wp_iload_n 8 d_PM_power_7 rfl rfl ?_
    refine wp_icmp_ge 22 11 d_PM_power_8 rfl (by decide) (fun h8 => ?_) (fun h8 => ?_)
    · refine wp_lload_n 23 d_PM_power_22 rfl rfl ?_
      refine wp_lreturn d_PM_power_23 rfl ?_
      exact hq
    · exact absurd ((nI_leI (a := m) (by omega) (by omega)).mpr (by omega)) h8
  | succ r ih =>
    intro i w hi hinv
    have hq := hinv
    refine wp_iload 7 d_PM_power_5 rfl rfl ?_
    refine wp_iload_n 8 d_PM_power_7 rfl rfl ?_
    refine wp_icmp_ge 22 11 d_PM_power_8 rfl (by decide) (fun h8 => ?_) (fun h8 => ?_)
    · exact absurd (nI_leN (b := m) h8 (by omega) (by omega)) (by omega)
    · refine wp_lload_n 12 d_PM_power_11 rfl rfl ?_
      refine wp_iload_n 13 d_PM_power_12 rfl rfl ?_
      refine wp_i2l 14 d_PM_power_13 rfl ?_
      refine wp_lmul 15 d_PM_power_14 rfl ?_
      refine wp_lstore_2 16 d_PM_power_15 rfl rfl rfl ?_
      first | refine wp_iincN_4 19 d_PM_power_16 rfl rfl rfl ?_ | refine wp_iinc_4 19 1 d_PM_power_16 rfl (by decide) rfl rfl ?_
      refine wp_goto 5 d_PM_power_19 (by decide) ?_
      exact ih (i + 1) _ (by omega) hq

set_option maxRecDepth 100000 in
set_option maxHeartbeats 4000000 in
theorem c_PM_power {n : Int32} {m : Nat} {h : LH} (hm : m < 1000) (hq : Q (some (.long (pwF n m))) h) : Call Γ M_PM_power 1 0 0 [.int n, .int (nI m)] h Q := by
  refine call_intro (ls := [some (.int n), some (.int (nI m)), none, none, none]) rfl rfl rfl ?_
  refine wp_lconst 1 1 d_PM_power_0 rfl (by decide) ?_
  refine wp_lstore_2 2 d_PM_power_1 rfl rfl rfl ?_
  refine wp_iconst 3 0 d_PM_power_2 rfl (by decide) ?_
  refine wp_istore_4 5 d_PM_power_3 rfl rfl rfl ?_
  exact l_PM_power_5 hm m 0 1 (by omega) hq

end T52
