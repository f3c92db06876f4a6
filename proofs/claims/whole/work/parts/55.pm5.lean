/-! ===== the class: doubts, ways, games ===== -/
def ouF (T : TW) : Int32 × Int32 := if (tOut T).2 = -1 then (6, -1) else (0, bcR (tOut T).2)
def osF (T : TW) : Int32 × Int32 := if (tOut T).2 = -1 then (6, -1) else (0, (tOut T).2)
def tWs (T : TW) (U : UT) (s : Int32) : FS := tFi T s (uFs U)
def ftF (T : TW) (U : UT) (s : Int32) : Int32 × Int32 := if isWs T s then (0, nI (tWs T U s).2.2.1) else (1, -1)
def ffF (T : TW) (U : UT) (s w : Int32) : Int32 × Int32 := if isWs T s ∧ inR w (nI T.nW) then (if nI (tWs T U s).2.2.1 = 0 then (6, -1) else if hs s w then (0, if w = (tPk T s).1 then (tWs T U s).2.2.2.2.1 else (tWs T U s).2.2.2.2.2) else (7, -1)) else (1, -1)
def odS (T : TW) (U : UT) (s w f : Int32) : Int32 := if isWs T s ∧ inR w (nI T.nW) ∧ inR f 24 then (if nI (tWs T U s).2.2.1 = 0 then 6 else if hs s w then 0 else 7) else 1
def odA (T : TW) (U : UT) (s w f : Int32) : Int64 := (if w = (tPk T s).1 then (tWs T U s).1 f.toNatClampNeg else (tWs T U s).2.1 f.toNatClampNeg).toInt64
def odB (T : TW) (U : UT) (s : Int32) : Int64 := (nI (tWs T U s).2.2.1).toInt64
def akB (T : TW) (u : UT) (n : Nat) : BPr := bpF u.usp u.cpo n T.nP (577, u.uaf, u.uas, u.uco, u.uke)
def akF (T : TW) (U u : UT) (s k : Int32) : Int32 × Int32 := if isWs T s ∧ inR k 2 then (if nI (tWs T U s).2.2.1 < 2 ∨ ¬ (akB T u (tWs T U s).2.2.1).1 ≤ 576 then (6, -1) else (0, if k = 0 then (akB T u (tWs T U s).2.2.1).2.1 else (akB T u (tWs T U s).2.2.1).2.2.1)) else (1, -1)
def wyF (T : TW) (W : WT) (a b : Int32) : Int32 × Int32 := if isTw T a b then (if (tWy T a b W).2.2.1 = -1 then (6, -1) else (0, (tWy T a b W).2.2.1)) else (1, -1)
def wkF (T : TW) (W : WT) (a b k : Int32) : Int32 × Int32 := if isTw T a b ∧ ¬ k < 0 then (if (tWy T a b W).2.2.1 = -1 ∨ (tWy T a b W).2.2.2 ≤ k then (6, -1) else (0, (tWy T a b W).2.1 k.toNatClampNeg)) else (1, -1)
def gmR (g : GT) (T : TW) : Int32 × (Nat → Int32) := woR T.nL g.gen g.gan g.gtu 4 g.gst 0 g.gta
def gaF (T : TW) (G : GT) (n : Int32) : Int32 × Int32 := if inR n 5 then (0, (gmR (tGs G T n) T).1) else (1, -1)
def mvR (g : GT) (T : TW) : Int32 × (Nat → Int32) := fbL T.nL g.gen g.gan g.gtu g.gst (gmR g T).1 T.nL 0 (gmR g T).2
def mvF (T : TW) (G : GT) (n : Int32) : Int32 × Int32 := if ¬ n = 0 ∧ inR n 5 then (if (mvR (tGs G T n) T).1 = -1 then (6, -1) else (0, (mvR (tGs G T n) T).1)) else (1, -1)
theorem bit_12 : ∀ n, n ≤ 12 → ¬ (bit (nI n) - 1) < 0 ∧ (bit (nI n) - 1).toNatClampNeg < 4096 := by decide +kernel
theorem tTh_in {T : TW} (I : tOK T) : vp_in (tTh T) 4096 := and_in (th := bit (nI T.nL) - 1) (fun z => by
  have h := bit_12 T.nL I.hL
  rcases z with z | z
  · exact h.1 z
  · exact absurd z (by omega))
section T55
variable {Γ : Gm} {Q : Option Value → LH → Prop} {Y : Nat → YT} {X : XT} {T S : TW} {M : Nat → TW} {D E : DW} {N : Nat → DW} {C : CH} {U : UT} {W : WT} {G : GT} {L : LT} {VL : Nat → Int32} {HL ST : Int32} {nK : Nat} {TP BT : Int64}
set_option maxRecDepth 100000 in
set_option maxHeartbeats 4000000 in
theorem c_PM_out (I : tOK T) (SO_ : SO C U W L) (hq : ∀ C U W G L, SO C U W L → Q (some (.int (ouF T).2)) (hPM Y X T S M D E N C U W G L VL HL nK ((ouF T).1) TP BT)) : Call Γ M_PM_out 6 0 0 [.ref 0] (hPM Y X T S M D E N C U W G L VL HL nK ST TP BT) Q := by
  refine call_intro (ls := [some (.ref 0)]) rfl rfl rfl ?_
  refine wp_aload_n 1 d_PM_out_0 rfl rfl ?_
  refine wp_getfield 4 11 9 d_PM_out_1 rfl fl_PM_60 rfl rfl ?_
  refine wp_aload_n 5 d_PM_out_4 rfl rfl ?_
  refine wp_getfield 8 11 2 d_PM_out_5 rfl fl_PM_25 rfl rfl ?_
  refine ws_V1 (v1' := .ref 14) (b' := 0) 11 M_Doubts_findOut 5 [44, 45, 46, 47, 48, 49, 50, 51, 52, 53, 54, 55, 56, 57, 8, 9, 10, 11, 12, 13, 14, 15, 16] ((hUTr U T)) d_PM_out_8 rfl mv_Doubts_findOut lk_PM_324 rfl rfl rfl rfl rfl rfl rfl rfl rfl ?_
  refine c_findOutA I SO_.2.1 (fun u2 hu2 e2 => ?_)
  refine sV ?_
  simp only [putH, rC, sg, eV, List.map_cons, List.map_nil, List.set_cons_zero, List.set_cons_succ, List.length_cons, List.length_nil, List.getD_cons_zero, List.getD_cons_succ, Nat.zero_add, Nat.reduceAdd, Nat.reduceLT, if_true, ite_true]
  refine hEq (hPM Y X T S M D E N C (u2) W G L VL HL nK ST TP BT) rfl ?_
  refine wp_aload_n 12 d_PM_out_11 rfl rfl ?_
  refine wp_getfield 15 11 9 d_PM_out_12 rfl fl_PM_60 rfl rfl ?_
  refine wp_getfield 18 3 6 d_PM_out_15 rfl fl_PM_327 rfl rfl ?_
  refine wp_iconst 19 (-1) d_PM_out_18 rfl (by decide) ?_
  refine wp_icmp_ne 31 22 d_PM_out_19 rfl (by decide) (fun h19 => ?_) (fun h19 => ?_)
  · refine wp_aload_n 32 d_PM_out_31 rfl rfl ?_
    refine wp_aload_n 33 d_PM_out_32 rfl rfl ?_
    refine wp_getfield 36 11 9 d_PM_out_33 rfl fl_PM_60 rfl rfl ?_
    refine wp_getfield 39 3 6 d_PM_out_36 rfl fl_PM_327 rfl rfl ?_
    refine wp_S1 42 M_JInt_bitCount 1 d_PM_out_39 rfl ms_JInt_bitCount lk_PM_309 rfl rfl ?_
    refine c_JInt_bitCount ?_
    refine kI ?_
    refine wp_V1 45 M_PM_answer 1 d_PM_out_42 rfl mv_PM_answer lk_PM_182 rfl rfl rfl rfl rfl ?_
    refine c_PM_answer ?_
    refine kI ?_
    refine wp_ireturn d_PM_out_45 rfl ?_
    rw [e2] at h19
    rw [e2]
    have e : ouF T = _ := (if_neg h19)
    rw [e] at hq
    exact hq _ _ _ _ _ ⟨SO_.1, hu2, SO_.2.2⟩
  · refine wp_aload_n 23 d_PM_out_22 rfl rfl ?_
    refine wp_bipush 25 6 d_PM_out_23 rfl (by decide) ?_
    refine wp_V1 28 M_PM_fail 1 d_PM_out_25 rfl mv_PM_fail lk_PM_132 rfl rfl rfl rfl rfl ?_
    refine c_PM_fail ?_
    refine kI ?_
    refine wp_goto 45 d_PM_out_28 (by decide) ?_
    refine wp_ireturn d_PM_out_45 rfl ?_
    rw [e2] at h19
    have e : ouF T = _ := (if_pos h19)
    rw [e] at hq
    exact hq _ _ _ _ _ ⟨SO_.1, hu2, SO_.2.2⟩

set_option maxRecDepth 100000 in
set_option maxHeartbeats 4000000 in
theorem c_PM_outSet (I : tOK T) (SO_ : SO C U W L) (hq : ∀ C U W G L, SO C U W L → Q (some (.int (osF T).2)) (hPM Y X T S M D E N C U W G L VL HL nK ((osF T).1) TP BT)) : Call Γ M_PM_outSet 6 0 0 [.ref 0] (hPM Y X T S M D E N C U W G L VL HL nK ST TP BT) Q := by
  refine call_intro (ls := [some (.ref 0)]) rfl rfl rfl ?_
  refine wp_aload_n 1 d_PM_outSet_0 rfl rfl ?_
  refine wp_getfield 4 11 9 d_PM_outSet_1 rfl fl_PM_60 rfl rfl ?_
  refine wp_aload_n 5 d_PM_outSet_4 rfl rfl ?_
  refine wp_getfield 8 11 2 d_PM_outSet_5 rfl fl_PM_25 rfl rfl ?_
  refine ws_V1 (v1' := .ref 14) (b' := 0) 11 M_Doubts_findOut 5 [44, 45, 46, 47, 48, 49, 50, 51, 52, 53, 54, 55, 56, 57, 8, 9, 10, 11, 12, 13, 14, 15, 16] ((hUTr U T)) d_PM_outSet_8 rfl mv_Doubts_findOut lk_PM_324 rfl rfl rfl rfl rfl rfl rfl rfl rfl ?_
  refine c_findOutA I SO_.2.1 (fun u2 hu2 e2 => ?_)
  refine sV ?_
  simp only [putH, rC, sg, eV, List.map_cons, List.map_nil, List.set_cons_zero, List.set_cons_succ, List.length_cons, List.length_nil, List.getD_cons_zero, List.getD_cons_succ, Nat.zero_add, Nat.reduceAdd, Nat.reduceLT, if_true, ite_true]
  refine hEq (hPM Y X T S M D E N C (u2) W G L VL HL nK ST TP BT) rfl ?_
  refine wp_aload_n 12 d_PM_outSet_11 rfl rfl ?_
  refine wp_getfield 15 11 9 d_PM_outSet_12 rfl fl_PM_60 rfl rfl ?_
  refine wp_getfield 18 3 6 d_PM_outSet_15 rfl fl_PM_327 rfl rfl ?_
  refine wp_iconst 19 (-1) d_PM_outSet_18 rfl (by decide) ?_
  refine wp_icmp_ne 31 22 d_PM_outSet_19 rfl (by decide) (fun h19 => ?_) (fun h19 => ?_)
  · refine wp_aload_n 32 d_PM_outSet_31 rfl rfl ?_
    refine wp_aload_n 33 d_PM_outSet_32 rfl rfl ?_
    refine wp_getfield 36 11 9 d_PM_outSet_33 rfl fl_PM_60 rfl rfl ?_
    refine wp_getfield 39 3 6 d_PM_outSet_36 rfl fl_PM_327 rfl rfl ?_
    refine wp_V1 42 M_PM_answer 1 d_PM_outSet_39 rfl mv_PM_answer lk_PM_182 rfl rfl rfl rfl rfl ?_
    refine c_PM_answer ?_
    refine kI ?_
    refine wp_ireturn d_PM_outSet_42 rfl ?_
    rw [e2] at h19
    rw [e2]
    have e : osF T = _ := (if_neg h19)
    rw [e] at hq
    exact hq _ _ _ _ _ ⟨SO_.1, hu2, SO_.2.2⟩
  · refine wp_aload_n 23 d_PM_outSet_22 rfl rfl ?_
    refine wp_bipush 25 6 d_PM_outSet_23 rfl (by decide) ?_
    refine wp_V1 28 M_PM_fail 1 d_PM_outSet_25 rfl mv_PM_fail lk_PM_132 rfl rfl rfl rfl rfl ?_
    refine c_PM_fail ?_
    refine kI ?_
    refine wp_goto 42 d_PM_outSet_28 (by decide) ?_
    refine wp_ireturn d_PM_outSet_42 rfl ?_
    rw [e2] at h19
    have e : osF T = _ := (if_pos h19)
    rw [e] at hq
    exact hq _ _ _ _ _ ⟨SO_.1, hu2, SO_.2.2⟩

set_option maxRecDepth 100000 in
set_option maxHeartbeats 4000000 in
theorem c_PM_fits {s : Int32} (I : tOK T) (SO_ : SO C U W L) (U0 : UT) (e0 : U0 = U) (hq : ∀ C U W G L, SO C U W L → Q (some (.int (ftF T U0 s).2)) (hPM Y X T S M D E N C U W G L VL HL nK ((ftF T U0 s).1) TP BT)) : Call Γ M_PM_fits 6 0 0 [.ref 0, .int s] (hPM Y X T S M D E N C U W G L VL HL nK ST TP BT) Q := by
  subst e0
  refine call_intro (ls := [some (.ref 0), some (.int s)]) rfl rfl rfl ?_
  refine wp_aload_n 1 d_PM_fits_0 rfl rfl ?_
  refine wp_iload_n 2 d_PM_fits_1 rfl rfl ?_
  refine wp_V1 5 M_PM_canBeWalkers 2 d_PM_fits_2 rfl mv_PM_canBeWalkers lk_PM_330 rfl rfl rfl rfl rfl ?_
  refine c_PM_canBeWalkers ?_
  refine kI ?_
  (first | refine wp_ifP_ne 14 8 d_PM_fits_5 rfl (by decide) (fun h5 => ?_) (fun h5 => ?_) | refine wp_if_ne 14 8 d_PM_fits_5 rfl (by decide) (fun h5 => ?_) (fun h5 => ?_))
  · refine wp_aload_n 15 d_PM_fits_14 rfl rfl ?_
    refine wp_getfield 18 11 9 d_PM_fits_15 rfl fl_PM_60 rfl rfl ?_
    refine wp_aload_n 19 d_PM_fits_18 rfl rfl ?_
    refine wp_getfield 22 11 2 d_PM_fits_19 rfl fl_PM_25 rfl rfl ?_
    refine wp_iload_n 23 d_PM_fits_22 rfl rfl ?_
    refine ws_V2 (v1' := .ref 14) (b' := 0) 26 M_Doubts_findFits 5 [44, 45, 46, 47, 48, 49, 50, 51, 52, 53, 54, 55, 56, 57, 8, 9, 10, 11, 12, 13, 14, 15, 16] ((hUTr U0 T)) d_PM_fits_23 rfl mv_Doubts_findFits lk_PM_333 rfl rfl rfl rfl rfl rfl rfl rfl (eV_int _ _) rfl ?_
    refine c_findFitsA I SO_.2.1 (fun u2 hu2 hF => ?_)
    obtain ⟨f1, f2, f3, f4_, f5, f6, f7, f8, f9⟩ := hF
    refine sV ?_
    simp only [putH, rC, sg, eV, List.map_cons, List.map_nil, List.set_cons_zero, List.set_cons_succ, List.length_cons, List.length_nil, List.getD_cons_zero, List.getD_cons_succ, Nat.zero_add, Nat.reduceAdd, Nat.reduceLT, if_true, ite_true]
    refine hEq (hPM Y X T S M D E N C (u2) W G L VL HL nK ST TP BT) rfl ?_
    refine wp_aload_n 27 d_PM_fits_26 rfl rfl ?_
    refine wp_aload_n 28 d_PM_fits_27 rfl rfl ?_
    refine wp_getfield 31 11 9 d_PM_fits_28 rfl fl_PM_60 rfl rfl ?_
    refine wp_getfield 34 3 9 d_PM_fits_31 rfl fl_PM_336 rfl rfl ?_
    refine wp_V1 37 M_PM_answer 1 d_PM_fits_34 rfl mv_PM_answer lk_PM_182 rfl rfl rfl rfl rfl ?_
    refine c_PM_answer ?_
    refine kI ?_
    refine wp_ireturn d_PM_fits_37 rfl ?_
    rw [f6]
    have e : ftF T U0 s = _ := (if_pos h5)
    rw [e] at hq
    exact hq _ _ _ _ _ ⟨SO_.1, hu2, SO_.2.2⟩
  · refine wp_aload_n 9 d_PM_fits_8 rfl rfl ?_
    refine wp_iconst 10 1 d_PM_fits_9 rfl (by decide) ?_
    refine wp_V1 13 M_PM_fail 1 d_PM_fits_10 rfl mv_PM_fail lk_PM_132 rfl rfl rfl rfl rfl ?_
    refine c_PM_fail ?_
    refine kI ?_
    refine wp_ireturn d_PM_fits_13 rfl ?_
    have e : ftF T U0 s = _ := (if_neg h5)
    rw [e] at hq
    exact hq _ _ _ _ _ SO_

set_option maxRecDepth 100000 in
set_option maxHeartbeats 4000000 in
theorem c_PM_firstFault {s w : Int32} (I : tOK T) (SO_ : SO C U W L) (U0 : UT) (e0 : U0 = U) (hq : ∀ C U W G L, SO C U W L → Q (some (.int (ffF T U0 s w).2)) (hPM Y X T S M D E N C U W G L VL HL nK ((ffF T U0 s w).1) TP BT)) : Call Γ M_PM_firstFault 6 0 0 [.ref 0, .int s, .int w] (hPM Y X T S M D E N C U W G L VL HL nK ST TP BT) Q := by
  subst e0
  refine call_intro (ls := [some (.ref 0), some (.int s), some (.int w)]) rfl rfl rfl ?_
  refine wp_aload_n 1 d_PM_firstFault_0 rfl rfl ?_
  refine wp_iload_n 2 d_PM_firstFault_1 rfl rfl ?_
  refine wp_V1 5 M_PM_canBeWalkers 2 d_PM_firstFault_2 rfl mv_PM_canBeWalkers lk_PM_330 rfl rfl rfl rfl rfl ?_
  refine c_PM_canBeWalkers ?_
  refine kI ?_
  (first | refine wp_ifP_eq 22 8 d_PM_firstFault_5 rfl (by decide) (fun h5 => ?_) (fun h5 => ?_) | refine wp_if_eq 22 8 d_PM_firstFault_5 rfl (by decide) (fun h5 => ?_) (fun h5 => ?_))
  · refine wp_aload_n 23 d_PM_firstFault_22 rfl rfl ?_
    refine wp_iconst 24 1 d_PM_firstFault_23 rfl (by decide) ?_
    refine wp_V1 27 M_PM_fail 1 d_PM_firstFault_24 rfl mv_PM_fail lk_PM_132 rfl rfl rfl rfl rfl ?_
    refine c_PM_fail ?_
    refine kI ?_
    refine wp_ireturn d_PM_firstFault_27 rfl ?_
    have e : ffF T U0 s w = _ := (if_neg (fun z => h5 z.1))
    rw [e] at hq
    exact hq _ _ _ _ _ SO_
  · refine wp_iload_n 9 d_PM_firstFault_8 rfl rfl ?_
    refine wp_aload_n 10 d_PM_firstFault_9 rfl rfl ?_
    refine wp_getfield 13 11 2 d_PM_firstFault_10 rfl fl_PM_25 rfl rfl ?_
    refine wp_getfield 16 8 9 d_PM_firstFault_13 rfl fl_PM_206 rfl rfl ?_
    refine wp_S2 19 M_PM_within 1 d_PM_firstFault_16 rfl ms_PM_within lk_PM_108 rfl rfl ?_
    refine c_PM_within ?_
    refine kI ?_
    (first | refine wp_ifP_ne 28 22 d_PM_firstFault_19 rfl (by decide) (fun h19 => ?_) (fun h19 => ?_) | refine wp_if_ne 28 22 d_PM_firstFault_19 rfl (by decide) (fun h19 => ?_) (fun h19 => ?_))
    · refine wp_aload_n 29 d_PM_firstFault_28 rfl rfl ?_
      refine wp_getfield 32 11 9 d_PM_firstFault_29 rfl fl_PM_60 rfl rfl ?_
      refine wp_aload_n 33 d_PM_firstFault_32 rfl rfl ?_
      refine wp_getfield 36 11 2 d_PM_firstFault_33 rfl fl_PM_25 rfl rfl ?_
      refine wp_iload_n 37 d_PM_firstFault_36 rfl rfl ?_
      refine ws_V2 (v1' := .ref 14) (b' := 0) 40 M_Doubts_findFits 5 [44, 45, 46, 47, 48, 49, 50, 51, 52, 53, 54, 55, 56, 57, 8, 9, 10, 11, 12, 13, 14, 15, 16] ((hUTr U0 T)) d_PM_firstFault_37 rfl mv_Doubts_findFits lk_PM_333 rfl rfl rfl rfl rfl rfl rfl rfl (eV_int _ _) rfl ?_
      refine c_findFitsA I SO_.2.1 (fun u2 hu2 hF => ?_)
      obtain ⟨f1, f2, f3, f4_, f5, f6, f7, f8, f9⟩ := hF
      refine sV ?_
      simp only [putH, rC, sg, eV, List.map_cons, List.map_nil, List.set_cons_zero, List.set_cons_succ, List.length_cons, List.length_nil, List.getD_cons_zero, List.getD_cons_succ, Nat.zero_add, Nat.reduceAdd, Nat.reduceLT, if_true, ite_true]
      refine hEq (hPM Y X T S M D E N C (u2) W G L VL HL nK ST TP BT) rfl ?_
      refine wp_aload_n 41 d_PM_firstFault_40 rfl rfl ?_
      refine wp_getfield 44 11 9 d_PM_firstFault_41 rfl fl_PM_60 rfl rfl ?_
      refine wp_getfield 47 3 9 d_PM_firstFault_44 rfl fl_PM_336 rfl rfl ?_
      refine wp_if_ne 57 50 d_PM_firstFault_47 rfl (by decide) (fun h47 => ?_) (fun h47 => ?_)
      · refine wp_iload_n 58 d_PM_firstFault_57 rfl rfl ?_
        refine wp_iload_n 59 d_PM_firstFault_58 rfl rfl ?_
        refine wp_S2 62 M_PM_has 1 d_PM_firstFault_59 rfl ms_PM_has lk_PM_339 rfl rfl ?_
        refine c_PM_has ?_
        refine kI ?_
        (first | refine wp_ifP_ne 72 65 d_PM_firstFault_62 rfl (by decide) (fun h62 => ?_) (fun h62 => ?_) | refine wp_if_ne 72 65 d_PM_firstFault_62 rfl (by decide) (fun h62 => ?_) (fun h62 => ?_))
        · refine wp_aload_n 73 d_PM_firstFault_72 rfl rfl ?_
          refine wp_aload_n 74 d_PM_firstFault_73 rfl rfl ?_
          refine wp_getfield 77 11 9 d_PM_firstFault_74 rfl fl_PM_60 rfl rfl ?_
          refine wp_iload_n 78 d_PM_firstFault_77 rfl rfl ?_
          refine ws_V1 (b' := 0) 81 M_Doubts_firstOf 1 [44, 45, 46, 47, 48, 49, 50, 51, 52, 53, 54, 55, 56, 57] ((hUr u2)) d_PM_firstFault_78 rfl mv_Doubts_firstOf lk_PM_342 rfl rfl rfl rfl rfl rfl rfl (eV_int _ _) rfl ?_
          refine c_Doubts_firstOf ?_
          refine sIr rfl rfl ?_
          refine wp_V1 84 M_PM_answer 1 d_PM_firstFault_81 rfl mv_PM_answer lk_PM_182 rfl rfl rfl rfl rfl ?_
          refine c_PM_answer ?_
          refine kI ?_
          refine wp_ireturn d_PM_firstFault_84 rfl ?_
          rw [f6] at h47
          rw [f4_, f7, f8]
          have e : ffF T U0 s w = _ := (((if_pos ⟨h5, h19⟩).trans (if_neg h47)).trans (if_pos h62))
          rw [e] at hq
          exact hq _ _ _ _ _ ⟨SO_.1, hu2, SO_.2.2⟩
        · refine wp_aload_n 66 d_PM_firstFault_65 rfl rfl ?_
          refine wp_bipush 68 7 d_PM_firstFault_66 rfl (by decide) ?_
          refine wp_V1 71 M_PM_fail 1 d_PM_firstFault_68 rfl mv_PM_fail lk_PM_132 rfl rfl rfl rfl rfl ?_
          refine c_PM_fail ?_
          refine kI ?_
          refine wp_ireturn d_PM_firstFault_71 rfl ?_
          rw [f6] at h47
          have e : ffF T U0 s w = _ := (((if_pos ⟨h5, h19⟩).trans (if_neg h47)).trans (if_neg h62))
          rw [e] at hq
          exact hq _ _ _ _ _ ⟨SO_.1, hu2, SO_.2.2⟩
      · refine wp_aload_n 51 d_PM_firstFault_50 rfl rfl ?_
        refine wp_bipush 53 6 d_PM_firstFault_51 rfl (by decide) ?_
        refine wp_V1 56 M_PM_fail 1 d_PM_firstFault_53 rfl mv_PM_fail lk_PM_132 rfl rfl rfl rfl rfl ?_
        refine c_PM_fail ?_
        refine kI ?_
        refine wp_ireturn d_PM_firstFault_56 rfl ?_
        rw [f6] at h47
        have e : ffF T U0 s w = _ := ((if_pos ⟨h5, h19⟩).trans (if_pos h47))
        rw [e] at hq
        exact hq _ _ _ _ _ ⟨SO_.1, hu2, SO_.2.2⟩
    · refine wp_aload_n 23 d_PM_firstFault_22 rfl rfl ?_
      refine wp_iconst 24 1 d_PM_firstFault_23 rfl (by decide) ?_
      refine wp_V1 27 M_PM_fail 1 d_PM_firstFault_24 rfl mv_PM_fail lk_PM_132 rfl rfl rfl rfl rfl ?_
      refine c_PM_fail ?_
      refine kI ?_
      refine wp_ireturn d_PM_firstFault_27 rfl ?_
      have e : ffF T U0 s w = _ := (if_neg (fun z => h19 z.2))
      rw [e] at hq
      exact hq _ _ _ _ _ SO_

set_option maxRecDepth 100000 in
set_option maxHeartbeats 4000000 in
theorem c_PM_oddsThat {s w f : Int32} (I : tOK T) (SO_ : SO C U W L) (U0 : UT) (e0 : U0 = U) (hq0 : ∀ v, odS T U0 s w f = v → ¬ v = 0 → ∀ C U W G L, SO C U W L → Q (some (.int 0)) (hPM Y X T S M D E N C U W G L VL HL nK (v) TP BT)) (hq1 : odS T U0 s w f = 0 → ∀ C U W G L, SO C U W L → Q (some (.int 1)) (hPM Y X T S M D E N C U W G L VL HL nK (0) (frT (odA T U0 s w f) (odB T U0 s) TP) (frB (odA T U0 s w f) (odB T U0 s) BT))) : Call Γ M_PM_oddsThat 6 0 0 [.ref 0, .int s, .int w, .int f] (hPM Y X T S M D E N C U W G L VL HL nK ST TP BT) Q := by
  subst e0
  refine call_intro (ls := [some (.ref 0), some (.int s), some (.int w), some (.int f)]) rfl rfl rfl ?_
  refine wp_aload_n 1 d_PM_oddsThat_0 rfl rfl ?_
  refine wp_iload_n 2 d_PM_oddsThat_1 rfl rfl ?_
  refine wp_V1 5 M_PM_canBeWalkers 2 d_PM_oddsThat_2 rfl mv_PM_canBeWalkers lk_PM_330 rfl rfl rfl rfl rfl ?_
  refine c_PM_canBeWalkers ?_
  refine kI ?_
  (first | refine wp_ifP_eq 31 8 d_PM_oddsThat_5 rfl (by decide) (fun h5 => ?_) (fun h5 => ?_) | refine wp_if_eq 31 8 d_PM_oddsThat_5 rfl (by decide) (fun h5 => ?_) (fun h5 => ?_))
  · refine wp_aload_n 32 d_PM_oddsThat_31 rfl rfl ?_
    refine wp_iconst 33 1 d_PM_oddsThat_32 rfl (by decide) ?_
    refine wp_V1 36 M_PM_refuse 1 d_PM_oddsThat_33 rfl mv_PM_refuse lk_PM_112 rfl rfl rfl rfl rfl ?_
    refine c_PM_refuse ?_
    refine kI ?_
    refine wp_zreturn d_PM_oddsThat_36 rfl (by first | rfl | exact nbP _) ?_
    have e : odS T U0 s w f = _ := (if_neg (fun z => h5 z.1))
    exact hq0 _ e (by decide) _ _ _ _ _ SO_
  · refine wp_iload_n 9 d_PM_oddsThat_8 rfl rfl ?_
    refine wp_aload_n 10 d_PM_oddsThat_9 rfl rfl ?_
    refine wp_getfield 13 11 2 d_PM_oddsThat_10 rfl fl_PM_25 rfl rfl ?_
    refine wp_getfield 16 8 9 d_PM_oddsThat_13 rfl fl_PM_206 rfl rfl ?_
    refine wp_S2 19 M_PM_within 1 d_PM_oddsThat_16 rfl ms_PM_within lk_PM_108 rfl rfl ?_
    refine c_PM_within ?_
    refine kI ?_
    (first | refine wp_ifP_eq 31 22 d_PM_oddsThat_19 rfl (by decide) (fun h19 => ?_) (fun h19 => ?_) | refine wp_if_eq 31 22 d_PM_oddsThat_19 rfl (by decide) (fun h19 => ?_) (fun h19 => ?_))
    · refine wp_aload_n 32 d_PM_oddsThat_31 rfl rfl ?_
      refine wp_iconst 33 1 d_PM_oddsThat_32 rfl (by decide) ?_
      refine wp_V1 36 M_PM_refuse 1 d_PM_oddsThat_33 rfl mv_PM_refuse lk_PM_112 rfl rfl rfl rfl rfl ?_
      refine c_PM_refuse ?_
      refine kI ?_
      refine wp_zreturn d_PM_oddsThat_36 rfl (by first | rfl | exact nbP _) ?_
      have e : odS T U0 s w f = _ := (if_neg (fun z => h19 z.2.1))
      exact hq0 _ e (by decide) _ _ _ _ _ SO_
    · refine wp_iload_n 23 d_PM_oddsThat_22 rfl rfl ?_
      refine wp_bipush 25 24 d_PM_oddsThat_23 rfl (by decide) ?_
      refine wp_S2 28 M_PM_within 1 d_PM_oddsThat_25 rfl ms_PM_within lk_PM_108 rfl rfl ?_
      refine c_PM_within ?_
      refine kI ?_
      (first | refine wp_ifP_ne 37 31 d_PM_oddsThat_28 rfl (by decide) (fun h28 => ?_) (fun h28 => ?_) | refine wp_if_ne 37 31 d_PM_oddsThat_28 rfl (by decide) (fun h28 => ?_) (fun h28 => ?_))
      · refine wp_aload_n 38 d_PM_oddsThat_37 rfl rfl ?_
        refine wp_getfield 41 11 9 d_PM_oddsThat_38 rfl fl_PM_60 rfl rfl ?_
        refine wp_aload_n 42 d_PM_oddsThat_41 rfl rfl ?_
        refine wp_getfield 45 11 2 d_PM_oddsThat_42 rfl fl_PM_25 rfl rfl ?_
        refine wp_iload_n 46 d_PM_oddsThat_45 rfl rfl ?_
        refine ws_V2 (v1' := .ref 14) (b' := 0) 49 M_Doubts_findFits 5 [44, 45, 46, 47, 48, 49, 50, 51, 52, 53, 54, 55, 56, 57, 8, 9, 10, 11, 12, 13, 14, 15, 16] ((hUTr U0 T)) d_PM_oddsThat_46 rfl mv_Doubts_findFits lk_PM_333 rfl rfl rfl rfl rfl rfl rfl rfl (eV_int _ _) rfl ?_
        refine c_findFitsA I SO_.2.1 (fun u2 hu2 hF => ?_)
        obtain ⟨f1, f2, f3, f4_, f5, f6, f7, f8, f9⟩ := hF
        refine sV ?_
        simp only [putH, rC, sg, eV, List.map_cons, List.map_nil, List.set_cons_zero, List.set_cons_succ, List.length_cons, List.length_nil, List.getD_cons_zero, List.getD_cons_succ, Nat.zero_add, Nat.reduceAdd, Nat.reduceLT, if_true, ite_true]
        refine hEq (hPM Y X T S M D E N C (u2) W G L VL HL nK ST TP BT) rfl ?_
        refine wp_aload_n 50 d_PM_oddsThat_49 rfl rfl ?_
        refine wp_getfield 53 11 9 d_PM_oddsThat_50 rfl fl_PM_60 rfl rfl ?_
        refine wp_getfield 56 3 9 d_PM_oddsThat_53 rfl fl_PM_336 rfl rfl ?_
        refine wp_if_ne 66 59 d_PM_oddsThat_56 rfl (by decide) (fun h56 => ?_) (fun h56 => ?_)
        · refine wp_iload_n 67 d_PM_oddsThat_66 rfl rfl ?_
          refine wp_iload_n 68 d_PM_oddsThat_67 rfl rfl ?_
          refine wp_S2 71 M_PM_has 1 d_PM_oddsThat_68 rfl ms_PM_has lk_PM_339 rfl rfl ?_
          refine c_PM_has ?_
          refine kI ?_
          (first | refine wp_ifP_ne 81 74 d_PM_oddsThat_71 rfl (by decide) (fun h71 => ?_) (fun h71 => ?_) | refine wp_if_ne 81 74 d_PM_oddsThat_71 rfl (by decide) (fun h71 => ?_) (fun h71 => ?_))
          · refine wp_aload_n 82 d_PM_oddsThat_81 rfl rfl ?_
            refine wp_aload_n 83 d_PM_oddsThat_82 rfl rfl ?_
            refine wp_getfield 86 11 9 d_PM_oddsThat_83 rfl fl_PM_60 rfl rfl ?_
            refine wp_iload_n 87 d_PM_oddsThat_86 rfl rfl ?_
            refine wp_iload_n 88 d_PM_oddsThat_87 rfl rfl ?_
            refine ws_V2 (b' := 0) 91 M_Doubts_waysWith 1 [44, 45, 46, 47, 48, 49, 50, 51, 52, 53, 54, 55, 56, 57] ((hUr u2)) d_PM_oddsThat_88 rfl mv_Doubts_waysWith lk_PM_345 rfl rfl rfl rfl rfl rfl rfl (eV_int _ _) (eV_int _ _) rfl ?_
            refine c_Doubts_waysWith (inR_in (n := 24) h28 (by omega) (by omega)) ?_
            refine sIr rfl rfl ?_
            refine wp_i2l 92 d_PM_oddsThat_91 rfl ?_
            refine wp_aload_n 93 d_PM_oddsThat_92 rfl rfl ?_
            refine wp_getfield 96 11 9 d_PM_oddsThat_93 rfl fl_PM_60 rfl rfl ?_
            refine wp_getfield 99 3 9 d_PM_oddsThat_96 rfl fl_PM_336 rfl rfl ?_
            refine wp_i2l 100 d_PM_oddsThat_99 rfl ?_
            refine wp_V2 103 M_PM_acceptFraction 2 d_PM_oddsThat_100 rfl mv_PM_acceptFraction lk_PM_348 rfl rfl rfl rfl rfl ?_
            refine c_PM_acceptFraction ?_
            refine kI ?_
            refine wp_zreturn d_PM_oddsThat_103 rfl (by first | rfl | exact nbP _) ?_
            rw [f6] at h56
            rw [f4_, f2, f3, f6]
            have e : odS T U0 s w f = 0 := (((if_pos ⟨h5, h19, h28⟩).trans (if_neg h56)).trans (if_pos h71))
            exact hq1 e _ _ _ _ _ ⟨SO_.1, hu2, SO_.2.2⟩
          · refine wp_aload_n 75 d_PM_oddsThat_74 rfl rfl ?_
            refine wp_bipush 77 7 d_PM_oddsThat_75 rfl (by decide) ?_
            refine wp_V1 80 M_PM_refuse 1 d_PM_oddsThat_77 rfl mv_PM_refuse lk_PM_112 rfl rfl rfl rfl rfl ?_
            refine c_PM_refuse ?_
            refine kI ?_
            refine wp_zreturn d_PM_oddsThat_80 rfl (by first | rfl | exact nbP _) ?_
            rw [f6] at h56
            have e : odS T U0 s w f = _ := (((if_pos ⟨h5, h19, h28⟩).trans (if_neg h56)).trans (if_neg h71))
            exact hq0 _ e (by decide) _ _ _ _ _ ⟨SO_.1, hu2, SO_.2.2⟩
        · refine wp_aload_n 60 d_PM_oddsThat_59 rfl rfl ?_
          refine wp_bipush 62 6 d_PM_oddsThat_60 rfl (by decide) ?_
          refine wp_V1 65 M_PM_refuse 1 d_PM_oddsThat_62 rfl mv_PM_refuse lk_PM_112 rfl rfl rfl rfl rfl ?_
          refine c_PM_refuse ?_
          refine kI ?_
          refine wp_zreturn d_PM_oddsThat_65 rfl (by first | rfl | exact nbP _) ?_
          rw [f6] at h56
          have e : odS T U0 s w f = _ := ((if_pos ⟨h5, h19, h28⟩).trans (if_pos h56))
          exact hq0 _ e (by decide) _ _ _ _ _ ⟨SO_.1, hu2, SO_.2.2⟩
      · refine wp_aload_n 32 d_PM_oddsThat_31 rfl rfl ?_
        refine wp_iconst 33 1 d_PM_oddsThat_32 rfl (by decide) ?_
        refine wp_V1 36 M_PM_refuse 1 d_PM_oddsThat_33 rfl mv_PM_refuse lk_PM_112 rfl rfl rfl rfl rfl ?_
        refine c_PM_refuse ?_
        refine kI ?_
        refine wp_zreturn d_PM_oddsThat_36 rfl (by first | rfl | exact nbP _) ?_
        have e : odS T U0 s w f = _ := (if_neg (fun z => h28 z.2.2))
        exact hq0 _ e (by decide) _ _ _ _ _ SO_

set_option maxRecDepth 100000 in
set_option maxHeartbeats 4000000 in
theorem c_PM_way {a b : Int32} (I : tOK T) (SO_ : SO C U W L) (W0 : WT) (e0 : W0 = W) (hq : ∀ C U W G L, SO C U W L → Q (some (.int (wyF T W0 a b).2)) (hPM Y X T S M D E N C U W G L VL HL nK ((wyF T W0 a b).1) TP BT)) : Call Γ M_PM_way 16 0 0 [.ref 0, .int a, .int b] (hPM Y X T S M D E N C U W G L VL HL nK ST TP BT) Q := by
  subst e0
  refine call_intro (ls := [some (.ref 0), some (.int a), some (.int b)]) rfl rfl rfl ?_
  refine wp_aload_n 1 d_PM_way_0 rfl rfl ?_
  refine wp_iload_n 2 d_PM_way_1 rfl rfl ?_
  refine wp_iload_n 3 d_PM_way_2 rfl rfl ?_
  refine wp_V2 6 M_PM_twoPlaces 2 d_PM_way_3 rfl mv_PM_twoPlaces lk_PM_296 rfl rfl rfl rfl rfl ?_
  refine c_PM_twoPlaces ?_
  refine kI ?_
  (first | refine wp_ifP_ne 15 9 d_PM_way_6 rfl (by decide) (fun h6 => ?_) (fun h6 => ?_) | refine wp_if_ne 15 9 d_PM_way_6 rfl (by decide) (fun h6 => ?_) (fun h6 => ?_))
  · refine wp_aload_n 16 d_PM_way_15 rfl rfl ?_
    refine wp_getfield 19 11 10 d_PM_way_16 rfl fl_PM_67 rfl rfl ?_
    refine wp_aload_n 20 d_PM_way_19 rfl rfl ?_
    refine wp_getfield 23 11 2 d_PM_way_20 rfl fl_PM_25 rfl rfl ?_
    refine wp_iload_n 24 d_PM_way_23 rfl rfl ?_
    refine wp_iload_n 25 d_PM_way_24 rfl rfl ?_
    refine ws_V3 (v1' := .ref 4) (b' := 0) 28 M_Paths_find 15 [58, 59, 60, 61, 8, 9, 10, 11, 12, 13, 14, 15, 16] ((hWTr W0 T)) d_PM_way_25 rfl mv_Paths_find lk_PM_362 rfl rfl rfl rfl rfl rfl rfl rfl (eV_int _ _) (eV_int _ _) rfl ?_
    refine c_findA I SO_.2.2.1 (inR_in h6.1 I.hP (by omega)) (fun w2 hw2 e1 e2 e3 => ?_)
    refine sV ?_
    simp only [putH, rC, sg, eV, List.map_cons, List.map_nil, List.set_cons_zero, List.set_cons_succ, List.length_cons, List.length_nil, List.getD_cons_zero, List.getD_cons_succ, Nat.zero_add, Nat.reduceAdd, Nat.reduceLT, if_true, ite_true]
    refine hEq (hPM Y X T S M D E N C U (w2) G L VL HL nK ST TP BT) rfl ?_
    refine wp_aload_n 29 d_PM_way_28 rfl rfl ?_
    refine wp_getfield 32 11 10 d_PM_way_29 rfl fl_PM_67 rfl rfl ?_
    refine wp_getfield 35 6 5 d_PM_way_32 rfl fl_PM_366 rfl rfl ?_
    refine wp_iconst 36 (-1) d_PM_way_35 rfl (by decide) ?_
    refine wp_icmp_ne 48 39 d_PM_way_36 rfl (by decide) (fun h36 => ?_) (fun h36 => ?_)
    · refine wp_aload_n 49 d_PM_way_48 rfl rfl ?_
      refine wp_aload_n 50 d_PM_way_49 rfl rfl ?_
      refine wp_getfield 53 11 10 d_PM_way_50 rfl fl_PM_67 rfl rfl ?_
      refine wp_getfield 56 6 5 d_PM_way_53 rfl fl_PM_366 rfl rfl ?_
      refine wp_V1 59 M_PM_answer 1 d_PM_way_56 rfl mv_PM_answer lk_PM_182 rfl rfl rfl rfl rfl ?_
      refine c_PM_answer ?_
      refine kI ?_
      refine wp_ireturn d_PM_way_59 rfl ?_
      rw [e2] at h36
      rw [e2]
      have e : wyF T W0 a b = _ := ((if_pos h6).trans (if_neg h36))
      rw [e] at hq
      exact hq _ _ _ _ _ ⟨SO_.1, SO_.2.1, hw2, SO_.2.2.2⟩
    · refine wp_aload_n 40 d_PM_way_39 rfl rfl ?_
      refine wp_bipush 42 6 d_PM_way_40 rfl (by decide) ?_
      refine wp_V1 45 M_PM_fail 1 d_PM_way_42 rfl mv_PM_fail lk_PM_132 rfl rfl rfl rfl rfl ?_
      refine c_PM_fail ?_
      refine kI ?_
      refine wp_goto 59 d_PM_way_45 (by decide) ?_
      refine wp_ireturn d_PM_way_59 rfl ?_
      rw [e2] at h36
      have e : wyF T W0 a b = _ := ((if_pos h6).trans (if_pos h36))
      rw [e] at hq
      exact hq _ _ _ _ _ ⟨SO_.1, SO_.2.1, hw2, SO_.2.2.2⟩
  · refine wp_aload_n 10 d_PM_way_9 rfl rfl ?_
    refine wp_iconst 11 1 d_PM_way_10 rfl (by decide) ?_
    refine wp_V1 14 M_PM_fail 1 d_PM_way_11 rfl mv_PM_fail lk_PM_132 rfl rfl rfl rfl rfl ?_
    refine c_PM_fail ?_
    refine kI ?_
    refine wp_ireturn d_PM_way_14 rfl ?_
    have e : wyF T W0 a b = _ := (if_neg h6)
    rw [e] at hq
    exact hq _ _ _ _ _ SO_

set_option maxRecDepth 100000 in
set_option maxHeartbeats 4000000 in
theorem c_PM_game {n : Int32} (I : tOK T) (SO_ : SO C U W L) (G0 : GT) (e0 : G0 = G) (hq : ∀ C U W G L, SO C U W L → Q (some (.int (gaF T G0 n).2)) (hPM Y X T S M D E N C U W G L VL HL nK ((gaF T G0 n).1) TP BT)) : Call Γ M_PM_game 13 0 0 [.ref 0, .int n] (hPM Y X T S M D E N C U W G L VL HL nK ST TP BT) Q := by
  subst e0
  refine call_intro (ls := [some (.ref 0), some (.int n)]) rfl rfl rfl ?_
  refine wp_iload_n 1 d_PM_game_0 rfl rfl ?_
  refine wp_iconst 2 5 d_PM_game_1 rfl (by decide) ?_
  refine wp_S2 5 M_PM_within 1 d_PM_game_2 rfl ms_PM_within lk_PM_108 rfl rfl ?_
  refine c_PM_within ?_
  refine kI ?_
  (first | refine wp_ifP_ne 14 8 d_PM_game_5 rfl (by decide) (fun h5 => ?_) (fun h5 => ?_) | refine wp_if_ne 14 8 d_PM_game_5 rfl (by decide) (fun h5 => ?_) (fun h5 => ?_))
  · refine wp_aload_n 15 d_PM_game_14 rfl rfl ?_
    refine wp_getfield 18 11 11 d_PM_game_15 rfl fl_PM_74 rfl rfl ?_
    refine wp_aload_n 19 d_PM_game_18 rfl rfl ?_
    refine wp_getfield 22 11 2 d_PM_game_19 rfl fl_PM_25 rfl rfl ?_
    refine wp_iload_n 23 d_PM_game_22 rfl rfl ?_
    refine ws_V2 (v1' := .ref 3) (b' := 0) 26 M_Game_begin 2 [62, 63, 64, 8, 9, 10, 11, 12, 13, 14, 15, 16] ((hGTr G0 T)) d_PM_game_23 rfl mv_Game_begin lk_PM_388 rfl rfl rfl rfl rfl rfl rfl rfl (eV_int _ _) rfl ?_
    refine c_Game_begin I.hL ?_
    refine sV ?_
    simp only [putH, rC, sg, eV, List.map_cons, List.map_nil, List.set_cons_zero, List.set_cons_succ, List.length_cons, List.length_nil, List.getD_cons_zero, List.getD_cons_succ, Nat.zero_add, Nat.reduceAdd, Nat.reduceLT, if_true, ite_true]
    refine hEq (hPM Y X T S M D E N C U W (tGs G0 T n) L VL HL nK ST TP BT) rfl ?_
    refine wp_aload_n 27 d_PM_game_26 rfl rfl ?_
    refine wp_aload_n 28 d_PM_game_27 rfl rfl ?_
    refine wp_getfield 31 11 11 d_PM_game_28 rfl fl_PM_74 rfl rfl ?_
    refine ws_V0 (b' := 0) 34 M_Game_endOfBestPlay 12 [62, 63, 64] ((hGr (tGs G0 T n))) d_PM_game_31 rfl mv_Game_endOfBestPlay lk_PM_390 rfl rfl rfl rfl rfl rfl rfl rfl ?_
    refine c_Game_endOfBestPlay I.hL (tTh_in I) ?_
    refine sI ?_
    simp only [putH, rC, sg, eV, List.map_cons, List.map_nil, List.set_cons_zero, List.set_cons_succ, List.length_cons, List.length_nil, List.getD_cons_zero, List.getD_cons_succ, Nat.zero_add, Nat.reduceAdd, Nat.reduceLT, if_true, ite_true]
    refine hEq (hPM Y X T S M D E N C U W (GT.mk (gmR (tGs G0 T n) T).2 (tGs G0 T n).gen (nI T.nL) (tTh T) n (tGs G0 T n).gan) L VL HL nK ST TP BT) rfl ?_
    refine wp_V1 37 M_PM_answer 1 d_PM_game_34 rfl mv_PM_answer lk_PM_182 rfl rfl rfl rfl rfl ?_
    refine c_PM_answer ?_
    refine kI ?_
    refine wp_ireturn d_PM_game_37 rfl ?_
    have e : gaF T G0 n = _ := (if_pos h5)
    rw [e] at hq
    exact hq _ _ _ _ _ SO_
  · refine wp_aload_n 9 d_PM_game_8 rfl rfl ?_
    refine wp_iconst 10 1 d_PM_game_9 rfl (by decide) ?_
    refine wp_V1 13 M_PM_fail 1 d_PM_game_10 rfl mv_PM_fail lk_PM_132 rfl rfl rfl rfl rfl ?_
    refine c_PM_fail ?_
    refine kI ?_
    refine wp_ireturn d_PM_game_13 rfl ?_
    have e : gaF T G0 n = _ := (if_neg h5)
    rw [e] at hq
    exact hq _ _ _ _ _ SO_

set_option maxRecDepth 100000 in
set_option maxHeartbeats 4000000 in
theorem c_PM_moveOf {n : Int32} (I : tOK T) (SO_ : SO C U W L) (G0 : GT) (e0 : G0 = G) (hq : ∀ C U W G L, SO C U W L → Q (some (.int (mvF T G0 n).2)) (hPM Y X T S M D E N C U W G L VL HL nK ((mvF T G0 n).1) TP BT)) : Call Γ M_PM_moveOf 13 0 0 [.ref 0, .int n] (hPM Y X T S M D E N C U W G L VL HL nK ST TP BT) Q := by
  subst e0
  refine call_intro (ls := [some (.ref 0), some (.int n), none]) rfl rfl rfl ?_
  refine wp_iload_n 1 d_PM_moveOf_0 rfl rfl ?_
  refine wp_if_eq 12 4 d_PM_moveOf_1 rfl (by decide) (fun h1 => ?_) (fun h1 => ?_)
  · refine wp_aload_n 13 d_PM_moveOf_12 rfl rfl ?_
    refine wp_iconst 14 1 d_PM_moveOf_13 rfl (by decide) ?_
    refine wp_V1 17 M_PM_fail 1 d_PM_moveOf_14 rfl mv_PM_fail lk_PM_132 rfl rfl rfl rfl rfl ?_
    refine c_PM_fail ?_
    refine kI ?_
    refine wp_ireturn d_PM_moveOf_17 rfl ?_
    have e : mvF T G0 n = _ := (if_neg (fun z => z.1 h1))
    rw [e] at hq
    exact hq _ _ _ _ _ SO_
  · refine wp_iload_n 5 d_PM_moveOf_4 rfl rfl ?_
    refine wp_iconst 6 5 d_PM_moveOf_5 rfl (by decide) ?_
    refine wp_S2 9 M_PM_within 1 d_PM_moveOf_6 rfl ms_PM_within lk_PM_108 rfl rfl ?_
    refine c_PM_within ?_
    refine kI ?_
    (first | refine wp_ifP_ne 18 12 d_PM_moveOf_9 rfl (by decide) (fun h9 => ?_) (fun h9 => ?_) | refine wp_if_ne 18 12 d_PM_moveOf_9 rfl (by decide) (fun h9 => ?_) (fun h9 => ?_))
    · refine wp_aload_n 19 d_PM_moveOf_18 rfl rfl ?_
      refine wp_getfield 22 11 11 d_PM_moveOf_19 rfl fl_PM_74 rfl rfl ?_
      refine wp_aload_n 23 d_PM_moveOf_22 rfl rfl ?_
      refine wp_getfield 26 11 2 d_PM_moveOf_23 rfl fl_PM_25 rfl rfl ?_
      refine wp_iload_n 27 d_PM_moveOf_26 rfl rfl ?_
      refine ws_V2 (v1' := .ref 3) (b' := 0) 30 M_Game_begin 2 [62, 63, 64, 8, 9, 10, 11, 12, 13, 14, 15, 16] ((hGTr G0 T)) d_PM_moveOf_27 rfl mv_Game_begin lk_PM_388 rfl rfl rfl rfl rfl rfl rfl rfl (eV_int _ _) rfl ?_
      refine c_Game_begin I.hL ?_
      refine sV ?_
      simp only [putH, rC, sg, eV, List.map_cons, List.map_nil, List.set_cons_zero, List.set_cons_succ, List.length_cons, List.length_nil, List.getD_cons_zero, List.getD_cons_succ, Nat.zero_add, Nat.reduceAdd, Nat.reduceLT, if_true, ite_true]
      refine hEq (hPM Y X T S M D E N C U W (tGs G0 T n) L VL HL nK ST TP BT) rfl ?_
      refine wp_aload_n 31 d_PM_moveOf_30 rfl rfl ?_
      refine wp_getfield 34 11 11 d_PM_moveOf_31 rfl fl_PM_74 rfl rfl ?_
      refine ws_V0 (b' := 0) 37 M_Game_firstBestLeg 12 [62, 63, 64] ((hGr (tGs G0 T n))) d_PM_moveOf_34 rfl mv_Game_firstBestLeg lk_PM_393 rfl rfl rfl rfl rfl rfl rfl rfl ?_
      refine c_Game_firstBestLeg I.hL (tTh_in I) ?_
      refine sI ?_
      simp only [putH, rC, sg, eV, List.map_cons, List.map_nil, List.set_cons_zero, List.set_cons_succ, List.length_cons, List.length_nil, List.getD_cons_zero, List.getD_cons_succ, Nat.zero_add, Nat.reduceAdd, Nat.reduceLT, if_true, ite_true]
      refine hEq (hPM Y X T S M D E N C U W (GT.mk (mvR (tGs G0 T n) T).2 (tGs G0 T n).gen (nI T.nL) (tTh T) n (tGs G0 T n).gan) L VL HL nK ST TP BT) rfl ?_
      refine wp_istore_2 38 d_PM_moveOf_37 rfl rfl rfl ?_
      refine wp_iload_n 39 d_PM_moveOf_38 rfl rfl ?_
      refine wp_iconst 40 (-1) d_PM_moveOf_39 rfl (by decide) ?_
      refine wp_icmp_ne 52 43 d_PM_moveOf_40 rfl (by decide) (fun h40 => ?_) (fun h40 => ?_)
      · refine wp_aload_n 53 d_PM_moveOf_52 rfl rfl ?_
        refine wp_iload_n 54 d_PM_moveOf_53 rfl rfl ?_
        refine wp_V1 57 M_PM_answer 1 d_PM_moveOf_54 rfl mv_PM_answer lk_PM_182 rfl rfl rfl rfl rfl ?_
        refine c_PM_answer ?_
        refine kI ?_
        refine wp_ireturn d_PM_moveOf_57 rfl ?_
        have e : mvF T G0 n = _ := ((if_pos ⟨h1, h9⟩).trans (if_neg h40))
        rw [e] at hq
        exact hq _ _ _ _ _ SO_
      · refine wp_aload_n 44 d_PM_moveOf_43 rfl rfl ?_
        refine wp_bipush 46 6 d_PM_moveOf_44 rfl (by decide) ?_
        refine wp_V1 49 M_PM_fail 1 d_PM_moveOf_46 rfl mv_PM_fail lk_PM_132 rfl rfl rfl rfl rfl ?_
        refine c_PM_fail ?_
        refine kI ?_
        refine wp_goto 57 d_PM_moveOf_49 (by decide) ?_
        refine wp_ireturn d_PM_moveOf_57 rfl ?_
        have e : mvF T G0 n = _ := ((if_pos ⟨h1, h9⟩).trans (if_pos h40))
        rw [e] at hq
        exact hq _ _ _ _ _ SO_
    · refine wp_aload_n 13 d_PM_moveOf_12 rfl rfl ?_
      refine wp_iconst 14 1 d_PM_moveOf_13 rfl (by decide) ?_
      refine wp_V1 17 M_PM_fail 1 d_PM_moveOf_14 rfl mv_PM_fail lk_PM_132 rfl rfl rfl rfl rfl ?_
      refine c_PM_fail ?_
      refine kI ?_
      refine wp_ireturn d_PM_moveOf_17 rfl ?_
      have e : mvF T G0 n = _ := (if_neg (fun z => h9 z.2))
      rw [e] at hq
      exact hq _ _ _ _ _ SO_

end T55
