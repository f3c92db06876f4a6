/-! ===== the class: ways again, odds, days, marks ===== -/
theorem iterN_lek {σ : Type} {g : Nat → σ → σ} {m : σ → Nat} {k : Nat} (h : ∀ n s, m (g n s) ≤ m s + k) : ∀ (r i : Nat) (s : σ), m (iterN g r i s) ≤ m s + k * r
  | 0, _, _ => Nat.le_add_right _ _
  | r + 1, i, s => by
    simp only [iterN]
    have h1 := iterN_lek (g := g) (m := m) h r (i + 1) (g i s)
    have h2 := h i s
    rw [Nat.mul_succ]; omega
theorem tWs_le (T : TW) (U : UT) (s : Int32) : (tWs T U s).2.2.1 ≤ 576 := by
  have h1 : ∀ (f : Nat) (nG : Nat) (z : FS), (iterN (fiG T.fa T.te T.fr T.to_ T.ea T.no T.nL T.nP (tTh T) (tPk T s).1 (tPk T s).2 f) nG 0 z).2.2.1 ≤ z.2.2.1 + nG := fun f nG z => iterN_le (m := fun z : FS => z.2.2.1) (fun n s => fiG_n _ _ _ _ _ _ _ _ _ _ _ _ _ _) nG 0 z
  have h2 : ∀ (nF nG : Nat) (z : FS), (fiF T.fa T.te T.fr T.to_ T.ea T.no T.nL T.nP (tTh T) (tPk T s).1 (tPk T s).2 nF nG z).2.2.1 ≤ z.2.2.1 + nG * nF := fun nF nG z => iterN_lek (m := fun z : FS => z.2.2.1) (k := nG) (fun n z => h1 n nG z) nF 0 z
  have h3 := h2 (if (tPk T s).1 = -1 then 1 else 24) (if (tPk T s).2 = -1 then 1 else 24) (uFs U)
  have h4 : (uFs U).2.2.1 = 0 := rfl
  have a1 : (if (tPk T s).1 = -1 then 1 else 24) ≤ 24 := by split <;> omega
  have a2 : (if (tPk T s).2 = -1 then 1 else 24) ≤ 24 := by split <;> omega
  have h5 := Nat.mul_le_mul a2 a1
  exact Nat.le_trans h3 (by rw [h4]; omega)
theorem UT_eq {u : UT} {v : Int32} (h : u.uwa = v) : u = UT.mk u.cea u.cno u.cx u.cy u.cpo u.cla u.cba u.cly u.cpt u.usp u.uke u.uco u.uow u.utw u.uos u.uon u.uot v u.uof u.utf u.uaf u.uas := by
  subst h; rfl
def wMn (s : PS) : Prop := ∃ m, m ≤ 7 ∧ s.2.2.2 = nI m
theorem wOn_m {len : Nat → Int32} {goal : Int32} {nP : Nat} : ∀ (f d : Nat) (w sn : Int32) (s : PS), d + f = 6 → wMn s → wMn (wOn len goal nP f d w sn s)
  | 0, d, w, sn, s, hd, h => by
    simp only [wOn]
    split
    · exact h
    · split
      · exact ⟨d + 1, by omega, rfl⟩
      · exact h
  | f + 1, d, w, sn, s, hd, h => by
    simp only [wOn]
    split
    · exact h
    · split
      · exact ⟨d + 1, by omega, rfl⟩
      · refine iterN_all (P := wMn) nP (fun n s' _ h' => ?_) nP 0 s (by omega) h
        split
        · exact h'
        · exact wOn_m f (d + 1) _ _ _ (by omega) h'
theorem tWy_many (T : TW) (a b : Int32) (W : WT) : wMn (tWy T a b W) := wOn_m 6 0 0 (bit a) _ rfl ⟨0, by omega, rfl⟩
theorem ix_of {k : Int32} {s : PS} (h : ¬ k < 0) (h2 : k < s.2.2.2) (h3 : wMn s) : vp_in k 7 := by
  obtain ⟨m, hm, e⟩ := h3
  rw [e] at h2
  exact inR_in (n := m) ⟨Int32.not_lt.mp h, h2⟩ hm (by omega)
def msG (od : Int32) (n : Nat) (i : Nat) (w : Int64) : Int64 := w + chF (nI n) (nI i) i * pwF od i * pwF (16 - od) (n - i)
def msF (od : Int32) (n k : Nat) : Int64 := iterN (msG od n) (n + 1 - k) k 0
def shA (T : TW) : Int32 := isum (fun l => if hs (tTh T) (nI l) then yA T.ea T.no T.fa T.te l else 0) T.nL
def shB (T : TW) (w : Int32) : Int32 := isum (fun l => if hs (tTh T &&& iorr (fun l => if T.te l = w then bit (nI l) else 0) T.nL) (nI l) then yA T.ea T.no T.fa T.te l else 0) T.nL
def ldF (VL : Nat → Int32) (HL w : Int32) : Int32 × Int32 := if inR w 5 then (if HL = 0 then (6, -1) else (0, VL w.toNatClampNeg)) else (1, -1)
def tCp (o t : TW) : TW := TW.mk (va_cpy o.pn t.pn 0 0 7) (va_cpy o.wn t.wn 0 0 4) (va_cpy o.fa t.fa 0 0 4) (va_cpy o.te t.te 0 0 12) (va_cpy o.fr t.fr 0 0 12) (va_cpy o.to_ t.to_ 0 0 12) (va_cpy o.ea t.ea 0 0 12) (va_cpy o.no t.no 0 0 12) o.nP o.nW o.nL o.od o.sk o.sd o.go
def dCp (o d : DW) : DW := DW.mk (va_cpy o.dk d.dk 0 0 60) (va_cpy o.df d.df 0 0 60) (va_cpy o.ds d.ds 0 0 60) o.dth o.nR o.nS
/-- one seed of mean -/
abbrev MnS : Type := Int64 × TW × (Nat → Int32) × (Nat → Int32)
def mnR (T : TW) (D : DW) (sd : Int32) (i : Nat) (s : MnS) : Int32 × LSt := tLv (tCp T s.2.1) D (sd + nI i) s.2.2.1 s.2.2.2
def mnG (T : TW) (D : DW) (sd : Int32) (i : Nat) (s : MnS) : MnS := (s.1 + (bcR (tLi (tLt (tCp T s.2.1) (mnR T D sd i s).2))).toInt64, tLt (tCp T s.2.1) (mnR T D sd i s).2, (mnR T D sd i s).2.2.2.2.2.1, (mnR T D sd i s).2.2.2.2.2.2.1)
theorem va_cpy_in {o t : Nat → Int32} {n N : Nat} (ho : ∀ j, vp_in (o j) N) (ht : ∀ j, vp_in (t j) N) : ∀ j, vp_in (va_cpy o t 0 0 n j) N := by
  intro j
  unfold va_cpy
  split
  · exact ho _
  · exact ht _
theorem tCp_OK {o t : TW} (h : tOK o) (h2 : tOK t) : tOK (tCp o t) := ⟨h.hP, h.hW, h.hL, va_cpy_in h.te h2.te, va_cpy_in h.fr h2.fr, va_cpy_in h.to_ h2.to_⟩
theorem tLt_OK {t : TW} {r : LSt} (h : tOK t) : tOK (tLt t r) := h
section T56
variable {Γ : Gm} {Q : Option Value → LH → Prop} {Y : Nat → YT} {X : XT} {T S : TW} {M : Nat → TW} {D E : DW} {N : Nat → DW} {C : CH} {U : UT} {W : WT} {G : GT} {L : LT} {VL : Nat → Int32} {HL ST : Int32} {nK : Nat} {TP BT : Int64}
set_option maxRecDepth 100000 in
set_option maxHeartbeats 4000000 in
theorem c_PM_ask {s k : Int32} (I : tOK T) (SO_ : SO C U W L) (U0 : UT) (e0 : U0 = U) (hq : ∀ C u W G L, SO C u W L → ∀ U, uOK U → (isWs T s → inR k 2 → uFit T s U0 U) → Q (some (.int (akF T U0 U s k).2)) (hPM Y X T S M D E N C (u) W G L VL HL nK ((akF T U0 U s k).1) TP BT)) : Call Γ M_PM_ask 6 0 0 [.ref 0, .int s, .int k] (hPM Y X T S M D E N C U W G L VL HL nK ST TP BT) Q := by
  subst e0
  refine call_intro (ls := [some (.ref 0), some (.int s), some (.int k)]) rfl rfl rfl ?_
  refine wp_aload_n 1 d_PM_ask_0 rfl rfl ?_
  refine wp_iload_n 2 d_PM_ask_1 rfl rfl ?_
  refine wp_V1 5 M_PM_canBeWalkers 2 d_PM_ask_2 rfl mv_PM_canBeWalkers lk_PM_330 rfl rfl rfl rfl rfl ?_
  refine c_PM_canBeWalkers ?_
  refine kI ?_
  (first | refine wp_ifP_eq 16 8 d_PM_ask_5 rfl (by decide) (fun h5 => ?_) (fun h5 => ?_) | refine wp_if_eq 16 8 d_PM_ask_5 rfl (by decide) (fun h5 => ?_) (fun h5 => ?_))
  · refine wp_aload_n 17 d_PM_ask_16 rfl rfl ?_
    refine wp_iconst 18 1 d_PM_ask_17 rfl (by decide) ?_
    refine wp_V1 21 M_PM_fail 1 d_PM_ask_18 rfl mv_PM_fail lk_PM_132 rfl rfl rfl rfl rfl ?_
    refine c_PM_fail ?_
    refine kI ?_
    refine wp_ireturn d_PM_ask_21 rfl ?_
    have e : akF T U0 U0 s k = _ := if_neg (fun z => h5 z.1)
    have h9 := hq _ _ _ G _ SO_ U0 SO_.2.1 (fun z1 z2 => absurd ⟨z1, z2⟩ (fun z : isWs T s ∧ inR k 2 => h5 z.1))
    rw [e] at h9
    exact h9
  · refine wp_iload_n 9 d_PM_ask_8 rfl rfl ?_
    refine wp_iconst 10 2 d_PM_ask_9 rfl (by decide) ?_
    refine wp_S2 13 M_PM_within 1 d_PM_ask_10 rfl ms_PM_within lk_PM_108 rfl rfl ?_
    refine c_PM_within ?_
    refine kI ?_
    (first | refine wp_ifP_ne 22 16 d_PM_ask_13 rfl (by decide) (fun h13 => ?_) (fun h13 => ?_) | refine wp_if_ne 22 16 d_PM_ask_13 rfl (by decide) (fun h13 => ?_) (fun h13 => ?_))
    · refine wp_aload_n 23 d_PM_ask_22 rfl rfl ?_
      refine wp_getfield 26 11 9 d_PM_ask_23 rfl fl_PM_60 rfl rfl ?_
      refine wp_aload_n 27 d_PM_ask_26 rfl rfl ?_
      refine wp_getfield 30 11 2 d_PM_ask_27 rfl fl_PM_25 rfl rfl ?_
      refine wp_iload_n 31 d_PM_ask_30 rfl rfl ?_
      refine ws_V2 (v1' := .ref 14) (b' := 0) 34 M_Doubts_findFits 5 [44, 45, 46, 47, 48, 49, 50, 51, 52, 53, 54, 55, 56, 57, 8, 9, 10, 11, 12, 13, 14, 15, 16] ((hUTr U0 T)) d_PM_ask_31 rfl mv_Doubts_findFits lk_PM_333 rfl rfl rfl rfl rfl rfl rfl rfl (eV_int _ _) rfl ?_
      refine c_findFitsA I SO_.2.1 (fun u2 hu2 hF => ?_)
      obtain ⟨f1, f2, f3, f4_, f5, f6, f7, f8, f9⟩ := hF
      refine sV ?_
      simp only [putH, rC, sg, eV, List.map_cons, List.map_nil, List.set_cons_zero, List.set_cons_succ, List.length_cons, List.length_nil, List.getD_cons_zero, List.getD_cons_succ, Nat.zero_add, Nat.reduceAdd, Nat.reduceLT, if_true, ite_true]
      refine hEq (hPM Y X T S M D E N C (u2) W G L VL HL nK ST TP BT) rfl ?_
      rw [UT_eq f6]
      refine wp_aload_n 35 d_PM_ask_34 rfl rfl ?_
      refine wp_getfield 38 11 9 d_PM_ask_35 rfl fl_PM_60 rfl rfl ?_
      refine wp_getfield 41 3 9 d_PM_ask_38 rfl fl_PM_336 rfl rfl ?_
      refine wp_iconst 42 2 d_PM_ask_41 rfl (by decide) ?_
      refine wp_icmp_lt 59 45 d_PM_ask_42 rfl (by decide) (fun h42 => ?_) (fun h42 => ?_)
      · refine wp_aload_n 60 d_PM_ask_59 rfl rfl ?_
        refine wp_bipush 62 6 d_PM_ask_60 rfl (by decide) ?_
        refine wp_V1 65 M_PM_fail 1 d_PM_ask_62 rfl mv_PM_fail lk_PM_132 rfl rfl rfl rfl rfl ?_
        refine c_PM_fail ?_
        refine kI ?_
        refine wp_ireturn d_PM_ask_65 rfl ?_
        have e : akF T U0 u2 s k = _ := ((if_pos ⟨h5, h13⟩).trans (if_pos (Or.inl h42)))
        have h9 := hq _ _ _ G _ ⟨SO_.1, (show uOK (UT.mk u2.cea u2.cno u2.cx u2.cy u2.cpo u2.cla u2.cba u2.cly u2.cpt u2.usp u2.uke u2.uco u2.uow u2.utw u2.uos u2.uon u2.uot (nI (tWs T U0 s).2.2.1) u2.uof u2.utf u2.uaf u2.uas) from hu2), SO_.2.2⟩ u2 hu2 (fun _ _ => ⟨f1, f2, f3, f4_, f5, f6, f7, f8, f9⟩)
        rw [e] at h9
        exact h9
      · refine wp_aload_n 46 d_PM_ask_45 rfl rfl ?_
        refine wp_getfield 49 11 9 d_PM_ask_46 rfl fl_PM_60 rfl rfl ?_
        refine wp_aload_n 50 d_PM_ask_49 rfl rfl ?_
        refine wp_getfield 53 11 2 d_PM_ask_50 rfl fl_PM_25 rfl rfl ?_
        refine ws_V1 (v1' := .ref 14) (b' := 0) 56 M_Doubts_findBestPair 3 [44, 45, 46, 47, 48, 49, 50, 51, 52, 53, 54, 55, 56, 57, 8, 9, 10, 11, 12, 13, 14, 15, 16] ((hUTr (UT.mk u2.cea u2.cno u2.cx u2.cy u2.cpo u2.cla u2.cba u2.cly u2.cpt u2.usp u2.uke u2.uco u2.uow u2.utw u2.uos u2.uon u2.uot (nI (tWs T U0 s).2.2.1) u2.uof u2.utf u2.uaf u2.uas) T)) d_PM_ask_53 rfl mv_Doubts_findBestPair lk_PM_352 rfl rfl rfl rfl rfl rfl rfl rfl rfl ?_
        refine c_Doubts_findBestPair I.hP (tWs_le T U0 s) ?_
        refine sI ?_
        simp only [putH, rC, sg, eV, List.map_cons, List.map_nil, List.set_cons_zero, List.set_cons_succ, List.length_cons, List.length_nil, List.getD_cons_zero, List.getD_cons_succ, Nat.zero_add, Nat.reduceAdd, Nat.reduceLT, if_true, ite_true]
        refine hEq (hPM Y X T S M D E N C ((UT.mk u2.cea u2.cno u2.cx u2.cy u2.cpo u2.cla u2.cba u2.cly u2.cpt u2.usp (akB T u2 (tWs T U0 s).2.2.1).2.2.2.2 (akB T u2 (tWs T U0 s).2.2.1).2.2.2.1 u2.uow u2.utw u2.uos u2.uon u2.uot (nI (tWs T U0 s).2.2.1) u2.uof u2.utf (akB T u2 (tWs T U0 s).2.2.1).2.1 (akB T u2 (tWs T U0 s).2.2.1).2.2.1)) W G L VL HL nK ST TP BT) rfl ?_
        (first | refine wp_ifP_ne 66 59 d_PM_ask_56 rfl (by decide) (fun h56 => ?_) (fun h56 => ?_) | refine wp_if_ne 66 59 d_PM_ask_56 rfl (by decide) (fun h56 => ?_) (fun h56 => ?_))
        · refine wp_aload_n 67 d_PM_ask_66 rfl rfl ?_
          refine wp_iload_n 68 d_PM_ask_67 rfl rfl ?_
          refine wp_if_ne 81 71 d_PM_ask_68 rfl (by decide) (fun h68 => ?_) (fun h68 => ?_)
          · refine wp_aload_n 82 d_PM_ask_81 rfl rfl ?_
            refine wp_getfield 85 11 9 d_PM_ask_82 rfl fl_PM_60 rfl rfl ?_
            refine wp_getfield 88 3 13 d_PM_ask_85 rfl fl_PM_359 rfl rfl ?_
            refine wp_V1 91 M_PM_answer 1 d_PM_ask_88 rfl mv_PM_answer lk_PM_182 rfl rfl rfl rfl rfl ?_
            refine c_PM_answer ?_
            refine kI ?_
            refine wp_ireturn d_PM_ask_91 rfl ?_
            have e : akF T U0 u2 s k = _ := (((if_pos ⟨h5, h13⟩).trans (if_neg (fun z => z.elim h42 (fun y => y h56)))).trans (congrArg (Prod.mk 0) (if_neg h68)))
            have h9 := hq _ _ _ G _ ⟨SO_.1, (show uOK (UT.mk u2.cea u2.cno u2.cx u2.cy u2.cpo u2.cla u2.cba u2.cly u2.cpt u2.usp (akB T u2 (tWs T U0 s).2.2.1).2.2.2.2 (akB T u2 (tWs T U0 s).2.2.1).2.2.2.1 u2.uow u2.utw u2.uos u2.uon u2.uot (nI (tWs T U0 s).2.2.1) u2.uof u2.utf (akB T u2 (tWs T U0 s).2.2.1).2.1 (akB T u2 (tWs T U0 s).2.2.1).2.2.1) from hu2), SO_.2.2⟩ u2 hu2 (fun _ _ => ⟨f1, f2, f3, f4_, f5, f6, f7, f8, f9⟩)
            rw [e] at h9
            exact h9
          · refine wp_aload_n 72 d_PM_ask_71 rfl rfl ?_
            refine wp_getfield 75 11 9 d_PM_ask_72 rfl fl_PM_60 rfl rfl ?_
            refine wp_getfield 78 3 12 d_PM_ask_75 rfl fl_PM_356 rfl rfl ?_
            refine wp_goto 88 d_PM_ask_78 (by decide) ?_
            refine wp_V1 91 M_PM_answer 1 d_PM_ask_88 rfl mv_PM_answer lk_PM_182 rfl rfl rfl rfl rfl ?_
            refine c_PM_answer ?_
            refine kI ?_
            refine wp_ireturn d_PM_ask_91 rfl ?_
            have e : akF T U0 u2 s k = _ := (((if_pos ⟨h5, h13⟩).trans (if_neg (fun z => z.elim h42 (fun y => y h56)))).trans (congrArg (Prod.mk 0) (if_pos h68)))
            have h9 := hq _ _ _ G _ ⟨SO_.1, (show uOK (UT.mk u2.cea u2.cno u2.cx u2.cy u2.cpo u2.cla u2.cba u2.cly u2.cpt u2.usp (akB T u2 (tWs T U0 s).2.2.1).2.2.2.2 (akB T u2 (tWs T U0 s).2.2.1).2.2.2.1 u2.uow u2.utw u2.uos u2.uon u2.uot (nI (tWs T U0 s).2.2.1) u2.uof u2.utf (akB T u2 (tWs T U0 s).2.2.1).2.1 (akB T u2 (tWs T U0 s).2.2.1).2.2.1) from hu2), SO_.2.2⟩ u2 hu2 (fun _ _ => ⟨f1, f2, f3, f4_, f5, f6, f7, f8, f9⟩)
            rw [e] at h9
            exact h9
        · refine wp_aload_n 60 d_PM_ask_59 rfl rfl ?_
          refine wp_bipush 62 6 d_PM_ask_60 rfl (by decide) ?_
          refine wp_V1 65 M_PM_fail 1 d_PM_ask_62 rfl mv_PM_fail lk_PM_132 rfl rfl rfl rfl rfl ?_
          refine c_PM_fail ?_
          refine kI ?_
          refine wp_ireturn d_PM_ask_65 rfl ?_
          have e : akF T U0 u2 s k = _ := ((if_pos ⟨h5, h13⟩).trans (if_pos (Or.inr h56)))
          have h9 := hq _ _ _ G _ ⟨SO_.1, (show uOK (UT.mk u2.cea u2.cno u2.cx u2.cy u2.cpo u2.cla u2.cba u2.cly u2.cpt u2.usp (akB T u2 (tWs T U0 s).2.2.1).2.2.2.2 (akB T u2 (tWs T U0 s).2.2.1).2.2.2.1 u2.uow u2.utw u2.uos u2.uon u2.uot (nI (tWs T U0 s).2.2.1) u2.uof u2.utf (akB T u2 (tWs T U0 s).2.2.1).2.1 (akB T u2 (tWs T U0 s).2.2.1).2.2.1) from hu2), SO_.2.2⟩ u2 hu2 (fun _ _ => ⟨f1, f2, f3, f4_, f5, f6, f7, f8, f9⟩)
          rw [e] at h9
          exact h9
    · refine wp_aload_n 17 d_PM_ask_16 rfl rfl ?_
      refine wp_iconst 18 1 d_PM_ask_17 rfl (by decide) ?_
      refine wp_V1 21 M_PM_fail 1 d_PM_ask_18 rfl mv_PM_fail lk_PM_132 rfl rfl rfl rfl rfl ?_
      refine c_PM_fail ?_
      refine kI ?_
      refine wp_ireturn d_PM_ask_21 rfl ?_
      have e : akF T U0 U0 s k = _ := if_neg (fun z => h13 z.2)
      have h9 := hq _ _ _ G _ SO_ U0 SO_.2.1 (fun z1 z2 => absurd ⟨z1, z2⟩ (fun z : isWs T s ∧ inR k 2 => h13 z.2))
      rw [e] at h9
      exact h9

set_option maxRecDepth 100000 in
set_option maxHeartbeats 4000000 in
theorem c_PM_wayAt {a b k : Int32} (I : tOK T) (SO_ : SO C U W L) (W0 : WT) (e0 : W0 = W) (hq : ∀ C U W G L, SO C U W L → Q (some (.int (wkF T W0 a b k).2)) (hPM Y X T S M D E N C U W G L VL HL nK ((wkF T W0 a b k).1) TP BT)) : Call Γ M_PM_wayAt 16 0 0 [.ref 0, .int a, .int b, .int k] (hPM Y X T S M D E N C U W G L VL HL nK ST TP BT) Q := by
  subst e0
  refine call_intro (ls := [some (.ref 0), some (.int a), some (.int b), some (.int k)]) rfl rfl rfl ?_
  refine wp_aload_n 1 d_PM_wayAt_0 rfl rfl ?_
  refine wp_iload_n 2 d_PM_wayAt_1 rfl rfl ?_
  refine wp_iload_n 3 d_PM_wayAt_2 rfl rfl ?_
  refine wp_V2 6 M_PM_twoPlaces 2 d_PM_wayAt_3 rfl mv_PM_twoPlaces lk_PM_296 rfl rfl rfl rfl rfl ?_
  refine c_PM_twoPlaces ?_
  refine kI ?_
  (first | refine wp_ifP_eq 13 9 d_PM_wayAt_6 rfl (by decide) (fun h6 => ?_) (fun h6 => ?_) | refine wp_if_eq 13 9 d_PM_wayAt_6 rfl (by decide) (fun h6 => ?_) (fun h6 => ?_))
  · refine wp_aload_n 14 d_PM_wayAt_13 rfl rfl ?_
    refine wp_iconst 15 1 d_PM_wayAt_14 rfl (by decide) ?_
    refine wp_V1 18 M_PM_fail 1 d_PM_wayAt_15 rfl mv_PM_fail lk_PM_132 rfl rfl rfl rfl rfl ?_
    refine c_PM_fail ?_
    refine kI ?_
    refine wp_ireturn d_PM_wayAt_18 rfl ?_
    have e : wkF T W0 a b k = _ := (if_neg (fun z => h6 z.1))
    rw [e] at hq
    exact hq _ _ _ _ _ SO_
  · refine wp_iload_n 10 d_PM_wayAt_9 rfl rfl ?_
    refine wp_if_ge 19 13 d_PM_wayAt_10 rfl (by decide) (fun h10 => ?_) (fun h10 => ?_)
    · refine wp_aload_n 20 d_PM_wayAt_19 rfl rfl ?_
      refine wp_getfield 23 11 10 d_PM_wayAt_20 rfl fl_PM_67 rfl rfl ?_
      refine wp_aload_n 24 d_PM_wayAt_23 rfl rfl ?_
      refine wp_getfield 27 11 2 d_PM_wayAt_24 rfl fl_PM_25 rfl rfl ?_
      refine wp_iload_n 28 d_PM_wayAt_27 rfl rfl ?_
      refine wp_iload_n 29 d_PM_wayAt_28 rfl rfl ?_
      refine ws_V3 (v1' := .ref 4) (b' := 0) 32 M_Paths_find 15 [58, 59, 60, 61, 8, 9, 10, 11, 12, 13, 14, 15, 16] ((hWTr W0 T)) d_PM_wayAt_29 rfl mv_Paths_find lk_PM_362 rfl rfl rfl rfl rfl rfl rfl rfl (eV_int _ _) (eV_int _ _) rfl ?_
      refine c_findA I SO_.2.2.1 (inR_in h6.1 I.hP (by omega)) (fun w2 hw2 e1 e2 e3 => ?_)
      refine sV ?_
      simp only [putH, rC, sg, eV, List.map_cons, List.map_nil, List.set_cons_zero, List.set_cons_succ, List.length_cons, List.length_nil, List.getD_cons_zero, List.getD_cons_succ, Nat.zero_add, Nat.reduceAdd, Nat.reduceLT, if_true, ite_true]
      refine hEq (hPM Y X T S M D E N C U (w2) G L VL HL nK ST TP BT) rfl ?_
      refine wp_aload_n 33 d_PM_wayAt_32 rfl rfl ?_
      refine wp_getfield 36 11 10 d_PM_wayAt_33 rfl fl_PM_67 rfl rfl ?_
      refine wp_getfield 39 6 5 d_PM_wayAt_36 rfl fl_PM_366 rfl rfl ?_
      refine wp_iconst 40 (-1) d_PM_wayAt_39 rfl (by decide) ?_
      refine wp_icmp_eq 54 43 d_PM_wayAt_40 rfl (by decide) (fun h40 => ?_) (fun h40 => ?_)
      · refine wp_aload_n 55 d_PM_wayAt_54 rfl rfl ?_
        refine wp_bipush 57 6 d_PM_wayAt_55 rfl (by decide) ?_
        refine wp_V1 60 M_PM_fail 1 d_PM_wayAt_57 rfl mv_PM_fail lk_PM_132 rfl rfl rfl rfl rfl ?_
        refine c_PM_fail ?_
        refine kI ?_
        refine wp_ireturn d_PM_wayAt_60 rfl ?_
        rw [e2] at h40
        have e : wkF T W0 a b k = _ := ((if_pos ⟨h6, Int32.not_lt.mpr h10⟩).trans (if_pos (Or.inl h40)))
        rw [e] at hq
        exact hq _ _ _ _ _ ⟨SO_.1, SO_.2.1, hw2, SO_.2.2.2⟩
      · refine wp_iload_n 44 d_PM_wayAt_43 rfl rfl ?_
        refine wp_aload_n 45 d_PM_wayAt_44 rfl rfl ?_
        refine wp_getfield 48 11 10 d_PM_wayAt_45 rfl fl_PM_67 rfl rfl ?_
        refine wp_getfield 51 6 6 d_PM_wayAt_48 rfl fl_PM_369 rfl rfl ?_
        refine wp_icmp_lt 61 54 d_PM_wayAt_51 rfl (by decide) (fun h51 => ?_) (fun h51 => ?_)
        · refine wp_aload_n 62 d_PM_wayAt_61 rfl rfl ?_
          refine wp_aload_n 63 d_PM_wayAt_62 rfl rfl ?_
          refine wp_getfield 66 11 10 d_PM_wayAt_63 rfl fl_PM_67 rfl rfl ?_
          refine wp_getfield 69 6 2 d_PM_wayAt_66 rfl fl_PM_372 rfl rfl ?_
          refine wp_iload_n 70 d_PM_wayAt_69 rfl rfl ?_
          refine wp_iaload 71 d_PM_wayAt_70 rfl rfl (ix_of (Int32.not_lt.mpr h10) (by rw [e3] at h51; exact h51) (tWy_many T a b W0)) ?_
          refine wp_V1 74 M_PM_answer 1 d_PM_wayAt_71 rfl mv_PM_answer lk_PM_182 rfl rfl rfl rfl rfl ?_
          refine c_PM_answer ?_
          refine kI ?_
          refine wp_ireturn d_PM_wayAt_74 rfl ?_
          rw [e1]
          rw [e2] at h40
          rw [e3] at h51
          have e : wkF T W0 a b k = _ := ((if_pos ⟨h6, Int32.not_lt.mpr h10⟩).trans (if_neg (fun z => z.elim h40 (Int32.not_le.mpr h51))))
          rw [e] at hq
          exact hq _ _ _ _ _ ⟨SO_.1, SO_.2.1, hw2, SO_.2.2.2⟩
        · refine wp_aload_n 55 d_PM_wayAt_54 rfl rfl ?_
          refine wp_bipush 57 6 d_PM_wayAt_55 rfl (by decide) ?_
          refine wp_V1 60 M_PM_fail 1 d_PM_wayAt_57 rfl mv_PM_fail lk_PM_132 rfl rfl rfl rfl rfl ?_
          refine c_PM_fail ?_
          refine kI ?_
          refine wp_ireturn d_PM_wayAt_60 rfl ?_
          rw [e2] at h40
          rw [e3] at h51
          have e : wkF T W0 a b k = _ := ((if_pos ⟨h6, Int32.not_lt.mpr h10⟩).trans (if_pos (Or.inr (Int32.not_lt.mp h51))))
          rw [e] at hq
          exact hq _ _ _ _ _ ⟨SO_.1, SO_.2.1, hw2, SO_.2.2.2⟩
    · refine wp_aload_n 14 d_PM_wayAt_13 rfl rfl ?_
      refine wp_iconst 15 1 d_PM_wayAt_14 rfl (by decide) ?_
      refine wp_V1 18 M_PM_fail 1 d_PM_wayAt_15 rfl mv_PM_fail lk_PM_132 rfl rfl rfl rfl rfl ?_
      refine c_PM_fail ?_
      refine kI ?_
      refine wp_ireturn d_PM_wayAt_18 rfl ?_
      have e : wkF T W0 a b k = _ := (if_neg (fun z => z.2 (Int32.not_le.mp h10)))
      rw [e] at hq
      exact hq _ _ _ _ _ SO_

set_option maxRecDepth 100000 in
set_option maxHeartbeats 4000000 in
theorem l_PM_misread_29 {n k : Nat} (hn : n ≤ 12) : ∀ (r i : Nat) (w : Int64), i + r = n + 1 → WP Γ M_PM_misread 3 0 0 (hPM Y X T S M D E N C U W G L VL HL nK ST TP BT) 81 [some (.ref 0), some (.int (nI n)), some (.int (nI k)), some (.long (iterN (msG T.od n) r i w)), none, some (.int (nI (i + r)))] [] Q → WP Γ M_PM_misread 3 0 0 (hPM Y X T S M D E N C U W G L VL HL nK ST TP BT) 29 [some (.ref 0), some (.int (nI n)), some (.int (nI k)), some (.long w), none, some (.int (nI i))] [] Q := by
  intro r
  induction r with
  | zero =>
    intro i w hi hinv
    have hq := hinv
    refine wp_iload 31 d_PM_misread_29 rfl rfl ?_
    refine wp_iload_n 32 d_PM_misread_31 rfl rfl ?_
    refine wp_icmp_gt 81 35 d_PM_misread_32 rfl (by decide) (fun h32 => ?_) (fun h32 => ?_)
    · exact hq
    · exact absurd ((nI_ltI (a := n) (by omega) (by omega)).mpr (by omega)) h32
  | succ r ih =>
    intro i w hi hinv
    have hq := hinv
    refine wp_iload 31 d_PM_misread_29 rfl rfl ?_
    refine wp_iload_n 32 d_PM_misread_31 rfl rfl ?_
    refine wp_icmp_gt 81 35 d_PM_misread_32 rfl (by decide) (fun h32 => ?_) (fun h32 => ?_)
    · exact absurd (nI_ltN (a := n) h32 (by omega) (by omega)) (by omega)
    · refine wp_lload_n 36 d_PM_misread_35 rfl rfl ?_
      refine wp_iload_n 37 d_PM_misread_36 rfl rfl ?_
      refine wp_iload 39 d_PM_misread_37 rfl rfl ?_
      refine wp_S2 42 M_PM_choose 1 d_PM_misread_39 rfl ms_PM_choose lk_PM_396 rfl rfl ?_
      refine c_PM_choose (by omega) ?_
      refine kL ?_
      refine wp_aload_n 43 d_PM_misread_42 rfl rfl ?_
      refine wp_getfield 46 11 2 d_PM_misread_43 rfl fl_PM_25 rfl rfl ?_
      refine wp_getfield 49 8 11 d_PM_misread_46 rfl fl_PM_209 rfl rfl ?_
      refine wp_iload 51 d_PM_misread_49 rfl rfl ?_
      refine wp_S2 54 M_PM_power 1 d_PM_misread_51 rfl ms_PM_power lk_PM_400 rfl rfl ?_
      refine c_PM_power (by omega) ?_
      refine kL ?_
      refine wp_lmul 55 d_PM_misread_54 rfl ?_
      refine wp_bipush 57 16 d_PM_misread_55 rfl (by decide) ?_
      refine wp_aload_n 58 d_PM_misread_57 rfl rfl ?_
      refine wp_getfield 61 11 2 d_PM_misread_58 rfl fl_PM_25 rfl rfl ?_
      refine wp_getfield 64 8 11 d_PM_misread_61 rfl fl_PM_209 rfl rfl ?_
      refine wp_isub 65 d_PM_misread_64 rfl ?_
      refine wp_iload_n 66 d_PM_misread_65 rfl rfl ?_
      refine wp_iload 68 d_PM_misread_66 rfl rfl ?_
      refine wp_isub 69 d_PM_misread_68 rfl ?_
      refine wp_S2 72 M_PM_power 1 d_PM_misread_69 rfl ms_PM_power lk_PM_400 rfl rfl ?_
      rw [nI_subN (by omega : i ≤ n)]
      refine c_PM_power (by omega) ?_
      refine kL ?_
      refine wp_lmul 73 d_PM_misread_72 rfl ?_
      refine wp_ladd 74 d_PM_misread_73 rfl ?_
      refine wp_lstore_3 75 d_PM_misread_74 rfl rfl rfl ?_
      first | refine wp_iincN_5 78 d_PM_misread_75 rfl rfl rfl ?_ | refine wp_iinc_5 78 1 d_PM_misread_75 rfl (by decide) rfl rfl ?_
      refine wp_goto 29 d_PM_misread_78 (by decide) ?_
      exact ih (i + 1) _ (by omega) (by rw [show i + 1 + r = i + (r + 1) by omega]; exact hq)

set_option maxRecDepth 100000 in
set_option maxHeartbeats 4000000 in
theorem c_PM_misread {a b : Int32} (hq0 : ¬ (inR a 13 ∧ inR b 13) → Q (some (.int 0)) (hPM Y X T S M D E N C U W G L VL HL nK (1) TP BT)) (hq1 : inR a 13 ∧ inR b 13 → Q (some (.int 1)) (hPM Y X T S M D E N C U W G L VL HL nK (0) (frT (msF T.od a.toNatClampNeg b.toNatClampNeg) (pwF 16 a.toNatClampNeg) TP) (frB (msF T.od a.toNatClampNeg b.toNatClampNeg) (pwF 16 a.toNatClampNeg) BT))) : Call Γ M_PM_misread 3 0 0 [.ref 0, .int a, .int b] (hPM Y X T S M D E N C U W G L VL HL nK ST TP BT) Q := by
  refine call_intro (ls := [some (.ref 0), some (.int a), some (.int b), none, none, none]) rfl rfl rfl ?_
  refine wp_iload_n 1 d_PM_misread_0 rfl rfl ?_
  refine wp_bipush 3 13 d_PM_misread_1 rfl (by decide) ?_
  refine wp_S2 6 M_PM_within 1 d_PM_misread_3 rfl ms_PM_within lk_PM_108 rfl rfl ?_
  refine c_PM_within ?_
  refine kI ?_
  (first | refine wp_ifP_eq 18 9 d_PM_misread_6 rfl (by decide) (fun h6 => ?_) (fun h6 => ?_) | refine wp_if_eq 18 9 d_PM_misread_6 rfl (by decide) (fun h6 => ?_) (fun h6 => ?_))
  · refine wp_aload_n 19 d_PM_misread_18 rfl rfl ?_
    refine wp_iconst 20 1 d_PM_misread_19 rfl (by decide) ?_
    refine wp_V1 23 M_PM_refuse 1 d_PM_misread_20 rfl mv_PM_refuse lk_PM_112 rfl rfl rfl rfl rfl ?_
    refine c_PM_refuse ?_
    refine kI ?_
    refine wp_zreturn d_PM_misread_23 rfl (by first | rfl | exact nbP _) ?_
    exact hq0 (fun z => h6 z.1)
  · refine wp_iload_n 10 d_PM_misread_9 rfl rfl ?_
    refine wp_bipush 12 13 d_PM_misread_10 rfl (by decide) ?_
    refine wp_S2 15 M_PM_within 1 d_PM_misread_12 rfl ms_PM_within lk_PM_108 rfl rfl ?_
    refine c_PM_within ?_
    refine kI ?_
    (first | refine wp_ifP_ne 24 18 d_PM_misread_15 rfl (by decide) (fun h15 => ?_) (fun h15 => ?_) | refine wp_if_ne 24 18 d_PM_misread_15 rfl (by decide) (fun h15 => ?_) (fun h15 => ?_))
    · obtain ⟨m, hm, rfl⟩ := inR_ex (n := 13) h6 (by omega)
      obtain ⟨j, hj, rfl⟩ := inR_ex (n := 13) h15 (by omega)
      refine wp_lconst 25 0 d_PM_misread_24 rfl (by decide) ?_
      refine wp_lstore_3 26 d_PM_misread_25 rfl rfl rfl ?_
      refine wp_iload_n 27 d_PM_misread_26 rfl rfl ?_
      refine wp_istore_5 29 d_PM_misread_27 rfl rfl rfl ?_
      by_cases hjm : j ≤ m + 1
      · refine l_PM_misread_29 (by omega) (m + 1 - j) j 0 (by omega) ?_
        refine wp_aload_n 82 d_PM_misread_81 rfl rfl ?_
        refine wp_lload_n 83 d_PM_misread_82 rfl rfl ?_
        refine wp_bipush 85 16 d_PM_misread_83 rfl (by decide) ?_
        refine wp_iload_n 86 d_PM_misread_85 rfl rfl ?_
        refine wp_S2 89 M_PM_power 1 d_PM_misread_86 rfl ms_PM_power lk_PM_400 rfl rfl ?_
        refine c_PM_power (by omega) ?_
        refine kL ?_
        refine wp_V2 92 M_PM_acceptFraction 2 d_PM_misread_89 rfl mv_PM_acceptFraction lk_PM_348 rfl rfl rfl rfl rfl ?_
        refine c_PM_acceptFraction ?_
        refine kI ?_
        refine wp_zreturn d_PM_misread_92 rfl (by first | rfl | exact nbP _) ?_
        have h9 := hq1 ⟨h6, h15⟩
        rw [nI_clamp (by omega : m < 2 ^ 31), nI_clamp (by omega : j < 2 ^ 31)] at h9
        exact h9
      · refine wp_iload 31 d_PM_misread_29 rfl rfl ?_
        refine wp_iload_n 32 d_PM_misread_31 rfl rfl ?_
        refine wp_icmp_gt 81 35 d_PM_misread_32 rfl (by decide) (fun h32 => ?_) (fun h32 => absurd ((nI_ltI (a := m) (by omega) (by omega)).mpr (by omega)) h32)
        refine wp_aload_n 82 d_PM_misread_81 rfl rfl ?_
        refine wp_lload_n 83 d_PM_misread_82 rfl rfl ?_
        refine wp_bipush 85 16 d_PM_misread_83 rfl (by decide) ?_
        refine wp_iload_n 86 d_PM_misread_85 rfl rfl ?_
        refine wp_S2 89 M_PM_power 1 d_PM_misread_86 rfl ms_PM_power lk_PM_400 rfl rfl ?_
        refine c_PM_power (by omega) ?_
        refine kL ?_
        refine wp_V2 92 M_PM_acceptFraction 2 d_PM_misread_89 rfl mv_PM_acceptFraction lk_PM_348 rfl rfl rfl rfl rfl ?_
        refine c_PM_acceptFraction ?_
        refine kI ?_
        refine wp_zreturn d_PM_misread_92 rfl (by first | rfl | exact nbP _) ?_
        have h9 := hq1 ⟨h6, h15⟩
        rw [nI_clamp (by omega : m < 2 ^ 31), nI_clamp (by omega : j < 2 ^ 31)] at h9
        rw [show msF T.od m j = 0 from by unfold msF; rw [show m + 1 - j = 0 by omega]; rfl] at h9
        exact h9
    · refine wp_aload_n 19 d_PM_misread_18 rfl rfl ?_
      refine wp_iconst 20 1 d_PM_misread_19 rfl (by decide) ?_
      refine wp_V1 23 M_PM_refuse 1 d_PM_misread_20 rfl mv_PM_refuse lk_PM_112 rfl rfl rfl rfl rfl ?_
      refine c_PM_refuse ?_
      refine kI ?_
      refine wp_zreturn d_PM_misread_23 rfl (by first | rfl | exact nbP _) ?_
      exact hq0 (fun z => h15 z.2)

set_option maxRecDepth 100000 in
set_option maxHeartbeats 4000000 in
theorem c_PM_share {w : Int32} (I : tOK T) (hq0 : ∀ v : Int32, (¬ inR w (nI T.nW) ∧ v = 1) ∨ (inR w (nI T.nW) ∧ shA T = 0 ∧ v = 6) → Q (some (.int 0)) (hPM Y X T S M D E N C U W G L VL HL nK (v) TP BT)) (hq1 : inR w (nI T.nW) → ¬ shA T = 0 → Q (some (.int 1)) (hPM Y X T S M D E N C U W G L VL HL nK (0) (frT (shB T w).toInt64 (shA T).toInt64 TP) (frB (shB T w).toInt64 (shA T).toInt64 BT))) : Call Γ M_PM_share 4 0 0 [.ref 0, .int w] (hPM Y X T S M D E N C U W G L VL HL nK ST TP BT) Q := by
  refine call_intro (ls := [some (.ref 0), some (.int w), none]) rfl rfl rfl ?_
  refine wp_iload_n 1 d_PM_share_0 rfl rfl ?_
  refine wp_aload_n 2 d_PM_share_1 rfl rfl ?_
  refine wp_getfield 5 11 2 d_PM_share_2 rfl fl_PM_25 rfl rfl ?_
  refine wp_getfield 8 8 9 d_PM_share_5 rfl fl_PM_206 rfl rfl ?_
  refine wp_S2 11 M_PM_within 1 d_PM_share_8 rfl ms_PM_within lk_PM_108 rfl rfl ?_
  refine c_PM_within ?_
  refine kI ?_
  (first | refine wp_ifP_ne 20 14 d_PM_share_11 rfl (by decide) (fun h11 => ?_) (fun h11 => ?_) | refine wp_if_ne 20 14 d_PM_share_11 rfl (by decide) (fun h11 => ?_) (fun h11 => ?_))
  · refine wp_aload_n 21 d_PM_share_20 rfl rfl ?_
    refine wp_getfield 24 11 2 d_PM_share_21 rfl fl_PM_25 rfl rfl ?_
    refine wp_aload_n 25 d_PM_share_24 rfl rfl ?_
    refine wp_getfield 28 11 2 d_PM_share_25 rfl fl_PM_25 rfl rfl ?_
    refine ws_V0 (b' := 0) 31 M_Town_legsThere 1 [8, 9, 10, 11, 12, 13, 14, 15, 16] ((hTr T)) d_PM_share_28 rfl mv_Town_legsThere lk_PM_285 rfl rfl rfl rfl rfl rfl rfl rfl ?_
    refine c_Town_legsThere ?_
    refine sIr rfl rfl ?_
    refine ws_V1 (b' := 0) 34 M_Town_yardsOf 3 [8, 9, 10, 11, 12, 13, 14, 15, 16] ((hTr T)) d_PM_share_31 rfl mv_Town_yardsOf lk_PM_403 rfl rfl rfl rfl rfl rfl rfl (eV_int _ _) rfl ?_
    refine c_Town_yardsOf I.hL I.te ?_
    refine sIr rfl rfl ?_
    refine wp_istore_2 35 d_PM_share_34 rfl rfl rfl ?_
    refine wp_iload_n 36 d_PM_share_35 rfl rfl ?_
    refine wp_if_ne 46 39 d_PM_share_36 rfl (by decide) (fun h36 => ?_) (fun h36 => ?_)
    · refine wp_aload_n 47 d_PM_share_46 rfl rfl ?_
      refine wp_aload_n 48 d_PM_share_47 rfl rfl ?_
      refine wp_getfield 51 11 2 d_PM_share_48 rfl fl_PM_25 rfl rfl ?_
      refine wp_aload_n 52 d_PM_share_51 rfl rfl ?_
      refine wp_getfield 55 11 2 d_PM_share_52 rfl fl_PM_25 rfl rfl ?_
      refine ws_V0 (b' := 0) 58 M_Town_legsThere 1 [8, 9, 10, 11, 12, 13, 14, 15, 16] ((hTr T)) d_PM_share_55 rfl mv_Town_legsThere lk_PM_285 rfl rfl rfl rfl rfl rfl rfl rfl ?_
      refine c_Town_legsThere ?_
      refine sIr rfl rfl ?_
      refine wp_aload_n 59 d_PM_share_58 rfl rfl ?_
      refine wp_getfield 62 11 2 d_PM_share_59 rfl fl_PM_25 rfl rfl ?_
      refine wp_iload_n 63 d_PM_share_62 rfl rfl ?_
      refine ws_V1 (b' := 0) 66 M_Town_legsToldBy 1 [8, 9, 10, 11, 12, 13, 14, 15, 16] ((hTr T)) d_PM_share_63 rfl mv_Town_legsToldBy lk_PM_236 rfl rfl rfl rfl rfl rfl rfl (eV_int _ _) rfl ?_
      refine c_Town_legsToldBy I.hL ?_
      refine sIr rfl rfl ?_
      refine wp_iand 67 d_PM_share_66 rfl ?_
      refine ws_V1 (b' := 0) 70 M_Town_yardsOf 3 [8, 9, 10, 11, 12, 13, 14, 15, 16] ((hTr T)) d_PM_share_67 rfl mv_Town_yardsOf lk_PM_403 rfl rfl rfl rfl rfl rfl rfl (eV_int _ _) rfl ?_
      refine c_Town_yardsOf I.hL I.te ?_
      refine sIr rfl rfl ?_
      refine wp_i2l 71 d_PM_share_70 rfl ?_
      refine wp_iload_n 72 d_PM_share_71 rfl rfl ?_
      refine wp_i2l 73 d_PM_share_72 rfl ?_
      refine wp_V2 76 M_PM_acceptFraction 2 d_PM_share_73 rfl mv_PM_acceptFraction lk_PM_348 rfl rfl rfl rfl rfl ?_
      refine c_PM_acceptFraction ?_
      refine kI ?_
      refine wp_zreturn d_PM_share_76 rfl (by first | rfl | exact nbP _) ?_
      exact hq1 h11 h36
    · refine wp_aload_n 40 d_PM_share_39 rfl rfl ?_
      refine wp_bipush 42 6 d_PM_share_40 rfl (by decide) ?_
      refine wp_V1 45 M_PM_refuse 1 d_PM_share_42 rfl mv_PM_refuse lk_PM_112 rfl rfl rfl rfl rfl ?_
      refine c_PM_refuse ?_
      refine kI ?_
      refine wp_zreturn d_PM_share_45 rfl (by first | rfl | exact nbP _) ?_
      exact hq0 6 (Or.inr ⟨h11, h36, rfl⟩)
  · refine wp_aload_n 15 d_PM_share_14 rfl rfl ?_
    refine wp_iconst 16 1 d_PM_share_15 rfl (by decide) ?_
    refine wp_V1 19 M_PM_refuse 1 d_PM_share_16 rfl mv_PM_refuse lk_PM_112 rfl rfl rfl rfl rfl ?_
    refine c_PM_refuse ?_
    refine kI ?_
    refine wp_zreturn d_PM_share_19 rfl (by first | rfl | exact nbP _) ?_
    exact hq0 1 (Or.inl ⟨h11, rfl⟩)

set_option maxRecDepth 100000 in
set_option maxHeartbeats 4000000 in
theorem c_PM_lived {w : Int32} (hq : Q (some (.int (ldF VL HL w).2)) (hPM Y X T S M D E N C U W G L VL HL nK ((ldF VL HL w).1) TP BT)) : Call Γ M_PM_lived 2 0 0 [.ref 0, .int w] (hPM Y X T S M D E N C U W G L VL HL nK ST TP BT) Q := by
  refine call_intro (ls := [some (.ref 0), some (.int w)]) rfl rfl rfl ?_
  refine wp_iload_n 1 d_PM_lived_0 rfl rfl ?_
  refine wp_iconst 2 5 d_PM_lived_1 rfl (by decide) ?_
  refine wp_S2 5 M_PM_within 1 d_PM_lived_2 rfl ms_PM_within lk_PM_108 rfl rfl ?_
  refine c_PM_within ?_
  refine kI ?_
  (first | refine wp_ifP_ne 14 8 d_PM_lived_5 rfl (by decide) (fun h5 => ?_) (fun h5 => ?_) | refine wp_if_ne 14 8 d_PM_lived_5 rfl (by decide) (fun h5 => ?_) (fun h5 => ?_))
  · refine wp_aload_n 15 d_PM_lived_14 rfl rfl ?_
    refine wp_getfield 18 11 14 d_PM_lived_15 rfl fl_PM_89 rfl rfl ?_
    refine wp_if_eq 34 21 d_PM_lived_18 rfl (by decide) (fun h18 => ?_) (fun h18 => ?_)
    · refine wp_aload_n 35 d_PM_lived_34 rfl rfl ?_
      refine wp_bipush 37 6 d_PM_lived_35 rfl (by decide) ?_
      refine wp_V1 40 M_PM_fail 1 d_PM_lived_37 rfl mv_PM_fail lk_PM_132 rfl rfl rfl rfl rfl ?_
      refine c_PM_fail ?_
      refine kI ?_
      refine wp_ireturn d_PM_lived_40 rfl ?_
      have e : ldF VL HL w = _ := ((if_pos h5).trans (if_pos h18))
      rw [e] at hq
      exact hq
    · refine wp_aload_n 22 d_PM_lived_21 rfl rfl ?_
      refine wp_aload_n 23 d_PM_lived_22 rfl rfl ?_
      refine wp_getfield 26 11 13 d_PM_lived_23 rfl fl_PM_85 rfl rfl ?_
      refine wp_iload_n 27 d_PM_lived_26 rfl rfl ?_
      refine wp_iaload 28 d_PM_lived_27 rfl rfl (inR_in (n := 5) h5 (by omega) (by omega)) ?_
      refine wp_V1 31 M_PM_answer 1 d_PM_lived_28 rfl mv_PM_answer lk_PM_182 rfl rfl rfl rfl rfl ?_
      refine c_PM_answer ?_
      refine kI ?_
      refine wp_goto 40 d_PM_lived_31 (by decide) ?_
      refine wp_ireturn d_PM_lived_40 rfl ?_
      have e : ldF VL HL w = _ := ((if_pos h5).trans (if_neg h18))
      rw [e] at hq
      exact hq
  · refine wp_aload_n 9 d_PM_lived_8 rfl rfl ?_
    refine wp_iconst 10 1 d_PM_lived_9 rfl (by decide) ?_
    refine wp_V1 13 M_PM_fail 1 d_PM_lived_10 rfl mv_PM_fail lk_PM_132 rfl rfl rfl rfl rfl ?_
    refine c_PM_fail ?_
    refine kI ?_
    refine wp_ireturn d_PM_lived_13 rfl ?_
    have e : ldF VL HL w = _ := (if_neg h5)
    rw [e] at hq
    exact hq

set_option maxRecDepth 100000 in
set_option maxHeartbeats 4000000 in
theorem c_PM_live {sd : Int32} (I : tOK T) (J : dOK D) (SO_ : SO C U W L) (hq0 : ∀ v : Int32, (¬ inR sd 10000 ∧ v = 1) ∨ (inR sd 10000 ∧ D.dth = 0 ∧ v = 6) → Q (some (.int (-1))) (hPM Y X T S M D E N C U W G L VL HL nK (v) TP BT)) (hq1 : inR sd 10000 → ¬ D.dth = 0 → ∀ l2, SO C U W l2 → l2.lco = (tLv T D sd L.lco L.lro).2.2.2.2.2.1 → l2.lro = (tLv T D sd L.lco L.lro).2.2.2.2.2.2.1 → Q (some (.int (tLv T D sd L.lco L.lro).1)) (hPM Y X (tLt T (tLv T D sd L.lco L.lro).2) S M D E N C U W G (l2) (va_cpy (tLv T D sd L.lco L.lro).2.2.2.2.2.1 VL 0 0 5) (1) nK (0) TP BT)) : Call Γ M_PM_live 8 0 0 [.ref 0, .int sd] (hPM Y X T S M D E N C U W G L VL HL nK ST TP BT) Q := by
  refine call_intro (ls := [some (.ref 0), some (.int sd)]) rfl rfl rfl ?_
  refine wp_iload_n 1 d_PM_live_0 rfl rfl ?_
  refine wp_sipush 4 10000 d_PM_live_1 rfl (by decide) ?_
  refine wp_S2 7 M_PM_within 1 d_PM_live_4 rfl ms_PM_within lk_PM_108 rfl rfl ?_
  refine c_PM_within ?_
  refine kI ?_
  (first | refine wp_ifP_ne 16 10 d_PM_live_7 rfl (by decide) (fun h7 => ?_) (fun h7 => ?_) | refine wp_if_ne 16 10 d_PM_live_7 rfl (by decide) (fun h7 => ?_) (fun h7 => ?_))
  · refine wp_aload_n 17 d_PM_live_16 rfl rfl ?_
    refine wp_getfield 20 11 4 d_PM_live_17 rfl fl_PM_35 rfl rfl ?_
    refine wp_getfield 23 1 3 d_PM_live_20 rfl fl_PM_410 rfl rfl ?_
    refine wp_if_ne 33 26 d_PM_live_23 rfl (by decide) (fun h23 => ?_) (fun h23 => ?_)
    · refine wp_aload_n 34 d_PM_live_33 rfl rfl ?_
      refine wp_getfield 37 11 12 d_PM_live_34 rfl fl_PM_81 rfl rfl ?_
      refine wp_aload_n 38 d_PM_live_37 rfl rfl ?_
      refine wp_getfield 41 11 2 d_PM_live_38 rfl fl_PM_25 rfl rfl ?_
      refine wp_aload_n 42 d_PM_live_41 rfl rfl ?_
      refine wp_getfield 45 11 4 d_PM_live_42 rfl fl_PM_35 rfl rfl ?_
      refine wp_iload_n 46 d_PM_live_45 rfl rfl ?_
      refine ws_V3 (v1' := .ref 11) (v2' := .ref 20) (b' := 0) 49 M_Life_run 7 [65, 66, 67, 68, 69, 70, 71, 72, 73, 74, 75, 8, 9, 10, 11, 12, 13, 14, 15, 16, 26, 27, 28, 29] ((hLTDr L T D)) d_PM_live_46 rfl mv_Life_run lk_PM_411 rfl rfl rfl rfl rfl rfl rfl rfl rfl (eV_int _ _) rfl ?_
      refine c_runA I J SO_.2.2.2 (fun l2 hl2 e1 e2 e3 => ?_)
      refine sV ?_
      simp only [putH, rC, sg, eV, List.map_cons, List.map_nil, List.set_cons_zero, List.set_cons_succ, List.length_cons, List.length_nil, List.getD_cons_zero, List.getD_cons_succ, Nat.zero_add, Nat.reduceAdd, Nat.reduceLT, if_true, ite_true]
      refine hEq (hPM Y X (tLt T (tLv T D sd L.lco L.lro).2) S M D E N C U W G (l2) VL HL nK ST TP BT) rfl ?_
      refine wp_aload_n 50 d_PM_live_49 rfl rfl ?_
      refine wp_getfield 53 11 12 d_PM_live_50 rfl fl_PM_81 rfl rfl ?_
      refine wp_getfield 56 5 1 d_PM_live_53 rfl fl_PM_415 rfl rfl ?_
      refine wp_iconst 57 0 d_PM_live_56 rfl (by decide) ?_
      refine wp_aload_n 58 d_PM_live_57 rfl rfl ?_
      refine wp_getfield 61 11 13 d_PM_live_58 rfl fl_PM_85 rfl rfl ?_
      refine wp_iconst 62 0 d_PM_live_61 rfl (by decide) ?_
      refine wp_iconst 63 5 d_PM_live_62 rfl (by decide) ?_
      refine wp_acopyI (i := 0) (j := 0) (n := 5) 66 d_PM_live_63 rfl lk_PM_149 rfl rfl ⟨rfl, rfl⟩ (by decide) (by decide) (by decide) rfl ?_
      dsimp only [List.set]
      refine hEq (hPM Y X (tLt T (tLv T D sd L.lco L.lro).2) S M D E N C U W G (l2) (va_cpy l2.lco VL 0 0 5) HL nK ST TP BT) rfl ?_
      refine wp_aload_n 67 d_PM_live_66 rfl rfl ?_
      refine wp_iconst 68 1 d_PM_live_67 rfl (by decide) ?_
      refine wp_putfield 71 11 14 _ d_PM_live_68 rfl fp_PM_89 rfl rfl (fun _ => ⟨rfl, rfl⟩) ?_
      refine hEq (hPM Y X (tLt T (tLv T D sd L.lco L.lro).2) S M D E N C U W G (l2) (va_cpy l2.lco VL 0 0 5) (1) nK ST TP BT) rfl ?_
      refine wp_aload_n 72 d_PM_live_71 rfl rfl ?_
      refine wp_aload_n 73 d_PM_live_72 rfl rfl ?_
      refine wp_getfield 76 11 12 d_PM_live_73 rfl fl_PM_81 rfl rfl ?_
      refine wp_getfield 79 5 3 d_PM_live_76 rfl fl_PM_418 rfl rfl ?_
      refine wp_V1 82 M_PM_answer 1 d_PM_live_79 rfl mv_PM_answer lk_PM_182 rfl rfl rfl rfl rfl ?_
      refine c_PM_answer ?_
      refine kI ?_
      refine wp_ireturn d_PM_live_82 rfl ?_
      rw [e3]
      rw [e1]
      exact hq1 h7 h23 _ ⟨SO_.1, SO_.2.1, SO_.2.2.1, hl2⟩ e1 e2
    · refine wp_aload_n 27 d_PM_live_26 rfl rfl ?_
      refine wp_bipush 29 6 d_PM_live_27 rfl (by decide) ?_
      refine wp_V1 32 M_PM_fail 1 d_PM_live_29 rfl mv_PM_fail lk_PM_132 rfl rfl rfl rfl rfl ?_
      refine c_PM_fail ?_
      refine kI ?_
      refine wp_ireturn d_PM_live_32 rfl ?_
      exact hq0 6 (Or.inr ⟨h7, h23, rfl⟩)
  · refine wp_aload_n 11 d_PM_live_10 rfl rfl ?_
    refine wp_iconst 12 1 d_PM_live_11 rfl (by decide) ?_
    refine wp_V1 15 M_PM_fail 1 d_PM_live_12 rfl mv_PM_fail lk_PM_132 rfl rfl rfl rfl rfl ?_
    refine c_PM_fail ?_
    refine kI ?_
    refine wp_ireturn d_PM_live_15 rfl ?_
    exact hq0 1 (Or.inl ⟨h7, rfl⟩)

end T56
