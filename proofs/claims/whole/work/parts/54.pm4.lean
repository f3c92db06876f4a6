/-! ===== the class: what is done; TRAYS ===== -/
def f4 (b : Nat → Int32) (n : Nat) (v : Int32) : Nat → Int32 := upd (upd (upd (upd b n (byt v 24)) (n + 1) (byt v 16)) (n + 2) (byt v 8)) (n + 3) (byt v 0)
def xF (X : XT) (v : Int32) : XT := (XT.mk (f4 X.by_ X.nF v) X.co (X.nF + 4) X.fk X.fp X.ki X.st X.va X.le X.to X.at_ X.kd X.vl X.wo X.tk X.na)
def feX (X : XT) (a b c d e : Int32) : XT := xF (xF (xF (xF (xF X a) b) c) d) e
def faF (X : XT) (w : Int32) : Int32 := if w = 0 then X.fk else if w = 1 then X.fp else -1
def tSe (T : TW) (l : Nat) (v : Int32) : TW := (TW.mk T.pn T.wn T.fa T.te T.fr T.to_ (upd T.ea l v) T.no T.nP T.nW T.nL T.od T.sk T.sd T.go)
def tSn (T : TW) (l : Nat) (v : Int32) : TW := (TW.mk T.pn T.wn T.fa T.te T.fr T.to_ T.ea (upd T.no l v) T.nP T.nW T.nL T.od T.sk T.sd T.go)
def tSk (T : TW) (v : Int32) : TW := (TW.mk T.pn T.wn T.fa T.te T.fr T.to_ T.ea T.no T.nP T.nW T.nL T.od (v) T.sd T.go)
def tSf (T : TW) (w : Nat) (v : Int32) : TW := (TW.mk T.pn T.wn (upd T.fa w v) T.te T.fr T.to_ T.ea T.no T.nP T.nW T.nL T.od T.sk T.sd T.go)
def tSg (T : TW) (a b : Int32) : TW := (TW.mk T.pn T.wn T.fa T.te T.fr T.to_ T.ea T.no T.nP T.nW T.nL T.od T.sk (a) (b))
abbrev RT : Type := Int32 × Int32 × TW

def paT (T : TW) (w p q e n : Int32) : TW := (TW.mk T.pn T.wn T.fa (upd T.te T.nL w) (upd T.fr T.nL p) (upd T.to_ T.nL q) (upd (upd T.ea T.nL 0) T.nL e) (upd (upd T.no T.nL 0) T.nL n) T.nP T.nW (T.nL + 1) T.od T.sk T.sd T.go)
def teT (T : TW) (l : Nat) (e n : Int32) : TW := (TW.mk T.pn T.wn T.fa T.te T.fr T.to_ (upd T.ea l e) (upd T.no l n) T.nP T.nW T.nL T.od T.sk T.sd T.go)
def paF (T : TW) (w p q e n : Int32) : RT := if inR w (nI T.nW) ∧ isTw T p q ∧ isPa e ∧ isPa n then (if T.nL < 12 then (nI T.nL, 0, paT T w p q e n) else (-1, 4, T)) else (-1, 1, T)
def teF (T : TW) (l e n : Int32) : RT := if inR l (nI T.nL) ∧ isPa e ∧ isPa n then (1, 0, teT T l.toNatClampNeg e n) else (0, 1, T)
def stF (T : TW) (l : Int32) : RT := if inR l (nI T.nL) then (if hs T.sk l then (-1, 7, T) else (bcR (T.sk ||| bit l), 0, tSk T (T.sk ||| bit l))) else (-1, 1, T)
def rsF (T : TW) (l : Int32) : RT := if inR l (nI T.nL) then (if hs T.sk l then (bcR (T.sk &&& (bit l ^^^ (-1))), 0, tSk T (T.sk &&& (bit l ^^^ (-1)))) else (-1, 7, T)) else (-1, 1, T)
def blF (T : TW) (w f : Int32) : RT := if inR w (nI T.nW) ∧ inR f 24 then (T.fa w.toNatClampNeg, 0, tSf T w.toNatClampNeg f) else (-1, 1, T)
def seF (T : TW) : RT := if T.nP < 7 then (nI T.nP, 0, aP T 0) else (-1, 4, T)
def goD (T : TW) (l : Int32) : Int32 := if T.sd = T.fr l.toNatClampNeg then T.to_ l.toNatClampNeg else T.fr l.toNatClampNeg
def goF (T : TW) (l : Int32) : RT := if inR l (nI T.nL) then (if canGo T.fr T.to_ (nI T.nL) T.sk T.sd l then (goD T l, 0, tSg T (goD T l) (T.go + yA T.ea T.no T.fa T.te l.toNatClampNeg)) else (-1, 7, T)) else (-1, 1, T)
def ruF (T : TW) (a : Int32) : RT := if inR a 17 then (1, 0, tSo T a) else (0, 1, T)
def yB (y : YT) (s : Int32) (m : Nat) : YT := (YT.mk (fun j => if j < 60 then 0 else y.yn j) (1) (s) (m))
def yP (y : YT) (p : Int32) (v : Int64) : YT := (YT.mk (if inR p (nI y.nM) then vp_updL y.yn p.toNatClampNeg (cutR y.yso v) else y.yn) y.yth y.yso y.nM)
abbrev RY : Type := Int32 × Int32 × (Nat → YT)
def trF (Y : Nat → YT) (a b c : Int32) : RY := if inR a 4 ∧ inR b 4 ∧ inR c 61 then (1, 0, updY Y a.toNatClampNeg (yB (Y a.toNatClampNeg) b c.toNatClampNeg)) else (0, 1, Y)
def wrF (Y : Nat → YT) (a b : Int32) (v : Int64) : RY := if spF Y a b = 0 then (1, 0, updY Y a.toNatClampNeg (yP (Y a.toNatClampNeg) b v)) else (0, spF Y a b, Y)
def rdF (Y : Nat → YT) (a b : Int32) : Int64 × Int32 := if spF Y a b = 0 then ((Y a.toNatClampNeg).yn b.toNatClampNeg, 0) else (-1, spF Y a b)
theorem updY_same {α : Type} {Y : Nat → α} {k : Nat} {y : α} : updY Y k y k = y := if_pos rfl
theorem le20 {n : Nat} (h : n ≤ 900) : nI n + 20 ≤ 900 ↔ n + 20 ≤ 900 := by
  have : nI n + 20 = nI (n + 20) := nI_add n 20
  rw [this]
  exact nI_leI (b := 900) (by omega) (by omega)
section T54
variable {Γ : Gm} {Q : Option Value → LH → Prop} {Y : Nat → YT} {X : XT} {T S : TW} {M : Nat → TW} {D E : DW} {N : Nat → DW} {C : CH} {U : UT} {W : WT} {G : GT} {L : LT} {VL : Nat → Int32} {HL ST : Int32} {nK : Nat} {TP BT : Int64}
set_option maxRecDepth 100000 in
set_option maxHeartbeats 4000000 in
theorem c_PM_status (hq : Q (some (.int ST)) (hPM Y X T S M D E N C U W G L VL HL nK ST TP BT)) : Call Γ M_PM_status 1 0 0 [.ref 0] (hPM Y X T S M D E N C U W G L VL HL nK ST TP BT) Q := by
  refine call_intro (ls := [some (.ref 0)]) rfl rfl rfl ?_
  refine wp_aload_n 1 d_PM_status_0 rfl rfl ?_
  refine wp_getfield 4 11 16 d_PM_status_1 rfl fl_PM_97 rfl rfl ?_
  refine wp_ireturn d_PM_status_4 rfl ?_
  exact hq

set_option maxRecDepth 100000 in
set_option maxHeartbeats 4000000 in
theorem c_PM_top (hq : Q (some (.long TP)) (hPM Y X T S M D E N C U W G L VL HL nK ST TP BT)) : Call Γ M_PM_top 1 0 0 [.ref 0] (hPM Y X T S M D E N C U W G L VL HL nK ST TP BT) Q := by
  refine call_intro (ls := [some (.ref 0)]) rfl rfl rfl ?_
  refine wp_aload_n 1 d_PM_top_0 rfl rfl ?_
  refine wp_getfield 4 11 17 d_PM_top_1 rfl fl_PM_100 rfl rfl ?_
  refine wp_lreturn d_PM_top_4 rfl ?_
  exact hq

set_option maxRecDepth 100000 in
set_option maxHeartbeats 4000000 in
theorem c_PM_bottom (hq : Q (some (.long BT)) (hPM Y X T S M D E N C U W G L VL HL nK ST TP BT)) : Call Γ M_PM_bottom 1 0 0 [.ref 0] (hPM Y X T S M D E N C U W G L VL HL nK ST TP BT) Q := by
  refine call_intro (ls := [some (.ref 0)]) rfl rfl rfl ?_
  refine wp_aload_n 1 d_PM_bottom_0 rfl rfl ?_
  refine wp_getfield 4 11 18 d_PM_bottom_1 rfl fl_PM_104 rfl rfl ?_
  refine wp_lreturn d_PM_bottom_4 rfl ?_
  exact hq

set_option maxRecDepth 100000 in
set_option maxHeartbeats 4000000 in
theorem c_PM_fault {w : Int32} (hq : Q (some (.int (faF X w))) (hPM Y X T S M D E N C U W G L VL HL nK ST TP BT)) : Call Γ M_PM_fault 1 0 0 [.ref 0, .int w] (hPM Y X T S M D E N C U W G L VL HL nK ST TP BT) Q := by
  refine call_intro (ls := [some (.ref 0), some (.int w)]) rfl rfl rfl ?_
  refine wp_iload_n 1 d_PM_fault_0 rfl rfl ?_
  refine wp_if_ne 12 4 d_PM_fault_1 rfl (by decide) (fun h1 => ?_) (fun h1 => ?_)
  · refine wp_iload_n 13 d_PM_fault_12 rfl rfl ?_
    refine wp_iconst 14 1 d_PM_fault_13 rfl (by decide) ?_
    refine wp_icmp_ne 27 17 d_PM_fault_14 rfl (by decide) (fun h14 => ?_) (fun h14 => ?_)
    · refine wp_iconst 28 (-1) d_PM_fault_27 rfl (by decide) ?_
      refine wp_ireturn d_PM_fault_28 rfl ?_
      rw [show faF X w = _ from (if_neg h1).trans (if_neg h14)] at hq
      exact hq
    · refine wp_aload_n 18 d_PM_fault_17 rfl rfl ?_
      refine wp_getfield 21 11 1 d_PM_fault_18 rfl fl_PM_18 rfl rfl ?_
      refine wp_getfield 24 7 15 d_PM_fault_21 rfl fl_PM_200 rfl rfl ?_
      refine wp_goto 28 d_PM_fault_24 (by decide) ?_
      refine wp_ireturn d_PM_fault_28 rfl ?_
      rw [show faF X w = _ from (if_neg h1).trans (if_pos h14)] at hq
      exact hq
  · refine wp_aload_n 5 d_PM_fault_4 rfl rfl ?_
    refine wp_getfield 8 11 1 d_PM_fault_5 rfl fl_PM_18 rfl rfl ?_
    refine wp_getfield 11 7 14 d_PM_fault_8 rfl fl_PM_197 rfl rfl ?_
    refine wp_ireturn d_PM_fault_11 rfl ?_
    rw [show faF X w = _ from if_pos h1] at hq
    exact hq

theorem wf4 (q : Nat) {pc : Nat} {v : Int32} {ls : Lo} {st : List Value} (hF : X.nF + 4 ≤ 900) (hd : decode M_PM_feed.2.1 pc = .ok (.invokevirtual 158, 3)) (hp : pc + 3 = q) (hst : Nat.ble (st.map Value.category).sum 8 = true) (k : WP Γ M_PM_feed 2 0 0 (hPM Y (xF X v) T S M D E N C U W G L VL HL nK ST TP BT) q ls st Q) : WP Γ M_PM_feed 2 0 0 (hPM Y X T S M D E N C U W G L VL HL nK ST TP BT) pc ls (.int v :: .ref 2 :: st) Q := by
  refine ws_V1 (b' := 0) q M_Text_feedFour 1 [2, 3, 4, 5, 6, 7] (hXr X) hd hp mv_Text_feedFour lk_PM_158 rfl rfl rfl rfl rfl rfl rfl (eV_int _ _) hst ?_
  refine c_Text_feedFour (nF := X.nF) hF ?_
  refine sV ?_
  simp only [putH, rC, sg, eV, List.map_cons, List.map_nil, List.set_cons_zero, List.set_cons_succ, List.length_cons, List.length_nil, List.getD_cons_zero, List.getD_cons_succ, Nat.zero_add, Nat.reduceAdd, Nat.reduceLT, if_true, ite_true]
  refine hEq (hPM Y (xF X v) T S M D E N C U W G L VL HL nK ST TP BT) rfl ?_
  exact k
set_option maxRecDepth 100000 in
set_option maxHeartbeats 4000000 in
theorem c_PM_feed {a b c d e : Int32} (hF : X.nF ≤ 900) (hq1 : X.nF + 20 ≤ 900 → Q (some (.int (nI (feX X a b c d e).nF))) (hPM Y (feX X a b c d e) T S M D E N C U W G L VL HL nK ST TP BT)) (hq0 : ¬ X.nF + 20 ≤ 900 → Q (some (.int (-1))) (hPM Y X T S M D E N C U W G L VL HL nK ST TP BT)) : Call Γ M_PM_feed 2 0 0 [.ref 0, .int a, .int b, .int c, .int d, .int e] (hPM Y X T S M D E N C U W G L VL HL nK ST TP BT) Q := by
  refine call_intro (ls := [some (.ref 0), some (.int a), some (.int b), some (.int c), some (.int d), some (.int e)]) rfl rfl rfl ?_
  refine wp_aload_n 1 d_PM_feed_0 rfl rfl ?_
  refine wp_getfield 4 11 1 d_PM_feed_1 rfl fl_PM_18 rfl rfl ?_
  refine wp_getfield 7 7 5 d_PM_feed_4 rfl fl_PM_155 rfl rfl ?_
  refine wp_bipush 9 20 d_PM_feed_7 rfl (by decide) ?_
  refine wp_iadd 10 d_PM_feed_9 rfl ?_
  refine wp_sipush 13 900 d_PM_feed_10 rfl (by decide) ?_
  refine wp_icmp_le 18 16 d_PM_feed_13 rfl (by decide) (fun h13 => ?_) (fun h13 => ?_)
  · have hle := (le20 hF).mp h13
    refine wp_aload_n 19 d_PM_feed_18 rfl rfl ?_
    refine wp_getfield 22 11 1 d_PM_feed_19 rfl fl_PM_18 rfl rfl ?_
    refine wp_iload_n 23 d_PM_feed_22 rfl rfl ?_
    refine wf4 26 (by exact (show X.nF + 4 ≤ 900 from by omega)) d_PM_feed_23 rfl rfl ?_
    refine wp_aload_n 27 d_PM_feed_26 rfl rfl ?_
    refine wp_getfield 30 11 1 d_PM_feed_27 rfl fl_PM_18 rfl rfl ?_
    refine wp_iload_n 31 d_PM_feed_30 rfl rfl ?_
    refine wf4 34 (by exact (show X.nF + 4 + 4 ≤ 900 from by omega)) d_PM_feed_31 rfl rfl ?_
    refine wp_aload_n 35 d_PM_feed_34 rfl rfl ?_
    refine wp_getfield 38 11 1 d_PM_feed_35 rfl fl_PM_18 rfl rfl ?_
    refine wp_iload_n 39 d_PM_feed_38 rfl rfl ?_
    refine wf4 42 (by exact (show X.nF + 4 + 4 + 4 ≤ 900 from by omega)) d_PM_feed_39 rfl rfl ?_
    refine wp_aload_n 43 d_PM_feed_42 rfl rfl ?_
    refine wp_getfield 46 11 1 d_PM_feed_43 rfl fl_PM_18 rfl rfl ?_
    refine wp_iload 48 d_PM_feed_46 rfl rfl ?_
    refine wf4 51 (by exact (show X.nF + 4 + 4 + 4 + 4 ≤ 900 from by omega)) d_PM_feed_48 rfl rfl ?_
    refine wp_aload_n 52 d_PM_feed_51 rfl rfl ?_
    refine wp_getfield 55 11 1 d_PM_feed_52 rfl fl_PM_18 rfl rfl ?_
    refine wp_iload 57 d_PM_feed_55 rfl rfl ?_
    refine wf4 60 (by exact (show X.nF + 4 + 4 + 4 + 4 + 4 ≤ 900 from by omega)) d_PM_feed_57 rfl rfl ?_
    refine wp_aload_n 61 d_PM_feed_60 rfl rfl ?_
    refine wp_getfield 64 11 1 d_PM_feed_61 rfl fl_PM_18 rfl rfl ?_
    refine wp_getfield 67 7 5 d_PM_feed_64 rfl fl_PM_155 rfl rfl ?_
    refine wp_ireturn d_PM_feed_67 rfl ?_
    exact hq1 hle
  · refine wp_iconst 17 (-1) d_PM_feed_16 rfl (by decide) ?_
    refine wp_ireturn d_PM_feed_17 rfl ?_
    exact hq0 (fun z => h13 ((le20 hF).mpr z))

set_option maxRecDepth 100000 in
set_option maxHeartbeats 4000000 in
theorem c_PM_pace {w p q e n : Int32} (I : tOK T) (hq : Q (some (.int (paF T w p q e n).1)) (hPM Y X ((paF T w p q e n).2.2) S M D E N C U W G L VL HL nK ((paF T w p q e n).2.1) TP BT)) : Call Γ M_PM_pace 3 0 0 [.ref 0, .int w, .int p, .int q, .int e, .int n] (hPM Y X T S M D E N C U W G L VL HL nK ST TP BT) Q := by
  have hL12 := I.hL
  have hP7 := I.hP
  have hW4 := I.hW
  refine call_intro (ls := [some (.ref 0), some (.int w), some (.int p), some (.int q), some (.int e), some (.int n), none]) rfl rfl rfl ?_
  refine wp_iload_n 1 d_PM_pace_0 rfl rfl ?_
  refine wp_aload_n 2 d_PM_pace_1 rfl rfl ?_
  refine wp_getfield 5 11 2 d_PM_pace_2 rfl fl_PM_25 rfl rfl ?_
  refine wp_getfield 8 8 9 d_PM_pace_5 rfl fl_PM_206 rfl rfl ?_
  refine wp_S2 11 M_PM_within 1 d_PM_pace_8 rfl ms_PM_within lk_PM_108 rfl rfl ?_
  refine c_PM_within ?_
  refine kI ?_
  (first | refine wp_ifP_eq 39 14 d_PM_pace_11 rfl (by decide) (fun h11 => ?_) (fun h11 => ?_) | refine wp_if_eq 39 14 d_PM_pace_11 rfl (by decide) (fun h11 => ?_) (fun h11 => ?_))
  · refine wp_aload_n 40 d_PM_pace_39 rfl rfl ?_
    refine wp_iconst 41 1 d_PM_pace_40 rfl (by decide) ?_
    refine wp_V1 44 M_PM_fail 1 d_PM_pace_41 rfl mv_PM_fail lk_PM_132 rfl rfl rfl rfl rfl ?_
    refine c_PM_fail ?_
    refine kI ?_
    refine wp_ireturn d_PM_pace_44 rfl ?_
    have e : (paF T w p q e n) = _ := (if_neg (fun z => h11 z.1))
    rw [e] at hq
    exact hq
  · refine wp_aload_n 15 d_PM_pace_14 rfl rfl ?_
    refine wp_iload_n 16 d_PM_pace_15 rfl rfl ?_
    refine wp_iload_n 17 d_PM_pace_16 rfl rfl ?_
    refine wp_V2 20 M_PM_twoPlaces 2 d_PM_pace_17 rfl mv_PM_twoPlaces lk_PM_296 rfl rfl rfl rfl rfl ?_
    refine c_PM_twoPlaces ?_
    refine kI ?_
    (first | refine wp_ifP_eq 39 23 d_PM_pace_20 rfl (by decide) (fun h20 => ?_) (fun h20 => ?_) | refine wp_if_eq 39 23 d_PM_pace_20 rfl (by decide) (fun h20 => ?_) (fun h20 => ?_))
    · refine wp_aload_n 40 d_PM_pace_39 rfl rfl ?_
      refine wp_iconst 41 1 d_PM_pace_40 rfl (by decide) ?_
      refine wp_V1 44 M_PM_fail 1 d_PM_pace_41 rfl mv_PM_fail lk_PM_132 rfl rfl rfl rfl rfl ?_
      refine c_PM_fail ?_
      refine kI ?_
      refine wp_ireturn d_PM_pace_44 rfl ?_
      have e : (paF T w p q e n) = _ := (if_neg (fun z => h20 z.2.1))
      rw [e] at hq
      exact hq
    · refine wp_iload 25 d_PM_pace_23 rfl rfl ?_
      refine wp_S1 28 M_PM_canBePaces 1 d_PM_pace_25 rfl ms_PM_canBePaces lk_PM_299 rfl rfl ?_
      refine c_PM_canBePaces ?_
      refine kI ?_
      (first | refine wp_ifP_eq 39 31 d_PM_pace_28 rfl (by decide) (fun h28 => ?_) (fun h28 => ?_) | refine wp_if_eq 39 31 d_PM_pace_28 rfl (by decide) (fun h28 => ?_) (fun h28 => ?_))
      · refine wp_aload_n 40 d_PM_pace_39 rfl rfl ?_
        refine wp_iconst 41 1 d_PM_pace_40 rfl (by decide) ?_
        refine wp_V1 44 M_PM_fail 1 d_PM_pace_41 rfl mv_PM_fail lk_PM_132 rfl rfl rfl rfl rfl ?_
        refine c_PM_fail ?_
        refine kI ?_
        refine wp_ireturn d_PM_pace_44 rfl ?_
        have e : (paF T w p q e n) = _ := (if_neg (fun z => h28 z.2.2.1))
        rw [e] at hq
        exact hq
      · refine wp_iload 33 d_PM_pace_31 rfl rfl ?_
        refine wp_S1 36 M_PM_canBePaces 1 d_PM_pace_33 rfl ms_PM_canBePaces lk_PM_299 rfl rfl ?_
        refine c_PM_canBePaces ?_
        refine kI ?_
        (first | refine wp_ifP_ne 45 39 d_PM_pace_36 rfl (by decide) (fun h36 => ?_) (fun h36 => ?_) | refine wp_if_ne 45 39 d_PM_pace_36 rfl (by decide) (fun h36 => ?_) (fun h36 => ?_))
        · refine wp_aload_n 46 d_PM_pace_45 rfl rfl ?_
          refine wp_getfield 49 11 2 d_PM_pace_46 rfl fl_PM_25 rfl rfl ?_
          refine wp_getfield 52 8 10 d_PM_pace_49 rfl fl_PM_179 rfl rfl ?_
          refine wp_bipush 54 12 d_PM_pace_52 rfl (by decide) ?_
          refine wp_icmp_lt 63 57 d_PM_pace_54 rfl (by decide) (fun h54 => ?_) (fun h54 => ?_)
          · have hl12 : T.nL < 12 := nI_ltN (b := 12) h54 (by omega) (by omega)
            refine wp_aload_n 64 d_PM_pace_63 rfl rfl ?_
            refine wp_getfield 67 11 2 d_PM_pace_64 rfl fl_PM_25 rfl rfl ?_
            refine wp_iload_n 68 d_PM_pace_67 rfl rfl ?_
            refine wp_iload_n 69 d_PM_pace_68 rfl rfl ?_
            refine wp_iload_n 70 d_PM_pace_69 rfl rfl ?_
            refine ws_V3 (b' := 0) 73 M_Town_addLeg 1 [8, 9, 10, 11, 12, 13, 14, 15, 16] ((hTr T)) d_PM_pace_70 rfl mv_Town_addLeg lk_PM_302 rfl rfl rfl rfl rfl rfl rfl (eV_int _ _) (eV_int _ _) (eV_int _ _) rfl ?_
            refine c_Town_addLeg hl12 ?_
            refine sI ?_
            simp only [putH, rC, sg, eV, List.map_cons, List.map_nil, List.set_cons_zero, List.set_cons_succ, List.length_cons, List.length_nil, List.getD_cons_zero, List.getD_cons_succ, Nat.zero_add, Nat.reduceAdd, Nat.reduceLT, if_true, ite_true]
            refine hEq (hPM Y X ((TW.mk T.pn T.wn T.fa (upd T.te T.nL w) (upd T.fr T.nL p) (upd T.to_ T.nL q) (upd T.ea T.nL 0) (upd T.no T.nL 0) T.nP T.nW (T.nL + 1) T.od T.sk T.sd T.go)) S M D E N C U W G L VL HL nK ST TP BT) rfl ?_
            refine wp_istore_6 75 d_PM_pace_73 rfl rfl rfl ?_
            refine wp_aload_n 76 d_PM_pace_75 rfl rfl ?_
            refine wp_getfield 79 11 2 d_PM_pace_76 rfl fl_PM_25 rfl rfl ?_
            refine wp_getfield 82 8 6 d_PM_pace_79 rfl fl_PM_248 rfl rfl ?_
            refine wp_iload 84 d_PM_pace_82 rfl rfl ?_
            refine wp_iload 86 d_PM_pace_84 rfl rfl ?_
            refine wp_iastoreN 87 d_PM_pace_86 rfl rfl rfl hl12 ?_
            refine hEq (hPM Y X ((TW.mk T.pn T.wn T.fa (upd T.te T.nL w) (upd T.fr T.nL p) (upd T.to_ T.nL q) (upd (upd T.ea T.nL 0) T.nL e) (upd T.no T.nL 0) T.nP T.nW (T.nL + 1) T.od T.sk T.sd T.go)) S M D E N C U W G L VL HL nK ST TP BT) rfl ?_
            refine wp_aload_n 88 d_PM_pace_87 rfl rfl ?_
            refine wp_getfield 91 11 2 d_PM_pace_88 rfl fl_PM_25 rfl rfl ?_
            refine wp_getfield 94 8 7 d_PM_pace_91 rfl fl_PM_251 rfl rfl ?_
            refine wp_iload 96 d_PM_pace_94 rfl rfl ?_
            refine wp_iload 98 d_PM_pace_96 rfl rfl ?_
            refine wp_iastoreN 99 d_PM_pace_98 rfl rfl rfl hl12 ?_
            refine hEq (hPM Y X ((TW.mk T.pn T.wn T.fa (upd T.te T.nL w) (upd T.fr T.nL p) (upd T.to_ T.nL q) (upd (upd T.ea T.nL 0) T.nL e) (upd (upd T.no T.nL 0) T.nL n) T.nP T.nW (T.nL + 1) T.od T.sk T.sd T.go)) S M D E N C U W G L VL HL nK ST TP BT) rfl ?_
            refine wp_aload_n 100 d_PM_pace_99 rfl rfl ?_
            refine wp_iload 102 d_PM_pace_100 rfl rfl ?_
            refine wp_V1 105 M_PM_answer 1 d_PM_pace_102 rfl mv_PM_answer lk_PM_182 rfl rfl rfl rfl rfl ?_
            refine c_PM_answer ?_
            refine kI ?_
            refine wp_ireturn d_PM_pace_105 rfl ?_
            have e : (paF T w p q e n) = _ := ((if_pos ⟨h11, h20, h28, h36⟩).trans (if_pos hl12))
            rw [e] at hq
            exact hq
          · refine wp_aload_n 58 d_PM_pace_57 rfl rfl ?_
            refine wp_iconst 59 4 d_PM_pace_58 rfl (by decide) ?_
            refine wp_V1 62 M_PM_fail 1 d_PM_pace_59 rfl mv_PM_fail lk_PM_132 rfl rfl rfl rfl rfl ?_
            refine c_PM_fail ?_
            refine kI ?_
            refine wp_ireturn d_PM_pace_62 rfl ?_
            have e : (paF T w p q e n) = _ := ((if_pos ⟨h11, h20, h28, h36⟩).trans (if_neg (Nat.not_lt.mpr (nI_nltN (b := 12) h54 (by omega) (by omega)))))
            rw [e] at hq
            exact hq
        · refine wp_aload_n 40 d_PM_pace_39 rfl rfl ?_
          refine wp_iconst 41 1 d_PM_pace_40 rfl (by decide) ?_
          refine wp_V1 44 M_PM_fail 1 d_PM_pace_41 rfl mv_PM_fail lk_PM_132 rfl rfl rfl rfl rfl ?_
          refine c_PM_fail ?_
          refine kI ?_
          refine wp_ireturn d_PM_pace_44 rfl ?_
          have e : (paF T w p q e n) = _ := (if_neg (fun z => h36 z.2.2.2))
          rw [e] at hq
          exact hq

set_option maxRecDepth 100000 in
set_option maxHeartbeats 4000000 in
theorem c_PM_tell {l e n : Int32} (I : tOK T) (hq : Q (some (.int (teF T l e n).1)) (hPM Y X ((teF T l e n).2.2) S M D E N C U W G L VL HL nK ((teF T l e n).2.1) TP BT)) : Call Γ M_PM_tell 2 0 0 [.ref 0, .int l, .int e, .int n] (hPM Y X T S M D E N C U W G L VL HL nK ST TP BT) Q := by
  have hL12 := I.hL
  have hP7 := I.hP
  have hW4 := I.hW
  refine call_intro (ls := [some (.ref 0), some (.int l), some (.int e), some (.int n)]) rfl rfl rfl ?_
  refine wp_iload_n 1 d_PM_tell_0 rfl rfl ?_
  refine wp_aload_n 2 d_PM_tell_1 rfl rfl ?_
  refine wp_getfield 5 11 2 d_PM_tell_2 rfl fl_PM_25 rfl rfl ?_
  refine wp_getfield 8 8 10 d_PM_tell_5 rfl fl_PM_179 rfl rfl ?_
  refine wp_S2 11 M_PM_within 1 d_PM_tell_8 rfl ms_PM_within lk_PM_108 rfl rfl ?_
  refine c_PM_within ?_
  refine kI ?_
  (first | refine wp_ifP_eq 28 14 d_PM_tell_11 rfl (by decide) (fun h11 => ?_) (fun h11 => ?_) | refine wp_if_eq 28 14 d_PM_tell_11 rfl (by decide) (fun h11 => ?_) (fun h11 => ?_))
  · refine wp_aload_n 29 d_PM_tell_28 rfl rfl ?_
    refine wp_iconst 30 1 d_PM_tell_29 rfl (by decide) ?_
    refine wp_V1 33 M_PM_refuse 1 d_PM_tell_30 rfl mv_PM_refuse lk_PM_112 rfl rfl rfl rfl rfl ?_
    refine c_PM_refuse ?_
    refine kI ?_
    refine wp_zreturn d_PM_tell_33 rfl (by first | rfl | exact nbP _) ?_
    have e : (teF T l e n) = _ := (if_neg (fun z => h11 z.1))
    rw [e] at hq
    exact hq
  · refine wp_iload_n 15 d_PM_tell_14 rfl rfl ?_
    refine wp_S1 18 M_PM_canBePaces 1 d_PM_tell_15 rfl ms_PM_canBePaces lk_PM_299 rfl rfl ?_
    refine c_PM_canBePaces ?_
    refine kI ?_
    (first | refine wp_ifP_eq 28 21 d_PM_tell_18 rfl (by decide) (fun h18 => ?_) (fun h18 => ?_) | refine wp_if_eq 28 21 d_PM_tell_18 rfl (by decide) (fun h18 => ?_) (fun h18 => ?_))
    · refine wp_aload_n 29 d_PM_tell_28 rfl rfl ?_
      refine wp_iconst 30 1 d_PM_tell_29 rfl (by decide) ?_
      refine wp_V1 33 M_PM_refuse 1 d_PM_tell_30 rfl mv_PM_refuse lk_PM_112 rfl rfl rfl rfl rfl ?_
      refine c_PM_refuse ?_
      refine kI ?_
      refine wp_zreturn d_PM_tell_33 rfl (by first | rfl | exact nbP _) ?_
      have e : (teF T l e n) = _ := (if_neg (fun z => h18 z.2.1))
      rw [e] at hq
      exact hq
    · refine wp_iload_n 22 d_PM_tell_21 rfl rfl ?_
      refine wp_S1 25 M_PM_canBePaces 1 d_PM_tell_22 rfl ms_PM_canBePaces lk_PM_299 rfl rfl ?_
      refine c_PM_canBePaces ?_
      refine kI ?_
      (first | refine wp_ifP_ne 34 28 d_PM_tell_25 rfl (by decide) (fun h25 => ?_) (fun h25 => ?_) | refine wp_if_ne 34 28 d_PM_tell_25 rfl (by decide) (fun h25 => ?_) (fun h25 => ?_))
      · refine wp_aload_n 35 d_PM_tell_34 rfl rfl ?_
        refine wp_getfield 38 11 2 d_PM_tell_35 rfl fl_PM_25 rfl rfl ?_
        refine wp_getfield 41 8 6 d_PM_tell_38 rfl fl_PM_248 rfl rfl ?_
        refine wp_iload_n 42 d_PM_tell_41 rfl rfl ?_
        refine wp_iload_n 43 d_PM_tell_42 rfl rfl ?_
        refine wp_iastore 44 d_PM_tell_43 rfl rfl (inR_in h11 I.hL (by omega)) ?_
        refine hEq (hPM Y X (tSe T l.toNatClampNeg e) S M D E N C U W G L VL HL nK ST TP BT) rfl ?_
        refine wp_aload_n 45 d_PM_tell_44 rfl rfl ?_
        refine wp_getfield 48 11 2 d_PM_tell_45 rfl fl_PM_25 rfl rfl ?_
        refine wp_getfield 51 8 7 d_PM_tell_48 rfl fl_PM_251 rfl rfl ?_
        refine wp_iload_n 52 d_PM_tell_51 rfl rfl ?_
        refine wp_iload_n 53 d_PM_tell_52 rfl rfl ?_
        refine wp_iastore 54 d_PM_tell_53 rfl rfl (inR_in h11 I.hL (by omega)) ?_
        refine hEq (hPM Y X (teT T l.toNatClampNeg e n) S M D E N C U W G L VL HL nK ST TP BT) rfl ?_
        refine wp_aload_n 55 d_PM_tell_54 rfl rfl ?_
        refine wp_V0 58 M_PM_accept 1 d_PM_tell_55 rfl mv_PM_accept lk_PM_120 rfl rfl rfl rfl rfl ?_
        refine c_PM_accept ?_
        refine kI ?_
        refine wp_zreturn d_PM_tell_58 rfl (by first | rfl | exact nbP _) ?_
        have e : (teF T l e n) = _ := (if_pos ⟨h11, h18, h25⟩)
        rw [e] at hq
        exact hq
      · refine wp_aload_n 29 d_PM_tell_28 rfl rfl ?_
        refine wp_iconst 30 1 d_PM_tell_29 rfl (by decide) ?_
        refine wp_V1 33 M_PM_refuse 1 d_PM_tell_30 rfl mv_PM_refuse lk_PM_112 rfl rfl rfl rfl rfl ?_
        refine c_PM_refuse ?_
        refine kI ?_
        refine wp_zreturn d_PM_tell_33 rfl (by first | rfl | exact nbP _) ?_
        have e : (teF T l e n) = _ := (if_neg (fun z => h25 z.2.2))
        rw [e] at hq
        exact hq

theorem by_contra_hs {s k : Int32} (h : ¬ ¬ hs s k) : hs s k := Decidable.of_not_not h
set_option maxRecDepth 100000 in
set_option maxHeartbeats 4000000 in
theorem c_PM_strike {l : Int32} (I : tOK T) (hq : Q (some (.int (stF T l).1)) (hPM Y X ((stF T l).2.2) S M D E N C U W G L VL HL nK ((stF T l).2.1) TP BT)) : Call Γ M_PM_strike 3 0 0 [.ref 0, .int l] (hPM Y X T S M D E N C U W G L VL HL nK ST TP BT) Q := by
  have hL12 := I.hL
  have hP7 := I.hP
  have hW4 := I.hW
  refine call_intro (ls := [some (.ref 0), some (.int l)]) rfl rfl rfl ?_
  refine wp_iload_n 1 d_PM_strike_0 rfl rfl ?_
  refine wp_aload_n 2 d_PM_strike_1 rfl rfl ?_
  refine wp_getfield 5 11 2 d_PM_strike_2 rfl fl_PM_25 rfl rfl ?_
  refine wp_getfield 8 8 10 d_PM_strike_5 rfl fl_PM_179 rfl rfl ?_
  refine wp_S2 11 M_PM_within 1 d_PM_strike_8 rfl ms_PM_within lk_PM_108 rfl rfl ?_
  refine c_PM_within ?_
  refine kI ?_
  (first | refine wp_ifP_ne 20 14 d_PM_strike_11 rfl (by decide) (fun h11 => ?_) (fun h11 => ?_) | refine wp_if_ne 20 14 d_PM_strike_11 rfl (by decide) (fun h11 => ?_) (fun h11 => ?_))
  · refine wp_aload_n 21 d_PM_strike_20 rfl rfl ?_
    refine wp_getfield 24 11 2 d_PM_strike_21 rfl fl_PM_25 rfl rfl ?_
    refine wp_iload_n 25 d_PM_strike_24 rfl rfl ?_
    refine ws_V1 (b' := 0) 28 M_Town_strikeLeg 2 [8, 9, 10, 11, 12, 13, 14, 15, 16] ((hTr T)) d_PM_strike_25 rfl mv_Town_strikeLeg lk_PM_306 rfl rfl rfl rfl rfl rfl rfl (eV_int _ _) rfl ?_
    refine c_Town_strikeLeg ?_
    refine sI ?_
    simp only [putH, rC, sg, eV, List.map_cons, List.map_nil, List.set_cons_zero, List.set_cons_succ, List.length_cons, List.length_nil, List.getD_cons_zero, List.getD_cons_succ, Nat.zero_add, Nat.reduceAdd, Nat.reduceLT, if_true, ite_true]
    refine hEq (hPM Y X (tSk T (if inR l (nI T.nL) ∧ ¬ hs T.sk l then T.sk ||| bit l else T.sk)) S M D E N C U W G L VL HL nK ST TP BT) rfl ?_
    (first | refine wp_ifP_ne 38 31 d_PM_strike_28 rfl (by decide) (fun h28 => ?_) (fun h28 => ?_) | refine wp_if_ne 38 31 d_PM_strike_28 rfl (by decide) (fun h28 => ?_) (fun h28 => ?_))
    · refine wp_aload_n 39 d_PM_strike_38 rfl rfl ?_
      refine wp_aload_n 40 d_PM_strike_39 rfl rfl ?_
      refine wp_getfield 43 11 2 d_PM_strike_40 rfl fl_PM_25 rfl rfl ?_
      refine wp_getfield 46 8 12 d_PM_strike_43 rfl fl_PM_218 rfl rfl ?_
      refine wp_S1 49 M_JInt_bitCount 1 d_PM_strike_46 rfl ms_JInt_bitCount lk_PM_309 rfl rfl ?_
      refine c_JInt_bitCount ?_
      refine kI ?_
      refine wp_V1 52 M_PM_answer 1 d_PM_strike_49 rfl mv_PM_answer lk_PM_182 rfl rfl rfl rfl rfl ?_
      refine c_PM_answer ?_
      refine kI ?_
      refine wp_ireturn d_PM_strike_52 rfl ?_
      rw [if_pos h28]
      have e : (stF T l) = _ := ((if_pos h11).trans (if_neg h28.2))
      rw [e] at hq
      exact hq
    · refine wp_aload_n 32 d_PM_strike_31 rfl rfl ?_
      refine wp_bipush 34 7 d_PM_strike_32 rfl (by decide) ?_
      refine wp_V1 37 M_PM_fail 1 d_PM_strike_34 rfl mv_PM_fail lk_PM_132 rfl rfl rfl rfl rfl ?_
      refine c_PM_fail ?_
      refine kI ?_
      refine wp_ireturn d_PM_strike_37 rfl ?_
      show Q (some (.int (-1))) (hPM Y X (tSk T (if inR l (nI T.nL) ∧ ¬ hs T.sk l then T.sk ||| bit l else T.sk)) S M D E N C U W G L VL HL nK (7) TP BT)
      rw [if_neg h28]
      have e : (stF T l) = _ := ((if_pos h11).trans (if_pos (by_contra_hs (fun z => h28 ⟨h11, z⟩))))
      rw [e] at hq
      exact hq
  · refine wp_aload_n 15 d_PM_strike_14 rfl rfl ?_
    refine wp_iconst 16 1 d_PM_strike_15 rfl (by decide) ?_
    refine wp_V1 19 M_PM_fail 1 d_PM_strike_16 rfl mv_PM_fail lk_PM_132 rfl rfl rfl rfl rfl ?_
    refine c_PM_fail ?_
    refine kI ?_
    refine wp_ireturn d_PM_strike_19 rfl ?_
    have e : (stF T l) = _ := (if_neg h11)
    rw [e] at hq
    exact hq

set_option maxRecDepth 100000 in
set_option maxHeartbeats 4000000 in
theorem c_PM_restore {l : Int32} (I : tOK T) (hq : Q (some (.int (rsF T l).1)) (hPM Y X ((rsF T l).2.2) S M D E N C U W G L VL HL nK ((rsF T l).2.1) TP BT)) : Call Γ M_PM_restore 3 0 0 [.ref 0, .int l] (hPM Y X T S M D E N C U W G L VL HL nK ST TP BT) Q := by
  have hL12 := I.hL
  have hP7 := I.hP
  have hW4 := I.hW
  refine call_intro (ls := [some (.ref 0), some (.int l)]) rfl rfl rfl ?_
  refine wp_iload_n 1 d_PM_restore_0 rfl rfl ?_
  refine wp_aload_n 2 d_PM_restore_1 rfl rfl ?_
  refine wp_getfield 5 11 2 d_PM_restore_2 rfl fl_PM_25 rfl rfl ?_
  refine wp_getfield 8 8 10 d_PM_restore_5 rfl fl_PM_179 rfl rfl ?_
  refine wp_S2 11 M_PM_within 1 d_PM_restore_8 rfl ms_PM_within lk_PM_108 rfl rfl ?_
  refine c_PM_within ?_
  refine kI ?_
  (first | refine wp_ifP_ne 20 14 d_PM_restore_11 rfl (by decide) (fun h11 => ?_) (fun h11 => ?_) | refine wp_if_ne 20 14 d_PM_restore_11 rfl (by decide) (fun h11 => ?_) (fun h11 => ?_))
  · refine wp_aload_n 21 d_PM_restore_20 rfl rfl ?_
    refine wp_getfield 24 11 2 d_PM_restore_21 rfl fl_PM_25 rfl rfl ?_
    refine wp_iload_n 25 d_PM_restore_24 rfl rfl ?_
    refine ws_V1 (b' := 0) 28 M_Town_restoreLeg 2 [8, 9, 10, 11, 12, 13, 14, 15, 16] ((hTr T)) d_PM_restore_25 rfl mv_Town_restoreLeg lk_PM_314 rfl rfl rfl rfl rfl rfl rfl (eV_int _ _) rfl ?_
    refine c_Town_restoreLeg ?_
    refine sI ?_
    simp only [putH, rC, sg, eV, List.map_cons, List.map_nil, List.set_cons_zero, List.set_cons_succ, List.length_cons, List.length_nil, List.getD_cons_zero, List.getD_cons_succ, Nat.zero_add, Nat.reduceAdd, Nat.reduceLT, if_true, ite_true]
    refine hEq (hPM Y X (tSk T (if inR l (nI T.nL) ∧ hs T.sk l then T.sk &&& (bit l ^^^ (-1)) else T.sk)) S M D E N C U W G L VL HL nK ST TP BT) rfl ?_
    (first | refine wp_ifP_ne 38 31 d_PM_restore_28 rfl (by decide) (fun h28 => ?_) (fun h28 => ?_) | refine wp_if_ne 38 31 d_PM_restore_28 rfl (by decide) (fun h28 => ?_) (fun h28 => ?_))
    · refine wp_aload_n 39 d_PM_restore_38 rfl rfl ?_
      refine wp_aload_n 40 d_PM_restore_39 rfl rfl ?_
      refine wp_getfield 43 11 2 d_PM_restore_40 rfl fl_PM_25 rfl rfl ?_
      refine wp_getfield 46 8 12 d_PM_restore_43 rfl fl_PM_218 rfl rfl ?_
      refine wp_S1 49 M_JInt_bitCount 1 d_PM_restore_46 rfl ms_JInt_bitCount lk_PM_309 rfl rfl ?_
      refine c_JInt_bitCount ?_
      refine kI ?_
      refine wp_V1 52 M_PM_answer 1 d_PM_restore_49 rfl mv_PM_answer lk_PM_182 rfl rfl rfl rfl rfl ?_
      refine c_PM_answer ?_
      refine kI ?_
      refine wp_ireturn d_PM_restore_52 rfl ?_
      rw [if_pos h28]
      have e : (rsF T l) = _ := ((if_pos h11).trans (if_pos h28.2))
      rw [e] at hq
      exact hq
    · refine wp_aload_n 32 d_PM_restore_31 rfl rfl ?_
      refine wp_bipush 34 7 d_PM_restore_32 rfl (by decide) ?_
      refine wp_V1 37 M_PM_fail 1 d_PM_restore_34 rfl mv_PM_fail lk_PM_132 rfl rfl rfl rfl rfl ?_
      refine c_PM_fail ?_
      refine kI ?_
      refine wp_ireturn d_PM_restore_37 rfl ?_
      show Q (some (.int (-1))) (hPM Y X (tSk T (if inR l (nI T.nL) ∧ hs T.sk l then T.sk &&& (bit l ^^^ (-1)) else T.sk)) S M D E N C U W G L VL HL nK (7) TP BT)
      rw [if_neg h28]
      have e : (rsF T l) = _ := ((if_pos h11).trans (if_neg (fun z => h28 ⟨h11, z⟩)))
      rw [e] at hq
      exact hq
  · refine wp_aload_n 15 d_PM_restore_14 rfl rfl ?_
    refine wp_iconst 16 1 d_PM_restore_15 rfl (by decide) ?_
    refine wp_V1 19 M_PM_fail 1 d_PM_restore_16 rfl mv_PM_fail lk_PM_132 rfl rfl rfl rfl rfl ?_
    refine c_PM_fail ?_
    refine kI ?_
    refine wp_ireturn d_PM_restore_19 rfl ?_
    have e : (rsF T l) = _ := (if_neg h11)
    rw [e] at hq
    exact hq

set_option maxRecDepth 100000 in
set_option maxHeartbeats 4000000 in
theorem c_PM_believe {w f : Int32} (I : tOK T) (hq : Q (some (.int (blF T w f).1)) (hPM Y X ((blF T w f).2.2) S M D E N C U W G L VL HL nK ((blF T w f).2.1) TP BT)) : Call Γ M_PM_believe 2 0 0 [.ref 0, .int w, .int f] (hPM Y X T S M D E N C U W G L VL HL nK ST TP BT) Q := by
  have hL12 := I.hL
  have hP7 := I.hP
  have hW4 := I.hW
  refine call_intro (ls := [some (.ref 0), some (.int w), some (.int f), none]) rfl rfl rfl ?_
  refine wp_iload_n 1 d_PM_believe_0 rfl rfl ?_
  refine wp_aload_n 2 d_PM_believe_1 rfl rfl ?_
  refine wp_getfield 5 11 2 d_PM_believe_2 rfl fl_PM_25 rfl rfl ?_
  refine wp_getfield 8 8 9 d_PM_believe_5 rfl fl_PM_206 rfl rfl ?_
  refine wp_S2 11 M_PM_within 1 d_PM_believe_8 rfl ms_PM_within lk_PM_108 rfl rfl ?_
  refine c_PM_within ?_
  refine kI ?_
  (first | refine wp_ifP_eq 23 14 d_PM_believe_11 rfl (by decide) (fun h11 => ?_) (fun h11 => ?_) | refine wp_if_eq 23 14 d_PM_believe_11 rfl (by decide) (fun h11 => ?_) (fun h11 => ?_))
  · refine wp_aload_n 24 d_PM_believe_23 rfl rfl ?_
    refine wp_iconst 25 1 d_PM_believe_24 rfl (by decide) ?_
    refine wp_V1 28 M_PM_fail 1 d_PM_believe_25 rfl mv_PM_fail lk_PM_132 rfl rfl rfl rfl rfl ?_
    refine c_PM_fail ?_
    refine kI ?_
    refine wp_ireturn d_PM_believe_28 rfl ?_
    have e : (blF T w f) = _ := (if_neg (fun z => h11 z.1))
    rw [e] at hq
    exact hq
  · refine wp_iload_n 15 d_PM_believe_14 rfl rfl ?_
    refine wp_bipush 17 24 d_PM_believe_15 rfl (by decide) ?_
    refine wp_S2 20 M_PM_within 1 d_PM_believe_17 rfl ms_PM_within lk_PM_108 rfl rfl ?_
    refine c_PM_within ?_
    refine kI ?_
    (first | refine wp_ifP_ne 29 23 d_PM_believe_20 rfl (by decide) (fun h20 => ?_) (fun h20 => ?_) | refine wp_if_ne 29 23 d_PM_believe_20 rfl (by decide) (fun h20 => ?_) (fun h20 => ?_))
    · refine wp_aload_n 30 d_PM_believe_29 rfl rfl ?_
      refine wp_getfield 33 11 2 d_PM_believe_30 rfl fl_PM_25 rfl rfl ?_
      refine wp_getfield 36 8 2 d_PM_believe_33 rfl fl_PM_224 rfl rfl ?_
      refine wp_iload_n 37 d_PM_believe_36 rfl rfl ?_
      refine wp_iaload 38 d_PM_believe_37 rfl rfl (inR_in h11 I.hW (by omega)) ?_
      refine wp_istore_3 39 d_PM_believe_38 rfl rfl rfl ?_
      refine wp_aload_n 40 d_PM_believe_39 rfl rfl ?_
      refine wp_getfield 43 11 2 d_PM_believe_40 rfl fl_PM_25 rfl rfl ?_
      refine wp_getfield 46 8 2 d_PM_believe_43 rfl fl_PM_224 rfl rfl ?_
      refine wp_iload_n 47 d_PM_believe_46 rfl rfl ?_
      refine wp_iload_n 48 d_PM_believe_47 rfl rfl ?_
      refine wp_iastore 49 d_PM_believe_48 rfl rfl (inR_in h11 I.hW (by omega)) ?_
      refine hEq (hPM Y X (tSf T w.toNatClampNeg f) S M D E N C U W G L VL HL nK ST TP BT) rfl ?_
      refine wp_aload_n 50 d_PM_believe_49 rfl rfl ?_
      refine wp_iload_n 51 d_PM_believe_50 rfl rfl ?_
      refine wp_V1 54 M_PM_answer 1 d_PM_believe_51 rfl mv_PM_answer lk_PM_182 rfl rfl rfl rfl rfl ?_
      refine c_PM_answer ?_
      refine kI ?_
      refine wp_ireturn d_PM_believe_54 rfl ?_
      have e : (blF T w f) = _ := (if_pos ⟨h11, h20⟩)
      rw [e] at hq
      exact hq
    · refine wp_aload_n 24 d_PM_believe_23 rfl rfl ?_
      refine wp_iconst 25 1 d_PM_believe_24 rfl (by decide) ?_
      refine wp_V1 28 M_PM_fail 1 d_PM_believe_25 rfl mv_PM_fail lk_PM_132 rfl rfl rfl rfl rfl ?_
      refine c_PM_fail ?_
      refine kI ?_
      refine wp_ireturn d_PM_believe_28 rfl ?_
      have e : (blF T w f) = _ := (if_neg (fun z => h20 z.2))
      rw [e] at hq
      exact hq

set_option maxRecDepth 100000 in
set_option maxHeartbeats 4000000 in
theorem c_PM_settle (I : tOK T) (hq : Q (some (.int (seF T).1)) (hPM Y X ((seF T).2.2) S M D E N C U W G L VL HL nK ((seF T).2.1) TP BT)) : Call Γ M_PM_settle 2 0 0 [.ref 0] (hPM Y X T S M D E N C U W G L VL HL nK ST TP BT) Q := by
  have hL12 := I.hL
  have hP7 := I.hP
  have hW4 := I.hW
  refine call_intro (ls := [some (.ref 0)]) rfl rfl rfl ?_
  refine wp_aload_n 1 d_PM_settle_0 rfl rfl ?_
  refine wp_getfield 4 11 2 d_PM_settle_1 rfl fl_PM_25 rfl rfl ?_
  refine wp_getfield 7 8 8 d_PM_settle_4 rfl fl_PM_203 rfl rfl ?_
  refine wp_bipush 9 7 d_PM_settle_7 rfl (by decide) ?_
  refine wp_icmp_lt 18 12 d_PM_settle_9 rfl (by decide) (fun h9 => ?_) (fun h9 => ?_)
  · have h7 : T.nP < 7 := nI_ltN (b := 7) h9 (by omega) (by omega)
    refine wp_aload_n 19 d_PM_settle_18 rfl rfl ?_
    refine wp_aload_n 20 d_PM_settle_19 rfl rfl ?_
    refine wp_getfield 23 11 2 d_PM_settle_20 rfl fl_PM_25 rfl rfl ?_
    refine wp_lconst 24 0 d_PM_settle_23 rfl (by decide) ?_
    refine ws_V1 (b' := 0) 27 M_Town_addPlace 1 [8, 9, 10, 11, 12, 13, 14, 15, 16] ((hTr T)) d_PM_settle_24 rfl mv_Town_addPlace lk_PM_317 rfl rfl rfl rfl rfl rfl rfl (eV_long _ _) rfl ?_
    refine c_Town_addPlace h7 ?_
    refine sI ?_
    simp only [putH, rC, sg, eV, List.map_cons, List.map_nil, List.set_cons_zero, List.set_cons_succ, List.length_cons, List.length_nil, List.getD_cons_zero, List.getD_cons_succ, Nat.zero_add, Nat.reduceAdd, Nat.reduceLT, if_true, ite_true]
    refine hEq (hPM Y X (aP T 0) S M D E N C U W G L VL HL nK ST TP BT) rfl ?_
    refine wp_V1 30 M_PM_answer 1 d_PM_settle_27 rfl mv_PM_answer lk_PM_182 rfl rfl rfl rfl rfl ?_
    refine c_PM_answer ?_
    refine kI ?_
    refine wp_ireturn d_PM_settle_30 rfl ?_
    have e : (seF T) = _ := (if_pos h7)
    rw [e] at hq
    exact hq
  · refine wp_aload_n 13 d_PM_settle_12 rfl rfl ?_
    refine wp_iconst 14 4 d_PM_settle_13 rfl (by decide) ?_
    refine wp_V1 17 M_PM_fail 1 d_PM_settle_14 rfl mv_PM_fail lk_PM_132 rfl rfl rfl rfl rfl ?_
    refine c_PM_fail ?_
    refine kI ?_
    refine wp_ireturn d_PM_settle_17 rfl ?_
    have e : (seF T) = _ := (if_neg (Nat.not_lt.mpr (nI_nltN (b := 7) h9 (by have := I.hP; omega) (by omega))))
    rw [e] at hq
    exact hq

set_option maxRecDepth 100000 in
set_option maxHeartbeats 4000000 in
theorem c_PM_go {l : Int32} (I : tOK T) (hq : Q (some (.int (goF T l).1)) (hPM Y X ((goF T l).2.2) S M D E N C U W G L VL HL nK ((goF T l).2.1) TP BT)) : Call Γ M_PM_go 4 0 0 [.ref 0, .int l] (hPM Y X T S M D E N C U W G L VL HL nK ST TP BT) Q := by
  have hL12 := I.hL
  have hP7 := I.hP
  have hW4 := I.hW
  refine call_intro (ls := [some (.ref 0), some (.int l)]) rfl rfl rfl ?_
  refine wp_iload_n 1 d_PM_go_0 rfl rfl ?_
  refine wp_aload_n 2 d_PM_go_1 rfl rfl ?_
  refine wp_getfield 5 11 2 d_PM_go_2 rfl fl_PM_25 rfl rfl ?_
  refine wp_getfield 8 8 10 d_PM_go_5 rfl fl_PM_179 rfl rfl ?_
  refine wp_S2 11 M_PM_within 1 d_PM_go_8 rfl ms_PM_within lk_PM_108 rfl rfl ?_
  refine c_PM_within ?_
  refine kI ?_
  (first | refine wp_ifP_ne 20 14 d_PM_go_11 rfl (by decide) (fun h11 => ?_) (fun h11 => ?_) | refine wp_if_ne 20 14 d_PM_go_11 rfl (by decide) (fun h11 => ?_) (fun h11 => ?_))
  · refine wp_aload_n 21 d_PM_go_20 rfl rfl ?_
    refine wp_getfield 24 11 2 d_PM_go_21 rfl fl_PM_25 rfl rfl ?_
    refine wp_iload_n 25 d_PM_go_24 rfl rfl ?_
    refine ws_V1 (b' := 0) 28 M_Town_walkAlong 3 [8, 9, 10, 11, 12, 13, 14, 15, 16] ((hTr T)) d_PM_go_25 rfl mv_Town_walkAlong lk_PM_321 rfl rfl rfl rfl rfl rfl rfl (eV_int _ _) rfl ?_
    refine c_Town_walkAlong I.hL I.te ?_
    refine sI ?_
    simp only [putH, rC, sg, eV, List.map_cons, List.map_nil, List.set_cons_zero, List.set_cons_succ, List.length_cons, List.length_nil, List.getD_cons_zero, List.getD_cons_succ, Nat.zero_add, Nat.reduceAdd, Nat.reduceLT, if_true, ite_true]
    refine hEq (hPM Y X (tSg T (if canGo T.fr T.to_ (nI T.nL) T.sk T.sd l then goD T l else T.sd) (if canGo T.fr T.to_ (nI T.nL) T.sk T.sd l then T.go + yA T.ea T.no T.fa T.te l.toNatClampNeg else T.go)) S M D E N C U W G L VL HL nK ST TP BT) rfl ?_
    (first | refine wp_ifP_ne 38 31 d_PM_go_28 rfl (by decide) (fun h28 => ?_) (fun h28 => ?_) | refine wp_if_ne 38 31 d_PM_go_28 rfl (by decide) (fun h28 => ?_) (fun h28 => ?_))
    · refine wp_aload_n 39 d_PM_go_38 rfl rfl ?_
      refine wp_aload_n 40 d_PM_go_39 rfl rfl ?_
      refine wp_getfield 43 11 2 d_PM_go_40 rfl fl_PM_25 rfl rfl ?_
      refine wp_getfield 46 8 13 d_PM_go_43 rfl fl_PM_212 rfl rfl ?_
      refine wp_V1 49 M_PM_answer 1 d_PM_go_46 rfl mv_PM_answer lk_PM_182 rfl rfl rfl rfl rfl ?_
      refine c_PM_answer ?_
      refine kI ?_
      refine wp_ireturn d_PM_go_49 rfl ?_
      show Q (some (.int (if canGo T.fr T.to_ (nI T.nL) T.sk T.sd l then goD T l else T.sd))) (hPM Y X (tSg T (if canGo T.fr T.to_ (nI T.nL) T.sk T.sd l then goD T l else T.sd) (if canGo T.fr T.to_ (nI T.nL) T.sk T.sd l then T.go + yA T.ea T.no T.fa T.te l.toNatClampNeg else T.go)) S M D E N C U W G L VL HL nK (0) TP BT)
      rw [if_pos h28, if_pos h28]
      have e : (goF T l) = _ := ((if_pos h11).trans (if_pos h28))
      rw [e] at hq
      exact hq
    · refine wp_aload_n 32 d_PM_go_31 rfl rfl ?_
      refine wp_bipush 34 7 d_PM_go_32 rfl (by decide) ?_
      refine wp_V1 37 M_PM_fail 1 d_PM_go_34 rfl mv_PM_fail lk_PM_132 rfl rfl rfl rfl rfl ?_
      refine c_PM_fail ?_
      refine kI ?_
      refine wp_ireturn d_PM_go_37 rfl ?_
      rw [if_neg h28, if_neg h28]
      have e : (goF T l) = _ := ((if_pos h11).trans (if_neg h28))
      rw [e] at hq
      exact hq
  · refine wp_aload_n 15 d_PM_go_14 rfl rfl ?_
    refine wp_iconst 16 1 d_PM_go_15 rfl (by decide) ?_
    refine wp_V1 19 M_PM_fail 1 d_PM_go_16 rfl mv_PM_fail lk_PM_132 rfl rfl rfl rfl rfl ?_
    refine c_PM_fail ?_
    refine kI ?_
    refine wp_ireturn d_PM_go_19 rfl ?_
    have e : (goF T l) = _ := (if_neg h11)
    rw [e] at hq
    exact hq

set_option maxRecDepth 100000 in
set_option maxHeartbeats 4000000 in
theorem c_PM_rule {a : Int32} (I : tOK T) (hq : Q (some (.int (ruF T a).1)) (hPM Y X ((ruF T a).2.2) S M D E N C U W G L VL HL nK ((ruF T a).2.1) TP BT)) : Call Γ M_PM_rule 2 0 0 [.ref 0, .int a] (hPM Y X T S M D E N C U W G L VL HL nK ST TP BT) Q := by
  have hL12 := I.hL
  have hP7 := I.hP
  have hW4 := I.hW
  refine call_intro (ls := [some (.ref 0), some (.int a)]) rfl rfl rfl ?_
  refine wp_iload_n 1 d_PM_rule_0 rfl rfl ?_
  refine wp_bipush 3 17 d_PM_rule_1 rfl (by decide) ?_
  refine wp_S2 6 M_PM_within 1 d_PM_rule_3 rfl ms_PM_within lk_PM_108 rfl rfl ?_
  refine c_PM_within ?_
  refine kI ?_
  (first | refine wp_ifP_ne 15 9 d_PM_rule_6 rfl (by decide) (fun h6 => ?_) (fun h6 => ?_) | refine wp_if_ne 15 9 d_PM_rule_6 rfl (by decide) (fun h6 => ?_) (fun h6 => ?_))
  · refine wp_aload_n 16 d_PM_rule_15 rfl rfl ?_
    refine wp_getfield 19 11 2 d_PM_rule_16 rfl fl_PM_25 rfl rfl ?_
    refine wp_iload_n 20 d_PM_rule_19 rfl rfl ?_
    refine wp_putfield 23 8 11 _ d_PM_rule_20 rfl fp_PM_209 rfl rfl (okP_int _) ?_
    refine hEq (hPM Y X (tSo T a) S M D E N C U W G L VL HL nK ST TP BT) rfl ?_
    refine wp_aload_n 24 d_PM_rule_23 rfl rfl ?_
    refine wp_V0 27 M_PM_accept 1 d_PM_rule_24 rfl mv_PM_accept lk_PM_120 rfl rfl rfl rfl rfl ?_
    refine c_PM_accept ?_
    refine kI ?_
    refine wp_zreturn d_PM_rule_27 rfl (by first | rfl | exact nbP _) ?_
    have e : (ruF T a) = _ := (if_pos h6)
    rw [e] at hq
    exact hq
  · refine wp_aload_n 10 d_PM_rule_9 rfl rfl ?_
    refine wp_iconst 11 1 d_PM_rule_10 rfl (by decide) ?_
    refine wp_V1 14 M_PM_refuse 1 d_PM_rule_11 rfl mv_PM_refuse lk_PM_112 rfl rfl rfl rfl rfl ?_
    refine c_PM_refuse ?_
    refine kI ?_
    refine wp_zreturn d_PM_rule_14 rfl (by first | rfl | exact nbP _) ?_
    have e : (ruF T a) = _ := (if_neg h6)
    rw [e] at hq
    exact hq

set_option maxRecDepth 100000 in
set_option maxHeartbeats 4000000 in
theorem c_PM_tray {a b c : Int32} (hq : Q (some (.int (trF Y a b c).1)) (hPM ((trF Y a b c).2.2) X T S M D E N C U W G L VL HL nK ((trF Y a b c).2.1) TP BT)) : Call Γ M_PM_tray 3 0 0 [.ref 0, .int a, .int b, .int c] (hPM Y X T S M D E N C U W G L VL HL nK ST TP BT) Q := by
  refine call_intro (ls := [some (.ref 0), some (.int a), some (.int b), some (.int c)]) rfl rfl rfl ?_
  refine wp_iload_n 1 d_PM_tray_0 rfl rfl ?_
  refine wp_iconst 2 4 d_PM_tray_1 rfl (by decide) ?_
  refine wp_S2 5 M_PM_within 1 d_PM_tray_2 rfl ms_PM_within lk_PM_108 rfl rfl ?_
  refine c_PM_within ?_
  refine kI ?_
  (first | refine wp_ifP_eq 25 8 d_PM_tray_5 rfl (by decide) (fun h5 => ?_) (fun h5 => ?_) | refine wp_if_eq 25 8 d_PM_tray_5 rfl (by decide) (fun h5 => ?_) (fun h5 => ?_))
  · refine wp_aload_n 26 d_PM_tray_25 rfl rfl ?_
    refine wp_iconst 27 1 d_PM_tray_26 rfl (by decide) ?_
    refine wp_V1 30 M_PM_refuse 1 d_PM_tray_27 rfl mv_PM_refuse lk_PM_112 rfl rfl rfl rfl rfl ?_
    refine c_PM_refuse ?_
    refine kI ?_
    refine wp_zreturn d_PM_tray_30 rfl (by first | rfl | exact nbP _) ?_
    have e : (trF Y a b c) = _ := (if_neg (fun z => h5 z.1))
    rw [e] at hq
    exact hq
  · refine wp_iload_n 9 d_PM_tray_8 rfl rfl ?_
    refine wp_iconst 10 4 d_PM_tray_9 rfl (by decide) ?_
    refine wp_S2 13 M_PM_within 1 d_PM_tray_10 rfl ms_PM_within lk_PM_108 rfl rfl ?_
    refine c_PM_within ?_
    refine kI ?_
    (first | refine wp_ifP_eq 25 16 d_PM_tray_13 rfl (by decide) (fun h13 => ?_) (fun h13 => ?_) | refine wp_if_eq 25 16 d_PM_tray_13 rfl (by decide) (fun h13 => ?_) (fun h13 => ?_))
    · refine wp_aload_n 26 d_PM_tray_25 rfl rfl ?_
      refine wp_iconst 27 1 d_PM_tray_26 rfl (by decide) ?_
      refine wp_V1 30 M_PM_refuse 1 d_PM_tray_27 rfl mv_PM_refuse lk_PM_112 rfl rfl rfl rfl rfl ?_
      refine c_PM_refuse ?_
      refine kI ?_
      refine wp_zreturn d_PM_tray_30 rfl (by first | rfl | exact nbP _) ?_
      have e : (trF Y a b c) = _ := (if_neg (fun z => h13 z.2.1))
      rw [e] at hq
      exact hq
    · refine wp_iload_n 17 d_PM_tray_16 rfl rfl ?_
      refine wp_bipush 19 61 d_PM_tray_17 rfl (by decide) ?_
      refine wp_S2 22 M_PM_within 1 d_PM_tray_19 rfl ms_PM_within lk_PM_108 rfl rfl ?_
      refine c_PM_within ?_
      refine kI ?_
      (first | refine wp_ifP_ne 31 25 d_PM_tray_22 rfl (by decide) (fun h22 => ?_) (fun h22 => ?_) | refine wp_if_ne 31 25 d_PM_tray_22 rfl (by decide) (fun h22 => ?_) (fun h22 => ?_))
      · obtain ⟨m, hm, rfl⟩ := inR_ex (n := 61) h22 (by omega)
        refine wp_aload_n 32 d_PM_tray_31 rfl rfl ?_
        refine wp_getfield 35 11 0 d_PM_tray_32 rfl fl_PM_11 rfl rfl ?_
        refine wp_iload_n 36 d_PM_tray_35 rfl rfl ?_
        rcases inR4 h5 with rfl | rfl | rfl | rfl
        · refine wp_aaload 37 4 77 d_PM_tray_36 rfl rfl (fun _ => rfl) (vp_in_nI (by decide) (by decide)) rfl ?_
          refine wp_iload_n 38 d_PM_tray_37 rfl rfl ?_
          refine wp_iload_n 39 d_PM_tray_38 rfl rfl ?_
          refine ws_V2 (b' := 0) 42 M_Tray_begin 2 [77, 78] ((hYr (Y 0))) d_PM_tray_39 rfl mv_Tray_begin lk_PM_116 rfl rfl rfl rfl rfl rfl rfl (eV_int _ _) (eV_int _ _) rfl ?_
          refine c_Tray_begin ?_
          refine sV ?_
          simp only [putH, rC, sg, eV, List.map_cons, List.map_nil, List.set_cons_zero, List.set_cons_succ, List.length_cons, List.length_nil, List.getD_cons_zero, List.getD_cons_succ, Nat.zero_add, Nat.reduceAdd, Nat.reduceLT, if_true, ite_true]
          refine hEq (hPM (updY Y 0 (yB (Y 0) b m)) X T S M D E N C U W G L VL HL nK ST TP BT) rfl ?_
          refine wp_aload_n 43 d_PM_tray_42 rfl rfl ?_
          refine wp_V0 46 M_PM_accept 1 d_PM_tray_43 rfl mv_PM_accept lk_PM_120 rfl rfl rfl rfl rfl ?_
          refine c_PM_accept ?_
          refine kI ?_
          refine wp_zreturn d_PM_tray_46 rfl (by first | rfl | exact nbP _) ?_
          have e : trF Y (nI 0) b (nI m) = (1, 0, updY Y 0 (yB (Y 0) b m)) := by
            unfold trF
            rw [if_pos ⟨h5, h13, h22⟩, nI_clamp (show m < 2 ^ 31 by omega)]; rfl
          rw [e] at hq
          exact hq
        · refine wp_aaload 37 4 79 d_PM_tray_36 rfl rfl (fun _ => rfl) (vp_in_nI (by decide) (by decide)) rfl ?_
          refine wp_iload_n 38 d_PM_tray_37 rfl rfl ?_
          refine wp_iload_n 39 d_PM_tray_38 rfl rfl ?_
          refine ws_V2 (b' := 0) 42 M_Tray_begin 2 [79, 80] ((hYr (Y 1))) d_PM_tray_39 rfl mv_Tray_begin lk_PM_116 rfl rfl rfl rfl rfl rfl rfl (eV_int _ _) (eV_int _ _) rfl ?_
          refine c_Tray_begin ?_
          refine sV ?_
          simp only [putH, rC, sg, eV, List.map_cons, List.map_nil, List.set_cons_zero, List.set_cons_succ, List.length_cons, List.length_nil, List.getD_cons_zero, List.getD_cons_succ, Nat.zero_add, Nat.reduceAdd, Nat.reduceLT, if_true, ite_true]
          refine hEq (hPM (updY Y 1 (yB (Y 1) b m)) X T S M D E N C U W G L VL HL nK ST TP BT) rfl ?_
          refine wp_aload_n 43 d_PM_tray_42 rfl rfl ?_
          refine wp_V0 46 M_PM_accept 1 d_PM_tray_43 rfl mv_PM_accept lk_PM_120 rfl rfl rfl rfl rfl ?_
          refine c_PM_accept ?_
          refine kI ?_
          refine wp_zreturn d_PM_tray_46 rfl (by first | rfl | exact nbP _) ?_
          have e : trF Y (nI 1) b (nI m) = (1, 0, updY Y 1 (yB (Y 1) b m)) := by
            unfold trF
            rw [if_pos ⟨h5, h13, h22⟩, nI_clamp (show m < 2 ^ 31 by omega)]; rfl
          rw [e] at hq
          exact hq
        · refine wp_aaload 37 4 81 d_PM_tray_36 rfl rfl (fun _ => rfl) (vp_in_nI (by decide) (by decide)) rfl ?_
          refine wp_iload_n 38 d_PM_tray_37 rfl rfl ?_
          refine wp_iload_n 39 d_PM_tray_38 rfl rfl ?_
          refine ws_V2 (b' := 0) 42 M_Tray_begin 2 [81, 82] ((hYr (Y 2))) d_PM_tray_39 rfl mv_Tray_begin lk_PM_116 rfl rfl rfl rfl rfl rfl rfl (eV_int _ _) (eV_int _ _) rfl ?_
          refine c_Tray_begin ?_
          refine sV ?_
          simp only [putH, rC, sg, eV, List.map_cons, List.map_nil, List.set_cons_zero, List.set_cons_succ, List.length_cons, List.length_nil, List.getD_cons_zero, List.getD_cons_succ, Nat.zero_add, Nat.reduceAdd, Nat.reduceLT, if_true, ite_true]
          refine hEq (hPM (updY Y 2 (yB (Y 2) b m)) X T S M D E N C U W G L VL HL nK ST TP BT) rfl ?_
          refine wp_aload_n 43 d_PM_tray_42 rfl rfl ?_
          refine wp_V0 46 M_PM_accept 1 d_PM_tray_43 rfl mv_PM_accept lk_PM_120 rfl rfl rfl rfl rfl ?_
          refine c_PM_accept ?_
          refine kI ?_
          refine wp_zreturn d_PM_tray_46 rfl (by first | rfl | exact nbP _) ?_
          have e : trF Y (nI 2) b (nI m) = (1, 0, updY Y 2 (yB (Y 2) b m)) := by
            unfold trF
            rw [if_pos ⟨h5, h13, h22⟩, nI_clamp (show m < 2 ^ 31 by omega)]; rfl
          rw [e] at hq
          exact hq
        · refine wp_aaload 37 4 83 d_PM_tray_36 rfl rfl (fun _ => rfl) (vp_in_nI (by decide) (by decide)) rfl ?_
          refine wp_iload_n 38 d_PM_tray_37 rfl rfl ?_
          refine wp_iload_n 39 d_PM_tray_38 rfl rfl ?_
          refine ws_V2 (b' := 0) 42 M_Tray_begin 2 [83, 84] ((hYr (Y 3))) d_PM_tray_39 rfl mv_Tray_begin lk_PM_116 rfl rfl rfl rfl rfl rfl rfl (eV_int _ _) (eV_int _ _) rfl ?_
          refine c_Tray_begin ?_
          refine sV ?_
          simp only [putH, rC, sg, eV, List.map_cons, List.map_nil, List.set_cons_zero, List.set_cons_succ, List.length_cons, List.length_nil, List.getD_cons_zero, List.getD_cons_succ, Nat.zero_add, Nat.reduceAdd, Nat.reduceLT, if_true, ite_true]
          refine hEq (hPM (updY Y 3 (yB (Y 3) b m)) X T S M D E N C U W G L VL HL nK ST TP BT) rfl ?_
          refine wp_aload_n 43 d_PM_tray_42 rfl rfl ?_
          refine wp_V0 46 M_PM_accept 1 d_PM_tray_43 rfl mv_PM_accept lk_PM_120 rfl rfl rfl rfl rfl ?_
          refine c_PM_accept ?_
          refine kI ?_
          refine wp_zreturn d_PM_tray_46 rfl (by first | rfl | exact nbP _) ?_
          have e : trF Y (nI 3) b (nI m) = (1, 0, updY Y 3 (yB (Y 3) b m)) := by
            unfold trF
            rw [if_pos ⟨h5, h13, h22⟩, nI_clamp (show m < 2 ^ 31 by omega)]; rfl
          rw [e] at hq
          exact hq
      · refine wp_aload_n 26 d_PM_tray_25 rfl rfl ?_
        refine wp_iconst 27 1 d_PM_tray_26 rfl (by decide) ?_
        refine wp_V1 30 M_PM_refuse 1 d_PM_tray_27 rfl mv_PM_refuse lk_PM_112 rfl rfl rfl rfl rfl ?_
        refine c_PM_refuse ?_
        refine kI ?_
        refine wp_zreturn d_PM_tray_30 rfl (by first | rfl | exact nbP _) ?_
        have e : (trF Y a b c) = _ := (if_neg (fun z => h22 z.2.2))
        rw [e] at hq
        exact hq

theorem spF_in {Y : Nat → YT} {a b : Int32} (h : spF Y a b = 0) : inR a 4 ∧ ¬ (Y a.toNatClampNeg).yth = 0 ∧ inR b (nI (Y a.toNatClampNeg).nM) := by
  unfold spF at h
  split at h
  · split at h
    · exact absurd h (by decide)
    · split at h
      · exact ⟨by assumption, by assumption, by assumption⟩
      · exact absurd h (by decide)
  · exact absurd h (by decide)
set_option maxRecDepth 100000 in
set_option maxHeartbeats 4000000 in
theorem c_PM_write {a b : Int32} {v : Int64} (hY : ∀ k, (Y k).nM ≤ 60) (hq : Q (some (.int (wrF Y a b v).1)) (hPM ((wrF Y a b v).2.2) X T S M D E N C U W G L VL HL nK ((wrF Y a b v).2.1) TP BT)) : Call Γ M_PM_write 3 0 0 [.ref 0, .int a, .int b, .long v] (hPM Y X T S M D E N C U W G L VL HL nK ST TP BT) Q := by
  refine call_intro (ls := [some (.ref 0), some (.int a), some (.int b), some (.long v), none, none]) rfl rfl rfl ?_
  refine wp_aload_n 1 d_PM_write_0 rfl rfl ?_
  refine wp_iload_n 2 d_PM_write_1 rfl rfl ?_
  refine wp_iload_n 3 d_PM_write_2 rfl rfl ?_
  refine wp_V2 6 M_PM_spotFault 2 d_PM_write_3 rfl mv_PM_spotFault lk_PM_124 rfl rfl rfl rfl rfl ?_
  refine c_PM_spotFault ?_
  refine kI ?_
  refine wp_istore_5 8 d_PM_write_6 rfl rfl rfl ?_
  refine wp_iload 10 d_PM_write_8 rfl rfl ?_
  refine wp_if_eq 20 13 d_PM_write_10 rfl (by decide) (fun h10 => ?_) (fun h10 => ?_)
  · have h5 := (spF_in h10).1
    refine wp_aload_n 21 d_PM_write_20 rfl rfl ?_
    refine wp_getfield 24 11 0 d_PM_write_21 rfl fl_PM_11 rfl rfl ?_
    refine wp_iload_n 25 d_PM_write_24 rfl rfl ?_
    rcases inR4 h5 with rfl | rfl | rfl | rfl
    · refine wp_aaload 26 4 77 d_PM_write_25 rfl rfl (fun _ => rfl) (vp_in_nI (by decide) (by decide)) rfl ?_
      refine wp_iload_n 27 d_PM_write_26 rfl rfl ?_
      refine wp_lload_n 28 d_PM_write_27 rfl rfl ?_
      refine ws_V2 (b' := 0) 31 M_Tray_put 2 [77, 78] ((hYr (Y 0))) d_PM_write_28 rfl mv_Tray_put lk_PM_128 rfl rfl rfl rfl rfl rfl rfl (eV_int _ _) (eV_long _ _) rfl ?_
      refine c_Tray_put (hY 0) ?_
      refine sV ?_
      simp only [putH, rC, sg, eV, List.map_cons, List.map_nil, List.set_cons_zero, List.set_cons_succ, List.length_cons, List.length_nil, List.getD_cons_zero, List.getD_cons_succ, Nat.zero_add, Nat.reduceAdd, Nat.reduceLT, if_true, ite_true]
      refine hEq (hPM (updY Y 0 (yP (Y 0) b v)) X T S M D E N C U W G L VL HL nK ST TP BT) rfl ?_
      refine wp_aload_n 32 d_PM_write_31 rfl rfl ?_
      refine wp_V0 35 M_PM_accept 1 d_PM_write_32 rfl mv_PM_accept lk_PM_120 rfl rfl rfl rfl rfl ?_
      refine c_PM_accept ?_
      refine kI ?_
      refine wp_zreturn d_PM_write_35 rfl (by first | rfl | exact nbP _) ?_
      have e : wrF Y (nI 0) b v = _ := if_pos h10
      rw [e] at hq
      exact hq
    · refine wp_aaload 26 4 79 d_PM_write_25 rfl rfl (fun _ => rfl) (vp_in_nI (by decide) (by decide)) rfl ?_
      refine wp_iload_n 27 d_PM_write_26 rfl rfl ?_
      refine wp_lload_n 28 d_PM_write_27 rfl rfl ?_
      refine ws_V2 (b' := 0) 31 M_Tray_put 2 [79, 80] ((hYr (Y 1))) d_PM_write_28 rfl mv_Tray_put lk_PM_128 rfl rfl rfl rfl rfl rfl rfl (eV_int _ _) (eV_long _ _) rfl ?_
      refine c_Tray_put (hY 1) ?_
      refine sV ?_
      simp only [putH, rC, sg, eV, List.map_cons, List.map_nil, List.set_cons_zero, List.set_cons_succ, List.length_cons, List.length_nil, List.getD_cons_zero, List.getD_cons_succ, Nat.zero_add, Nat.reduceAdd, Nat.reduceLT, if_true, ite_true]
      refine hEq (hPM (updY Y 1 (yP (Y 1) b v)) X T S M D E N C U W G L VL HL nK ST TP BT) rfl ?_
      refine wp_aload_n 32 d_PM_write_31 rfl rfl ?_
      refine wp_V0 35 M_PM_accept 1 d_PM_write_32 rfl mv_PM_accept lk_PM_120 rfl rfl rfl rfl rfl ?_
      refine c_PM_accept ?_
      refine kI ?_
      refine wp_zreturn d_PM_write_35 rfl (by first | rfl | exact nbP _) ?_
      have e : wrF Y (nI 1) b v = _ := if_pos h10
      rw [e] at hq
      exact hq
    · refine wp_aaload 26 4 81 d_PM_write_25 rfl rfl (fun _ => rfl) (vp_in_nI (by decide) (by decide)) rfl ?_
      refine wp_iload_n 27 d_PM_write_26 rfl rfl ?_
      refine wp_lload_n 28 d_PM_write_27 rfl rfl ?_
      refine ws_V2 (b' := 0) 31 M_Tray_put 2 [81, 82] ((hYr (Y 2))) d_PM_write_28 rfl mv_Tray_put lk_PM_128 rfl rfl rfl rfl rfl rfl rfl (eV_int _ _) (eV_long _ _) rfl ?_
      refine c_Tray_put (hY 2) ?_
      refine sV ?_
      simp only [putH, rC, sg, eV, List.map_cons, List.map_nil, List.set_cons_zero, List.set_cons_succ, List.length_cons, List.length_nil, List.getD_cons_zero, List.getD_cons_succ, Nat.zero_add, Nat.reduceAdd, Nat.reduceLT, if_true, ite_true]
      refine hEq (hPM (updY Y 2 (yP (Y 2) b v)) X T S M D E N C U W G L VL HL nK ST TP BT) rfl ?_
      refine wp_aload_n 32 d_PM_write_31 rfl rfl ?_
      refine wp_V0 35 M_PM_accept 1 d_PM_write_32 rfl mv_PM_accept lk_PM_120 rfl rfl rfl rfl rfl ?_
      refine c_PM_accept ?_
      refine kI ?_
      refine wp_zreturn d_PM_write_35 rfl (by first | rfl | exact nbP _) ?_
      have e : wrF Y (nI 2) b v = _ := if_pos h10
      rw [e] at hq
      exact hq
    · refine wp_aaload 26 4 83 d_PM_write_25 rfl rfl (fun _ => rfl) (vp_in_nI (by decide) (by decide)) rfl ?_
      refine wp_iload_n 27 d_PM_write_26 rfl rfl ?_
      refine wp_lload_n 28 d_PM_write_27 rfl rfl ?_
      refine ws_V2 (b' := 0) 31 M_Tray_put 2 [83, 84] ((hYr (Y 3))) d_PM_write_28 rfl mv_Tray_put lk_PM_128 rfl rfl rfl rfl rfl rfl rfl (eV_int _ _) (eV_long _ _) rfl ?_
      refine c_Tray_put (hY 3) ?_
      refine sV ?_
      simp only [putH, rC, sg, eV, List.map_cons, List.map_nil, List.set_cons_zero, List.set_cons_succ, List.length_cons, List.length_nil, List.getD_cons_zero, List.getD_cons_succ, Nat.zero_add, Nat.reduceAdd, Nat.reduceLT, if_true, ite_true]
      refine hEq (hPM (updY Y 3 (yP (Y 3) b v)) X T S M D E N C U W G L VL HL nK ST TP BT) rfl ?_
      refine wp_aload_n 32 d_PM_write_31 rfl rfl ?_
      refine wp_V0 35 M_PM_accept 1 d_PM_write_32 rfl mv_PM_accept lk_PM_120 rfl rfl rfl rfl rfl ?_
      refine c_PM_accept ?_
      refine kI ?_
      refine wp_zreturn d_PM_write_35 rfl (by first | rfl | exact nbP _) ?_
      have e : wrF Y (nI 3) b v = _ := if_pos h10
      rw [e] at hq
      exact hq
  · refine wp_aload_n 14 d_PM_write_13 rfl rfl ?_
    refine wp_iload 16 d_PM_write_14 rfl rfl ?_
    refine wp_V1 19 M_PM_refuse 1 d_PM_write_16 rfl mv_PM_refuse lk_PM_112 rfl rfl rfl rfl rfl ?_
    refine c_PM_refuse ?_
    refine kI ?_
    refine wp_zreturn d_PM_write_19 rfl (by first | rfl | exact nbP _) ?_
    have e : (wrF Y a b v) = _ := (if_neg h10)
    rw [e] at hq
    exact hq

set_option maxRecDepth 100000 in
set_option maxHeartbeats 4000000 in
theorem c_PM_read {a b : Int32} (hY : ∀ k, (Y k).nM ≤ 60) (hq : Q (some (.long (rdF Y a b).1)) (hPM Y X T S M D E N C U W G L VL HL nK ((rdF Y a b).2) TP BT)) : Call Γ M_PM_read 3 0 0 [.ref 0, .int a, .int b] (hPM Y X T S M D E N C U W G L VL HL nK ST TP BT) Q := by
  refine call_intro (ls := [some (.ref 0), some (.int a), some (.int b), none]) rfl rfl rfl ?_
  refine wp_aload_n 1 d_PM_read_0 rfl rfl ?_
  refine wp_iload_n 2 d_PM_read_1 rfl rfl ?_
  refine wp_iload_n 3 d_PM_read_2 rfl rfl ?_
  refine wp_V2 6 M_PM_spotFault 2 d_PM_read_3 rfl mv_PM_spotFault lk_PM_124 rfl rfl rfl rfl rfl ?_
  refine c_PM_spotFault ?_
  refine kI ?_
  refine wp_istore_3 7 d_PM_read_6 rfl rfl rfl ?_
  refine wp_iload_n 8 d_PM_read_7 rfl rfl ?_
  refine wp_if_eq 18 11 d_PM_read_8 rfl (by decide) (fun h8 => ?_) (fun h8 => ?_)
  · have h5 := spF_in h8
    refine wp_aload_n 19 d_PM_read_18 rfl rfl ?_
    refine wp_iconst 20 0 d_PM_read_19 rfl (by decide) ?_
    refine wp_putfield 23 11 16 _ d_PM_read_20 rfl fp_PM_97 rfl rfl (okP_int _) ?_
    refine hEq (hPM Y X T S M D E N C U W G L VL HL nK (0) TP BT) rfl ?_
    refine wp_aload_n 24 d_PM_read_23 rfl rfl ?_
    refine wp_getfield 27 11 0 d_PM_read_24 rfl fl_PM_11 rfl rfl ?_
    refine wp_iload_n 28 d_PM_read_27 rfl rfl ?_
    rcases inR4 h5.1 with rfl | rfl | rfl | rfl
    · refine wp_aaload 29 4 77 d_PM_read_28 rfl rfl (fun _ => rfl) (vp_in_nI (by decide) (by decide)) rfl ?_
      refine wp_getfield 32 10 0 d_PM_read_29 rfl fl_PM_136 rfl rfl ?_
      refine wp_iload_n 33 d_PM_read_32 rfl rfl ?_
      refine wp_laload 34 d_PM_read_33 rfl rfl (inR_in h5.2.2 (hY _) (by omega)) ?_
      refine wp_lreturn d_PM_read_34 rfl ?_
      have e : rdF Y (nI 0) b = _ := if_pos h8
      rw [e] at hq
      exact hq
    · refine wp_aaload 29 4 79 d_PM_read_28 rfl rfl (fun _ => rfl) (vp_in_nI (by decide) (by decide)) rfl ?_
      refine wp_getfield 32 10 0 d_PM_read_29 rfl fl_PM_136 rfl rfl ?_
      refine wp_iload_n 33 d_PM_read_32 rfl rfl ?_
      refine wp_laload 34 d_PM_read_33 rfl rfl (inR_in h5.2.2 (hY _) (by omega)) ?_
      refine wp_lreturn d_PM_read_34 rfl ?_
      have e : rdF Y (nI 1) b = _ := if_pos h8
      rw [e] at hq
      exact hq
    · refine wp_aaload 29 4 81 d_PM_read_28 rfl rfl (fun _ => rfl) (vp_in_nI (by decide) (by decide)) rfl ?_
      refine wp_getfield 32 10 0 d_PM_read_29 rfl fl_PM_136 rfl rfl ?_
      refine wp_iload_n 33 d_PM_read_32 rfl rfl ?_
      refine wp_laload 34 d_PM_read_33 rfl rfl (inR_in h5.2.2 (hY _) (by omega)) ?_
      refine wp_lreturn d_PM_read_34 rfl ?_
      have e : rdF Y (nI 2) b = _ := if_pos h8
      rw [e] at hq
      exact hq
    · refine wp_aaload 29 4 83 d_PM_read_28 rfl rfl (fun _ => rfl) (vp_in_nI (by decide) (by decide)) rfl ?_
      refine wp_getfield 32 10 0 d_PM_read_29 rfl fl_PM_136 rfl rfl ?_
      refine wp_iload_n 33 d_PM_read_32 rfl rfl ?_
      refine wp_laload 34 d_PM_read_33 rfl rfl (inR_in h5.2.2 (hY _) (by omega)) ?_
      refine wp_lreturn d_PM_read_34 rfl ?_
      have e : rdF Y (nI 3) b = _ := if_pos h8
      rw [e] at hq
      exact hq
  · refine wp_aload_n 12 d_PM_read_11 rfl rfl ?_
    refine wp_iload_n 13 d_PM_read_12 rfl rfl ?_
    refine wp_V1 16 M_PM_fail 1 d_PM_read_13 rfl mv_PM_fail lk_PM_132 rfl rfl rfl rfl rfl ?_
    refine c_PM_fail ?_
    refine kI ?_
    refine wp_i2l 17 d_PM_read_16 rfl ?_
    refine wp_lreturn d_PM_read_17 rfl ?_
    have e : (rdF Y a b) = _ := if_neg h8
    rw [e] at hq
    exact hq

end T54
