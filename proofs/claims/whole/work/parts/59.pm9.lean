/-! ===== the class: area, copyPlaces, texts ===== -/
def arS (T : TW) (Y : Nat → YT) (a n : Int32) : Int32 := if inR a 4 ∧ ¬ n < 3 ∧ ¬ 20 < n then (if (Y a.toNatClampNeg).yth = 0 then 2 else if (0 : Int32).toInt64 + n.toInt64 ≤ (nI (Y a.toNatClampNeg).nM).toInt64 then cfI T (Y a.toNatClampNeg).yn n.toNatClampNeg 0 0 else 3) else 1
def aJ (x : Int64) : Int64 := if x < 0 then -x else x
def arA (T : TW) (Y : Nat → YT) (a n : Int32) : Int64 := aJ (taF T (Y a.toNatClampNeg).yn n.toNatClampNeg)
def cpS (T : TW) (Y : Nat → YT) (a : Int32) : Int32 := if inR a 4 then (if (Y a.toNatClampNeg).yth = 0 then 2 else if (0 : Int32).toInt64 + (2 * nI T.nP).toInt64 ≤ (nI (Y a.toNatClampNeg).nM).toInt64 then (if bcR (tLi T) < nI T.nP then 6 else 0) else 3) else 1
def yPut (y : YT) (p : Nat) (v : Int64) : YT := YT.mk (vp_updL y.yn p (cutR y.yso v)) y.yth y.yso y.nM
def cpH (k : Nat) (x y : Nat → Int32) (i : Nat) (Y : Nat → YT) : Nat → YT := updY (updY Y k (yPut (Y k) (2 * i) (x i).toInt64)) k (yPut (updY Y k (yPut (Y k) (2 * i) (x i).toInt64) k) (2 * i + 1) (y i).toInt64)
def cpY (T : TW) (Y : Nat → YT) (k : Nat) : Nat → YT := iterN (cpH k (tX T) (tY T)) T.nP 0 Y
theorem yPut_nM {Y : Nat → YT} {k p : Nat} {v : Int64} : (updY Y k (yPut (Y k) p v) k).nM = (Y k).nM := by rw [show updY Y k (yPut (Y k) p v) k = yPut (Y k) p v from if_pos rfl]; rfl
theorem mul2 (i : Nat) : (2 : Int32) * nI i = nI (2 * i) := by
  rw [show (2 : Int32) = 1 + 1 from rfl, Int32.add_mul, Int32.one_mul, nI_add]; congr 1; omega
theorem call_drop {Γ : Gm} {μ : MI} {d cb sb : Nat} {args : List Value} {h : LH} {Q : Option Value → LH → Prop} (k : Call Γ μ d cb sb args h (fun v h' => ∃ (h2 g : LH), h' = h2 ++ g ∧ h2.length = h.length ∧ h2.all (okC h2.length) = true ∧ (∀ x, v = some x → okV 0 x = true) ∧ Q v h2)) : Call Γ μ d cb sb args h Q := by
  intro l ρ sz rm h1 h2 h3 h4 p e ha hc hk s m args below hf happ hP hK
  obtain ⟨t, o, b1, b2, b3, ⟨⟨⟨v, h', ρ', c1, ⟨hh, g, e1, e2, e3, e4, hq⟩, c3, c4, c5, c6, c7, c8⟩, b4⟩, b5⟩⟩ := k l ρ sz rm h1 h2 h3 h4 p e ha hc hk s m args below hf happ hP hK
  subst e1
  have eh : eH ρ' Γ.2.1 hh = eH ρ Γ.2.1 hh := eH_ok e3 (fun k hk => c3 k (by omega))
  have pre : ∀ (k : Nat) (q : Nat × va_E), (eH ρ Γ.2.1 hh)[k]? = some q → (eH ρ' Γ.2.1 (hh ++ g))[k]? = some q := by
    intro k q hq
    rw [← eh, eH_get] at hq
    rw [eH_get]
    cases hk : hh[k]? with
    | none => rw [hk] at hq; simp at hq
    | some c =>
      rw [hk] at hq
      have hlt := (List.getElem?_eq_some_iff.mp hk).1
      rw [List.getElem?_append_left hlt, hk]; exact hq
  refine ⟨t, o, b1, b2, b3, ⟨⟨⟨v, hh, ρ, ?_, hq, fun _ _ => rfl, by omega, by omega, fun _ => rfl, fun k q hq => c7 k q (pre k q hq), ⟨fun i j p q hp hq => c8.1 i j p q (pre i p hp) (pre j q hq), fun k q hq => c8.2 k q (pre k q hq)⟩⟩, b4⟩, b5⟩⟩
  rw [c1]
  cases v with
  | none => rfl
  | some x => exact congrArg (fun y => Outcome.returned (some y)) (eV_ok (n := 0) (e4 x rfl) (fun k hk => c3 k (by omega)))
section T59
variable {Γ : Gm} {Q : Option Value → LH → Prop} {Y : Nat → YT} {X : XT} {T S : TW} {M : Nat → TW} {D E : DW} {N : Nat → DW} {C : CH} {U : UT} {W : WT} {G : GT} {L : LT} {VL : Nat → Int32} {HL ST : Int32} {nK : Nat} {TP BT : Int64}
set_option maxRecDepth 100000 in
set_option maxHeartbeats 4000000 in
theorem c_JMath_absJ {x : Int64} {h : LH} (hq : Q (some (.long (aJ x))) h) : Call Γ M_JMath_absJ 1 0 0 [.long x] h Q := by
  refine call_introF (ls := [some (.long x), none]) (by decide +kernel) rfl rfl ?_
  refine wp_lload_n 1 d_JMath_absJ_0 rfl rfl ?_
  refine wp_lconst 2 0 d_JMath_absJ_1 rfl (by decide) ?_
  refine wp_lcmp 3 d_JMath_absJ_2 rfl ?_
  refine wp_if_ge 11 6 d_JMath_absJ_3 rfl (by decide) (fun h3 => ?_) (fun h3 => ?_)
  · refine wp_lload_n 12 d_JMath_absJ_11 rfl rfl ?_
    refine wp_lreturn d_JMath_absJ_12 rfl ?_
    have e : aJ x = _ := if_neg (fun z => absurd (lc_lt.mpr z) (Int32.not_lt.mpr h3))
    rw [e] at hq
    exact hq
  · refine wp_lload_n 7 d_JMath_absJ_6 rfl rfl ?_
    refine wp_lneg 8 d_JMath_absJ_7 rfl ?_
    refine wp_goto 12 d_JMath_absJ_8 (by decide) ?_
    refine wp_lreturn d_JMath_absJ_12 rfl ?_
    have e : aJ x = _ := if_pos (lc_lt.mp (Int32.not_le.mp h3))
    rw [e] at hq
    exact hq

set_option maxRecDepth 100000 in
set_option maxHeartbeats 4000000 in
theorem c_PM_area {a n : Int32} (I : tOK T) (SO_ : SO C U W L) (hq0 : ∀ v, arS T Y a n = v → ¬ v = 0 → ∀ C U W G L, SO C U W L → Q (some (.int 0)) (hPM Y X T S M D E N C U W G L VL HL nK (v) TP BT)) (hq1 : arS T Y a n = 0 → ∀ C U W G L, SO C U W L → Q (some (.int 1)) (hPM Y X T S M D E N C U W G L VL HL nK (0) (frT (arA T Y a n) 2 TP) (frB (arA T Y a n) 2 BT))) : Call Γ M_PM_area 6 0 0 [.ref 0, .int a, .int n] (hPM Y X T S M D E N C U W G L VL HL nK ST TP BT) Q := by
  refine call_intro (ls := [some (.ref 0), some (.int a), some (.int n), none, none]) rfl rfl rfl ?_
  refine wp_iload_n 1 d_PM_area_0 rfl rfl ?_
  refine wp_iconst 2 4 d_PM_area_1 rfl (by decide) ?_
  refine wp_S2 5 M_PM_within 1 d_PM_area_2 rfl ms_PM_within lk_PM_108 rfl rfl ?_
  refine c_PM_within ?_
  refine kI ?_
  (first | refine wp_ifP_eq 19 8 d_PM_area_5 rfl (by decide) (fun h5 => ?_) (fun h5 => ?_) | refine wp_if_eq 19 8 d_PM_area_5 rfl (by decide) (fun h5 => ?_) (fun h5 => ?_))
  · refine wp_aload_n 20 d_PM_area_19 rfl rfl ?_
    refine wp_iconst 21 1 d_PM_area_20 rfl (by decide) ?_
    refine wp_V1 24 M_PM_refuse 1 d_PM_area_21 rfl mv_PM_refuse lk_PM_112 rfl rfl rfl rfl rfl ?_
    refine c_PM_refuse ?_
    refine kI ?_
    refine wp_zreturn d_PM_area_24 rfl (by first | rfl | exact nbP _) ?_
    have e : arS T Y a n = 1 := (if_neg (fun z => h5 z.1))
    exact hq0 _ e (by decide) _ _ _ _ _ SO_
  · refine wp_iload_n 9 d_PM_area_8 rfl rfl ?_
    refine wp_iconst 10 3 d_PM_area_9 rfl (by decide) ?_
    refine wp_icmp_lt 19 13 d_PM_area_10 rfl (by decide) (fun h10 => ?_) (fun h10 => ?_)
    · refine wp_aload_n 20 d_PM_area_19 rfl rfl ?_
      refine wp_iconst 21 1 d_PM_area_20 rfl (by decide) ?_
      refine wp_V1 24 M_PM_refuse 1 d_PM_area_21 rfl mv_PM_refuse lk_PM_112 rfl rfl rfl rfl rfl ?_
      refine c_PM_refuse ?_
      refine kI ?_
      refine wp_zreturn d_PM_area_24 rfl (by first | rfl | exact nbP _) ?_
      have e : arS T Y a n = 1 := (if_neg (fun z => z.2.1 h10))
      exact hq0 _ e (by decide) _ _ _ _ _ SO_
    · refine wp_iload_n 14 d_PM_area_13 rfl rfl ?_
      refine wp_bipush 16 20 d_PM_area_14 rfl (by decide) ?_
      refine wp_icmp_le 25 19 d_PM_area_16 rfl (by decide) (fun h16 => ?_) (fun h16 => ?_)
      · have hb0 : ¬ n < 0 := fun z => h10 (Int32.lt_of_lt_of_le z (by decide))
        obtain ⟨m, hm, rfl⟩ := nI_of hb0
        have hm20 : m ≤ 20 := nI_nltN (a := 20) (fun z => absurd h16 (Int32.not_le.mpr z)) (by omega) (by omega)
        refine wp_aload_n 26 d_PM_area_25 rfl rfl ?_
        refine wp_getfield 29 11 0 d_PM_area_26 rfl fl_PM_11 rfl rfl ?_
        refine wp_iload_n 30 d_PM_area_29 rfl rfl ?_
        rcases inR4 h5 with rfl | rfl | rfl | rfl
        · refine wp_aaload 31 4 77 d_PM_area_30 rfl rfl (fun _ => rfl) (vp_in_nI (by decide) (by decide)) rfl ?_
          refine wp_astore_3 32 d_PM_area_31 rfl rfl rfl ?_
          refine wp_aload_n 33 d_PM_area_32 rfl rfl ?_
          refine wp_getfield 36 10 1 d_PM_area_33 rfl fl_PM_140 rfl rfl ?_
          refine wp_if_ne 45 39 d_PM_area_36 rfl (by decide) (fun h36 => ?_) (fun h36 => ?_)
          · refine wp_aload_n 46 d_PM_area_45 rfl rfl ?_
            refine wp_iconst 47 0 d_PM_area_46 rfl (by decide) ?_
            refine wp_iload_n 48 d_PM_area_47 rfl rfl ?_
            refine ws_V2 (b' := 0) 51 M_Tray_holds 1 [77, 78] ((hYr (Y 0))) d_PM_area_48 rfl mv_Tray_holds lk_PM_146 rfl rfl rfl rfl rfl rfl rfl (eV_int _ _) (eV_int _ _) rfl ?_
            refine c_Tray_holds ?_
            refine sIr rfl rfl ?_
            (first | refine wp_ifP_ne 60 54 d_PM_area_51 rfl (by decide) (fun h51 => ?_) (fun h51 => ?_) | refine wp_if_ne 60 54 d_PM_area_51 rfl (by decide) (fun h51 => ?_) (fun h51 => ?_))
            · refine wp_aload_n 61 d_PM_area_60 rfl rfl ?_
              refine wp_aload_n 62 d_PM_area_61 rfl rfl ?_
              refine wp_iload_n 63 d_PM_area_62 rfl rfl ?_
              refine wp_V2 66 M_PM_cornersFault 5 d_PM_area_63 rfl mv_PM_cornersFault lk_PM_375 rfl rfl rfl rfl rfl ?_
              refine c_PM_cornersFault0 (by omega) I SO_ (fun c2 hc2 hA => ?_)
              refine kI ?_
              refine wp_istore_4 68 d_PM_area_66 rfl rfl rfl ?_
              refine wp_iload 70 d_PM_area_68 rfl rfl ?_
              refine wp_if_eq 80 73 d_PM_area_70 rfl (by decide) (fun h70 => ?_) (fun h70 => ?_)
              · refine wp_aload_n 81 d_PM_area_80 rfl rfl ?_
                refine wp_aload_n 82 d_PM_area_81 rfl rfl ?_
                refine wp_aload_n 83 d_PM_area_82 rfl rfl ?_
                refine wp_iload_n 84 d_PM_area_83 rfl rfl ?_
                refine wp_V2 87 M_PM_twiceArea 1 d_PM_area_84 rfl mv_PM_twiceArea lk_PM_379 rfl rfl rfl rfl rfl ?_
                refine c_PM_twiceArea0 (by omega) I.hP hA (fun j hj => cfI_in m 0 0 (by rw [h70]; decide) j (by omega) (by omega)) ?_
                refine kL ?_
                refine wp_S1 90 M_JMath_absJ 1 d_PM_area_87 rfl ms_JMath_absJ lk_PM_383 rfl rfl ?_
                refine c_JMath_absJ ?_
                refine kL ?_
                refine wp_ldc2 93 (2 : Int64) d_PM_area_90 rfl ct_PM_386 ?_
                refine wp_V2 96 M_PM_acceptFraction 2 d_PM_area_93 rfl mv_PM_acceptFraction lk_PM_348 rfl rfl rfl rfl rfl ?_
                refine c_PM_acceptFraction ?_
                refine kI ?_
                refine wp_zreturn d_PM_area_96 rfl (by first | rfl | exact nbP _) ?_
                have en : (nI m).toNatClampNeg = m := nI_clamp (by omega)
                have e : arS T Y (nI 0) (nI m) = 0 := (((((if_pos ⟨h5, h10, Int32.not_lt.mpr h16⟩).trans (if_neg h36)).trans (if_pos h51)).trans (congrArg (fun n => cfI T (Y 0).yn n 0 0) en)).trans (h70))
                have h9 := hq1 e _ _ _ G _ ⟨hc2, SO_.2⟩
                unfold arA at h9
                rw [en] at h9
                exact h9
              · refine wp_aload_n 74 d_PM_area_73 rfl rfl ?_
                refine wp_iload 76 d_PM_area_74 rfl rfl ?_
                refine wp_V1 79 M_PM_refuse 1 d_PM_area_76 rfl mv_PM_refuse lk_PM_112 rfl rfl rfl rfl rfl ?_
                refine c_PM_refuse ?_
                refine kI ?_
                refine wp_zreturn d_PM_area_79 rfl (by first | rfl | exact nbP _) ?_
                have en : (nI m).toNatClampNeg = m := nI_clamp (by omega)
                have e : arS T Y (nI 0) (nI m) = cfI T (Y 0).yn m 0 0 := ((((if_pos ⟨h5, h10, Int32.not_lt.mpr h16⟩).trans (if_neg h36)).trans (if_pos h51)).trans (congrArg (fun n => cfI T (Y 0).yn n 0 0) en))
                exact hq0 _ e h70 _ _ _ G _ ⟨hc2, SO_.2⟩
            · refine wp_aload_n 55 d_PM_area_54 rfl rfl ?_
              refine wp_iconst 56 3 d_PM_area_55 rfl (by decide) ?_
              refine wp_V1 59 M_PM_refuse 1 d_PM_area_56 rfl mv_PM_refuse lk_PM_112 rfl rfl rfl rfl rfl ?_
              refine c_PM_refuse ?_
              refine kI ?_
              refine wp_zreturn d_PM_area_59 rfl (by first | rfl | exact nbP _) ?_
              have e : arS T Y (nI 0) (nI m) = 3 := (((if_pos ⟨h5, h10, Int32.not_lt.mpr h16⟩).trans (if_neg h36)).trans (if_neg h51))
              exact hq0 _ e (by decide) _ _ _ _ _ SO_
          · refine wp_aload_n 40 d_PM_area_39 rfl rfl ?_
            refine wp_iconst 41 2 d_PM_area_40 rfl (by decide) ?_
            refine wp_V1 44 M_PM_refuse 1 d_PM_area_41 rfl mv_PM_refuse lk_PM_112 rfl rfl rfl rfl rfl ?_
            refine c_PM_refuse ?_
            refine kI ?_
            refine wp_zreturn d_PM_area_44 rfl (by first | rfl | exact nbP _) ?_
            have e : arS T Y (nI 0) (nI m) = 2 := ((if_pos ⟨h5, h10, Int32.not_lt.mpr h16⟩).trans (if_pos h36))
            exact hq0 _ e (by decide) _ _ _ _ _ SO_
        · refine wp_aaload 31 4 79 d_PM_area_30 rfl rfl (fun _ => rfl) (vp_in_nI (by decide) (by decide)) rfl ?_
          refine wp_astore_3 32 d_PM_area_31 rfl rfl rfl ?_
          refine wp_aload_n 33 d_PM_area_32 rfl rfl ?_
          refine wp_getfield 36 10 1 d_PM_area_33 rfl fl_PM_140 rfl rfl ?_
          refine wp_if_ne 45 39 d_PM_area_36 rfl (by decide) (fun h36 => ?_) (fun h36 => ?_)
          · refine wp_aload_n 46 d_PM_area_45 rfl rfl ?_
            refine wp_iconst 47 0 d_PM_area_46 rfl (by decide) ?_
            refine wp_iload_n 48 d_PM_area_47 rfl rfl ?_
            refine ws_V2 (b' := 0) 51 M_Tray_holds 1 [79, 80] ((hYr (Y 1))) d_PM_area_48 rfl mv_Tray_holds lk_PM_146 rfl rfl rfl rfl rfl rfl rfl (eV_int _ _) (eV_int _ _) rfl ?_
            refine c_Tray_holds ?_
            refine sIr rfl rfl ?_
            (first | refine wp_ifP_ne 60 54 d_PM_area_51 rfl (by decide) (fun h51 => ?_) (fun h51 => ?_) | refine wp_if_ne 60 54 d_PM_area_51 rfl (by decide) (fun h51 => ?_) (fun h51 => ?_))
            · refine wp_aload_n 61 d_PM_area_60 rfl rfl ?_
              refine wp_aload_n 62 d_PM_area_61 rfl rfl ?_
              refine wp_iload_n 63 d_PM_area_62 rfl rfl ?_
              refine wp_V2 66 M_PM_cornersFault 5 d_PM_area_63 rfl mv_PM_cornersFault lk_PM_375 rfl rfl rfl rfl rfl ?_
              refine c_PM_cornersFault1 (by omega) I SO_ (fun c2 hc2 hA => ?_)
              refine kI ?_
              refine wp_istore_4 68 d_PM_area_66 rfl rfl rfl ?_
              refine wp_iload 70 d_PM_area_68 rfl rfl ?_
              refine wp_if_eq 80 73 d_PM_area_70 rfl (by decide) (fun h70 => ?_) (fun h70 => ?_)
              · refine wp_aload_n 81 d_PM_area_80 rfl rfl ?_
                refine wp_aload_n 82 d_PM_area_81 rfl rfl ?_
                refine wp_aload_n 83 d_PM_area_82 rfl rfl ?_
                refine wp_iload_n 84 d_PM_area_83 rfl rfl ?_
                refine wp_V2 87 M_PM_twiceArea 1 d_PM_area_84 rfl mv_PM_twiceArea lk_PM_379 rfl rfl rfl rfl rfl ?_
                refine c_PM_twiceArea1 (by omega) I.hP hA (fun j hj => cfI_in m 0 0 (by rw [h70]; decide) j (by omega) (by omega)) ?_
                refine kL ?_
                refine wp_S1 90 M_JMath_absJ 1 d_PM_area_87 rfl ms_JMath_absJ lk_PM_383 rfl rfl ?_
                refine c_JMath_absJ ?_
                refine kL ?_
                refine wp_ldc2 93 (2 : Int64) d_PM_area_90 rfl ct_PM_386 ?_
                refine wp_V2 96 M_PM_acceptFraction 2 d_PM_area_93 rfl mv_PM_acceptFraction lk_PM_348 rfl rfl rfl rfl rfl ?_
                refine c_PM_acceptFraction ?_
                refine kI ?_
                refine wp_zreturn d_PM_area_96 rfl (by first | rfl | exact nbP _) ?_
                have en : (nI m).toNatClampNeg = m := nI_clamp (by omega)
                have e : arS T Y (nI 1) (nI m) = 0 := (((((if_pos ⟨h5, h10, Int32.not_lt.mpr h16⟩).trans (if_neg h36)).trans (if_pos h51)).trans (congrArg (fun n => cfI T (Y 1).yn n 0 0) en)).trans (h70))
                have h9 := hq1 e _ _ _ G _ ⟨hc2, SO_.2⟩
                unfold arA at h9
                rw [en] at h9
                exact h9
              · refine wp_aload_n 74 d_PM_area_73 rfl rfl ?_
                refine wp_iload 76 d_PM_area_74 rfl rfl ?_
                refine wp_V1 79 M_PM_refuse 1 d_PM_area_76 rfl mv_PM_refuse lk_PM_112 rfl rfl rfl rfl rfl ?_
                refine c_PM_refuse ?_
                refine kI ?_
                refine wp_zreturn d_PM_area_79 rfl (by first | rfl | exact nbP _) ?_
                have en : (nI m).toNatClampNeg = m := nI_clamp (by omega)
                have e : arS T Y (nI 1) (nI m) = cfI T (Y 1).yn m 0 0 := ((((if_pos ⟨h5, h10, Int32.not_lt.mpr h16⟩).trans (if_neg h36)).trans (if_pos h51)).trans (congrArg (fun n => cfI T (Y 1).yn n 0 0) en))
                exact hq0 _ e h70 _ _ _ G _ ⟨hc2, SO_.2⟩
            · refine wp_aload_n 55 d_PM_area_54 rfl rfl ?_
              refine wp_iconst 56 3 d_PM_area_55 rfl (by decide) ?_
              refine wp_V1 59 M_PM_refuse 1 d_PM_area_56 rfl mv_PM_refuse lk_PM_112 rfl rfl rfl rfl rfl ?_
              refine c_PM_refuse ?_
              refine kI ?_
              refine wp_zreturn d_PM_area_59 rfl (by first | rfl | exact nbP _) ?_
              have e : arS T Y (nI 1) (nI m) = 3 := (((if_pos ⟨h5, h10, Int32.not_lt.mpr h16⟩).trans (if_neg h36)).trans (if_neg h51))
              exact hq0 _ e (by decide) _ _ _ _ _ SO_
          · refine wp_aload_n 40 d_PM_area_39 rfl rfl ?_
            refine wp_iconst 41 2 d_PM_area_40 rfl (by decide) ?_
            refine wp_V1 44 M_PM_refuse 1 d_PM_area_41 rfl mv_PM_refuse lk_PM_112 rfl rfl rfl rfl rfl ?_
            refine c_PM_refuse ?_
            refine kI ?_
            refine wp_zreturn d_PM_area_44 rfl (by first | rfl | exact nbP _) ?_
            have e : arS T Y (nI 1) (nI m) = 2 := ((if_pos ⟨h5, h10, Int32.not_lt.mpr h16⟩).trans (if_pos h36))
            exact hq0 _ e (by decide) _ _ _ _ _ SO_
        · refine wp_aaload 31 4 81 d_PM_area_30 rfl rfl (fun _ => rfl) (vp_in_nI (by decide) (by decide)) rfl ?_
          refine wp_astore_3 32 d_PM_area_31 rfl rfl rfl ?_
          refine wp_aload_n 33 d_PM_area_32 rfl rfl ?_
          refine wp_getfield 36 10 1 d_PM_area_33 rfl fl_PM_140 rfl rfl ?_
          refine wp_if_ne 45 39 d_PM_area_36 rfl (by decide) (fun h36 => ?_) (fun h36 => ?_)
          · refine wp_aload_n 46 d_PM_area_45 rfl rfl ?_
            refine wp_iconst 47 0 d_PM_area_46 rfl (by decide) ?_
            refine wp_iload_n 48 d_PM_area_47 rfl rfl ?_
            refine ws_V2 (b' := 0) 51 M_Tray_holds 1 [81, 82] ((hYr (Y 2))) d_PM_area_48 rfl mv_Tray_holds lk_PM_146 rfl rfl rfl rfl rfl rfl rfl (eV_int _ _) (eV_int _ _) rfl ?_
            refine c_Tray_holds ?_
            refine sIr rfl rfl ?_
            (first | refine wp_ifP_ne 60 54 d_PM_area_51 rfl (by decide) (fun h51 => ?_) (fun h51 => ?_) | refine wp_if_ne 60 54 d_PM_area_51 rfl (by decide) (fun h51 => ?_) (fun h51 => ?_))
            · refine wp_aload_n 61 d_PM_area_60 rfl rfl ?_
              refine wp_aload_n 62 d_PM_area_61 rfl rfl ?_
              refine wp_iload_n 63 d_PM_area_62 rfl rfl ?_
              refine wp_V2 66 M_PM_cornersFault 5 d_PM_area_63 rfl mv_PM_cornersFault lk_PM_375 rfl rfl rfl rfl rfl ?_
              refine c_PM_cornersFault2 (by omega) I SO_ (fun c2 hc2 hA => ?_)
              refine kI ?_
              refine wp_istore_4 68 d_PM_area_66 rfl rfl rfl ?_
              refine wp_iload 70 d_PM_area_68 rfl rfl ?_
              refine wp_if_eq 80 73 d_PM_area_70 rfl (by decide) (fun h70 => ?_) (fun h70 => ?_)
              · refine wp_aload_n 81 d_PM_area_80 rfl rfl ?_
                refine wp_aload_n 82 d_PM_area_81 rfl rfl ?_
                refine wp_aload_n 83 d_PM_area_82 rfl rfl ?_
                refine wp_iload_n 84 d_PM_area_83 rfl rfl ?_
                refine wp_V2 87 M_PM_twiceArea 1 d_PM_area_84 rfl mv_PM_twiceArea lk_PM_379 rfl rfl rfl rfl rfl ?_
                refine c_PM_twiceArea2 (by omega) I.hP hA (fun j hj => cfI_in m 0 0 (by rw [h70]; decide) j (by omega) (by omega)) ?_
                refine kL ?_
                refine wp_S1 90 M_JMath_absJ 1 d_PM_area_87 rfl ms_JMath_absJ lk_PM_383 rfl rfl ?_
                refine c_JMath_absJ ?_
                refine kL ?_
                refine wp_ldc2 93 (2 : Int64) d_PM_area_90 rfl ct_PM_386 ?_
                refine wp_V2 96 M_PM_acceptFraction 2 d_PM_area_93 rfl mv_PM_acceptFraction lk_PM_348 rfl rfl rfl rfl rfl ?_
                refine c_PM_acceptFraction ?_
                refine kI ?_
                refine wp_zreturn d_PM_area_96 rfl (by first | rfl | exact nbP _) ?_
                have en : (nI m).toNatClampNeg = m := nI_clamp (by omega)
                have e : arS T Y (nI 2) (nI m) = 0 := (((((if_pos ⟨h5, h10, Int32.not_lt.mpr h16⟩).trans (if_neg h36)).trans (if_pos h51)).trans (congrArg (fun n => cfI T (Y 2).yn n 0 0) en)).trans (h70))
                have h9 := hq1 e _ _ _ G _ ⟨hc2, SO_.2⟩
                unfold arA at h9
                rw [en] at h9
                exact h9
              · refine wp_aload_n 74 d_PM_area_73 rfl rfl ?_
                refine wp_iload 76 d_PM_area_74 rfl rfl ?_
                refine wp_V1 79 M_PM_refuse 1 d_PM_area_76 rfl mv_PM_refuse lk_PM_112 rfl rfl rfl rfl rfl ?_
                refine c_PM_refuse ?_
                refine kI ?_
                refine wp_zreturn d_PM_area_79 rfl (by first | rfl | exact nbP _) ?_
                have en : (nI m).toNatClampNeg = m := nI_clamp (by omega)
                have e : arS T Y (nI 2) (nI m) = cfI T (Y 2).yn m 0 0 := ((((if_pos ⟨h5, h10, Int32.not_lt.mpr h16⟩).trans (if_neg h36)).trans (if_pos h51)).trans (congrArg (fun n => cfI T (Y 2).yn n 0 0) en))
                exact hq0 _ e h70 _ _ _ G _ ⟨hc2, SO_.2⟩
            · refine wp_aload_n 55 d_PM_area_54 rfl rfl ?_
              refine wp_iconst 56 3 d_PM_area_55 rfl (by decide) ?_
              refine wp_V1 59 M_PM_refuse 1 d_PM_area_56 rfl mv_PM_refuse lk_PM_112 rfl rfl rfl rfl rfl ?_
              refine c_PM_refuse ?_
              refine kI ?_
              refine wp_zreturn d_PM_area_59 rfl (by first | rfl | exact nbP _) ?_
              have e : arS T Y (nI 2) (nI m) = 3 := (((if_pos ⟨h5, h10, Int32.not_lt.mpr h16⟩).trans (if_neg h36)).trans (if_neg h51))
              exact hq0 _ e (by decide) _ _ _ _ _ SO_
          · refine wp_aload_n 40 d_PM_area_39 rfl rfl ?_
            refine wp_iconst 41 2 d_PM_area_40 rfl (by decide) ?_
            refine wp_V1 44 M_PM_refuse 1 d_PM_area_41 rfl mv_PM_refuse lk_PM_112 rfl rfl rfl rfl rfl ?_
            refine c_PM_refuse ?_
            refine kI ?_
            refine wp_zreturn d_PM_area_44 rfl (by first | rfl | exact nbP _) ?_
            have e : arS T Y (nI 2) (nI m) = 2 := ((if_pos ⟨h5, h10, Int32.not_lt.mpr h16⟩).trans (if_pos h36))
            exact hq0 _ e (by decide) _ _ _ _ _ SO_
        · refine wp_aaload 31 4 83 d_PM_area_30 rfl rfl (fun _ => rfl) (vp_in_nI (by decide) (by decide)) rfl ?_
          refine wp_astore_3 32 d_PM_area_31 rfl rfl rfl ?_
          refine wp_aload_n 33 d_PM_area_32 rfl rfl ?_
          refine wp_getfield 36 10 1 d_PM_area_33 rfl fl_PM_140 rfl rfl ?_
          refine wp_if_ne 45 39 d_PM_area_36 rfl (by decide) (fun h36 => ?_) (fun h36 => ?_)
          · refine wp_aload_n 46 d_PM_area_45 rfl rfl ?_
            refine wp_iconst 47 0 d_PM_area_46 rfl (by decide) ?_
            refine wp_iload_n 48 d_PM_area_47 rfl rfl ?_
            refine ws_V2 (b' := 0) 51 M_Tray_holds 1 [83, 84] ((hYr (Y 3))) d_PM_area_48 rfl mv_Tray_holds lk_PM_146 rfl rfl rfl rfl rfl rfl rfl (eV_int _ _) (eV_int _ _) rfl ?_
            refine c_Tray_holds ?_
            refine sIr rfl rfl ?_
            (first | refine wp_ifP_ne 60 54 d_PM_area_51 rfl (by decide) (fun h51 => ?_) (fun h51 => ?_) | refine wp_if_ne 60 54 d_PM_area_51 rfl (by decide) (fun h51 => ?_) (fun h51 => ?_))
            · refine wp_aload_n 61 d_PM_area_60 rfl rfl ?_
              refine wp_aload_n 62 d_PM_area_61 rfl rfl ?_
              refine wp_iload_n 63 d_PM_area_62 rfl rfl ?_
              refine wp_V2 66 M_PM_cornersFault 5 d_PM_area_63 rfl mv_PM_cornersFault lk_PM_375 rfl rfl rfl rfl rfl ?_
              refine c_PM_cornersFault3 (by omega) I SO_ (fun c2 hc2 hA => ?_)
              refine kI ?_
              refine wp_istore_4 68 d_PM_area_66 rfl rfl rfl ?_
              refine wp_iload 70 d_PM_area_68 rfl rfl ?_
              refine wp_if_eq 80 73 d_PM_area_70 rfl (by decide) (fun h70 => ?_) (fun h70 => ?_)
              · refine wp_aload_n 81 d_PM_area_80 rfl rfl ?_
                refine wp_aload_n 82 d_PM_area_81 rfl rfl ?_
                refine wp_aload_n 83 d_PM_area_82 rfl rfl ?_
                refine wp_iload_n 84 d_PM_area_83 rfl rfl ?_
                refine wp_V2 87 M_PM_twiceArea 1 d_PM_area_84 rfl mv_PM_twiceArea lk_PM_379 rfl rfl rfl rfl rfl ?_
                refine c_PM_twiceArea3 (by omega) I.hP hA (fun j hj => cfI_in m 0 0 (by rw [h70]; decide) j (by omega) (by omega)) ?_
                refine kL ?_
                refine wp_S1 90 M_JMath_absJ 1 d_PM_area_87 rfl ms_JMath_absJ lk_PM_383 rfl rfl ?_
                refine c_JMath_absJ ?_
                refine kL ?_
                refine wp_ldc2 93 (2 : Int64) d_PM_area_90 rfl ct_PM_386 ?_
                refine wp_V2 96 M_PM_acceptFraction 2 d_PM_area_93 rfl mv_PM_acceptFraction lk_PM_348 rfl rfl rfl rfl rfl ?_
                refine c_PM_acceptFraction ?_
                refine kI ?_
                refine wp_zreturn d_PM_area_96 rfl (by first | rfl | exact nbP _) ?_
                have en : (nI m).toNatClampNeg = m := nI_clamp (by omega)
                have e : arS T Y (nI 3) (nI m) = 0 := (((((if_pos ⟨h5, h10, Int32.not_lt.mpr h16⟩).trans (if_neg h36)).trans (if_pos h51)).trans (congrArg (fun n => cfI T (Y 3).yn n 0 0) en)).trans (h70))
                have h9 := hq1 e _ _ _ G _ ⟨hc2, SO_.2⟩
                unfold arA at h9
                rw [en] at h9
                exact h9
              · refine wp_aload_n 74 d_PM_area_73 rfl rfl ?_
                refine wp_iload 76 d_PM_area_74 rfl rfl ?_
                refine wp_V1 79 M_PM_refuse 1 d_PM_area_76 rfl mv_PM_refuse lk_PM_112 rfl rfl rfl rfl rfl ?_
                refine c_PM_refuse ?_
                refine kI ?_
                refine wp_zreturn d_PM_area_79 rfl (by first | rfl | exact nbP _) ?_
                have en : (nI m).toNatClampNeg = m := nI_clamp (by omega)
                have e : arS T Y (nI 3) (nI m) = cfI T (Y 3).yn m 0 0 := ((((if_pos ⟨h5, h10, Int32.not_lt.mpr h16⟩).trans (if_neg h36)).trans (if_pos h51)).trans (congrArg (fun n => cfI T (Y 3).yn n 0 0) en))
                exact hq0 _ e h70 _ _ _ G _ ⟨hc2, SO_.2⟩
            · refine wp_aload_n 55 d_PM_area_54 rfl rfl ?_
              refine wp_iconst 56 3 d_PM_area_55 rfl (by decide) ?_
              refine wp_V1 59 M_PM_refuse 1 d_PM_area_56 rfl mv_PM_refuse lk_PM_112 rfl rfl rfl rfl rfl ?_
              refine c_PM_refuse ?_
              refine kI ?_
              refine wp_zreturn d_PM_area_59 rfl (by first | rfl | exact nbP _) ?_
              have e : arS T Y (nI 3) (nI m) = 3 := (((if_pos ⟨h5, h10, Int32.not_lt.mpr h16⟩).trans (if_neg h36)).trans (if_neg h51))
              exact hq0 _ e (by decide) _ _ _ _ _ SO_
          · refine wp_aload_n 40 d_PM_area_39 rfl rfl ?_
            refine wp_iconst 41 2 d_PM_area_40 rfl (by decide) ?_
            refine wp_V1 44 M_PM_refuse 1 d_PM_area_41 rfl mv_PM_refuse lk_PM_112 rfl rfl rfl rfl rfl ?_
            refine c_PM_refuse ?_
            refine kI ?_
            refine wp_zreturn d_PM_area_44 rfl (by first | rfl | exact nbP _) ?_
            have e : arS T Y (nI 3) (nI m) = 2 := ((if_pos ⟨h5, h10, Int32.not_lt.mpr h16⟩).trans (if_pos h36))
            exact hq0 _ e (by decide) _ _ _ _ _ SO_
      · refine wp_aload_n 20 d_PM_area_19 rfl rfl ?_
        refine wp_iconst 21 1 d_PM_area_20 rfl (by decide) ?_
        refine wp_V1 24 M_PM_refuse 1 d_PM_area_21 rfl mv_PM_refuse lk_PM_112 rfl rfl rfl rfl rfl ?_
        refine c_PM_refuse ?_
        refine kI ?_
        refine wp_zreturn d_PM_area_24 rfl (by first | rfl | exact nbP _) ?_
        have e : arS T Y a n = 1 := (if_neg (fun z => z.2.2 (Int32.not_le.mp h16)))
        exact hq0 _ e (by decide) _ _ _ _ _ SO_

theorem c_putA {y : YT} {p : Nat} {v : Int64} (h : p < y.nM) (hM : y.nM ≤ 60) (hq : Q none (hYr (yPut y p v))) : Call Γ M_Tray_put 2 0 0 [.ref 0, .int (nI p), .long v] (hYr y) Q := by
  refine c_Tray_put (yn := y.yn) (yth := y.yth) (yso := y.yso) (nM := y.nM) hM ?_
  rw [if_pos (inR_N h (by omega)), nI_clamp (by omega)]
  exact hq
theorem w_put0 (q : Nat) {pc p : Nat} {v : Int64} {ls : Lo} {st : List Value} (hp1 : p < (Y 0).nM) (hM : (Y 0).nM ≤ 60) (hd : decode M_PM_copyPlaces.2.1 pc = .ok (.invokevirtual 128, 3)) (hp : pc + 3 = q) (hst : Nat.ble (st.map Value.category).sum 8 = true) (k : WP Γ M_PM_copyPlaces 5 0 0 (hPM (updY Y 0 (yPut (Y 0) p v)) X T S M D E N C U W G L VL HL nK ST TP BT) q ls st Q) : WP Γ M_PM_copyPlaces 5 0 0 (hPM Y X T S M D E N C U W G L VL HL nK ST TP BT) pc ls (.long v :: .int (nI p) :: .ref 77 :: st) Q := by
  refine ws_V2 (b' := 0) q M_Tray_put 2 [77, 78] (hYr (Y 0)) hd hp mv_Tray_put lk_PM_128 rfl rfl rfl rfl rfl rfl rfl (eV_int _ _) (eV_long _ _) hst ?_
  refine c_putA hp1 hM ?_
  refine sV ?_
  simp only [putH, rC, sg, eV, List.map_cons, List.map_nil, List.set_cons_zero, List.set_cons_succ, List.length_cons, List.length_nil, List.getD_cons_zero, List.getD_cons_succ, Nat.zero_add, Nat.reduceAdd, Nat.reduceLT, if_true, ite_true]
  refine hEq (hPM (updY Y 0 (yPut (Y 0) p v)) X T S M D E N C U W G L VL HL nK ST TP BT) rfl ?_
  exact k
theorem w_put1 (q : Nat) {pc p : Nat} {v : Int64} {ls : Lo} {st : List Value} (hp1 : p < (Y 1).nM) (hM : (Y 1).nM ≤ 60) (hd : decode M_PM_copyPlaces.2.1 pc = .ok (.invokevirtual 128, 3)) (hp : pc + 3 = q) (hst : Nat.ble (st.map Value.category).sum 8 = true) (k : WP Γ M_PM_copyPlaces 5 0 0 (hPM (updY Y 1 (yPut (Y 1) p v)) X T S M D E N C U W G L VL HL nK ST TP BT) q ls st Q) : WP Γ M_PM_copyPlaces 5 0 0 (hPM Y X T S M D E N C U W G L VL HL nK ST TP BT) pc ls (.long v :: .int (nI p) :: .ref 79 :: st) Q := by
  refine ws_V2 (b' := 0) q M_Tray_put 2 [79, 80] (hYr (Y 1)) hd hp mv_Tray_put lk_PM_128 rfl rfl rfl rfl rfl rfl rfl (eV_int _ _) (eV_long _ _) hst ?_
  refine c_putA hp1 hM ?_
  refine sV ?_
  simp only [putH, rC, sg, eV, List.map_cons, List.map_nil, List.set_cons_zero, List.set_cons_succ, List.length_cons, List.length_nil, List.getD_cons_zero, List.getD_cons_succ, Nat.zero_add, Nat.reduceAdd, Nat.reduceLT, if_true, ite_true]
  refine hEq (hPM (updY Y 1 (yPut (Y 1) p v)) X T S M D E N C U W G L VL HL nK ST TP BT) rfl ?_
  exact k
theorem w_put2 (q : Nat) {pc p : Nat} {v : Int64} {ls : Lo} {st : List Value} (hp1 : p < (Y 2).nM) (hM : (Y 2).nM ≤ 60) (hd : decode M_PM_copyPlaces.2.1 pc = .ok (.invokevirtual 128, 3)) (hp : pc + 3 = q) (hst : Nat.ble (st.map Value.category).sum 8 = true) (k : WP Γ M_PM_copyPlaces 5 0 0 (hPM (updY Y 2 (yPut (Y 2) p v)) X T S M D E N C U W G L VL HL nK ST TP BT) q ls st Q) : WP Γ M_PM_copyPlaces 5 0 0 (hPM Y X T S M D E N C U W G L VL HL nK ST TP BT) pc ls (.long v :: .int (nI p) :: .ref 81 :: st) Q := by
  refine ws_V2 (b' := 0) q M_Tray_put 2 [81, 82] (hYr (Y 2)) hd hp mv_Tray_put lk_PM_128 rfl rfl rfl rfl rfl rfl rfl (eV_int _ _) (eV_long _ _) hst ?_
  refine c_putA hp1 hM ?_
  refine sV ?_
  simp only [putH, rC, sg, eV, List.map_cons, List.map_nil, List.set_cons_zero, List.set_cons_succ, List.length_cons, List.length_nil, List.getD_cons_zero, List.getD_cons_succ, Nat.zero_add, Nat.reduceAdd, Nat.reduceLT, if_true, ite_true]
  refine hEq (hPM (updY Y 2 (yPut (Y 2) p v)) X T S M D E N C U W G L VL HL nK ST TP BT) rfl ?_
  exact k
theorem w_put3 (q : Nat) {pc p : Nat} {v : Int64} {ls : Lo} {st : List Value} (hp1 : p < (Y 3).nM) (hM : (Y 3).nM ≤ 60) (hd : decode M_PM_copyPlaces.2.1 pc = .ok (.invokevirtual 128, 3)) (hp : pc + 3 = q) (hst : Nat.ble (st.map Value.category).sum 8 = true) (k : WP Γ M_PM_copyPlaces 5 0 0 (hPM (updY Y 3 (yPut (Y 3) p v)) X T S M D E N C U W G L VL HL nK ST TP BT) q ls st Q) : WP Γ M_PM_copyPlaces 5 0 0 (hPM Y X T S M D E N C U W G L VL HL nK ST TP BT) pc ls (.long v :: .int (nI p) :: .ref 83 :: st) Q := by
  refine ws_V2 (b' := 0) q M_Tray_put 2 [83, 84] (hYr (Y 3)) hd hp mv_Tray_put lk_PM_128 rfl rfl rfl rfl rfl rfl rfl (eV_int _ _) (eV_long _ _) hst ?_
  refine c_putA hp1 hM ?_
  refine sV ?_
  simp only [putH, rC, sg, eV, List.map_cons, List.map_nil, List.set_cons_zero, List.set_cons_succ, List.length_cons, List.length_nil, List.getD_cons_zero, List.getD_cons_succ, Nat.zero_add, Nat.reduceAdd, Nat.reduceLT, if_true, ite_true]
  refine hEq (hPM (updY Y 3 (yPut (Y 3) p v)) X T S M D E N C U W G L VL HL nK ST TP BT) rfl ?_
  exact k
set_option maxRecDepth 100000 in
set_option maxHeartbeats 4000000 in
theorem l_cp0 {w1 : Option Value} (hP : T.nP ≤ 7) : ∀ (r i : Nat) (Y : Nat → YT), i + r = T.nP → (2 * T.nP ≤ (Y 0).nM ∧ (Y 0).nM ≤ 60 ∧ WP Γ M_PM_copyPlaces 5 0 0 (hPM (iterN (cpH 0 C.cx C.cy) r i Y) X T S M D E N C U W G L VL HL nK ST TP BT) 154 [some (.ref 0), w1, some (.ref 77), some (.int (nI T.nP))] [] Q) → WP Γ M_PM_copyPlaces 5 0 0 (hPM Y X T S M D E N C U W G L VL HL nK ST TP BT) 101 [some (.ref 0), w1, some (.ref 77), some (.int (nI i))] [] Q := by
  intro r
  induction r with
  | zero =>
    intro i Y hi hinv
    have hq := hinv.2.2
    refine wp_iload_n 102 d_PM_copyPlaces_101 rfl rfl ?_
    refine wp_aload_n 103 d_PM_copyPlaces_102 rfl rfl ?_
    refine wp_getfield 106 11 2 d_PM_copyPlaces_103 rfl fl_PM_25 rfl rfl ?_
    refine wp_getfield 109 8 8 d_PM_copyPlaces_106 rfl fl_PM_203 rfl rfl ?_
    refine wp_icmp_ge 154 112 d_PM_copyPlaces_109 rfl (by decide) (fun h109 => ?_) (fun h109 => ?_)
    · have e : i = T.nP := by omega
      rw [e]
      exact hq
    · exact absurd ((nI_leI (a := T.nP) (by omega) (by omega)).mpr (by omega)) h109
  | succ r ih =>
    intro i Y hi hinv
    obtain ⟨hle, h60, hq⟩ := hinv
    refine wp_iload_n 102 d_PM_copyPlaces_101 rfl rfl ?_
    refine wp_aload_n 103 d_PM_copyPlaces_102 rfl rfl ?_
    refine wp_getfield 106 11 2 d_PM_copyPlaces_103 rfl fl_PM_25 rfl rfl ?_
    refine wp_getfield 109 8 8 d_PM_copyPlaces_106 rfl fl_PM_203 rfl rfl ?_
    refine wp_icmp_ge 154 112 d_PM_copyPlaces_109 rfl (by decide) (fun h109 => ?_) (fun h109 => ?_)
    · exact absurd (nI_leN (b := T.nP) h109 (by omega) (by omega)) (by omega)
    · refine wp_aload_n 113 d_PM_copyPlaces_112 rfl rfl ?_
      refine wp_iconst 114 2 d_PM_copyPlaces_113 rfl (by decide) ?_
      refine wp_iload_n 115 d_PM_copyPlaces_114 rfl rfl ?_
      refine wp_imul 116 d_PM_copyPlaces_115 rfl ?_
      rw [mul2]
      refine wp_aload_n 117 d_PM_copyPlaces_116 rfl rfl ?_
      refine wp_getfield 120 11 8 d_PM_copyPlaces_117 rfl fl_PM_53 rfl rfl ?_
      refine wp_getfield 123 0 2 d_PM_copyPlaces_120 rfl fl_PM_274 rfl rfl ?_
      refine wp_iload_n 124 d_PM_copyPlaces_123 rfl rfl ?_
      refine wp_ialoadN 125 d_PM_copyPlaces_124 rfl rfl rfl (by omega) ?_
      refine wp_i2l 126 d_PM_copyPlaces_125 rfl ?_
      refine w_put0 129 (by omega) h60 d_PM_copyPlaces_126 rfl rfl ?_
      refine wp_aload_n 130 d_PM_copyPlaces_129 rfl rfl ?_
      refine wp_iconst 131 2 d_PM_copyPlaces_130 rfl (by decide) ?_
      refine wp_iload_n 132 d_PM_copyPlaces_131 rfl rfl ?_
      refine wp_imul 133 d_PM_copyPlaces_132 rfl ?_
      rw [mul2]
      refine wp_iconst 134 1 d_PM_copyPlaces_133 rfl (by decide) ?_
      refine wp_iadd 135 d_PM_copyPlaces_134 rfl ?_
      rw [nI_1]
      refine wp_aload_n 136 d_PM_copyPlaces_135 rfl rfl ?_
      refine wp_getfield 139 11 8 d_PM_copyPlaces_136 rfl fl_PM_53 rfl rfl ?_
      refine wp_getfield 142 0 3 d_PM_copyPlaces_139 rfl fl_PM_277 rfl rfl ?_
      refine wp_iload_n 143 d_PM_copyPlaces_142 rfl rfl ?_
      refine wp_ialoadN 144 d_PM_copyPlaces_143 rfl rfl rfl (by omega) ?_
      refine wp_i2l 145 d_PM_copyPlaces_144 rfl ?_
      refine w_put0 148 (by rw [yPut_nM]; omega) (by rw [yPut_nM]; exact h60) d_PM_copyPlaces_145 rfl rfl ?_
      first | refine wp_iincN_3 151 d_PM_copyPlaces_148 rfl rfl rfl ?_ | refine wp_iinc_3 151 1 d_PM_copyPlaces_148 rfl (by decide) rfl rfl ?_
      refine wp_goto 101 d_PM_copyPlaces_151 (by decide) ?_
      exact ih (i + 1) _ (by omega) ⟨by rw [yPut_nM, yPut_nM]; exact hle, by rw [yPut_nM, yPut_nM]; exact h60, hq⟩

set_option maxRecDepth 100000 in
set_option maxHeartbeats 4000000 in
theorem l_cp1 {w1 : Option Value} (hP : T.nP ≤ 7) : ∀ (r i : Nat) (Y : Nat → YT), i + r = T.nP → (2 * T.nP ≤ (Y 1).nM ∧ (Y 1).nM ≤ 60 ∧ WP Γ M_PM_copyPlaces 5 0 0 (hPM (iterN (cpH 1 C.cx C.cy) r i Y) X T S M D E N C U W G L VL HL nK ST TP BT) 154 [some (.ref 0), w1, some (.ref 79), some (.int (nI T.nP))] [] Q) → WP Γ M_PM_copyPlaces 5 0 0 (hPM Y X T S M D E N C U W G L VL HL nK ST TP BT) 101 [some (.ref 0), w1, some (.ref 79), some (.int (nI i))] [] Q := by
  intro r
  induction r with
  | zero =>
    intro i Y hi hinv
    have hq := hinv.2.2
    refine wp_iload_n 102 d_PM_copyPlaces_101 rfl rfl ?_
    refine wp_aload_n 103 d_PM_copyPlaces_102 rfl rfl ?_
    refine wp_getfield 106 11 2 d_PM_copyPlaces_103 rfl fl_PM_25 rfl rfl ?_
    refine wp_getfield 109 8 8 d_PM_copyPlaces_106 rfl fl_PM_203 rfl rfl ?_
    refine wp_icmp_ge 154 112 d_PM_copyPlaces_109 rfl (by decide) (fun h109 => ?_) (fun h109 => ?_)
    · have e : i = T.nP := by omega
      rw [e]
      exact hq
    · exact absurd ((nI_leI (a := T.nP) (by omega) (by omega)).mpr (by omega)) h109
  | succ r ih =>
    intro i Y hi hinv
    obtain ⟨hle, h60, hq⟩ := hinv
    refine wp_iload_n 102 d_PM_copyPlaces_101 rfl rfl ?_
    refine wp_aload_n 103 d_PM_copyPlaces_102 rfl rfl ?_
    refine wp_getfield 106 11 2 d_PM_copyPlaces_103 rfl fl_PM_25 rfl rfl ?_
    refine wp_getfield 109 8 8 d_PM_copyPlaces_106 rfl fl_PM_203 rfl rfl ?_
    refine wp_icmp_ge 154 112 d_PM_copyPlaces_109 rfl (by decide) (fun h109 => ?_) (fun h109 => ?_)
    · exact absurd (nI_leN (b := T.nP) h109 (by omega) (by omega)) (by omega)
    · refine wp_aload_n 113 d_PM_copyPlaces_112 rfl rfl ?_
      refine wp_iconst 114 2 d_PM_copyPlaces_113 rfl (by decide) ?_
      refine wp_iload_n 115 d_PM_copyPlaces_114 rfl rfl ?_
      refine wp_imul 116 d_PM_copyPlaces_115 rfl ?_
      rw [mul2]
      refine wp_aload_n 117 d_PM_copyPlaces_116 rfl rfl ?_
      refine wp_getfield 120 11 8 d_PM_copyPlaces_117 rfl fl_PM_53 rfl rfl ?_
      refine wp_getfield 123 0 2 d_PM_copyPlaces_120 rfl fl_PM_274 rfl rfl ?_
      refine wp_iload_n 124 d_PM_copyPlaces_123 rfl rfl ?_
      refine wp_ialoadN 125 d_PM_copyPlaces_124 rfl rfl rfl (by omega) ?_
      refine wp_i2l 126 d_PM_copyPlaces_125 rfl ?_
      refine w_put1 129 (by omega) h60 d_PM_copyPlaces_126 rfl rfl ?_
      refine wp_aload_n 130 d_PM_copyPlaces_129 rfl rfl ?_
      refine wp_iconst 131 2 d_PM_copyPlaces_130 rfl (by decide) ?_
      refine wp_iload_n 132 d_PM_copyPlaces_131 rfl rfl ?_
      refine wp_imul 133 d_PM_copyPlaces_132 rfl ?_
      rw [mul2]
      refine wp_iconst 134 1 d_PM_copyPlaces_133 rfl (by decide) ?_
      refine wp_iadd 135 d_PM_copyPlaces_134 rfl ?_
      rw [nI_1]
      refine wp_aload_n 136 d_PM_copyPlaces_135 rfl rfl ?_
      refine wp_getfield 139 11 8 d_PM_copyPlaces_136 rfl fl_PM_53 rfl rfl ?_
      refine wp_getfield 142 0 3 d_PM_copyPlaces_139 rfl fl_PM_277 rfl rfl ?_
      refine wp_iload_n 143 d_PM_copyPlaces_142 rfl rfl ?_
      refine wp_ialoadN 144 d_PM_copyPlaces_143 rfl rfl rfl (by omega) ?_
      refine wp_i2l 145 d_PM_copyPlaces_144 rfl ?_
      refine w_put1 148 (by rw [yPut_nM]; omega) (by rw [yPut_nM]; exact h60) d_PM_copyPlaces_145 rfl rfl ?_
      first | refine wp_iincN_3 151 d_PM_copyPlaces_148 rfl rfl rfl ?_ | refine wp_iinc_3 151 1 d_PM_copyPlaces_148 rfl (by decide) rfl rfl ?_
      refine wp_goto 101 d_PM_copyPlaces_151 (by decide) ?_
      exact ih (i + 1) _ (by omega) ⟨by rw [yPut_nM, yPut_nM]; exact hle, by rw [yPut_nM, yPut_nM]; exact h60, hq⟩

set_option maxRecDepth 100000 in
set_option maxHeartbeats 4000000 in
theorem l_cp2 {w1 : Option Value} (hP : T.nP ≤ 7) : ∀ (r i : Nat) (Y : Nat → YT), i + r = T.nP → (2 * T.nP ≤ (Y 2).nM ∧ (Y 2).nM ≤ 60 ∧ WP Γ M_PM_copyPlaces 5 0 0 (hPM (iterN (cpH 2 C.cx C.cy) r i Y) X T S M D E N C U W G L VL HL nK ST TP BT) 154 [some (.ref 0), w1, some (.ref 81), some (.int (nI T.nP))] [] Q) → WP Γ M_PM_copyPlaces 5 0 0 (hPM Y X T S M D E N C U W G L VL HL nK ST TP BT) 101 [some (.ref 0), w1, some (.ref 81), some (.int (nI i))] [] Q := by
  intro r
  induction r with
  | zero =>
    intro i Y hi hinv
    have hq := hinv.2.2
    refine wp_iload_n 102 d_PM_copyPlaces_101 rfl rfl ?_
    refine wp_aload_n 103 d_PM_copyPlaces_102 rfl rfl ?_
    refine wp_getfield 106 11 2 d_PM_copyPlaces_103 rfl fl_PM_25 rfl rfl ?_
    refine wp_getfield 109 8 8 d_PM_copyPlaces_106 rfl fl_PM_203 rfl rfl ?_
    refine wp_icmp_ge 154 112 d_PM_copyPlaces_109 rfl (by decide) (fun h109 => ?_) (fun h109 => ?_)
    · have e : i = T.nP := by omega
      rw [e]
      exact hq
    · exact absurd ((nI_leI (a := T.nP) (by omega) (by omega)).mpr (by omega)) h109
  | succ r ih =>
    intro i Y hi hinv
    obtain ⟨hle, h60, hq⟩ := hinv
    refine wp_iload_n 102 d_PM_copyPlaces_101 rfl rfl ?_
    refine wp_aload_n 103 d_PM_copyPlaces_102 rfl rfl ?_
    refine wp_getfield 106 11 2 d_PM_copyPlaces_103 rfl fl_PM_25 rfl rfl ?_
    refine wp_getfield 109 8 8 d_PM_copyPlaces_106 rfl fl_PM_203 rfl rfl ?_
    refine wp_icmp_ge 154 112 d_PM_copyPlaces_109 rfl (by decide) (fun h109 => ?_) (fun h109 => ?_)
    · exact absurd (nI_leN (b := T.nP) h109 (by omega) (by omega)) (by omega)
    · refine wp_aload_n 113 d_PM_copyPlaces_112 rfl rfl ?_
      refine wp_iconst 114 2 d_PM_copyPlaces_113 rfl (by decide) ?_
      refine wp_iload_n 115 d_PM_copyPlaces_114 rfl rfl ?_
      refine wp_imul 116 d_PM_copyPlaces_115 rfl ?_
      rw [mul2]
      refine wp_aload_n 117 d_PM_copyPlaces_116 rfl rfl ?_
      refine wp_getfield 120 11 8 d_PM_copyPlaces_117 rfl fl_PM_53 rfl rfl ?_
      refine wp_getfield 123 0 2 d_PM_copyPlaces_120 rfl fl_PM_274 rfl rfl ?_
      refine wp_iload_n 124 d_PM_copyPlaces_123 rfl rfl ?_
      refine wp_ialoadN 125 d_PM_copyPlaces_124 rfl rfl rfl (by omega) ?_
      refine wp_i2l 126 d_PM_copyPlaces_125 rfl ?_
      refine w_put2 129 (by omega) h60 d_PM_copyPlaces_126 rfl rfl ?_
      refine wp_aload_n 130 d_PM_copyPlaces_129 rfl rfl ?_
      refine wp_iconst 131 2 d_PM_copyPlaces_130 rfl (by decide) ?_
      refine wp_iload_n 132 d_PM_copyPlaces_131 rfl rfl ?_
      refine wp_imul 133 d_PM_copyPlaces_132 rfl ?_
      rw [mul2]
      refine wp_iconst 134 1 d_PM_copyPlaces_133 rfl (by decide) ?_
      refine wp_iadd 135 d_PM_copyPlaces_134 rfl ?_
      rw [nI_1]
      refine wp_aload_n 136 d_PM_copyPlaces_135 rfl rfl ?_
      refine wp_getfield 139 11 8 d_PM_copyPlaces_136 rfl fl_PM_53 rfl rfl ?_
      refine wp_getfield 142 0 3 d_PM_copyPlaces_139 rfl fl_PM_277 rfl rfl ?_
      refine wp_iload_n 143 d_PM_copyPlaces_142 rfl rfl ?_
      refine wp_ialoadN 144 d_PM_copyPlaces_143 rfl rfl rfl (by omega) ?_
      refine wp_i2l 145 d_PM_copyPlaces_144 rfl ?_
      refine w_put2 148 (by rw [yPut_nM]; omega) (by rw [yPut_nM]; exact h60) d_PM_copyPlaces_145 rfl rfl ?_
      first | refine wp_iincN_3 151 d_PM_copyPlaces_148 rfl rfl rfl ?_ | refine wp_iinc_3 151 1 d_PM_copyPlaces_148 rfl (by decide) rfl rfl ?_
      refine wp_goto 101 d_PM_copyPlaces_151 (by decide) ?_
      exact ih (i + 1) _ (by omega) ⟨by rw [yPut_nM, yPut_nM]; exact hle, by rw [yPut_nM, yPut_nM]; exact h60, hq⟩

set_option maxRecDepth 100000 in
set_option maxHeartbeats 4000000 in
theorem l_cp3 {w1 : Option Value} (hP : T.nP ≤ 7) : ∀ (r i : Nat) (Y : Nat → YT), i + r = T.nP → (2 * T.nP ≤ (Y 3).nM ∧ (Y 3).nM ≤ 60 ∧ WP Γ M_PM_copyPlaces 5 0 0 (hPM (iterN (cpH 3 C.cx C.cy) r i Y) X T S M D E N C U W G L VL HL nK ST TP BT) 154 [some (.ref 0), w1, some (.ref 83), some (.int (nI T.nP))] [] Q) → WP Γ M_PM_copyPlaces 5 0 0 (hPM Y X T S M D E N C U W G L VL HL nK ST TP BT) 101 [some (.ref 0), w1, some (.ref 83), some (.int (nI i))] [] Q := by
  intro r
  induction r with
  | zero =>
    intro i Y hi hinv
    have hq := hinv.2.2
    refine wp_iload_n 102 d_PM_copyPlaces_101 rfl rfl ?_
    refine wp_aload_n 103 d_PM_copyPlaces_102 rfl rfl ?_
    refine wp_getfield 106 11 2 d_PM_copyPlaces_103 rfl fl_PM_25 rfl rfl ?_
    refine wp_getfield 109 8 8 d_PM_copyPlaces_106 rfl fl_PM_203 rfl rfl ?_
    refine wp_icmp_ge 154 112 d_PM_copyPlaces_109 rfl (by decide) (fun h109 => ?_) (fun h109 => ?_)
    · have e : i = T.nP := by omega
      rw [e]
      exact hq
    · exact absurd ((nI_leI (a := T.nP) (by omega) (by omega)).mpr (by omega)) h109
  | succ r ih =>
    intro i Y hi hinv
    obtain ⟨hle, h60, hq⟩ := hinv
    refine wp_iload_n 102 d_PM_copyPlaces_101 rfl rfl ?_
    refine wp_aload_n 103 d_PM_copyPlaces_102 rfl rfl ?_
    refine wp_getfield 106 11 2 d_PM_copyPlaces_103 rfl fl_PM_25 rfl rfl ?_
    refine wp_getfield 109 8 8 d_PM_copyPlaces_106 rfl fl_PM_203 rfl rfl ?_
    refine wp_icmp_ge 154 112 d_PM_copyPlaces_109 rfl (by decide) (fun h109 => ?_) (fun h109 => ?_)
    · exact absurd (nI_leN (b := T.nP) h109 (by omega) (by omega)) (by omega)
    · refine wp_aload_n 113 d_PM_copyPlaces_112 rfl rfl ?_
      refine wp_iconst 114 2 d_PM_copyPlaces_113 rfl (by decide) ?_
      refine wp_iload_n 115 d_PM_copyPlaces_114 rfl rfl ?_
      refine wp_imul 116 d_PM_copyPlaces_115 rfl ?_
      rw [mul2]
      refine wp_aload_n 117 d_PM_copyPlaces_116 rfl rfl ?_
      refine wp_getfield 120 11 8 d_PM_copyPlaces_117 rfl fl_PM_53 rfl rfl ?_
      refine wp_getfield 123 0 2 d_PM_copyPlaces_120 rfl fl_PM_274 rfl rfl ?_
      refine wp_iload_n 124 d_PM_copyPlaces_123 rfl rfl ?_
      refine wp_ialoadN 125 d_PM_copyPlaces_124 rfl rfl rfl (by omega) ?_
      refine wp_i2l 126 d_PM_copyPlaces_125 rfl ?_
      refine w_put3 129 (by omega) h60 d_PM_copyPlaces_126 rfl rfl ?_
      refine wp_aload_n 130 d_PM_copyPlaces_129 rfl rfl ?_
      refine wp_iconst 131 2 d_PM_copyPlaces_130 rfl (by decide) ?_
      refine wp_iload_n 132 d_PM_copyPlaces_131 rfl rfl ?_
      refine wp_imul 133 d_PM_copyPlaces_132 rfl ?_
      rw [mul2]
      refine wp_iconst 134 1 d_PM_copyPlaces_133 rfl (by decide) ?_
      refine wp_iadd 135 d_PM_copyPlaces_134 rfl ?_
      rw [nI_1]
      refine wp_aload_n 136 d_PM_copyPlaces_135 rfl rfl ?_
      refine wp_getfield 139 11 8 d_PM_copyPlaces_136 rfl fl_PM_53 rfl rfl ?_
      refine wp_getfield 142 0 3 d_PM_copyPlaces_139 rfl fl_PM_277 rfl rfl ?_
      refine wp_iload_n 143 d_PM_copyPlaces_142 rfl rfl ?_
      refine wp_ialoadN 144 d_PM_copyPlaces_143 rfl rfl rfl (by omega) ?_
      refine wp_i2l 145 d_PM_copyPlaces_144 rfl ?_
      refine w_put3 148 (by rw [yPut_nM]; omega) (by rw [yPut_nM]; exact h60) d_PM_copyPlaces_145 rfl rfl ?_
      first | refine wp_iincN_3 151 d_PM_copyPlaces_148 rfl rfl rfl ?_ | refine wp_iinc_3 151 1 d_PM_copyPlaces_148 rfl (by decide) rfl rfl ?_
      refine wp_goto 101 d_PM_copyPlaces_151 (by decide) ?_
      exact ih (i + 1) _ (by omega) ⟨by rw [yPut_nM, yPut_nM]; exact hle, by rw [yPut_nM, yPut_nM]; exact h60, hq⟩

set_option maxRecDepth 100000 in
set_option maxHeartbeats 4000000 in
theorem c_PM_copyPlaces {a : Int32} (I : tOK T) (hY : ∀ k, (Y k).nM ≤ 60) (SO_ : SO C U W L) (hq0 : ∀ v, cpS T Y a = v → ¬ v = 0 → ∀ C U W G L, SO C U W L → Q (some (.int (-1))) (hPM Y X T S M D E N C U W G L VL HL nK (v) TP BT)) (hq1 : cpS T Y a = 0 → ∀ C U W G L, SO C U W L → Q (some (.int (nI T.nP))) (hPM (cpY T Y a.toNatClampNeg) X T S M D E N C U W G L VL HL nK (0) TP BT)) : Call Γ M_PM_copyPlaces 5 0 0 [.ref 0, .int a] (hPM Y X T S M D E N C U W G L VL HL nK ST TP BT) Q := by
  refine call_intro (ls := [some (.ref 0), some (.int a), none, none]) rfl rfl rfl ?_
  refine wp_iload_n 1 d_PM_copyPlaces_0 rfl rfl ?_
  refine wp_iconst 2 4 d_PM_copyPlaces_1 rfl (by decide) ?_
  refine wp_S2 5 M_PM_within 1 d_PM_copyPlaces_2 rfl ms_PM_within lk_PM_108 rfl rfl ?_
  refine c_PM_within ?_
  refine kI ?_
  (first | refine wp_ifP_ne 14 8 d_PM_copyPlaces_5 rfl (by decide) (fun h5 => ?_) (fun h5 => ?_) | refine wp_if_ne 14 8 d_PM_copyPlaces_5 rfl (by decide) (fun h5 => ?_) (fun h5 => ?_))
  · refine wp_aload_n 15 d_PM_copyPlaces_14 rfl rfl ?_
    refine wp_getfield 18 11 0 d_PM_copyPlaces_15 rfl fl_PM_11 rfl rfl ?_
    refine wp_iload_n 19 d_PM_copyPlaces_18 rfl rfl ?_
    rcases inR4 h5 with rfl | rfl | rfl | rfl
    · refine wp_aaload 20 4 77 d_PM_copyPlaces_19 rfl rfl (fun _ => rfl) (vp_in_nI (by decide) (by decide)) rfl ?_
      refine wp_astore_2 21 d_PM_copyPlaces_20 rfl rfl rfl ?_
      refine wp_aload_n 22 d_PM_copyPlaces_21 rfl rfl ?_
      refine wp_getfield 25 10 1 d_PM_copyPlaces_22 rfl fl_PM_140 rfl rfl ?_
      refine wp_if_ne 34 28 d_PM_copyPlaces_25 rfl (by decide) (fun h25 => ?_) (fun h25 => ?_)
      · refine wp_aload_n 35 d_PM_copyPlaces_34 rfl rfl ?_
        refine wp_iconst 36 0 d_PM_copyPlaces_35 rfl (by decide) ?_
        refine wp_iconst 37 2 d_PM_copyPlaces_36 rfl (by decide) ?_
        refine wp_aload_n 38 d_PM_copyPlaces_37 rfl rfl ?_
        refine wp_getfield 41 11 2 d_PM_copyPlaces_38 rfl fl_PM_25 rfl rfl ?_
        refine wp_getfield 44 8 8 d_PM_copyPlaces_41 rfl fl_PM_203 rfl rfl ?_
        refine wp_imul 45 d_PM_copyPlaces_44 rfl ?_
        refine ws_V2 (b' := 0) 48 M_Tray_holds 1 [77, 78] ((hYr (Y 0))) d_PM_copyPlaces_45 rfl mv_Tray_holds lk_PM_146 rfl rfl rfl rfl rfl rfl rfl (eV_int _ _) (eV_int _ _) rfl ?_
        refine c_Tray_holds ?_
        refine sIr rfl rfl ?_
        (first | refine wp_ifP_ne 57 51 d_PM_copyPlaces_48 rfl (by decide) (fun h48 => ?_) (fun h48 => ?_) | refine wp_if_ne 57 51 d_PM_copyPlaces_48 rfl (by decide) (fun h48 => ?_) (fun h48 => ?_))
        · refine wp_aload_n 58 d_PM_copyPlaces_57 rfl rfl ?_
          refine wp_getfield 61 11 8 d_PM_copyPlaces_58 rfl fl_PM_53 rfl rfl ?_
          refine wp_aload_n 62 d_PM_copyPlaces_61 rfl rfl ?_
          refine wp_getfield 65 11 2 d_PM_copyPlaces_62 rfl fl_PM_25 rfl rfl ?_
          refine ws_V1 (v1' := .ref 8) (b' := 0) 68 M_Chart_draw 4 [36, 37, 38, 39, 40, 41, 42, 43, 8, 9, 10, 11, 12, 13, 14, 15, 16] ((hCTr C T)) d_PM_copyPlaces_65 rfl mv_Chart_draw lk_PM_260 rfl rfl rfl rfl rfl rfl rfl rfl rfl ?_
          refine c_drawA I SO_.1 (fun c2 hc2 hA => ?_)
          refine sV ?_
          simp only [putH, rC, sg, eV, List.map_cons, List.map_nil, List.set_cons_zero, List.set_cons_succ, List.length_cons, List.length_nil, List.getD_cons_zero, List.getD_cons_succ, Nat.zero_add, Nat.reduceAdd, Nat.reduceLT, if_true, ite_true]
          refine hEq (hPM Y X T S M D E N (c2) U W G L VL HL nK ST TP BT) rfl ?_
          refine wp_aload_n 69 d_PM_copyPlaces_68 rfl rfl ?_
          refine wp_getfield 72 11 8 d_PM_copyPlaces_69 rfl fl_PM_53 rfl rfl ?_
          refine wp_aload_n 73 d_PM_copyPlaces_72 rfl rfl ?_
          refine wp_getfield 76 11 2 d_PM_copyPlaces_73 rfl fl_PM_25 rfl rfl ?_
          refine ws_V1 (v1' := .ref 8) (b' := 0) 79 M_Chart_liesSet 3 [36, 37, 38, 39, 40, 41, 42, 43, 8, 9, 10, 11, 12, 13, 14, 15, 16] ((hCTr c2 T)) d_PM_copyPlaces_76 rfl mv_Chart_liesSet lk_PM_406 rfl rfl rfl rfl rfl rfl rfl rfl rfl ?_
          refine c_liesSetA I hA ?_
          refine sIr rfl rfl ?_
          refine wp_S1 82 M_JInt_bitCount 1 d_PM_copyPlaces_79 rfl ms_JInt_bitCount lk_PM_309 rfl rfl ?_
          refine c_JInt_bitCount ?_
          refine kI ?_
          refine wp_aload_n 83 d_PM_copyPlaces_82 rfl rfl ?_
          refine wp_getfield 86 11 2 d_PM_copyPlaces_83 rfl fl_PM_25 rfl rfl ?_
          refine wp_getfield 89 8 8 d_PM_copyPlaces_86 rfl fl_PM_203 rfl rfl ?_
          refine wp_icmp_ge 99 92 d_PM_copyPlaces_89 rfl (by decide) (fun h89 => ?_) (fun h89 => ?_)
          · refine wp_iconst 100 0 d_PM_copyPlaces_99 rfl (by decide) ?_
            refine wp_istore_3 101 d_PM_copyPlaces_100 rfl rfl rfl ?_
            have e : cpS T Y (nI 0) = 0 := ((((if_pos h5).trans (if_neg h25)).trans (if_pos h48)).trans (if_neg (fun z => absurd h89 (Int32.not_le.mpr z))))
            have h9 := hq1 e _ _ _ G _ ⟨hc2, SO_.2⟩
            have hle : 2 * T.nP ≤ (Y 0).nM := by
              rw [mul2] at h48
              have := (sum64 (p := 0) (m := 2 * T.nP) (by omega) (by have := I.hP; omega) (by have := hY 0; omega)).mp h48
              omega
            refine l_cp0 (w1 := some (.int (nI 0))) I.hP T.nP 0 Y (by omega) ⟨hle, hY 0, ?_⟩
            rw [iterN_congr (g' := cpH 0 (tX T) (tY T)) T.nP (fun n s hn => by unfold cpH; rw [(hA.1.2.2 n (by have := I.hP; omega)).1, (hA.1.2.2 n (by have := I.hP; omega)).2]; rfl) T.nP 0 _ (by omega)]
            refine wp_aload_n 155 d_PM_copyPlaces_154 rfl rfl ?_
            refine wp_aload_n 156 d_PM_copyPlaces_155 rfl rfl ?_
            refine wp_getfield 159 11 2 d_PM_copyPlaces_156 rfl fl_PM_25 rfl rfl ?_
            refine wp_getfield 162 8 8 d_PM_copyPlaces_159 rfl fl_PM_203 rfl rfl ?_
            refine wp_V1 165 M_PM_answer 1 d_PM_copyPlaces_162 rfl mv_PM_answer lk_PM_182 rfl rfl rfl rfl rfl ?_
            refine c_PM_answer ?_
            refine kI ?_
            refine wp_ireturn d_PM_copyPlaces_165 rfl ?_
            exact h9
          · refine wp_aload_n 93 d_PM_copyPlaces_92 rfl rfl ?_
            refine wp_bipush 95 6 d_PM_copyPlaces_93 rfl (by decide) ?_
            refine wp_V1 98 M_PM_fail 1 d_PM_copyPlaces_95 rfl mv_PM_fail lk_PM_132 rfl rfl rfl rfl rfl ?_
            refine c_PM_fail ?_
            refine kI ?_
            refine wp_ireturn d_PM_copyPlaces_98 rfl ?_
            have e : cpS T Y (nI 0) = 6 := ((((if_pos h5).trans (if_neg h25)).trans (if_pos h48)).trans (if_pos (Int32.not_le.mp h89)))
            exact hq0 _ e (by decide) _ _ _ G _ ⟨hc2, SO_.2⟩
        · refine wp_aload_n 52 d_PM_copyPlaces_51 rfl rfl ?_
          refine wp_iconst 53 3 d_PM_copyPlaces_52 rfl (by decide) ?_
          refine wp_V1 56 M_PM_fail 1 d_PM_copyPlaces_53 rfl mv_PM_fail lk_PM_132 rfl rfl rfl rfl rfl ?_
          refine c_PM_fail ?_
          refine kI ?_
          refine wp_ireturn d_PM_copyPlaces_56 rfl ?_
          have e : cpS T Y (nI 0) = 3 := (((if_pos h5).trans (if_neg h25)).trans (if_neg h48))
          exact hq0 _ e (by decide) _ _ _ _ _ SO_
      · refine wp_aload_n 29 d_PM_copyPlaces_28 rfl rfl ?_
        refine wp_iconst 30 2 d_PM_copyPlaces_29 rfl (by decide) ?_
        refine wp_V1 33 M_PM_fail 1 d_PM_copyPlaces_30 rfl mv_PM_fail lk_PM_132 rfl rfl rfl rfl rfl ?_
        refine c_PM_fail ?_
        refine kI ?_
        refine wp_ireturn d_PM_copyPlaces_33 rfl ?_
        have e : cpS T Y (nI 0) = 2 := ((if_pos h5).trans (if_pos h25))
        exact hq0 _ e (by decide) _ _ _ _ _ SO_
    · refine wp_aaload 20 4 79 d_PM_copyPlaces_19 rfl rfl (fun _ => rfl) (vp_in_nI (by decide) (by decide)) rfl ?_
      refine wp_astore_2 21 d_PM_copyPlaces_20 rfl rfl rfl ?_
      refine wp_aload_n 22 d_PM_copyPlaces_21 rfl rfl ?_
      refine wp_getfield 25 10 1 d_PM_copyPlaces_22 rfl fl_PM_140 rfl rfl ?_
      refine wp_if_ne 34 28 d_PM_copyPlaces_25 rfl (by decide) (fun h25 => ?_) (fun h25 => ?_)
      · refine wp_aload_n 35 d_PM_copyPlaces_34 rfl rfl ?_
        refine wp_iconst 36 0 d_PM_copyPlaces_35 rfl (by decide) ?_
        refine wp_iconst 37 2 d_PM_copyPlaces_36 rfl (by decide) ?_
        refine wp_aload_n 38 d_PM_copyPlaces_37 rfl rfl ?_
        refine wp_getfield 41 11 2 d_PM_copyPlaces_38 rfl fl_PM_25 rfl rfl ?_
        refine wp_getfield 44 8 8 d_PM_copyPlaces_41 rfl fl_PM_203 rfl rfl ?_
        refine wp_imul 45 d_PM_copyPlaces_44 rfl ?_
        refine ws_V2 (b' := 0) 48 M_Tray_holds 1 [79, 80] ((hYr (Y 1))) d_PM_copyPlaces_45 rfl mv_Tray_holds lk_PM_146 rfl rfl rfl rfl rfl rfl rfl (eV_int _ _) (eV_int _ _) rfl ?_
        refine c_Tray_holds ?_
        refine sIr rfl rfl ?_
        (first | refine wp_ifP_ne 57 51 d_PM_copyPlaces_48 rfl (by decide) (fun h48 => ?_) (fun h48 => ?_) | refine wp_if_ne 57 51 d_PM_copyPlaces_48 rfl (by decide) (fun h48 => ?_) (fun h48 => ?_))
        · refine wp_aload_n 58 d_PM_copyPlaces_57 rfl rfl ?_
          refine wp_getfield 61 11 8 d_PM_copyPlaces_58 rfl fl_PM_53 rfl rfl ?_
          refine wp_aload_n 62 d_PM_copyPlaces_61 rfl rfl ?_
          refine wp_getfield 65 11 2 d_PM_copyPlaces_62 rfl fl_PM_25 rfl rfl ?_
          refine ws_V1 (v1' := .ref 8) (b' := 0) 68 M_Chart_draw 4 [36, 37, 38, 39, 40, 41, 42, 43, 8, 9, 10, 11, 12, 13, 14, 15, 16] ((hCTr C T)) d_PM_copyPlaces_65 rfl mv_Chart_draw lk_PM_260 rfl rfl rfl rfl rfl rfl rfl rfl rfl ?_
          refine c_drawA I SO_.1 (fun c2 hc2 hA => ?_)
          refine sV ?_
          simp only [putH, rC, sg, eV, List.map_cons, List.map_nil, List.set_cons_zero, List.set_cons_succ, List.length_cons, List.length_nil, List.getD_cons_zero, List.getD_cons_succ, Nat.zero_add, Nat.reduceAdd, Nat.reduceLT, if_true, ite_true]
          refine hEq (hPM Y X T S M D E N (c2) U W G L VL HL nK ST TP BT) rfl ?_
          refine wp_aload_n 69 d_PM_copyPlaces_68 rfl rfl ?_
          refine wp_getfield 72 11 8 d_PM_copyPlaces_69 rfl fl_PM_53 rfl rfl ?_
          refine wp_aload_n 73 d_PM_copyPlaces_72 rfl rfl ?_
          refine wp_getfield 76 11 2 d_PM_copyPlaces_73 rfl fl_PM_25 rfl rfl ?_
          refine ws_V1 (v1' := .ref 8) (b' := 0) 79 M_Chart_liesSet 3 [36, 37, 38, 39, 40, 41, 42, 43, 8, 9, 10, 11, 12, 13, 14, 15, 16] ((hCTr c2 T)) d_PM_copyPlaces_76 rfl mv_Chart_liesSet lk_PM_406 rfl rfl rfl rfl rfl rfl rfl rfl rfl ?_
          refine c_liesSetA I hA ?_
          refine sIr rfl rfl ?_
          refine wp_S1 82 M_JInt_bitCount 1 d_PM_copyPlaces_79 rfl ms_JInt_bitCount lk_PM_309 rfl rfl ?_
          refine c_JInt_bitCount ?_
          refine kI ?_
          refine wp_aload_n 83 d_PM_copyPlaces_82 rfl rfl ?_
          refine wp_getfield 86 11 2 d_PM_copyPlaces_83 rfl fl_PM_25 rfl rfl ?_
          refine wp_getfield 89 8 8 d_PM_copyPlaces_86 rfl fl_PM_203 rfl rfl ?_
          refine wp_icmp_ge 99 92 d_PM_copyPlaces_89 rfl (by decide) (fun h89 => ?_) (fun h89 => ?_)
          · refine wp_iconst 100 0 d_PM_copyPlaces_99 rfl (by decide) ?_
            refine wp_istore_3 101 d_PM_copyPlaces_100 rfl rfl rfl ?_
            have e : cpS T Y (nI 1) = 0 := ((((if_pos h5).trans (if_neg h25)).trans (if_pos h48)).trans (if_neg (fun z => absurd h89 (Int32.not_le.mpr z))))
            have h9 := hq1 e _ _ _ G _ ⟨hc2, SO_.2⟩
            have hle : 2 * T.nP ≤ (Y 1).nM := by
              rw [mul2] at h48
              have := (sum64 (p := 0) (m := 2 * T.nP) (by omega) (by have := I.hP; omega) (by have := hY 1; omega)).mp h48
              omega
            refine l_cp1 (w1 := some (.int (nI 1))) I.hP T.nP 0 Y (by omega) ⟨hle, hY 1, ?_⟩
            rw [iterN_congr (g' := cpH 1 (tX T) (tY T)) T.nP (fun n s hn => by unfold cpH; rw [(hA.1.2.2 n (by have := I.hP; omega)).1, (hA.1.2.2 n (by have := I.hP; omega)).2]; rfl) T.nP 0 _ (by omega)]
            refine wp_aload_n 155 d_PM_copyPlaces_154 rfl rfl ?_
            refine wp_aload_n 156 d_PM_copyPlaces_155 rfl rfl ?_
            refine wp_getfield 159 11 2 d_PM_copyPlaces_156 rfl fl_PM_25 rfl rfl ?_
            refine wp_getfield 162 8 8 d_PM_copyPlaces_159 rfl fl_PM_203 rfl rfl ?_
            refine wp_V1 165 M_PM_answer 1 d_PM_copyPlaces_162 rfl mv_PM_answer lk_PM_182 rfl rfl rfl rfl rfl ?_
            refine c_PM_answer ?_
            refine kI ?_
            refine wp_ireturn d_PM_copyPlaces_165 rfl ?_
            exact h9
          · refine wp_aload_n 93 d_PM_copyPlaces_92 rfl rfl ?_
            refine wp_bipush 95 6 d_PM_copyPlaces_93 rfl (by decide) ?_
            refine wp_V1 98 M_PM_fail 1 d_PM_copyPlaces_95 rfl mv_PM_fail lk_PM_132 rfl rfl rfl rfl rfl ?_
            refine c_PM_fail ?_
            refine kI ?_
            refine wp_ireturn d_PM_copyPlaces_98 rfl ?_
            have e : cpS T Y (nI 1) = 6 := ((((if_pos h5).trans (if_neg h25)).trans (if_pos h48)).trans (if_pos (Int32.not_le.mp h89)))
            exact hq0 _ e (by decide) _ _ _ G _ ⟨hc2, SO_.2⟩
        · refine wp_aload_n 52 d_PM_copyPlaces_51 rfl rfl ?_
          refine wp_iconst 53 3 d_PM_copyPlaces_52 rfl (by decide) ?_
          refine wp_V1 56 M_PM_fail 1 d_PM_copyPlaces_53 rfl mv_PM_fail lk_PM_132 rfl rfl rfl rfl rfl ?_
          refine c_PM_fail ?_
          refine kI ?_
          refine wp_ireturn d_PM_copyPlaces_56 rfl ?_
          have e : cpS T Y (nI 1) = 3 := (((if_pos h5).trans (if_neg h25)).trans (if_neg h48))
          exact hq0 _ e (by decide) _ _ _ _ _ SO_
      · refine wp_aload_n 29 d_PM_copyPlaces_28 rfl rfl ?_
        refine wp_iconst 30 2 d_PM_copyPlaces_29 rfl (by decide) ?_
        refine wp_V1 33 M_PM_fail 1 d_PM_copyPlaces_30 rfl mv_PM_fail lk_PM_132 rfl rfl rfl rfl rfl ?_
        refine c_PM_fail ?_
        refine kI ?_
        refine wp_ireturn d_PM_copyPlaces_33 rfl ?_
        have e : cpS T Y (nI 1) = 2 := ((if_pos h5).trans (if_pos h25))
        exact hq0 _ e (by decide) _ _ _ _ _ SO_
    · refine wp_aaload 20 4 81 d_PM_copyPlaces_19 rfl rfl (fun _ => rfl) (vp_in_nI (by decide) (by decide)) rfl ?_
      refine wp_astore_2 21 d_PM_copyPlaces_20 rfl rfl rfl ?_
      refine wp_aload_n 22 d_PM_copyPlaces_21 rfl rfl ?_
      refine wp_getfield 25 10 1 d_PM_copyPlaces_22 rfl fl_PM_140 rfl rfl ?_
      refine wp_if_ne 34 28 d_PM_copyPlaces_25 rfl (by decide) (fun h25 => ?_) (fun h25 => ?_)
      · refine wp_aload_n 35 d_PM_copyPlaces_34 rfl rfl ?_
        refine wp_iconst 36 0 d_PM_copyPlaces_35 rfl (by decide) ?_
        refine wp_iconst 37 2 d_PM_copyPlaces_36 rfl (by decide) ?_
        refine wp_aload_n 38 d_PM_copyPlaces_37 rfl rfl ?_
        refine wp_getfield 41 11 2 d_PM_copyPlaces_38 rfl fl_PM_25 rfl rfl ?_
        refine wp_getfield 44 8 8 d_PM_copyPlaces_41 rfl fl_PM_203 rfl rfl ?_
        refine wp_imul 45 d_PM_copyPlaces_44 rfl ?_
        refine ws_V2 (b' := 0) 48 M_Tray_holds 1 [81, 82] ((hYr (Y 2))) d_PM_copyPlaces_45 rfl mv_Tray_holds lk_PM_146 rfl rfl rfl rfl rfl rfl rfl (eV_int _ _) (eV_int _ _) rfl ?_
        refine c_Tray_holds ?_
        refine sIr rfl rfl ?_
        (first | refine wp_ifP_ne 57 51 d_PM_copyPlaces_48 rfl (by decide) (fun h48 => ?_) (fun h48 => ?_) | refine wp_if_ne 57 51 d_PM_copyPlaces_48 rfl (by decide) (fun h48 => ?_) (fun h48 => ?_))
        · refine wp_aload_n 58 d_PM_copyPlaces_57 rfl rfl ?_
          refine wp_getfield 61 11 8 d_PM_copyPlaces_58 rfl fl_PM_53 rfl rfl ?_
          refine wp_aload_n 62 d_PM_copyPlaces_61 rfl rfl ?_
          refine wp_getfield 65 11 2 d_PM_copyPlaces_62 rfl fl_PM_25 rfl rfl ?_
          refine ws_V1 (v1' := .ref 8) (b' := 0) 68 M_Chart_draw 4 [36, 37, 38, 39, 40, 41, 42, 43, 8, 9, 10, 11, 12, 13, 14, 15, 16] ((hCTr C T)) d_PM_copyPlaces_65 rfl mv_Chart_draw lk_PM_260 rfl rfl rfl rfl rfl rfl rfl rfl rfl ?_
          refine c_drawA I SO_.1 (fun c2 hc2 hA => ?_)
          refine sV ?_
          simp only [putH, rC, sg, eV, List.map_cons, List.map_nil, List.set_cons_zero, List.set_cons_succ, List.length_cons, List.length_nil, List.getD_cons_zero, List.getD_cons_succ, Nat.zero_add, Nat.reduceAdd, Nat.reduceLT, if_true, ite_true]
          refine hEq (hPM Y X T S M D E N (c2) U W G L VL HL nK ST TP BT) rfl ?_
          refine wp_aload_n 69 d_PM_copyPlaces_68 rfl rfl ?_
          refine wp_getfield 72 11 8 d_PM_copyPlaces_69 rfl fl_PM_53 rfl rfl ?_
          refine wp_aload_n 73 d_PM_copyPlaces_72 rfl rfl ?_
          refine wp_getfield 76 11 2 d_PM_copyPlaces_73 rfl fl_PM_25 rfl rfl ?_
          refine ws_V1 (v1' := .ref 8) (b' := 0) 79 M_Chart_liesSet 3 [36, 37, 38, 39, 40, 41, 42, 43, 8, 9, 10, 11, 12, 13, 14, 15, 16] ((hCTr c2 T)) d_PM_copyPlaces_76 rfl mv_Chart_liesSet lk_PM_406 rfl rfl rfl rfl rfl rfl rfl rfl rfl ?_
          refine c_liesSetA I hA ?_
          refine sIr rfl rfl ?_
          refine wp_S1 82 M_JInt_bitCount 1 d_PM_copyPlaces_79 rfl ms_JInt_bitCount lk_PM_309 rfl rfl ?_
          refine c_JInt_bitCount ?_
          refine kI ?_
          refine wp_aload_n 83 d_PM_copyPlaces_82 rfl rfl ?_
          refine wp_getfield 86 11 2 d_PM_copyPlaces_83 rfl fl_PM_25 rfl rfl ?_
          refine wp_getfield 89 8 8 d_PM_copyPlaces_86 rfl fl_PM_203 rfl rfl ?_
          refine wp_icmp_ge 99 92 d_PM_copyPlaces_89 rfl (by decide) (fun h89 => ?_) (fun h89 => ?_)
          · refine wp_iconst 100 0 d_PM_copyPlaces_99 rfl (by decide) ?_
            refine wp_istore_3 101 d_PM_copyPlaces_100 rfl rfl rfl ?_
            have e : cpS T Y (nI 2) = 0 := ((((if_pos h5).trans (if_neg h25)).trans (if_pos h48)).trans (if_neg (fun z => absurd h89 (Int32.not_le.mpr z))))
            have h9 := hq1 e _ _ _ G _ ⟨hc2, SO_.2⟩
            have hle : 2 * T.nP ≤ (Y 2).nM := by
              rw [mul2] at h48
              have := (sum64 (p := 0) (m := 2 * T.nP) (by omega) (by have := I.hP; omega) (by have := hY 2; omega)).mp h48
              omega
            refine l_cp2 (w1 := some (.int (nI 2))) I.hP T.nP 0 Y (by omega) ⟨hle, hY 2, ?_⟩
            rw [iterN_congr (g' := cpH 2 (tX T) (tY T)) T.nP (fun n s hn => by unfold cpH; rw [(hA.1.2.2 n (by have := I.hP; omega)).1, (hA.1.2.2 n (by have := I.hP; omega)).2]; rfl) T.nP 0 _ (by omega)]
            refine wp_aload_n 155 d_PM_copyPlaces_154 rfl rfl ?_
            refine wp_aload_n 156 d_PM_copyPlaces_155 rfl rfl ?_
            refine wp_getfield 159 11 2 d_PM_copyPlaces_156 rfl fl_PM_25 rfl rfl ?_
            refine wp_getfield 162 8 8 d_PM_copyPlaces_159 rfl fl_PM_203 rfl rfl ?_
            refine wp_V1 165 M_PM_answer 1 d_PM_copyPlaces_162 rfl mv_PM_answer lk_PM_182 rfl rfl rfl rfl rfl ?_
            refine c_PM_answer ?_
            refine kI ?_
            refine wp_ireturn d_PM_copyPlaces_165 rfl ?_
            exact h9
          · refine wp_aload_n 93 d_PM_copyPlaces_92 rfl rfl ?_
            refine wp_bipush 95 6 d_PM_copyPlaces_93 rfl (by decide) ?_
            refine wp_V1 98 M_PM_fail 1 d_PM_copyPlaces_95 rfl mv_PM_fail lk_PM_132 rfl rfl rfl rfl rfl ?_
            refine c_PM_fail ?_
            refine kI ?_
            refine wp_ireturn d_PM_copyPlaces_98 rfl ?_
            have e : cpS T Y (nI 2) = 6 := ((((if_pos h5).trans (if_neg h25)).trans (if_pos h48)).trans (if_pos (Int32.not_le.mp h89)))
            exact hq0 _ e (by decide) _ _ _ G _ ⟨hc2, SO_.2⟩
        · refine wp_aload_n 52 d_PM_copyPlaces_51 rfl rfl ?_
          refine wp_iconst 53 3 d_PM_copyPlaces_52 rfl (by decide) ?_
          refine wp_V1 56 M_PM_fail 1 d_PM_copyPlaces_53 rfl mv_PM_fail lk_PM_132 rfl rfl rfl rfl rfl ?_
          refine c_PM_fail ?_
          refine kI ?_
          refine wp_ireturn d_PM_copyPlaces_56 rfl ?_
          have e : cpS T Y (nI 2) = 3 := (((if_pos h5).trans (if_neg h25)).trans (if_neg h48))
          exact hq0 _ e (by decide) _ _ _ _ _ SO_
      · refine wp_aload_n 29 d_PM_copyPlaces_28 rfl rfl ?_
        refine wp_iconst 30 2 d_PM_copyPlaces_29 rfl (by decide) ?_
        refine wp_V1 33 M_PM_fail 1 d_PM_copyPlaces_30 rfl mv_PM_fail lk_PM_132 rfl rfl rfl rfl rfl ?_
        refine c_PM_fail ?_
        refine kI ?_
        refine wp_ireturn d_PM_copyPlaces_33 rfl ?_
        have e : cpS T Y (nI 2) = 2 := ((if_pos h5).trans (if_pos h25))
        exact hq0 _ e (by decide) _ _ _ _ _ SO_
    · refine wp_aaload 20 4 83 d_PM_copyPlaces_19 rfl rfl (fun _ => rfl) (vp_in_nI (by decide) (by decide)) rfl ?_
      refine wp_astore_2 21 d_PM_copyPlaces_20 rfl rfl rfl ?_
      refine wp_aload_n 22 d_PM_copyPlaces_21 rfl rfl ?_
      refine wp_getfield 25 10 1 d_PM_copyPlaces_22 rfl fl_PM_140 rfl rfl ?_
      refine wp_if_ne 34 28 d_PM_copyPlaces_25 rfl (by decide) (fun h25 => ?_) (fun h25 => ?_)
      · refine wp_aload_n 35 d_PM_copyPlaces_34 rfl rfl ?_
        refine wp_iconst 36 0 d_PM_copyPlaces_35 rfl (by decide) ?_
        refine wp_iconst 37 2 d_PM_copyPlaces_36 rfl (by decide) ?_
        refine wp_aload_n 38 d_PM_copyPlaces_37 rfl rfl ?_
        refine wp_getfield 41 11 2 d_PM_copyPlaces_38 rfl fl_PM_25 rfl rfl ?_
        refine wp_getfield 44 8 8 d_PM_copyPlaces_41 rfl fl_PM_203 rfl rfl ?_
        refine wp_imul 45 d_PM_copyPlaces_44 rfl ?_
        refine ws_V2 (b' := 0) 48 M_Tray_holds 1 [83, 84] ((hYr (Y 3))) d_PM_copyPlaces_45 rfl mv_Tray_holds lk_PM_146 rfl rfl rfl rfl rfl rfl rfl (eV_int _ _) (eV_int _ _) rfl ?_
        refine c_Tray_holds ?_
        refine sIr rfl rfl ?_
        (first | refine wp_ifP_ne 57 51 d_PM_copyPlaces_48 rfl (by decide) (fun h48 => ?_) (fun h48 => ?_) | refine wp_if_ne 57 51 d_PM_copyPlaces_48 rfl (by decide) (fun h48 => ?_) (fun h48 => ?_))
        · refine wp_aload_n 58 d_PM_copyPlaces_57 rfl rfl ?_
          refine wp_getfield 61 11 8 d_PM_copyPlaces_58 rfl fl_PM_53 rfl rfl ?_
          refine wp_aload_n 62 d_PM_copyPlaces_61 rfl rfl ?_
          refine wp_getfield 65 11 2 d_PM_copyPlaces_62 rfl fl_PM_25 rfl rfl ?_
          refine ws_V1 (v1' := .ref 8) (b' := 0) 68 M_Chart_draw 4 [36, 37, 38, 39, 40, 41, 42, 43, 8, 9, 10, 11, 12, 13, 14, 15, 16] ((hCTr C T)) d_PM_copyPlaces_65 rfl mv_Chart_draw lk_PM_260 rfl rfl rfl rfl rfl rfl rfl rfl rfl ?_
          refine c_drawA I SO_.1 (fun c2 hc2 hA => ?_)
          refine sV ?_
          simp only [putH, rC, sg, eV, List.map_cons, List.map_nil, List.set_cons_zero, List.set_cons_succ, List.length_cons, List.length_nil, List.getD_cons_zero, List.getD_cons_succ, Nat.zero_add, Nat.reduceAdd, Nat.reduceLT, if_true, ite_true]
          refine hEq (hPM Y X T S M D E N (c2) U W G L VL HL nK ST TP BT) rfl ?_
          refine wp_aload_n 69 d_PM_copyPlaces_68 rfl rfl ?_
          refine wp_getfield 72 11 8 d_PM_copyPlaces_69 rfl fl_PM_53 rfl rfl ?_
          refine wp_aload_n 73 d_PM_copyPlaces_72 rfl rfl ?_
          refine wp_getfield 76 11 2 d_PM_copyPlaces_73 rfl fl_PM_25 rfl rfl ?_
          refine ws_V1 (v1' := .ref 8) (b' := 0) 79 M_Chart_liesSet 3 [36, 37, 38, 39, 40, 41, 42, 43, 8, 9, 10, 11, 12, 13, 14, 15, 16] ((hCTr c2 T)) d_PM_copyPlaces_76 rfl mv_Chart_liesSet lk_PM_406 rfl rfl rfl rfl rfl rfl rfl rfl rfl ?_
          refine c_liesSetA I hA ?_
          refine sIr rfl rfl ?_
          refine wp_S1 82 M_JInt_bitCount 1 d_PM_copyPlaces_79 rfl ms_JInt_bitCount lk_PM_309 rfl rfl ?_
          refine c_JInt_bitCount ?_
          refine kI ?_
          refine wp_aload_n 83 d_PM_copyPlaces_82 rfl rfl ?_
          refine wp_getfield 86 11 2 d_PM_copyPlaces_83 rfl fl_PM_25 rfl rfl ?_
          refine wp_getfield 89 8 8 d_PM_copyPlaces_86 rfl fl_PM_203 rfl rfl ?_
          refine wp_icmp_ge 99 92 d_PM_copyPlaces_89 rfl (by decide) (fun h89 => ?_) (fun h89 => ?_)
          · refine wp_iconst 100 0 d_PM_copyPlaces_99 rfl (by decide) ?_
            refine wp_istore_3 101 d_PM_copyPlaces_100 rfl rfl rfl ?_
            have e : cpS T Y (nI 3) = 0 := ((((if_pos h5).trans (if_neg h25)).trans (if_pos h48)).trans (if_neg (fun z => absurd h89 (Int32.not_le.mpr z))))
            have h9 := hq1 e _ _ _ G _ ⟨hc2, SO_.2⟩
            have hle : 2 * T.nP ≤ (Y 3).nM := by
              rw [mul2] at h48
              have := (sum64 (p := 0) (m := 2 * T.nP) (by omega) (by have := I.hP; omega) (by have := hY 3; omega)).mp h48
              omega
            refine l_cp3 (w1 := some (.int (nI 3))) I.hP T.nP 0 Y (by omega) ⟨hle, hY 3, ?_⟩
            rw [iterN_congr (g' := cpH 3 (tX T) (tY T)) T.nP (fun n s hn => by unfold cpH; rw [(hA.1.2.2 n (by have := I.hP; omega)).1, (hA.1.2.2 n (by have := I.hP; omega)).2]; rfl) T.nP 0 _ (by omega)]
            refine wp_aload_n 155 d_PM_copyPlaces_154 rfl rfl ?_
            refine wp_aload_n 156 d_PM_copyPlaces_155 rfl rfl ?_
            refine wp_getfield 159 11 2 d_PM_copyPlaces_156 rfl fl_PM_25 rfl rfl ?_
            refine wp_getfield 162 8 8 d_PM_copyPlaces_159 rfl fl_PM_203 rfl rfl ?_
            refine wp_V1 165 M_PM_answer 1 d_PM_copyPlaces_162 rfl mv_PM_answer lk_PM_182 rfl rfl rfl rfl rfl ?_
            refine c_PM_answer ?_
            refine kI ?_
            refine wp_ireturn d_PM_copyPlaces_165 rfl ?_
            exact h9
          · refine wp_aload_n 93 d_PM_copyPlaces_92 rfl rfl ?_
            refine wp_bipush 95 6 d_PM_copyPlaces_93 rfl (by decide) ?_
            refine wp_V1 98 M_PM_fail 1 d_PM_copyPlaces_95 rfl mv_PM_fail lk_PM_132 rfl rfl rfl rfl rfl ?_
            refine c_PM_fail ?_
            refine kI ?_
            refine wp_ireturn d_PM_copyPlaces_98 rfl ?_
            have e : cpS T Y (nI 3) = 6 := ((((if_pos h5).trans (if_neg h25)).trans (if_pos h48)).trans (if_pos (Int32.not_le.mp h89)))
            exact hq0 _ e (by decide) _ _ _ G _ ⟨hc2, SO_.2⟩
        · refine wp_aload_n 52 d_PM_copyPlaces_51 rfl rfl ?_
          refine wp_iconst 53 3 d_PM_copyPlaces_52 rfl (by decide) ?_
          refine wp_V1 56 M_PM_fail 1 d_PM_copyPlaces_53 rfl mv_PM_fail lk_PM_132 rfl rfl rfl rfl rfl ?_
          refine c_PM_fail ?_
          refine kI ?_
          refine wp_ireturn d_PM_copyPlaces_56 rfl ?_
          have e : cpS T Y (nI 3) = 3 := (((if_pos h5).trans (if_neg h25)).trans (if_neg h48))
          exact hq0 _ e (by decide) _ _ _ _ _ SO_
      · refine wp_aload_n 29 d_PM_copyPlaces_28 rfl rfl ?_
        refine wp_iconst 30 2 d_PM_copyPlaces_29 rfl (by decide) ?_
        refine wp_V1 33 M_PM_fail 1 d_PM_copyPlaces_30 rfl mv_PM_fail lk_PM_132 rfl rfl rfl rfl rfl ?_
        refine c_PM_fail ?_
        refine kI ?_
        refine wp_ireturn d_PM_copyPlaces_33 rfl ?_
        have e : cpS T Y (nI 3) = 2 := ((if_pos h5).trans (if_pos h25))
        exact hq0 _ e (by decide) _ _ _ _ _ SO_
  · refine wp_aload_n 9 d_PM_copyPlaces_8 rfl rfl ?_
    refine wp_iconst 10 1 d_PM_copyPlaces_9 rfl (by decide) ?_
    refine wp_V1 13 M_PM_fail 1 d_PM_copyPlaces_10 rfl mv_PM_fail lk_PM_132 rfl rfl rfl rfl rfl ?_
    refine c_PM_fail ?_
    refine kI ?_
    refine wp_ireturn d_PM_copyPlaces_13 rfl ?_
    have e : cpS T Y a = 1 := (if_neg h5)
    exact hq0 _ e (by decide) _ _ _ _ _ SO_

end T59
