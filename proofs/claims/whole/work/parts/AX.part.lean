/-! ===== the reference: parts of a town, a town ===== -/
theorem tPt_0 {K : TK} {s : CS} {t : TW} {x : Int32} (h : cWo K s = 0) : tPt K s t x = tOd K s t x := if_pos h
theorem tPt_1 {K : TK} {s : CS} {t : TW} {x : Int32} (h : cWo K s = 1) : tPt K s t x = wX x (tPl K s t) := (if_neg (by rw [h]; decide)).trans (if_pos h)
theorem tPt_2 {K : TK} {s : CS} {t : TW} {x : Int32} (h : cWo K s = 2) : tPt K s t x = wX x (tWk K s t) := (if_neg (by rw [h]; decide)).trans ((if_neg (by rw [h]; decide)).trans (if_pos h))
theorem tPt_6 {K : TK} {s : CS} {t : TW} {x : Int32} (h : cWo K s = 6) : tPt K s t x = wX x (tLg K s t) := (if_neg (by rw [h]; decide)).trans ((if_neg (by rw [h]; decide)).trans ((if_neg (by rw [h]; decide)).trans (if_pos h)))
theorem tPt_n {K : TK} {s : CS} {t : TW} {x : Int32} (h0 : ¬ cWo K s = 0) (h1 : ¬ cWo K s = 1) (h2 : ¬ cWo K s = 2) (h6 : ¬ cWo K s = 6) : tPt K s t x = (false, cCs K s, t, x) := (if_neg h0).trans ((if_neg h1).trans ((if_neg h2).trans (if_neg h6)))
theorem tSt_y {K : TK} {s : CS} {t : TW} {x : Int32} {r : Bool × CS × TW × Int32} (e : tPt K s t x = r) (h : r.1 = true) : tSt K s t x = ((cSg K 59 r.2.1).1, (cSg K 59 r.2.1).2, r.2.2.1, r.2.2.2) := by
  unfold tSt
  rw [e, if_pos h]
theorem tSt_f {K : TK} {s : CS} {t : TW} {x : Int32} {r : Bool × CS × TW × Int32} (e : tPt K s t x = r) (h : ¬ r.1 = true) : tSt K s t x = (false, r.2.1, r.2.2.1, r.2.2.2) := by
  unfold tSt
  rw [e, if_neg h]
theorem cSg_gt {K : TK} {b : Nat → Int32} {L : Nat} {s : CS} {c : Int32} (A : ATk K b L s) (h : (cSg K c s).1 = true) : (cSg K c s).2.a = s.a + 1 := by
  by_cases z : K.ki s.a = 5 ∧ cVl K s = c
  · have e : cSg K c s = (true, cNx K s) := if_pos z
    rw [e]
    exact (ak_nx A (by rw [((ak_sg A).mp z).1]; decide)).1
  · have e : cSg K c s = (false, cCs K s) := if_neg z
    rw [e] at h
    exact absurd h Bool.false_ne_true
theorem kw_v {K : TK} {b : Nat → Int32} {L : Nat} {s : CS} (A : ATk K b L s) : (kwR b L s.a = 0 ↔ cWo K s = 0) ∧ (kwR b L s.a = 1 ↔ cWo K s = 1) ∧ (kwR b L s.a = 2 ↔ cWo K s = 2) ∧ (kwR b L s.a = 3 ↔ cWo K s = 6) := ⟨(ak_is A 0 (by omega)).symm, (ak_is A 1 (by omega)).symm, (ak_is A 2 (by omega)).symm, (ak_is A 6 (by omega)).symm⟩
theorem kw_03 {b : Nat → Int32} {L j : Nat} (h1 : ¬ kwR b L j < 0) (h2 : kwR b L j ≤ 3) (n1 : ¬ kwR b L j = 1) (n2 : ¬ kwR b L j = 2) (n3 : ¬ kwR b L j = 3) : kwR b L j = 0 := by
  obtain ⟨k, k1, k2, k3⟩ := i32_in (m := 0) (n := 3) (by omega) (by omega) (Int32.not_lt.mp h1) h2
  rw [k3] at n1 n2 n3 ⊢
  match k, k2, n1, n2, n3 with
  | 0, _, _, _, _ => rfl
  | 1, _, n1, _, _ => exact absurd rfl n1
  | 2, _, _, n2, _ => exact absurd rfl n2
  | 3, _, _, _, n3 => exact absurd rfl n3
section TAX
variable {Γ : Gm} {Q : Option Value → LH → Prop} {m_at m_sort m_trayMany m_tape m_text m_opened m_eastBy m_northBy m_partBy m_wayFaults m_wayEast m_wayNorth m_olds m_farBy m_rowBy m_triedBy m_doneAt m_gotAt m_struckAt m_bestDeed m_loops m_ran m_told1 : Nat → Int32} {m_names m_trays m_misBy : Nat → Int64} {m_status m_taped m_size m_token m_from m_end m_value m_faultKind m_faultPlace m_faults m_seen m_areOdds m_depth m_counted m_wayMany m_oneOfSet m_twoOfSet m_rowMany m_drawn m_ranSteps m_isTold m_marks : Int32} {m_top m_bottom : Int64} {L : Nat} {K : TK} {t : TW} {x : Int32} {s : CS}
set_option maxRecDepth 100000 in
set_option maxHeartbeats 4000000 in
theorem k_townPart (hL : L ≤ 900) (hb : ∀ k, k < L → b8 (m_text k)) (T : TKs co0_ m_text L K) (ha : s.a < K.nT) (hf : m_faults = 0) (V : vT (sh m_at) t) (N : NS m_names 44 t) (hq1 : (tSt K s t x).1 = true → ∀ (a2 : Nat → Int32) (n2 : Nat → Int64), vT (sh a2) (tSt K s t x).2.2.1 → NS n2 44 (tSt K s t x).2.2.1 → frW a2 m_at → frL n2 m_names → Q (some (.int 1)) (hM (a2) (n2) m_status m_top m_bottom m_sort m_trayMany m_trays m_tape m_text m_taped ((nI L)) ((gtF m_text L (tSt K s t x).2.1.a).1) ((nI (gtF m_text L (tSt K s t x).2.1.a).2.1)) ((nI (gtF m_text L (tSt K s t x).2.1.a).2.2.1)) ((gtF m_text L (tSt K s t x).2.1.a).2.2.2) m_faultKind m_faultPlace m_faults m_seen ((tSt K s t x).2.2.2) m_opened m_depth m_counted m_eastBy m_northBy m_partBy m_wayFaults m_wayEast m_wayNorth m_olds m_wayMany m_oneOfSet m_twoOfSet m_farBy m_rowBy m_triedBy m_rowMany m_doneAt m_gotAt m_struckAt m_bestDeed m_misBy m_drawn m_ranSteps m_loops m_ran m_told1 m_isTold m_marks)) (hq0 : ¬ (tSt K s t x).1 = true → ∀ (a2 : Nat → Int32) (n2 : Nat → Int64) (z1 z2 z3 z4 y : Int32), frW a2 m_at → frL n2 m_names → Q (some (.int 0)) (hM (a2) (n2) m_status m_top m_bottom m_sort m_trayMany m_trays m_tape m_text m_taped ((nI L)) (z1) (z2) (z3) (z4) m_faultKind (((tSt K s t x).2.1).fp) (((tSt K s t x).2.1).fk) m_seen (y) m_opened m_depth m_counted m_eastBy m_northBy m_partBy m_wayFaults m_wayEast m_wayNorth m_olds m_wayMany m_oneOfSet m_twoOfSet m_farBy m_rowBy m_triedBy m_rowMany m_doneAt m_gotAt m_struckAt m_bestDeed m_misBy m_drawn m_ranSteps m_loops m_ran m_told1 m_isTold m_marks)) : Call Γ M_Mo_townPart 10 0 0 [.ref 0] (hM m_at m_names m_status m_top m_bottom m_sort m_trayMany m_trays m_tape m_text m_taped ((nI L)) ((gtF m_text L s.a).1) ((nI (gtF m_text L s.a).2.1)) ((nI (gtF m_text L s.a).2.2.1)) ((gtF m_text L s.a).2.2.2) m_faultKind m_faultPlace m_faults m_seen (x) m_opened m_depth m_counted m_eastBy m_northBy m_partBy m_wayFaults m_wayEast m_wayNorth m_olds m_wayMany m_oneOfSet m_twoOfSet m_farBy m_rowBy m_triedBy m_rowMany m_doneAt m_gotAt m_struckAt m_bestDeed m_misBy m_drawn m_ranSteps m_loops m_ran m_told1 m_isTold m_marks) Q := by
  have A := ATk_of (s := s) hb T ha
  have kv := kw_v A
  have hP7 := V.ok.hP
  have hW4 := V.ok.hW
  refine call_intro (ls := [some (.ref 0), none]) rfl rfl rfl ?_
  refine wp_aload_n 1 d_Mo_townPart_0 rfl rfl ?_
  refine wp_ldcS2 3 d_Mo_townPart_1 rfl rfl ?_
  refine wp_V1 6 M_Mo_inWords 6 d_Mo_townPart_3 rfl mv_Mo_inWords lk_Mo_196 rfl rfl rfl rfl rfl ?_
  refine c_inWordsJ (j := s.a) hL (ak_le A) ?_
  refine kI ?_
  refine wp_istore_1 7 d_Mo_townPart_6 rfl rfl rfl ?_
  refine wp_iload_n 8 d_Mo_townPart_7 rfl rfl ?_
  refine wp_if_lt 16 11 d_Mo_townPart_8 rfl (by decide) (fun h8 => ?_) (fun h8 => ?_)
  · refine wp_aload_n 17 d_Mo_townPart_16 rfl rfl ?_
    refine wp_iconst 18 2 d_Mo_townPart_17 rfl (by decide) ?_
    refine wp_V1 21 M_Mo_fails 1 d_Mo_townPart_18 rfl mv_Mo_fails lk_Mo_193 rfl rfl rfl rfl rfl ?_
    refine k_fails2 (s := s) hL hb T ha hf ?_
    refine kI ?_
    refine wp_zreturn d_Mo_townPart_21 rfl (by first | rfl | exact nbP _) ?_
    have hn : ∀ v : Nat, v < 4 → ¬ kwR m_text L s.a = nI v := fun v hv z => by rw [z] at h8; exact absurd h8 (Int32.not_lt.mpr (show nI 0 ≤ nI v from (nI_leI (by omega) (by omega)).mpr (by omega)))
    have e := tSt_f (K := K) (s := s) (t := t) (x := x) (tPt_n (fun z => hn 0 (by omega) (kv.1.mpr z)) (fun z => hn 1 (by omega) (kv.2.1.mpr z)) (fun z => hn 2 (by omega) (kv.2.2.1.mpr z)) (fun z => hn 3 (by omega) (kv.2.2.2.mpr z))) (show ¬ false = true by decide)
    rw [e] at hq0
    exact hq0 Bool.false_ne_true m_at m_names _ _ _ _ _ (fun _ _ => rfl) (fun _ _ => rfl)
  · refine wp_iload_n 12 d_Mo_townPart_11 rfl rfl ?_
    refine wp_iconst 13 3 d_Mo_townPart_12 rfl (by decide) ?_
    refine wp_icmp_le 22 16 d_Mo_townPart_13 rfl (by decide) (fun h13 => ?_) (fun h13 => ?_)
    · refine wp_iload_n 23 d_Mo_townPart_22 rfl rfl ?_
      by_cases h23_0 : kwR m_text L s.a = 1
      · refine wp_tabIn (off := 25) 48 1 d_Mo_townPart_23 h23_0 (by decide) (by decide) (by decide) (by decide) ?_
        have hc : cWo K s = 1 := kv.2.1.mp h23_0
        refine wp_aload_n 49 d_Mo_townPart_48 rfl rfl ?_
        refine wp_V0 52 M_Mo_aPlace 9 d_Mo_townPart_49 rfl mv_Mo_aPlace lk_Mo_236 rfl rfl rfl rfl rfl ?_
        refine k_aPlace (s := s) (t := t) hL hb T ha hf hc V N (fun n1 a2 n2 v1 v2 v3 v4 => ?_) (fun n8 a2 n2 z1 z2 z3 z4 v3 v4 => ?_)
        · refine kI ?_
          refine wp_if_eq 68 55 d_Mo_townPart_52 rfl (by decide) (fun h52 => ?_) (fun h52 => ?_)
          · exact absurd h52 (by decide)
          · refine wp_aload_n 56 d_Mo_townPart_55 rfl rfl ?_
            refine wp_bipush 58 59 d_Mo_townPart_56 rfl (by decide) ?_
            refine wp_V1 61 M_Mo_wantSign 3 d_Mo_townPart_58 rfl mv_Mo_wantSign lk_Mo_240 rfl rfl rfl rfl rfl ?_
            refine k_wantSign (s := (tPl K s t).2.1) (c := 59) hL hb T (tPl_ok ⟨ha, hP7, hW4, V.ok.hL⟩).1 hf (fun n5 => ?_) (fun n9 => ?_)
            · refine kI ?_
              refine wp_if_eq 68 64 d_Mo_townPart_61 rfl (by decide) (fun h61 => ?_) (fun h61 => ?_)
              · exact absurd h61 (by decide)
              · refine wp_iconst 65 1 d_Mo_townPart_64 rfl (by decide) ?_
                refine wp_goto 69 d_Mo_townPart_65 (by decide) ?_
                refine wp_zreturn d_Mo_townPart_69 rfl (by first | rfl | exact nbP _) ?_
                have et := tPt_1 (K := K) (s := s) (t := t) (x := x) hc
                have e := tSt_y et (show (wX x (tPl K s t)).1 = true from n1)
                rw [e] at hq1
                exact hq1 n5 a2 n2 v1 v2 v3 v4
            · refine kI ?_
              refine wp_if_eq 68 64 d_Mo_townPart_61 rfl (by decide) (fun h61 => ?_) (fun h61 => ?_)
              · refine wp_iconst 69 0 d_Mo_townPart_68 rfl (by decide) ?_
                refine wp_zreturn d_Mo_townPart_69 rfl (by first | rfl | exact nbP _) ?_
                have et := tPt_1 (K := K) (s := s) (t := t) (x := x) hc
                have e := tSt_y et (show (wX x (tPl K s t)).1 = true from n1)
                rw [e] at hq0
                exact hq0 n9 a2 n2 _ _ _ _ _ v3 v4
              · exact absurd rfl h61
        · refine kI ?_
          refine wp_if_eq 68 55 d_Mo_townPart_52 rfl (by decide) (fun h52 => ?_) (fun h52 => ?_)
          · refine wp_iconst 69 0 d_Mo_townPart_68 rfl (by decide) ?_
            refine wp_zreturn d_Mo_townPart_69 rfl (by first | rfl | exact nbP _) ?_
            have et := tPt_1 (K := K) (s := s) (t := t) (x := x) hc
            have e := tSt_f et (show ¬ (wX x (tPl K s t)).1 = true from n8)
            rw [e] at hq0
            exact hq0 Bool.false_ne_true a2 n2 _ _ _ _ _ v3 v4
          · exact absurd rfl h52
      by_cases h23_1 : kwR m_text L s.a = 2
      · refine wp_tabIn (off := 47) 70 2 d_Mo_townPart_23 h23_1 (by decide) (by decide) (by decide) (by decide) ?_
        have hc : cWo K s = 2 := kv.2.2.1.mp h23_1
        refine wp_aload_n 71 d_Mo_townPart_70 rfl rfl ?_
        refine wp_V0 74 M_Mo_aWalker 9 d_Mo_townPart_71 rfl mv_Mo_aWalker lk_Mo_243 rfl rfl rfl rfl rfl ?_
        refine k_aWalker (s := s) (t := t) hL hb T ha hf hc V N (fun n1 a2 n2 v1 v2 v3 v4 => ?_) (fun n8 a2 n2 z1 z2 z3 z4 v3 v4 => ?_)
        · refine kI ?_
          refine wp_if_eq 90 77 d_Mo_townPart_74 rfl (by decide) (fun h74 => ?_) (fun h74 => ?_)
          · exact absurd h74 (by decide)
          · refine wp_aload_n 78 d_Mo_townPart_77 rfl rfl ?_
            refine wp_bipush 80 59 d_Mo_townPart_78 rfl (by decide) ?_
            refine wp_V1 83 M_Mo_wantSign 3 d_Mo_townPart_80 rfl mv_Mo_wantSign lk_Mo_240 rfl rfl rfl rfl rfl ?_
            refine k_wantSign (s := (tWk K s t).2.1) (c := 59) hL hb T (tWk_ok ⟨ha, hP7, hW4, V.ok.hL⟩).1 hf (fun n5 => ?_) (fun n9 => ?_)
            · refine kI ?_
              refine wp_if_eq 90 86 d_Mo_townPart_83 rfl (by decide) (fun h83 => ?_) (fun h83 => ?_)
              · exact absurd h83 (by decide)
              · refine wp_iconst 87 1 d_Mo_townPart_86 rfl (by decide) ?_
                refine wp_goto 91 d_Mo_townPart_87 (by decide) ?_
                refine wp_zreturn d_Mo_townPart_91 rfl (by first | rfl | exact nbP _) ?_
                have et := tPt_2 (K := K) (s := s) (t := t) (x := x) hc
                have e := tSt_y et (show (wX x (tWk K s t)).1 = true from n1)
                rw [e] at hq1
                exact hq1 n5 a2 n2 v1 v2 v3 v4
            · refine kI ?_
              refine wp_if_eq 90 86 d_Mo_townPart_83 rfl (by decide) (fun h83 => ?_) (fun h83 => ?_)
              · refine wp_iconst 91 0 d_Mo_townPart_90 rfl (by decide) ?_
                refine wp_zreturn d_Mo_townPart_91 rfl (by first | rfl | exact nbP _) ?_
                have et := tPt_2 (K := K) (s := s) (t := t) (x := x) hc
                have e := tSt_y et (show (wX x (tWk K s t)).1 = true from n1)
                rw [e] at hq0
                exact hq0 n9 a2 n2 _ _ _ _ _ v3 v4
              · exact absurd rfl h83
        · refine kI ?_
          refine wp_if_eq 90 77 d_Mo_townPart_74 rfl (by decide) (fun h74 => ?_) (fun h74 => ?_)
          · refine wp_iconst 91 0 d_Mo_townPart_90 rfl (by decide) ?_
            refine wp_zreturn d_Mo_townPart_91 rfl (by first | rfl | exact nbP _) ?_
            have et := tPt_2 (K := K) (s := s) (t := t) (x := x) hc
            have e := tSt_f et (show ¬ (wX x (tWk K s t)).1 = true from n8)
            rw [e] at hq0
            exact hq0 Bool.false_ne_true a2 n2 _ _ _ _ _ v3 v4
          · exact absurd rfl h74
      by_cases h23_2 : kwR m_text L s.a = 3
      · refine wp_tabIn (off := 69) 92 3 d_Mo_townPart_23 h23_2 (by decide) (by decide) (by decide) (by decide) ?_
        have hc : cWo K s = 6 := kv.2.2.2.mp h23_2
        refine wp_aload_n 93 d_Mo_townPart_92 rfl rfl ?_
        refine wp_V0 96 M_Mo_aLeg 9 d_Mo_townPart_93 rfl mv_Mo_aLeg lk_Mo_246 rfl rfl rfl rfl rfl ?_
        refine k_aLeg (s := s) (t := t) hL hb T ha hf hc V N (fun n1 a2 n2 v1 v2 v3 v4 => ?_) (fun n8 a2 n2 z1 z2 z3 z4 v3 v4 => ?_)
        · refine kI ?_
          refine wp_if_eq 112 99 d_Mo_townPart_96 rfl (by decide) (fun h96 => ?_) (fun h96 => ?_)
          · exact absurd h96 (by decide)
          · refine wp_aload_n 100 d_Mo_townPart_99 rfl rfl ?_
            refine wp_bipush 102 59 d_Mo_townPart_100 rfl (by decide) ?_
            refine wp_V1 105 M_Mo_wantSign 3 d_Mo_townPart_102 rfl mv_Mo_wantSign lk_Mo_240 rfl rfl rfl rfl rfl ?_
            refine k_wantSign (s := (tLg K s t).2.1) (c := 59) hL hb T (tLg_ok ⟨ha, hP7, hW4, V.ok.hL⟩).1 hf (fun n5 => ?_) (fun n9 => ?_)
            · refine kI ?_
              refine wp_if_eq 112 108 d_Mo_townPart_105 rfl (by decide) (fun h105 => ?_) (fun h105 => ?_)
              · exact absurd h105 (by decide)
              · refine wp_iconst 109 1 d_Mo_townPart_108 rfl (by decide) ?_
                refine wp_goto 113 d_Mo_townPart_109 (by decide) ?_
                refine wp_zreturn d_Mo_townPart_113 rfl (by first | rfl | exact nbP _) ?_
                have et := tPt_6 (K := K) (s := s) (t := t) (x := x) hc
                have e := tSt_y et (show (wX x (tLg K s t)).1 = true from n1)
                rw [e] at hq1
                exact hq1 n5 a2 n2 v1 v2 v3 v4
            · refine kI ?_
              refine wp_if_eq 112 108 d_Mo_townPart_105 rfl (by decide) (fun h105 => ?_) (fun h105 => ?_)
              · refine wp_iconst 113 0 d_Mo_townPart_112 rfl (by decide) ?_
                refine wp_zreturn d_Mo_townPart_113 rfl (by first | rfl | exact nbP _) ?_
                have et := tPt_6 (K := K) (s := s) (t := t) (x := x) hc
                have e := tSt_y et (show (wX x (tLg K s t)).1 = true from n1)
                rw [e] at hq0
                exact hq0 n9 a2 n2 _ _ _ _ _ v3 v4
              · exact absurd rfl h105
        · refine kI ?_
          refine wp_if_eq 112 99 d_Mo_townPart_96 rfl (by decide) (fun h96 => ?_) (fun h96 => ?_)
          · refine wp_iconst 113 0 d_Mo_townPart_112 rfl (by decide) ?_
            refine wp_zreturn d_Mo_townPart_113 rfl (by first | rfl | exact nbP _) ?_
            have et := tPt_6 (K := K) (s := s) (t := t) (x := x) hc
            have e := tSt_f et (show ¬ (wX x (tLg K s t)).1 = true from n8)
            rw [e] at hq0
            exact hq0 Bool.false_ne_true a2 n2 _ _ _ _ _ v3 v4
          · exact absurd rfl h96
      refine wp_tabOut 114 d_Mo_townPart_23 (sw_outL 1 3 (by omega) (fun i hi => match i, hi with
          | 0, _ => h23_0
          | 1, _ => h23_1
          | 2, _ => h23_2
          | i + 3, hi => absurd hi (by omega))) (by decide) ?_
      have hc : cWo K s = 0 := kv.1.mp (kw_03 h8 h13 h23_0 h23_1 h23_2)
      have g2 := ak_w2 (w := 0) A (by omega) hc
      refine wp_aload_n 115 d_Mo_townPart_114 rfl rfl ?_
      refine wp_getfield 118 12 20 d_Mo_townPart_115 rfl fl_Mo_249 rfl rfl ?_
      refine wp_if_eq 127 121 d_Mo_townPart_118 rfl (by decide) (fun h118 => ?_) (fun h118 => ?_)
      · refine wp_aload_n 128 d_Mo_townPart_127 rfl rfl ?_
        refine wp_iconst 129 1 d_Mo_townPart_128 rfl (by decide) ?_
        refine wp_putfield 132 12 20 _ d_Mo_townPart_129 rfl fp_Mo_249 rfl rfl (fun _ => ⟨rfl, rfl⟩) ?_
        refine hEq (hM m_at m_names m_status m_top m_bottom m_sort m_trayMany m_trays m_tape m_text m_taped ((nI L)) ((gtF m_text L s.a).1) ((nI (gtF m_text L s.a).2.1)) ((nI (gtF m_text L s.a).2.2.1)) ((gtF m_text L s.a).2.2.2) m_faultKind m_faultPlace m_faults m_seen (1) m_opened m_depth m_counted m_eastBy m_northBy m_partBy m_wayFaults m_wayEast m_wayNorth m_olds m_wayMany m_oneOfSet m_twoOfSet m_farBy m_rowBy m_triedBy m_rowMany m_doneAt m_gotAt m_struckAt m_bestDeed m_misBy m_drawn m_ranSteps m_loops m_ran m_told1 m_isTold m_marks) rfl ?_
        refine wp_aload_n 133 d_Mo_townPart_132 rfl rfl ?_
        refine wp_V0 136 M_Mo_ahead 2 d_Mo_townPart_133 rfl mv_Mo_ahead lk_Mo_187 rfl rfl rfl rfl rfl ?_
        refine k_ahead (s := s) hL hb T ha (by rw [g2]; decide) ?_
        refine kV ?_
        refine wp_aload_n 137 d_Mo_townPart_136 rfl rfl ?_
        refine wp_sipush 140 1803 d_Mo_townPart_137 rfl (by decide) ?_
        refine wp_iconst 141 0 d_Mo_townPart_140 rfl (by decide) ?_
        refine wp_bipush 143 16 d_Mo_townPart_141 rfl (by decide) ?_
        refine wp_V3 146 M_Mo_number 3 d_Mo_townPart_143 rfl mv_Mo_number lk_Mo_222 rfl rfl rfl rfl rfl ?_
        refine k_number (s := cNx K s) (to_ := 1803) (x := 0) (y := 16) hL hb T (cNx_lt ha) hf (by omega) (fun n1 => ?_) (fun n8 => ?_)
        · refine kI ?_
          refine wp_if_eq 162 149 d_Mo_townPart_146 rfl (by decide) (fun h146 => ?_) (fun h146 => ?_)
          · exact absurd h146 (by decide)
          · refine wp_aload_n 150 d_Mo_townPart_149 rfl rfl ?_
            refine wp_bipush 152 59 d_Mo_townPart_150 rfl (by decide) ?_
            refine wp_V1 155 M_Mo_wantSign 3 d_Mo_townPart_152 rfl mv_Mo_wantSign lk_Mo_240 rfl rfl rfl rfl rfl ?_
            refine k_wantSign (s := (cNu K 0 16 (cNx K s)).2) (c := 59) hL hb T (cNu_lt (cNx_lt ha)) hf (fun n5 => ?_) (fun n9 => ?_)
            · refine kI ?_
              refine wp_if_eq 162 158 d_Mo_townPart_155 rfl (by decide) (fun h155 => ?_) (fun h155 => ?_)
              · exact absurd h155 (by decide)
              · refine wp_iconst 159 1 d_Mo_townPart_158 rfl (by decide) ?_
                refine wp_goto 163 d_Mo_townPart_159 (by decide) ?_
                refine wp_zreturn d_Mo_townPart_163 rfl (by first | rfl | exact nbP _) ?_
                have et : tPt K s t x = (true, (cNu K 0 16 (cNx K s)).2, tSo t (cNu K 0 16 (cNx K s)).2.tk, 1) := (tPt_0 hc).trans ((if_pos h118).trans (if_pos n1))
                have e := tSt_y et rfl
                rw [e] at hq1
                obtain ⟨v0, v1⟩ := cNu_in n1
                obtain ⟨k, k1, k2, k3⟩ := i32_in (m := 0) (n := 16) (by omega) (by omega) v0 v1
                refine hq1 n5 _ m_names (vT_82 (vT_odd V (v := (cNu K 0 16 (cNx K s)).2.tk) (by rw [k3]; exact inR_N (n := 17) (by omega) (by omega))) (fun j hj => ?_)) (NS_e N rfl rfl rfl rfl) (fun k hk => upd_ne (by omega)) (fun _ _ => rfl)
                show upd m_at 1803 (cNu K 0 16 (cNx K s)).2.tk (1800 + j) = upd (sh m_at) 3 (cNu K 0 16 (cNx K s)).2.tk j
                by_cases z : j = 3
                · rw [z, upd_at, upd_at]
                · rw [upd_ne z, upd_ne (by omega)]; rfl
            · refine kI ?_
              refine wp_if_eq 162 158 d_Mo_townPart_155 rfl (by decide) (fun h155 => ?_) (fun h155 => ?_)
              · refine wp_iconst 163 0 d_Mo_townPart_162 rfl (by decide) ?_
                refine wp_zreturn d_Mo_townPart_163 rfl (by first | rfl | exact nbP _) ?_
                have et : tPt K s t x = (true, (cNu K 0 16 (cNx K s)).2, tSo t (cNu K 0 16 (cNx K s)).2.tk, 1) := (tPt_0 hc).trans ((if_pos h118).trans (if_pos n1))
                have e := tSt_y et rfl
                rw [e] at hq0
                exact hq0 n9 _ m_names _ _ _ _ _ (fun k hk => upd_ne (by omega)) (fun _ _ => rfl)
              · exact absurd rfl h155
        · refine kI ?_
          refine wp_if_eq 162 149 d_Mo_townPart_146 rfl (by decide) (fun h146 => ?_) (fun h146 => ?_)
          · refine wp_iconst 163 0 d_Mo_townPart_162 rfl (by decide) ?_
            refine wp_zreturn d_Mo_townPart_163 rfl (by first | rfl | exact nbP _) ?_
            have et : tPt K s t x = (false, (cNu K 0 16 (cNx K s)).2, t, 1) := (tPt_0 hc).trans ((if_pos h118).trans (if_neg n8))
            have e := tSt_f et (show ¬ false = true by decide)
            rw [e] at hq0
            exact hq0 Bool.false_ne_true m_at m_names _ _ _ _ _ (fun _ _ => rfl) (fun _ _ => rfl)
          · exact absurd rfl h146
      · refine wp_aload_n 122 d_Mo_townPart_121 rfl rfl ?_
        refine wp_iconst 123 5 d_Mo_townPart_122 rfl (by decide) ?_
        refine wp_V1 126 M_Mo_fails 1 d_Mo_townPart_123 rfl mv_Mo_fails lk_Mo_193 rfl rfl rfl rfl rfl ?_
        refine k_fails (s := s) (c := 5) hL hb T ha hf (by rw [g2]; decide) ?_
        refine kI ?_
        refine wp_zreturn d_Mo_townPart_126 rfl (by first | rfl | exact nbP _) ?_
        have et : tPt K s t x = (false, cFl K 5 s, t, x) := (tPt_0 hc).trans (if_neg h118)
        have e := tSt_f et (show ¬ false = true by decide)
        rw [e] at hq0
        exact hq0 Bool.false_ne_true m_at m_names _ _ _ _ _ (fun _ _ => rfl) (fun _ _ => rfl)
    · refine wp_aload_n 17 d_Mo_townPart_16 rfl rfl ?_
      refine wp_iconst 18 2 d_Mo_townPart_17 rfl (by decide) ?_
      refine wp_V1 21 M_Mo_fails 1 d_Mo_townPart_18 rfl mv_Mo_fails lk_Mo_193 rfl rfl rfl rfl rfl ?_
      refine k_fails2 (s := s) hL hb T ha hf ?_
      refine kI ?_
      refine wp_zreturn d_Mo_townPart_21 rfl (by first | rfl | exact nbP _) ?_
      have hn : ∀ v : Nat, v < 4 → ¬ kwR m_text L s.a = nI v := fun v hv z => h13 (by rw [z]; exact (nI_leI (b := 3) (by omega) (by omega)).mpr (by omega))
      have e := tSt_f (K := K) (s := s) (t := t) (x := x) (tPt_n (fun z => hn 0 (by omega) (kv.1.mpr z)) (fun z => hn 1 (by omega) (kv.2.1.mpr z)) (fun z => hn 2 (by omega) (kv.2.2.1.mpr z)) (fun z => hn 3 (by omega) (kv.2.2.2.mpr z))) (show ¬ false = true by decide)
      rw [e] at hq0
      exact hq0 Bool.false_ne_true m_at m_names _ _ _ _ _ (fun _ _ => rfl) (fun _ _ => rfl)

end TAX
