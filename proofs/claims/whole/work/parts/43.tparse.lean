/-! ===== TownText: parse ===== -/
section T43
variable {Γ : Gm} {Q : Option Value → LH → Prop}
set_option maxRecDepth 100000 in
set_option maxHeartbeats 4000000 in
theorem c_TownText_takePart {tfe tle : Int32} {tby : Nat → Int32} {tco : Nat → Int64} {K : TK} {s : CS} {t : TW} {x : Int32} (ha : s.a < K.nT) (hK : K.nT ≤ 901) (hP : t.nP ≤ 7) (hW : t.nW ≤ 4) (hL : t.nL ≤ 12) (hq : Q (some (.int (bP ((tPt K s t x).1 = true)))) (hTX ((tPt K s t x).2.2.2) tby tco (K.ki) (K.st) (K.va) tfe tle (nI K.nT) (nI (tPt K s t x).2.1.a) (K.ki (tPt K s t x).2.1.a) (vlT (K.ki (tPt K s t x).2.1.a) (K.va (tPt K s t x).2.1.a)) (woT (K.ki (tPt K s t x).2.1.a) (K.va (tPt K s t x).2.1.a)) ((tPt K s t x).2.1.tk) ((tPt K s t x).2.1.na) ((tPt K s t x).2.1.fk) ((tPt K s t x).2.1.fp) ((tPt K s t x).2.2.1.pn) ((tPt K s t x).2.2.1.wn) ((tPt K s t x).2.2.1.fa) ((tPt K s t x).2.2.1.te) ((tPt K s t x).2.2.1.fr) ((tPt K s t x).2.2.1.to_) ((tPt K s t x).2.2.1.ea) ((tPt K s t x).2.2.1.no) (nI (tPt K s t x).2.2.1.nP) (nI (tPt K s t x).2.2.1.nW) (nI (tPt K s t x).2.2.1.nL) ((tPt K s t x).2.2.1.od) ((tPt K s t x).2.2.1.sk) ((tPt K s t x).2.2.1.sd) ((tPt K s t x).2.2.1.go))) : Call Γ M_TownText_takePart 6 0 0 [.ref 0] (hTX (x) tby tco (K.ki) (K.st) (K.va) tfe tle (nI K.nT) (nI s.a) (K.ki s.a) (vlT (K.ki s.a) (K.va s.a)) (woT (K.ki s.a) (K.va s.a)) (s.tk) (s.na) (s.fk) (s.fp) (t.pn) (t.wn) (t.fa) (t.te) (t.fr) (t.to_) (t.ea) (t.no) (nI t.nP) (nI t.nW) (nI t.nL) (t.od) (t.sk) (t.sd) (t.go)) Q := by
  refine call_intro (ls := [some (.ref 0)]) rfl rfl rfl ?_
  refine wp_aload_n 1 d_TownText_takePart_0 rfl rfl ?_
  refine wp_getfield 4 9 0 d_TownText_takePart_1 rfl fl_TownText_15 rfl rfl ?_
  refine wp_getfield 7 7 11 d_TownText_takePart_4 rfl fl_TownText_44 rfl rfl ?_
  by_cases h7_0 : woT (K.ki s.a) (K.va s.a) = 0
  · refine wp_tabIn (off := 41) 48 0 d_TownText_takePart_7 h7_0 (by decide) (by decide) (by decide) (by decide) ?_
    refine wp_aload_n 49 d_TownText_takePart_48 rfl rfl ?_
    refine wp_V0 52 M_TownText_takeOdds 4 d_TownText_takePart_49 rfl mv_TownText_takeOdds lk_TownText_48 rfl rfl rfl rfl rfl ?_
    refine c_TownText_takeOdds ha hK ?_
    refine kI ?_
    refine wp_zreturn d_TownText_takePart_52 rfl (by first | rfl | exact nbP _) ?_
    have e : (tPt K s t x) = _ := (if_pos h7_0)
    rw [e] at hq
    exact hq
  by_cases h7_1 : woT (K.ki s.a) (K.va s.a) = 1
  · refine wp_tabIn (off := 46) 53 1 d_TownText_takePart_7 h7_1 (by decide) (by decide) (by decide) (by decide) ?_
    refine wp_aload_n 54 d_TownText_takePart_53 rfl rfl ?_
    refine wp_V0 57 M_TownText_takePlace 5 d_TownText_takePart_54 rfl mv_TownText_takePlace lk_TownText_51 rfl rfl rfl rfl rfl ?_
    refine c_TownText_takePlace ha hK hP hW hL ?_
    refine kI ?_
    refine wp_zreturn d_TownText_takePart_57 rfl (by first | rfl | exact nbP _) ?_
    have e : (tPt K s t x) = _ := ((if_neg h7_0).trans (if_pos h7_1))
    rw [e] at hq
    exact hq
  by_cases h7_2 : woT (K.ki s.a) (K.va s.a) = 2
  · refine wp_tabIn (off := 51) 58 2 d_TownText_takePart_7 h7_2 (by decide) (by decide) (by decide) (by decide) ?_
    refine wp_aload_n 59 d_TownText_takePart_58 rfl rfl ?_
    refine wp_V0 62 M_TownText_takeWalker 5 d_TownText_takePart_59 rfl mv_TownText_takeWalker lk_TownText_54 rfl rfl rfl rfl rfl ?_
    refine c_TownText_takeWalker ha hK hP hW hL ?_
    refine kI ?_
    refine wp_zreturn d_TownText_takePart_62 rfl (by first | rfl | exact nbP _) ?_
    have e : (tPt K s t x) = _ := (((if_neg h7_0).trans (if_neg h7_1)).trans (if_pos h7_2))
    rw [e] at hq
    exact hq
  by_cases h7_3 : woT (K.ki s.a) (K.va s.a) = 3
  · refine wp_tabIn (off := 61) 68 3 d_TownText_takePart_7 h7_3 (by decide) (by decide) (by decide) (by decide) ?_
    refine wp_aload_n 69 d_TownText_takePart_68 rfl rfl ?_
    refine wp_getfield 72 9 0 d_TownText_takePart_69 rfl fl_TownText_15 rfl rfl ?_
    refine ws_V0 (b' := 0) 75 M_Text_cannotStand 2 [1, 2, 3, 4, 5, 6] ((hX tby tco (K.ki) (K.st) (K.va) tfe tle (nI K.nT) (nI s.a) (K.ki s.a) (vlT (K.ki s.a) (K.va s.a)) (woT (K.ki s.a) (K.va s.a)) (s.tk) (s.na) (s.fk) (s.fp))) d_TownText_takePart_72 rfl mv_Text_cannotStand lk_TownText_41 rfl rfl rfl rfl rfl rfl rfl rfl ?_
    refine s_Text_cannotStand ha hK ?_
    refine sI ?_
    simp only [putH, rC, sg, eV, List.map_cons, List.map_nil, List.set_cons_zero, List.set_cons_succ, List.length_cons, List.length_nil, List.getD_cons_zero, List.getD_cons_succ, Nat.zero_add, Nat.reduceAdd, Nat.reduceLT, if_true, ite_true]
    refine wp_zreturn d_TownText_takePart_75 rfl (by first | rfl | exact nbP _) ?_
    have e : (tPt K s t x) = _ := ((((if_neg h7_0).trans (if_neg h7_1)).trans (if_neg h7_2)).trans (if_neg (fun z => absurd (h7_3.symm.trans z) (by decide))))
    rw [e] at hq
    exact hq
  by_cases h7_4 : woT (K.ki s.a) (K.va s.a) = 4
  · refine wp_tabIn (off := 61) 68 4 d_TownText_takePart_7 h7_4 (by decide) (by decide) (by decide) (by decide) ?_
    refine wp_aload_n 69 d_TownText_takePart_68 rfl rfl ?_
    refine wp_getfield 72 9 0 d_TownText_takePart_69 rfl fl_TownText_15 rfl rfl ?_
    refine ws_V0 (b' := 0) 75 M_Text_cannotStand 2 [1, 2, 3, 4, 5, 6] ((hX tby tco (K.ki) (K.st) (K.va) tfe tle (nI K.nT) (nI s.a) (K.ki s.a) (vlT (K.ki s.a) (K.va s.a)) (woT (K.ki s.a) (K.va s.a)) (s.tk) (s.na) (s.fk) (s.fp))) d_TownText_takePart_72 rfl mv_Text_cannotStand lk_TownText_41 rfl rfl rfl rfl rfl rfl rfl rfl ?_
    refine s_Text_cannotStand ha hK ?_
    refine sI ?_
    simp only [putH, rC, sg, eV, List.map_cons, List.map_nil, List.set_cons_zero, List.set_cons_succ, List.length_cons, List.length_nil, List.getD_cons_zero, List.getD_cons_succ, Nat.zero_add, Nat.reduceAdd, Nat.reduceLT, if_true, ite_true]
    refine wp_zreturn d_TownText_takePart_75 rfl (by first | rfl | exact nbP _) ?_
    have e : (tPt K s t x) = _ := ((((if_neg h7_0).trans (if_neg h7_1)).trans (if_neg h7_2)).trans (if_neg (fun z => absurd (h7_4.symm.trans z) (by decide))))
    rw [e] at hq
    exact hq
  by_cases h7_5 : woT (K.ki s.a) (K.va s.a) = 5
  · refine wp_tabIn (off := 61) 68 5 d_TownText_takePart_7 h7_5 (by decide) (by decide) (by decide) (by decide) ?_
    refine wp_aload_n 69 d_TownText_takePart_68 rfl rfl ?_
    refine wp_getfield 72 9 0 d_TownText_takePart_69 rfl fl_TownText_15 rfl rfl ?_
    refine ws_V0 (b' := 0) 75 M_Text_cannotStand 2 [1, 2, 3, 4, 5, 6] ((hX tby tco (K.ki) (K.st) (K.va) tfe tle (nI K.nT) (nI s.a) (K.ki s.a) (vlT (K.ki s.a) (K.va s.a)) (woT (K.ki s.a) (K.va s.a)) (s.tk) (s.na) (s.fk) (s.fp))) d_TownText_takePart_72 rfl mv_Text_cannotStand lk_TownText_41 rfl rfl rfl rfl rfl rfl rfl rfl ?_
    refine s_Text_cannotStand ha hK ?_
    refine sI ?_
    simp only [putH, rC, sg, eV, List.map_cons, List.map_nil, List.set_cons_zero, List.set_cons_succ, List.length_cons, List.length_nil, List.getD_cons_zero, List.getD_cons_succ, Nat.zero_add, Nat.reduceAdd, Nat.reduceLT, if_true, ite_true]
    refine wp_zreturn d_TownText_takePart_75 rfl (by first | rfl | exact nbP _) ?_
    have e : (tPt K s t x) = _ := ((((if_neg h7_0).trans (if_neg h7_1)).trans (if_neg h7_2)).trans (if_neg (fun z => absurd (h7_5.symm.trans z) (by decide))))
    rw [e] at hq
    exact hq
  by_cases h7_6 : woT (K.ki s.a) (K.va s.a) = 6
  · refine wp_tabIn (off := 56) 63 6 d_TownText_takePart_7 h7_6 (by decide) (by decide) (by decide) (by decide) ?_
    refine wp_aload_n 64 d_TownText_takePart_63 rfl rfl ?_
    refine wp_V0 67 M_TownText_takeLeg 5 d_TownText_takePart_64 rfl mv_TownText_takeLeg lk_TownText_57 rfl rfl rfl rfl rfl ?_
    refine c_TownText_takeLeg ha hK hP hW hL ?_
    refine kI ?_
    refine wp_zreturn d_TownText_takePart_67 rfl (by first | rfl | exact nbP _) ?_
    have e : (tPt K s t x) = _ := ((((if_neg h7_0).trans (if_neg h7_1)).trans (if_neg h7_2)).trans (if_pos h7_6))
    rw [e] at hq
    exact hq
  refine wp_tabOut 68 d_TownText_takePart_7 (sw_out7 h7_0 h7_1 h7_2 h7_3 h7_4 h7_5 h7_6) (by decide) ?_
  refine wp_aload_n 69 d_TownText_takePart_68 rfl rfl ?_
  refine wp_getfield 72 9 0 d_TownText_takePart_69 rfl fl_TownText_15 rfl rfl ?_
  refine ws_V0 (b' := 0) 75 M_Text_cannotStand 2 [1, 2, 3, 4, 5, 6] ((hX tby tco (K.ki) (K.st) (K.va) tfe tle (nI K.nT) (nI s.a) (K.ki s.a) (vlT (K.ki s.a) (K.va s.a)) (woT (K.ki s.a) (K.va s.a)) (s.tk) (s.na) (s.fk) (s.fp))) d_TownText_takePart_72 rfl mv_Text_cannotStand lk_TownText_41 rfl rfl rfl rfl rfl rfl rfl rfl ?_
  refine s_Text_cannotStand ha hK ?_
  refine sI ?_
  simp only [putH, rC, sg, eV, List.map_cons, List.map_nil, List.set_cons_zero, List.set_cons_succ, List.length_cons, List.length_nil, List.getD_cons_zero, List.getD_cons_succ, Nat.zero_add, Nat.reduceAdd, Nat.reduceLT, if_true, ite_true]
  refine wp_zreturn d_TownText_takePart_75 rfl (by first | rfl | exact nbP _) ?_
  have e : (tPt K s t x) = _ := ((((if_neg h7_0).trans (if_neg h7_1)).trans (if_neg h7_2)).trans (if_neg h7_6))
  rw [e] at hq
  exact hq

set_option maxRecDepth 100000 in
set_option maxHeartbeats 4000000 in
theorem l_TownText_parse_9 {tfe tle : Int32} {tby : Nat → Int32} {tco : Nat → Int64} {K : TK} (hK : K.nT ≤ 901) : ∀ (r i : Nat) (s : CS) (t : TW) (x : Int32), i + r = 901 → (POk K s t ∧ Q (some (.int (bP ((prI K r s t x).1 = true)))) (hTX ((prI K r s t x).2.2.2) tby tco (K.ki) (K.st) (K.va) tfe tle (nI K.nT) (nI (prI K r s t x).2.1.a) (K.ki (prI K r s t x).2.1.a) (vlT (K.ki (prI K r s t x).2.1.a) (K.va (prI K r s t x).2.1.a)) (woT (K.ki (prI K r s t x).2.1.a) (K.va (prI K r s t x).2.1.a)) ((prI K r s t x).2.1.tk) ((prI K r s t x).2.1.na) ((prI K r s t x).2.1.fk) ((prI K r s t x).2.1.fp) ((prI K r s t x).2.2.1.pn) ((prI K r s t x).2.2.1.wn) ((prI K r s t x).2.2.1.fa) ((prI K r s t x).2.2.1.te) ((prI K r s t x).2.2.1.fr) ((prI K r s t x).2.2.1.to_) ((prI K r s t x).2.2.1.ea) ((prI K r s t x).2.2.1.no) (nI (prI K r s t x).2.2.1.nP) (nI (prI K r s t x).2.2.1.nW) (nI (prI K r s t x).2.2.1.nL) ((prI K r s t x).2.2.1.od) ((prI K r s t x).2.2.1.sk) ((prI K r s t x).2.2.1.sd) ((prI K r s t x).2.2.1.go))) → WP Γ M_TownText_parse 7 0 0 (hTX (x) tby tco (K.ki) (K.st) (K.va) tfe tle (nI K.nT) (nI s.a) (K.ki s.a) (vlT (K.ki s.a) (K.va s.a)) (woT (K.ki s.a) (K.va s.a)) (s.tk) (s.na) (s.fk) (s.fp) (t.pn) (t.wn) (t.fa) (t.te) (t.fr) (t.to_) (t.ea) (t.no) (nI t.nP) (nI t.nW) (nI t.nL) (t.od) (t.sk) (t.sd) (t.go)) 9 [some (.ref 0), some (.int (nI i))] [] Q := by
  intro r
  induction r with
  | zero =>
    intro i s t x hi hinv
    obtain ⟨hok, hq⟩ := hinv
    refine wp_iload_n 10 d_TownText_parse_9 rfl rfl ?_
    refine wp_sipush 13 900 d_TownText_parse_10 rfl (by decide) ?_
    refine wp_icmp_gt 55 16 d_TownText_parse_13 rfl (by decide) (fun h13 => ?_) (fun h13 => ?_)
    · refine wp_aload_n 56 d_TownText_parse_55 rfl rfl ?_
      refine wp_getfield 59 9 0 d_TownText_parse_56 rfl fl_TownText_15 rfl rfl ?_
      refine ws_V0 (b' := 0) 62 M_Text_cannotStand 2 [1, 2, 3, 4, 5, 6] ((hX tby tco (K.ki) (K.st) (K.va) tfe tle (nI K.nT) (nI s.a) (K.ki s.a) (vlT (K.ki s.a) (K.va s.a)) (woT (K.ki s.a) (K.va s.a)) (s.tk) (s.na) (s.fk) (s.fp))) d_TownText_parse_59 rfl mv_Text_cannotStand lk_TownText_41 rfl rfl rfl rfl rfl rfl rfl rfl ?_
      refine s_Text_cannotStand hok.1 hK ?_
      refine sI ?_
      simp only [putH, rC, sg, eV, List.map_cons, List.map_nil, List.set_cons_zero, List.set_cons_succ, List.length_cons, List.length_nil, List.getD_cons_zero, List.getD_cons_succ, Nat.zero_add, Nat.reduceAdd, Nat.reduceLT, if_true, ite_true]
      refine wp_zreturn d_TownText_parse_62 rfl (by first | rfl | exact nbP _) ?_
      exact hq
    · exact absurd ((nI_ltI (a := 900) (by omega) (by omega)).mpr (by omega)) h13
  | succ r ih =>
    intro i s t x hi hinv
    obtain ⟨hok, hq⟩ := hinv
    refine wp_iload_n 10 d_TownText_parse_9 rfl rfl ?_
    refine wp_sipush 13 900 d_TownText_parse_10 rfl (by decide) ?_
    refine wp_icmp_gt 55 16 d_TownText_parse_13 rfl (by decide) (fun h13 => ?_) (fun h13 => ?_)
    · exact absurd (nI_ltN (a := 900) h13 (by omega) (by omega)) (by omega)
    · refine wp_aload_n 17 d_TownText_parse_16 rfl rfl ?_
      refine wp_getfield 20 9 0 d_TownText_parse_17 rfl fl_TownText_15 rfl rfl ?_
      refine ws_V0 (b' := 0) 23 M_Text_atEnd 1 [1, 2, 3, 4, 5, 6] ((hX _ _ _ _ _ _ _ _ _ _ _ _ _ _ _ _)) d_TownText_parse_20 rfl mv_Text_atEnd lk_TownText_28 rfl rfl rfl rfl rfl rfl rfl rfl ?_
      refine c_Text_atEnd ?_
      refine sIr rfl rfl ?_
      (first | refine wp_ifP_eq 28 26 d_TownText_parse_23 rfl (by decide) (fun h23 => ?_) (fun h23 => ?_) | refine wp_if_eq 28 26 d_TownText_parse_23 rfl (by decide) (fun h23 => ?_) (fun h23 => ?_))
      · refine wp_aload_n 29 d_TownText_parse_28 rfl rfl ?_
        refine wp_V0 32 M_TownText_takePart 6 d_TownText_parse_29 rfl mv_TownText_takePart lk_TownText_34 rfl rfl rfl rfl rfl ?_
        refine c_TownText_takePart hok.1 hK hok.2.1 hok.2.2.1 hok.2.2.2 ?_
        refine kI ?_
        (first | refine wp_ifP_eq 47 35 d_TownText_parse_32 rfl (by decide) (fun h32 => ?_) (fun h32 => ?_) | refine wp_if_eq 47 35 d_TownText_parse_32 rfl (by decide) (fun h32 => ?_) (fun h32 => ?_))
        · refine wp_iconst 48 0 d_TownText_parse_47 rfl (by decide) ?_
          refine wp_zreturn d_TownText_parse_48 rfl (by first | rfl | exact nbP _) ?_
          have e : prI K (r + 1) s t x = _ := ((if_neg h23).trans (if_neg h32))
          rw [e] at hq
          exact hq
        · refine wp_aload_n 36 d_TownText_parse_35 rfl rfl ?_
          refine wp_getfield 39 9 0 d_TownText_parse_36 rfl fl_TownText_15 rfl rfl ?_
          refine wp_bipush 41 59 d_TownText_parse_39 rfl (by decide) ?_
          refine ws_V1 (b' := 0) 44 M_Text_takeSign 3 [1, 2, 3, 4, 5, 6] ((hX tby tco (K.ki) (K.st) (K.va) tfe tle (nI K.nT) (nI (tPt K s t x).2.1.a) (K.ki (tPt K s t x).2.1.a) (vlT (K.ki (tPt K s t x).2.1.a) (K.va (tPt K s t x).2.1.a)) (woT (K.ki (tPt K s t x).2.1.a) (K.va (tPt K s t x).2.1.a)) ((tPt K s t x).2.1.tk) ((tPt K s t x).2.1.na) ((tPt K s t x).2.1.fk) ((tPt K s t x).2.1.fp))) d_TownText_parse_41 rfl mv_Text_takeSign lk_TownText_37 rfl rfl rfl rfl rfl rfl rfl (eV_int _ _) rfl ?_
          refine s_Text_takeSign (tPt_ok hok).1 hK ?_
          refine sI ?_
          simp only [putH, rC, sg, eV, List.map_cons, List.map_nil, List.set_cons_zero, List.set_cons_succ, List.length_cons, List.length_nil, List.getD_cons_zero, List.getD_cons_succ, Nat.zero_add, Nat.reduceAdd, Nat.reduceLT, if_true, ite_true]
          (first | refine wp_ifP_ne 49 47 d_TownText_parse_44 rfl (by decide) (fun h44 => ?_) (fun h44 => ?_) | refine wp_if_ne 49 47 d_TownText_parse_44 rfl (by decide) (fun h44 => ?_) (fun h44 => ?_))
          · first | refine wp_iincN_1 52 d_TownText_parse_49 rfl rfl rfl ?_ | refine wp_iinc_1 52 1 d_TownText_parse_49 rfl (by decide) rfl rfl ?_
            refine wp_goto 9 d_TownText_parse_52 (by decide) ?_
            have e : prI K (r + 1) s t x = _ := (((if_neg h23).trans (if_pos h32)).trans (if_pos h44))
            rw [e] at hq
            exact ih (i + 1) _ _ _ (by omega) ⟨⟨cSg_lt (tPt_ok hok).1, (tPt_ok hok).2⟩, hq⟩
          · refine wp_iconst 48 0 d_TownText_parse_47 rfl (by decide) ?_
            refine wp_zreturn d_TownText_parse_48 rfl (by first | rfl | exact nbP _) ?_
            have e : prI K (r + 1) s t x = _ := (((if_neg h23).trans (if_pos h32)).trans (if_neg h44))
            rw [e] at hq
            exact hq
      · refine wp_iconst 27 1 d_TownText_parse_26 rfl (by decide) ?_
        refine wp_zreturn d_TownText_parse_27 rfl (by first | rfl | exact nbP _) ?_
        have e : prI K (r + 1) s t x = _ := (if_pos h23)
        rw [e] at hq
        exact hq

set_option maxRecDepth 100000 in
set_option maxHeartbeats 4000000 in
theorem c_TownText_parse {tfe tle : Int32} {tby : Nat → Int32} {tco : Nat → Int64} {K : TK} {s : CS} {t : TW} {x : Int32} (ha : s.a < K.nT) (hK : K.nT ≤ 901) (hq : Q (some (.int (bP ((prI K 901 s (tClr t) x).1 = true)))) (hTX ((prI K 901 s (tClr t) x).2.2.2) tby tco (K.ki) (K.st) (K.va) tfe tle (nI K.nT) (nI (prI K 901 s (tClr t) x).2.1.a) (K.ki (prI K 901 s (tClr t) x).2.1.a) (vlT (K.ki (prI K 901 s (tClr t) x).2.1.a) (K.va (prI K 901 s (tClr t) x).2.1.a)) (woT (K.ki (prI K 901 s (tClr t) x).2.1.a) (K.va (prI K 901 s (tClr t) x).2.1.a)) ((prI K 901 s (tClr t) x).2.1.tk) ((prI K 901 s (tClr t) x).2.1.na) ((prI K 901 s (tClr t) x).2.1.fk) ((prI K 901 s (tClr t) x).2.1.fp) ((prI K 901 s (tClr t) x).2.2.1.pn) ((prI K 901 s (tClr t) x).2.2.1.wn) ((prI K 901 s (tClr t) x).2.2.1.fa) ((prI K 901 s (tClr t) x).2.2.1.te) ((prI K 901 s (tClr t) x).2.2.1.fr) ((prI K 901 s (tClr t) x).2.2.1.to_) ((prI K 901 s (tClr t) x).2.2.1.ea) ((prI K 901 s (tClr t) x).2.2.1.no) (nI (prI K 901 s (tClr t) x).2.2.1.nP) (nI (prI K 901 s (tClr t) x).2.2.1.nW) (nI (prI K 901 s (tClr t) x).2.2.1.nL) ((prI K 901 s (tClr t) x).2.2.1.od) ((prI K 901 s (tClr t) x).2.2.1.sk) ((prI K 901 s (tClr t) x).2.2.1.sd) ((prI K 901 s (tClr t) x).2.2.1.go))) : Call Γ M_TownText_parse 7 0 0 [.ref 0] (hTX (x) tby tco (K.ki) (K.st) (K.va) tfe tle (nI K.nT) (nI s.a) (K.ki s.a) (vlT (K.ki s.a) (K.va s.a)) (woT (K.ki s.a) (K.va s.a)) (s.tk) (s.na) (s.fk) (s.fp) (t.pn) (t.wn) (t.fa) (t.te) (t.fr) (t.to_) (t.ea) (t.no) (nI t.nP) (nI t.nW) (nI t.nL) (t.od) (t.sk) (t.sd) (t.go)) Q := by
  refine call_intro (ls := [some (.ref 0), none]) rfl rfl rfl ?_
  refine wp_aload_n 1 d_TownText_parse_0 rfl rfl ?_
  refine wp_getfield 4 9 1 d_TownText_parse_1 rfl fl_TownText_19 rfl rfl ?_
  refine ws_V0 (b' := 0) 7 M_Town_clear 1 [7, 8, 9, 10, 11, 12, 13, 14, 15] ((hT _ _ _ _ _ _ _ _ _ _ _ _ _ _ _)) d_TownText_parse_4 rfl mv_Town_clear lk_TownText_23 rfl rfl rfl rfl rfl rfl rfl rfl ?_
  refine c_Town_clear ?_
  refine sV ?_
  simp only [putH, rC, sg, eV, List.map_cons, List.map_nil, List.set_cons_zero, List.set_cons_succ, List.length_cons, List.length_nil, List.getD_cons_zero, List.getD_cons_succ, Nat.zero_add, Nat.reduceAdd, Nat.reduceLT, if_true, ite_true]
  refine wp_iconst 8 0 d_TownText_parse_7 rfl (by decide) ?_
  refine wp_istore_1 9 d_TownText_parse_8 rfl rfl rfl ?_
  exact l_TownText_parse_9 hK 901 0 s (tClr t) x rfl ⟨⟨ha, Nat.zero_le _, Nat.zero_le _, Nat.zero_le _⟩, hq⟩

set_option maxRecDepth 100000 in
set_option maxHeartbeats 4000000 in
theorem c_TownText_init {c1 c2 : LC} (hq : Q none [cO 9 [.ref 1, .ref 2, .int 0], c1, c2]) : Call Γ M_TownText_init 1 0 0 [.ref 0, .ref 1, .ref 2] [cO 9 [.null, .null, .int 0], c1, c2] Q := by
  refine call_intro (ls := [some (.ref 0), some (.ref 1), some (.ref 2)]) rfl rfl rfl ?_
  refine wp_aload_n 1 d_TownText_init_0 rfl rfl ?_
  refine wp_objInit 4 d_TownText_init_1 rfl lo_TownText_3 oi_inst oi_code (by decide) (by decide) ?_
  refine wp_aload_n 5 d_TownText_init_4 rfl rfl ?_
  refine wp_iconst 6 0 d_TownText_init_5 rfl (by decide) ?_
  refine wp_putfield 9 9 2 _ d_TownText_init_6 rfl fp_TownText_9 rfl rfl (fun _ => ⟨rfl, rfl⟩) ?_
  dsimp only [List.set]
  refine wp_aload_n 10 d_TownText_init_9 rfl rfl ?_
  refine wp_aload_n 11 d_TownText_init_10 rfl rfl ?_
  refine wp_putfinal 14 9 0 _ d_TownText_init_11 rfl fp_TownText_15 rfl rfl rfl (fun _ => ⟨rfl, rfl⟩) ?_
  dsimp only [List.set]
  refine wp_aload_n 15 d_TownText_init_14 rfl rfl ?_
  refine wp_aload_n 16 d_TownText_init_15 rfl rfl ?_
  refine wp_putfinal 19 9 1 _ d_TownText_init_16 rfl fp_TownText_19 rfl rfl rfl (fun _ => ⟨rfl, rfl⟩) ?_
  dsimp only [List.set]
  refine wp_return d_TownText_init_19 rfl ?_
  exact hq

end T43
