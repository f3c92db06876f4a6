/-! ===== the reference: share ===== -/
theorem mulN (a b : Nat) : nI a * nI b = nI (a * b) := by
  apply Int32.toInt_inj.mp
  rw [Int32.toInt_mul]
  show Int.bmod ((Int32.ofNat a).toInt * (Int32.ofNat b).toInt) _ = (Int32.ofNat (a * b)).toInt
  rw [Int32.toInt_ofNat', Int32.toInt_ofNat', Int32.toInt_ofNat']
  simp
theorem aB_nn {e : Int32} (h : isPa e) : ∃ i, i ≤ 99 ∧ aB e = nI i := by
  have : ∀ i, i < 199 → ((if i ≤ 99 then 99 - i else i - 99) ≤ 99 ∧ aB (nI i - 99) = nI (if i ≤ 99 then 99 - i else i - 99)) := by decide +kernel
  obtain ⟨i, hi, rfl⟩ := paE h
  exact ⟨_, this i hi⟩
theorem yA_nn {t : TW} (I : tOK t) (J : tIn t) {l : Nat} (hl : l < t.nL) : ∃ m, m ≤ 594 ∧ yA t.ea t.no t.fa t.te l = nI m := by
  obtain ⟨p1, p2⟩ := J.2.2.2.2 l hl
  obtain ⟨i, hi, ei⟩ := aB_nn p1
  obtain ⟨j, hj, ej⟩ := aB_nn p2
  obtain ⟨s, hs3, es⟩ := sB_fin (J.2.1 _ (inR_lt (J.1 l hl).1 (by have := I.hW; omega)))
  refine ⟨(s + 1) * (i + j), ?_, ?_⟩
  · have h1 := Nat.mul_le_mul (show s + 1 ≤ 3 by omega) (show i + j ≤ 198 by omega)
    omega
  · unfold yA
    rw [es, ei, ej, nI_add, mulN]
theorem isum_bd {f : Nat → Int32} {B : Nat} : ∀ n, (∀ l, l < n → ∃ m, m ≤ B ∧ f l = nI m) → ∃ m, m ≤ n * B ∧ isum f n = nI m
  | 0, _ => ⟨0, by omega, rfl⟩
  | n + 1, h => by
    obtain ⟨a, ha, ea⟩ := isum_bd n (fun l hl => h l (by omega))
    obtain ⟨b, hb, eb⟩ := h n (by omega)
    refine ⟨a + b, ?_, ?_⟩
    · rw [Nat.succ_mul]; omega
    · simp only [isum]; rw [ea, eb, nI_add]
theorem sh_bd {t : TW} (I : tOK t) (J : tIn t) (p : Nat → Prop) [DecidablePred p] : ∃ m, m ≤ 7128 ∧ isum (fun l => if p l then yA t.ea t.no t.fa t.te l else 0) t.nL = nI m := by
  have hL := I.hL
  obtain ⟨m, hm, e⟩ := isum_bd (B := 594) (f := fun l => if p l then yA t.ea t.no t.fa t.te l else 0) t.nL (fun l hl => by
    by_cases z : p l
    · rw [if_pos z]; exact yA_nn I J hl
    · rw [if_neg z]; exact ⟨0, by omega, rfl⟩)
  refine ⟨m, ?_, e⟩
  have := Nat.mul_le_mul_right 594 hL
  omega
theorem frN {x y : Nat} (hy : 0 < y) (hx2 : x < 2 ^ 31) (hy2 : y < 2 ^ 31) : cdD 100 (nI x).toInt64 (nI y).toInt64 ∧ 0 < cdF (nI x).toInt64 (nI y).toInt64 := by
  have e1 : (nI x).toInt64.toInt = x := by rw [Int32.toInt_toInt64, nI_toInt hx2]
  have e2 : (nI y).toInt64.toInt = y := by rw [Int32.toInt_toInt64, nI_toInt hy2]
  exact gcd_ok (by omega) (by omega) (by omega)
theorem pos_ne {a : Int64} (h : 0 < a) : ¬ a = 0 := fun z => by rw [z] at h; exact Int64.lt_irrefl h
theorem told_iff {t : TW} (I : tOK t) {w : Int32} {l : Nat} (hl : l < t.nL) : hs (tTh t &&& iorr (fun l => if t.te l = w then bit (nI l) else 0) t.nL) (nI l) ↔ hs (tTh t) (nI l) ∧ t.te l = w := by
  have hL := I.hL
  rw [hs_and (by omega), hs_iorr (p := fun l => t.te l = w) (by omega) (by omega)]
  exact ⟨fun z => ⟨z.1, z.2.2⟩, fun z => ⟨z.1, hl, z.2⟩⟩
section T89
variable {Γ : Gm} {Q : Option Value → LH → Prop} {m_at m_sort m_trayMany m_tape m_text m_opened m_eastBy m_northBy m_partBy m_wayFaults m_wayEast m_wayNorth m_olds m_farBy m_rowBy m_triedBy m_doneAt m_gotAt m_struckAt m_bestDeed m_loops m_ran m_told1 : Nat → Int32} {m_names m_trays m_misBy : Nat → Int64} {m_status m_taped m_size m_token m_from m_end m_value m_faultKind m_faultPlace m_faults m_seen m_areOdds m_depth m_counted m_wayMany m_oneOfSet m_twoOfSet m_rowMany m_drawn m_ranSteps m_isTold m_marks : Int32} {m_top m_bottom : Int64} {t : TW}
set_option maxRecDepth 100000 in
set_option maxHeartbeats 4000000 in
theorem l_Mo_share_21 (V : vT m_at t) {w : Int32} (hn : t.nL ≤ 12) : ∀ (r i : Nat) (w5 : Option Value), i + r = t.nL → (∀ (x5 : Option Value) (n : Nat), WP Γ M_Mo_share 5 0 0 (hM m_at m_names m_status m_top m_bottom m_sort m_trayMany m_trays m_tape m_text m_taped m_size m_token m_from m_end m_value m_faultKind m_faultPlace m_faults m_seen m_areOdds m_opened m_depth m_counted m_eastBy m_northBy m_partBy m_wayFaults m_wayEast m_wayNorth m_olds m_wayMany m_oneOfSet m_twoOfSet m_farBy m_rowBy m_triedBy m_rowMany m_doneAt m_gotAt m_struckAt m_bestDeed m_misBy m_drawn m_ranSteps m_loops m_ran m_told1 m_isTold m_marks) 84 [some (.ref 0), some (.int w), some (.int (shB t w)), some (.int (shA t)), some (.int (nI t.nL)), x5] [] Q) → WP Γ M_Mo_share 5 0 0 (hM m_at m_names m_status m_top m_bottom m_sort m_trayMany m_trays m_tape m_text m_taped m_size m_token m_from m_end m_value m_faultKind m_faultPlace m_faults m_seen m_areOdds m_opened m_depth m_counted m_eastBy m_northBy m_partBy m_wayFaults m_wayEast m_wayNorth m_olds m_wayMany m_oneOfSet m_twoOfSet m_farBy m_rowBy m_triedBy m_rowMany m_doneAt m_gotAt m_struckAt m_bestDeed m_misBy m_drawn m_ranSteps m_loops m_ran m_told1 m_isTold m_marks) 21 [some (.ref 0), some (.int w), some (.int (isum (fun l => if hs (tTh t &&& iorr (fun l => if t.te l = w then bit (nI l) else 0) t.nL) (nI l) then yA t.ea t.no t.fa t.te l else 0) i)), some (.int (isum (fun l => if hs (tTh t) (nI l) then yA t.ea t.no t.fa t.te l else 0) i)), some (.int (nI i)), w5] [] Q := by
  intro r
  induction r with
  | zero =>
    intro i w5 hi hinv
    have hq := hinv
    refine wp_iload 23 d_Mo_share_21 rfl rfl ?_
    refine wp_aload_n 24 d_Mo_share_23 rfl rfl ?_
    refine wp_getfield 27 12 0 d_Mo_share_24 rfl fl_Mo_7 rfl rfl ?_
    refine wp_iconst 28 2 d_Mo_share_27 rfl (by decide) ?_
    refine wp_iaload 29 d_Mo_share_28 rfl rfl (vp_in_nI (n := 2) (N := 2332) (by omega) (by omega)) ?_
    rw [show m_at (2 : Int32).toNatClampNeg = nI t.nL from V.L]
    refine wp_icmp_ge 84 32 d_Mo_share_29 rfl (by decide) (fun h29 => ?_) (fun h29 => ?_)
    · have e : i = t.nL := by omega
      subst e
      exact hq _ 0
    · exact absurd ((nI_leI (a := t.nL) (by omega) (by omega)).mpr (by omega)) h29
  | succ r ih =>
    intro i w5 hi hinv
    have hq := hinv
    refine wp_iload 23 d_Mo_share_21 rfl rfl ?_
    refine wp_aload_n 24 d_Mo_share_23 rfl rfl ?_
    refine wp_getfield 27 12 0 d_Mo_share_24 rfl fl_Mo_7 rfl rfl ?_
    refine wp_iconst 28 2 d_Mo_share_27 rfl (by decide) ?_
    refine wp_iaload 29 d_Mo_share_28 rfl rfl (vp_in_nI (n := 2) (N := 2332) (by omega) (by omega)) ?_
    rw [show m_at (2 : Int32).toNatClampNeg = nI t.nL from V.L]
    refine wp_icmp_ge 84 32 d_Mo_share_29 rfl (by decide) (fun h29 => ?_) (fun h29 => ?_)
    · exact absurd (nI_leN (b := t.nL) h29 (by omega) (by omega)) (by omega)
    · refine wp_aload_n 33 d_Mo_share_32 rfl rfl ?_
      refine wp_iload 35 d_Mo_share_33 rfl rfl ?_
      refine wp_V1 38 M_Mo_counts 2 d_Mo_share_35 rfl mv_Mo_counts lk_Mo_300 rfl rfl rfl rfl rfl ?_
      refine c_Mo_counts V ?_
      refine kI ?_
      (first | refine wp_ifP_eq 50 41 d_Mo_share_38 rfl (by decide) (fun h38 => ?_) (fun h38 => ?_) | refine wp_if_eq 50 41 d_Mo_share_38 rfl (by decide) (fun h38 => ?_) (fun h38 => ?_))
      · refine wp_iconst 51 0 d_Mo_share_50 rfl (by decide) ?_
        refine wp_istore_5 53 d_Mo_share_51 rfl rfl rfl ?_
        refine wp_iload_n 54 d_Mo_share_53 rfl rfl ?_
        refine wp_aload_n 55 d_Mo_share_54 rfl rfl ?_
        refine wp_iload 57 d_Mo_share_55 rfl rfl ?_
        refine wp_iconst 58 0 d_Mo_share_57 rfl (by decide) ?_
        refine wp_V2 61 M_Mo_legOf 2 d_Mo_share_58 rfl mv_Mo_legOf lk_Mo_287 rfl rfl rfl rfl rfl ?_
        refine c_leg0 V (by omega) ?_
        refine kI ?_
        refine wp_iload_n 62 d_Mo_share_61 rfl rfl ?_
        refine wp_icmp_ne 70 65 d_Mo_share_62 rfl (by decide) (fun h62 => ?_) (fun h62 => ?_)
        · refine wp_iconst 71 0 d_Mo_share_70 rfl (by decide) ?_
          refine wp_iadd 72 d_Mo_share_71 rfl ?_
          refine wp_istore_2 73 d_Mo_share_72 rfl rfl rfl ?_
          refine wp_iload_n 74 d_Mo_share_73 rfl rfl ?_
          refine wp_iload 76 d_Mo_share_74 rfl rfl ?_
          refine wp_iadd 77 d_Mo_share_76 rfl ?_
          refine wp_istore_3 78 d_Mo_share_77 rfl rfl rfl ?_
          first | refine wp_iincN_4 81 d_Mo_share_78 rfl rfl rfl ?_ | refine wp_iinc_4 81 1 d_Mo_share_78 rfl (by decide) rfl rfl ?_
          refine wp_goto 21 d_Mo_share_81 (by decide) ?_
          refine qL2 ?_ (ih (i + 1) (some (.int 0)) (by omega) hq)
          simp only [isum]
          rw [if_neg (fun z => h38 ((moC_th V.ok (by omega)).mpr z)), if_neg (fun z => h38 ((moC_th V.ok (by omega)).mpr ((told_iff V.ok (by omega)).mp z).1))]
        · refine wp_iload 67 d_Mo_share_65 rfl rfl ?_
          refine wp_goto 71 d_Mo_share_67 (by decide) ?_
          refine wp_iadd 72 d_Mo_share_71 rfl ?_
          refine wp_istore_2 73 d_Mo_share_72 rfl rfl rfl ?_
          refine wp_iload_n 74 d_Mo_share_73 rfl rfl ?_
          refine wp_iload 76 d_Mo_share_74 rfl rfl ?_
          refine wp_iadd 77 d_Mo_share_76 rfl ?_
          refine wp_istore_3 78 d_Mo_share_77 rfl rfl rfl ?_
          first | refine wp_iincN_4 81 d_Mo_share_78 rfl rfl rfl ?_ | refine wp_iinc_4 81 1 d_Mo_share_78 rfl (by decide) rfl rfl ?_
          refine wp_goto 21 d_Mo_share_81 (by decide) ?_
          refine qL2 ?_ (ih (i + 1) (some (.int 0)) (by omega) hq)
          simp only [isum]
          rw [if_neg (fun z => h38 ((moC_th V.ok (by omega)).mpr z)), if_neg (fun z => h38 ((moC_th V.ok (by omega)).mpr ((told_iff V.ok (by omega)).mp z).1))]
      · refine wp_aload_n 42 d_Mo_share_41 rfl rfl ?_
        refine wp_iload 44 d_Mo_share_42 rfl rfl ?_
        refine wp_V1 47 M_Mo_yardsOf 4 d_Mo_share_44 rfl mv_Mo_yardsOf lk_Mo_375 rfl rfl rfl rfl rfl ?_
        refine c_Mo_yardsOf V (by omega) ?_
        rw [yY_eq V.ok V.in_ (by omega : i < t.nL)]
        refine kI ?_
        refine wp_goto 51 d_Mo_share_47 (by decide) ?_
        refine wp_istore_5 53 d_Mo_share_51 rfl rfl rfl ?_
        refine wp_iload_n 54 d_Mo_share_53 rfl rfl ?_
        refine wp_aload_n 55 d_Mo_share_54 rfl rfl ?_
        refine wp_iload 57 d_Mo_share_55 rfl rfl ?_
        refine wp_iconst 58 0 d_Mo_share_57 rfl (by decide) ?_
        refine wp_V2 61 M_Mo_legOf 2 d_Mo_share_58 rfl mv_Mo_legOf lk_Mo_287 rfl rfl rfl rfl rfl ?_
        refine c_leg0 V (by omega) ?_
        refine kI ?_
        refine wp_iload_n 62 d_Mo_share_61 rfl rfl ?_
        refine wp_icmp_ne 70 65 d_Mo_share_62 rfl (by decide) (fun h62 => ?_) (fun h62 => ?_)
        · refine wp_iconst 71 0 d_Mo_share_70 rfl (by decide) ?_
          refine wp_iadd 72 d_Mo_share_71 rfl ?_
          refine wp_istore_2 73 d_Mo_share_72 rfl rfl rfl ?_
          refine wp_iload_n 74 d_Mo_share_73 rfl rfl ?_
          refine wp_iload 76 d_Mo_share_74 rfl rfl ?_
          refine wp_iadd 77 d_Mo_share_76 rfl ?_
          refine wp_istore_3 78 d_Mo_share_77 rfl rfl rfl ?_
          first | refine wp_iincN_4 81 d_Mo_share_78 rfl rfl rfl ?_ | refine wp_iinc_4 81 1 d_Mo_share_78 rfl (by decide) rfl rfl ?_
          refine wp_goto 21 d_Mo_share_81 (by decide) ?_
          refine qL2 ?_ (ih (i + 1) (some (.int (yA t.ea t.no t.fa t.te i))) (by omega) hq)
          simp only [isum]
          rw [if_pos ((moC_th V.ok (by omega)).mp h38), if_neg (fun z => h62 ((told_iff V.ok (by omega)).mp z).2)]
        · refine wp_iload 67 d_Mo_share_65 rfl rfl ?_
          refine wp_goto 71 d_Mo_share_67 (by decide) ?_
          refine wp_iadd 72 d_Mo_share_71 rfl ?_
          refine wp_istore_2 73 d_Mo_share_72 rfl rfl rfl ?_
          refine wp_iload_n 74 d_Mo_share_73 rfl rfl ?_
          refine wp_iload 76 d_Mo_share_74 rfl rfl ?_
          refine wp_iadd 77 d_Mo_share_76 rfl ?_
          refine wp_istore_3 78 d_Mo_share_77 rfl rfl rfl ?_
          first | refine wp_iincN_4 81 d_Mo_share_78 rfl rfl rfl ?_ | refine wp_iinc_4 81 1 d_Mo_share_78 rfl (by decide) rfl rfl ?_
          refine wp_goto 21 d_Mo_share_81 (by decide) ?_
          refine qL2 ?_ (ih (i + 1) (some (.int (yA t.ea t.no t.fa t.te i))) (by omega) hq)
          simp only [isum]
          rw [if_pos ((moC_th V.ok (by omega)).mp h38), if_pos ((told_iff V.ok (by omega)).mpr ⟨(moC_th V.ok (by omega)).mp h38, h62⟩)]

set_option maxRecDepth 100000 in
set_option maxHeartbeats 4000000 in
theorem c_Mo_share {w : Int32} (V : vT m_at t) (hq0 : ∀ v : Int32, (¬ inR w (nI t.nW) ∧ v = 1) ∨ (inR w (nI t.nW) ∧ shA t = 0 ∧ v = 6) → Q (some (.int 0)) (hM m_at m_names (v) m_top m_bottom m_sort m_trayMany m_trays m_tape m_text m_taped m_size m_token m_from m_end m_value m_faultKind m_faultPlace m_faults m_seen m_areOdds m_opened m_depth m_counted m_eastBy m_northBy m_partBy m_wayFaults m_wayEast m_wayNorth m_olds m_wayMany m_oneOfSet m_twoOfSet m_farBy m_rowBy m_triedBy m_rowMany m_doneAt m_gotAt m_struckAt m_bestDeed m_misBy m_drawn m_ranSteps m_loops m_ran m_told1 m_isTold m_marks)) (hq1 : inR w (nI t.nW) → ¬ shA t = 0 → Q (some (.int 1)) (hM m_at m_names (0) ((shB t w).toInt64 / cdF (shB t w).toInt64 (shA t).toInt64) ((shA t).toInt64 / cdF (shB t w).toInt64 (shA t).toInt64) m_sort m_trayMany m_trays m_tape m_text m_taped m_size m_token m_from m_end m_value m_faultKind m_faultPlace m_faults m_seen m_areOdds m_opened m_depth m_counted m_eastBy m_northBy m_partBy m_wayFaults m_wayEast m_wayNorth m_olds m_wayMany m_oneOfSet m_twoOfSet m_farBy m_rowBy m_triedBy m_rowMany m_doneAt m_gotAt m_struckAt m_bestDeed m_misBy m_drawn m_ranSteps m_loops m_ran m_told1 m_isTold m_marks)) : Call Γ M_Mo_share 5 0 0 [.ref 0, .int w] (hM m_at m_names m_status m_top m_bottom m_sort m_trayMany m_trays m_tape m_text m_taped m_size m_token m_from m_end m_value m_faultKind m_faultPlace m_faults m_seen m_areOdds m_opened m_depth m_counted m_eastBy m_northBy m_partBy m_wayFaults m_wayEast m_wayNorth m_olds m_wayMany m_oneOfSet m_twoOfSet m_farBy m_rowBy m_triedBy m_rowMany m_doneAt m_gotAt m_struckAt m_bestDeed m_misBy m_drawn m_ranSteps m_loops m_ran m_told1 m_isTold m_marks) Q := by
  refine call_intro (ls := [some (.ref 0), some (.int w), none, none, none, none]) rfl rfl rfl ?_
  refine wp_aload_n 1 d_Mo_share_0 rfl rfl ?_
  refine wp_iload_n 2 d_Mo_share_1 rfl rfl ?_
  refine wp_V1 5 M_Mo_isWalker 1 d_Mo_share_2 rfl mv_Mo_isWalker lk_Mo_340 rfl rfl rfl rfl rfl ?_
  refine c_Mo_isWalker V ?_
  refine kI ?_
  (first | refine wp_ifP_ne 14 8 d_Mo_share_5 rfl (by decide) (fun h5 => ?_) (fun h5 => ?_) | refine wp_if_ne 14 8 d_Mo_share_5 rfl (by decide) (fun h5 => ?_) (fun h5 => ?_))
  · refine wp_iconst 15 0 d_Mo_share_14 rfl (by decide) ?_
    refine wp_istore_2 16 d_Mo_share_15 rfl rfl rfl ?_
    refine wp_iconst 17 0 d_Mo_share_16 rfl (by decide) ?_
    refine wp_istore_3 18 d_Mo_share_17 rfl rfl rfl ?_
    refine wp_iconst 19 0 d_Mo_share_18 rfl (by decide) ?_
    refine wp_istore_4 21 d_Mo_share_19 rfl rfl rfl ?_
    refine l_Mo_share_21 V V.ok.hL t.nL 0 none (by omega) (fun x5 _ => ?_)
    refine wp_iload_n 85 d_Mo_share_84 rfl rfl ?_
    refine wp_if_ne 97 88 d_Mo_share_85 rfl (by decide) (fun h85 => ?_) (fun h85 => ?_)
    · obtain ⟨xa, xa1, xa2⟩ := sh_bd V.ok V.in_ (fun l => hs (tTh t) (nI l))
      obtain ⟨xb, xb1, xb2⟩ := sh_bd V.ok V.in_ (fun l => hs (tTh t &&& iorr (fun l => if t.te l = w then bit (nI l) else 0) t.nL) (nI l))
      have ea : shA t = nI xa := xa2
      have eb : shB t w = nI xb := xb2
      have hxa : 0 < xa := Nat.pos_of_ne_zero (fun z => h85 (by rw [ea, z]; rfl))
      have hgc : cdD 100 (shB t w).toInt64 (shA t).toInt64 ∧ 0 < cdF (shB t w).toInt64 (shA t).toInt64 := by rw [ea, eb]; exact frN hxa (by omega) (by omega)
      refine wp_aload_n 98 d_Mo_share_97 rfl rfl ?_
      refine wp_iload_n 99 d_Mo_share_98 rfl rfl ?_
      refine wp_i2l 100 d_Mo_share_99 rfl ?_
      refine wp_iload_n 101 d_Mo_share_100 rfl rfl ?_
      refine wp_i2l 102 d_Mo_share_101 rfl ?_
      refine wp_V2 105 M_Mo_tellsBy 2 d_Mo_share_102 rfl mv_Mo_tellsBy lk_Mo_407 rfl rfl rfl rfl rfl ?_
      refine c_Mo_tellsBy hgc.1 (pos_ne hgc.2) ?_
      refine kI ?_
      refine wp_zreturn d_Mo_share_105 rfl (by first | rfl | exact nbP _) ?_
      exact hq1 h5 h85
    · refine wp_aload_n 89 d_Mo_share_88 rfl rfl ?_
      refine wp_bipush 91 6 d_Mo_share_89 rfl (by decide) ?_
      refine wp_V1 94 M_Mo_is 1 d_Mo_share_91 rfl mv_Mo_is lk_Mo_118 rfl rfl rfl rfl rfl ?_
      refine c_Mo_is ?_
      refine kI ?_
      refine wp_goto 105 d_Mo_share_94 (by decide) ?_
      refine wp_zreturn d_Mo_share_105 rfl (by first | rfl | exact nbP _) ?_
      rw [bP_f (by decide)]
      exact hq0 6 (Or.inr ⟨h5, h85, rfl⟩)
  · refine wp_aload_n 9 d_Mo_share_8 rfl rfl ?_
    refine wp_iconst 10 1 d_Mo_share_9 rfl (by decide) ?_
    refine wp_V1 13 M_Mo_is 1 d_Mo_share_10 rfl mv_Mo_is lk_Mo_118 rfl rfl rfl rfl rfl ?_
    refine c_Mo_is ?_
    refine kI ?_
    refine wp_zreturn d_Mo_share_13 rfl (by first | rfl | exact nbP _) ?_
    rw [bP_f (by decide)]
    exact hq0 1 (Or.inl ⟨h5, rfl⟩)

end T89
