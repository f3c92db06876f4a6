/-! ===== the reference: words ===== -/
def wsL : List Nat := [1, 6, 12, 19, 23, 30, 35, 42, 47, 52, 58, 64, 67, 74, 82, 90, 94, 99, 104, 108, 113, 116, 123, 130, 136]
def weL : List Nat := [5, 11, 18, 22, 29, 34, 41, 46, 51, 57, 63, 66, 73, 81, 89, 93, 98, 103, 107, 112, 115, 122, 129, 135]
def ws_ (n : Nat) : Nat := wsL.getD n 136
def we_ (n : Nat) : Nat := weL.getD n 0
set_option maxRecDepth 100000 in
theorem ww_t : ∀ n, n < 24 → (ws_ n ≤ we_ n ∧ we_ n < 136 ∧ ws_ (n + 1) = we_ n + 1 ∧ we_ n ≤ ws_ n + 16 ∧ blX 1 (we_ n) = 32) ∧ ∀ i, i < 16 → ws_ n + i < we_ n → ¬ blX 1 (ws_ n + i) = 32 := by decide +kernel
abbrev ekP (b : Nat → Int32) (L p K n : Nat) : Prop := we_ n - ws_ n = K ∧ ∀ i, i < K → blX 1 (ws_ n + i) = u8 b L (p + i)
/-- which word stands there -/
def inWF (b : Nat → Int32) (L p K : Nat) : Int32 := ffind (fun n => ekP b L p K n) 0 24
def inWT (tok : Int32) (b : Nat → Int32) (L p K : Nat) : Int32 := if tok = 2 then inWF b L p K else -1
section TAE
variable {Γ : Gm} {Q : Option Value → LH → Prop} {m_at m_sort m_trayMany m_tape m_text m_opened m_eastBy m_northBy m_partBy m_wayFaults m_wayEast m_wayNorth m_olds m_farBy m_rowBy m_triedBy m_doneAt m_gotAt m_struckAt m_bestDeed m_loops m_ran m_told1 : Nat → Int32} {m_names m_trays m_misBy : Nat → Int64} {m_status m_taped m_size m_token m_from m_end m_value m_faultKind m_faultPlace m_faults m_seen m_areOdds m_depth m_counted m_wayMany m_oneOfSet m_twoOfSet m_rowMany m_drawn m_ranSteps m_isTold m_marks : Int32} {m_top m_bottom : Int64} {L p K : Nat}
set_option maxRecDepth 100000 in
set_option maxHeartbeats 4000000 in
theorem l_Mo_inWords_25 {n : Nat} {w5 w6 : Option Value} (hn : n < 24) (hq : WP Γ M_Mo_inWords 6 0 0 (hM m_at m_names m_status m_top m_bottom m_sort m_trayMany m_trays m_tape m_text m_taped ((nI L)) m_token ((nI p)) ((nI (p + K))) m_value m_faultKind m_faultPlace m_faults m_seen m_areOdds m_opened m_depth m_counted m_eastBy m_northBy m_partBy m_wayFaults m_wayEast m_wayNorth m_olds m_wayMany m_oneOfSet m_twoOfSet m_farBy m_rowBy m_triedBy m_rowMany m_doneAt m_gotAt m_struckAt m_bestDeed m_misBy m_drawn m_ranSteps m_loops m_ran m_told1 m_isTold m_marks) 42 [some (.ref 0), some (.ref (XB + 1)), some (.int (nI n)), some (.int (nI (ws_ n))), some (.int (nI (we_ n))), w5, w6] [] Q) : ∀ (r i : Nat), i + r = we_ n → ws_ n ≤ i → WP Γ M_Mo_inWords 6 0 0 (hM m_at m_names m_status m_top m_bottom m_sort m_trayMany m_trays m_tape m_text m_taped ((nI L)) m_token ((nI p)) ((nI (p + K))) m_value m_faultKind m_faultPlace m_faults m_seen m_areOdds m_opened m_depth m_counted m_eastBy m_northBy m_partBy m_wayFaults m_wayEast m_wayNorth m_olds m_wayMany m_oneOfSet m_twoOfSet m_farBy m_rowBy m_triedBy m_rowMany m_doneAt m_gotAt m_struckAt m_bestDeed m_misBy m_drawn m_ranSteps m_loops m_ran m_told1 m_isTold m_marks) 25 [some (.ref 0), some (.ref (XB + 1)), some (.int (nI n)), some (.int (nI (ws_ n))), some (.int (nI i)), w5, w6] [] Q := by
  intro r
  have ⟨⟨f1, f2, f3, f4, f5⟩, f6⟩ := ww_t n hn
  induction r with
  | zero =>
    intro i hi h1
    refine wp_aload_n 26 d_Mo_inWords_25 rfl rfl ?_
    refine wp_iload 28 d_Mo_inWords_26 rfl rfl ?_
    refine wp_X1 31 M_JStr_charAt 4 (by decide : 1 < 2) d_Mo_inWords_28 rfl mv_JStr_charAt lk_Mo_177 rfl rfl rfl ?_
    refine c_JStr_charAt (by decide) (show i < lenX.getD 1 0 from by show i < 136; omega) ?_
    refine kI ?_
    refine wp_bipush 33 32 d_Mo_inWords_31 rfl (by decide) ?_
    refine wp_icmp_eq 42 36 d_Mo_inWords_33 rfl (by decide) (fun h33 => ?_) (fun h33 => ?_)
    · obtain rfl : i = we_ n := by omega
      exact hq
    · exact absurd (by rw [show i = we_ n by omega]; exact f5) h33
  | succ r ih =>
    intro i hi h1
    refine wp_aload_n 26 d_Mo_inWords_25 rfl rfl ?_
    refine wp_iload 28 d_Mo_inWords_26 rfl rfl ?_
    refine wp_X1 31 M_JStr_charAt 4 (by decide : 1 < 2) d_Mo_inWords_28 rfl mv_JStr_charAt lk_Mo_177 rfl rfl rfl ?_
    refine c_JStr_charAt (by decide) (show i < lenX.getD 1 0 from by show i < 136; omega) ?_
    refine kI ?_
    refine wp_bipush 33 32 d_Mo_inWords_31 rfl (by decide) ?_
    refine wp_icmp_eq 42 36 d_Mo_inWords_33 rfl (by decide) (fun h33 => ?_) (fun h33 => ?_)
    · exact absurd h33 (by rw [show i = ws_ n + (i - ws_ n) by omega]; exact f6 _ (by omega) (by omega))
    · first | refine wp_iincN_4 39 d_Mo_inWords_36 rfl rfl rfl ?_ | refine wp_iinc_4 39 1 d_Mo_inWords_36 rfl (by decide) rfl rfl ?_
      refine wp_goto 25 d_Mo_inWords_39 (by decide) ?_
      exact ih (i + 1) (by omega) (by omega)
set_option maxRecDepth 100000 in
set_option maxHeartbeats 4000000 in
theorem l_Mo_inWords_68n {n i : Nat} (hq : WP Γ M_Mo_inWords 6 0 0 (hM m_at m_names m_status m_top m_bottom m_sort m_trayMany m_trays m_tape m_text m_taped ((nI L)) m_token ((nI p)) ((nI (p + K))) m_value m_faultKind m_faultPlace m_faults m_seen m_areOdds m_opened m_depth m_counted m_eastBy m_northBy m_partBy m_wayFaults m_wayEast m_wayNorth m_olds m_wayMany m_oneOfSet m_twoOfSet m_farBy m_rowBy m_triedBy m_rowMany m_doneAt m_gotAt m_struckAt m_bestDeed m_misBy m_drawn m_ranSteps m_loops m_ran m_told1 m_isTold m_marks) 115 [some (.ref 0), some (.ref (XB + 1)), some (.int (nI n)), some (.int (nI (ws_ n))), some (.int (nI (we_ n))), some (.int 0), some (.int (nI i))] [] Q) : WP Γ M_Mo_inWords 6 0 0 (hM m_at m_names m_status m_top m_bottom m_sort m_trayMany m_trays m_tape m_text m_taped ((nI L)) m_token ((nI p)) ((nI (p + K))) m_value m_faultKind m_faultPlace m_faults m_seen m_areOdds m_opened m_depth m_counted m_eastBy m_northBy m_partBy m_wayFaults m_wayEast m_wayNorth m_olds m_wayMany m_oneOfSet m_twoOfSet m_farBy m_rowBy m_triedBy m_rowMany m_doneAt m_gotAt m_struckAt m_bestDeed m_misBy m_drawn m_ranSteps m_loops m_ran m_told1 m_isTold m_marks) 68 [some (.ref 0), some (.ref (XB + 1)), some (.int (nI n)), some (.int (nI (ws_ n))), some (.int (nI (we_ n))), some (.int 0), some (.int (nI i))] [] Q := by
  refine wp_iload 70 d_Mo_inWords_68 rfl rfl ?_
  refine wp_iload 72 d_Mo_inWords_70 rfl rfl ?_
  refine wp_icmp_ge 115 75 d_Mo_inWords_72 rfl (by decide) (fun h72 => ?_) (fun h72 => ?_)
  · exact hq
  · refine wp_iload 77 d_Mo_inWords_75 rfl rfl ?_
    refine wp_if_eq 115 80 d_Mo_inWords_77 rfl (by decide) (fun h77 => ?_) (fun h77 => ?_)
    · exact hq
    · exact absurd rfl h77
set_option maxRecDepth 100000 in
set_option maxHeartbeats 4000000 in
theorem l_Mo_inWords_68 {n : Nat} (hn : n < 24) (hL : L ≤ 900) (hp : p + K ≤ 900) (hK : we_ n - ws_ n = K) (h1 : ∀ i, (∀ j, j < we_ n - ws_ n → blX 1 (ws_ n + j) = u8 m_text L (p + j)) → WP Γ M_Mo_inWords 6 0 0 (hM m_at m_names m_status m_top m_bottom m_sort m_trayMany m_trays m_tape m_text m_taped ((nI L)) m_token ((nI p)) ((nI (p + K))) m_value m_faultKind m_faultPlace m_faults m_seen m_areOdds m_opened m_depth m_counted m_eastBy m_northBy m_partBy m_wayFaults m_wayEast m_wayNorth m_olds m_wayMany m_oneOfSet m_twoOfSet m_farBy m_rowBy m_triedBy m_rowMany m_doneAt m_gotAt m_struckAt m_bestDeed m_misBy m_drawn m_ranSteps m_loops m_ran m_told1 m_isTold m_marks) 115 [some (.ref 0), some (.ref (XB + 1)), some (.int (nI n)), some (.int (nI (ws_ n))), some (.int (nI (we_ n))), some (.int 1), some (.int (nI i))] [] Q) (h0 : ∀ i, ¬ (∀ j, j < we_ n - ws_ n → blX 1 (ws_ n + j) = u8 m_text L (p + j)) → WP Γ M_Mo_inWords 6 0 0 (hM m_at m_names m_status m_top m_bottom m_sort m_trayMany m_trays m_tape m_text m_taped ((nI L)) m_token ((nI p)) ((nI (p + K))) m_value m_faultKind m_faultPlace m_faults m_seen m_areOdds m_opened m_depth m_counted m_eastBy m_northBy m_partBy m_wayFaults m_wayEast m_wayNorth m_olds m_wayMany m_oneOfSet m_twoOfSet m_farBy m_rowBy m_triedBy m_rowMany m_doneAt m_gotAt m_struckAt m_bestDeed m_misBy m_drawn m_ranSteps m_loops m_ran m_told1 m_isTold m_marks) 115 [some (.ref 0), some (.ref (XB + 1)), some (.int (nI n)), some (.int (nI (ws_ n))), some (.int (nI (we_ n))), some (.int 0), some (.int (nI i))] [] Q) : ∀ (r i : Nat), i + r = we_ n → ws_ n ≤ i → (∀ j, j < i - ws_ n → blX 1 (ws_ n + j) = u8 m_text L (p + j)) → WP Γ M_Mo_inWords 6 0 0 (hM m_at m_names m_status m_top m_bottom m_sort m_trayMany m_trays m_tape m_text m_taped ((nI L)) m_token ((nI p)) ((nI (p + K))) m_value m_faultKind m_faultPlace m_faults m_seen m_areOdds m_opened m_depth m_counted m_eastBy m_northBy m_partBy m_wayFaults m_wayEast m_wayNorth m_olds m_wayMany m_oneOfSet m_twoOfSet m_farBy m_rowBy m_triedBy m_rowMany m_doneAt m_gotAt m_struckAt m_bestDeed m_misBy m_drawn m_ranSteps m_loops m_ran m_told1 m_isTold m_marks) 68 [some (.ref 0), some (.ref (XB + 1)), some (.int (nI n)), some (.int (nI (ws_ n))), some (.int (nI (we_ n))), some (.int 1), some (.int (nI i))] [] Q := by
  intro r
  have ⟨⟨f1, f2, f3, f4, f5⟩, f6⟩ := ww_t n hn
  induction r with
  | zero =>
    intro i hi hw he
    refine wp_iload 70 d_Mo_inWords_68 rfl rfl ?_
    refine wp_iload 72 d_Mo_inWords_70 rfl rfl ?_
    refine wp_icmp_ge 115 75 d_Mo_inWords_72 rfl (by decide) (fun h72 => ?_) (fun h72 => ?_)
    · exact h1 _ (fun j hj => he j (by omega))
    · exact absurd ((nI_leI (a := we_ n) (by omega) (by omega)).mpr (by omega)) h72
  | succ r ih =>
    intro i hi hw he
    refine wp_iload 70 d_Mo_inWords_68 rfl rfl ?_
    refine wp_iload 72 d_Mo_inWords_70 rfl rfl ?_
    refine wp_icmp_ge 115 75 d_Mo_inWords_72 rfl (by decide) (fun h72 => ?_) (fun h72 => ?_)
    · exact absurd (nI_leN (b := we_ n) h72 (by omega) (by omega)) (by omega)
    · refine wp_iload 77 d_Mo_inWords_75 rfl rfl ?_
      refine wp_if_eq 115 80 d_Mo_inWords_77 rfl (by decide) (fun h77 => ?_) (fun h77 => ?_)
      · exact absurd h77 (by decide)
      · refine wp_aload_n 81 d_Mo_inWords_80 rfl rfl ?_
        refine wp_iload 83 d_Mo_inWords_81 rfl rfl ?_
        refine wp_X1 86 M_JStr_charAt 4 (by decide : 1 < 2) d_Mo_inWords_83 rfl mv_JStr_charAt lk_Mo_177 rfl rfl rfl ?_
        refine c_JStr_charAt (by decide) (show i < lenX.getD 1 0 from by show i < 136; omega) ?_
        refine kI ?_
        refine wp_aload_n 87 d_Mo_inWords_86 rfl rfl ?_
        refine wp_aload_n 88 d_Mo_inWords_87 rfl rfl ?_
        refine wp_getfield 91 12 13 d_Mo_inWords_88 rfl fl_Mo_150 rfl rfl ?_
        refine wp_iload 93 d_Mo_inWords_91 rfl rfl ?_
        refine wp_iadd 94 d_Mo_inWords_93 rfl ?_
        rw [nI_add]
        refine wp_iload_n 95 d_Mo_inWords_94 rfl rfl ?_
        refine wp_isub 96 d_Mo_inWords_95 rfl ?_
        rw [nI_subN (by omega), show p + i - ws_ n = p + (i - ws_ n) by omega]
        refine wp_V1 99 M_Mo_byteAt 1 d_Mo_inWords_96 rfl mv_Mo_byteAt lk_Mo_147 rfl rfl rfl rfl rfl ?_
        refine c_Mo_byteAt (L := L) (k := p + (i - ws_ n)) hL (by omega) ?_
        refine kI ?_
        refine wp_icmp_ne 106 102 d_Mo_inWords_99 rfl (by decide) (fun h99 => ?_) (fun h99 => ?_)
        · refine wp_iconst 107 0 d_Mo_inWords_106 rfl (by decide) ?_
          refine wp_istore_5 109 d_Mo_inWords_107 rfl rfl rfl ?_
          first | refine wp_iincN_6 112 d_Mo_inWords_109 rfl rfl rfl ?_ | refine wp_iinc_6 112 1 d_Mo_inWords_109 rfl (by decide) rfl rfl ?_
          refine wp_goto 68 d_Mo_inWords_112 (by decide) ?_
          exact l_Mo_inWords_68n (h0 _ (fun z => h99 (by have y := z (i - ws_ n) (by omega); rw [show ws_ n + (i - ws_ n) = i by omega] at y; exact y)))
        · refine wp_iconst 103 1 d_Mo_inWords_102 rfl (by decide) ?_
          refine wp_goto 107 d_Mo_inWords_103 (by decide) ?_
          refine wp_istore_5 109 d_Mo_inWords_107 rfl rfl rfl ?_
          first | refine wp_iincN_6 112 d_Mo_inWords_109 rfl rfl rfl ?_ | refine wp_iinc_6 112 1 d_Mo_inWords_109 rfl (by decide) rfl rfl ?_
          refine wp_goto 68 d_Mo_inWords_112 (by decide) ?_
          exact ih (i + 1) (by omega) (by omega) (fun j hj => by
            by_cases z : j = i - ws_ n
            · rw [z, show ws_ n + (i - ws_ n) = i by omega]; exact h99
            · exact he j (by omega))
set_option maxRecDepth 100000 in
set_option maxHeartbeats 4000000 in
theorem l_Mo_inWords_14 (hL : L ≤ 900) (hp : p + K ≤ 900) : ∀ (r n : Nat) (w4 w5 w6 : Option Value), n + r = 24 → Q (some (.int (ffind (fun n => ekP m_text L p K n) n r))) (hM m_at m_names m_status m_top m_bottom m_sort m_trayMany m_trays m_tape m_text m_taped ((nI L)) m_token ((nI p)) ((nI (p + K))) m_value m_faultKind m_faultPlace m_faults m_seen m_areOdds m_opened m_depth m_counted m_eastBy m_northBy m_partBy m_wayFaults m_wayEast m_wayNorth m_olds m_wayMany m_oneOfSet m_twoOfSet m_farBy m_rowBy m_triedBy m_rowMany m_doneAt m_gotAt m_struckAt m_bestDeed m_misBy m_drawn m_ranSteps m_loops m_ran m_told1 m_isTold m_marks) → WP Γ M_Mo_inWords 6 0 0 (hM m_at m_names m_status m_top m_bottom m_sort m_trayMany m_trays m_tape m_text m_taped ((nI L)) m_token ((nI p)) ((nI (p + K))) m_value m_faultKind m_faultPlace m_faults m_seen m_areOdds m_opened m_depth m_counted m_eastBy m_northBy m_partBy m_wayFaults m_wayEast m_wayNorth m_olds m_wayMany m_oneOfSet m_twoOfSet m_farBy m_rowBy m_triedBy m_rowMany m_doneAt m_gotAt m_struckAt m_bestDeed m_misBy m_drawn m_ranSteps m_loops m_ran m_told1 m_isTold m_marks) 14 [some (.ref 0), some (.ref (XB + 1)), some (.int (nI n)), some (.int (nI (ws_ n))), w4, w5, w6] [] Q := by
  intro r
  induction r with
  | zero =>
    intro n w4 w5 w6 hi hq
    refine wp_iload_n 15 d_Mo_inWords_14 rfl rfl ?_
    refine wp_aload_n 16 d_Mo_inWords_15 rfl rfl ?_
    refine wp_X0 19 M_JStr_length 2 (by decide : 1 < 2) d_Mo_inWords_16 rfl mv_JStr_length lk_Mo_171 rfl rfl rfl ?_
    refine c_JStr_length (by decide) ?_
    refine kI ?_
    rw [show lenX.getD 1 0 = 136 from rfl]
    refine wp_icmp_ge 133 22 d_Mo_inWords_19 rfl (by decide) (fun h19 => ?_) (fun h19 => ?_)
    · refine wp_iconst 134 (-1) d_Mo_inWords_133 rfl (by decide) ?_
      refine wp_ireturn d_Mo_inWords_134 rfl ?_
      exact hq
    · exact absurd (by rw [show n = 24 by omega]; decide) h19
  | succ r ih =>
    intro n w4 w5 w6 hi hq
    have hn : n < 24 := by omega
    have ⟨⟨f1, f2, f3, f4, f5⟩, f6⟩ := ww_t n hn
    unfold ffind at hq
    refine wp_iload_n 15 d_Mo_inWords_14 rfl rfl ?_
    refine wp_aload_n 16 d_Mo_inWords_15 rfl rfl ?_
    refine wp_X0 19 M_JStr_length 2 (by decide : 1 < 2) d_Mo_inWords_16 rfl mv_JStr_length lk_Mo_171 rfl rfl rfl ?_
    refine c_JStr_length (by decide) ?_
    refine kI ?_
    rw [show lenX.getD 1 0 = 136 from rfl]
    refine wp_icmp_ge 133 22 d_Mo_inWords_19 rfl (by decide) (fun h19 => ?_) (fun h19 => ?_)
    · exact absurd (nI_leN (b := 136) h19 (by omega) (by omega)) (by omega)
    · refine wp_iload_n 23 d_Mo_inWords_22 rfl rfl ?_
      refine wp_istore_4 25 d_Mo_inWords_23 rfl rfl rfl ?_
      refine l_Mo_inWords_25 hn ?_ (we_ n - ws_ n) (ws_ n) (by omega) (Nat.le_refl _)
      refine wp_iload 44 d_Mo_inWords_42 rfl rfl ?_
      refine wp_iload_n 45 d_Mo_inWords_44 rfl rfl ?_
      refine wp_isub 46 d_Mo_inWords_45 rfl ?_
      rw [nI_subN (by omega)]
      refine wp_aload_n 47 d_Mo_inWords_46 rfl rfl ?_
      refine wp_getfield 50 12 14 d_Mo_inWords_47 rfl fl_Mo_144 rfl rfl ?_
      refine wp_aload_n 51 d_Mo_inWords_50 rfl rfl ?_
      refine wp_getfield 54 12 13 d_Mo_inWords_51 rfl fl_Mo_150 rfl rfl ?_
      refine wp_isub 55 d_Mo_inWords_54 rfl ?_
      rw [nI_subN (by omega), show p + K - p = K by omega]
      refine wp_icmp_ne 62 58 d_Mo_inWords_55 rfl (by decide) (fun h55 => ?_) (fun h55 => ?_)
      · refine wp_iconst 63 0 d_Mo_inWords_62 rfl (by decide) ?_
        refine wp_istore_5 65 d_Mo_inWords_63 rfl rfl rfl ?_
        refine wp_iload_n 66 d_Mo_inWords_65 rfl rfl ?_
        refine wp_istore_6 68 d_Mo_inWords_66 rfl rfl rfl ?_
        refine l_Mo_inWords_68n ?_
        have hk : ¬ ekP m_text L p K n := fun z => h55 (by rw [z.1])
        rw [if_neg hk] at hq
        refine wp_iload 117 d_Mo_inWords_115 rfl rfl ?_
        refine wp_if_eq 122 120 d_Mo_inWords_117 rfl (by decide) (fun h117 => ?_) (fun h117 => ?_)
        · first | refine wp_iincN_2 125 d_Mo_inWords_122 rfl rfl rfl ?_ | refine wp_iinc_2 125 1 d_Mo_inWords_122 rfl (by decide) rfl rfl ?_
          refine wp_iload 127 d_Mo_inWords_125 rfl rfl ?_
          refine wp_iconst 128 1 d_Mo_inWords_127 rfl (by decide) ?_
          refine wp_iadd 129 d_Mo_inWords_128 rfl ?_
          rw [nI_1, ← f3]
          refine wp_istore_3 130 d_Mo_inWords_129 rfl rfl rfl ?_
          refine wp_goto 14 d_Mo_inWords_130 (by decide) ?_
          refine ih (n + 1) _ _ _ (by omega) ?_
          exact hq
        · exact absurd rfl h117
      · refine wp_iconst 59 1 d_Mo_inWords_58 rfl (by decide) ?_
        refine wp_goto 63 d_Mo_inWords_59 (by decide) ?_
        refine wp_istore_5 65 d_Mo_inWords_63 rfl rfl rfl ?_
        refine wp_iload_n 66 d_Mo_inWords_65 rfl rfl ?_
        refine wp_istore_6 68 d_Mo_inWords_66 rfl rfl rfl ?_
        have hK : we_ n - ws_ n = K := nI_ij h55 (by omega) (by omega)
        refine l_Mo_inWords_68 hn hL hp hK (fun i he => ?_) (fun i he => ?_) (we_ n - ws_ n) (ws_ n) (by omega) (Nat.le_refl _) (fun j hj => absurd hj (by omega))
        · have hk : ekP m_text L p K n := ⟨hK, fun j hj => he j (by omega)⟩
          rw [if_pos hk] at hq
          refine wp_iload 117 d_Mo_inWords_115 rfl rfl ?_
          refine wp_if_eq 122 120 d_Mo_inWords_117 rfl (by decide) (fun h117 => ?_) (fun h117 => ?_)
          · exact absurd h117 (by decide)
          · refine wp_iload_n 121 d_Mo_inWords_120 rfl rfl ?_
            refine wp_ireturn d_Mo_inWords_121 rfl ?_
            exact hq
        · have hk : ¬ ekP m_text L p K n := fun z => he (fun j hj => z.2 j (by omega))
          rw [if_neg hk] at hq
          refine wp_iload 117 d_Mo_inWords_115 rfl rfl ?_
          refine wp_if_eq 122 120 d_Mo_inWords_117 rfl (by decide) (fun h117 => ?_) (fun h117 => ?_)
          · first | refine wp_iincN_2 125 d_Mo_inWords_122 rfl rfl rfl ?_ | refine wp_iinc_2 125 1 d_Mo_inWords_122 rfl (by decide) rfl rfl ?_
            refine wp_iload 127 d_Mo_inWords_125 rfl rfl ?_
            refine wp_iconst 128 1 d_Mo_inWords_127 rfl (by decide) ?_
            refine wp_iadd 129 d_Mo_inWords_128 rfl ?_
            rw [nI_1, ← f3]
            refine wp_istore_3 130 d_Mo_inWords_129 rfl rfl rfl ?_
            refine wp_goto 14 d_Mo_inWords_130 (by decide) ?_
            refine ih (n + 1) _ _ _ (by omega) ?_
            exact hq
          · exact absurd rfl h117
set_option maxRecDepth 100000 in
set_option maxHeartbeats 4000000 in
theorem c_Mo_inWords (hL : L ≤ 900) (hp : p + K ≤ 900) (hq : Q (some (.int (inWT m_token m_text L p K))) (hM m_at m_names m_status m_top m_bottom m_sort m_trayMany m_trays m_tape m_text m_taped ((nI L)) m_token ((nI p)) ((nI (p + K))) m_value m_faultKind m_faultPlace m_faults m_seen m_areOdds m_opened m_depth m_counted m_eastBy m_northBy m_partBy m_wayFaults m_wayEast m_wayNorth m_olds m_wayMany m_oneOfSet m_twoOfSet m_farBy m_rowBy m_triedBy m_rowMany m_doneAt m_gotAt m_struckAt m_bestDeed m_misBy m_drawn m_ranSteps m_loops m_ran m_told1 m_isTold m_marks)) : Call Γ M_Mo_inWords 6 0 0 [.ref 0, .ref (XB + 1)] (hM m_at m_names m_status m_top m_bottom m_sort m_trayMany m_trays m_tape m_text m_taped ((nI L)) m_token ((nI p)) ((nI (p + K))) m_value m_faultKind m_faultPlace m_faults m_seen m_areOdds m_opened m_depth m_counted m_eastBy m_northBy m_partBy m_wayFaults m_wayEast m_wayNorth m_olds m_wayMany m_oneOfSet m_twoOfSet m_farBy m_rowBy m_triedBy m_rowMany m_doneAt m_gotAt m_struckAt m_bestDeed m_misBy m_drawn m_ranSteps m_loops m_ran m_told1 m_isTold m_marks) Q := by
  refine call_intro (ls := [some (.ref 0), some (.ref (XB + 1)), none, none, none, none, none]) rfl rfl rfl ?_
  refine wp_aload_n 1 d_Mo_inWords_0 rfl rfl ?_
  refine wp_getfield 4 12 12 d_Mo_inWords_1 rfl fl_Mo_156 rfl rfl ?_
  refine wp_iconst 5 2 d_Mo_inWords_4 rfl (by decide) ?_
  refine wp_icmp_eq 10 8 d_Mo_inWords_5 rfl (by decide) (fun h5 => ?_) (fun h5 => ?_)
  · unfold inWT at hq
    rw [if_pos h5] at hq
    refine wp_iconst 11 0 d_Mo_inWords_10 rfl (by decide) ?_
    refine wp_istore_2 12 d_Mo_inWords_11 rfl rfl rfl ?_
    refine wp_iconst 13 1 d_Mo_inWords_12 rfl (by decide) ?_
    refine wp_istore_3 14 d_Mo_inWords_13 rfl rfl rfl ?_
    exact l_Mo_inWords_14 hL hp 24 0 none none none rfl hq
  · unfold inWT at hq
    rw [if_neg h5] at hq
    refine wp_iconst 9 (-1) d_Mo_inWords_8 rfl (by decide) ?_
    refine wp_ireturn d_Mo_inWords_9 rfl ?_
    exact hq

end TAE
