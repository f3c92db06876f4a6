/-! ===== the reference: WAY ===== -/
theorem iMin_N {a b : Nat} (ha : a < 2 ^ 31) (hb : b < 2 ^ 31) : iMin (nI a) (nI b) = nI (min a b) := by
  unfold iMin
  by_cases h : a ≤ b
  · rw [if_pos ((nI_leI ha hb).mpr h), Nat.min_eq_left h]
  · rw [if_neg (fun z => h ((nI_leI ha hb).mp z)), Nat.min_eq_right (by omega)]
theorem INF_e : (100000000 : Int32) = nI INF := rfl
theorem INF_v : INF = 100000000 := rfl
def oeV (t : TW) (l : Nat) (p : Int32) : Int32 := if t.fr l = p then t.to_ l else if t.to_ l = p then t.fr l else -1
theorem oe_jn {t : TW} (J : tIn t) {l p q : Nat} (hl : l < t.nL) (hq : q < 2 ^ 31) : oeV t l (nI p) = nI q ↔ ((t.fr l = nI p ∧ t.to_ l = nI q) ∨ (t.fr l = nI q ∧ t.to_ l = nI p)) := by
  have hne := (J.1 l hl).2.2.2
  unfold oeV
  by_cases h1 : t.fr l = nI p
  · rw [if_pos h1]
    constructor
    · intro z; exact Or.inl ⟨h1, z⟩
    · rintro (⟨-, z⟩ | ⟨-, z⟩)
      · exact z
      · exact absurd (h1.trans z.symm) hne
  · rw [if_neg h1]
    by_cases h2 : t.to_ l = nI p
    · rw [if_pos h2]
      constructor
      · intro z; exact Or.inr ⟨z, h2⟩
      · rintro (⟨z, -⟩ | ⟨z, -⟩)
        · exact absurd z h1
        · exact z
    · rw [if_neg h2]
      constructor
      · intro z; exact absurd z.symm (nI_ne1 hq)
      · rintro (⟨z, -⟩ | ⟨-, z⟩)
        · exact absurd z h1
        · exact absurd z h2
theorem mem_getD {pr : List Nat} {o : Nat} : o ∈ pr ↔ ∃ k, k < pr.length ∧ pr.getD k 0 = o := by
  constructor
  · intro h
    obtain ⟨k, hk, e⟩ := List.mem_iff_getElem.mp h
    refine ⟨k, hk, ?_⟩
    rw [List.getD_eq_getElem?_getD, List.getElem?_eq_getElem hk, e]; rfl
  · rintro ⟨k, hk, e⟩
    rw [List.getD_eq_getElem?_getD, List.getElem?_eq_getElem hk] at e
    rw [← e]
    exact List.getElem_mem hk
section TA1
variable {Γ : Gm} {Q : Option Value → LH → Prop} {m_at m_sort m_trayMany m_tape m_text m_opened m_eastBy m_northBy m_partBy m_wayFaults m_wayEast m_wayNorth m_olds m_farBy m_rowBy m_triedBy m_doneAt m_gotAt m_struckAt m_bestDeed m_loops m_ran m_told1 : Nat → Int32} {m_names m_trays m_misBy : Nat → Int64} {m_status m_taped m_size m_token m_from m_end m_value m_faultKind m_faultPlace m_faults m_seen m_areOdds m_depth m_counted m_wayMany m_oneOfSet m_twoOfSet m_rowMany m_drawn m_ranSteps m_isTold m_marks : Int32} {m_top m_bottom : Int64} {t : TW}
set_option maxRecDepth 100000 in
set_option maxHeartbeats 4000000 in
theorem l_Mo_laysFar_2 {g : Nat} (hg : g < 7) : ∀ (r i : Nat) (f : Nat → Int32), i + r = 7 → ((∀ j, j < i → f j = nI (far0 g j)) ∧ ∀ f2, (∀ j, j < 7 → f2 j = nI (far0 g j)) → WP Γ M_Mo_laysFar 5 0 0 (hM m_at m_names m_status m_top m_bottom m_sort m_trayMany m_trays m_tape m_text m_taped m_size m_token m_from m_end m_value m_faultKind m_faultPlace m_faults m_seen m_areOdds m_opened m_depth m_counted m_eastBy m_northBy m_partBy m_wayFaults m_wayEast m_wayNorth m_olds m_wayMany m_oneOfSet m_twoOfSet (f2) m_rowBy m_triedBy m_rowMany m_doneAt m_gotAt m_struckAt m_bestDeed m_misBy m_drawn m_ranSteps m_loops m_ran m_told1 m_isTold m_marks) 32 [some (.ref 0), some (.int (nI g)), some (.int (nI 7)), none, none, none] [] Q) → WP Γ M_Mo_laysFar 5 0 0 (hM m_at m_names m_status m_top m_bottom m_sort m_trayMany m_trays m_tape m_text m_taped m_size m_token m_from m_end m_value m_faultKind m_faultPlace m_faults m_seen m_areOdds m_opened m_depth m_counted m_eastBy m_northBy m_partBy m_wayFaults m_wayEast m_wayNorth m_olds m_wayMany m_oneOfSet m_twoOfSet (f) m_rowBy m_triedBy m_rowMany m_doneAt m_gotAt m_struckAt m_bestDeed m_misBy m_drawn m_ranSteps m_loops m_ran m_told1 m_isTold m_marks) 2 [some (.ref 0), some (.int (nI g)), some (.int (nI i)), none, none, none] [] Q := by
  intro r
  induction r with
  | zero =>
    intro i f hi hinv
    obtain ⟨hf, hq⟩ := hinv
    refine wp_iload_n 3 d_Mo_laysFar_2 rfl rfl ?_
    refine wp_bipush 5 7 d_Mo_laysFar_3 rfl (by decide) ?_
    refine wp_icmp_ge 32 8 d_Mo_laysFar_5 rfl (by decide) (fun h5 => ?_) (fun h5 => ?_)
    · have e : i = 7 := by omega
      subst e
      exact hq f hf
    · exact absurd ((nI_leI (a := 7) (by omega) (by omega)).mpr (by omega)) h5
  | succ r ih =>
    intro i f hi hinv
    obtain ⟨hf, hq⟩ := hinv
    refine wp_iload_n 3 d_Mo_laysFar_2 rfl rfl ?_
    refine wp_bipush 5 7 d_Mo_laysFar_3 rfl (by decide) ?_
    refine wp_icmp_ge 32 8 d_Mo_laysFar_5 rfl (by decide) (fun h5 => ?_) (fun h5 => ?_)
    · exact absurd (nI_leN (b := 7) h5 (by omega) (by omega)) (by omega)
    · refine wp_aload_n 9 d_Mo_laysFar_8 rfl rfl ?_
      refine wp_getfield 12 12 34 d_Mo_laysFar_9 rfl fl_Mo_68 rfl rfl ?_
      refine wp_iload_n 13 d_Mo_laysFar_12 rfl rfl ?_
      refine wp_iload_n 14 d_Mo_laysFar_13 rfl rfl ?_
      refine wp_iload_n 15 d_Mo_laysFar_14 rfl rfl ?_
      refine wp_icmp_ne 22 18 d_Mo_laysFar_15 rfl (by decide) (fun h15 => ?_) (fun h15 => ?_)
      · refine wp_ldcw 25 (100000000 : Int32) d_Mo_laysFar_22 rfl ct_Mo_418 ?_
        refine wp_iastoreN 26 d_Mo_laysFar_25 rfl rfl rfl (by omega) ?_
        refine hEq (hM m_at m_names m_status m_top m_bottom m_sort m_trayMany m_trays m_tape m_text m_taped m_size m_token m_from m_end m_value m_faultKind m_faultPlace m_faults m_seen m_areOdds m_opened m_depth m_counted m_eastBy m_northBy m_partBy m_wayFaults m_wayEast m_wayNorth m_olds m_wayMany m_oneOfSet m_twoOfSet (upd f i 100000000) m_rowBy m_triedBy m_rowMany m_doneAt m_gotAt m_struckAt m_bestDeed m_misBy m_drawn m_ranSteps m_loops m_ran m_told1 m_isTold m_marks) rfl ?_
        first | refine wp_iincN_2 29 d_Mo_laysFar_26 rfl rfl rfl ?_ | refine wp_iinc_2 29 1 d_Mo_laysFar_26 rfl (by decide) rfl rfl ?_
        refine wp_goto 2 d_Mo_laysFar_29 (by decide) ?_
        refine ih (i + 1) (upd f i 100000000) (by omega) ⟨fun j hj => ?_, hq⟩
        by_cases z : j = i
        · subst z; rw [upd_at]; show _ = nI (far0 g j)
          unfold far0
          rw [if_neg (fun y => h15 (by rw [y]))]; exact INF_e
        · rw [upd_ne z]; exact hf j (by omega)
      · refine wp_iconst 19 0 d_Mo_laysFar_18 rfl (by decide) ?_
        refine wp_goto 25 d_Mo_laysFar_19 (by decide) ?_
        refine wp_iastoreN 26 d_Mo_laysFar_25 rfl rfl rfl (by omega) ?_
        refine hEq (hM m_at m_names m_status m_top m_bottom m_sort m_trayMany m_trays m_tape m_text m_taped m_size m_token m_from m_end m_value m_faultKind m_faultPlace m_faults m_seen m_areOdds m_opened m_depth m_counted m_eastBy m_northBy m_partBy m_wayFaults m_wayEast m_wayNorth m_olds m_wayMany m_oneOfSet m_twoOfSet (upd f i 0) m_rowBy m_triedBy m_rowMany m_doneAt m_gotAt m_struckAt m_bestDeed m_misBy m_drawn m_ranSteps m_loops m_ran m_told1 m_isTold m_marks) rfl ?_
        first | refine wp_iincN_2 29 d_Mo_laysFar_26 rfl rfl rfl ?_ | refine wp_iinc_2 29 1 d_Mo_laysFar_26 rfl (by decide) rfl rfl ?_
        refine wp_goto 2 d_Mo_laysFar_29 (by decide) ?_
        refine ih (i + 1) (upd f i 0) (by omega) ⟨fun j hj => ?_, hq⟩
        by_cases z : j = i
        · subst z; rw [upd_at]; show _ = nI (far0 g j)
          unfold far0
          rw [if_pos (nI_ij h15 (by omega) (by omega))]; rfl
        · rw [upd_ne z]; exact hf j (by omega)

set_option maxRecDepth 100000 in
set_option maxHeartbeats 4000000 in
theorem l_Mo_laysFar_42 (V : vT m_at t) {g k : Nat} (hL : t.nL ≤ 12) : ∀ (r i : Nat) (f : Nat → Int32) (far : Nat → Nat) (w4 w5 : Option Value), i + r = t.nL → ((∀ p, p < 7 → f p = nI (far p)) ∧ (∀ p, far p ≤ INF) ∧ ∀ (f2 : Nat → Int32) (x4 x5 : Option Value), (∀ p, p < 7 → f2 p = nI (iterN (rx t) r i far p)) → WP Γ M_Mo_laysFar 5 0 0 (hM m_at m_names m_status m_top m_bottom m_sort m_trayMany m_trays m_tape m_text m_taped m_size m_token m_from m_end m_value m_faultKind m_faultPlace m_faults m_seen m_areOdds m_opened m_depth m_counted m_eastBy m_northBy m_partBy m_wayFaults m_wayEast m_wayNorth m_olds m_wayMany m_oneOfSet m_twoOfSet (f2) m_rowBy m_triedBy m_rowMany m_doneAt m_gotAt m_struckAt m_bestDeed m_misBy m_drawn m_ranSteps m_loops m_ran m_told1 m_isTold m_marks) 145 [some (.ref 0), some (.int (nI g)), some (.int (nI k)), some (.int (nI t.nL)), x4, x5] [] Q) → WP Γ M_Mo_laysFar 5 0 0 (hM m_at m_names m_status m_top m_bottom m_sort m_trayMany m_trays m_tape m_text m_taped m_size m_token m_from m_end m_value m_faultKind m_faultPlace m_faults m_seen m_areOdds m_opened m_depth m_counted m_eastBy m_northBy m_partBy m_wayFaults m_wayEast m_wayNorth m_olds m_wayMany m_oneOfSet m_twoOfSet (f) m_rowBy m_triedBy m_rowMany m_doneAt m_gotAt m_struckAt m_bestDeed m_misBy m_drawn m_ranSteps m_loops m_ran m_told1 m_isTold m_marks) 42 [some (.ref 0), some (.int (nI g)), some (.int (nI k)), some (.int (nI i)), w4, w5] [] Q := by
  intro r
  induction r with
  | zero =>
    intro i f far w4 w5 hi hinv
    obtain ⟨hf, hc, hq⟩ := hinv
    refine wp_iload_n 43 d_Mo_laysFar_42 rfl rfl ?_
    refine wp_aload_n 44 d_Mo_laysFar_43 rfl rfl ?_
    refine wp_getfield 47 12 0 d_Mo_laysFar_44 rfl fl_Mo_7 rfl rfl ?_
    refine wp_iconst 48 2 d_Mo_laysFar_47 rfl (by decide) ?_
    refine wp_iaload 49 d_Mo_laysFar_48 rfl rfl (vp_in_nI (n := 2) (N := 2332) (by omega) (by omega)) ?_
    rw [show m_at (2 : Int32).toNatClampNeg = nI t.nL from V.L]
    refine wp_icmp_ge 145 52 d_Mo_laysFar_49 rfl (by decide) (fun h49 => ?_) (fun h49 => ?_)
    · have e : i = t.nL := by omega
      subst e
      exact hq f _ _ hf
    · exact absurd ((nI_leI (a := t.nL) (by omega) (by omega)).mpr (by omega)) h49
  | succ r ih =>
    intro i f far w4 w5 hi hinv
    obtain ⟨hf, hc, hq⟩ := hinv
    refine wp_iload_n 43 d_Mo_laysFar_42 rfl rfl ?_
    refine wp_aload_n 44 d_Mo_laysFar_43 rfl rfl ?_
    refine wp_getfield 47 12 0 d_Mo_laysFar_44 rfl fl_Mo_7 rfl rfl ?_
    refine wp_iconst 48 2 d_Mo_laysFar_47 rfl (by decide) ?_
    refine wp_iaload 49 d_Mo_laysFar_48 rfl rfl (vp_in_nI (n := 2) (N := 2332) (by omega) (by omega)) ?_
    rw [show m_at (2 : Int32).toNatClampNeg = nI t.nL from V.L]
    refine wp_icmp_ge 145 52 d_Mo_laysFar_49 rfl (by decide) (fun h49 => ?_) (fun h49 => ?_)
    · exact absurd (nI_leN (b := t.nL) h49 (by omega) (by omega)) (by omega)
    · refine wp_aload_n 53 d_Mo_laysFar_52 rfl rfl ?_
      refine wp_iload_n 54 d_Mo_laysFar_53 rfl rfl ?_
      refine wp_V1 57 M_Mo_counts 2 d_Mo_laysFar_54 rfl mv_Mo_counts lk_Mo_300 rfl rfl rfl rfl rfl ?_
      refine c_Mo_counts V ?_
      refine kI ?_
      (first | refine wp_ifP_ne 63 60 d_Mo_laysFar_57 rfl (by decide) (fun h57 => ?_) (fun h57 => ?_) | refine wp_if_ne 63 60 d_Mo_laysFar_57 rfl (by decide) (fun h57 => ?_) (fun h57 => ?_))
      · obtain ⟨a, b, ha, hb, hab, ea, eb, er⟩ := rx_c V.ok V.in_ (show i < t.nL by omega) (far := far) ((moC_th V.ok (by omega)).mp h57)
        obtain ⟨ew, ew2⟩ := wtN_ok V.ok V.in_ (show i < t.nL by omega)
        have hP7 := V.ok.hP
        have ca := hc a
        have cb := hc b
        have hI := INF_v
        refine wp_aload_n 64 d_Mo_laysFar_63 rfl rfl ?_
        refine wp_iload_n 65 d_Mo_laysFar_64 rfl rfl ?_
        refine wp_iconst 66 1 d_Mo_laysFar_65 rfl (by decide) ?_
        refine wp_V2 69 M_Mo_legOf 2 d_Mo_laysFar_66 rfl mv_Mo_legOf lk_Mo_287 rfl rfl rfl rfl rfl ?_
        refine c_leg1 V (by omega) ?_
        refine kI ?_
        rw [ea]
        refine wp_istore_4 71 d_Mo_laysFar_69 rfl rfl rfl ?_
        refine wp_aload_n 72 d_Mo_laysFar_71 rfl rfl ?_
        refine wp_iload_n 73 d_Mo_laysFar_72 rfl rfl ?_
        refine wp_iconst 74 2 d_Mo_laysFar_73 rfl (by decide) ?_
        refine wp_V2 77 M_Mo_legOf 2 d_Mo_laysFar_74 rfl mv_Mo_legOf lk_Mo_287 rfl rfl rfl rfl rfl ?_
        refine c_leg2 V (by omega) ?_
        refine kI ?_
        rw [eb]
        refine wp_istore_5 79 d_Mo_laysFar_77 rfl rfl rfl ?_
        refine wp_aload_n 80 d_Mo_laysFar_79 rfl rfl ?_
        refine wp_getfield 83 12 34 d_Mo_laysFar_80 rfl fl_Mo_68 rfl rfl ?_
        refine wp_iload 85 d_Mo_laysFar_83 rfl rfl ?_
        refine wp_aload_n 86 d_Mo_laysFar_85 rfl rfl ?_
        refine wp_getfield 89 12 34 d_Mo_laysFar_86 rfl fl_Mo_68 rfl rfl ?_
        refine wp_iload 91 d_Mo_laysFar_89 rfl rfl ?_
        refine wp_ialoadN 92 d_Mo_laysFar_91 rfl rfl rfl (by omega) ?_
        rw [hf a (by omega)]
        refine wp_aload_n 93 d_Mo_laysFar_92 rfl rfl ?_
        refine wp_getfield 96 12 34 d_Mo_laysFar_93 rfl fl_Mo_68 rfl rfl ?_
        refine wp_iload 98 d_Mo_laysFar_96 rfl rfl ?_
        refine wp_ialoadN 99 d_Mo_laysFar_98 rfl rfl rfl (by omega) ?_
        rw [hf b (by omega)]
        refine wp_aload_n 100 d_Mo_laysFar_99 rfl rfl ?_
        refine wp_iload_n 101 d_Mo_laysFar_100 rfl rfl ?_
        refine wp_V1 104 M_Mo_yardsOf 4 d_Mo_laysFar_101 rfl mv_Mo_yardsOf lk_Mo_375 rfl rfl rfl rfl rfl ?_
        refine c_Mo_yardsOf V (by omega) ?_
        refine kI ?_
        rw [yY_eq V.ok V.in_ (by omega : i < t.nL), ew]
        refine wp_iadd 105 d_Mo_laysFar_104 rfl ?_
        rw [show nI (far b) + nI (wtN t i) = nI (far b + wtN t i) from nI_add _ _]
        refine wp_S2 108 M_JMath_min 1 d_Mo_laysFar_105 rfl ms_JMath_min lk_Mo_166 rfl rfl ?_
        refine c_JMath_min ?_
        refine kI ?_
        rw [iMin_N (by omega) (by omega)]
        refine wp_iastoreN 109 d_Mo_laysFar_108 rfl rfl rfl (by omega) ?_
        refine hEq (hM m_at m_names m_status m_top m_bottom m_sort m_trayMany m_trays m_tape m_text m_taped m_size m_token m_from m_end m_value m_faultKind m_faultPlace m_faults m_seen m_areOdds m_opened m_depth m_counted m_eastBy m_northBy m_partBy m_wayFaults m_wayEast m_wayNorth m_olds m_wayMany m_oneOfSet m_twoOfSet (upd f a (nI (min (far a) (far b + wtN t i)))) m_rowBy m_triedBy m_rowMany m_doneAt m_gotAt m_struckAt m_bestDeed m_misBy m_drawn m_ranSteps m_loops m_ran m_told1 m_isTold m_marks) rfl ?_
        refine wp_aload_n 110 d_Mo_laysFar_109 rfl rfl ?_
        refine wp_getfield 113 12 34 d_Mo_laysFar_110 rfl fl_Mo_68 rfl rfl ?_
        refine wp_iload 115 d_Mo_laysFar_113 rfl rfl ?_
        refine wp_aload_n 116 d_Mo_laysFar_115 rfl rfl ?_
        refine wp_getfield 119 12 34 d_Mo_laysFar_116 rfl fl_Mo_68 rfl rfl ?_
        refine wp_iload 121 d_Mo_laysFar_119 rfl rfl ?_
        refine wp_ialoadN 122 d_Mo_laysFar_121 rfl rfl rfl (by omega) ?_
        rw [show upd f a (nI (min (far a) (far b + wtN t i))) b = nI (far b) from (if_neg (fun z => hab z.symm)).trans (hf b (by omega))]
        refine wp_aload_n 123 d_Mo_laysFar_122 rfl rfl ?_
        refine wp_getfield 126 12 34 d_Mo_laysFar_123 rfl fl_Mo_68 rfl rfl ?_
        refine wp_iload 128 d_Mo_laysFar_126 rfl rfl ?_
        refine wp_ialoadN 129 d_Mo_laysFar_128 rfl rfl rfl (by omega) ?_
        rw [show upd f a (nI (min (far a) (far b + wtN t i))) a = nI (min (far a) (far b + wtN t i)) from if_pos rfl]
        refine wp_aload_n 130 d_Mo_laysFar_129 rfl rfl ?_
        refine wp_iload_n 131 d_Mo_laysFar_130 rfl rfl ?_
        refine wp_V1 134 M_Mo_yardsOf 4 d_Mo_laysFar_131 rfl mv_Mo_yardsOf lk_Mo_375 rfl rfl rfl rfl rfl ?_
        refine c_Mo_yardsOf V (by omega) ?_
        refine kI ?_
        rw [yY_eq V.ok V.in_ (by omega : i < t.nL), ew]
        refine wp_iadd 135 d_Mo_laysFar_134 rfl ?_
        rw [show nI (min (far a) (far b + wtN t i)) + nI (wtN t i) = nI ((min (far a) (far b + wtN t i)) + wtN t i) from nI_add _ _]
        refine wp_S2 138 M_JMath_min 1 d_Mo_laysFar_135 rfl ms_JMath_min lk_Mo_166 rfl rfl ?_
        refine c_JMath_min ?_
        refine kI ?_
        rw [iMin_N (by omega) (by have := Nat.min_le_left (far a) (far b + wtN t i); omega)]
        refine wp_iastoreN 139 d_Mo_laysFar_138 rfl rfl rfl (by omega) ?_
        refine hEq (hM m_at m_names m_status m_top m_bottom m_sort m_trayMany m_trays m_tape m_text m_taped m_size m_token m_from m_end m_value m_faultKind m_faultPlace m_faults m_seen m_areOdds m_opened m_depth m_counted m_eastBy m_northBy m_partBy m_wayFaults m_wayEast m_wayNorth m_olds m_wayMany m_oneOfSet m_twoOfSet (upd (upd f a (nI (min (far a) (far b + wtN t i)))) b (nI (min (far b) ((min (far a) (far b + wtN t i)) + wtN t i)))) m_rowBy m_triedBy m_rowMany m_doneAt m_gotAt m_struckAt m_bestDeed m_misBy m_drawn m_ranSteps m_loops m_ran m_told1 m_isTold m_marks) rfl ?_
        first | refine wp_iincN_3 142 d_Mo_laysFar_139 rfl rfl rfl ?_ | refine wp_iinc_3 142 1 d_Mo_laysFar_139 rfl (by decide) rfl rfl ?_
        refine wp_goto 42 d_Mo_laysFar_142 (by decide) ?_
        refine ih (i + 1) (upd (upd f a (nI (min (far a) (far b + wtN t i)))) b (nI (min (far b) ((min (far a) (far b + wtN t i)) + wtN t i)))) (rx t i far) _ _ (by omega) ⟨fun p hp => ?_, fun p => Nat.le_trans (rx_le V.ok V.in_ (by omega) p) (hc p), hq⟩
        rw [er]
        by_cases z1 : p = b
        · subst z1; rw [upd_at]; exact congrArg nI (if_pos rfl).symm
        · rw [upd_ne z1]
          by_cases z2 : p = a
          · subst z2; rw [upd_at]; exact congrArg nI ((if_neg z1).trans (if_pos rfl)).symm
          · rw [upd_ne z2, hf p hp]; exact congrArg nI ((if_neg z1).trans (if_neg z2)).symm
      · refine wp_goto 139 d_Mo_laysFar_60 (by decide) ?_
        first | refine wp_iincN_3 142 d_Mo_laysFar_139 rfl rfl rfl ?_ | refine wp_iinc_3 142 1 d_Mo_laysFar_139 rfl (by decide) rfl rfl ?_
        refine wp_goto 42 d_Mo_laysFar_142 (by decide) ?_
        have e : rx t i far = far := if_neg (fun y => h57 ((moC_th V.ok (by omega)).mpr y))
        exact ih (i + 1) f far _ _ (by omega) ⟨hf, hc, by rw [← e]; exact hq⟩

set_option maxRecDepth 100000 in
set_option maxHeartbeats 4000000 in
theorem l_Mo_laysFar_34 (V : vT m_at t) {g : Nat}  : ∀ (r i : Nat) (f : Nat → Int32) (w3 w4 w5 : Option Value), i + r = 7 → ((∀ p, p < 7 → f p = nI (farK t g i p)) ∧ ∀ f2, (∀ p, p < 7 → f2 p = nI (farF t g p)) → Q none (hM m_at m_names m_status m_top m_bottom m_sort m_trayMany m_trays m_tape m_text m_taped m_size m_token m_from m_end m_value m_faultKind m_faultPlace m_faults m_seen m_areOdds m_opened m_depth m_counted m_eastBy m_northBy m_partBy m_wayFaults m_wayEast m_wayNorth m_olds m_wayMany m_oneOfSet m_twoOfSet (f2) m_rowBy m_triedBy m_rowMany m_doneAt m_gotAt m_struckAt m_bestDeed m_misBy m_drawn m_ranSteps m_loops m_ran m_told1 m_isTold m_marks)) → WP Γ M_Mo_laysFar 5 0 0 (hM m_at m_names m_status m_top m_bottom m_sort m_trayMany m_trays m_tape m_text m_taped m_size m_token m_from m_end m_value m_faultKind m_faultPlace m_faults m_seen m_areOdds m_opened m_depth m_counted m_eastBy m_northBy m_partBy m_wayFaults m_wayEast m_wayNorth m_olds m_wayMany m_oneOfSet m_twoOfSet (f) m_rowBy m_triedBy m_rowMany m_doneAt m_gotAt m_struckAt m_bestDeed m_misBy m_drawn m_ranSteps m_loops m_ran m_told1 m_isTold m_marks) 34 [some (.ref 0), some (.int (nI g)), some (.int (nI i)), w3, w4, w5] [] Q := by
  intro r
  induction r with
  | zero =>
    intro i f w3 w4 w5 hi hinv
    obtain ⟨hf, hq⟩ := hinv
    refine wp_iload_n 35 d_Mo_laysFar_34 rfl rfl ?_
    refine wp_bipush 37 7 d_Mo_laysFar_35 rfl (by decide) ?_
    refine wp_icmp_ge 151 40 d_Mo_laysFar_37 rfl (by decide) (fun h37 => ?_) (fun h37 => ?_)
    · refine wp_return d_Mo_laysFar_151 rfl ?_
      have e : i = 7 := by omega
      subst e
      exact hq f hf
    · exact absurd ((nI_leI (a := 7) (by omega) (by omega)).mpr (by omega)) h37
  | succ r ih =>
    intro i f w3 w4 w5 hi hinv
    obtain ⟨hf, hq⟩ := hinv
    refine wp_iload_n 35 d_Mo_laysFar_34 rfl rfl ?_
    refine wp_bipush 37 7 d_Mo_laysFar_35 rfl (by decide) ?_
    refine wp_icmp_ge 151 40 d_Mo_laysFar_37 rfl (by decide) (fun h37 => ?_) (fun h37 => ?_)
    · exact absurd (nI_leN (b := 7) h37 (by omega) (by omega)) (by omega)
    · refine wp_iconst 41 0 d_Mo_laysFar_40 rfl (by decide) ?_
      refine wp_istore_3 42 d_Mo_laysFar_41 rfl rfl rfl ?_
      refine l_Mo_laysFar_42 V V.ok.hL t.nL 0 f (farK t g i) w4 w5 (by omega) ⟨hf, fun p => Nat.le_trans (farK_le V.ok V.in_ g p i) (far0_c g p), fun f2 x4 x5 h2 => ?_⟩
      rw [← farK_s] at h2
      first | refine wp_iincN_2 148 d_Mo_laysFar_145 rfl rfl rfl ?_ | refine wp_iinc_2 148 1 d_Mo_laysFar_145 rfl (by decide) rfl rfl ?_
      refine wp_goto 34 d_Mo_laysFar_148 (by decide) ?_
      exact ih (i + 1) f2 _ _ _ (by omega) ⟨h2, hq⟩

set_option maxRecDepth 100000 in
set_option maxHeartbeats 4000000 in
theorem c_Mo_laysFar {g : Nat} (V : vT m_at t) (hg : g < 7) (hq : ∀ f2, (∀ p, p < 7 → f2 p = nI (farF t g p)) → Q none (hM m_at m_names m_status m_top m_bottom m_sort m_trayMany m_trays m_tape m_text m_taped m_size m_token m_from m_end m_value m_faultKind m_faultPlace m_faults m_seen m_areOdds m_opened m_depth m_counted m_eastBy m_northBy m_partBy m_wayFaults m_wayEast m_wayNorth m_olds m_wayMany m_oneOfSet m_twoOfSet (f2) m_rowBy m_triedBy m_rowMany m_doneAt m_gotAt m_struckAt m_bestDeed m_misBy m_drawn m_ranSteps m_loops m_ran m_told1 m_isTold m_marks)) : Call Γ M_Mo_laysFar 5 0 0 [.ref 0, .int (nI g)] (hM m_at m_names m_status m_top m_bottom m_sort m_trayMany m_trays m_tape m_text m_taped m_size m_token m_from m_end m_value m_faultKind m_faultPlace m_faults m_seen m_areOdds m_opened m_depth m_counted m_eastBy m_northBy m_partBy m_wayFaults m_wayEast m_wayNorth m_olds m_wayMany m_oneOfSet m_twoOfSet m_farBy m_rowBy m_triedBy m_rowMany m_doneAt m_gotAt m_struckAt m_bestDeed m_misBy m_drawn m_ranSteps m_loops m_ran m_told1 m_isTold m_marks) Q := by
  refine call_intro (ls := [some (.ref 0), some (.int (nI g)), none, none, none, none]) rfl rfl rfl ?_
  refine wp_iconst 1 0 d_Mo_laysFar_0 rfl (by decide) ?_
  refine wp_istore_2 2 d_Mo_laysFar_1 rfl rfl rfl ?_
  refine l_Mo_laysFar_2 hg 7 0 m_farBy (by omega) ⟨fun j hj => absurd hj (Nat.not_lt_zero j), fun f2 h2 => ?_⟩
  refine wp_iconst 33 0 d_Mo_laysFar_32 rfl (by decide) ?_
  refine wp_istore_2 34 d_Mo_laysFar_33 rfl rfl rfl ?_
  exact l_Mo_laysFar_34 V 7 0 f2 none none none (by omega) ⟨h2, hq⟩

set_option maxRecDepth 100000 in
set_option maxHeartbeats 4000000 in
theorem c_Mo_way {a b : Int32} (V : vT m_at t) (W : WT) (hq : ∀ f2, Q (some (.int (wyF t W a b).2)) (hM m_at m_names ((wyF t W a b).1) m_top m_bottom m_sort m_trayMany m_trays m_tape m_text m_taped m_size m_token m_from m_end m_value m_faultKind m_faultPlace m_faults m_seen m_areOdds m_opened m_depth m_counted m_eastBy m_northBy m_partBy m_wayFaults m_wayEast m_wayNorth m_olds m_wayMany m_oneOfSet m_twoOfSet (f2) m_rowBy m_triedBy m_rowMany m_doneAt m_gotAt m_struckAt m_bestDeed m_misBy m_drawn m_ranSteps m_loops m_ran m_told1 m_isTold m_marks)) : Call Γ M_Mo_way 6 0 0 [.ref 0, .int a, .int b] (hM m_at m_names m_status m_top m_bottom m_sort m_trayMany m_trays m_tape m_text m_taped m_size m_token m_from m_end m_value m_faultKind m_faultPlace m_faults m_seen m_areOdds m_opened m_depth m_counted m_eastBy m_northBy m_partBy m_wayFaults m_wayEast m_wayNorth m_olds m_wayMany m_oneOfSet m_twoOfSet m_farBy m_rowBy m_triedBy m_rowMany m_doneAt m_gotAt m_struckAt m_bestDeed m_misBy m_drawn m_ranSteps m_loops m_ran m_told1 m_isTold m_marks) Q := by
  refine call_intro (ls := [some (.ref 0), some (.int a), some (.int b)]) rfl rfl rfl ?_
  refine wp_aload_n 1 d_Mo_way_0 rfl rfl ?_
  refine wp_iload_n 2 d_Mo_way_1 rfl rfl ?_
  refine wp_iload_n 3 d_Mo_way_2 rfl rfl ?_
  refine wp_V2 6 M_Mo_areTwo 2 d_Mo_way_3 rfl mv_Mo_areTwo lk_Mo_349 rfl rfl rfl rfl rfl ?_
  refine c_Mo_areTwo V ?_
  refine kI ?_
  (first | refine wp_ifP_ne 15 9 d_Mo_way_6 rfl (by decide) (fun h6 => ?_) (fun h6 => ?_) | refine wp_if_ne 15 9 d_Mo_way_6 rfl (by decide) (fun h6 => ?_) (fun h6 => ?_))
  · obtain ⟨x, hx, rfl⟩ := inR_ex h6.1 (by have := V.ok.hP; omega)
    obtain ⟨g, hg, rfl⟩ := inR_ex h6.2.1 (by have := V.ok.hP; omega)
    have hP7 := V.ok.hP
    have F9 := FP_F V.ok V.in_ g
    obtain ⟨B1, B2⟩ := way_both V.ok V.in_ F9 hx
    obtain ⟨W1, W2⟩ := wy_B V.ok V.in_ hx (show g < 7 by omega) W
    have cx := farF_c V.ok V.in_ g x
    have hI := INF_v
    refine wp_aload_n 16 d_Mo_way_15 rfl rfl ?_
    refine wp_iload_n 17 d_Mo_way_16 rfl rfl ?_
    refine wp_V1 20 M_Mo_laysFar 5 d_Mo_way_17 rfl mv_Mo_laysFar lk_Mo_422 rfl rfl rfl rfl rfl ?_
    refine c_Mo_laysFar V (by omega) (fun f2 h2 => ?_)
    refine kV ?_
    refine wp_aload_n 21 d_Mo_way_20 rfl rfl ?_
    refine wp_getfield 24 12 34 d_Mo_way_21 rfl fl_Mo_68 rfl rfl ?_
    refine wp_iload_n 25 d_Mo_way_24 rfl rfl ?_
    refine wp_ialoadN 26 d_Mo_way_25 rfl rfl rfl (by omega) ?_
    rw [h2 x (by omega)]
    refine wp_ldcw 29 (100000000 : Int32) d_Mo_way_26 rfl ct_Mo_418 ?_
    refine wp_icmp_lt 41 32 d_Mo_way_29 rfl (by decide) (fun h29 => ?_) (fun h29 => ?_)
    · refine wp_aload_n 42 d_Mo_way_41 rfl rfl ?_
      refine wp_aload_n 43 d_Mo_way_42 rfl rfl ?_
      refine wp_getfield 46 12 34 d_Mo_way_43 rfl fl_Mo_68 rfl rfl ?_
      refine wp_iload_n 47 d_Mo_way_46 rfl rfl ?_
      refine wp_ialoadN 48 d_Mo_way_47 rfl rfl rfl (by omega) ?_
      rw [h2 x (by omega)]
      refine wp_V1 51 M_Mo_gives 1 d_Mo_way_48 rfl mv_Mo_gives lk_Mo_115 rfl rfl rfl rfl rfl ?_
      refine c_Mo_gives ?_
      refine kI ?_
      refine wp_ireturn d_Mo_way_51 rfl ?_
      obtain ⟨r9, q1, -⟩ := B1 ((nI_ltI (by omega) (by omega)).mp (by rw [← INF_e]; exact h29))
      obtain ⟨-, q2, -⟩ := W2 _ _ q1
      have e : wyF t W (nI x) (nI g) = _ := (((if_pos h6).trans (if_neg (by rw [q2]; exact nI_ne1 (by omega)))).trans (congrArg (Prod.mk 0) q2))
      have h9 := hq f2
      rw [e] at h9
      exact h9
    · refine wp_aload_n 33 d_Mo_way_32 rfl rfl ?_
      refine wp_bipush 35 6 d_Mo_way_33 rfl (by decide) ?_
      refine wp_V1 38 M_Mo_refuse 1 d_Mo_way_35 rfl mv_Mo_refuse lk_Mo_111 rfl rfl rfl rfl rfl ?_
      refine c_Mo_refuse ?_
      refine kI ?_
      refine wp_goto 51 d_Mo_way_38 (by decide) ?_
      refine wp_ireturn d_Mo_way_51 rfl ?_
      have e : wyF t W (nI x) (nI g) = _ := ((if_pos h6).trans (if_pos (W1 (B2 (fun y => h29 (by rw [INF_e]; exact (nI_ltI (by omega) (by omega)).mpr y))))))
      have h9 := hq f2
      rw [e] at h9
      exact h9
  · refine wp_aload_n 10 d_Mo_way_9 rfl rfl ?_
    refine wp_iconst 11 1 d_Mo_way_10 rfl (by decide) ?_
    refine wp_V1 14 M_Mo_refuse 1 d_Mo_way_11 rfl mv_Mo_refuse lk_Mo_111 rfl rfl rfl rfl rfl ?_
    refine c_Mo_refuse ?_
    refine kI ?_
    refine wp_ireturn d_Mo_way_14 rfl ?_
    have e : wyF t W a b = _ := (if_neg h6)
    have h9 := hq m_farBy
    rw [e] at h9
    exact h9

set_option maxRecDepth 100000 in
set_option maxHeartbeats 4000000 in
theorem c_Mo_otherEnd {l : Nat} {p : Int32} (V : vT m_at t) (hl : l < t.nL) (hq : Q (some (.int (oeV t l p))) (hM m_at m_names m_status m_top m_bottom m_sort m_trayMany m_trays m_tape m_text m_taped m_size m_token m_from m_end m_value m_faultKind m_faultPlace m_faults m_seen m_areOdds m_opened m_depth m_counted m_eastBy m_northBy m_partBy m_wayFaults m_wayEast m_wayNorth m_olds m_wayMany m_oneOfSet m_twoOfSet m_farBy m_rowBy m_triedBy m_rowMany m_doneAt m_gotAt m_struckAt m_bestDeed m_misBy m_drawn m_ranSteps m_loops m_ran m_told1 m_isTold m_marks)) : Call Γ M_Mo_otherEnd 3 0 0 [.ref 0, .int (nI l), .int p] (hM m_at m_names m_status m_top m_bottom m_sort m_trayMany m_trays m_tape m_text m_taped m_size m_token m_from m_end m_value m_faultKind m_faultPlace m_faults m_seen m_areOdds m_opened m_depth m_counted m_eastBy m_northBy m_partBy m_wayFaults m_wayEast m_wayNorth m_olds m_wayMany m_oneOfSet m_twoOfSet m_farBy m_rowBy m_triedBy m_rowMany m_doneAt m_gotAt m_struckAt m_bestDeed m_misBy m_drawn m_ranSteps m_loops m_ran m_told1 m_isTold m_marks) Q := by
  refine call_intro (ls := [some (.ref 0), some (.int (nI l)), some (.int p)]) rfl rfl rfl ?_
  refine wp_aload_n 1 d_Mo_otherEnd_0 rfl rfl ?_
  refine wp_iload_n 2 d_Mo_otherEnd_1 rfl rfl ?_
  refine wp_iconst 3 1 d_Mo_otherEnd_2 rfl (by decide) ?_
  refine wp_V2 6 M_Mo_legOf 2 d_Mo_otherEnd_3 rfl mv_Mo_legOf lk_Mo_287 rfl rfl rfl rfl rfl ?_
  refine c_leg1 V hl ?_
  refine kI ?_
  refine wp_iload_n 7 d_Mo_otherEnd_6 rfl rfl ?_
  refine wp_icmp_ne 19 10 d_Mo_otherEnd_7 rfl (by decide) (fun h7 => ?_) (fun h7 => ?_)
  · refine wp_aload_n 20 d_Mo_otherEnd_19 rfl rfl ?_
    refine wp_iload_n 21 d_Mo_otherEnd_20 rfl rfl ?_
    refine wp_iconst 22 2 d_Mo_otherEnd_21 rfl (by decide) ?_
    refine wp_V2 25 M_Mo_legOf 2 d_Mo_otherEnd_22 rfl mv_Mo_legOf lk_Mo_287 rfl rfl rfl rfl rfl ?_
    refine c_leg2 V hl ?_
    refine kI ?_
    refine wp_iload_n 26 d_Mo_otherEnd_25 rfl rfl ?_
    refine wp_icmp_ne 38 29 d_Mo_otherEnd_26 rfl (by decide) (fun h26 => ?_) (fun h26 => ?_)
    · refine wp_iconst 39 (-1) d_Mo_otherEnd_38 rfl (by decide) ?_
      refine wp_ireturn d_Mo_otherEnd_39 rfl ?_
      refine qI hq ?_
      unfold oeV
      rw [if_neg h7, if_neg h26]
    · refine wp_aload_n 30 d_Mo_otherEnd_29 rfl rfl ?_
      refine wp_iload_n 31 d_Mo_otherEnd_30 rfl rfl ?_
      refine wp_iconst 32 1 d_Mo_otherEnd_31 rfl (by decide) ?_
      refine wp_V2 35 M_Mo_legOf 2 d_Mo_otherEnd_32 rfl mv_Mo_legOf lk_Mo_287 rfl rfl rfl rfl rfl ?_
      refine c_leg1 V hl ?_
      refine kI ?_
      refine wp_goto 39 d_Mo_otherEnd_35 (by decide) ?_
      refine wp_ireturn d_Mo_otherEnd_39 rfl ?_
      refine qI hq ?_
      unfold oeV
      rw [if_neg h7, if_pos h26]
  · refine wp_aload_n 11 d_Mo_otherEnd_10 rfl rfl ?_
    refine wp_iload_n 12 d_Mo_otherEnd_11 rfl rfl ?_
    refine wp_iconst 13 2 d_Mo_otherEnd_12 rfl (by decide) ?_
    refine wp_V2 16 M_Mo_legOf 2 d_Mo_otherEnd_13 rfl mv_Mo_legOf lk_Mo_287 rfl rfl rfl rfl rfl ?_
    refine c_leg2 V hl ?_
    refine kI ?_
    refine wp_goto 39 d_Mo_otherEnd_16 (by decide) ?_
    refine wp_ireturn d_Mo_otherEnd_39 rfl ?_
    refine qI hq ?_
    unfold oeV
    rw [if_pos h7]

set_option maxRecDepth 100000 in
set_option maxHeartbeats 4000000 in
theorem l_Mo_betweenBy_7 (V : vT m_at t) {p q : Nat} (hL : t.nL ≤ 12) (hq_ : q < 7) : ∀ (r i : Nat) , i + r = t.nL → Q (some (.int (nI (btR t p q t.nL)))) (hM m_at m_names m_status m_top m_bottom m_sort m_trayMany m_trays m_tape m_text m_taped m_size m_token m_from m_end m_value m_faultKind m_faultPlace m_faults m_seen m_areOdds m_opened m_depth m_counted m_eastBy m_northBy m_partBy m_wayFaults m_wayEast m_wayNorth m_olds m_wayMany m_oneOfSet m_twoOfSet m_farBy m_rowBy m_triedBy m_rowMany m_doneAt m_gotAt m_struckAt m_bestDeed m_misBy m_drawn m_ranSteps m_loops m_ran m_told1 m_isTold m_marks) → WP Γ M_Mo_betweenBy 5 0 0 (hM m_at m_names m_status m_top m_bottom m_sort m_trayMany m_trays m_tape m_text m_taped m_size m_token m_from m_end m_value m_faultKind m_faultPlace m_faults m_seen m_areOdds m_opened m_depth m_counted m_eastBy m_northBy m_partBy m_wayFaults m_wayEast m_wayNorth m_olds m_wayMany m_oneOfSet m_twoOfSet m_farBy m_rowBy m_triedBy m_rowMany m_doneAt m_gotAt m_struckAt m_bestDeed m_misBy m_drawn m_ranSteps m_loops m_ran m_told1 m_isTold m_marks) 7 [some (.ref 0), some (.int (nI p)), some (.int (nI q)), some (.int (nI (btR t p q i))), some (.int (nI i))] [] Q := by
  intro r
  induction r with
  | zero =>
    intro i  hi hinv
    have hq := hinv
    refine wp_iload 9 d_Mo_betweenBy_7 rfl rfl ?_
    refine wp_aload_n 10 d_Mo_betweenBy_9 rfl rfl ?_
    refine wp_getfield 13 12 0 d_Mo_betweenBy_10 rfl fl_Mo_7 rfl rfl ?_
    refine wp_iconst 14 2 d_Mo_betweenBy_13 rfl (by decide) ?_
    refine wp_iaload 15 d_Mo_betweenBy_14 rfl rfl (vp_in_nI (n := 2) (N := 2332) (by omega) (by omega)) ?_
    rw [show m_at (2 : Int32).toNatClampNeg = nI t.nL from V.L]
    refine wp_icmp_ge 55 18 d_Mo_betweenBy_15 rfl (by decide) (fun h15 => ?_) (fun h15 => ?_)
    · refine wp_iload_n 56 d_Mo_betweenBy_55 rfl rfl ?_
      refine wp_ireturn d_Mo_betweenBy_56 rfl ?_
      have e : i = t.nL := by omega
      subst e
      exact hq
    · exact absurd ((nI_leI (a := t.nL) (by omega) (by omega)).mpr (by omega)) h15
  | succ r ih =>
    intro i  hi hinv
    have hq := hinv
    refine wp_iload 9 d_Mo_betweenBy_7 rfl rfl ?_
    refine wp_aload_n 10 d_Mo_betweenBy_9 rfl rfl ?_
    refine wp_getfield 13 12 0 d_Mo_betweenBy_10 rfl fl_Mo_7 rfl rfl ?_
    refine wp_iconst 14 2 d_Mo_betweenBy_13 rfl (by decide) ?_
    refine wp_iaload 15 d_Mo_betweenBy_14 rfl rfl (vp_in_nI (n := 2) (N := 2332) (by omega) (by omega)) ?_
    rw [show m_at (2 : Int32).toNatClampNeg = nI t.nL from V.L]
    refine wp_icmp_ge 55 18 d_Mo_betweenBy_15 rfl (by decide) (fun h15 => ?_) (fun h15 => ?_)
    · exact absurd (nI_leN (b := t.nL) h15 (by omega) (by omega)) (by omega)
    · refine wp_aload_n 19 d_Mo_betweenBy_18 rfl rfl ?_
      refine wp_iload 21 d_Mo_betweenBy_19 rfl rfl ?_
      refine wp_V1 24 M_Mo_counts 2 d_Mo_betweenBy_21 rfl mv_Mo_counts lk_Mo_300 rfl rfl rfl rfl rfl ?_
      refine c_Mo_counts V ?_
      refine kI ?_
      (first | refine wp_ifP_eq 49 27 d_Mo_betweenBy_24 rfl (by decide) (fun h24 => ?_) (fun h24 => ?_) | refine wp_if_eq 49 27 d_Mo_betweenBy_24 rfl (by decide) (fun h24 => ?_) (fun h24 => ?_))
      · first | refine wp_iincN_4 52 d_Mo_betweenBy_49 rfl rfl rfl ?_ | refine wp_iinc_4 52 1 d_Mo_betweenBy_49 rfl (by decide) rfl rfl ?_
        refine wp_goto 7 d_Mo_betweenBy_52 (by decide) ?_
        have hj : ¬ jnP t i p q := fun y => h24 ((moC_th V.ok (by omega)).mpr y.1)
        have e : btR t p q (i + 1) = btR t p q i := if_neg hj
        refine qL2 ?_ (ih (i + 1) (by omega) hq)
        rw [e]
      · refine wp_aload_n 28 d_Mo_betweenBy_27 rfl rfl ?_
        refine wp_iload 30 d_Mo_betweenBy_28 rfl rfl ?_
        refine wp_iload_n 31 d_Mo_betweenBy_30 rfl rfl ?_
        refine wp_V2 34 M_Mo_otherEnd 3 d_Mo_betweenBy_31 rfl mv_Mo_otherEnd lk_Mo_419 rfl rfl rfl rfl rfl ?_
        refine c_Mo_otherEnd V (by omega) ?_
        refine kI ?_
        refine wp_iload_n 35 d_Mo_betweenBy_34 rfl rfl ?_
        refine wp_icmp_ne 49 38 d_Mo_betweenBy_35 rfl (by decide) (fun h35 => ?_) (fun h35 => ?_)
        · first | refine wp_iincN_4 52 d_Mo_betweenBy_49 rfl rfl rfl ?_ | refine wp_iinc_4 52 1 d_Mo_betweenBy_49 rfl (by decide) rfl rfl ?_
          refine wp_goto 7 d_Mo_betweenBy_52 (by decide) ?_
          have hj : ¬ jnP t i p q := fun y => h35 ((oe_jn V.in_ (by omega) (by omega)).mpr y.2)
          have e : btR t p q (i + 1) = btR t p q i := if_neg hj
          refine qL2 ?_ (ih (i + 1) (by omega) hq)
          rw [e]
        · refine wp_iload_n 39 d_Mo_betweenBy_38 rfl rfl ?_
          refine wp_aload_n 40 d_Mo_betweenBy_39 rfl rfl ?_
          refine wp_iload 42 d_Mo_betweenBy_40 rfl rfl ?_
          refine wp_V1 45 M_Mo_yardsOf 4 d_Mo_betweenBy_42 rfl mv_Mo_yardsOf lk_Mo_375 rfl rfl rfl rfl rfl ?_
          refine c_Mo_yardsOf V (by omega) ?_
          refine kI ?_
          rw [yY_eq V.ok V.in_ (by omega : i < t.nL), (wtN_ok V.ok V.in_ (show i < t.nL by omega)).1]
          refine wp_S2 48 M_JMath_min 1 d_Mo_betweenBy_45 rfl ms_JMath_min lk_Mo_166 rfl rfl ?_
          refine c_JMath_min ?_
          refine kI ?_
          rw [iMin_N (by have := btR_c V.ok V.in_ (p := p) (q := q) i (by omega); have := INF_v; omega) (by have := (wtN_ok V.ok V.in_ (show i < t.nL by omega)).2; omega)]
          refine wp_istore_3 49 d_Mo_betweenBy_48 rfl rfl rfl ?_
          first | refine wp_iincN_4 52 d_Mo_betweenBy_49 rfl rfl rfl ?_ | refine wp_iinc_4 52 1 d_Mo_betweenBy_49 rfl (by decide) rfl rfl ?_
          refine wp_goto 7 d_Mo_betweenBy_52 (by decide) ?_
          have hj : jnP t i p q := ⟨(moC_th V.ok (by omega)).mp h24, (oe_jn V.in_ (by omega) (by omega)).mp h35⟩
          have e : btR t p q (i + 1) = min (btR t p q i) (wtN t i) := if_pos hj
          refine qL2 ?_ (ih (i + 1) (by omega) hq)
          rw [e]

set_option maxRecDepth 100000 in
set_option maxHeartbeats 4000000 in
theorem c_Mo_betweenBy {p q : Nat} (V : vT m_at t) (hq_ : q < 7) (hq : Q (some (.int (nI (bt t p q)))) (hM m_at m_names m_status m_top m_bottom m_sort m_trayMany m_trays m_tape m_text m_taped m_size m_token m_from m_end m_value m_faultKind m_faultPlace m_faults m_seen m_areOdds m_opened m_depth m_counted m_eastBy m_northBy m_partBy m_wayFaults m_wayEast m_wayNorth m_olds m_wayMany m_oneOfSet m_twoOfSet m_farBy m_rowBy m_triedBy m_rowMany m_doneAt m_gotAt m_struckAt m_bestDeed m_misBy m_drawn m_ranSteps m_loops m_ran m_told1 m_isTold m_marks)) : Call Γ M_Mo_betweenBy 5 0 0 [.ref 0, .int (nI p), .int (nI q)] (hM m_at m_names m_status m_top m_bottom m_sort m_trayMany m_trays m_tape m_text m_taped m_size m_token m_from m_end m_value m_faultKind m_faultPlace m_faults m_seen m_areOdds m_opened m_depth m_counted m_eastBy m_northBy m_partBy m_wayFaults m_wayEast m_wayNorth m_olds m_wayMany m_oneOfSet m_twoOfSet m_farBy m_rowBy m_triedBy m_rowMany m_doneAt m_gotAt m_struckAt m_bestDeed m_misBy m_drawn m_ranSteps m_loops m_ran m_told1 m_isTold m_marks) Q := by
  refine call_intro (ls := [some (.ref 0), some (.int (nI p)), some (.int (nI q)), none, none]) rfl rfl rfl ?_
  refine wp_ldcw 3 (100000000 : Int32) d_Mo_betweenBy_0 rfl ct_Mo_418 ?_
  refine wp_istore_3 4 d_Mo_betweenBy_3 rfl rfl rfl ?_
  refine wp_iconst 5 0 d_Mo_betweenBy_4 rfl (by decide) ?_
  refine wp_istore_4 7 d_Mo_betweenBy_5 rfl rfl rfl ?_
  exact l_Mo_betweenBy_7 V V.ok.hL hq_ t.nL 0 (by omega) hq

set_option maxRecDepth 100000 in
set_option maxHeartbeats 4000000 in
theorem l_Mo_isTried_2 {pr : List Nat} {x : Nat} (hrow : rowP m_rowBy pr) (h8 : pr.length ≤ 8) (h0_ : 0 < pr.length) (hin : ∀ y, y ∈ pr → y < 7) (hx : x < 7) : ∀ (r i : Nat) , i + r = pr.length → ((∀ j, j < i → ¬ pr.getD j 0 = x) ∧ Q (some (.int (bP (x ∈ pr)))) (hM m_at m_names m_status m_top m_bottom m_sort m_trayMany m_trays m_tape m_text m_taped m_size m_token m_from m_end m_value m_faultKind m_faultPlace m_faults m_seen m_areOdds m_opened m_depth m_counted m_eastBy m_northBy m_partBy m_wayFaults m_wayEast m_wayNorth m_olds m_wayMany m_oneOfSet m_twoOfSet m_farBy m_rowBy m_triedBy m_rowMany m_doneAt m_gotAt m_struckAt m_bestDeed m_misBy m_drawn m_ranSteps m_loops m_ran m_told1 m_isTold m_marks)) → WP Γ M_Mo_isTried 1 0 0 (hM m_at m_names m_status m_top m_bottom m_sort m_trayMany m_trays m_tape m_text m_taped m_size m_token m_from m_end m_value m_faultKind m_faultPlace m_faults m_seen m_areOdds m_opened m_depth m_counted m_eastBy m_northBy m_partBy m_wayFaults m_wayEast m_wayNorth m_olds m_wayMany m_oneOfSet m_twoOfSet m_farBy m_rowBy m_triedBy m_rowMany m_doneAt m_gotAt m_struckAt m_bestDeed m_misBy m_drawn m_ranSteps m_loops m_ran m_told1 m_isTold m_marks) 2 [some (.ref 0), some (.int (nI x)), some (.int (nI (pr.length - 1))), some (.int (nI i))] [] Q := by
  intro r
  induction r with
  | zero =>
    intro i  hi hinv
    obtain ⟨hno, hq⟩ := hinv
    refine wp_iload_n 3 d_Mo_isTried_2 rfl rfl ?_
    refine wp_iload_n 4 d_Mo_isTried_3 rfl rfl ?_
    refine wp_icmp_gt 25 7 d_Mo_isTried_4 rfl (by decide) (fun h4 => ?_) (fun h4 => ?_)
    · refine wp_iconst 26 0 d_Mo_isTried_25 rfl (by decide) ?_
      refine wp_zreturn d_Mo_isTried_26 rfl (by first | rfl | exact nbP _) ?_
      exact bq0 (fun y => by
        obtain ⟨k, hk, e⟩ := mem_getD.mp y
        exact hno k (by omega) e) hq
    · exact absurd ((nI_ltI (a := pr.length - 1) (by omega) (by omega)).mpr (by omega)) h4
  | succ r ih =>
    intro i  hi hinv
    obtain ⟨hno, hq⟩ := hinv
    refine wp_iload_n 3 d_Mo_isTried_2 rfl rfl ?_
    refine wp_iload_n 4 d_Mo_isTried_3 rfl rfl ?_
    refine wp_icmp_gt 25 7 d_Mo_isTried_4 rfl (by decide) (fun h4 => ?_) (fun h4 => ?_)
    · exact absurd (nI_ltN (a := pr.length - 1) h4 (by omega) (by omega)) (by omega)
    · refine wp_aload_n 8 d_Mo_isTried_7 rfl rfl ?_
      refine wp_getfield 11 12 35 d_Mo_isTried_8 rfl fl_Mo_71 rfl rfl ?_
      refine wp_iload_n 12 d_Mo_isTried_11 rfl rfl ?_
      refine wp_ialoadN 13 d_Mo_isTried_12 rfl rfl rfl (by omega) ?_
      rw [hrow i (by omega)]
      refine wp_iload_n 14 d_Mo_isTried_13 rfl rfl ?_
      refine wp_icmp_ne 19 17 d_Mo_isTried_14 rfl (by decide) (fun h14 => ?_) (fun h14 => ?_)
      · first | refine wp_iincN_3 22 d_Mo_isTried_19 rfl rfl rfl ?_ | refine wp_iinc_3 22 1 d_Mo_isTried_19 rfl (by decide) rfl rfl ?_
        refine wp_goto 2 d_Mo_isTried_22 (by decide) ?_
        exact ih (i + 1) (by omega) ⟨fun j hj => (Nat.lt_or_ge j i).elim (hno j) (fun y e => by
          have : j = i := by omega
          subst this
          exact h14 (by rw [e])), hq⟩
      · refine wp_iconst 18 1 d_Mo_isTried_17 rfl (by decide) ?_
        refine wp_zreturn d_Mo_isTried_18 rfl (by first | rfl | exact nbP _) ?_
        exact bq1 (mem_getD.mpr ⟨i, by omega, nI_ij h14 (by have := hin _ (mem_getD.mpr ⟨i, by omega, rfl⟩); omega) (by omega)⟩) hq

set_option maxRecDepth 100000 in
set_option maxHeartbeats 4000000 in
theorem c_Mo_isTried {pr : List Nat} {x : Nat} (hrow : rowP m_rowBy pr) (h8 : pr.length ≤ 8) (h0_ : 0 < pr.length) (hin : ∀ y, y ∈ pr → y < 7) (hx : x < 7) (hq : Q (some (.int (bP (x ∈ pr)))) (hM m_at m_names m_status m_top m_bottom m_sort m_trayMany m_trays m_tape m_text m_taped m_size m_token m_from m_end m_value m_faultKind m_faultPlace m_faults m_seen m_areOdds m_opened m_depth m_counted m_eastBy m_northBy m_partBy m_wayFaults m_wayEast m_wayNorth m_olds m_wayMany m_oneOfSet m_twoOfSet m_farBy m_rowBy m_triedBy m_rowMany m_doneAt m_gotAt m_struckAt m_bestDeed m_misBy m_drawn m_ranSteps m_loops m_ran m_told1 m_isTold m_marks)) : Call Γ M_Mo_isTried 1 0 0 [.ref 0, .int (nI x), .int (nI (pr.length - 1))] (hM m_at m_names m_status m_top m_bottom m_sort m_trayMany m_trays m_tape m_text m_taped m_size m_token m_from m_end m_value m_faultKind m_faultPlace m_faults m_seen m_areOdds m_opened m_depth m_counted m_eastBy m_northBy m_partBy m_wayFaults m_wayEast m_wayNorth m_olds m_wayMany m_oneOfSet m_twoOfSet m_farBy m_rowBy m_triedBy m_rowMany m_doneAt m_gotAt m_struckAt m_bestDeed m_misBy m_drawn m_ranSteps m_loops m_ran m_told1 m_isTold m_marks) Q := by
  refine call_intro (ls := [some (.ref 0), some (.int (nI x)), some (.int (nI (pr.length - 1))), none]) rfl rfl rfl ?_
  refine wp_iconst 1 0 d_Mo_isTried_0 rfl (by decide) ?_
  refine wp_istore_3 2 d_Mo_isTried_1 rfl rfl rfl ?_
  exact l_Mo_isTried_2 hrow h8 h0_ hin hx pr.length 0 (by omega) ⟨fun j hj => absurd hj (Nat.not_lt_zero j), hq⟩

set_option maxRecDepth 100000 in
set_option maxHeartbeats 4000000 in
theorem l_Mo_laysRow_21 (V : vT m_at t) {a g x : Nat} {pr : List Nat} {c : Nat → Option (List Nat)} {ff : Nat → Int32} (hg : g < 7) (hP : t.nP ≤ 7) (hff : ∀ p, p < 7 → ff p = nI (farF t g p)) (h7 : pr.length ≤ 7) (h0_ : 0 < pr.length) (hin : ∀ y, y ∈ pr → y < 7) (hx : x < 7) (hlast : pr.getD (pr.length - 1) 0 = x) (hxg : ¬ x = g) (hc0 : ∀ i, i < t.nP → ¬ (¬ i ∈ pr ∧ farF t g i < INF ∧ bt t x i + farF t g i = farF t g x) → c i = none) (hc1 : ∀ i, i < t.nP → (¬ i ∈ pr ∧ farF t g i < INF ∧ bt t x i + farF t g i = farF t g x) → (∀ (row tr : Nat → Int32) (w4 w5 : Option Value), rowP row (pr ++ [i]) → tr ((pr ++ [i]).length - 1) = -1 → (∀ q, c i = some q → (∀ r2 t2 : Nat → Int32, rowP r2 (pr ++ [i] ++ q) → Q none (hM m_at m_names m_status m_top m_bottom m_sort m_trayMany m_trays m_tape m_text m_taped m_size m_token m_from m_end m_value m_faultKind m_faultPlace m_faults m_seen m_areOdds m_opened m_depth m_counted m_eastBy m_northBy m_partBy m_wayFaults m_wayEast m_wayNorth m_olds m_wayMany m_oneOfSet m_twoOfSet (ff) (r2) (t2) (nI (pr ++ [i] ++ q).length) m_doneAt m_gotAt m_struckAt m_bestDeed m_misBy m_drawn m_ranSteps m_loops m_ran m_told1 m_isTold m_marks))) → (c i = none → (∀ (r2 t2 : Nat → Int32) (x4 x5 : Option Value), (∀ k, k + 1 < (pr ++ [i]).length → r2 k = row k) → (∀ k, k + 1 < (pr ++ [i]).length → t2 k = tr k) → WP Γ M_Mo_laysRow 6 0 0 (hM m_at m_names m_status m_top m_bottom m_sort m_trayMany m_trays m_tape m_text m_taped m_size m_token m_from m_end m_value m_faultKind m_faultPlace m_faults m_seen m_areOdds m_opened m_depth m_counted m_eastBy m_northBy m_partBy m_wayFaults m_wayEast m_wayNorth m_olds m_wayMany m_oneOfSet m_twoOfSet (ff) (r2) (t2) m_rowMany m_doneAt m_gotAt m_struckAt m_bestDeed m_misBy m_drawn m_ranSteps m_loops m_ran m_told1 m_isTold m_marks) 21 [some (.ref 0), some (.int (nI a)), some (.int (nI g)), some (.int (nI ((pr ++ [i]).length - 1) + (-1))), x4, x5] [] Q)) → WP Γ M_Mo_laysRow 6 0 0 (hM m_at m_names m_status m_top m_bottom m_sort m_trayMany m_trays m_tape m_text m_taped m_size m_token m_from m_end m_value m_faultKind m_faultPlace m_faults m_seen m_areOdds m_opened m_depth m_counted m_eastBy m_northBy m_partBy m_wayFaults m_wayEast m_wayNorth m_olds m_wayMany m_oneOfSet m_twoOfSet (ff) (row) (tr) m_rowMany m_doneAt m_gotAt m_struckAt m_bestDeed m_misBy m_drawn m_ranSteps m_loops m_ran m_told1 m_isTold m_marks) 21 [some (.ref 0), some (.int (nI a)), some (.int (nI g)), some (.int (nI ((pr ++ [i]).length - 1))), w4, w5] [] Q)) : ∀ (r i : Nat) (row tr : Nat → Int32) (w4 w5 : Option Value), i + r = t.nP → (rowP row pr ∧ tr (pr.length - 1) = nI i - 1 ∧ (∀ q, tpI c r i = some q → (∀ r2 t2 : Nat → Int32, rowP r2 (pr ++ q) → Q none (hM m_at m_names m_status m_top m_bottom m_sort m_trayMany m_trays m_tape m_text m_taped m_size m_token m_from m_end m_value m_faultKind m_faultPlace m_faults m_seen m_areOdds m_opened m_depth m_counted m_eastBy m_northBy m_partBy m_wayFaults m_wayEast m_wayNorth m_olds m_wayMany m_oneOfSet m_twoOfSet (ff) (r2) (t2) (nI (pr ++ q).length) m_doneAt m_gotAt m_struckAt m_bestDeed m_misBy m_drawn m_ranSteps m_loops m_ran m_told1 m_isTold m_marks))) ∧ (tpI c r i = none → (∀ (r2 t2 : Nat → Int32) (x4 x5 : Option Value), (∀ k, k + 1 < (pr).length → r2 k = row k) → (∀ k, k + 1 < (pr).length → t2 k = tr k) → WP Γ M_Mo_laysRow 6 0 0 (hM m_at m_names m_status m_top m_bottom m_sort m_trayMany m_trays m_tape m_text m_taped m_size m_token m_from m_end m_value m_faultKind m_faultPlace m_faults m_seen m_areOdds m_opened m_depth m_counted m_eastBy m_northBy m_partBy m_wayFaults m_wayEast m_wayNorth m_olds m_wayMany m_oneOfSet m_twoOfSet (ff) (r2) (t2) m_rowMany m_doneAt m_gotAt m_struckAt m_bestDeed m_misBy m_drawn m_ranSteps m_loops m_ran m_told1 m_isTold m_marks) 21 [some (.ref 0), some (.int (nI a)), some (.int (nI g)), some (.int (nI ((pr).length - 1) + (-1))), x4, x5] [] Q))) → WP Γ M_Mo_laysRow 6 0 0 (hM m_at m_names m_status m_top m_bottom m_sort m_trayMany m_trays m_tape m_text m_taped m_size m_token m_from m_end m_value m_faultKind m_faultPlace m_faults m_seen m_areOdds m_opened m_depth m_counted m_eastBy m_northBy m_partBy m_wayFaults m_wayEast m_wayNorth m_olds m_wayMany m_oneOfSet m_twoOfSet (ff) (row) (tr) m_rowMany m_doneAt m_gotAt m_struckAt m_bestDeed m_misBy m_drawn m_ranSteps m_loops m_ran m_told1 m_isTold m_marks) 21 [some (.ref 0), some (.int (nI a)), some (.int (nI g)), some (.int (nI (pr.length - 1))), w4, w5] [] Q := by
  intro r
  induction r with
  | zero =>
    intro i row tr w4 w5 hi hinv
    obtain ⟨hrow, htr, hdn, hup⟩ := hinv
    have hrd : row (pr.length - 1) = nI x := by rw [hrow _ (by omega), hlast]
    refine wp_aload_n 22 d_Mo_laysRow_21 rfl rfl ?_
    refine wp_getfield 25 12 35 d_Mo_laysRow_22 rfl fl_Mo_71 rfl rfl ?_
    refine wp_iload_n 26 d_Mo_laysRow_25 rfl rfl ?_
    refine wp_ialoadN 27 d_Mo_laysRow_26 rfl rfl rfl (by omega) ?_
    rw [hrd]
    refine wp_iload_n 28 d_Mo_laysRow_27 rfl rfl ?_
    refine wp_icmp_eq 159 31 d_Mo_laysRow_28 rfl (by decide) (fun h28 => ?_) (fun h28 => ?_)
    · exact absurd (nI_ij h28 (by omega) (by omega)) hxg
    · refine wp_aload_n 32 d_Mo_laysRow_31 rfl rfl ?_
      refine wp_getfield 35 12 36 d_Mo_laysRow_32 rfl fl_Mo_74 rfl rfl ?_
      refine wp_iload_n 36 d_Mo_laysRow_35 rfl rfl ?_
      refine wp_dup2 37 d_Mo_laysRow_36 rfl rfl rfl ?_
      refine wp_ialoadN 38 d_Mo_laysRow_37 rfl rfl rfl (by omega) ?_
      rw [htr]
      refine wp_iconst 39 1 d_Mo_laysRow_38 rfl (by decide) ?_
      refine wp_iadd 40 d_Mo_laysRow_39 rfl ?_
      rw [show nI i - 1 + 1 = nI i from Int32.sub_add_cancel _ _]
      refine wp_iastoreN 41 d_Mo_laysRow_40 rfl rfl rfl (by omega) ?_
      refine hEq (hM m_at m_names m_status m_top m_bottom m_sort m_trayMany m_trays m_tape m_text m_taped m_size m_token m_from m_end m_value m_faultKind m_faultPlace m_faults m_seen m_areOdds m_opened m_depth m_counted m_eastBy m_northBy m_partBy m_wayFaults m_wayEast m_wayNorth m_olds m_wayMany m_oneOfSet m_twoOfSet (ff) (row) (upd tr (pr.length - 1) (nI i)) m_rowMany m_doneAt m_gotAt m_struckAt m_bestDeed m_misBy m_drawn m_ranSteps m_loops m_ran m_told1 m_isTold m_marks) rfl ?_
      refine wp_aload_n 42 d_Mo_laysRow_41 rfl rfl ?_
      refine wp_getfield 45 12 36 d_Mo_laysRow_42 rfl fl_Mo_74 rfl rfl ?_
      refine wp_iload_n 46 d_Mo_laysRow_45 rfl rfl ?_
      refine wp_ialoadN 47 d_Mo_laysRow_46 rfl rfl rfl (by omega) ?_
      rw [show upd tr (pr.length - 1) (nI i) (pr.length - 1) = nI i from if_pos rfl]
      refine wp_istore_4 49 d_Mo_laysRow_47 rfl rfl rfl ?_
      refine wp_iload 51 d_Mo_laysRow_49 rfl rfl ?_
      refine wp_aload_n 52 d_Mo_laysRow_51 rfl rfl ?_
      refine wp_getfield 55 12 0 d_Mo_laysRow_52 rfl fl_Mo_7 rfl rfl ?_
      refine wp_iconst 56 0 d_Mo_laysRow_55 rfl (by decide) ?_
      refine wp_iaload 57 d_Mo_laysRow_56 rfl rfl (vp_in_nI (n := 0) (N := 2332) (by omega) (by omega)) ?_
      rw [show m_at (0 : Int32).toNatClampNeg = nI t.nP from V.P]
      refine wp_icmp_ne 66 60 d_Mo_laysRow_57 rfl (by decide) (fun h57 => ?_) (fun h57 => ?_)
      · exact absurd (by rw [show i = t.nP by omega]) h57
      · refine wp_iinc_3 63 (-1) d_Mo_laysRow_60 rfl (by decide) rfl rfl ?_
        refine wp_goto 21 d_Mo_laysRow_63 (by decide) ?_
        exact hup rfl row (upd tr (pr.length - 1) (nI i)) _ _ (fun _ _ => rfl) (fun k hk => upd_ne (by omega))
  | succ r ih =>
    intro i row tr w4 w5 hi hinv
    obtain ⟨hrow, htr, hdn, hup⟩ := hinv
    have hrd : row (pr.length - 1) = nI x := by rw [hrow _ (by omega), hlast]
    refine wp_aload_n 22 d_Mo_laysRow_21 rfl rfl ?_
    refine wp_getfield 25 12 35 d_Mo_laysRow_22 rfl fl_Mo_71 rfl rfl ?_
    refine wp_iload_n 26 d_Mo_laysRow_25 rfl rfl ?_
    refine wp_ialoadN 27 d_Mo_laysRow_26 rfl rfl rfl (by omega) ?_
    rw [hrd]
    refine wp_iload_n 28 d_Mo_laysRow_27 rfl rfl ?_
    refine wp_icmp_eq 159 31 d_Mo_laysRow_28 rfl (by decide) (fun h28 => ?_) (fun h28 => ?_)
    · exact absurd (nI_ij h28 (by omega) (by omega)) hxg
    · refine wp_aload_n 32 d_Mo_laysRow_31 rfl rfl ?_
      refine wp_getfield 35 12 36 d_Mo_laysRow_32 rfl fl_Mo_74 rfl rfl ?_
      refine wp_iload_n 36 d_Mo_laysRow_35 rfl rfl ?_
      refine wp_dup2 37 d_Mo_laysRow_36 rfl rfl rfl ?_
      refine wp_ialoadN 38 d_Mo_laysRow_37 rfl rfl rfl (by omega) ?_
      rw [htr]
      refine wp_iconst 39 1 d_Mo_laysRow_38 rfl (by decide) ?_
      refine wp_iadd 40 d_Mo_laysRow_39 rfl ?_
      rw [show nI i - 1 + 1 = nI i from Int32.sub_add_cancel _ _]
      refine wp_iastoreN 41 d_Mo_laysRow_40 rfl rfl rfl (by omega) ?_
      refine hEq (hM m_at m_names m_status m_top m_bottom m_sort m_trayMany m_trays m_tape m_text m_taped m_size m_token m_from m_end m_value m_faultKind m_faultPlace m_faults m_seen m_areOdds m_opened m_depth m_counted m_eastBy m_northBy m_partBy m_wayFaults m_wayEast m_wayNorth m_olds m_wayMany m_oneOfSet m_twoOfSet (ff) (row) (upd tr (pr.length - 1) (nI i)) m_rowMany m_doneAt m_gotAt m_struckAt m_bestDeed m_misBy m_drawn m_ranSteps m_loops m_ran m_told1 m_isTold m_marks) rfl ?_
      refine wp_aload_n 42 d_Mo_laysRow_41 rfl rfl ?_
      refine wp_getfield 45 12 36 d_Mo_laysRow_42 rfl fl_Mo_74 rfl rfl ?_
      refine wp_iload_n 46 d_Mo_laysRow_45 rfl rfl ?_
      refine wp_ialoadN 47 d_Mo_laysRow_46 rfl rfl rfl (by omega) ?_
      rw [show upd tr (pr.length - 1) (nI i) (pr.length - 1) = nI i from if_pos rfl]
      refine wp_istore_4 49 d_Mo_laysRow_47 rfl rfl rfl ?_
      refine wp_iload 51 d_Mo_laysRow_49 rfl rfl ?_
      refine wp_aload_n 52 d_Mo_laysRow_51 rfl rfl ?_
      refine wp_getfield 55 12 0 d_Mo_laysRow_52 rfl fl_Mo_7 rfl rfl ?_
      refine wp_iconst 56 0 d_Mo_laysRow_55 rfl (by decide) ?_
      refine wp_iaload 57 d_Mo_laysRow_56 rfl rfl (vp_in_nI (n := 0) (N := 2332) (by omega) (by omega)) ?_
      rw [show m_at (0 : Int32).toNatClampNeg = nI t.nP from V.P]
      refine wp_icmp_ne 66 60 d_Mo_laysRow_57 rfl (by decide) (fun h57 => ?_) (fun h57 => ?_)
      · have ci := farF_c V.ok V.in_ g i
        have cx := farF_c V.ok V.in_ g x
        have cb := bt_INF V.ok V.in_ x i
        have hI := INF_v
        refine wp_aload_n 67 d_Mo_laysRow_66 rfl rfl ?_
        refine wp_iload 69 d_Mo_laysRow_67 rfl rfl ?_
        refine wp_iload_n 70 d_Mo_laysRow_69 rfl rfl ?_
        refine wp_V2 73 M_Mo_isTried 1 d_Mo_laysRow_70 rfl mv_Mo_isTried lk_Mo_425 rfl rfl rfl rfl rfl ?_
        refine c_Mo_isTried hrow (by omega) h0_ hin (by omega) ?_
        refine kI ?_
        (first | refine wp_ifP_ne 127 76 d_Mo_laysRow_73 rfl (by decide) (fun h73 => ?_) (fun h73 => ?_) | refine wp_if_ne 127 76 d_Mo_laysRow_73 rfl (by decide) (fun h73 => ?_) (fun h73 => ?_))
        · refine wp_iconst 128 0 d_Mo_laysRow_127 rfl (by decide) ?_
          refine wp_istore_5 130 d_Mo_laysRow_128 rfl rfl rfl ?_
          refine wp_iload 132 d_Mo_laysRow_130 rfl rfl ?_
          refine wp_if_ne 138 135 d_Mo_laysRow_132 rfl (by decide) (fun h132 => ?_) (fun h132 => ?_)
          · exact absurd rfl h132
          · refine wp_goto 21 d_Mo_laysRow_135 (by decide) ?_
            have e : c i = none := hc0 i (by omega) (fun y => y.1 h73)
            have e2 : tpI c (r + 1) i = tpI c r (i + 1) := by simp only [tpI]; rw [e]
            rw [e2] at hdn hup
            exact ih (i + 1) row (upd tr (pr.length - 1) (nI i)) _ _ (by omega) ⟨hrow, by rw [show (upd tr (pr.length - 1) (nI i)) (pr.length - 1) = nI i from if_pos rfl, show nI (i + 1) = nI i + 1 from (nI_1 i).symm]; exact (Int32.add_sub_cancel _ _).symm, hdn, fun n r2 t2 x4 x5 k1 k2 => hup n r2 t2 x4 x5 k1 (fun k hk => (k2 k hk).trans (upd_ne (by omega)))⟩
        · refine wp_aload_n 77 d_Mo_laysRow_76 rfl rfl ?_
          refine wp_getfield 80 12 34 d_Mo_laysRow_77 rfl fl_Mo_68 rfl rfl ?_
          refine wp_iload 82 d_Mo_laysRow_80 rfl rfl ?_
          refine wp_ialoadN 83 d_Mo_laysRow_82 rfl rfl rfl (by omega) ?_
          rw [hff i (by omega)]
          refine wp_ldcw 86 (100000000 : Int32) d_Mo_laysRow_83 rfl ct_Mo_418 ?_
          refine wp_icmp_ge 127 89 d_Mo_laysRow_86 rfl (by decide) (fun h86 => ?_) (fun h86 => ?_)
          · refine wp_iconst 128 0 d_Mo_laysRow_127 rfl (by decide) ?_
            refine wp_istore_5 130 d_Mo_laysRow_128 rfl rfl rfl ?_
            refine wp_iload 132 d_Mo_laysRow_130 rfl rfl ?_
            refine wp_if_ne 138 135 d_Mo_laysRow_132 rfl (by decide) (fun h132 => ?_) (fun h132 => ?_)
            · exact absurd rfl h132
            · refine wp_goto 21 d_Mo_laysRow_135 (by decide) ?_
              have e : c i = none := hc0 i (by omega) (fun y => absurd (nI_leN (a := farF t g i) (b := INF) (by rw [← INF_e]; exact h86) (by omega) (by omega)) (by omega))
              have e2 : tpI c (r + 1) i = tpI c r (i + 1) := by simp only [tpI]; rw [e]
              rw [e2] at hdn hup
              exact ih (i + 1) row (upd tr (pr.length - 1) (nI i)) _ _ (by omega) ⟨hrow, by rw [show (upd tr (pr.length - 1) (nI i)) (pr.length - 1) = nI i from if_pos rfl, show nI (i + 1) = nI i + 1 from (nI_1 i).symm]; exact (Int32.add_sub_cancel _ _).symm, hdn, fun n r2 t2 x4 x5 k1 k2 => hup n r2 t2 x4 x5 k1 (fun k hk => (k2 k hk).trans (upd_ne (by omega)))⟩
          · refine wp_aload_n 90 d_Mo_laysRow_89 rfl rfl ?_
            refine wp_aload_n 91 d_Mo_laysRow_90 rfl rfl ?_
            refine wp_getfield 94 12 35 d_Mo_laysRow_91 rfl fl_Mo_71 rfl rfl ?_
            refine wp_iload_n 95 d_Mo_laysRow_94 rfl rfl ?_
            refine wp_ialoadN 96 d_Mo_laysRow_95 rfl rfl rfl (by omega) ?_
            rw [hrd]
            refine wp_iload 98 d_Mo_laysRow_96 rfl rfl ?_
            refine wp_V2 101 M_Mo_betweenBy 5 d_Mo_laysRow_98 rfl mv_Mo_betweenBy lk_Mo_428 rfl rfl rfl rfl rfl ?_
            refine c_Mo_betweenBy V (by omega) ?_
            refine kI ?_
            refine wp_aload_n 102 d_Mo_laysRow_101 rfl rfl ?_
            refine wp_getfield 105 12 34 d_Mo_laysRow_102 rfl fl_Mo_68 rfl rfl ?_
            refine wp_iload 107 d_Mo_laysRow_105 rfl rfl ?_
            refine wp_ialoadN 108 d_Mo_laysRow_107 rfl rfl rfl (by omega) ?_
            rw [hff i (by omega)]
            refine wp_iadd 109 d_Mo_laysRow_108 rfl ?_
            rw [show nI (bt t x i) + nI (farF t g i) = nI (bt t x i + farF t g i) from nI_add _ _]
            refine wp_aload_n 110 d_Mo_laysRow_109 rfl rfl ?_
            refine wp_getfield 113 12 34 d_Mo_laysRow_110 rfl fl_Mo_68 rfl rfl ?_
            refine wp_aload_n 114 d_Mo_laysRow_113 rfl rfl ?_
            refine wp_getfield 117 12 35 d_Mo_laysRow_114 rfl fl_Mo_71 rfl rfl ?_
            refine wp_iload_n 118 d_Mo_laysRow_117 rfl rfl ?_
            refine wp_ialoadN 119 d_Mo_laysRow_118 rfl rfl rfl (by omega) ?_
            rw [hrd]
            refine wp_ialoadN 120 d_Mo_laysRow_119 rfl rfl rfl (by omega) ?_
            rw [hff x (by omega)]
            refine wp_icmp_ne 127 123 d_Mo_laysRow_120 rfl (by decide) (fun h120 => ?_) (fun h120 => ?_)
            · refine wp_iconst 128 0 d_Mo_laysRow_127 rfl (by decide) ?_
              refine wp_istore_5 130 d_Mo_laysRow_128 rfl rfl rfl ?_
              refine wp_iload 132 d_Mo_laysRow_130 rfl rfl ?_
              refine wp_if_ne 138 135 d_Mo_laysRow_132 rfl (by decide) (fun h132 => ?_) (fun h132 => ?_)
              · exact absurd rfl h132
              · refine wp_goto 21 d_Mo_laysRow_135 (by decide) ?_
                have e : c i = none := hc0 i (by omega) (fun y => h120 (by rw [y.2.2]))
                have e2 : tpI c (r + 1) i = tpI c r (i + 1) := by simp only [tpI]; rw [e]
                rw [e2] at hdn hup
                exact ih (i + 1) row (upd tr (pr.length - 1) (nI i)) _ _ (by omega) ⟨hrow, by rw [show (upd tr (pr.length - 1) (nI i)) (pr.length - 1) = nI i from if_pos rfl, show nI (i + 1) = nI i + 1 from (nI_1 i).symm]; exact (Int32.add_sub_cancel _ _).symm, hdn, fun n r2 t2 x4 x5 k1 k2 => hup n r2 t2 x4 x5 k1 (fun k hk => (k2 k hk).trans (upd_ne (by omega)))⟩
            · refine wp_iconst 124 1 d_Mo_laysRow_123 rfl (by decide) ?_
              refine wp_goto 128 d_Mo_laysRow_124 (by decide) ?_
              refine wp_istore_5 130 d_Mo_laysRow_128 rfl rfl rfl ?_
              refine wp_iload 132 d_Mo_laysRow_130 rfl rfl ?_
              refine wp_if_ne 138 135 d_Mo_laysRow_132 rfl (by decide) (fun h132 => ?_) (fun h132 => ?_)
              · refine wp_iinc_3 141 1 d_Mo_laysRow_138 rfl (by decide) rfl rfl ?_
                rw [show nI (pr.length - 1) + 1 = nI pr.length from by rw [nI_1]; congr 1; omega]
                refine wp_aload_n 142 d_Mo_laysRow_141 rfl rfl ?_
                refine wp_getfield 145 12 35 d_Mo_laysRow_142 rfl fl_Mo_71 rfl rfl ?_
                refine wp_iload_n 146 d_Mo_laysRow_145 rfl rfl ?_
                refine wp_iload 148 d_Mo_laysRow_146 rfl rfl ?_
                refine wp_iastoreN 149 d_Mo_laysRow_148 rfl rfl rfl (by omega) ?_
                refine hEq (hM m_at m_names m_status m_top m_bottom m_sort m_trayMany m_trays m_tape m_text m_taped m_size m_token m_from m_end m_value m_faultKind m_faultPlace m_faults m_seen m_areOdds m_opened m_depth m_counted m_eastBy m_northBy m_partBy m_wayFaults m_wayEast m_wayNorth m_olds m_wayMany m_oneOfSet m_twoOfSet (ff) (upd row pr.length (nI i)) ((upd tr (pr.length - 1) (nI i))) m_rowMany m_doneAt m_gotAt m_struckAt m_bestDeed m_misBy m_drawn m_ranSteps m_loops m_ran m_told1 m_isTold m_marks) rfl ?_
                refine wp_aload_n 150 d_Mo_laysRow_149 rfl rfl ?_
                refine wp_getfield 153 12 36 d_Mo_laysRow_150 rfl fl_Mo_74 rfl rfl ?_
                refine wp_iload_n 154 d_Mo_laysRow_153 rfl rfl ?_
                refine wp_iconst 155 (-1) d_Mo_laysRow_154 rfl (by decide) ?_
                refine wp_iastoreN 156 d_Mo_laysRow_155 rfl rfl rfl (by omega) ?_
                refine hEq (hM m_at m_names m_status m_top m_bottom m_sort m_trayMany m_trays m_tape m_text m_taped m_size m_token m_from m_end m_value m_faultKind m_faultPlace m_faults m_seen m_areOdds m_opened m_depth m_counted m_eastBy m_northBy m_partBy m_wayFaults m_wayEast m_wayNorth m_olds m_wayMany m_oneOfSet m_twoOfSet (ff) (upd row pr.length (nI i)) (upd (upd tr (pr.length - 1) (nI i)) pr.length (-1)) m_rowMany m_doneAt m_gotAt m_struckAt m_bestDeed m_misBy m_drawn m_ranSteps m_loops m_ran m_told1 m_isTold m_marks) rfl ?_
                refine wp_goto 21 d_Mo_laysRow_156 (by decide) ?_
                have hca : (¬ i ∈ pr ∧ farF t g i < INF ∧ bt t x i + farF t g i = farF t g x) := ⟨h73, nI_ltN (a := farF t g i) (b := INF) (by rw [← INF_e]; exact Int32.not_le.mp h86) (by omega) (by omega), nI_ij h120 (by have := bt_INF V.ok V.in_ x i; omega) (by omega)⟩
                have hlen : (pr ++ [i]).length - 1 = pr.length := by rw [List.length_append, List.length_singleton]; omega
                have hnode := hc1 i (by omega) hca (upd row pr.length (nI i)) (upd (upd tr (pr.length - 1) (nI i)) pr.length (-1)) (some (.int (nI i))) (some (.int 1)) (rowP_app hrow) (by rw [hlen]; exact if_pos rfl) ?_ ?_
                · rw [hlen] at hnode; exact hnode
                · intro q hq9
                  have e2 : tpI c (r + 1) i = some (i :: q) := by simp only [tpI]; rw [hq9]
                  have h9 := hdn (i :: q) e2
                  rw [List.append_assoc]; exact h9
                · intro hq9
                  have e2 : tpI c (r + 1) i = tpI c r (i + 1) := by simp only [tpI]; rw [hq9]
                  rw [e2] at hdn hup
                  intro r2 t2 x4 x5 k1 k2
                  rw [List.length_append, List.length_singleton] at k1 k2
                  have hlv : nI ((pr ++ [i]).length - 1) + (-1) = nI (pr.length - 1) := by
                    rw [hlen, show nI pr.length = nI (pr.length - 1) + 1 from by rw [nI_1]; congr 1; omega]
                    rw [Int32.add_assoc, show (1 : Int32) + (-1) = 0 from by decide, add_0]
                  have hr2 : ∀ k, k < pr.length → r2 k = row k := fun k hk => (k1 k (by omega)).trans (upd_ne (by omega))
                  have ht2 : ∀ k, k < pr.length → t2 k = (upd tr (pr.length - 1) (nI i)) k := fun k hk => (k2 k (by omega)).trans (upd_ne (by omega))
                  rw [hlv]
                  exact ih (i + 1) r2 t2 _ _ (by omega) ⟨rowP_cg hrow hr2, by rw [ht2 _ (by omega), show (upd tr (pr.length - 1) (nI i)) (pr.length - 1) = nI i from if_pos rfl, show nI (i + 1) = nI i + 1 from (nI_1 i).symm]; exact (Int32.add_sub_cancel _ _).symm, hdn, fun n r3 t3 x4 x5 k3 k4 => hup n r3 t3 x4 x5 (fun k hk => (k3 k hk).trans (hr2 k (by omega))) (fun k hk => (k4 k hk).trans ((ht2 k (by omega)).trans (upd_ne (by omega))))⟩
              · exact absurd h132 (by decide)
      · exact absurd (nI_ij h57 (by omega) (by omega)) (by omega)

set_option maxRecDepth 100000 in
set_option maxHeartbeats 4000000 in
theorem l_row_exit {a g x : Nat} {pr : List Nat} {ff row tr : Nat → Int32} {w4 w5 : Option Value} (h7 : pr.length ≤ 7) (h0_ : 0 < pr.length) (hrd : row (pr.length - 1) = nI x) (c2 : x = g) (hK : Q none (hM m_at m_names m_status m_top m_bottom m_sort m_trayMany m_trays m_tape m_text m_taped m_size m_token m_from m_end m_value m_faultKind m_faultPlace m_faults m_seen m_areOdds m_opened m_depth m_counted m_eastBy m_northBy m_partBy m_wayFaults m_wayEast m_wayNorth m_olds m_wayMany m_oneOfSet m_twoOfSet (ff) (row) (tr) (nI pr.length) m_doneAt m_gotAt m_struckAt m_bestDeed m_misBy m_drawn m_ranSteps m_loops m_ran m_told1 m_isTold m_marks)) : WP Γ M_Mo_laysRow 6 0 0 (hM m_at m_names m_status m_top m_bottom m_sort m_trayMany m_trays m_tape m_text m_taped m_size m_token m_from m_end m_value m_faultKind m_faultPlace m_faults m_seen m_areOdds m_opened m_depth m_counted m_eastBy m_northBy m_partBy m_wayFaults m_wayEast m_wayNorth m_olds m_wayMany m_oneOfSet m_twoOfSet (ff) (row) (tr) m_rowMany m_doneAt m_gotAt m_struckAt m_bestDeed m_misBy m_drawn m_ranSteps m_loops m_ran m_told1 m_isTold m_marks) 21 [some (.ref 0), some (.int (nI a)), some (.int (nI g)), some (.int (nI (pr.length - 1))), w4, w5] [] Q := by
  refine wp_aload_n 22 d_Mo_laysRow_21 rfl rfl ?_
  refine wp_getfield 25 12 35 d_Mo_laysRow_22 rfl fl_Mo_71 rfl rfl ?_
  refine wp_iload_n 26 d_Mo_laysRow_25 rfl rfl ?_
  refine wp_ialoadN 27 d_Mo_laysRow_26 rfl rfl rfl (by omega) ?_
  rw [hrd]
  refine wp_iload_n 28 d_Mo_laysRow_27 rfl rfl ?_
  refine wp_icmp_eq 159 31 d_Mo_laysRow_28 rfl (by decide) (fun h28 => ?_) (fun h28 => ?_)
  · refine wp_aload_n 160 d_Mo_laysRow_159 rfl rfl ?_
    refine wp_iload_n 161 d_Mo_laysRow_160 rfl rfl ?_
    refine wp_iconst 162 1 d_Mo_laysRow_161 rfl (by decide) ?_
    refine wp_iadd 163 d_Mo_laysRow_162 rfl ?_
    rw [show nI (pr.length - 1) + 1 = nI pr.length from by rw [nI_1]; congr 1; omega]
    refine wp_putfield 166 12 37 _ d_Mo_laysRow_163 rfl fp_Mo_431 rfl rfl (okP_int _) ?_
    refine hEq (hM m_at m_names m_status m_top m_bottom m_sort m_trayMany m_trays m_tape m_text m_taped m_size m_token m_from m_end m_value m_faultKind m_faultPlace m_faults m_seen m_areOdds m_opened m_depth m_counted m_eastBy m_northBy m_partBy m_wayFaults m_wayEast m_wayNorth m_olds m_wayMany m_oneOfSet m_twoOfSet (ff) (row) (tr) (nI pr.length) m_doneAt m_gotAt m_struckAt m_bestDeed m_misBy m_drawn m_ranSteps m_loops m_ran m_told1 m_isTold m_marks) rfl ?_
    refine wp_return d_Mo_laysRow_166 rfl ?_
    exact hK
  · exact absurd (by rw [c2]) h28
theorem l_row_node (V : vT m_at t) {a g : Nat} {ff : Nat → Int32} (hg : g < 7) (hff : ∀ p, p < 7 → ff p = nI (farF t g p)) : ∀ (f : Nat) (pr : List Nat) (x : Nat), pr.length + f = 7 → pr.Nodup → (∀ y, y ∈ pr → y < t.nP) → pr.getD (pr.length - 1) 0 = x → 0 < pr.length → (∀ (row tr : Nat → Int32) (w4 w5 : Option Value), rowP row (pr) → tr ((pr).length - 1) = -1 → (∀ q, TP t g (farF t g) f x pr = some q → (∀ r2 t2 : Nat → Int32, rowP r2 (pr ++ q) → Q none (hM m_at m_names m_status m_top m_bottom m_sort m_trayMany m_trays m_tape m_text m_taped m_size m_token m_from m_end m_value m_faultKind m_faultPlace m_faults m_seen m_areOdds m_opened m_depth m_counted m_eastBy m_northBy m_partBy m_wayFaults m_wayEast m_wayNorth m_olds m_wayMany m_oneOfSet m_twoOfSet (ff) (r2) (t2) (nI (pr ++ q).length) m_doneAt m_gotAt m_struckAt m_bestDeed m_misBy m_drawn m_ranSteps m_loops m_ran m_told1 m_isTold m_marks))) → (TP t g (farF t g) f x pr = none → (∀ (r2 t2 : Nat → Int32) (x4 x5 : Option Value), (∀ k, k + 1 < (pr).length → r2 k = row k) → (∀ k, k + 1 < (pr).length → t2 k = tr k) → WP Γ M_Mo_laysRow 6 0 0 (hM m_at m_names m_status m_top m_bottom m_sort m_trayMany m_trays m_tape m_text m_taped m_size m_token m_from m_end m_value m_faultKind m_faultPlace m_faults m_seen m_areOdds m_opened m_depth m_counted m_eastBy m_northBy m_partBy m_wayFaults m_wayEast m_wayNorth m_olds m_wayMany m_oneOfSet m_twoOfSet (ff) (r2) (t2) m_rowMany m_doneAt m_gotAt m_struckAt m_bestDeed m_misBy m_drawn m_ranSteps m_loops m_ran m_told1 m_isTold m_marks) 21 [some (.ref 0), some (.int (nI a)), some (.int (nI g)), some (.int (nI ((pr).length - 1) + (-1))), x4, x5] [] Q)) → WP Γ M_Mo_laysRow 6 0 0 (hM m_at m_names m_status m_top m_bottom m_sort m_trayMany m_trays m_tape m_text m_taped m_size m_token m_from m_end m_value m_faultKind m_faultPlace m_faults m_seen m_areOdds m_opened m_depth m_counted m_eastBy m_northBy m_partBy m_wayFaults m_wayEast m_wayNorth m_olds m_wayMany m_oneOfSet m_twoOfSet (ff) (row) (tr) m_rowMany m_doneAt m_gotAt m_struckAt m_bestDeed m_misBy m_drawn m_ranSteps m_loops m_ran m_told1 m_isTold m_marks) 21 [some (.ref 0), some (.int (nI a)), some (.int (nI g)), some (.int (nI ((pr).length - 1))), w4, w5] [] Q) := by
  have hP := V.ok.hP
  intro f
  induction f with
  | zero =>
    intro pr x hl hnd hin hlast h0_ row tr w4 w5 hrow htr hdn hup
    have hxin : x ∈ pr := mem_getD.mpr ⟨pr.length - 1, by omega, hlast⟩
    have hx7 : x < 7 := by have := hin x hxin; omega
    have hrd : row (pr.length - 1) = nI x := by rw [hrow _ (by omega), hlast]
    by_cases c2 : x = g
    · have := hdn [] (TP_goal c2)
      rw [List.append_nil] at this
      exact l_row_exit (by omega) h0_ hrd c2 (this row tr hrow)
    · have hall : ∀ i, i < t.nP → i ∈ pr := fun i hi => by
        refine Classical.byContradiction (fun z => ?_)
        have := pigeon 7 (i :: pr) (List.nodup_cons.mpr ⟨z, hnd⟩) (fun y hy => by
          rcases List.mem_cons.mp hy with w | w
          · rw [w]; omega
          · have := hin y w; omega)
        simp only [List.length_cons] at this
        omega
      have e0 : ∀ (r i : Nat), tpI (fun _ => none) r i = none := by
        intro r
        induction r with
        | zero => intro i; rfl
        | succ r ih => intro i; simp only [tpI]; exact ih (i + 1)
      refine l_Mo_laysRow_21 V (c := fun _ => none) hg hP hff (by omega) h0_ (fun y hy => by have := hin y hy; omega) hx7 hlast c2 (fun _ _ _ => rfl) (fun i hi hc => absurd (hall i hi) hc.1) t.nP 0 row tr w4 w5 (by omega) ⟨hrow, by rw [htr]; decide, fun q hq9 => ?_, fun _ => hup (TP_0 c2)⟩
      rw [e0] at hq9; cases hq9
  | succ f ih =>
    intro pr x hl hnd hin hlast h0_ row tr w4 w5 hrow htr hdn hup
    have hxin : x ∈ pr := mem_getD.mpr ⟨pr.length - 1, by omega, hlast⟩
    have hx7 : x < 7 := by have := hin x hxin; omega
    have hrd : row (pr.length - 1) = nI x := by rw [hrow _ (by omega), hlast]
    by_cases c2 : x = g
    · have := hdn [] (TP_goal c2)
      rw [List.append_nil] at this
      exact l_row_exit (by omega) h0_ hrd c2 (this row tr hrow)
    · rw [TP_s c2] at hdn hup
      refine l_Mo_laysRow_21 V (c := tpC t g (farF t g) f x pr) hg hP hff (by omega) h0_ (fun y hy => by have := hin y hy; omega) hx7 hlast c2 (fun i _ hc => if_neg hc) (fun i hi hc => ?_) t.nP 0 row tr w4 w5 (by omega) ⟨hrow, by rw [htr]; decide, hdn, hup⟩
      have ec : tpC t g (farF t g) f x pr i = TP t g (farF t g) f i (pr ++ [i]) := if_pos hc
      rw [ec]
      refine ih (pr ++ [i]) i (by rw [List.length_append, List.length_singleton]; omega) ?_ (fun y hy => ?_) ?_ (by rw [List.length_append, List.length_singleton]; omega)
      · rw [List.nodup_append]
        refine ⟨hnd, by simp, ?_⟩
        intro y hy z hz
        rw [show z = i by simpa using hz]
        exact fun w => hc.1 (by rw [← w]; exact hy)
      · rcases List.mem_append.mp hy with w | w
        · exact hin y w
        · rw [show y = i by simpa using w]; exact hi
      · rw [List.length_append, List.length_singleton, Nat.add_sub_cancel, List.getD_eq_getElem?_getD, List.getElem?_append_right (Nat.le_refl _), Nat.sub_self]; rfl
set_option maxRecDepth 100000 in
set_option maxHeartbeats 4000000 in
theorem c_Mo_laysRow {a g : Nat} {r : List Nat} (V : vT m_at t) (ha : a < t.nP) (hg : g < 7) (hr : TP t g (farF t g) 6 a [a] = some r) (hq : ∀ f2 r2 t2, rowP r2 (a :: r) → Q none (hM m_at m_names m_status m_top m_bottom m_sort m_trayMany m_trays m_tape m_text m_taped m_size m_token m_from m_end m_value m_faultKind m_faultPlace m_faults m_seen m_areOdds m_opened m_depth m_counted m_eastBy m_northBy m_partBy m_wayFaults m_wayEast m_wayNorth m_olds m_wayMany m_oneOfSet m_twoOfSet (f2) (r2) (t2) (nI (1 + r.length)) m_doneAt m_gotAt m_struckAt m_bestDeed m_misBy m_drawn m_ranSteps m_loops m_ran m_told1 m_isTold m_marks)) : Call Γ M_Mo_laysRow 6 0 0 [.ref 0, .int (nI a), .int (nI g)] (hM m_at m_names m_status m_top m_bottom m_sort m_trayMany m_trays m_tape m_text m_taped m_size m_token m_from m_end m_value m_faultKind m_faultPlace m_faults m_seen m_areOdds m_opened m_depth m_counted m_eastBy m_northBy m_partBy m_wayFaults m_wayEast m_wayNorth m_olds m_wayMany m_oneOfSet m_twoOfSet m_farBy m_rowBy m_triedBy m_rowMany m_doneAt m_gotAt m_struckAt m_bestDeed m_misBy m_drawn m_ranSteps m_loops m_ran m_told1 m_isTold m_marks) Q := by
  refine call_intro (ls := [some (.ref 0), some (.int (nI a)), some (.int (nI g)), none, none, none]) rfl rfl rfl ?_
  refine wp_aload_n 1 d_Mo_laysRow_0 rfl rfl ?_
  refine wp_iload_n 2 d_Mo_laysRow_1 rfl rfl ?_
  refine wp_V1 5 M_Mo_laysFar 5 d_Mo_laysRow_2 rfl mv_Mo_laysFar lk_Mo_422 rfl rfl rfl rfl rfl ?_
  refine c_Mo_laysFar V hg (fun f2 h2 => ?_)
  refine kV ?_
  refine wp_iconst 6 0 d_Mo_laysRow_5 rfl (by decide) ?_
  refine wp_istore_3 7 d_Mo_laysRow_6 rfl rfl rfl ?_
  refine wp_aload_n 8 d_Mo_laysRow_7 rfl rfl ?_
  refine wp_getfield 11 12 35 d_Mo_laysRow_8 rfl fl_Mo_71 rfl rfl ?_
  refine wp_iconst 12 0 d_Mo_laysRow_11 rfl (by decide) ?_
  refine wp_iload_n 13 d_Mo_laysRow_12 rfl rfl ?_
  refine wp_iastore 14 d_Mo_laysRow_13 rfl rfl (vp_in_nI (n := 0) (N := 8) (by omega) (by omega)) ?_
  refine hEq (hM m_at m_names m_status m_top m_bottom m_sort m_trayMany m_trays m_tape m_text m_taped m_size m_token m_from m_end m_value m_faultKind m_faultPlace m_faults m_seen m_areOdds m_opened m_depth m_counted m_eastBy m_northBy m_partBy m_wayFaults m_wayEast m_wayNorth m_olds m_wayMany m_oneOfSet m_twoOfSet (f2) (upd m_rowBy 0 (nI a)) m_triedBy m_rowMany m_doneAt m_gotAt m_struckAt m_bestDeed m_misBy m_drawn m_ranSteps m_loops m_ran m_told1 m_isTold m_marks) rfl ?_
  refine wp_aload_n 15 d_Mo_laysRow_14 rfl rfl ?_
  refine wp_getfield 18 12 36 d_Mo_laysRow_15 rfl fl_Mo_74 rfl rfl ?_
  refine wp_iconst 19 0 d_Mo_laysRow_18 rfl (by decide) ?_
  refine wp_iconst 20 (-1) d_Mo_laysRow_19 rfl (by decide) ?_
  refine wp_iastore 21 d_Mo_laysRow_20 rfl rfl (vp_in_nI (n := 0) (N := 8) (by omega) (by omega)) ?_
  refine hEq (hM m_at m_names m_status m_top m_bottom m_sort m_trayMany m_trays m_tape m_text m_taped m_size m_token m_from m_end m_value m_faultKind m_faultPlace m_faults m_seen m_areOdds m_opened m_depth m_counted m_eastBy m_northBy m_partBy m_wayFaults m_wayEast m_wayNorth m_olds m_wayMany m_oneOfSet m_twoOfSet (f2) (upd m_rowBy 0 (nI a)) (upd m_triedBy 0 (-1)) m_rowMany m_doneAt m_gotAt m_struckAt m_bestDeed m_misBy m_drawn m_ranSteps m_loops m_ran m_told1 m_isTold m_marks) rfl ?_
  refine l_row_node V hg h2 6 [a] a rfl (by simp) (fun y hy => by rw [show y = a by simpa using hy]; exact ha) rfl (by simp) (upd m_rowBy 0 (nI a)) (upd m_triedBy 0 (-1)) none none ?_ rfl ?_ ?_
  · intro k hk
    have : k = 0 := by simpa using hk
    subst this; exact (show upd m_rowBy 0 (nI a) 0 = nI a from if_pos rfl)
  · intro q hq9 r2 t2 hr2
    rw [hr] at hq9
    simp only [Option.some.injEq] at hq9
    subst hq9
    have := hq f2 r2 t2 hr2
    rw [show ([a] ++ r).length = 1 + r.length from by simp; omega]
    exact this
  · intro hq9
    rw [hr] at hq9; cases hq9

set_option maxRecDepth 100000 in
set_option maxHeartbeats 4000000 in
theorem c_Mo_wayAt {a b k : Int32} (V : vT m_at t) (W : WT) (hq : ∀ f2 r2 t2 q2, Q (some (.int (wkF t W a b k).2)) (hM m_at m_names ((wkF t W a b k).1) m_top m_bottom m_sort m_trayMany m_trays m_tape m_text m_taped m_size m_token m_from m_end m_value m_faultKind m_faultPlace m_faults m_seen m_areOdds m_opened m_depth m_counted m_eastBy m_northBy m_partBy m_wayFaults m_wayEast m_wayNorth m_olds m_wayMany m_oneOfSet m_twoOfSet (f2) (r2) (t2) (q2) m_doneAt m_gotAt m_struckAt m_bestDeed m_misBy m_drawn m_ranSteps m_loops m_ran m_told1 m_isTold m_marks)) : Call Γ M_Mo_wayAt 7 0 0 [.ref 0, .int a, .int b, .int k] (hM m_at m_names m_status m_top m_bottom m_sort m_trayMany m_trays m_tape m_text m_taped m_size m_token m_from m_end m_value m_faultKind m_faultPlace m_faults m_seen m_areOdds m_opened m_depth m_counted m_eastBy m_northBy m_partBy m_wayFaults m_wayEast m_wayNorth m_olds m_wayMany m_oneOfSet m_twoOfSet m_farBy m_rowBy m_triedBy m_rowMany m_doneAt m_gotAt m_struckAt m_bestDeed m_misBy m_drawn m_ranSteps m_loops m_ran m_told1 m_isTold m_marks) Q := by
  refine call_intro (ls := [some (.ref 0), some (.int a), some (.int b), some (.int k)]) rfl rfl rfl ?_
  refine wp_aload_n 1 d_Mo_wayAt_0 rfl rfl ?_
  refine wp_iload_n 2 d_Mo_wayAt_1 rfl rfl ?_
  refine wp_iload_n 3 d_Mo_wayAt_2 rfl rfl ?_
  refine wp_V2 6 M_Mo_areTwo 2 d_Mo_wayAt_3 rfl mv_Mo_areTwo lk_Mo_349 rfl rfl rfl rfl rfl ?_
  refine c_Mo_areTwo V ?_
  refine kI ?_
  (first | refine wp_ifP_eq 13 9 d_Mo_wayAt_6 rfl (by decide) (fun h6 => ?_) (fun h6 => ?_) | refine wp_if_eq 13 9 d_Mo_wayAt_6 rfl (by decide) (fun h6 => ?_) (fun h6 => ?_))
  · refine wp_aload_n 14 d_Mo_wayAt_13 rfl rfl ?_
    refine wp_iconst 15 1 d_Mo_wayAt_14 rfl (by decide) ?_
    refine wp_V1 18 M_Mo_refuse 1 d_Mo_wayAt_15 rfl mv_Mo_refuse lk_Mo_111 rfl rfl rfl rfl rfl ?_
    refine c_Mo_refuse ?_
    refine kI ?_
    refine wp_ireturn d_Mo_wayAt_18 rfl ?_
    have e : wkF t W a b k = _ := (if_neg (fun y => h6 y.1))
    have h9 := hq m_farBy m_rowBy m_triedBy m_rowMany
    rw [e] at h9
    exact h9
  · refine wp_iload_n 10 d_Mo_wayAt_9 rfl rfl ?_
    refine wp_if_ge 19 13 d_Mo_wayAt_10 rfl (by decide) (fun h10 => ?_) (fun h10 => ?_)
    · obtain ⟨x, hx, rfl⟩ := inR_ex h6.1 (by have := V.ok.hP; omega)
      obtain ⟨g, hg, rfl⟩ := inR_ex h6.2.1 (by have := V.ok.hP; omega)
      have hP7 := V.ok.hP
      have F9 := FP_F V.ok V.in_ g
      obtain ⟨B1, B2⟩ := way_both V.ok V.in_ F9 hx
      obtain ⟨W1, W2⟩ := wy_B V.ok V.in_ hx (show g < 7 by omega) W
      have cx := farF_c V.ok V.in_ g x
      have hI := INF_v
      refine wp_aload_n 20 d_Mo_wayAt_19 rfl rfl ?_
      refine wp_iload_n 21 d_Mo_wayAt_20 rfl rfl ?_
      refine wp_V1 24 M_Mo_laysFar 5 d_Mo_wayAt_21 rfl mv_Mo_laysFar lk_Mo_422 rfl rfl rfl rfl rfl ?_
      refine c_Mo_laysFar V (by omega) (fun f2 h2 => ?_)
      refine kV ?_
      refine wp_aload_n 25 d_Mo_wayAt_24 rfl rfl ?_
      refine wp_getfield 28 12 34 d_Mo_wayAt_25 rfl fl_Mo_68 rfl rfl ?_
      refine wp_iload_n 29 d_Mo_wayAt_28 rfl rfl ?_
      refine wp_ialoadN 30 d_Mo_wayAt_29 rfl rfl rfl (by omega) ?_
      rw [h2 x (by omega)]
      refine wp_ldcw 33 (100000000 : Int32) d_Mo_wayAt_30 rfl ct_Mo_418 ?_
      refine wp_icmp_lt 43 36 d_Mo_wayAt_33 rfl (by decide) (fun h33 => ?_) (fun h33 => ?_)
      · obtain ⟨r9, q1, qT⟩ := B1 ((nI_ltI (by omega) (by omega)).mp (by rw [← INF_e]; exact h33))
        obtain ⟨q3, q2, q4⟩ := W2 _ _ q1
        have hrl := (BP_ok V.ok V.in_ 6 x [x] _ _ q1).2.2.2.2
        refine wp_aload_n 44 d_Mo_wayAt_43 rfl rfl ?_
        refine wp_iload_n 45 d_Mo_wayAt_44 rfl rfl ?_
        refine wp_iload_n 46 d_Mo_wayAt_45 rfl rfl ?_
        refine wp_V2 49 M_Mo_laysRow 6 d_Mo_wayAt_46 rfl mv_Mo_laysRow lk_Mo_434 rfl rfl rfl rfl rfl ?_
        refine c_Mo_laysRow V hx (by omega) qT (fun f3 r3 t3 hr3 => ?_)
        refine kV ?_
        refine wp_iload_n 50 d_Mo_wayAt_49 rfl rfl ?_
        refine wp_aload_n 51 d_Mo_wayAt_50 rfl rfl ?_
        refine wp_getfield 54 12 37 d_Mo_wayAt_51 rfl fl_Mo_431 rfl rfl ?_
        refine wp_icmp_lt 66 57 d_Mo_wayAt_54 rfl (by decide) (fun h54 => ?_) (fun h54 => ?_)
        · obtain ⟨kk, hkk, rfl⟩ := inR_ex (n := 1 + r9.length) ⟨h10, h54⟩ (by omega)
          have ekk : (tWy t (nI x) (nI g) W).2.1 (nI kk).toNatClampNeg = r3 kk := by
            rw [nI_clamp (by omega), q3 kk (by simp only [List.length_cons]; omega), hr3 kk (by simp only [List.length_cons]; omega)]
          refine wp_aload_n 67 d_Mo_wayAt_66 rfl rfl ?_
          refine wp_aload_n 68 d_Mo_wayAt_67 rfl rfl ?_
          refine wp_getfield 71 12 35 d_Mo_wayAt_68 rfl fl_Mo_71 rfl rfl ?_
          refine wp_iload_n 72 d_Mo_wayAt_71 rfl rfl ?_
          refine wp_ialoadN 73 d_Mo_wayAt_72 rfl rfl rfl (by omega) ?_
          refine wp_V1 76 M_Mo_gives 1 d_Mo_wayAt_73 rfl mv_Mo_gives lk_Mo_115 rfl rfl rfl rfl rfl ?_
          refine c_Mo_gives ?_
          refine kI ?_
          refine wp_ireturn d_Mo_wayAt_76 rfl ?_
          have e : wkF t W (nI x) (nI g) (nI kk) = _ := (((if_pos ⟨h6, Int32.not_lt.mpr h10⟩).trans (if_neg (fun y => y.elim (by rw [q2]; exact nI_ne1 (by omega)) (by rw [q4]; exact Int32.not_le.mpr h54)))).trans (congrArg (Prod.mk 0) ekk))
          have h9 := hq f3 r3 t3 (nI (1 + r9.length))
          rw [e] at h9
          exact h9
        · refine wp_aload_n 58 d_Mo_wayAt_57 rfl rfl ?_
          refine wp_bipush 60 6 d_Mo_wayAt_58 rfl (by decide) ?_
          refine wp_V1 63 M_Mo_refuse 1 d_Mo_wayAt_60 rfl mv_Mo_refuse lk_Mo_111 rfl rfl rfl rfl rfl ?_
          refine c_Mo_refuse ?_
          refine kI ?_
          refine wp_goto 76 d_Mo_wayAt_63 (by decide) ?_
          refine wp_ireturn d_Mo_wayAt_76 rfl ?_
          have e : wkF t W (nI x) (nI g) k = _ := ((if_pos ⟨h6, Int32.not_lt.mpr h10⟩).trans (if_pos (Or.inr (by rw [q4]; exact Int32.not_lt.mp h54))))
          have h9 := hq f3 r3 t3 (nI (1 + r9.length))
          rw [e] at h9
          exact h9
      · refine wp_aload_n 37 d_Mo_wayAt_36 rfl rfl ?_
        refine wp_bipush 39 6 d_Mo_wayAt_37 rfl (by decide) ?_
        refine wp_V1 42 M_Mo_refuse 1 d_Mo_wayAt_39 rfl mv_Mo_refuse lk_Mo_111 rfl rfl rfl rfl rfl ?_
        refine c_Mo_refuse ?_
        refine kI ?_
        refine wp_ireturn d_Mo_wayAt_42 rfl ?_
        have e : wkF t W (nI x) (nI g) k = _ := ((if_pos ⟨h6, Int32.not_lt.mpr h10⟩).trans (if_pos (Or.inl (W1 (B2 (fun y => h33 (by rw [INF_e]; exact (nI_ltI (by omega) (by omega)).mpr y)))))))
        have h9 := hq f2 m_rowBy m_triedBy m_rowMany
        rw [e] at h9
        exact h9
    · refine wp_aload_n 14 d_Mo_wayAt_13 rfl rfl ?_
      refine wp_iconst 15 1 d_Mo_wayAt_14 rfl (by decide) ?_
      refine wp_V1 18 M_Mo_refuse 1 d_Mo_wayAt_15 rfl mv_Mo_refuse lk_Mo_111 rfl rfl rfl rfl rfl ?_
      refine c_Mo_refuse ?_
      refine kI ?_
      refine wp_ireturn d_Mo_wayAt_18 rfl ?_
      have e : wkF t W a b k = _ := (if_neg (fun y => y.2 (Int32.not_le.mp h10)))
      have h9 := hq m_farBy m_rowBy m_triedBy m_rowMany
      rw [e] at h9
      exact h9

end TA1
