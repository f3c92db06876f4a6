/-! ===== the reference: pour ===== -/
def poK (p a m i : Nat) : Nat := if p < a then m - 1 - i else i
def poG (kf p kt a m : Nat) (i : Nat) (f : Nat → Int64) : Nat → Int64 := vp_updL f (60 * kt + a + poK p a m i) (f (60 * kf + p + poK p a m i))
/-- which places are poured already -/
def poD (p a m i k : Nat) : Prop := if p < a then m - i ≤ k ∧ k < m else k < i
theorem poG_at {kf p kt a m : Nat} {f0 : Nat → Int64} (hf : p + m ≤ 60) (ht : a + m ≤ 60) : ∀ (r i : Nat) (f : Nat → Int64), i + r = m → (∀ k, k < m → poD p a m i k → f (60 * kt + a + k) = f0 (60 * kf + p + k)) → (∀ j, (∀ k, k < m → poD p a m i k → ¬ j = 60 * kt + a + k) → f j = f0 j) → ∀ j, iterN (poG kf p kt a m) r i f j = if 60 * kt + a ≤ j ∧ j < 60 * kt + a + m then f0 (60 * kf + p + (j - (60 * kt + a))) else f0 j
  | 0, i, f, hi, h1, h2, j => by
    have hall : ∀ k, k < m → poD p a m i k := by
      intro k hk
      unfold poD
      split <;> omega
    simp only [iterN]
    by_cases z : 60 * kt + a ≤ j ∧ j < 60 * kt + a + m
    · rw [if_pos z]
      have := h1 (j - (60 * kt + a)) (by omega) (hall _ (by omega))
      rw [show 60 * kt + a + (j - (60 * kt + a)) = j by omega] at this
      exact this
    · rw [if_neg z]
      exact h2 j (fun k hk _ e => z (by omega))
  | r + 1, i, f, hi, h1, h2, j => by
    simp only [iterN]
    have hkm : poK p a m i < m := by unfold poK; split <;> omega
    have hst : ∀ k, k < m → (poD p a m (i + 1) k ↔ poD p a m i k ∨ k = poK p a m i) := by
      intro k hk
      unfold poD poK
      by_cases z : p < a
      · rw [if_pos z, if_pos z, if_pos z]; omega
      · rw [if_neg z, if_neg z, if_neg z]; omega
    have hnew : ¬ poD p a m i (poK p a m i) := by
      unfold poD poK
      by_cases z : p < a
      · rw [if_pos z, if_pos z]; omega
      · rw [if_neg z, if_neg z]; omega
    have hread : f (60 * kf + p + poK p a m i) = f0 (60 * kf + p + poK p a m i) := by
      apply h2
      intro k hk hd e
      unfold poD poK at *
      by_cases z : p < a
      · rw [if_pos z] at hd e hkm; omega
      · rw [if_neg z] at hd e hkm; omega
    refine poG_at hf ht r (i + 1) _ (by omega) ?_ ?_ j
    · intro k hk hd
      show vp_updL f _ _ _ = _
      rcases (hst k hk).mp hd with z | z
      · rw [show vp_updL f (60 * kt + a + poK p a m i) (f (60 * kf + p + poK p a m i)) (60 * kt + a + k) = f (60 * kt + a + k) from if_neg (fun e => hnew (by rw [show poK p a m i = k by omega]; exact z))]
        exact h1 k hk z
      · rw [z]
        exact (if_pos rfl).trans hread
    · intro j hj
      have e : ¬ j = 60 * kt + a + poK p a m i := hj _ hkm ((hst _ hkm).mpr (Or.inr rfl))
      exact (show vp_updL f (60 * kt + a + poK p a m i) (f (60 * kf + p + poK p a m i)) j = f j from if_neg e).trans (h2 j (fun k hk hd => hj k hk ((hst k hk).mpr (Or.inl hd))))
theorem poG_all {kf p kt a m : Nat} {f : Nat → Int64} (hf : p + m ≤ 60) (ht : a + m ≤ 60) (j : Nat) : iterN (poG kf p kt a m) m 0 f j = if 60 * kt + a ≤ j ∧ j < 60 * kt + a + m then f (60 * kf + p + (j - (60 * kt + a))) else f j := by
  refine poG_at hf ht m 0 f (by omega) ?_ (fun j _ => rfl) j
  intro k hk hd
  unfold poD at hd
  split at hd <;> omega
theorem vY_pour {so tm : Nat → Int32} {tr : Nat → Int64} {Y : Nat → YT} (v : vY so tm tr Y) {kf p kt a m : Nat} (hkf : kf < 4) (hkt : kt < 4) (zf : ¬ (Y kf).yth = 0) (zt : ¬ (Y kt).yth = 0) (hf : p + m ≤ (Y kf).nM) (ht : a + m ≤ (Y kt).nM) : vY so tm (iterN (poG kf p kt a m) m 0 tr) (poY Y kf p kt a m) := by
  intro j hj
  obtain ⟨g1, g2, g3, g4⟩ := v j hj
  have f3 := (v kf hkf).2.2.1
  have f4 := (v kf hkf).2.2.2
  have t3 := (v kt hkt).2.2.1
  by_cases e : j = kt
  · subst e
    rw [show poY Y kf p j a m j = YT.mk (va_cpy (Y kf).yn (Y j).yn p a m) (Y j).yth (Y j).yso (Y j).nM from if_pos rfl]
    refine ⟨g1, g2, g3, fun i hi hz => ?_⟩
    have hi2 : i < (Y j).nM := hi
    rw [poG_all (by omega) (by omega)]
    show _ = if a ≤ i ∧ i < a + m then (Y kf).yn (p + (i - a)) else (Y j).yn i
    by_cases z : a ≤ i ∧ i < a + m
    · rw [if_pos (by omega), if_pos z, ← f4 (p + (i - a)) (by omega) zf]
      congr 1
      omega
    · rw [if_neg (by omega), if_neg z]
      exact g4 i hi zt
  · rw [show poY Y kf p kt a m j = Y j from if_neg e]
    refine ⟨g1, g2, g3, fun i hi hz => ?_⟩
    rw [poG_all (by omega) (by omega), if_neg (by omega)]
    exact g4 i hi hz
theorem subN {n p : Nat} (hn : n ≤ 60) (hp : p < 2 ^ 31) {m : Nat} (hm : m < 2 ^ 31) : nI n - nI p < nI m ↔ ¬ p + m ≤ n := by
  rw [Int32.lt_iff_toInt_lt, Int32.toInt_sub, nI_toInt (by omega), nI_toInt hp, nI_toInt hm]
  rw [show ((n : Int) - (p : Int)).bmod (2 ^ 32) = (n : Int) - p from by apply Int.bmod_eq_of_le <;> omega]
  omega
section T90
variable {Γ : Gm} {Q : Option Value → LH → Prop} {m_at m_sort m_trayMany m_tape m_text m_opened m_eastBy m_northBy m_partBy m_wayFaults m_wayEast m_wayNorth m_olds m_farBy m_rowBy m_triedBy m_doneAt m_gotAt m_struckAt m_bestDeed m_loops m_ran m_told1 : Nat → Int32} {m_names m_trays m_misBy : Nat → Int64} {m_status m_taped m_size m_token m_from m_end m_value m_faultKind m_faultPlace m_faults m_seen m_areOdds m_depth m_counted m_wayMany m_oneOfSet m_twoOfSet m_rowMany m_drawn m_ranSteps m_isTold m_marks : Int32} {m_top m_bottom : Int64} {Y : Nat → YT}
set_option maxRecDepth 100000 in
set_option maxHeartbeats 4000000 in
theorem l_Mo_pour_118 {kf p kt a m : Nat} (hkf : kf < 4) (hkt : kt < 4) (hf : p + m ≤ 60) (ht : a + m ≤ 60) : ∀ (r i : Nat) (f : Nat → Int64) (w7 : Option Value), i + r = m → (∀ x7 : Option Value, WP Γ M_Mo_pour 2 0 0 (hM m_at m_names m_status m_top m_bottom m_sort m_trayMany (iterN (poG kf p kt a m) r i f) m_tape m_text m_taped m_size m_token m_from m_end m_value m_faultKind m_faultPlace m_faults m_seen m_areOdds m_opened m_depth m_counted m_eastBy m_northBy m_partBy m_wayFaults m_wayEast m_wayNorth m_olds m_wayMany m_oneOfSet m_twoOfSet m_farBy m_rowBy m_triedBy m_rowMany m_doneAt m_gotAt m_struckAt m_bestDeed m_misBy m_drawn m_ranSteps m_loops m_ran m_told1 m_isTold m_marks) 180 [some (.ref 0), some (.int (nI kf)), some (.int (nI p)), some (.int (nI kt)), some (.int (nI a)), some (.int (nI m)), some (.int (nI m)), x7] [] Q) → WP Γ M_Mo_pour 2 0 0 (hM m_at m_names m_status m_top m_bottom m_sort m_trayMany (f) m_tape m_text m_taped m_size m_token m_from m_end m_value m_faultKind m_faultPlace m_faults m_seen m_areOdds m_opened m_depth m_counted m_eastBy m_northBy m_partBy m_wayFaults m_wayEast m_wayNorth m_olds m_wayMany m_oneOfSet m_twoOfSet m_farBy m_rowBy m_triedBy m_rowMany m_doneAt m_gotAt m_struckAt m_bestDeed m_misBy m_drawn m_ranSteps m_loops m_ran m_told1 m_isTold m_marks) 118 [some (.ref 0), some (.int (nI kf)), some (.int (nI p)), some (.int (nI kt)), some (.int (nI a)), some (.int (nI m)), some (.int (nI i)), w7] [] Q := by
  intro r
  induction r with
  | zero =>
    intro i f w7 hi hinv
    have hq := hinv
    refine wp_iload 120 d_Mo_pour_118 rfl rfl ?_
    refine wp_iload 122 d_Mo_pour_120 rfl rfl ?_
    refine wp_icmp_ge 180 125 d_Mo_pour_122 rfl (by decide) (fun h122 => ?_) (fun h122 => ?_)
    · have e : i = m := by omega
      subst e
      exact hq _
    · exact absurd ((nI_leI (a := m) (by omega) (by omega)).mpr (by omega)) h122
  | succ r ih =>
    intro i f w7 hi hinv
    have hq := hinv
    refine wp_iload 120 d_Mo_pour_118 rfl rfl ?_
    refine wp_iload 122 d_Mo_pour_120 rfl rfl ?_
    refine wp_icmp_ge 180 125 d_Mo_pour_122 rfl (by decide) (fun h122 => ?_) (fun h122 => ?_)
    · exact absurd (nI_leN (b := m) h122 (by omega) (by omega)) (by omega)
    · refine wp_iload_n 126 d_Mo_pour_125 rfl rfl ?_
      refine wp_iload 128 d_Mo_pour_126 rfl rfl ?_
      refine wp_icmp_ge 141 131 d_Mo_pour_128 rfl (by decide) (fun h128 => ?_) (fun h128 => ?_)
      · refine wp_iload 143 d_Mo_pour_141 rfl rfl ?_
        refine wp_istore_7 145 d_Mo_pour_143 rfl rfl rfl ?_
        refine wp_aload_n 146 d_Mo_pour_145 rfl rfl ?_
        refine wp_getfield 149 12 7 d_Mo_pour_146 rfl fl_Mo_27 rfl rfl ?_
        refine wp_bipush 151 60 d_Mo_pour_149 rfl (by decide) ?_
        refine wp_iload_n 152 d_Mo_pour_151 rfl rfl ?_
        refine wp_imul 153 d_Mo_pour_152 rfl ?_
        rw [mul60]
        refine wp_iload 155 d_Mo_pour_153 rfl rfl ?_
        refine wp_iadd 156 d_Mo_pour_155 rfl ?_
        rw [show nI (60 * kt) + nI a = nI (60 * kt + a) from nI_add _ _]
        refine wp_iload 158 d_Mo_pour_156 rfl rfl ?_
        refine wp_iadd 159 d_Mo_pour_158 rfl ?_
        rw [show nI (60 * kt + a) + nI i = nI (60 * kt + a + i) from nI_add _ _]
        refine wp_aload_n 160 d_Mo_pour_159 rfl rfl ?_
        refine wp_getfield 163 12 7 d_Mo_pour_160 rfl fl_Mo_27 rfl rfl ?_
        refine wp_bipush 165 60 d_Mo_pour_163 rfl (by decide) ?_
        refine wp_iload_n 166 d_Mo_pour_165 rfl rfl ?_
        refine wp_imul 167 d_Mo_pour_166 rfl ?_
        rw [mul60]
        refine wp_iload_n 168 d_Mo_pour_167 rfl rfl ?_
        refine wp_iadd 169 d_Mo_pour_168 rfl ?_
        rw [show nI (60 * kf) + nI p = nI (60 * kf + p) from nI_add _ _]
        refine wp_iload 171 d_Mo_pour_169 rfl rfl ?_
        refine wp_iadd 172 d_Mo_pour_171 rfl ?_
        rw [show nI (60 * kf + p) + nI i = nI (60 * kf + p + i) from nI_add _ _]
        refine wp_laloadN 173 d_Mo_pour_172 rfl rfl rfl (by omega) ?_
        refine wp_lastoreN 174 d_Mo_pour_173 rfl rfl rfl (by omega) ?_
        refine hEq (hM m_at m_names m_status m_top m_bottom m_sort m_trayMany (vp_updL f (60 * kt + a + i) (f (60 * kf + p + i))) m_tape m_text m_taped m_size m_token m_from m_end m_value m_faultKind m_faultPlace m_faults m_seen m_areOdds m_opened m_depth m_counted m_eastBy m_northBy m_partBy m_wayFaults m_wayEast m_wayNorth m_olds m_wayMany m_oneOfSet m_twoOfSet m_farBy m_rowBy m_triedBy m_rowMany m_doneAt m_gotAt m_struckAt m_bestDeed m_misBy m_drawn m_ranSteps m_loops m_ran m_told1 m_isTold m_marks) rfl ?_
        first | refine wp_iincN_6 177 d_Mo_pour_174 rfl rfl rfl ?_ | refine wp_iinc_6 177 1 d_Mo_pour_174 rfl (by decide) rfl rfl ?_
        refine wp_goto 118 d_Mo_pour_177 (by decide) ?_
        have ek : poK p a m i = i := if_neg (fun y => absurd (nI_leN (a := p) (b := a) h128 (by omega) (by omega)) (by omega))
        have e : poG kf p kt a m i f = vp_updL f (60 * kt + a + i) (f (60 * kf + p + i)) := by unfold poG; rw [ek]
        exact ih (i + 1) _ _ (by omega) (by rw [← e]; exact hq)
      · refine wp_iload 133 d_Mo_pour_131 rfl rfl ?_
        refine wp_iconst 134 1 d_Mo_pour_133 rfl (by decide) ?_
        refine wp_isub 135 d_Mo_pour_134 rfl ?_
        rw [show nI m - 1 = nI (m - 1) from nI_subN (a := m) (b := 1) (by omega)]
        refine wp_iload 137 d_Mo_pour_135 rfl rfl ?_
        refine wp_isub 138 d_Mo_pour_137 rfl ?_
        rw [show nI (m - 1) - nI i = nI (m - 1 - i) from nI_subN (by omega)]
        refine wp_goto 143 d_Mo_pour_138 (by decide) ?_
        refine wp_istore_7 145 d_Mo_pour_143 rfl rfl rfl ?_
        refine wp_aload_n 146 d_Mo_pour_145 rfl rfl ?_
        refine wp_getfield 149 12 7 d_Mo_pour_146 rfl fl_Mo_27 rfl rfl ?_
        refine wp_bipush 151 60 d_Mo_pour_149 rfl (by decide) ?_
        refine wp_iload_n 152 d_Mo_pour_151 rfl rfl ?_
        refine wp_imul 153 d_Mo_pour_152 rfl ?_
        rw [mul60]
        refine wp_iload 155 d_Mo_pour_153 rfl rfl ?_
        refine wp_iadd 156 d_Mo_pour_155 rfl ?_
        rw [show nI (60 * kt) + nI a = nI (60 * kt + a) from nI_add _ _]
        refine wp_iload 158 d_Mo_pour_156 rfl rfl ?_
        refine wp_iadd 159 d_Mo_pour_158 rfl ?_
        rw [show nI (60 * kt + a) + nI (m - 1 - i) = nI (60 * kt + a + (m - 1 - i)) from nI_add _ _]
        refine wp_aload_n 160 d_Mo_pour_159 rfl rfl ?_
        refine wp_getfield 163 12 7 d_Mo_pour_160 rfl fl_Mo_27 rfl rfl ?_
        refine wp_bipush 165 60 d_Mo_pour_163 rfl (by decide) ?_
        refine wp_iload_n 166 d_Mo_pour_165 rfl rfl ?_
        refine wp_imul 167 d_Mo_pour_166 rfl ?_
        rw [mul60]
        refine wp_iload_n 168 d_Mo_pour_167 rfl rfl ?_
        refine wp_iadd 169 d_Mo_pour_168 rfl ?_
        rw [show nI (60 * kf) + nI p = nI (60 * kf + p) from nI_add _ _]
        refine wp_iload 171 d_Mo_pour_169 rfl rfl ?_
        refine wp_iadd 172 d_Mo_pour_171 rfl ?_
        rw [show nI (60 * kf + p) + nI (m - 1 - i) = nI (60 * kf + p + (m - 1 - i)) from nI_add _ _]
        refine wp_laloadN 173 d_Mo_pour_172 rfl rfl rfl (by omega) ?_
        refine wp_lastoreN 174 d_Mo_pour_173 rfl rfl rfl (by omega) ?_
        refine hEq (hM m_at m_names m_status m_top m_bottom m_sort m_trayMany (vp_updL f (60 * kt + a + (m - 1 - i)) (f (60 * kf + p + (m - 1 - i)))) m_tape m_text m_taped m_size m_token m_from m_end m_value m_faultKind m_faultPlace m_faults m_seen m_areOdds m_opened m_depth m_counted m_eastBy m_northBy m_partBy m_wayFaults m_wayEast m_wayNorth m_olds m_wayMany m_oneOfSet m_twoOfSet m_farBy m_rowBy m_triedBy m_rowMany m_doneAt m_gotAt m_struckAt m_bestDeed m_misBy m_drawn m_ranSteps m_loops m_ran m_told1 m_isTold m_marks) rfl ?_
        first | refine wp_iincN_6 177 d_Mo_pour_174 rfl rfl rfl ?_ | refine wp_iinc_6 177 1 d_Mo_pour_174 rfl (by decide) rfl rfl ?_
        refine wp_goto 118 d_Mo_pour_177 (by decide) ?_
        have ek : poK p a m i = (m - 1 - i) := if_pos (nI_ltN (a := p) (b := a) (Int32.not_le.mp h128) (by omega) (by omega))
        have e : poG kf p kt a m i f = vp_updL f (60 * kt + a + (m - 1 - i)) (f (60 * kf + p + (m - 1 - i))) := by unfold poG; rw [ek]
        exact ih (i + 1) _ _ (by omega) (by rw [← e]; exact hq)

set_option maxRecDepth 100000 in
set_option maxHeartbeats 4000000 in
theorem c_Mo_pour {f p u a m : Int32} (v : vY m_sort m_trayMany m_trays Y) (hq0 : ∀ w, poS Y f p u a m = w → ¬ w = 0 → Q (some (.int 0)) (hM m_at m_names (w) m_top m_bottom m_sort m_trayMany m_trays m_tape m_text m_taped m_size m_token m_from m_end m_value m_faultKind m_faultPlace m_faults m_seen m_areOdds m_opened m_depth m_counted m_eastBy m_northBy m_partBy m_wayFaults m_wayEast m_wayNorth m_olds m_wayMany m_oneOfSet m_twoOfSet m_farBy m_rowBy m_triedBy m_rowMany m_doneAt m_gotAt m_struckAt m_bestDeed m_misBy m_drawn m_ranSteps m_loops m_ran m_told1 m_isTold m_marks)) (hq1 : poS Y f p u a m = 0 → ∀ tr2, vY m_sort m_trayMany tr2 (poY Y f.toNatClampNeg p.toNatClampNeg u.toNatClampNeg a.toNatClampNeg m.toNatClampNeg) → Q (some (.int 1)) (hM m_at m_names (0) m_top m_bottom m_sort m_trayMany (tr2) m_tape m_text m_taped m_size m_token m_from m_end m_value m_faultKind m_faultPlace m_faults m_seen m_areOdds m_opened m_depth m_counted m_eastBy m_northBy m_partBy m_wayFaults m_wayEast m_wayNorth m_olds m_wayMany m_oneOfSet m_twoOfSet m_farBy m_rowBy m_triedBy m_rowMany m_doneAt m_gotAt m_struckAt m_bestDeed m_misBy m_drawn m_ranSteps m_loops m_ran m_told1 m_isTold m_marks)) : Call Γ M_Mo_pour 2 0 0 [.ref 0, .int f, .int p, .int u, .int a, .int m] (hM m_at m_names m_status m_top m_bottom m_sort m_trayMany m_trays m_tape m_text m_taped m_size m_token m_from m_end m_value m_faultKind m_faultPlace m_faults m_seen m_areOdds m_opened m_depth m_counted m_eastBy m_northBy m_partBy m_wayFaults m_wayEast m_wayNorth m_olds m_wayMany m_oneOfSet m_twoOfSet m_farBy m_rowBy m_triedBy m_rowMany m_doneAt m_gotAt m_struckAt m_bestDeed m_misBy m_drawn m_ranSteps m_loops m_ran m_told1 m_isTold m_marks) Q := by
  refine call_intro (ls := [some (.ref 0), some (.int f), some (.int p), some (.int u), some (.int a), some (.int m), none, none]) rfl rfl rfl ?_
  refine wp_iload_n 1 d_Mo_pour_0 rfl rfl ?_
  refine wp_S1 4 M_Mo_isTray 1 d_Mo_pour_1 rfl ms_Mo_isTray lk_Mo_122 rfl rfl ?_
  refine c_Mo_isTray ?_
  refine kI ?_
  (first | refine wp_ifP_eq 28 7 d_Mo_pour_4 rfl (by decide) (fun h4 => ?_) (fun h4 => ?_) | refine wp_if_eq 28 7 d_Mo_pour_4 rfl (by decide) (fun h4 => ?_) (fun h4 => ?_))
  · refine wp_aload_n 29 d_Mo_pour_28 rfl rfl ?_
    refine wp_iconst 30 1 d_Mo_pour_29 rfl (by decide) ?_
    refine wp_V1 33 M_Mo_is 1 d_Mo_pour_30 rfl mv_Mo_is lk_Mo_118 rfl rfl rfl rfl rfl ?_
    refine c_Mo_is ?_
    refine kI ?_
    refine wp_zreturn d_Mo_pour_33 rfl (by first | rfl | exact nbP _) ?_
    have e : poS Y f p u a m = 1 := if_neg (fun z => h4 z.1)
    rw [bP_f (by decide)]
    exact hq0 1 e (by decide)
  · refine wp_iload_n 8 d_Mo_pour_7 rfl rfl ?_
    refine wp_S1 11 M_Mo_isTray 1 d_Mo_pour_8 rfl ms_Mo_isTray lk_Mo_122 rfl rfl ?_
    refine c_Mo_isTray ?_
    refine kI ?_
    (first | refine wp_ifP_eq 28 14 d_Mo_pour_11 rfl (by decide) (fun h11 => ?_) (fun h11 => ?_) | refine wp_if_eq 28 14 d_Mo_pour_11 rfl (by decide) (fun h11 => ?_) (fun h11 => ?_))
    · refine wp_aload_n 29 d_Mo_pour_28 rfl rfl ?_
      refine wp_iconst 30 1 d_Mo_pour_29 rfl (by decide) ?_
      refine wp_V1 33 M_Mo_is 1 d_Mo_pour_30 rfl mv_Mo_is lk_Mo_118 rfl rfl rfl rfl rfl ?_
      refine c_Mo_is ?_
      refine kI ?_
      refine wp_zreturn d_Mo_pour_33 rfl (by first | rfl | exact nbP _) ?_
      have e : poS Y f p u a m = 1 := if_neg (fun z => h11 z.2.1)
      rw [bP_f (by decide)]
      exact hq0 1 e (by decide)
    · refine wp_iload_n 15 d_Mo_pour_14 rfl rfl ?_
      refine wp_if_lt 28 18 d_Mo_pour_15 rfl (by decide) (fun h15 => ?_) (fun h15 => ?_)
      · refine wp_aload_n 29 d_Mo_pour_28 rfl rfl ?_
        refine wp_iconst 30 1 d_Mo_pour_29 rfl (by decide) ?_
        refine wp_V1 33 M_Mo_is 1 d_Mo_pour_30 rfl mv_Mo_is lk_Mo_118 rfl rfl rfl rfl rfl ?_
        refine c_Mo_is ?_
        refine kI ?_
        refine wp_zreturn d_Mo_pour_33 rfl (by first | rfl | exact nbP _) ?_
        have e : poS Y f p u a m = 1 := if_neg (fun z => z.2.2.1 h15)
        rw [bP_f (by decide)]
        exact hq0 1 e (by decide)
      · refine wp_iload 20 d_Mo_pour_18 rfl rfl ?_
        refine wp_if_lt 28 23 d_Mo_pour_20 rfl (by decide) (fun h20 => ?_) (fun h20 => ?_)
        · refine wp_aload_n 29 d_Mo_pour_28 rfl rfl ?_
          refine wp_iconst 30 1 d_Mo_pour_29 rfl (by decide) ?_
          refine wp_V1 33 M_Mo_is 1 d_Mo_pour_30 rfl mv_Mo_is lk_Mo_118 rfl rfl rfl rfl rfl ?_
          refine c_Mo_is ?_
          refine kI ?_
          refine wp_zreturn d_Mo_pour_33 rfl (by first | rfl | exact nbP _) ?_
          have e : poS Y f p u a m = 1 := if_neg (fun z => z.2.2.2.1 h20)
          rw [bP_f (by decide)]
          exact hq0 1 e (by decide)
        · refine wp_iload 25 d_Mo_pour_23 rfl rfl ?_
          refine wp_if_ge 34 28 d_Mo_pour_25 rfl (by decide) (fun h25 => ?_) (fun h25 => ?_)
          · obtain ⟨kf, hkf, rfl⟩ := inR_ex (n := 4) h4 (by omega)
            obtain ⟨kt, hkt, rfl⟩ := inR_ex (n := 4) h11 (by omega)
            have hp0 := h15
            have ha0 := h20
            have hm0 : ¬ m < 0 := Int32.not_lt.mpr h25
            obtain ⟨p_, hp31, rfl⟩ := nI_of hp0
            obtain ⟨a_, ha31, rfl⟩ := nI_of ha0
            obtain ⟨m_, hm31, rfl⟩ := nI_of hm0
            obtain ⟨f1, f2, f3, f4⟩ := v kf hkf
            obtain ⟨t1, t2, t3, t4⟩ := v kt hkt
            have ekf : (nI kf).toNatClampNeg = kf := nI_clamp (by omega)
            have ekt : (nI kt).toNatClampNeg = kt := nI_clamp (by omega)
            refine wp_aload_n 35 d_Mo_pour_34 rfl rfl ?_
            refine wp_getfield 38 12 6 d_Mo_pour_35 rfl fl_Mo_24 rfl rfl ?_
            refine wp_iload_n 39 d_Mo_pour_38 rfl rfl ?_
            refine wp_ialoadN 40 d_Mo_pour_39 rfl rfl rfl (by omega) ?_
            rw [f2]
            refine wp_iconst 41 (-1) d_Mo_pour_40 rfl (by decide) ?_
            refine wp_icmp_eq 54 44 d_Mo_pour_41 rfl (by decide) (fun h41 => ?_) (fun h41 => ?_)
            · refine wp_aload_n 55 d_Mo_pour_54 rfl rfl ?_
              refine wp_iconst 56 2 d_Mo_pour_55 rfl (by decide) ?_
              refine wp_V1 59 M_Mo_is 1 d_Mo_pour_56 rfl mv_Mo_is lk_Mo_118 rfl rfl rfl rfl rfl ?_
              refine c_Mo_is ?_
              refine kI ?_
              refine wp_zreturn d_Mo_pour_59 rfl (by first | rfl | exact nbP _) ?_
              have e : poS Y (nI kf) (nI p_) (nI kt) (nI a_) (nI m_) = 2 := (if_pos ⟨h4, h11, hp0, ha0, hm0⟩ : poS Y (nI kf) (nI p_) (nI kt) (nI a_) (nI m_) = _).trans (by rw [ekf, ekt]; exact if_pos (Or.inl (Decidable.of_not_not (fun y => by rw [if_neg y] at h41; exact nI_ne1 (by omega) h41))))
              rw [bP_f (by decide)]
              exact hq0 2 e (by decide)
            · have zf : ¬ (Y kf).yth = 0 := fun y => h41 (if_pos y)
              refine wp_aload_n 45 d_Mo_pour_44 rfl rfl ?_
              refine wp_getfield 48 12 6 d_Mo_pour_45 rfl fl_Mo_24 rfl rfl ?_
              refine wp_iload_n 49 d_Mo_pour_48 rfl rfl ?_
              refine wp_ialoadN 50 d_Mo_pour_49 rfl rfl rfl (by omega) ?_
              rw [t2]
              refine wp_iconst 51 (-1) d_Mo_pour_50 rfl (by decide) ?_
              refine wp_icmp_ne 60 54 d_Mo_pour_51 rfl (by decide) (fun h51 => ?_) (fun h51 => ?_)
              · have zt : ¬ (Y kt).yth = 0 := fun y => h51 (if_pos y)
                refine wp_aload_n 61 d_Mo_pour_60 rfl rfl ?_
                refine wp_getfield 64 12 5 d_Mo_pour_61 rfl fl_Mo_21 rfl rfl ?_
                refine wp_iload_n 65 d_Mo_pour_64 rfl rfl ?_
                refine wp_ialoadN 66 d_Mo_pour_65 rfl rfl rfl (by omega) ?_
                refine wp_aload_n 67 d_Mo_pour_66 rfl rfl ?_
                refine wp_getfield 70 12 5 d_Mo_pour_67 rfl fl_Mo_21 rfl rfl ?_
                refine wp_iload_n 71 d_Mo_pour_70 rfl rfl ?_
                refine wp_ialoadN 72 d_Mo_pour_71 rfl rfl rfl (by omega) ?_
                refine wp_icmp_eq 82 75 d_Mo_pour_72 rfl (by decide) (fun h72 => ?_) (fun h72 => ?_)
                · refine wp_iload 84 d_Mo_pour_82 rfl rfl ?_
                  refine wp_aload_n 85 d_Mo_pour_84 rfl rfl ?_
                  refine wp_getfield 88 12 6 d_Mo_pour_85 rfl fl_Mo_24 rfl rfl ?_
                  refine wp_iload_n 89 d_Mo_pour_88 rfl rfl ?_
                  refine wp_ialoadN 90 d_Mo_pour_89 rfl rfl rfl (by omega) ?_
                  rw [f2, if_neg zf]
                  refine wp_iload_n 91 d_Mo_pour_90 rfl rfl ?_
                  refine wp_isub 92 d_Mo_pour_91 rfl ?_
                  refine wp_icmp_gt 109 95 d_Mo_pour_92 rfl (by decide) (fun h92 => ?_) (fun h92 => ?_)
                  · refine wp_aload_n 110 d_Mo_pour_109 rfl rfl ?_
                    refine wp_iconst 111 3 d_Mo_pour_110 rfl (by decide) ?_
                    refine wp_V1 114 M_Mo_is 1 d_Mo_pour_111 rfl mv_Mo_is lk_Mo_118 rfl rfl rfl rfl rfl ?_
                    refine c_Mo_is ?_
                    refine kI ?_
                    refine wp_zreturn d_Mo_pour_114 rfl (by first | rfl | exact nbP _) ?_
                    have e : poS Y (nI kf) (nI p_) (nI kt) (nI a_) (nI m_) = 3 := (if_pos ⟨h4, h11, hp0, ha0, hm0⟩ : poS Y (nI kf) (nI p_) (nI kt) (nI a_) (nI m_) = _).trans (by rw [ekf, ekt]; exact (if_neg (fun y => y.elim zf zt)).trans ((if_neg (fun y => y (by rw [← f1, ← t1]; exact h72))).trans (if_neg (fun y => (subN (by omega) hp31 hm31).mp h92 ((sum64 hp31 hm31 (by omega)).mp y.1)))))
                    rw [bP_f (by decide)]
                    exact hq0 3 e (by decide)
                  · refine wp_iload 97 d_Mo_pour_95 rfl rfl ?_
                    refine wp_aload_n 98 d_Mo_pour_97 rfl rfl ?_
                    refine wp_getfield 101 12 6 d_Mo_pour_98 rfl fl_Mo_24 rfl rfl ?_
                    refine wp_iload_n 102 d_Mo_pour_101 rfl rfl ?_
                    refine wp_ialoadN 103 d_Mo_pour_102 rfl rfl rfl (by omega) ?_
                    rw [t2, if_neg zt]
                    refine wp_iload 105 d_Mo_pour_103 rfl rfl ?_
                    refine wp_isub 106 d_Mo_pour_105 rfl ?_
                    refine wp_icmp_le 115 109 d_Mo_pour_106 rfl (by decide) (fun h106 => ?_) (fun h106 => ?_)
                    · refine wp_iconst 116 0 d_Mo_pour_115 rfl (by decide) ?_
                      refine wp_istore_6 118 d_Mo_pour_116 rfl rfl rfl ?_
                      have hfm : p_ + m_ ≤ (Y kf).nM := Decidable.of_not_not (fun y => h92 ((subN (by omega) hp31 hm31).mpr y))
                      have htm : a_ + m_ ≤ (Y kt).nM := Decidable.of_not_not (fun y => absurd ((subN (by omega) ha31 hm31).mpr y) (Int32.not_lt.mpr h106))
                      have e0_ : poS Y (nI kf) (nI p_) (nI kt) (nI a_) (nI m_) = 0 := (if_pos ⟨h4, h11, hp0, ha0, hm0⟩).trans (by rw [ekf, ekt]; exact (if_neg (fun y => y.elim zf zt)).trans ((if_neg (fun y => y (by rw [← f1, ← t1]; exact h72))).trans (if_pos ⟨(sum64 hp31 hm31 (by omega)).mpr hfm, (sum64 ha31 hm31 (by omega)).mpr htm⟩)))
                      refine l_Mo_pour_118 hkf hkt (by omega) (by omega) m_ 0 m_trays none (by omega) (fun x7 => ?_)
                      refine wp_aload_n 181 d_Mo_pour_180 rfl rfl ?_
                      refine wp_iconst 182 0 d_Mo_pour_181 rfl (by decide) ?_
                      refine wp_V1 185 M_Mo_is 1 d_Mo_pour_182 rfl mv_Mo_is lk_Mo_118 rfl rfl rfl rfl rfl ?_
                      refine c_Mo_is ?_
                      refine kI ?_
                      refine wp_zreturn d_Mo_pour_185 rfl (by first | rfl | exact nbP _) ?_
                      rw [bP_t rfl]
                      exact hq1 e0_ _ (by rw [ekf, ekt, nI_clamp hp31, nI_clamp ha31, nI_clamp hm31]; exact vY_pour v hkf hkt zf zt hfm htm)
                    · refine wp_aload_n 110 d_Mo_pour_109 rfl rfl ?_
                      refine wp_iconst 111 3 d_Mo_pour_110 rfl (by decide) ?_
                      refine wp_V1 114 M_Mo_is 1 d_Mo_pour_111 rfl mv_Mo_is lk_Mo_118 rfl rfl rfl rfl rfl ?_
                      refine c_Mo_is ?_
                      refine kI ?_
                      refine wp_zreturn d_Mo_pour_114 rfl (by first | rfl | exact nbP _) ?_
                      have e : poS Y (nI kf) (nI p_) (nI kt) (nI a_) (nI m_) = 3 := (if_pos ⟨h4, h11, hp0, ha0, hm0⟩ : poS Y (nI kf) (nI p_) (nI kt) (nI a_) (nI m_) = _).trans (by rw [ekf, ekt]; exact (if_neg (fun y => y.elim zf zt)).trans ((if_neg (fun y => y (by rw [← f1, ← t1]; exact h72))).trans (if_neg (fun y => (subN (by omega) ha31 hm31).mp (Int32.not_le.mp h106) ((sum64 ha31 hm31 (by omega)).mp y.2)))))
                      rw [bP_f (by decide)]
                      exact hq0 3 e (by decide)
                · refine wp_aload_n 76 d_Mo_pour_75 rfl rfl ?_
                  refine wp_bipush 78 8 d_Mo_pour_76 rfl (by decide) ?_
                  refine wp_V1 81 M_Mo_is 1 d_Mo_pour_78 rfl mv_Mo_is lk_Mo_118 rfl rfl rfl rfl rfl ?_
                  refine c_Mo_is ?_
                  refine kI ?_
                  refine wp_zreturn d_Mo_pour_81 rfl (by first | rfl | exact nbP _) ?_
                  have e : poS Y (nI kf) (nI p_) (nI kt) (nI a_) (nI m_) = 8 := (if_pos ⟨h4, h11, hp0, ha0, hm0⟩ : poS Y (nI kf) (nI p_) (nI kt) (nI a_) (nI m_) = _).trans (by rw [ekf, ekt]; exact (if_neg (fun y => y.elim zf zt)).trans (if_pos (fun y => h72 (by rw [f1, t1]; exact y))))
                  rw [bP_f (by decide)]
                  exact hq0 8 e (by decide)
              · refine wp_aload_n 55 d_Mo_pour_54 rfl rfl ?_
                refine wp_iconst 56 2 d_Mo_pour_55 rfl (by decide) ?_
                refine wp_V1 59 M_Mo_is 1 d_Mo_pour_56 rfl mv_Mo_is lk_Mo_118 rfl rfl rfl rfl rfl ?_
                refine c_Mo_is ?_
                refine kI ?_
                refine wp_zreturn d_Mo_pour_59 rfl (by first | rfl | exact nbP _) ?_
                have e : poS Y (nI kf) (nI p_) (nI kt) (nI a_) (nI m_) = 2 := (if_pos ⟨h4, h11, hp0, ha0, hm0⟩ : poS Y (nI kf) (nI p_) (nI kt) (nI a_) (nI m_) = _).trans (by rw [ekf, ekt]; exact if_pos (Or.inr (Decidable.of_not_not (fun y => by rw [if_neg y] at h51; exact nI_ne1 (by omega) h51))))
                rw [bP_f (by decide)]
                exact hq0 2 e (by decide)
          · refine wp_aload_n 29 d_Mo_pour_28 rfl rfl ?_
            refine wp_iconst 30 1 d_Mo_pour_29 rfl (by decide) ?_
            refine wp_V1 33 M_Mo_is 1 d_Mo_pour_30 rfl mv_Mo_is lk_Mo_118 rfl rfl rfl rfl rfl ?_
            refine c_Mo_is ?_
            refine kI ?_
            refine wp_zreturn d_Mo_pour_33 rfl (by first | rfl | exact nbP _) ?_
            have e : poS Y f p u a m = 1 := if_neg (fun z => z.2.2.2.2 (Int32.not_le.mp h25))
            rw [bP_f (by decide)]
            exact hq0 1 e (by decide)

end T90
