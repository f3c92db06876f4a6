/-! ===== the reference: MISREAD ===== -/
def bn : Nat → Nat → Nat
  | _, 0 => 1
  | 0, _ + 1 => 0
  | n + 1, i + 1 => bn n (i + 1) + bn n i
def gN (o n i : Nat) : Nat := bn n i * (o ^ i * (16 - o) ^ (n - i))
def SumN (f : Nat → Nat) : Nat → Nat → Nat
  | 0, _ => 0
  | r + 1, i => f i + SumN f r (i + 1)
def lN64 (n : Nat) : Int64 := Int64.ofNat n
theorem l_mul (a b : Nat) : lN64 a * lN64 b = lN64 (a * b) := (Int64.ofNat_mul a b).symm
theorem l_add (a b : Nat) : lN64 a + lN64 b = lN64 (a + b) := (Int64.ofNat_add a b).symm
theorem bn_hi : ∀ n i, n < i → bn n i = 0
  | 0, 0, h => absurd h (Nat.lt_irrefl 0)
  | 0, i + 1, _ => rfl
  | n + 1, 0, h => absurd h (Nat.not_lt_zero _)
  | n + 1, i + 1, h => by
    simp only [bn]
    rw [bn_hi n (i + 1) (by omega), bn_hi n i (by omega)]
theorem bn_0 (n : Nat) : bn n 0 = 1 := by cases n <;> rfl
theorem gN_hi {o n i : Nat} (h : n < i) : gN o n i = 0 := by unfold gN; rw [bn_hi n i h, Nat.zero_mul]
theorem gN_s0 (o n : Nat) : gN o (n + 1) 0 = gN o n 0 * (16 - o) := by
  unfold gN
  rw [bn_0, bn_0, Nat.one_mul, Nat.one_mul, Nat.pow_zero, Nat.one_mul, Nat.one_mul, Nat.sub_zero, Nat.sub_zero, Nat.pow_succ]
theorem gN_s (o n i : Nat) : gN o (n + 1) (i + 1) = gN o n (i + 1) * (16 - o) + gN o n i * o := by
  have e0 : bn (n + 1) (i + 1) = bn n (i + 1) + bn n i := rfl
  unfold gN
  rw [e0, Nat.add_mul, show n + 1 - (i + 1) = n - i by omega]
  have e2 : bn n i * (o ^ (i + 1) * (16 - o) ^ (n - i)) = bn n i * (o ^ i * (16 - o) ^ (n - i)) * o := by
    rw [Nat.pow_succ, Nat.mul_assoc, Nat.mul_assoc, Nat.mul_assoc, Nat.mul_comm o ((16 - o) ^ (n - i))]
  rw [e2]
  congr 1
  rcases Nat.lt_or_ge n (i + 1) with z | z
  · rw [bn_hi n (i + 1) z, Nat.zero_mul, Nat.zero_mul, Nat.zero_mul]
  · rw [show n - i = n - (i + 1) + 1 by omega, show (16 - o) ^ (n - (i + 1) + 1) = (16 - o) ^ (n - (i + 1)) * (16 - o) from Nat.pow_succ _ _, Nat.mul_assoc (bn n (i + 1)), Nat.mul_assoc (o ^ (i + 1))]
theorem o64 : ∀ o, o < 17 → ((16 : Int32) - nI o).toInt64 = lN64 (16 - o) ∧ (nI o).toInt64 = lN64 o := by decide +kernel
theorem pw_N {b : Int32} {x : Nat} (h : b.toInt64 = lN64 x) : ∀ k, pwF b k = lN64 (x ^ k)
  | 0 => rfl
  | k + 1 => by
    have e := iterN_add (g := fun _ (w : Int64) => w * b.toInt64) k 1 0 1
    have e2 : pwF b (k + 1) = pwF b k * b.toInt64 := e
    rw [e2, pw_N h k, h, l_mul, Nat.pow_succ]
theorem ch_N : ∀ n, n < 13 → ∀ i, i < n + 1 → chF (nI n) (nI i) i = lN64 (bn n i) := by decide +kernel
theorem bn_924 : ∀ n, n < 13 → ∀ i, i < 13 → bn n i ≤ 924 := by decide +kernel
theorem gN_le {o n i : Nat} (ho : o ≤ 16) (hn : n ≤ 12) (hi : i ≤ 12) : gN o n i ≤ 924 * 2 ^ 48 := by
  rcases Nat.lt_or_ge n i with z | z
  · rw [gN_hi z]; exact Nat.zero_le _
  · unfold gN
    refine Nat.mul_le_mul (bn_924 n (by omega) i (by omega)) ?_
    have h1 := Nat.pow_le_pow_left ho i
    have h2 := Nat.pow_le_pow_left (show 16 - o ≤ 16 by omega) (n - i)
    refine Nat.le_trans (Nat.mul_le_mul h1 h2) ?_
    rw [← Nat.pow_add, show i + (n - i) = n by omega]
    exact Nat.le_trans (Nat.pow_le_pow_right (by omega) hn) (by decide)
theorem Sum_le {o n : Nat} (ho : o ≤ 16) (hn : n ≤ 12) : ∀ (r i : Nat), i + r ≤ 13 → SumN (gN o n) r i ≤ r * (924 * 2 ^ 48)
  | 0, _, _ => Nat.zero_le _
  | r + 1, i, h => by
    have h1 := Sum_le ho hn r (i + 1) (by omega)
    have h2 := gN_le (i := i) ho hn (by omega)
    simp only [SumN]
    rw [Nat.succ_mul]
    omega
theorem Sum_add (f : Nat → Nat) : ∀ (a b i : Nat), SumN f (a + b) i = SumN f a i + SumN f b (i + a)
  | 0, b, i => by rw [Nat.zero_add]; simp [SumN]
  | a + 1, b, i => by
    rw [show a + 1 + b = (a + b) + 1 by omega]
    simp only [SumN]
    rw [Sum_add f a b (i + 1), show i + 1 + a = i + (a + 1) by omega, Nat.add_assoc]
theorem Sum_0 {f : Nat → Nat} : ∀ (r i : Nat), (∀ j, i ≤ j → f j = 0) → SumN f r i = 0
  | 0, _, _ => rfl
  | r + 1, i, h => by
    simp only [SumN]
    rw [h i (Nat.le_refl _), Sum_0 r (i + 1) (fun j hj => h j (by omega))]
theorem Sum_13 {o n k : Nat} (hn : n ≤ 12) (hk : k ≤ 13) : SumN (gN o n) (13 - k) k = SumN (gN o n) (n + 1 - k) k := by
  rcases Nat.lt_or_ge (n + 1) k with z | z
  · rw [show n + 1 - k = 0 by omega, Sum_0 (13 - k) k (fun j hj => gN_hi (by omega))]; rfl
  · have h := Sum_add (gN o n) (n + 1 - k) (13 - (n + 1)) k
    rw [show n + 1 - k + (13 - (n + 1)) = 13 - k by omega, show k + (n + 1 - k) = n + 1 by omega, Sum_0 (13 - (n + 1)) (n + 1) (fun j hj => gN_hi (by omega)), Nat.add_zero] at h
    exact h
theorem ms_run {o n : Nat} (ho : o ≤ 16) (hn : n ≤ 12) : ∀ (r i w : Nat), i + r = n + 1 → iterN (msG (nI o) n) r i (lN64 w) = lN64 (w + SumN (gN o n) r i)
  | 0, i, w, _ => by simp [iterN, SumN]
  | r + 1, i, w, hi => by
    simp only [iterN, SumN]
    have e : msG (nI o) n i (lN64 w) = lN64 (w + gN o n i) := by
      unfold msG
      rw [ch_N n (by omega) i (by omega), pw_N (o64 o (by omega)).2, pw_N (o64 o (by omega)).1, l_mul, l_mul, l_add, Nat.mul_assoc]
      rfl
    rw [e, ms_run ho hn r (i + 1) _ (by omega), Nat.add_assoc]
theorem ms_N {o n k : Nat} (ho : o ≤ 16) (hn : n ≤ 12) (hk : k ≤ 12) : msF (nI o) n k = lN64 (SumN (gN o n) (13 - k) k) := by
  rw [Sum_13 hn (by omega)]
  unfold msF
  rcases Nat.lt_or_ge n k with z | z
  · rw [show n + 1 - k = 0 by omega]; rfl
  · have h := ms_run ho hn (n + 1 - k) k 0 (by omega)
    rw [Nat.zero_add] at h
    exact h
theorem pw16 (n : Nat) : pwF 16 n = lN64 (16 ^ n) := pw_N (b := 16) (x := 16) rfl n
theorem lN_toI {n : Nat} (h : n < 2 ^ 63) : (lN64 n).toInt = n := Int64.toInt_ofNat_of_lt h
theorem in12 {x : Int32} : ((0 : Int64) ≤ x.toInt64 ∧ x.toInt64 ≤ 12) ↔ inR x 13 := inC (by decide)
section TA4
variable {Γ : Gm} {Q : Option Value → LH → Prop} {m_at m_sort m_trayMany m_tape m_text m_opened m_eastBy m_northBy m_partBy m_wayFaults m_wayEast m_wayNorth m_olds m_farBy m_rowBy m_triedBy m_doneAt m_gotAt m_struckAt m_bestDeed m_loops m_ran m_told1 : Nat → Int32} {m_names m_trays m_misBy : Nat → Int64} {m_status m_taped m_size m_token m_from m_end m_value m_faultKind m_faultPlace m_faults m_seen m_areOdds m_depth m_counted m_wayMany m_oneOfSet m_twoOfSet m_rowMany m_drawn m_ranSteps m_isTold m_marks : Int32} {m_top m_bottom : Int64} {t : TW}
set_option maxRecDepth 100000 in
set_option maxHeartbeats 4000000 in
theorem l_Mo_misread_35 {o n k : Nat}  : ∀ (r i : Nat) (f : Nat → Int64), i + r = 13 → ((∀ j, j < i → f j = lN64 (gN o 0 j)) ∧ ∀ f2, (∀ j, j < 13 → f2 j = lN64 (gN o 0 j)) → WP Γ M_Mo_misread 3 0 0 (hM m_at m_names m_status m_top m_bottom m_sort m_trayMany m_trays m_tape m_text m_taped m_size m_token m_from m_end m_value m_faultKind m_faultPlace m_faults m_seen m_areOdds m_opened m_depth m_counted m_eastBy m_northBy m_partBy m_wayFaults m_wayEast m_wayNorth m_olds m_wayMany m_oneOfSet m_twoOfSet m_farBy m_rowBy m_triedBy m_rowMany m_doneAt m_gotAt m_struckAt m_bestDeed (f2) m_drawn m_ranSteps m_loops m_ran m_told1 m_isTold m_marks) 65 [some (.ref 0), some (.int (nI n)), some (.int (nI k)), some (.long 1), none, some (.int (nI 13)), none, none] [] Q) → WP Γ M_Mo_misread 3 0 0 (hM m_at m_names m_status m_top m_bottom m_sort m_trayMany m_trays m_tape m_text m_taped m_size m_token m_from m_end m_value m_faultKind m_faultPlace m_faults m_seen m_areOdds m_opened m_depth m_counted m_eastBy m_northBy m_partBy m_wayFaults m_wayEast m_wayNorth m_olds m_wayMany m_oneOfSet m_twoOfSet m_farBy m_rowBy m_triedBy m_rowMany m_doneAt m_gotAt m_struckAt m_bestDeed (f) m_drawn m_ranSteps m_loops m_ran m_told1 m_isTold m_marks) 35 [some (.ref 0), some (.int (nI n)), some (.int (nI k)), some (.long 1), none, some (.int (nI i)), none, none] [] Q := by
  intro r
  induction r with
  | zero =>
    intro i f hi hinv
    obtain ⟨hf, hq⟩ := hinv
    refine wp_iload 37 d_Mo_misread_35 rfl rfl ?_
    refine wp_bipush 39 13 d_Mo_misread_37 rfl (by decide) ?_
    refine wp_icmp_ge 65 42 d_Mo_misread_39 rfl (by decide) (fun h39 => ?_) (fun h39 => ?_)
    · have e : i = 13 := by omega
      subst e
      exact hq f hf
    · exact absurd ((nI_leI (a := 13) (by omega) (by omega)).mpr (by omega)) h39
  | succ r ih =>
    intro i f hi hinv
    obtain ⟨hf, hq⟩ := hinv
    refine wp_iload 37 d_Mo_misread_35 rfl rfl ?_
    refine wp_bipush 39 13 d_Mo_misread_37 rfl (by decide) ?_
    refine wp_icmp_ge 65 42 d_Mo_misread_39 rfl (by decide) (fun h39 => ?_) (fun h39 => ?_)
    · exact absurd (nI_leN (b := 13) h39 (by omega) (by omega)) (by omega)
    · refine wp_aload_n 43 d_Mo_misread_42 rfl rfl ?_
      refine wp_getfield 46 12 42 d_Mo_misread_43 rfl fl_Mo_89 rfl rfl ?_
      refine wp_iload 48 d_Mo_misread_46 rfl rfl ?_
      refine wp_iload 50 d_Mo_misread_48 rfl rfl ?_
      refine wp_if_ne 57 53 d_Mo_misread_50 rfl (by decide) (fun h50 => ?_) (fun h50 => ?_)
      · refine wp_lconst 58 0 d_Mo_misread_57 rfl (by decide) ?_
        refine wp_lastoreN 59 d_Mo_misread_58 rfl rfl rfl (by omega) ?_
        refine hEq (hM m_at m_names m_status m_top m_bottom m_sort m_trayMany m_trays m_tape m_text m_taped m_size m_token m_from m_end m_value m_faultKind m_faultPlace m_faults m_seen m_areOdds m_opened m_depth m_counted m_eastBy m_northBy m_partBy m_wayFaults m_wayEast m_wayNorth m_olds m_wayMany m_oneOfSet m_twoOfSet m_farBy m_rowBy m_triedBy m_rowMany m_doneAt m_gotAt m_struckAt m_bestDeed (vp_updL f i 0) m_drawn m_ranSteps m_loops m_ran m_told1 m_isTold m_marks) rfl ?_
        first | refine wp_iincN_5 62 d_Mo_misread_59 rfl rfl rfl ?_ | refine wp_iinc_5 62 1 d_Mo_misread_59 rfl (by decide) rfl rfl ?_
        refine wp_goto 35 d_Mo_misread_62 (by decide) ?_
        refine ih (i + 1) (vp_updL f i 0) (by omega) ⟨fun j hj => ?_, hq⟩
        by_cases z : j = i
        · subst z
          rw [show vp_updL f j 0 j = 0 from if_pos rfl]
          rw [gN_hi (by have : ¬ j = 0 := fun y => h50 (by rw [y]; rfl); omega)]; rfl
        · rw [show vp_updL f i 0 j = f j from if_neg z]; exact hf j (by omega)
      · refine wp_lconst 54 1 d_Mo_misread_53 rfl (by decide) ?_
        refine wp_goto 58 d_Mo_misread_54 (by decide) ?_
        refine wp_lastoreN 59 d_Mo_misread_58 rfl rfl rfl (by omega) ?_
        refine hEq (hM m_at m_names m_status m_top m_bottom m_sort m_trayMany m_trays m_tape m_text m_taped m_size m_token m_from m_end m_value m_faultKind m_faultPlace m_faults m_seen m_areOdds m_opened m_depth m_counted m_eastBy m_northBy m_partBy m_wayFaults m_wayEast m_wayNorth m_olds m_wayMany m_oneOfSet m_twoOfSet m_farBy m_rowBy m_triedBy m_rowMany m_doneAt m_gotAt m_struckAt m_bestDeed (vp_updL f i 1) m_drawn m_ranSteps m_loops m_ran m_told1 m_isTold m_marks) rfl ?_
        first | refine wp_iincN_5 62 d_Mo_misread_59 rfl rfl rfl ?_ | refine wp_iinc_5 62 1 d_Mo_misread_59 rfl (by decide) rfl rfl ?_
        refine wp_goto 35 d_Mo_misread_62 (by decide) ?_
        refine ih (i + 1) (vp_updL f i 1) (by omega) ⟨fun j hj => ?_, hq⟩
        by_cases z : j = i
        · subst z
          rw [show vp_updL f j 1 j = 1 from if_pos rfl]
          rw [show j = 0 from (by have := nI_ij (b := 0) h50 (by omega) (by omega); omega)]; rfl
        · rw [show vp_updL f i 1 j = f j from if_neg z]; exact hf j (by omega)

set_option maxRecDepth 100000 in
set_option maxHeartbeats 4000000 in
theorem l_Mo_misread_78 (V : vT m_at t) {o n k m : Nat} (ho : t.od = nI o) (ho2 : o ≤ 16) : ∀ (r i : Nat) (f : Nat → Int64), i + r = 13 → ((∀ j, r ≤ j → j < 13 → f j = lN64 (gN o (m + 1) j)) ∧ (∀ j, j < r → f j = lN64 (gN o m j)) ∧ ∀ f2, (∀ j, j < 13 → f2 j = lN64 (gN o (m + 1) j)) → WP Γ M_Mo_misread 3 0 0 (hM m_at m_names m_status m_top m_bottom m_sort m_trayMany m_trays m_tape m_text m_taped m_size m_token m_from m_end m_value m_faultKind m_faultPlace m_faults m_seen m_areOdds m_opened m_depth m_counted m_eastBy m_northBy m_partBy m_wayFaults m_wayEast m_wayNorth m_olds m_wayMany m_oneOfSet m_twoOfSet m_farBy m_rowBy m_triedBy m_rowMany m_doneAt m_gotAt m_struckAt m_bestDeed (f2) m_drawn m_ranSteps m_loops m_ran m_told1 m_isTold m_marks) 141 [some (.ref 0), some (.int (nI n)), some (.int (nI k)), some (.long (lN64 (16 ^ m))), none, some (.int (nI m)), some (.int (nI 0 - 1)), none] [] Q) → WP Γ M_Mo_misread 3 0 0 (hM m_at m_names m_status m_top m_bottom m_sort m_trayMany m_trays m_tape m_text m_taped m_size m_token m_from m_end m_value m_faultKind m_faultPlace m_faults m_seen m_areOdds m_opened m_depth m_counted m_eastBy m_northBy m_partBy m_wayFaults m_wayEast m_wayNorth m_olds m_wayMany m_oneOfSet m_twoOfSet m_farBy m_rowBy m_triedBy m_rowMany m_doneAt m_gotAt m_struckAt m_bestDeed (f) m_drawn m_ranSteps m_loops m_ran m_told1 m_isTold m_marks) 78 [some (.ref 0), some (.int (nI n)), some (.int (nI k)), some (.long (lN64 (16 ^ m))), none, some (.int (nI m)), some (.int (nI r - 1)), none] [] Q := by
  intro r
  induction r with
  | zero =>
    intro i f hi hinv
    obtain ⟨h1, h2, hq⟩ := hinv
    refine wp_iload 80 d_Mo_misread_78 rfl rfl ?_
    refine wp_if_lt 141 83 d_Mo_misread_80 rfl (by decide) (fun h80 => ?_) (fun h80 => ?_)
    · exact hq f (fun j hj => h1 j (Nat.zero_le _) hj)
    · exact absurd (show nI 0 - 1 < 0 by decide) h80
  | succ r ih =>
    intro i f hi hinv
    obtain ⟨h1, h2, hq⟩ := hinv
    refine qL2 (show _ = [some (.ref 0), some (.int (nI n)), some (.int (nI k)), some (.long (lN64 (16 ^ m))), none, some (.int (nI m)), some (.int (nI r)), none] from by rw [nI_pred]) ?_
    refine wp_iload 80 d_Mo_misread_78 rfl rfl ?_
    refine wp_if_lt 141 83 d_Mo_misread_80 rfl (by decide) (fun h80 => ?_) (fun h80 => ?_)
    · exact absurd h80 (Int32.not_lt.mpr (show nI 0 ≤ nI r from (nI_leI (by omega) (by omega)).mpr (by omega)))
    · refine wp_aload_n 84 d_Mo_misread_83 rfl rfl ?_
      refine wp_getfield 87 12 42 d_Mo_misread_84 rfl fl_Mo_89 rfl rfl ?_
      refine wp_iload 89 d_Mo_misread_87 rfl rfl ?_
      refine wp_aload_n 90 d_Mo_misread_89 rfl rfl ?_
      refine wp_getfield 93 12 42 d_Mo_misread_90 rfl fl_Mo_89 rfl rfl ?_
      refine wp_iload 95 d_Mo_misread_93 rfl rfl ?_
      refine wp_laloadN 96 d_Mo_misread_95 rfl rfl rfl (by omega) ?_
      rw [h2 r (by omega)]
      refine wp_bipush 98 16 d_Mo_misread_96 rfl (by decide) ?_
      refine wp_aload_n 99 d_Mo_misread_98 rfl rfl ?_
      refine wp_getfield 102 12 0 d_Mo_misread_99 rfl fl_Mo_7 rfl rfl ?_
      refine wp_iconst 103 3 d_Mo_misread_102 rfl (by decide) ?_
      refine wp_iaload 104 d_Mo_misread_103 rfl rfl (vp_in_nI (n := 3) (N := 2332) (by omega) (by omega)) ?_
      rw [show m_at (3 : Int32).toNatClampNeg = nI o from V.od.trans ho]
      refine wp_isub 105 d_Mo_misread_104 rfl ?_
      refine wp_i2l 106 d_Mo_misread_105 rfl ?_
      rw [(o64 o (by omega)).1]
      refine wp_lmul 107 d_Mo_misread_106 rfl ?_
      refine wp_iload 109 d_Mo_misread_107 rfl rfl ?_
      refine wp_if_ne 116 112 d_Mo_misread_109 rfl (by decide) (fun h109 => ?_) (fun h109 => ?_)
      · refine wp_aload_n 117 d_Mo_misread_116 rfl rfl ?_
        refine wp_getfield 120 12 42 d_Mo_misread_117 rfl fl_Mo_89 rfl rfl ?_
        refine wp_iload 122 d_Mo_misread_120 rfl rfl ?_
        refine wp_iconst 123 1 d_Mo_misread_122 rfl (by decide) ?_
        refine wp_isub 124 d_Mo_misread_123 rfl ?_
        rw [show nI r - 1 = nI (r - 1) from nI_subN (a := r) (b := 1) (by have : ¬ r = 0 := fun y => h109 (by rw [y]; rfl); omega)]
        refine wp_laloadN 125 d_Mo_misread_124 rfl rfl rfl (by omega) ?_
        rw [h2 (r - 1) (by omega)]
        refine wp_aload_n 126 d_Mo_misread_125 rfl rfl ?_
        refine wp_getfield 129 12 0 d_Mo_misread_126 rfl fl_Mo_7 rfl rfl ?_
        refine wp_iconst 130 3 d_Mo_misread_129 rfl (by decide) ?_
        refine wp_iaload 131 d_Mo_misread_130 rfl rfl (vp_in_nI (n := 3) (N := 2332) (by omega) (by omega)) ?_
        rw [show m_at (3 : Int32).toNatClampNeg = nI o from V.od.trans ho]
        refine wp_i2l 132 d_Mo_misread_131 rfl ?_
        rw [(o64 o (by omega)).2]
        refine wp_lmul 133 d_Mo_misread_132 rfl ?_
        refine wp_ladd 134 d_Mo_misread_133 rfl ?_
        refine wp_lastoreN 135 d_Mo_misread_134 rfl rfl rfl (by omega) ?_
        refine hEq (hM m_at m_names m_status m_top m_bottom m_sort m_trayMany m_trays m_tape m_text m_taped m_size m_token m_from m_end m_value m_faultKind m_faultPlace m_faults m_seen m_areOdds m_opened m_depth m_counted m_eastBy m_northBy m_partBy m_wayFaults m_wayEast m_wayNorth m_olds m_wayMany m_oneOfSet m_twoOfSet m_farBy m_rowBy m_triedBy m_rowMany m_doneAt m_gotAt m_struckAt m_bestDeed (vp_updL f r (lN64 (gN o m r) * lN64 (16 - o) + lN64 (gN o m (r - 1)) * lN64 o)) m_drawn m_ranSteps m_loops m_ran m_told1 m_isTold m_marks) rfl ?_
        refine wp_iinc_6 138 (-1) d_Mo_misread_135 rfl (by decide) rfl rfl ?_
        refine wp_goto 78 d_Mo_misread_138 (by decide) ?_
        have er : ¬ r = 0 := fun y => h109 (by rw [y]; rfl)
        have ev : lN64 (gN o m r) * lN64 (16 - o) + lN64 (gN o m (r - 1)) * lN64 o = lN64 (gN o (m + 1) r) := by
          obtain ⟨u, rfl⟩ : ∃ u, r = u + 1 := ⟨r - 1, by omega⟩
          rw [l_mul, l_mul, l_add, gN_s]; rfl
        refine qL2 (show _ = [some (.ref 0), some (.int (nI n)), some (.int (nI k)), some (.long (lN64 (16 ^ m))), none, some (.int (nI m)), some (.int (nI r - 1)), none] from by rw [show nI r + (-1) = nI r - 1 from (Int32.sub_eq_add_neg _ _).symm]) ?_
        refine ih (i + 1) (vp_updL f r (lN64 (gN o m r) * lN64 (16 - o) + lN64 (gN o m (r - 1)) * lN64 o)) (by omega) ⟨fun j hj hj2 => ?_, fun j hj => ?_, hq⟩
        · rw [ev]
          by_cases z : j = r
          · subst z; exact if_pos rfl
          · rw [show vp_updL f r (lN64 (gN o (m + 1) r)) j = f j from if_neg z]; exact h1 j (by omega) hj2
        · rw [show vp_updL f r (lN64 (gN o m r) * lN64 (16 - o) + lN64 (gN o m (r - 1)) * lN64 o) j = f j from if_neg (by omega)]; exact h2 j (by omega)
      · refine wp_lconst 113 0 d_Mo_misread_112 rfl (by decide) ?_
        refine wp_goto 133 d_Mo_misread_113 (by decide) ?_
        refine wp_ladd 134 d_Mo_misread_133 rfl ?_
        refine wp_lastoreN 135 d_Mo_misread_134 rfl rfl rfl (by omega) ?_
        refine hEq (hM m_at m_names m_status m_top m_bottom m_sort m_trayMany m_trays m_tape m_text m_taped m_size m_token m_from m_end m_value m_faultKind m_faultPlace m_faults m_seen m_areOdds m_opened m_depth m_counted m_eastBy m_northBy m_partBy m_wayFaults m_wayEast m_wayNorth m_olds m_wayMany m_oneOfSet m_twoOfSet m_farBy m_rowBy m_triedBy m_rowMany m_doneAt m_gotAt m_struckAt m_bestDeed (vp_updL f r (lN64 (gN o m r) * lN64 (16 - o) + 0)) m_drawn m_ranSteps m_loops m_ran m_told1 m_isTold m_marks) rfl ?_
        refine wp_iinc_6 138 (-1) d_Mo_misread_135 rfl (by decide) rfl rfl ?_
        refine wp_goto 78 d_Mo_misread_138 (by decide) ?_
        have er : r = 0 := nI_ij (b := 0) h109 (by omega) (by omega)
        have ev : lN64 (gN o m r) * lN64 (16 - o) + 0 = lN64 (gN o (m + 1) r) := by rw [Int64.add_zero, l_mul, er, gN_s0]
        refine qL2 (show _ = [some (.ref 0), some (.int (nI n)), some (.int (nI k)), some (.long (lN64 (16 ^ m))), none, some (.int (nI m)), some (.int (nI r - 1)), none] from by rw [show nI r + (-1) = nI r - 1 from (Int32.sub_eq_add_neg _ _).symm]) ?_
        refine ih (i + 1) (vp_updL f r (lN64 (gN o m r) * lN64 (16 - o) + 0)) (by omega) ⟨fun j hj hj2 => ?_, fun j hj => ?_, hq⟩
        · rw [ev]
          by_cases z : j = r
          · subst z; exact if_pos rfl
          · rw [show vp_updL f r (lN64 (gN o (m + 1) r)) j = f j from if_neg z]; exact h1 j (by omega) hj2
        · rw [show vp_updL f r (lN64 (gN o m r) * lN64 (16 - o) + 0) j = f j from if_neg (by omega)]; exact h2 j (by omega)

set_option maxRecDepth 100000 in
set_option maxHeartbeats 4000000 in
theorem l_Mo_misread_68 (V : vT m_at t) {o n k : Nat} (ho : t.od = nI o) (ho2 : o ≤ 16) (hn : n ≤ 12) : ∀ (r i : Nat) (f : Nat → Int64) (w6 : Option Value), i + r = n → ((∀ j, j < 13 → f j = lN64 (gN o i j)) ∧ ∀ (f2 : Nat → Int64) (x6 : Option Value), (∀ j, j < 13 → f2 j = lN64 (gN o n j)) → WP Γ M_Mo_misread 3 0 0 (hM m_at m_names m_status m_top m_bottom m_sort m_trayMany m_trays m_tape m_text m_taped m_size m_token m_from m_end m_value m_faultKind m_faultPlace m_faults m_seen m_areOdds m_opened m_depth m_counted m_eastBy m_northBy m_partBy m_wayFaults m_wayEast m_wayNorth m_olds m_wayMany m_oneOfSet m_twoOfSet m_farBy m_rowBy m_triedBy m_rowMany m_doneAt m_gotAt m_struckAt m_bestDeed (f2) m_drawn m_ranSteps m_loops m_ran m_told1 m_isTold m_marks) 153 [some (.ref 0), some (.int (nI n)), some (.int (nI k)), some (.long (lN64 (16 ^ n))), none, some (.int (nI n)), x6, none] [] Q) → WP Γ M_Mo_misread 3 0 0 (hM m_at m_names m_status m_top m_bottom m_sort m_trayMany m_trays m_tape m_text m_taped m_size m_token m_from m_end m_value m_faultKind m_faultPlace m_faults m_seen m_areOdds m_opened m_depth m_counted m_eastBy m_northBy m_partBy m_wayFaults m_wayEast m_wayNorth m_olds m_wayMany m_oneOfSet m_twoOfSet m_farBy m_rowBy m_triedBy m_rowMany m_doneAt m_gotAt m_struckAt m_bestDeed (f) m_drawn m_ranSteps m_loops m_ran m_told1 m_isTold m_marks) 68 [some (.ref 0), some (.int (nI n)), some (.int (nI k)), some (.long (lN64 (16 ^ i))), none, some (.int (nI i)), w6, none] [] Q := by
  intro r
  induction r with
  | zero =>
    intro i f w6 hi hinv
    obtain ⟨hf, hq⟩ := hinv
    refine wp_iload 70 d_Mo_misread_68 rfl rfl ?_
    refine wp_iload_n 71 d_Mo_misread_70 rfl rfl ?_
    refine wp_icmp_ge 153 74 d_Mo_misread_71 rfl (by decide) (fun h71 => ?_) (fun h71 => ?_)
    · have e : i = n := by omega
      subst e
      exact hq f _ hf
    · exact absurd ((nI_leI (a := n) (by omega) (by omega)).mpr (by omega)) h71
  | succ r ih =>
    intro i f w6 hi hinv
    obtain ⟨hf, hq⟩ := hinv
    refine wp_iload 70 d_Mo_misread_68 rfl rfl ?_
    refine wp_iload_n 71 d_Mo_misread_70 rfl rfl ?_
    refine wp_icmp_ge 153 74 d_Mo_misread_71 rfl (by decide) (fun h71 => ?_) (fun h71 => ?_)
    · exact absurd (nI_leN (b := n) h71 (by omega) (by omega)) (by omega)
    · refine wp_bipush 76 12 d_Mo_misread_74 rfl (by decide) ?_
      refine wp_istore_6 78 d_Mo_misread_76 rfl rfl rfl ?_
      refine qL2 (show _ = [some (.ref 0), some (.int (nI n)), some (.int (nI k)), some (.long (lN64 (16 ^ i))), none, some (.int (nI i)), some (.int (nI 13 - 1)), none] from rfl) ?_
      refine l_Mo_misread_78 V ho ho2 13 0 f (by omega) ⟨fun j hj hj2 => absurd hj2 (by omega), hf, fun f2 h2 => ?_⟩
      refine wp_lload_n 142 d_Mo_misread_141 rfl rfl ?_
      refine wp_ldc2 145 (16 : Int64) d_Mo_misread_142 rfl ct_Mo_381 ?_
      refine wp_lmul 146 d_Mo_misread_145 rfl ?_
      rw [show lN64 (16 ^ i) * 16 = lN64 (16 ^ (i + 1)) from by rw [show (16 : Int64) = lN64 16 from rfl, l_mul, Nat.pow_succ]]
      refine wp_lstore_3 147 d_Mo_misread_146 rfl rfl rfl ?_
      first | refine wp_iincN_5 150 d_Mo_misread_147 rfl rfl rfl ?_ | refine wp_iinc_5 150 1 d_Mo_misread_147 rfl (by decide) rfl rfl ?_
      refine wp_goto 68 d_Mo_misread_150 (by decide) ?_
      exact ih (i + 1) f2 _ (by omega) ⟨h2, hq⟩

set_option maxRecDepth 100000 in
set_option maxHeartbeats 4000000 in
theorem l_Mo_misread_159 {o n k : Nat} {f : Nat → Int64} (hf : ∀ j, j < 13 → f j = lN64 (gN o n j)) : ∀ (r i : Nat) (w : Nat), i + r = 13 → WP Γ M_Mo_misread 3 0 0 (hM m_at m_names m_status m_top m_bottom m_sort m_trayMany m_trays m_tape m_text m_taped m_size m_token m_from m_end m_value m_faultKind m_faultPlace m_faults m_seen m_areOdds m_opened m_depth m_counted m_eastBy m_northBy m_partBy m_wayFaults m_wayEast m_wayNorth m_olds m_wayMany m_oneOfSet m_twoOfSet m_farBy m_rowBy m_triedBy m_rowMany m_doneAt m_gotAt m_struckAt m_bestDeed (f) m_drawn m_ranSteps m_loops m_ran m_told1 m_isTold m_marks) 184 [some (.ref 0), some (.int (nI n)), some (.int (nI k)), some (.long (lN64 (16 ^ n))), none, some (.long (lN64 (w + SumN (gN o n) r i))), none, some (.int (nI 13))] [] Q → WP Γ M_Mo_misread 3 0 0 (hM m_at m_names m_status m_top m_bottom m_sort m_trayMany m_trays m_tape m_text m_taped m_size m_token m_from m_end m_value m_faultKind m_faultPlace m_faults m_seen m_areOdds m_opened m_depth m_counted m_eastBy m_northBy m_partBy m_wayFaults m_wayEast m_wayNorth m_olds m_wayMany m_oneOfSet m_twoOfSet m_farBy m_rowBy m_triedBy m_rowMany m_doneAt m_gotAt m_struckAt m_bestDeed (f) m_drawn m_ranSteps m_loops m_ran m_told1 m_isTold m_marks) 159 [some (.ref 0), some (.int (nI n)), some (.int (nI k)), some (.long (lN64 (16 ^ n))), none, some (.long (lN64 w)), none, some (.int (nI i))] [] Q := by
  intro r
  induction r with
  | zero =>
    intro i w hi hinv
    have hq := hinv
    refine wp_iload 161 d_Mo_misread_159 rfl rfl ?_
    refine wp_bipush 163 13 d_Mo_misread_161 rfl (by decide) ?_
    refine wp_icmp_ge 184 166 d_Mo_misread_163 rfl (by decide) (fun h163 => ?_) (fun h163 => ?_)
    · have e : i = 13 := by omega
      subst e
      exact hq
    · exact absurd ((nI_leI (a := 13) (by omega) (by omega)).mpr (by omega)) h163
  | succ r ih =>
    intro i w hi hinv
    have hq := hinv
    refine wp_iload 161 d_Mo_misread_159 rfl rfl ?_
    refine wp_bipush 163 13 d_Mo_misread_161 rfl (by decide) ?_
    refine wp_icmp_ge 184 166 d_Mo_misread_163 rfl (by decide) (fun h163 => ?_) (fun h163 => ?_)
    · exact absurd (nI_leN (b := 13) h163 (by omega) (by omega)) (by omega)
    · refine wp_lload 168 d_Mo_misread_166 rfl rfl ?_
      refine wp_aload_n 169 d_Mo_misread_168 rfl rfl ?_
      refine wp_getfield 172 12 42 d_Mo_misread_169 rfl fl_Mo_89 rfl rfl ?_
      refine wp_iload 174 d_Mo_misread_172 rfl rfl ?_
      refine wp_laloadN 175 d_Mo_misread_174 rfl rfl rfl (by omega) ?_
      rw [hf i (by omega)]
      refine wp_ladd 176 d_Mo_misread_175 rfl ?_
      rw [l_add]
      refine wp_lstore_5 178 d_Mo_misread_176 rfl rfl rfl ?_
      first | refine wp_iincN_7 181 d_Mo_misread_178 rfl rfl rfl ?_ | refine wp_iinc_7 181 1 d_Mo_misread_178 rfl (by decide) rfl rfl ?_
      refine wp_goto 159 d_Mo_misread_181 (by decide) ?_
      have e : SumN (gN o n) (r + 1) i = gN o n i + SumN (gN o n) r (i + 1) := rfl
      rw [e, ← Nat.add_assoc] at hq
      exact ih (i + 1) _ (by omega) hq

set_option maxRecDepth 100000 in
set_option maxHeartbeats 4000000 in
theorem c_Mo_misread {a b : Int32} (V : vT m_at t) (hq0 : ¬ (inR a 13 ∧ inR b 13) → Q (some (.int 0)) (hM m_at m_names (1) m_top m_bottom m_sort m_trayMany m_trays m_tape m_text m_taped m_size m_token m_from m_end m_value m_faultKind m_faultPlace m_faults m_seen m_areOdds m_opened m_depth m_counted m_eastBy m_northBy m_partBy m_wayFaults m_wayEast m_wayNorth m_olds m_wayMany m_oneOfSet m_twoOfSet m_farBy m_rowBy m_triedBy m_rowMany m_doneAt m_gotAt m_struckAt m_bestDeed m_misBy m_drawn m_ranSteps m_loops m_ran m_told1 m_isTold m_marks)) (hq1 : inR a 13 ∧ inR b 13 → ∀ f2, Q (some (.int 1)) (hM m_at m_names (0) (frT (msF t.od a.toNatClampNeg b.toNatClampNeg) (pwF 16 a.toNatClampNeg) m_top) (frB (msF t.od a.toNatClampNeg b.toNatClampNeg) (pwF 16 a.toNatClampNeg) m_bottom) m_sort m_trayMany m_trays m_tape m_text m_taped m_size m_token m_from m_end m_value m_faultKind m_faultPlace m_faults m_seen m_areOdds m_opened m_depth m_counted m_eastBy m_northBy m_partBy m_wayFaults m_wayEast m_wayNorth m_olds m_wayMany m_oneOfSet m_twoOfSet m_farBy m_rowBy m_triedBy m_rowMany m_doneAt m_gotAt m_struckAt m_bestDeed (f2) m_drawn m_ranSteps m_loops m_ran m_told1 m_isTold m_marks)) : Call Γ M_Mo_misread 3 0 0 [.ref 0, .int a, .int b] (hM m_at m_names m_status m_top m_bottom m_sort m_trayMany m_trays m_tape m_text m_taped m_size m_token m_from m_end m_value m_faultKind m_faultPlace m_faults m_seen m_areOdds m_opened m_depth m_counted m_eastBy m_northBy m_partBy m_wayFaults m_wayEast m_wayNorth m_olds m_wayMany m_oneOfSet m_twoOfSet m_farBy m_rowBy m_triedBy m_rowMany m_doneAt m_gotAt m_struckAt m_bestDeed m_misBy m_drawn m_ranSteps m_loops m_ran m_told1 m_isTold m_marks) Q := by
  refine call_intro (ls := [some (.ref 0), some (.int a), some (.int b), none, none, none, none, none]) rfl rfl rfl ?_
  refine wp_iload_n 1 d_Mo_misread_0 rfl rfl ?_
  refine wp_i2l 2 d_Mo_misread_1 rfl ?_
  refine wp_lconst 3 0 d_Mo_misread_2 rfl (by decide) ?_
  refine wp_ldc2 6 (12 : Int64) d_Mo_misread_3 rfl ct_Mo_454 ?_
  refine wp_S3 9 M_Mo_isFrom 1 d_Mo_misread_6 rfl ms_Mo_isFrom lk_Mo_356 rfl rfl ?_
  refine c_Mo_isFrom ?_
  refine kI ?_
  (first | refine wp_ifP_eq 24 12 d_Mo_misread_9 rfl (by decide) (fun h9 => ?_) (fun h9 => ?_) | refine wp_if_eq 24 12 d_Mo_misread_9 rfl (by decide) (fun h9 => ?_) (fun h9 => ?_))
  · refine wp_aload_n 25 d_Mo_misread_24 rfl rfl ?_
    refine wp_iconst 26 1 d_Mo_misread_25 rfl (by decide) ?_
    refine wp_V1 29 M_Mo_is 1 d_Mo_misread_26 rfl mv_Mo_is lk_Mo_118 rfl rfl rfl rfl rfl ?_
    refine c_Mo_is ?_
    refine kI ?_
    refine wp_zreturn d_Mo_misread_29 rfl (by first | rfl | exact nbP _) ?_
    rw [bP_f (by decide)]
    exact hq0 (fun z => h9 (in12.mpr z.1))
  · refine wp_iload_n 13 d_Mo_misread_12 rfl rfl ?_
    refine wp_i2l 14 d_Mo_misread_13 rfl ?_
    refine wp_lconst 15 0 d_Mo_misread_14 rfl (by decide) ?_
    refine wp_ldc2 18 (12 : Int64) d_Mo_misread_15 rfl ct_Mo_454 ?_
    refine wp_S3 21 M_Mo_isFrom 1 d_Mo_misread_18 rfl ms_Mo_isFrom lk_Mo_356 rfl rfl ?_
    refine c_Mo_isFrom ?_
    refine kI ?_
    (first | refine wp_ifP_ne 30 24 d_Mo_misread_21 rfl (by decide) (fun h21 => ?_) (fun h21 => ?_) | refine wp_if_ne 30 24 d_Mo_misread_21 rfl (by decide) (fun h21 => ?_) (fun h21 => ?_))
    · obtain ⟨n_, hn_, rfl⟩ := inR_ex (n := 13) (in12.mp h9) (by omega)
      obtain ⟨k_, hk_, rfl⟩ := inR_ex (n := 13) (in12.mp h21) (by omega)
      obtain ⟨o_, ho_, eo⟩ := inR_ex (n := 17) V.in_.2.2.2.1 (by omega)
      refine wp_lconst 31 1 d_Mo_misread_30 rfl (by decide) ?_
      refine wp_lstore_3 32 d_Mo_misread_31 rfl rfl rfl ?_
      refine wp_iconst 33 0 d_Mo_misread_32 rfl (by decide) ?_
      refine wp_istore_5 35 d_Mo_misread_33 rfl rfl rfl ?_
      refine l_Mo_misread_35 (o := o_) 13 0 m_misBy (by omega) ⟨fun j hj => absurd hj (Nat.not_lt_zero j), fun f2 h2 => ?_⟩
      refine wp_iconst 66 0 d_Mo_misread_65 rfl (by decide) ?_
      refine wp_istore_5 68 d_Mo_misread_66 rfl rfl rfl ?_
      refine qL2 (show _ = [some (.ref 0), some (.int (nI n_)), some (.int (nI k_)), some (.long (lN64 (16 ^ 0))), none, some (.int (nI 0)), none, none] from rfl) ?_
      refine l_Mo_misread_68 V eo (by omega) (by omega) n_ 0 f2 none (by omega) ⟨h2, fun f3 x6 h3 => ?_⟩
      refine wp_lconst 154 0 d_Mo_misread_153 rfl (by decide) ?_
      refine wp_lstore_5 156 d_Mo_misread_154 rfl rfl rfl ?_
      refine wp_iload_n 157 d_Mo_misread_156 rfl rfl ?_
      refine wp_istore_7 159 d_Mo_misread_157 rfl rfl rfl ?_
      refine l_Mo_misread_159 h3 (13 - k_) k_ 0 (by omega) ?_
      rw [Nat.zero_add]
      have hsum := Sum_le (o := o_) (n := n_) (by omega) (by omega) (13 - k_) k_ (by omega)
      have h16 : 16 ^ n_ ≤ 2 ^ 48 := Nat.le_trans (Nat.pow_le_pow_right (by omega) (show n_ ≤ 12 by omega)) (by decide)
      have h16p : 0 < 16 ^ n_ := Nat.pow_pos (by omega)
      have h13 : (13 - k_) * (924 * 2 ^ 48) ≤ 13 * (924 * 2 ^ 48) := Nat.mul_le_mul_right _ (by omega)
      have hs63 : SumN (gN o_ n_) (13 - k_) k_ < 2 ^ 63 := by omega
      have hg := gcd_ok (a := lN64 (SumN (gN o_ n_) (13 - k_) k_)) (b := lN64 (16 ^ n_)) (by rw [lN_toI hs63]; omega) (by rw [lN_toI (by omega)]; omega) (by rw [lN_toI (by omega)]; omega)
      refine wp_aload_n 185 d_Mo_misread_184 rfl rfl ?_
      refine wp_lload 187 d_Mo_misread_185 rfl rfl ?_
      refine wp_lload_n 188 d_Mo_misread_187 rfl rfl ?_
      refine wp_V2 191 M_Mo_tellsBy 2 d_Mo_misread_188 rfl mv_Mo_tellsBy lk_Mo_407 rfl rfl rfl rfl rfl ?_
      refine c_tells hg ?_
      refine kI ?_
      refine wp_zreturn d_Mo_misread_191 rfl (by first | rfl | exact nbP _) ?_
      have h9_ := hq1 ⟨in12.mp h9, in12.mp h21⟩ f3
      rw [nI_clamp (by omega : n_ < 2 ^ 31), nI_clamp (by omega : k_ < 2 ^ 31), eo, ms_N (by omega) (by omega) (by omega), pw16] at h9_
      exact h9_
    · refine wp_aload_n 25 d_Mo_misread_24 rfl rfl ?_
      refine wp_iconst 26 1 d_Mo_misread_25 rfl (by decide) ?_
      refine wp_V1 29 M_Mo_is 1 d_Mo_misread_26 rfl mv_Mo_is lk_Mo_118 rfl rfl rfl rfl rfl ?_
      refine c_Mo_is ?_
      refine kI ?_
      refine wp_zreturn d_Mo_misread_29 rfl (by first | rfl | exact nbP _) ?_
      rw [bP_f (by decide)]
      exact hq0 (fun z => h21 (in12.mpr z.2))

end TA4
