/-! ===== the reference: area, copyPlaces ===== -/
theorem n320 {n : Int32} (h0 : ¬ n < 3) (h1 : ¬ 20 < n) : ∃ j, 3 ≤ j ∧ j ≤ 20 ∧ n = nI j := by
  have a : (3 : Int32).toInt = 3 := rfl
  have b : (20 : Int32).toInt = 20 := rfl
  have h0' := Int32.not_lt.mp h0
  have h1' := Int32.not_lt.mp h1
  rw [Int32.le_iff_toInt_le] at h0' h1'
  refine ⟨n.toInt.toNat, by omega, by omega, Int32.toInt_inj.mp ?_⟩
  rw [nI_toInt (by omega)]; omega
theorem in320 {x : Int32} : ((3 : Int64) ≤ x.toInt64 ∧ x.toInt64 ≤ 20) ↔ (¬ x < 3 ∧ ¬ 20 < x) := by
  have a : ((3 : Int64)).toInt = 3 := rfl
  have b : ((20 : Int64)).toInt = 20 := rfl
  have c : ((3 : Int32)).toInt = 3 := rfl
  have d : ((20 : Int32)).toInt = 20 := rfl
  rw [Int64.le_iff_toInt_le, Int64.le_iff_toInt_le, Int32.toInt_toInt64, a, b, Int32.lt_iff_toInt_lt, Int32.lt_iff_toInt_lt, c, d]
  omega
theorem v64 {v : Int64} {p : Nat} (hp : p ≤ 7) : ((0 : Int64) ≤ v ∧ v ≤ (nI p).toInt64 - 1) ↔ ¬ (v < 0 ∨ (nI p).toInt64 ≤ v) := by
  have a : ((0 : Int64)).toInt = 0 := rfl
  have b : ((1 : Int64)).toInt = 1 := rfl
  have e : ((nI p).toInt64 - 1).toInt = (p : Int) - 1 := by
    rw [Int64.toInt_sub, Int32.toInt_toInt64, nI_toInt (by omega), b]
    apply Int.bmod_eq_of_le <;> omega
  rw [Int64.le_iff_toInt_le, Int64.le_iff_toInt_le, Int64.lt_iff_toInt_lt, Int64.le_iff_toInt_le, e, a, Int32.toInt_toInt64, nI_toInt (by omega)]
  omega
theorem rem_nx : ∀ n, n < 21 → ∀ i, i < n → nI (i + 1) - nI (i + 1) / nI n * nI n = nI (if i + 1 < n then i + 1 else 0) := by decide +kernel
theorem cf_5 {T : TW} {yn : Nat → Int64} : ∀ (r i : Nat) (w : Int32) (k : Nat), i ≤ k → k < i + r → (yn k < 0 ∨ (nI T.nP).toInt64 ≤ yn k) → cfI T yn r i w = 5
  | 0, i, w, k, h1, h2, _ => absurd h2 (by omega)
  | r + 1, i, w, k, h1, h2, h => by
    simp only [cfI]
    split
    · rfl
    · rename_i hn
      by_cases e : k = i
      · subst e; exact absurd h hn
      · exact cf_5 r (i + 1) _ k (by omega) (by omega) h
theorem cf_0 {T : TW} {yn : Nat → Int64} : ∀ (r i : Nat) (w : Int32), (∀ k, i ≤ k → k < i + r → ¬ (yn k < 0 ∨ (nI T.nP).toInt64 ≤ yn k)) → (∀ k, i ≤ k → k < i + r → tLp T (cix yn k)) → cfI T yn r i w = w
  | 0, i, w, _, _ => rfl
  | r + 1, i, w, h, hl => by
    simp only [cfI]
    rw [if_neg (h i (Nat.le_refl _) (by omega)), if_pos (show tLp T (yn i).toInt32.toNatClampNeg from hl i (Nat.le_refl _) (by omega))]
    exact cf_0 r (i + 1) _ (fun k a b => h k (by omega) (by omega)) (fun k a b => hl k (by omega) (by omega))
theorem cf_66 {T : TW} {yn : Nat → Int64} : ∀ (r i : Nat), (∀ k, i ≤ k → k < i + r → ¬ (yn k < 0 ∨ (nI T.nP).toInt64 ≤ yn k)) → cfI T yn r i 6 = 6
  | 0, i, _ => rfl
  | r + 1, i, h => by
    simp only [cfI]
    rw [if_neg (h i (Nat.le_refl _) (by omega)), show (if tLp T (yn i).toInt32.toNatClampNeg then (6 : Int32) else 6) = 6 by split <;> rfl]
    exact cf_66 r (i + 1) (fun k a b => h k (by omega) (by omega))
theorem cf_6 {T : TW} {yn : Nat → Int64} : ∀ (r i : Nat) (w : Int32) (k : Nat), (∀ k, i ≤ k → k < i + r → ¬ (yn k < 0 ∨ (nI T.nP).toInt64 ≤ yn k)) → i ≤ k → k < i + r → ¬ tLp T (cix yn k) → cfI T yn r i w = 6
  | 0, i, w, k, _, h1, h2, _ => absurd h2 (by omega)
  | r + 1, i, w, k, h, h1, h2, hl => by
    simp only [cfI]
    rw [if_neg (h i (Nat.le_refl _) (by omega))]
    by_cases e : k = i
    · subst e
      rw [if_neg (show ¬ tLp T (yn k).toInt32.toNatClampNeg from hl)]
      exact cf_66 r (k + 1) (fun j a b => h j (by omega) (by omega))
    · exact cf_6 r (i + 1) _ k (fun j a b => h j (by omega) (by omega)) (by omega) (by omega) hl
/-- the sum round the corners stays small -/
theorem mul_bd {x y : Int32} (hx : bdI 1782 x) (hy : bdI 1782 y) : -3175524 ≤ (x.toInt64 * y.toInt64).toInt ∧ (x.toInt64 * y.toInt64).toInt ≤ 3175524 := by
  unfold bdI at hx hy
  have h1 : x.toInt.natAbs ≤ 1782 := by omega
  have h2 : y.toInt.natAbs ≤ 1782 := by omega
  have h3 := Nat.mul_le_mul h1 h2
  rw [← Int.natAbs_mul] at h3
  have e : (x.toInt64 * y.toInt64).toInt = x.toInt * y.toInt := by
    rw [Int64.toInt_mul, Int32.toInt_toInt64, Int32.toInt_toInt64]
    apply Int.bmod_eq_of_le <;> omega
  rw [e]
  omega
theorem ta_bd {T : TW} (J : tIn T) (I : tOK T) {yn : Nat → Int64} {n : Nat} : ∀ (r i : Nat) (s : Int64) (d : Nat), d + r * 6351048 ≤ 2 ^ 40 → (-(d : Int) ≤ s.toInt ∧ s.toInt ≤ d) → (-((d + r * 6351048 : Nat) : Int) ≤ (iterN (taG T yn n) r i s).toInt ∧ (iterN (taG T yn n) r i s).toInt ≤ ((d + r * 6351048 : Nat) : Int))
  | 0, i, s, d, _, h => by simpa [iterN] using h
  | r + 1, i, s, d, hd, h => by
    simp only [iterN]
    obtain ⟨bx, by_⟩ := tXY_bd J I
    have m1 := mul_bd (bx.1 (cix yn i)) (by_.1 (cix yn (if i + 1 < n then i + 1 else 0)))
    have m2 := mul_bd (by_.1 (cix yn i)) (bx.1 (cix yn (if i + 1 < n then i + 1 else 0)))
    have e : (taG T yn n i s).toInt = s.toInt + (((tX T (cix yn i)).toInt64 * (tY T (cix yn (if i + 1 < n then i + 1 else 0))).toInt64).toInt - ((tY T (cix yn i)).toInt64 * (tX T (cix yn (if i + 1 < n then i + 1 else 0))).toInt64).toInt) := by
      unfold taG
      rw [Int64.toInt_add, Int64.toInt_sub]
      rw [show (((tX T (cix yn i)).toInt64 * (tY T (cix yn (if i + 1 < n then i + 1 else 0))).toInt64).toInt - ((tY T (cix yn i)).toInt64 * (tX T (cix yn (if i + 1 < n then i + 1 else 0))).toInt64).toInt).bmod (2 ^ 64) = _ from by apply Int.bmod_eq_of_le <;> omega]
      apply Int.bmod_eq_of_le <;> omega
    have h2 := ta_bd J I (yn := yn) (n := n) r (i + 1) (taG T yn n i s) (d + 6351048) (by omega) (by rw [e]; omega)
    rw [show d + 6351048 + r * 6351048 = d + (r + 1) * 6351048 by omega] at h2
    exact h2
theorem aJ_nn {x : Int64} (h : -1000000000000 ≤ x.toInt ∧ x.toInt ≤ 1000000000000) : 0 ≤ (aJ x).toInt := by
  unfold aJ
  split
  · rename_i hx
    rw [Int64.lt_iff_toInt_lt] at hx
    have : (0 : Int64).toInt = 0 := rfl
    rw [Int64.toInt_neg, show (-x.toInt).bmod (2 ^ 64) = -x.toInt from by apply Int.bmod_eq_of_le <;> omega]
    omega
  · rename_i hx
    have := Int64.not_lt.mp hx
    rw [Int64.le_iff_toInt_le] at this
    have z : (0 : Int64).toInt = 0 := rfl
    omega
theorem ar_gcd {T : TW} (J : tIn T) (I : tOK T) {yn : Nat → Int64} {n : Nat} (hn : n ≤ 20) : cdD 100 (aJ (taF T yn n)) 2 ∧ 0 < cdF (aJ (taF T yn n)) 2 := by
  have h := ta_bd J I (yn := yn) (n := n) n 0 0 0 (by omega) ⟨by decide, by decide⟩
  exact gcd_ok (aJ_nn ⟨by have := h.1; unfold taF; omega, by have := h.2; unfold taF; omega⟩) (by decide) (by decide)
theorem frT_p {a b v : Int64} (h : 0 < cdF a b) : frT a b v = a / cdF a b := if_pos h
theorem frB_p {a b v : Int64} (h : 0 < cdF a b) : frB a b v = b / cdF a b := if_pos h
theorem nI_or (a b : Nat) : nI a ||| nI b = nI (a ||| b) := by
  apply Int32.toBitVec_inj.mp
  simp [nI, Int32.toBitVec_or, BitVec.ofNat_or]
theorem iorr_lt {p : Nat → Prop} [DecidablePred p] : ∀ n, n ≤ 12 → ∃ m, m < 2 ^ n ∧ iorr (fun l => if p l then bit (nI l) else 0) n = nI m
  | 0, _ => ⟨0, by decide, rfl⟩
  | n + 1, h => by
    obtain ⟨m, hm, e⟩ := iorr_lt (p := p) n (by omega)
    simp only [iorr]
    rw [e]
    by_cases hp : p n
    · rw [if_pos hp, bit_N13 n (by omega), nI_or]
      exact ⟨_, Nat.or_lt_two_pow (Nat.lt_of_lt_of_le hm (Nat.pow_le_pow_right (by omega) (by omega))) (Nat.pow_lt_pow_right (by omega) (by omega)), rfl⟩
    · rw [if_neg hp, or_0]
      exact ⟨m, Nat.lt_of_lt_of_le hm (Nat.pow_le_pow_right (by omega) (by omega)), rfl⟩
theorem tLi_in {t : TW} (I : tOK t) : vp_in (tLi t) 4096 := by
  have hP := I.hP
  obtain ⟨m, hm, e⟩ := iorr_lt (p := fun p => tLp t p) t.nP (by omega)
  have e2 : tLi t = nI m := e
  rw [e2]
  exact vp_in_nI (Nat.lt_of_lt_of_le hm (Nat.le_trans (Nat.pow_le_pow_right (by omega) hP) (by decide))) (by omega)
theorem vY_yp {so tm : Nat → Int32} {tr : Nat → Int64} {Y : Nat → YT} (v : vY so tm tr Y) {k i : Nat} (hk : k < 4) (hi : i < (Y k).nM) (w : Int64) : vY so tm (vp_updL tr (60 * k + i) (cutR (so k) w)) (updY Y k (yPut (Y k) i w)) := by
  have h3 := (v k hk).2.2.1
  have h := vY_put v hk hi w
  have e : yP (Y k) (nI i) w = yPut (Y k) i w := by
    unfold yP yPut
    rw [if_pos (inR_N hi (by omega)), nI_clamp (by omega)]
  rw [e] at h
  exact h
theorem bc_low : ∀ n, n ≤ 7 → ∀ m, m < 128 → (nI n ≤ bcR (nI m) → m < 2 ^ n → ∀ j, j < n → hs (nI m) (nI j)) := by decide +kernel
theorem li_all {t : TW} (I : tOK t) (h : nI t.nP ≤ bcR (tLi t)) : ∀ j, j < t.nP → tLp t j := by
  have hP := I.hP
  obtain ⟨m, hm, e⟩ := iorr_lt (p := fun p => tLp t p) t.nP (by omega)
  have e2 : tLi t = nI m := e
  intro j hj
  have h7 : (2 : Nat) ^ t.nP ≤ 2 ^ 7 := Nat.pow_le_pow_right (by omega) hP
  have h9 := bc_low t.nP hP m (by omega) (by rw [← e2]; exact h) hm j hj
  rw [← e2] at h9
  exact ((hs_iorr (p := fun p => tLp t p) (by omega) (by omega)).mp h9).2
section T94
variable {Γ : Gm} {Q : Option Value → LH → Prop} {m_at m_sort m_trayMany m_tape m_text m_opened m_eastBy m_northBy m_partBy m_wayFaults m_wayEast m_wayNorth m_olds m_farBy m_rowBy m_triedBy m_doneAt m_gotAt m_struckAt m_bestDeed m_loops m_ran m_told1 : Nat → Int32} {m_names m_trays m_misBy : Nat → Int64} {m_status m_taped m_size m_token m_from m_end m_value m_faultKind m_faultPlace m_faults m_seen m_areOdds m_depth m_counted m_wayMany m_oneOfSet m_twoOfSet m_rowMany m_drawn m_ranSteps m_isTold m_marks : Int32} {m_top m_bottom : Int64} {t : TW} {Y : Nat → YT}
theorem c_tells {x y : Int64} (hg : cdD 100 x y ∧ 0 < cdF x y) (hq : Q (some (.int 1)) (hM m_at m_names (0) (frT x y m_top) (frB x y m_bottom) m_sort m_trayMany m_trays m_tape m_text m_taped m_size m_token m_from m_end m_value m_faultKind m_faultPlace m_faults m_seen m_areOdds m_opened m_depth m_counted m_eastBy m_northBy m_partBy m_wayFaults m_wayEast m_wayNorth m_olds m_wayMany m_oneOfSet m_twoOfSet m_farBy m_rowBy m_triedBy m_rowMany m_doneAt m_gotAt m_struckAt m_bestDeed m_misBy m_drawn m_ranSteps m_loops m_ran m_told1 m_isTold m_marks)) : Call Γ M_Mo_tellsBy 2 0 0 [.ref 0, .long x, .long y] (hM m_at m_names m_status m_top m_bottom m_sort m_trayMany m_trays m_tape m_text m_taped m_size m_token m_from m_end m_value m_faultKind m_faultPlace m_faults m_seen m_areOdds m_opened m_depth m_counted m_eastBy m_northBy m_partBy m_wayFaults m_wayEast m_wayNorth m_olds m_wayMany m_oneOfSet m_twoOfSet m_farBy m_rowBy m_triedBy m_rowMany m_doneAt m_gotAt m_struckAt m_bestDeed m_misBy m_drawn m_ranSteps m_loops m_ran m_told1 m_isTold m_marks) Q := c_Mo_tellsBy hg.1 (pos_ne hg.2) (by rw [frT_p hg.2, frB_p hg.2] at hq; exact hq)
theorem c_Mo_shareF {w : Int32} (V : vT m_at t) (hq0 : ∀ v : Int32, (¬ inR w (nI t.nW) ∧ v = 1) ∨ (inR w (nI t.nW) ∧ shA t = 0 ∧ v = 6) → Q (some (.int 0)) (hM m_at m_names (v) m_top m_bottom m_sort m_trayMany m_trays m_tape m_text m_taped m_size m_token m_from m_end m_value m_faultKind m_faultPlace m_faults m_seen m_areOdds m_opened m_depth m_counted m_eastBy m_northBy m_partBy m_wayFaults m_wayEast m_wayNorth m_olds m_wayMany m_oneOfSet m_twoOfSet m_farBy m_rowBy m_triedBy m_rowMany m_doneAt m_gotAt m_struckAt m_bestDeed m_misBy m_drawn m_ranSteps m_loops m_ran m_told1 m_isTold m_marks)) (hq1 : inR w (nI t.nW) → ¬ shA t = 0 → Q (some (.int 1)) (hM m_at m_names (0) (frT (shB t w).toInt64 (shA t).toInt64 m_top) (frB (shB t w).toInt64 (shA t).toInt64 m_bottom) m_sort m_trayMany m_trays m_tape m_text m_taped m_size m_token m_from m_end m_value m_faultKind m_faultPlace m_faults m_seen m_areOdds m_opened m_depth m_counted m_eastBy m_northBy m_partBy m_wayFaults m_wayEast m_wayNorth m_olds m_wayMany m_oneOfSet m_twoOfSet m_farBy m_rowBy m_triedBy m_rowMany m_doneAt m_gotAt m_struckAt m_bestDeed m_misBy m_drawn m_ranSteps m_loops m_ran m_told1 m_isTold m_marks)) : Call Γ M_Mo_share 5 0 0 [.ref 0, .int w] (hM m_at m_names m_status m_top m_bottom m_sort m_trayMany m_trays m_tape m_text m_taped m_size m_token m_from m_end m_value m_faultKind m_faultPlace m_faults m_seen m_areOdds m_opened m_depth m_counted m_eastBy m_northBy m_partBy m_wayFaults m_wayEast m_wayNorth m_olds m_wayMany m_oneOfSet m_twoOfSet m_farBy m_rowBy m_triedBy m_rowMany m_doneAt m_gotAt m_struckAt m_bestDeed m_misBy m_drawn m_ranSteps m_loops m_ran m_told1 m_isTold m_marks) Q := by
  refine c_Mo_share V hq0 (fun h1 h2 => ?_)
  obtain ⟨xa, xa1, xa2⟩ := sh_bd V.ok V.in_ (fun l => hs (tTh t) (nI l))
  obtain ⟨xb, xb1, xb2⟩ := sh_bd V.ok V.in_ (fun l => hs (tTh t &&& iorr (fun l => if t.te l = w then bit (nI l) else 0) t.nL) (nI l))
  have ea : shA t = nI xa := xa2
  have eb : shB t w = nI xb := xb2
  have hxa : 0 < xa := Nat.pos_of_ne_zero (fun z => h2 (by rw [ea, z]; rfl))
  have hgc : 0 < cdF (shB t w).toInt64 (shA t).toInt64 := by rw [ea, eb]; exact (frN hxa (by omega) (by omega)).2
  have h9 := hq1 h1 h2
  rw [frT_p hgc, frB_p hgc] at h9
  exact h9
set_option maxRecDepth 100000 in
set_option maxHeartbeats 4000000 in
theorem l_Mo_area_61 (V : vT m_at t) (v : vY m_sort m_trayMany m_trays Y) {k n : Nat} (hk : k < 4) (hn3 : 3 ≤ n) (hn : n ≤ 20) (hnM : n ≤ (Y k).nM) (hth : ¬ (Y k).yth = 0) (hq5 : (∃ i, i < n ∧ ((Y k).yn i < 0 ∨ (nI t.nP).toInt64 ≤ (Y k).yn i)) → Q (some (.int 0)) (hM m_at m_names (5) m_top m_bottom m_sort m_trayMany m_trays m_tape m_text m_taped m_size m_token m_from m_end m_value m_faultKind m_faultPlace m_faults m_seen m_areOdds m_opened m_depth m_counted m_eastBy m_northBy m_partBy m_wayFaults m_wayEast m_wayNorth m_olds m_wayMany m_oneOfSet m_twoOfSet m_farBy m_rowBy m_triedBy m_rowMany m_doneAt m_gotAt m_struckAt m_bestDeed m_misBy m_drawn m_ranSteps m_loops m_ran m_told1 m_isTold m_marks)) (hend : (∀ j, j < n → ¬ ((Y k).yn j < 0 ∨ (nI t.nP).toInt64 ≤ (Y k).yn j)) → WP Γ M_Mo_area 7 0 0 (hM m_at m_names m_status m_top m_bottom m_sort m_trayMany m_trays m_tape m_text m_taped m_size m_token m_from m_end m_value m_faultKind m_faultPlace m_faults m_seen m_areOdds m_opened m_depth m_counted m_eastBy m_northBy m_partBy m_wayFaults m_wayEast m_wayNorth m_olds m_wayMany m_oneOfSet m_twoOfSet m_farBy m_rowBy m_triedBy m_rowMany m_doneAt m_gotAt m_struckAt m_bestDeed m_misBy m_drawn m_ranSteps m_loops m_ran m_told1 m_isTold m_marks) 105 [some (.ref 0), some (.int (nI k)), some (.int (nI n)), some (.int (nI n)), none, none, none, none] [] Q) : ∀ (r i : Nat) , i + r = n → (∀ j, j < i → ¬ ((Y k).yn j < 0 ∨ (nI t.nP).toInt64 ≤ (Y k).yn j)) → WP Γ M_Mo_area 7 0 0 (hM m_at m_names m_status m_top m_bottom m_sort m_trayMany m_trays m_tape m_text m_taped m_size m_token m_from m_end m_value m_faultKind m_faultPlace m_faults m_seen m_areOdds m_opened m_depth m_counted m_eastBy m_northBy m_partBy m_wayFaults m_wayEast m_wayNorth m_olds m_wayMany m_oneOfSet m_twoOfSet m_farBy m_rowBy m_triedBy m_rowMany m_doneAt m_gotAt m_struckAt m_bestDeed m_misBy m_drawn m_ranSteps m_loops m_ran m_told1 m_isTold m_marks) 61 [some (.ref 0), some (.int (nI k)), some (.int (nI n)), some (.int (nI i)), none, none, none, none] [] Q := by
  intro r
  induction r with
  | zero =>
    intro i  hi hinv
    have hok := hinv
    refine wp_iload_n 62 d_Mo_area_61 rfl rfl ?_
    refine wp_iload_n 63 d_Mo_area_62 rfl rfl ?_
    refine wp_icmp_ge 105 66 d_Mo_area_63 rfl (by decide) (fun h63 => ?_) (fun h63 => ?_)
    · have e : i = n := by omega
      subst e
      exact hend hok
    · exact absurd ((nI_leI (a := n) (by omega) (by omega)).mpr (by omega)) h63
  | succ r ih =>
    intro i  hi hinv
    have hok := hinv
    refine wp_iload_n 62 d_Mo_area_61 rfl rfl ?_
    refine wp_iload_n 63 d_Mo_area_62 rfl rfl ?_
    refine wp_icmp_ge 105 66 d_Mo_area_63 rfl (by decide) (fun h63 => ?_) (fun h63 => ?_)
    · exact absurd (nI_leN (b := n) h63 (by omega) (by omega)) (by omega)
    · refine wp_aload_n 67 d_Mo_area_66 rfl rfl ?_
      refine wp_getfield 70 12 7 d_Mo_area_67 rfl fl_Mo_27 rfl rfl ?_
      refine wp_bipush 72 60 d_Mo_area_70 rfl (by decide) ?_
      refine wp_iload_n 73 d_Mo_area_72 rfl rfl ?_
      refine wp_imul 74 d_Mo_area_73 rfl ?_
      rw [mul60]
      refine wp_iload_n 75 d_Mo_area_74 rfl rfl ?_
      refine wp_iadd 76 d_Mo_area_75 rfl ?_
      rw [show nI (60 * k) + nI i = nI (60 * k + i) from nI_add _ _]
      refine wp_laloadN 77 d_Mo_area_76 rfl rfl rfl (by omega) ?_
      rw [show m_trays (60 * k + i) = (Y k).yn i from (v k hk).2.2.2 i (by omega) hth]
      refine wp_lconst 78 0 d_Mo_area_77 rfl (by decide) ?_
      refine wp_aload_n 79 d_Mo_area_78 rfl rfl ?_
      refine wp_getfield 82 12 0 d_Mo_area_79 rfl fl_Mo_7 rfl rfl ?_
      refine wp_iconst 83 0 d_Mo_area_82 rfl (by decide) ?_
      refine wp_iaload 84 d_Mo_area_83 rfl rfl (vp_in_nI (n := 0) (N := 2332) (by omega) (by omega)) ?_
      rw [show m_at (0 : Int32).toNatClampNeg = nI t.nP from V.P]
      refine wp_i2l 85 d_Mo_area_84 rfl ?_
      refine wp_lconst 86 1 d_Mo_area_85 rfl (by decide) ?_
      refine wp_lsub 87 d_Mo_area_86 rfl ?_
      refine wp_S3 90 M_Mo_isFrom 1 d_Mo_area_87 rfl ms_Mo_isFrom lk_Mo_356 rfl rfl ?_
      refine c_Mo_isFrom ?_
      refine kI ?_
      (first | refine wp_ifP_ne 99 93 d_Mo_area_90 rfl (by decide) (fun h90 => ?_) (fun h90 => ?_) | refine wp_if_ne 99 93 d_Mo_area_90 rfl (by decide) (fun h90 => ?_) (fun h90 => ?_))
      · first | refine wp_iincN_3 102 d_Mo_area_99 rfl rfl rfl ?_ | refine wp_iinc_3 102 1 d_Mo_area_99 rfl (by decide) rfl rfl ?_
        refine wp_goto 61 d_Mo_area_102 (by decide) ?_
        exact ih (i + 1) (by omega) (fun j hj => (Nat.lt_or_ge j i).elim (hok j) (fun y => by
          rw [show j = i by omega]
          exact (v64 V.ok.hP).mp h90))
      · refine wp_aload_n 94 d_Mo_area_93 rfl rfl ?_
        refine wp_iconst 95 5 d_Mo_area_94 rfl (by decide) ?_
        refine wp_V1 98 M_Mo_is 1 d_Mo_area_95 rfl mv_Mo_is lk_Mo_118 rfl rfl rfl rfl rfl ?_
        refine c_Mo_is ?_
        refine kI ?_
        refine wp_zreturn d_Mo_area_98 rfl (by first | rfl | exact nbP _) ?_
        rw [bP_f (by decide)]
        exact hq5 ⟨i, by omega, Decidable.of_not_not (fun y => h90 ((v64 V.ok.hP).mpr y))⟩

set_option maxRecDepth 100000 in
set_option maxHeartbeats 4000000 in
theorem l_Mo_area_112 (V : vT m_at t) (v : vY m_sort m_trayMany m_trays Y) {k n : Nat} (hk : k < 4) (hn3 : 3 ≤ n) (hn : n ≤ 20) (hnM : n ≤ (Y k).nM) (hth : ¬ (Y k).yth = 0) {s9 : MS} (hch : chO t s9) (hok : ∀ j, j < n → ¬ ((Y k).yn j < 0 ∨ (nI t.nP).toInt64 ≤ (Y k).yn j)) (hq6 : (∃ i, i < n ∧ ¬ tLp t (cix (Y k).yn i)) → Q (some (.int 0)) (hM m_at m_names (6) m_top m_bottom m_sort m_trayMany m_trays m_tape m_text m_taped m_size m_token m_from m_end m_value m_faultKind m_faultPlace m_faults m_seen m_areOdds m_opened m_depth m_counted (s9.2.1) (s9.2.2) (s9.1) m_wayFaults m_wayEast m_wayNorth m_olds m_wayMany m_oneOfSet m_twoOfSet m_farBy m_rowBy m_triedBy m_rowMany m_doneAt m_gotAt m_struckAt m_bestDeed m_misBy m_drawn m_ranSteps m_loops m_ran m_told1 m_isTold m_marks)) (hend : (∀ j, j < n → tLp t (cix (Y k).yn j)) → WP Γ M_Mo_area 7 0 0 (hM m_at m_names m_status m_top m_bottom m_sort m_trayMany m_trays m_tape m_text m_taped m_size m_token m_from m_end m_value m_faultKind m_faultPlace m_faults m_seen m_areOdds m_opened m_depth m_counted (s9.2.1) (s9.2.2) (s9.1) m_wayFaults m_wayEast m_wayNorth m_olds m_wayMany m_oneOfSet m_twoOfSet m_farBy m_rowBy m_triedBy m_rowMany m_doneAt m_gotAt m_struckAt m_bestDeed m_misBy m_drawn m_ranSteps m_loops m_ran m_told1 m_isTold m_marks) 149 [some (.ref 0), some (.int (nI k)), some (.int (nI n)), some (.int (nI n)), none, none, none, none] [] Q) : ∀ (r i : Nat) , i + r = n → (∀ j, j < i → tLp t (cix (Y k).yn j)) → WP Γ M_Mo_area 7 0 0 (hM m_at m_names m_status m_top m_bottom m_sort m_trayMany m_trays m_tape m_text m_taped m_size m_token m_from m_end m_value m_faultKind m_faultPlace m_faults m_seen m_areOdds m_opened m_depth m_counted (s9.2.1) (s9.2.2) (s9.1) m_wayFaults m_wayEast m_wayNorth m_olds m_wayMany m_oneOfSet m_twoOfSet m_farBy m_rowBy m_triedBy m_rowMany m_doneAt m_gotAt m_struckAt m_bestDeed m_misBy m_drawn m_ranSteps m_loops m_ran m_told1 m_isTold m_marks) 112 [some (.ref 0), some (.int (nI k)), some (.int (nI n)), some (.int (nI i)), none, none, none, none] [] Q := by
  intro r
  induction r with
  | zero =>
    intro i  hi hinv
    have hly := hinv
    refine wp_iload_n 113 d_Mo_area_112 rfl rfl ?_
    refine wp_iload_n 114 d_Mo_area_113 rfl rfl ?_
    refine wp_icmp_ge 149 117 d_Mo_area_114 rfl (by decide) (fun h114 => ?_) (fun h114 => ?_)
    · have e : i = n := by omega
      subst e
      exact hend hly
    · exact absurd ((nI_leI (a := n) (by omega) (by omega)).mpr (by omega)) h114
  | succ r ih =>
    intro i  hi hinv
    have hly := hinv
    refine wp_iload_n 113 d_Mo_area_112 rfl rfl ?_
    refine wp_iload_n 114 d_Mo_area_113 rfl rfl ?_
    refine wp_icmp_ge 149 117 d_Mo_area_114 rfl (by decide) (fun h114 => ?_) (fun h114 => ?_)
    · exact absurd (nI_leN (b := n) h114 (by omega) (by omega)) (by omega)
    · obtain ⟨pp, hpp, ep, ec⟩ := i64_nI (v := (Y k).yn i) (n := t.nP) (fun y => hok i (by omega) (Or.inl y)) (fun y => hok i (by omega) (Or.inr y)) (by have := V.ok.hP; omega)
      have hP7 := V.ok.hP
      refine wp_aload_n 118 d_Mo_area_117 rfl rfl ?_
      refine wp_aload_n 119 d_Mo_area_118 rfl rfl ?_
      refine wp_getfield 122 12 7 d_Mo_area_119 rfl fl_Mo_27 rfl rfl ?_
      refine wp_bipush 124 60 d_Mo_area_122 rfl (by decide) ?_
      refine wp_iload_n 125 d_Mo_area_124 rfl rfl ?_
      refine wp_imul 126 d_Mo_area_125 rfl ?_
      rw [mul60]
      refine wp_iload_n 127 d_Mo_area_126 rfl rfl ?_
      refine wp_iadd 128 d_Mo_area_127 rfl ?_
      rw [show nI (60 * k) + nI i = nI (60 * k + i) from nI_add _ _]
      refine wp_laloadN 129 d_Mo_area_128 rfl rfl rfl (by omega) ?_
      rw [show m_trays (60 * k + i) = (Y k).yn i from (v k hk).2.2.2 i (by omega) hth]
      refine wp_l2i 130 d_Mo_area_129 rfl ?_
      refine wp_V1 133 M_Mo_isLying 1 d_Mo_area_130 rfl mv_Mo_isLying lk_Mo_303 rfl rfl rfl rfl rfl ?_
      refine c_Mo_isLying (by rw [ep]; exact vp_in_nI (by omega) (by omega)) ?_
      refine kI ?_
      (first | refine wp_ifP_ne 143 136 d_Mo_area_133 rfl (by decide) (fun h133 => ?_) (fun h133 => ?_) | refine wp_if_ne 143 136 d_Mo_area_133 rfl (by decide) (fun h133 => ?_) (fun h133 => ?_))
      · first | refine wp_iincN_3 146 d_Mo_area_143 rfl rfl rfl ?_ | refine wp_iinc_3 146 1 d_Mo_area_143 rfl (by decide) rfl rfl ?_
        refine wp_goto 112 d_Mo_area_146 (by decide) ?_
        exact ih (i + 1) (by omega) (fun j hj => (Nat.lt_or_ge j i).elim (hly j) (fun y => by
          rw [show j = i by omega]
          exact (lp_O hch (show ((Y k).yn i).toInt32.toNatClampNeg < 7 by rw [ec]; omega)).mp h133))
      · refine wp_aload_n 137 d_Mo_area_136 rfl rfl ?_
        refine wp_bipush 139 6 d_Mo_area_137 rfl (by decide) ?_
        refine wp_V1 142 M_Mo_is 1 d_Mo_area_139 rfl mv_Mo_is lk_Mo_118 rfl rfl rfl rfl rfl ?_
        refine c_Mo_is ?_
        refine kI ?_
        refine wp_zreturn d_Mo_area_142 rfl (by first | rfl | exact nbP _) ?_
        rw [bP_f (by decide)]
        exact hq6 ⟨i, by omega, fun y => h133 ((lp_O hch (by rw [ec]; omega)).mpr y)⟩

set_option maxRecDepth 100000 in
set_option maxHeartbeats 4000000 in
theorem l_Mo_area_154 (V : vT m_at t) (v : vY m_sort m_trayMany m_trays Y) {k n : Nat} (hk : k < 4) (hn3 : 3 ≤ n) (hn : n ≤ 20) (hnM : n ≤ (Y k).nM) (hth : ¬ (Y k).yth = 0) {s9 : MS} (hch : chO t s9) (hok : ∀ j, j < n → ¬ ((Y k).yn j < 0 ∨ (nI t.nP).toInt64 ≤ (Y k).yn j)) (hly : ∀ j, j < n → tLp t (cix (Y k).yn j)) : ∀ (r i : Nat) (w : Int64) (a b : Option Value), i + r = n → (∀ a b, WP Γ M_Mo_area 7 0 0 (hM m_at m_names m_status m_top m_bottom m_sort m_trayMany m_trays m_tape m_text m_taped m_size m_token m_from m_end m_value m_faultKind m_faultPlace m_faults m_seen m_areOdds m_opened m_depth m_counted (s9.2.1) (s9.2.2) (s9.1) m_wayFaults m_wayEast m_wayNorth m_olds m_wayMany m_oneOfSet m_twoOfSet m_farBy m_rowBy m_triedBy m_rowMany m_doneAt m_gotAt m_struckAt m_bestDeed m_misBy m_drawn m_ranSteps m_loops m_ran m_told1 m_isTold m_marks) 238 [some (.ref 0), some (.int (nI k)), some (.int (nI n)), some (.long (iterN (taG t (Y k).yn n) r i w)), none, some (.int (nI n)), a, b] [] Q) → WP Γ M_Mo_area 7 0 0 (hM m_at m_names m_status m_top m_bottom m_sort m_trayMany m_trays m_tape m_text m_taped m_size m_token m_from m_end m_value m_faultKind m_faultPlace m_faults m_seen m_areOdds m_opened m_depth m_counted (s9.2.1) (s9.2.2) (s9.1) m_wayFaults m_wayEast m_wayNorth m_olds m_wayMany m_oneOfSet m_twoOfSet m_farBy m_rowBy m_triedBy m_rowMany m_doneAt m_gotAt m_struckAt m_bestDeed m_misBy m_drawn m_ranSteps m_loops m_ran m_told1 m_isTold m_marks) 154 [some (.ref 0), some (.int (nI k)), some (.int (nI n)), some (.long w), none, some (.int (nI i)), a, b] [] Q := by
  intro r
  induction r with
  | zero =>
    intro i w a b hi hinv
    have hq := hinv
    refine wp_iload 156 d_Mo_area_154 rfl rfl ?_
    refine wp_iload_n 157 d_Mo_area_156 rfl rfl ?_
    refine wp_icmp_ge 238 160 d_Mo_area_157 rfl (by decide) (fun h157 => ?_) (fun h157 => ?_)
    · have e : i = n := by omega
      subst e
      exact hq _ _
    · exact absurd ((nI_leI (a := n) (by omega) (by omega)).mpr (by omega)) h157
  | succ r ih =>
    intro i w a b hi hinv
    have hq := hinv
    refine wp_iload 156 d_Mo_area_154 rfl rfl ?_
    refine wp_iload_n 157 d_Mo_area_156 rfl rfl ?_
    refine wp_icmp_ge 238 160 d_Mo_area_157 rfl (by decide) (fun h157 => ?_) (fun h157 => ?_)
    · exact absurd (nI_leN (b := n) h157 (by omega) (by omega)) (by omega)
    · generalize hjj : (if i + 1 < n then i + 1 else 0) = jj
      have hjn : jj < n := by rw [← hjj]; split <;> omega
      have h7a : cix (Y k).yn i < 7 := by
        obtain ⟨pp, hpp, ep, ec⟩ := i64_nI (v := (Y k).yn i) (n := t.nP) (fun y => hok _ (by omega) (Or.inl y)) (fun y => hok _ (by omega) (Or.inr y)) (by have := V.ok.hP; omega)
        have hP7 := V.ok.hP
        show ((Y k).yn i).toInt32.toNatClampNeg < 7
        rw [ec]; omega
      have hva : vp_in ((Y k).yn i).toInt32 7 := by
        obtain ⟨pp, hpp, ep, ec⟩ := i64_nI (v := (Y k).yn i) (n := t.nP) (fun y => hok _ (by omega) (Or.inl y)) (fun y => hok _ (by omega) (Or.inr y)) (by have := V.ok.hP; omega)
        have hP7 := V.ok.hP
        rw [ep]; exact vp_in_nI (by omega) (by omega)
      obtain ⟨xa, ya⟩ := (hch.2.1 _ h7a (hly _ (by omega))).2
      have h7b : cix (Y k).yn jj < 7 := by
        obtain ⟨pp, hpp, ep, ec⟩ := i64_nI (v := (Y k).yn jj) (n := t.nP) (fun y => hok _ (by omega) (Or.inl y)) (fun y => hok _ (by omega) (Or.inr y)) (by have := V.ok.hP; omega)
        have hP7 := V.ok.hP
        show ((Y k).yn jj).toInt32.toNatClampNeg < 7
        rw [ec]; omega
      have hvb : vp_in ((Y k).yn jj).toInt32 7 := by
        obtain ⟨pp, hpp, ep, ec⟩ := i64_nI (v := (Y k).yn jj) (n := t.nP) (fun y => hok _ (by omega) (Or.inl y)) (fun y => hok _ (by omega) (Or.inr y)) (by have := V.ok.hP; omega)
        have hP7 := V.ok.hP
        rw [ep]; exact vp_in_nI (by omega) (by omega)
      obtain ⟨xb, yb⟩ := (hch.2.1 _ h7b (hly _ (by omega))).2
      refine wp_aload_n 161 d_Mo_area_160 rfl rfl ?_
      refine wp_getfield 164 12 7 d_Mo_area_161 rfl fl_Mo_27 rfl rfl ?_
      refine wp_bipush 166 60 d_Mo_area_164 rfl (by decide) ?_
      refine wp_iload_n 167 d_Mo_area_166 rfl rfl ?_
      refine wp_imul 168 d_Mo_area_167 rfl ?_
      rw [mul60]
      refine wp_iload 170 d_Mo_area_168 rfl rfl ?_
      refine wp_iadd 171 d_Mo_area_170 rfl ?_
      rw [show nI (60 * k) + nI i = nI (60 * k + i) from nI_add _ _]
      refine wp_laloadN 172 d_Mo_area_171 rfl rfl rfl (by omega) ?_
      rw [show m_trays (60 * k + i) = (Y k).yn i from (v k hk).2.2.2 i (by omega) hth]
      refine wp_l2i 173 d_Mo_area_172 rfl ?_
      refine wp_istore_6 175 d_Mo_area_173 rfl rfl rfl ?_
      refine wp_aload_n 176 d_Mo_area_175 rfl rfl ?_
      refine wp_getfield 179 12 7 d_Mo_area_176 rfl fl_Mo_27 rfl rfl ?_
      refine wp_bipush 181 60 d_Mo_area_179 rfl (by decide) ?_
      refine wp_iload_n 182 d_Mo_area_181 rfl rfl ?_
      refine wp_imul 183 d_Mo_area_182 rfl ?_
      rw [mul60]
      refine wp_iload 185 d_Mo_area_183 rfl rfl ?_
      refine wp_iconst 186 1 d_Mo_area_185 rfl (by decide) ?_
      refine wp_iadd 187 d_Mo_area_186 rfl ?_
      rw [nI_1]
      refine wp_iload_n 188 d_Mo_area_187 rfl rfl ?_
      refine wp_irem 189 d_Mo_area_188 rfl (nI_ne0 (by omega) (by omega)) ?_
      rw [show nI (i + 1) - nI (i + 1) / nI n * nI n = nI jj from by rw [← hjj]; exact rem_nx n (by omega) i (by omega)]
      refine wp_iadd 190 d_Mo_area_189 rfl ?_
      rw [show nI (60 * k) + nI jj = nI (60 * k + jj) from nI_add _ _]
      refine wp_laloadN 191 d_Mo_area_190 rfl rfl rfl (by omega) ?_
      rw [show m_trays (60 * k + jj) = (Y k).yn jj from (v k hk).2.2.2 jj (by omega) hth]
      refine wp_l2i 192 d_Mo_area_191 rfl ?_
      refine wp_istore_7 194 d_Mo_area_192 rfl rfl rfl ?_
      refine wp_lload_n 195 d_Mo_area_194 rfl rfl ?_
      refine wp_aload_n 196 d_Mo_area_195 rfl rfl ?_
      refine wp_getfield 199 12 24 d_Mo_area_196 rfl fl_Mo_47 rfl rfl ?_
      refine wp_iload 201 d_Mo_area_199 rfl rfl ?_
      refine wp_iaload 202 d_Mo_area_201 rfl rfl hva ?_
      refine wp_i2l 203 d_Mo_area_202 rfl ?_
      refine wp_aload_n 204 d_Mo_area_203 rfl rfl ?_
      refine wp_getfield 207 12 25 d_Mo_area_204 rfl fl_Mo_50 rfl rfl ?_
      refine wp_iload 209 d_Mo_area_207 rfl rfl ?_
      refine wp_iaload 210 d_Mo_area_209 rfl rfl hvb ?_
      refine wp_i2l 211 d_Mo_area_210 rfl ?_
      refine wp_lmul 212 d_Mo_area_211 rfl ?_
      refine wp_aload_n 213 d_Mo_area_212 rfl rfl ?_
      refine wp_getfield 216 12 25 d_Mo_area_213 rfl fl_Mo_50 rfl rfl ?_
      refine wp_iload 218 d_Mo_area_216 rfl rfl ?_
      refine wp_iaload 219 d_Mo_area_218 rfl rfl hva ?_
      refine wp_i2l 220 d_Mo_area_219 rfl ?_
      refine wp_aload_n 221 d_Mo_area_220 rfl rfl ?_
      refine wp_getfield 224 12 24 d_Mo_area_221 rfl fl_Mo_47 rfl rfl ?_
      refine wp_iload 226 d_Mo_area_224 rfl rfl ?_
      refine wp_iaload 227 d_Mo_area_226 rfl rfl hvb ?_
      refine wp_i2l 228 d_Mo_area_227 rfl ?_
      refine wp_lmul 229 d_Mo_area_228 rfl ?_
      refine wp_lsub 230 d_Mo_area_229 rfl ?_
      refine wp_ladd 231 d_Mo_area_230 rfl ?_
      refine wp_lstore_3 232 d_Mo_area_231 rfl rfl rfl ?_
      first | refine wp_iincN_5 235 d_Mo_area_232 rfl rfl rfl ?_ | refine wp_iinc_5 235 1 d_Mo_area_232 rfl (by decide) rfl rfl ?_
      refine wp_goto 154 d_Mo_area_235 (by decide) ?_
      have e : taG t (Y k).yn n i w = w + ((s9.2.1 (((Y k).yn i).toInt32.toNatClampNeg)).toInt64 * (s9.2.2 (((Y k).yn jj).toInt32.toNatClampNeg)).toInt64 - (s9.2.2 (((Y k).yn i).toInt32.toNatClampNeg)).toInt64 * (s9.2.1 (((Y k).yn jj).toInt32.toNatClampNeg)).toInt64) := by
        show _ = w + ((s9.2.1 (cix (Y k).yn i)).toInt64 * (s9.2.2 (cix (Y k).yn jj)).toInt64 - (s9.2.2 (cix (Y k).yn i)).toInt64 * (s9.2.1 (cix (Y k).yn jj)).toInt64)
        unfold taG
        rw [hjj, xa, ya, xb, yb]
      exact ih (i + 1) _ _ _ (by omega) (by rw [← e]; exact hq)

set_option maxRecDepth 100000 in
set_option maxHeartbeats 4000000 in
theorem c_Mo_area {a n : Int32} (V : vT m_at t) (v : vY m_sort m_trayMany m_trays Y) (hq0 : ∀ w, arS t Y a n = w → ¬ w = 0 → ∀ s : MS, Q (some (.int 0)) (hM m_at m_names (w) m_top m_bottom m_sort m_trayMany m_trays m_tape m_text m_taped m_size m_token m_from m_end m_value m_faultKind m_faultPlace m_faults m_seen m_areOdds m_opened m_depth m_counted (s.2.1) (s.2.2) (s.1) m_wayFaults m_wayEast m_wayNorth m_olds m_wayMany m_oneOfSet m_twoOfSet m_farBy m_rowBy m_triedBy m_rowMany m_doneAt m_gotAt m_struckAt m_bestDeed m_misBy m_drawn m_ranSteps m_loops m_ran m_told1 m_isTold m_marks)) (hq1 : arS t Y a n = 0 → ∀ s : MS, Q (some (.int 1)) (hM m_at m_names (0) (frT (arA t Y a n) 2 m_top) (frB (arA t Y a n) 2 m_bottom) m_sort m_trayMany m_trays m_tape m_text m_taped m_size m_token m_from m_end m_value m_faultKind m_faultPlace m_faults m_seen m_areOdds m_opened m_depth m_counted (s.2.1) (s.2.2) (s.1) m_wayFaults m_wayEast m_wayNorth m_olds m_wayMany m_oneOfSet m_twoOfSet m_farBy m_rowBy m_triedBy m_rowMany m_doneAt m_gotAt m_struckAt m_bestDeed m_misBy m_drawn m_ranSteps m_loops m_ran m_told1 m_isTold m_marks)) : Call Γ M_Mo_area 7 0 0 [.ref 0, .int a, .int n] (hM m_at m_names m_status m_top m_bottom m_sort m_trayMany m_trays m_tape m_text m_taped m_size m_token m_from m_end m_value m_faultKind m_faultPlace m_faults m_seen m_areOdds m_opened m_depth m_counted m_eastBy m_northBy m_partBy m_wayFaults m_wayEast m_wayNorth m_olds m_wayMany m_oneOfSet m_twoOfSet m_farBy m_rowBy m_triedBy m_rowMany m_doneAt m_gotAt m_struckAt m_bestDeed m_misBy m_drawn m_ranSteps m_loops m_ran m_told1 m_isTold m_marks) Q := by
  refine call_intro (ls := [some (.ref 0), some (.int a), some (.int n), none, none, none, none, none]) rfl rfl rfl ?_
  refine wp_iload_n 1 d_Mo_area_0 rfl rfl ?_
  refine wp_S1 4 M_Mo_isTray 1 d_Mo_area_1 rfl ms_Mo_isTray lk_Mo_122 rfl rfl ?_
  refine c_Mo_isTray ?_
  refine kI ?_
  (first | refine wp_ifP_eq 21 7 d_Mo_area_4 rfl (by decide) (fun h4 => ?_) (fun h4 => ?_) | refine wp_if_eq 21 7 d_Mo_area_4 rfl (by decide) (fun h4 => ?_) (fun h4 => ?_))
  · refine wp_aload_n 22 d_Mo_area_21 rfl rfl ?_
    refine wp_iconst 23 1 d_Mo_area_22 rfl (by decide) ?_
    refine wp_V1 26 M_Mo_is 1 d_Mo_area_23 rfl mv_Mo_is lk_Mo_118 rfl rfl rfl rfl rfl ?_
    refine c_Mo_is ?_
    refine kI ?_
    refine wp_zreturn d_Mo_area_26 rfl (by first | rfl | exact nbP _) ?_
    have e : arS t Y a n = 1 := if_neg (fun z => h4 z.1)
    rw [bP_f (by decide)]
    exact hq0 1 e (by decide) (m_partBy, m_eastBy, m_northBy)
  · refine wp_iload_n 8 d_Mo_area_7 rfl rfl ?_
    refine wp_i2l 9 d_Mo_area_8 rfl ?_
    refine wp_ldc2 12 (3 : Int64) d_Mo_area_9 rfl ct_Mo_437 ?_
    refine wp_ldc2 15 (20 : Int64) d_Mo_area_12 rfl ct_Mo_439 ?_
    refine wp_S3 18 M_Mo_isFrom 1 d_Mo_area_15 rfl ms_Mo_isFrom lk_Mo_356 rfl rfl ?_
    refine c_Mo_isFrom ?_
    refine kI ?_
    (first | refine wp_ifP_ne 27 21 d_Mo_area_18 rfl (by decide) (fun h18 => ?_) (fun h18 => ?_) | refine wp_if_ne 27 21 d_Mo_area_18 rfl (by decide) (fun h18 => ?_) (fun h18 => ?_))
    · obtain ⟨k, hk, rfl⟩ := inR_ex (n := 4) h4 (by omega)
      have hn0 := in320.mp h18
      obtain ⟨n_, hn3, hn20, rfl⟩ := n320 hn0.1 hn0.2
      obtain ⟨g1, g2, g3, g4⟩ := v k hk
      have ek : (nI k).toNatClampNeg = k := nI_clamp (by omega)
      have en : (nI n_).toNatClampNeg = n_ := nI_clamp (by omega)
      refine wp_aload_n 28 d_Mo_area_27 rfl rfl ?_
      refine wp_getfield 31 12 6 d_Mo_area_28 rfl fl_Mo_24 rfl rfl ?_
      refine wp_iload_n 32 d_Mo_area_31 rfl rfl ?_
      refine wp_ialoadN 33 d_Mo_area_32 rfl rfl rfl (by omega) ?_
      rw [g2]
      refine wp_iconst 34 (-1) d_Mo_area_33 rfl (by decide) ?_
      refine wp_icmp_ne 43 37 d_Mo_area_34 rfl (by decide) (fun h34 => ?_) (fun h34 => ?_)
      · have hth : ¬ (Y k).yth = 0 := fun y => h34 (if_pos y)
        refine wp_aload_n 44 d_Mo_area_43 rfl rfl ?_
        refine wp_getfield 47 12 6 d_Mo_area_44 rfl fl_Mo_24 rfl rfl ?_
        refine wp_iload_n 48 d_Mo_area_47 rfl rfl ?_
        refine wp_ialoadN 49 d_Mo_area_48 rfl rfl rfl (by omega) ?_
        rw [g2, if_neg hth]
        refine wp_iload_n 50 d_Mo_area_49 rfl rfl ?_
        refine wp_icmp_ge 59 53 d_Mo_area_50 rfl (by decide) (fun h50 => ?_) (fun h50 => ?_)
        · refine wp_iconst 60 0 d_Mo_area_59 rfl (by decide) ?_
          refine wp_istore_3 61 d_Mo_area_60 rfl rfl rfl ?_
          have hnM : n_ ≤ (Y k).nM := nI_leN h50 (by omega) (by omega)
          have ecf : arS t Y (nI k) (nI n_) = cfI t (Y k).yn n_ 0 0 := (if_pos ⟨h4, hn0⟩).trans (by rw [ek, en]; exact (if_neg hth).trans (if_pos ((sum64 (p := 0) (by omega) (by omega) (by omega)).mpr (by omega))))
          refine l_Mo_area_61 V v hk hn3 hn20 hnM hth (fun hb => ?_) (fun hok => ?_) n_ 0 (by omega) (fun j hj => absurd hj (Nat.not_lt_zero j))
          · obtain ⟨i, hi, hb⟩ := hb
            exact hq0 5 (ecf.trans (cf_5 n_ 0 0 i (by omega) (by omega) hb)) (by decide) (m_partBy, m_eastBy, m_northBy)
          refine wp_aload_n 106 d_Mo_area_105 rfl rfl ?_
          refine wp_iconst 107 0 d_Mo_area_106 rfl (by decide) ?_
          refine wp_V1 110 M_Mo_laysOut 6 d_Mo_area_107 rfl mv_Mo_laysOut lk_Mo_315 rfl rfl rfl rfl rfl ?_
          refine c_lo0 V ?_
          refine kV ?_
          have hch := lm_0 V.ok V.in_ (m_partBy, m_eastBy, m_northBy)
          generalize lmF t False (m_partBy, m_eastBy, m_northBy) = s9 at hch ⊢
          refine wp_iconst 111 0 d_Mo_area_110 rfl (by decide) ?_
          refine wp_istore_3 112 d_Mo_area_111 rfl rfl rfl ?_
          refine l_Mo_area_112 V v hk hn3 hn20 hnM hth hch hok (fun hb => ?_) (fun hly => ?_) n_ 0 (by omega) (fun j hj => absurd hj (Nat.not_lt_zero j))
          · obtain ⟨i, hi, hb⟩ := hb
            exact hq0 6 (ecf.trans (cf_6 n_ 0 0 i (fun j _ hj => hok j (by omega)) (by omega) (by omega) hb)) (by decide) s9
          refine wp_lconst 150 0 d_Mo_area_149 rfl (by decide) ?_
          refine wp_lstore_3 151 d_Mo_area_150 rfl rfl rfl ?_
          refine wp_iconst 152 0 d_Mo_area_151 rfl (by decide) ?_
          refine wp_istore_5 154 d_Mo_area_152 rfl rfl rfl ?_
          refine l_Mo_area_154 V v hk hn3 hn20 hnM hth hch hok hly n_ 0 0 none none (by omega) (fun a7 b7 => ?_)
          have eA : arA t Y (nI k) (nI n_) = aJ (taF t (Y k).yn n_) := by unfold arA; rw [ek, en]
          have hg := ar_gcd V.in_ V.ok (yn := (Y k).yn) hn20
          have e0_ : arS t Y (nI k) (nI n_) = 0 := ecf.trans (cf_0 n_ 0 0 (fun j _ hj => hok j (by omega)) (fun j _ hj => hly j (by omega)))
          have h9 := hq1 e0_ s9
          rw [eA] at h9
          refine wp_aload_n 239 d_Mo_area_238 rfl rfl ?_
          refine wp_lload_n 240 d_Mo_area_239 rfl rfl ?_
          refine wp_lconst 241 0 d_Mo_area_240 rfl (by decide) ?_
          refine wp_lcmp 242 d_Mo_area_241 rfl ?_
          refine wp_if_ge 250 245 d_Mo_area_242 rfl (by decide) (fun h242 => ?_) (fun h242 => ?_)
          · have h242_ : ¬ iterN (taG t (Y k).yn n_) n_ 0 0 < 0 := fun y => absurd (lc_lt.mpr y) (Int32.not_lt.mpr h242)
            refine wp_lload_n 251 d_Mo_area_250 rfl rfl ?_
            refine wp_ldc2 254 (2 : Int64) d_Mo_area_251 rfl ct_Mo_441 ?_
            rw [show iterN (taG t (Y k).yn n_) n_ 0 0 = aJ (taF t (Y k).yn n_) from (if_neg h242_).symm]
            refine wp_V2 257 M_Mo_tellsBy 2 d_Mo_area_254 rfl mv_Mo_tellsBy lk_Mo_407 rfl rfl rfl rfl rfl ?_
            refine c_tells hg ?_
            refine kI ?_
            refine wp_zreturn d_Mo_area_257 rfl (by first | rfl | exact nbP _) ?_
            exact h9
          · have h242_ := lc_lt.mp (Int32.not_le.mp h242)
            refine wp_lload_n 246 d_Mo_area_245 rfl rfl ?_
            refine wp_lneg 247 d_Mo_area_246 rfl ?_
            refine wp_goto 251 d_Mo_area_247 (by decide) ?_
            refine wp_ldc2 254 (2 : Int64) d_Mo_area_251 rfl ct_Mo_441 ?_
            rw [show -iterN (taG t (Y k).yn n_) n_ 0 0 = aJ (taF t (Y k).yn n_) from (if_pos h242_).symm]
            refine wp_V2 257 M_Mo_tellsBy 2 d_Mo_area_254 rfl mv_Mo_tellsBy lk_Mo_407 rfl rfl rfl rfl rfl ?_
            refine c_tells hg ?_
            refine kI ?_
            refine wp_zreturn d_Mo_area_257 rfl (by first | rfl | exact nbP _) ?_
            exact h9
        · refine wp_aload_n 54 d_Mo_area_53 rfl rfl ?_
          refine wp_iconst 55 3 d_Mo_area_54 rfl (by decide) ?_
          refine wp_V1 58 M_Mo_is 1 d_Mo_area_55 rfl mv_Mo_is lk_Mo_118 rfl rfl rfl rfl rfl ?_
          refine c_Mo_is ?_
          refine kI ?_
          refine wp_zreturn d_Mo_area_58 rfl (by first | rfl | exact nbP _) ?_
          have e : arS t Y (nI k) (nI n_) = 3 := (if_pos ⟨h4, hn0⟩ : arS t Y (nI k) (nI n_) = _).trans (by rw [ek]; exact (if_neg hth).trans (if_neg (fun y => h50 ((nI_leI (by omega) (by omega)).mpr (by have := (sum64 (p := 0) (by omega) (by omega) (by omega)).mp y; omega)))))
          rw [bP_f (by decide)]
          exact hq0 3 e (by decide) (m_partBy, m_eastBy, m_northBy)
      · refine wp_aload_n 38 d_Mo_area_37 rfl rfl ?_
        refine wp_iconst 39 2 d_Mo_area_38 rfl (by decide) ?_
        refine wp_V1 42 M_Mo_is 1 d_Mo_area_39 rfl mv_Mo_is lk_Mo_118 rfl rfl rfl rfl rfl ?_
        refine c_Mo_is ?_
        refine kI ?_
        refine wp_zreturn d_Mo_area_42 rfl (by first | rfl | exact nbP _) ?_
        have e : arS t Y (nI k) (nI n_) = 2 := (if_pos ⟨h4, hn0⟩ : arS t Y (nI k) (nI n_) = _).trans (by rw [ek]; exact if_pos (Decidable.of_not_not (fun y => by rw [if_neg y] at h34; exact nI_ne1 (by omega) h34)))
        rw [bP_f (by decide)]
        exact hq0 2 e (by decide) (m_partBy, m_eastBy, m_northBy)
    · refine wp_aload_n 22 d_Mo_area_21 rfl rfl ?_
      refine wp_iconst 23 1 d_Mo_area_22 rfl (by decide) ?_
      refine wp_V1 26 M_Mo_is 1 d_Mo_area_23 rfl mv_Mo_is lk_Mo_118 rfl rfl rfl rfl rfl ?_
      refine c_Mo_is ?_
      refine kI ?_
      refine wp_zreturn d_Mo_area_26 rfl (by first | rfl | exact nbP _) ?_
      have e : arS t Y a n = 1 := if_neg (fun z => h18 (in320.mpr z.2))
      rw [bP_f (by decide)]
      exact hq0 1 e (by decide) (m_partBy, m_eastBy, m_northBy)

set_option maxRecDepth 100000 in
set_option maxHeartbeats 4000000 in
theorem l_Mo_copyPlaces_77 (V : vT m_at t) {k : Nat} {s9 : MS} (hP : t.nP ≤ 7) (hk : k < 4) (hch : chO t s9) (hall : ∀ j, j < t.nP → tLp t j) : ∀ (r i : Nat) (f : Nat → Int64) (Yc : Nat → YT), i + r = t.nP → (vY m_sort m_trayMany f Yc ∧ 2 * t.nP ≤ (Yc k).nM ∧ ¬ (Yc k).yth = 0 ∧ ∀ tr2, vY m_sort m_trayMany tr2 (iterN (cpH k (tX t) (tY t)) r i Yc) → Q (some (.int (nI t.nP))) (hM m_at m_names (0) m_top m_bottom m_sort m_trayMany (tr2) m_tape m_text m_taped m_size m_token m_from m_end m_value m_faultKind m_faultPlace m_faults m_seen m_areOdds m_opened m_depth m_counted (s9.2.1) (s9.2.2) (s9.1) m_wayFaults m_wayEast m_wayNorth m_olds m_wayMany m_oneOfSet m_twoOfSet m_farBy m_rowBy m_triedBy m_rowMany m_doneAt m_gotAt m_struckAt m_bestDeed m_misBy m_drawn m_ranSteps m_loops m_ran m_told1 m_isTold m_marks)) → WP Γ M_Mo_copyPlaces 8 0 0 (hM m_at m_names m_status m_top m_bottom m_sort m_trayMany (f) m_tape m_text m_taped m_size m_token m_from m_end m_value m_faultKind m_faultPlace m_faults m_seen m_areOdds m_opened m_depth m_counted (s9.2.1) (s9.2.2) (s9.1) m_wayFaults m_wayEast m_wayNorth m_olds m_wayMany m_oneOfSet m_twoOfSet m_farBy m_rowBy m_triedBy m_rowMany m_doneAt m_gotAt m_struckAt m_bestDeed m_misBy m_drawn m_ranSteps m_loops m_ran m_told1 m_isTold m_marks) 77 [some (.ref 0), some (.int (nI k)), some (.int (nI i))] [] Q := by
  intro r
  induction r with
  | zero =>
    intro i f Yc hi hinv
    obtain ⟨vv, hm, hz, hq⟩ := hinv
    refine wp_iload_n 78 d_Mo_copyPlaces_77 rfl rfl ?_
    refine wp_aload_n 79 d_Mo_copyPlaces_78 rfl rfl ?_
    refine wp_getfield 82 12 0 d_Mo_copyPlaces_79 rfl fl_Mo_7 rfl rfl ?_
    refine wp_iconst 83 0 d_Mo_copyPlaces_82 rfl (by decide) ?_
    refine wp_iaload 84 d_Mo_copyPlaces_83 rfl rfl (vp_in_nI (n := 0) (N := 2332) (by omega) (by omega)) ?_
    rw [show m_at (0 : Int32).toNatClampNeg = nI t.nP from V.P]
    refine wp_icmp_ge 153 87 d_Mo_copyPlaces_84 rfl (by decide) (fun h84 => ?_) (fun h84 => ?_)
    · refine wp_aload_n 154 d_Mo_copyPlaces_153 rfl rfl ?_
      refine wp_aload_n 155 d_Mo_copyPlaces_154 rfl rfl ?_
      refine wp_getfield 158 12 0 d_Mo_copyPlaces_155 rfl fl_Mo_7 rfl rfl ?_
      refine wp_iconst 159 0 d_Mo_copyPlaces_158 rfl (by decide) ?_
      refine wp_iaload 160 d_Mo_copyPlaces_159 rfl rfl (vp_in_nI (n := 0) (N := 2332) (by omega) (by omega)) ?_
      rw [show m_at (0 : Int32).toNatClampNeg = nI t.nP from V.P]
      refine wp_V1 163 M_Mo_gives 1 d_Mo_copyPlaces_160 rfl mv_Mo_gives lk_Mo_115 rfl rfl rfl rfl rfl ?_
      refine c_Mo_gives ?_
      refine kI ?_
      refine wp_ireturn d_Mo_copyPlaces_163 rfl ?_
      exact hq _ vv
    · exact absurd ((nI_leI (a := t.nP) (by omega) (by omega)).mpr (by omega)) h84
  | succ r ih =>
    intro i f Yc hi hinv
    obtain ⟨vv, hm, hz, hq⟩ := hinv
    refine wp_iload_n 78 d_Mo_copyPlaces_77 rfl rfl ?_
    refine wp_aload_n 79 d_Mo_copyPlaces_78 rfl rfl ?_
    refine wp_getfield 82 12 0 d_Mo_copyPlaces_79 rfl fl_Mo_7 rfl rfl ?_
    refine wp_iconst 83 0 d_Mo_copyPlaces_82 rfl (by decide) ?_
    refine wp_iaload 84 d_Mo_copyPlaces_83 rfl rfl (vp_in_nI (n := 0) (N := 2332) (by omega) (by omega)) ?_
    rw [show m_at (0 : Int32).toNatClampNeg = nI t.nP from V.P]
    refine wp_icmp_ge 153 87 d_Mo_copyPlaces_84 rfl (by decide) (fun h84 => ?_) (fun h84 => ?_)
    · exact absurd (nI_leN (b := t.nP) h84 (by omega) (by omega)) (by omega)
    · refine wp_aload_n 88 d_Mo_copyPlaces_87 rfl rfl ?_
      refine wp_getfield 91 12 7 d_Mo_copyPlaces_88 rfl fl_Mo_27 rfl rfl ?_
      refine wp_bipush 93 60 d_Mo_copyPlaces_91 rfl (by decide) ?_
      refine wp_iload_n 94 d_Mo_copyPlaces_93 rfl rfl ?_
      refine wp_imul 95 d_Mo_copyPlaces_94 rfl ?_
      rw [mul60]
      refine wp_iconst 96 2 d_Mo_copyPlaces_95 rfl (by decide) ?_
      refine wp_iload_n 97 d_Mo_copyPlaces_96 rfl rfl ?_
      refine wp_imul 98 d_Mo_copyPlaces_97 rfl ?_
      rw [mul2]
      refine wp_iadd 99 d_Mo_copyPlaces_98 rfl ?_
      rw [show nI (60 * k) + nI (2 * i) = nI (60 * k + 2 * i) from nI_add _ _]
      refine wp_aload_n 100 d_Mo_copyPlaces_99 rfl rfl ?_
      refine wp_getfield 103 12 24 d_Mo_copyPlaces_100 rfl fl_Mo_47 rfl rfl ?_
      refine wp_iload_n 104 d_Mo_copyPlaces_103 rfl rfl ?_
      refine wp_ialoadN 105 d_Mo_copyPlaces_104 rfl rfl rfl (by omega) ?_
      refine wp_i2l 106 d_Mo_copyPlaces_105 rfl ?_
      refine wp_aload_n 107 d_Mo_copyPlaces_106 rfl rfl ?_
      refine wp_getfield 110 12 5 d_Mo_copyPlaces_107 rfl fl_Mo_21 rfl rfl ?_
      refine wp_iload_n 111 d_Mo_copyPlaces_110 rfl rfl ?_
      refine wp_ialoadN 112 d_Mo_copyPlaces_111 rfl rfl rfl (by omega) ?_
      refine wp_S2 115 M_Mo_cut 1 d_Mo_copyPlaces_112 rfl ms_Mo_cut lk_Mo_129 rfl rfl ?_
      refine c_Mo_cut ?_
      refine kL ?_
      refine wp_lastoreN 116 d_Mo_copyPlaces_115 rfl rfl rfl (by omega) ?_
      refine hEq (hM m_at m_names m_status m_top m_bottom m_sort m_trayMany (vp_updL f (60 * k + 2 * i) (cutR (m_sort k) (s9.2.1 i).toInt64)) m_tape m_text m_taped m_size m_token m_from m_end m_value m_faultKind m_faultPlace m_faults m_seen m_areOdds m_opened m_depth m_counted (s9.2.1) (s9.2.2) (s9.1) m_wayFaults m_wayEast m_wayNorth m_olds m_wayMany m_oneOfSet m_twoOfSet m_farBy m_rowBy m_triedBy m_rowMany m_doneAt m_gotAt m_struckAt m_bestDeed m_misBy m_drawn m_ranSteps m_loops m_ran m_told1 m_isTold m_marks) rfl ?_
      refine wp_aload_n 117 d_Mo_copyPlaces_116 rfl rfl ?_
      refine wp_getfield 120 12 7 d_Mo_copyPlaces_117 rfl fl_Mo_27 rfl rfl ?_
      refine wp_bipush 122 60 d_Mo_copyPlaces_120 rfl (by decide) ?_
      refine wp_iload_n 123 d_Mo_copyPlaces_122 rfl rfl ?_
      refine wp_imul 124 d_Mo_copyPlaces_123 rfl ?_
      rw [mul60]
      refine wp_iconst 125 2 d_Mo_copyPlaces_124 rfl (by decide) ?_
      refine wp_iload_n 126 d_Mo_copyPlaces_125 rfl rfl ?_
      refine wp_imul 127 d_Mo_copyPlaces_126 rfl ?_
      rw [mul2]
      refine wp_iadd 128 d_Mo_copyPlaces_127 rfl ?_
      rw [show nI (60 * k) + nI (2 * i) = nI (60 * k + 2 * i) from nI_add _ _]
      refine wp_iconst 129 1 d_Mo_copyPlaces_128 rfl (by decide) ?_
      refine wp_iadd 130 d_Mo_copyPlaces_129 rfl ?_
      rw [show nI (60 * k + 2 * i) + 1 = nI (60 * k + (2 * i + 1)) from by rw [nI_1]; rfl]
      refine wp_aload_n 131 d_Mo_copyPlaces_130 rfl rfl ?_
      refine wp_getfield 134 12 25 d_Mo_copyPlaces_131 rfl fl_Mo_50 rfl rfl ?_
      refine wp_iload_n 135 d_Mo_copyPlaces_134 rfl rfl ?_
      refine wp_ialoadN 136 d_Mo_copyPlaces_135 rfl rfl rfl (by omega) ?_
      refine wp_i2l 137 d_Mo_copyPlaces_136 rfl ?_
      refine wp_aload_n 138 d_Mo_copyPlaces_137 rfl rfl ?_
      refine wp_getfield 141 12 5 d_Mo_copyPlaces_138 rfl fl_Mo_21 rfl rfl ?_
      refine wp_iload_n 142 d_Mo_copyPlaces_141 rfl rfl ?_
      refine wp_ialoadN 143 d_Mo_copyPlaces_142 rfl rfl rfl (by omega) ?_
      refine wp_S2 146 M_Mo_cut 1 d_Mo_copyPlaces_143 rfl ms_Mo_cut lk_Mo_129 rfl rfl ?_
      refine c_Mo_cut ?_
      refine kL ?_
      refine wp_lastoreN 147 d_Mo_copyPlaces_146 rfl rfl rfl (by omega) ?_
      refine hEq (hM m_at m_names m_status m_top m_bottom m_sort m_trayMany (vp_updL (vp_updL f (60 * k + 2 * i) (cutR (m_sort k) (s9.2.1 i).toInt64)) (60 * k + (2 * i + 1)) (cutR (m_sort k) (s9.2.2 i).toInt64)) m_tape m_text m_taped m_size m_token m_from m_end m_value m_faultKind m_faultPlace m_faults m_seen m_areOdds m_opened m_depth m_counted (s9.2.1) (s9.2.2) (s9.1) m_wayFaults m_wayEast m_wayNorth m_olds m_wayMany m_oneOfSet m_twoOfSet m_farBy m_rowBy m_triedBy m_rowMany m_doneAt m_gotAt m_struckAt m_bestDeed m_misBy m_drawn m_ranSteps m_loops m_ran m_told1 m_isTold m_marks) rfl ?_
      first | refine wp_iincN_2 150 d_Mo_copyPlaces_147 rfl rfl rfl ?_ | refine wp_iinc_2 150 1 d_Mo_copyPlaces_147 rfl (by decide) rfl rfl ?_
      refine wp_goto 77 d_Mo_copyPlaces_150 (by decide) ?_
      obtain ⟨hx, hy⟩ := (hch.2.1 i (by have := V.ok.hP; omega) (hall i (by omega))).2
      have v1 := vY_yp vv hk (i := 2 * i) (by omega) (s9.2.1 i).toInt64
      have v2 := vY_yp v1 hk (i := 2 * i + 1) (by rw [yPut_nM]; omega) (s9.2.2 i).toInt64
      rw [hx, hy] at v2
      refine ih (i + 1) _ (cpH k (tX t) (tY t) i Yc) (by omega) ⟨?_, ?_, ?_, hq⟩
      · rw [hx, hy]; exact v2
      · have e2 : (cpH k (tX t) (tY t) i Yc k).nM = (Yc k).nM := by
          unfold cpH
          rw [yPut_nM, yPut_nM]
        rw [e2]; exact hm
      · intro y
        apply hz
        have e2 : (cpH k (tX t) (tY t) i Yc k).yth = (Yc k).yth := by
          unfold cpH updY
          rw [if_pos rfl, if_pos rfl]; rfl
        rw [← e2]; exact y

set_option maxRecDepth 100000 in
set_option maxHeartbeats 4000000 in
theorem c_Mo_copyPlaces {a : Int32} (V : vT m_at t) (v : vY m_sort m_trayMany m_trays Y) (hq0 : ∀ w, cpS t Y a = w → ¬ w = 0 → ∀ s : MS, Q (some (.int (-1))) (hM m_at m_names (w) m_top m_bottom m_sort m_trayMany m_trays m_tape m_text m_taped m_size m_token m_from m_end m_value m_faultKind m_faultPlace m_faults m_seen m_areOdds m_opened m_depth m_counted (s.2.1) (s.2.2) (s.1) m_wayFaults m_wayEast m_wayNorth m_olds m_wayMany m_oneOfSet m_twoOfSet m_farBy m_rowBy m_triedBy m_rowMany m_doneAt m_gotAt m_struckAt m_bestDeed m_misBy m_drawn m_ranSteps m_loops m_ran m_told1 m_isTold m_marks)) (hq1 : cpS t Y a = 0 → ∀ s : MS, ∀ tr2, vY m_sort m_trayMany tr2 (cpY t Y a.toNatClampNeg) → Q (some (.int (nI t.nP))) (hM m_at m_names (0) m_top m_bottom m_sort m_trayMany (tr2) m_tape m_text m_taped m_size m_token m_from m_end m_value m_faultKind m_faultPlace m_faults m_seen m_areOdds m_opened m_depth m_counted (s.2.1) (s.2.2) (s.1) m_wayFaults m_wayEast m_wayNorth m_olds m_wayMany m_oneOfSet m_twoOfSet m_farBy m_rowBy m_triedBy m_rowMany m_doneAt m_gotAt m_struckAt m_bestDeed m_misBy m_drawn m_ranSteps m_loops m_ran m_told1 m_isTold m_marks)) : Call Γ M_Mo_copyPlaces 8 0 0 [.ref 0, .int a] (hM m_at m_names m_status m_top m_bottom m_sort m_trayMany m_trays m_tape m_text m_taped m_size m_token m_from m_end m_value m_faultKind m_faultPlace m_faults m_seen m_areOdds m_opened m_depth m_counted m_eastBy m_northBy m_partBy m_wayFaults m_wayEast m_wayNorth m_olds m_wayMany m_oneOfSet m_twoOfSet m_farBy m_rowBy m_triedBy m_rowMany m_doneAt m_gotAt m_struckAt m_bestDeed m_misBy m_drawn m_ranSteps m_loops m_ran m_told1 m_isTold m_marks) Q := by
  refine call_intro (ls := [some (.ref 0), some (.int a), none]) rfl rfl rfl ?_
  refine wp_iload_n 1 d_Mo_copyPlaces_0 rfl rfl ?_
  refine wp_S1 4 M_Mo_isTray 1 d_Mo_copyPlaces_1 rfl ms_Mo_isTray lk_Mo_122 rfl rfl ?_
  refine c_Mo_isTray ?_
  refine kI ?_
  (first | refine wp_ifP_ne 13 7 d_Mo_copyPlaces_4 rfl (by decide) (fun h4 => ?_) (fun h4 => ?_) | refine wp_if_ne 13 7 d_Mo_copyPlaces_4 rfl (by decide) (fun h4 => ?_) (fun h4 => ?_))
  · obtain ⟨k, hk, rfl⟩ := inR_ex (n := 4) h4 (by omega)
    obtain ⟨g1, g2, g3, g4⟩ := v k hk
    have ek : (nI k).toNatClampNeg = k := nI_clamp (by omega)
    have hP7 := V.ok.hP
    refine wp_aload_n 14 d_Mo_copyPlaces_13 rfl rfl ?_
    refine wp_getfield 17 12 6 d_Mo_copyPlaces_14 rfl fl_Mo_24 rfl rfl ?_
    refine wp_iload_n 18 d_Mo_copyPlaces_17 rfl rfl ?_
    refine wp_ialoadN 19 d_Mo_copyPlaces_18 rfl rfl rfl (by omega) ?_
    rw [g2]
    refine wp_iconst 20 (-1) d_Mo_copyPlaces_19 rfl (by decide) ?_
    refine wp_icmp_ne 29 23 d_Mo_copyPlaces_20 rfl (by decide) (fun h20 => ?_) (fun h20 => ?_)
    · have hth : ¬ (Y k).yth = 0 := fun y => h20 (if_pos y)
      refine wp_aload_n 30 d_Mo_copyPlaces_29 rfl rfl ?_
      refine wp_getfield 33 12 6 d_Mo_copyPlaces_30 rfl fl_Mo_24 rfl rfl ?_
      refine wp_iload_n 34 d_Mo_copyPlaces_33 rfl rfl ?_
      refine wp_ialoadN 35 d_Mo_copyPlaces_34 rfl rfl rfl (by omega) ?_
      rw [g2, if_neg hth]
      refine wp_iconst 36 2 d_Mo_copyPlaces_35 rfl (by decide) ?_
      refine wp_aload_n 37 d_Mo_copyPlaces_36 rfl rfl ?_
      refine wp_getfield 40 12 0 d_Mo_copyPlaces_37 rfl fl_Mo_7 rfl rfl ?_
      refine wp_iconst 41 0 d_Mo_copyPlaces_40 rfl (by decide) ?_
      refine wp_iaload 42 d_Mo_copyPlaces_41 rfl rfl (vp_in_nI (n := 0) (N := 2332) (by omega) (by omega)) ?_
      rw [show m_at (0 : Int32).toNatClampNeg = nI t.nP from V.P]
      refine wp_imul 43 d_Mo_copyPlaces_42 rfl ?_
      rw [mul2]
      refine wp_icmp_ge 52 46 d_Mo_copyPlaces_43 rfl (by decide) (fun h43 => ?_) (fun h43 => ?_)
      · have hm2 : 2 * t.nP ≤ (Y k).nM := nI_leN h43 (by omega) (by omega)
        refine wp_aload_n 53 d_Mo_copyPlaces_52 rfl rfl ?_
        refine wp_V0 56 M_Mo_lying 7 d_Mo_copyPlaces_53 rfl mv_Mo_lying lk_Mo_328 rfl rfl rfl rfl rfl ?_
        refine c_Mo_lying V (fun s9 hch => ?_)
        refine kI ?_
        refine wp_S1 59 M_Mo_bits 1 d_Mo_copyPlaces_56 rfl ms_Mo_bits lk_Mo_363 rfl rfl ?_
        refine c_Mo_bits (tLi_in V.ok) ?_
        refine kI ?_
        refine wp_aload_n 60 d_Mo_copyPlaces_59 rfl rfl ?_
        refine wp_getfield 63 12 0 d_Mo_copyPlaces_60 rfl fl_Mo_7 rfl rfl ?_
        refine wp_iconst 64 0 d_Mo_copyPlaces_63 rfl (by decide) ?_
        refine wp_iaload 65 d_Mo_copyPlaces_64 rfl rfl (vp_in_nI (n := 0) (N := 2332) (by omega) (by omega)) ?_
        rw [show m_at (0 : Int32).toNatClampNeg = nI t.nP from V.P]
        refine wp_icmp_ge 75 68 d_Mo_copyPlaces_65 rfl (by decide) (fun h65 => ?_) (fun h65 => ?_)
        · refine wp_iconst 76 0 d_Mo_copyPlaces_75 rfl (by decide) ?_
          refine wp_istore_2 77 d_Mo_copyPlaces_76 rfl rfl rfl ?_
          have e0_ : cpS t Y (nI k) = 0 := (if_pos h4).trans (by rw [ek]; exact (if_neg hth).trans ((if_pos (by rw [mul2]; exact (sum64 (p := 0) (by omega) (by omega) (by omega)).mpr (by omega))).trans (if_neg (fun y => absurd h65 (Int32.not_le.mpr y)))))
          exact l_Mo_copyPlaces_77 V V.ok.hP hk hch (li_all V.ok h65) t.nP 0 m_trays Y (by omega) ⟨v, hm2, hth, fun tr2 h2 => hq1 e0_ s9 tr2 (by rw [ek]; exact h2)⟩
        · refine wp_aload_n 69 d_Mo_copyPlaces_68 rfl rfl ?_
          refine wp_bipush 71 6 d_Mo_copyPlaces_69 rfl (by decide) ?_
          refine wp_V1 74 M_Mo_refuse 1 d_Mo_copyPlaces_71 rfl mv_Mo_refuse lk_Mo_111 rfl rfl rfl rfl rfl ?_
          refine c_Mo_refuse ?_
          refine kI ?_
          refine wp_ireturn d_Mo_copyPlaces_74 rfl ?_
          have e : cpS t Y (nI k) = 6 := (if_pos h4 : cpS t Y (nI k) = _).trans (by rw [ek]; exact (if_neg hth).trans ((if_pos (by rw [mul2]; exact (sum64 (p := 0) (by omega) (by omega) (by omega)).mpr (by omega))).trans (if_pos (Int32.not_le.mp h65))))
          exact hq0 6 e (by decide) s9
      · refine wp_aload_n 47 d_Mo_copyPlaces_46 rfl rfl ?_
        refine wp_iconst 48 3 d_Mo_copyPlaces_47 rfl (by decide) ?_
        refine wp_V1 51 M_Mo_refuse 1 d_Mo_copyPlaces_48 rfl mv_Mo_refuse lk_Mo_111 rfl rfl rfl rfl rfl ?_
        refine c_Mo_refuse ?_
        refine kI ?_
        refine wp_ireturn d_Mo_copyPlaces_51 rfl ?_
        have e : cpS t Y (nI k) = 3 := (if_pos h4 : cpS t Y (nI k) = _).trans (by rw [ek]; exact (if_neg hth).trans (if_neg (fun y => h43 ((nI_leI (by omega) (by omega)).mpr (by rw [mul2] at y; have := (sum64 (p := 0) (by omega) (by omega) (by omega)).mp y; omega)))))
        exact hq0 3 e (by decide) (m_partBy, m_eastBy, m_northBy)
    · refine wp_aload_n 24 d_Mo_copyPlaces_23 rfl rfl ?_
      refine wp_iconst 25 2 d_Mo_copyPlaces_24 rfl (by decide) ?_
      refine wp_V1 28 M_Mo_refuse 1 d_Mo_copyPlaces_25 rfl mv_Mo_refuse lk_Mo_111 rfl rfl rfl rfl rfl ?_
      refine c_Mo_refuse ?_
      refine kI ?_
      refine wp_ireturn d_Mo_copyPlaces_28 rfl ?_
      have e : cpS t Y (nI k) = 2 := (if_pos h4 : cpS t Y (nI k) = _).trans (by rw [ek]; exact if_pos (Decidable.of_not_not (fun y => by rw [if_neg y] at h20; exact nI_ne1 (by omega) h20)))
      exact hq0 2 e (by decide) (m_partBy, m_eastBy, m_northBy)
  · refine wp_aload_n 8 d_Mo_copyPlaces_7 rfl rfl ?_
    refine wp_iconst 9 1 d_Mo_copyPlaces_8 rfl (by decide) ?_
    refine wp_V1 12 M_Mo_refuse 1 d_Mo_copyPlaces_9 rfl mv_Mo_refuse lk_Mo_111 rfl rfl rfl rfl rfl ?_
    refine c_Mo_refuse ?_
    refine kI ?_
    refine wp_ireturn d_Mo_copyPlaces_12 rfl ?_
    have e : cpS t Y a = 1 := if_neg h4
    exact hq0 1 e (by decide) (m_partBy, m_eastBy, m_northBy)

end T94
