/-! ===== the reference: its heap, its view as a town; small methods ===== -/
abbrev hM (m_at : Nat → Int32) (m_names : Nat → Int64) (m_status : Int32) (m_top : Int64) (m_bottom : Int64) (m_sort : Nat → Int32) (m_trayMany : Nat → Int32) (m_trays : Nat → Int64) (m_tape : Nat → Int32) (m_text : Nat → Int32) (m_taped : Int32) (m_size : Int32) (m_token : Int32) (m_from : Int32) (m_end : Int32) (m_value : Int32) (m_faultKind : Int32) (m_faultPlace : Int32) (m_faults : Int32) (m_seen : Int32) (m_areOdds : Int32) (m_opened : Nat → Int32) (m_depth : Int32) (m_counted : Int32) (m_eastBy : Nat → Int32) (m_northBy : Nat → Int32) (m_partBy : Nat → Int32) (m_wayFaults : Nat → Int32) (m_wayEast : Nat → Int32) (m_wayNorth : Nat → Int32) (m_olds : Nat → Int32) (m_wayMany : Int32) (m_oneOfSet : Int32) (m_twoOfSet : Int32) (m_farBy : Nat → Int32) (m_rowBy : Nat → Int32) (m_triedBy : Nat → Int32) (m_rowMany : Int32) (m_doneAt : Nat → Int32) (m_gotAt : Nat → Int32) (m_struckAt : Nat → Int32) (m_bestDeed : Nat → Int32) (m_misBy : Nat → Int64) (m_drawn : Int32) (m_ranSteps : Int32) (m_loops : Nat → Int32) (m_ran : Nat → Int32) (m_told1 : Nat → Int32) (m_isTold : Int32) (m_marks : Int32) : LH := [cO 12 [.ref 1, .ref 2, .int m_status, .long m_top, .long m_bottom, .ref 3, .ref 4, .ref 5, .ref 6, .ref 7, .int m_taped, .int m_size, .int m_token, .int m_from, .int m_end, .int m_value, .int m_faultKind, .int m_faultPlace, .int m_faults, .int m_seen, .int m_areOdds, .ref 8, .int m_depth, .int m_counted, .ref 9, .ref 10, .ref 11, .ref 12, .ref 13, .ref 14, .ref 15, .int m_wayMany, .int m_oneOfSet, .int m_twoOfSet, .ref 16, .ref 17, .ref 18, .int m_rowMany, .ref 19, .ref 20, .ref 21, .ref 22, .ref 23, .int m_drawn, .int m_ranSteps, .ref 24, .ref 25, .ref 26, .int m_isTold, .int m_marks], cI 2332 m_at, cL 66 m_names, cI 4 m_sort, cI 4 m_trayMany, cL 240 m_trays, cB 900 m_tape, cB 900 m_text, cI 3 m_opened, cI 7 m_eastBy, cI 7 m_northBy, cI 7 m_partBy, cI 576 m_wayFaults, cI 4032 m_wayEast, cI 4032 m_wayNorth, cI 4 m_olds, cI 7 m_farBy, cI 8 m_rowBy, cI 8 m_triedBy, cI 5 m_doneAt, cI 5 m_gotAt, cI 5 m_struckAt, cI 5 m_bestDeed, cL 13 m_misBy, cI 80 m_loops, cI 5 m_ran, cI 5 m_told1]
theorem hs_bv {s : Int32} {k : Nat} (hk : k < 32) : hs s (nI k) ↔ s.toBitVec.getLsbD k = true := by
  have e1 : (nI k &&& 31) = nI k := by
    have : ∀ k, k < 32 → (nI k &&& 31) = nI k := by decide +kernel
    exact this k hk
  have e2 : (s >>> nI k) &&& 1 = 0 ↔ s.toBitVec.getLsbD k = false := by
    have h1 : ((s >>> nI k) &&& 1).toBitVec = (s.toBitVec.sshiftRight k) &&& 1#32 := by
      have h2 : ∀ k, k < 32 → (Int32.toBitVec (nI k)).smod 32 = BitVec.ofNat 32 k := by decide +kernel
      rw [Int32.toBitVec_and, Int32.toBitVec_shiftRight]
      rw [h2 k hk]
      show BitVec.sshiftRight' _ _ &&& _ = _
      rw [BitVec.sshiftRight', BitVec.toNat_ofNat, Nat.mod_eq_of_lt (by omega)]
      rfl
    have h3 : s.toBitVec.getLsbD k = (((s >>> nI k) &&& 1).toBitVec).getLsbD 0 := by
      rw [h1, BitVec.getLsbD_and, BitVec.getLsbD_sshiftRight]
      simp [hk]
    constructor
    · intro z
      rw [h3, z]; rfl
    · intro z
      rw [h3] at z
      apply Int32.toBitVec_inj.mp
      rw [h1] at z ⊢
      apply BitVec.eq_of_getLsbD_eq
      intro i hi
      by_cases h : i = 0
      · subst h; rw [z]; rfl
      · simp only [BitVec.getLsbD_and]
        have : (1#32).getLsbD i = false := by
          rw [BitVec.getLsbD_one]; simp [h]
        rw [this]; simp
  unfold hs
  rw [e1, e2]
  simp
theorem bit_bv {l : Nat} (hl : l < 32) (k : Nat) (hk : k < 32) : (bit (nI l)).toBitVec.getLsbD k = decide (k = l) := by
  have : ∀ l, l < 32 → ∀ k, k < 32 → (bit (nI l)).toBitVec.getLsbD k = decide (k = l) := by decide +kernel
  exact this l hl k hk
theorem hs_or {a b : Int32} {k : Nat} (hk : k < 32) : hs (a ||| b) (nI k) ↔ hs a (nI k) ∨ hs b (nI k) := by
  rw [hs_bv hk, hs_bv hk, hs_bv hk, Int32.toBitVec_or, BitVec.getLsbD_or, Bool.or_eq_true]
theorem hs_and {a b : Int32} {k : Nat} (hk : k < 32) : hs (a &&& b) (nI k) ↔ hs a (nI k) ∧ hs b (nI k) := by
  rw [hs_bv hk, hs_bv hk, hs_bv hk, Int32.toBitVec_and, BitVec.getLsbD_and, Bool.and_eq_true]
theorem hs_bit {l k : Nat} (hl : l < 32) (hk : k < 32) : hs (bit (nI l)) (nI k) ↔ k = l := by
  rw [hs_bv hk, bit_bv hl k hk]; simp
theorem hs_not {a : Int32} {k : Nat} (hk : k < 32) : hs (a ^^^ (-1)) (nI k) ↔ ¬ hs a (nI k) := by
  have : ∀ k, k < 32 → (Int32.toBitVec (-1)).getLsbD k = true := by decide +kernel
  rw [hs_bv hk, hs_bv hk, Int32.toBitVec_xor, BitVec.getLsbD_xor, this k hk]
  cases a.toBitVec.getLsbD k <;> simp
theorem hs_low {n k : Nat} (hn : n ≤ 12) (hk : k < 32) : hs (bit (nI n) - 1) (nI k) ↔ k < n := by
  have : ∀ n, n ≤ 12 → ∀ k, k < 32 → ((bit (nI n) - 1).toBitVec.getLsbD k = decide (k < n)) := by decide +kernel
  rw [hs_bv hk, this n hn k hk]; simp
theorem hs_th {n k : Nat} {sk : Int32} (hn : n ≤ 12) (hk : k < n) : hs (lTh (nI n) sk) (nI k) ↔ ¬ hs sk (nI k) := by
  unfold lTh
  rw [hs_and (by omega), hs_low hn (by omega), hs_not (by omega)]
  exact ⟨fun z => z.2, fun z => ⟨hk, z⟩⟩
theorem and1 (x : Int32) : x &&& 1 = 0 ∨ x &&& 1 = 1 := by
  obtain ⟨j, hj, e⟩ := pk_andE x (m := 1) 1 (by decide)
  match j, hj with
  | 0, _ => exact Or.inl e
  | 1, _ => exact Or.inr e
theorem hs_one {s k : Int32} : (s >>> (k &&& 31)) &&& 1 = 1 ↔ hs s k := by
  unfold hs
  rcases and1 (s >>> (k &&& 31)) with h | h <;> rw [h] <;> decide

/-- what holds of a town besides -/
def tIn (t : TW) : Prop := (∀ l, l < t.nL → inR (t.te l) (nI t.nW) ∧ inR (t.fr l) (nI t.nP) ∧ inR (t.to_ l) (nI t.nP) ∧ ¬ t.fr l = t.to_ l) ∧ (∀ w, w < t.nW → inR (t.fa w) 24) ∧ (t.sd = -1 ∨ inR t.sd (nI t.nP)) ∧ inR t.od 17 ∧ ∀ l, l < t.nL → isPa (t.ea l) ∧ isPa (t.no l)
/-- the town in the reference's cells -/
def vT (a : Nat → Int32) (t : TW) : Prop := (a 0 = nI t.nP ∧ a 1 = nI t.nW ∧ a 2 = nI t.nL ∧ a 3 = t.od ∧ a 4 = t.sd ∧ a 5 = t.go ∧ a 6 = t.sk) ∧ (∀ w, w < t.nW → a (10 + 3 * w) = tB (t.fa w) ∧ a (11 + 3 * w) = lB (t.fa w) ∧ a (12 + 3 * w) = sB (t.fa w)) ∧ (∀ l, l < t.nL → a (22 + 5 * l) = t.te l ∧ a (23 + 5 * l) = t.fr l ∧ a (24 + 5 * l) = t.to_ l ∧ a (25 + 5 * l) = t.ea l ∧ a (26 + 5 * l) = t.no l) ∧ tOK t ∧ tIn t
theorem vT.P {a t} (V : vT a t) : a 0 = nI t.nP := V.1.1
theorem vT.W {a t} (V : vT a t) : a 1 = nI t.nW := V.1.2.1
theorem vT.L {a t} (V : vT a t) : a 2 = nI t.nL := V.1.2.2.1
theorem vT.od {a t} (V : vT a t) : a 3 = t.od := V.1.2.2.2.1
theorem vT.sd {a t} (V : vT a t) : a 4 = t.sd := V.1.2.2.2.2.1
theorem vT.go {a t} (V : vT a t) : a 5 = t.go := V.1.2.2.2.2.2.1
theorem vT.sk {a t} (V : vT a t) : a 6 = t.sk := V.1.2.2.2.2.2.2
theorem vT.ok {a t} (V : vT a t) : tOK t := V.2.2.2.1
theorem vT.in_ {a t} (V : vT a t) : tIn t := V.2.2.2.2
def cdD : Nat → Int64 → Int64 → Prop
  | 0, _, b => b = 0
  | r + 1, a, b => b = 0 ∨ cdD r b (a - a / b * b)
theorem cdI_0 : ∀ (r : Nat) (a : Int64), cdI r a 0 = a
  | 0, _ => rfl
  | _ + 1, _ => if_pos rfl
def bbI : Nat → Int32 → Int32 → Int32
  | 0, _, n => n
  | r + 1, k, n => if k = 0 then n else bbI r (k &&& (k - 1)) (n + 1)
def bbD : Nat → Int32 → Bool
  | 0, k => k == 0
  | r + 1, k => k == 0 || bbD r (k &&& (k - 1))
theorem bb_ok2 : ∀ a, a < 64 → ∀ b, b < 64 → (bbD 13 (nI (64 * a + b)) = true ∧ bbI 13 (nI (64 * a + b)) 0 = bcR (nI (64 * a + b))) := by decide +kernel
theorem bb_ok (i : Nat) (hi : i < 4096) : bbD 13 (nI i) = true ∧ bbI 13 (nI i) 0 = bcR (nI i) := by
  have h := bb_ok2 (i / 64) (by omega) (i % 64) (by omega)
  rw [show 64 * (i / 64) + i % 64 = i by omega] at h
  exact h
theorem aB_max (v : Int32) : iMax v (-v) = aB v := by
  have hn : (-v).toInt = if v.toInt = -2147483648 then -2147483648 else -v.toInt := by
    have h1 := v.le_toInt
    have h2 := v.toInt_lt
    rw [Int32.toInt_neg]
    split
    · rename_i h; rw [h]; decide
    · apply Int.bmod_eq_of_le <;> omega
  have h1 := v.le_toInt
  unfold iMax aB
  by_cases h : v < 0
  · rw [if_pos h]
    have h0 : v.toInt < 0 := by simpa using Int32.lt_iff_toInt_lt.mp h
    by_cases h2 : -v ≤ v
    · rw [if_pos h2]
      have h3 := Int32.le_iff_toInt_le.mp h2
      rw [hn] at h3
      apply Int32.toInt_inj.mp
      rw [hn]
      by_cases h4 : v.toInt = -2147483648
      · rw [if_pos h4]; exact h4
      · rw [if_neg h4] at h3; omega
    · rw [if_neg h2]
  · rw [if_neg h]
    have h0 : ¬ v.toInt < 0 := fun z => h (Int32.lt_iff_toInt_lt.mpr (by simpa using z))
    rw [if_pos]
    apply Int32.le_iff_toInt_le.mpr
    rw [hn]
    split <;> omega
section T70
variable {Γ : Gm} {Q : Option Value → LH → Prop} {m_at m_sort m_trayMany m_tape m_text m_opened m_eastBy m_northBy m_partBy m_wayFaults m_wayEast m_wayNorth m_olds m_farBy m_rowBy m_triedBy m_doneAt m_gotAt m_struckAt m_bestDeed m_loops m_ran m_told1 : Nat → Int32} {m_names m_trays m_misBy : Nat → Int64} {m_status m_taped m_size m_token m_from m_end m_value m_faultKind m_faultPlace m_faults m_seen m_areOdds m_depth m_counted m_wayMany m_oneOfSet m_twoOfSet m_rowMany m_drawn m_ranSteps m_isTold m_marks : Int32} {m_top m_bottom : Int64} {t : TW}
set_option maxRecDepth 100000 in
set_option maxHeartbeats 4000000 in
theorem c_Mo_is {v : Int32} (hq : Q (some (.int (bP (v = 0)))) (hM m_at m_names (v) m_top m_bottom m_sort m_trayMany m_trays m_tape m_text m_taped m_size m_token m_from m_end m_value m_faultKind m_faultPlace m_faults m_seen m_areOdds m_opened m_depth m_counted m_eastBy m_northBy m_partBy m_wayFaults m_wayEast m_wayNorth m_olds m_wayMany m_oneOfSet m_twoOfSet m_farBy m_rowBy m_triedBy m_rowMany m_doneAt m_gotAt m_struckAt m_bestDeed m_misBy m_drawn m_ranSteps m_loops m_ran m_told1 m_isTold m_marks)) : Call Γ M_Mo_is 1 0 0 [.ref 0, .int v] (hM m_at m_names m_status m_top m_bottom m_sort m_trayMany m_trays m_tape m_text m_taped m_size m_token m_from m_end m_value m_faultKind m_faultPlace m_faults m_seen m_areOdds m_opened m_depth m_counted m_eastBy m_northBy m_partBy m_wayFaults m_wayEast m_wayNorth m_olds m_wayMany m_oneOfSet m_twoOfSet m_farBy m_rowBy m_triedBy m_rowMany m_doneAt m_gotAt m_struckAt m_bestDeed m_misBy m_drawn m_ranSteps m_loops m_ran m_told1 m_isTold m_marks) Q := by
  refine call_intro (ls := [some (.ref 0), some (.int v)]) rfl rfl rfl ?_
  refine wp_aload_n 1 d_Mo_is_0 rfl rfl ?_
  refine wp_iload_n 2 d_Mo_is_1 rfl rfl ?_
  refine wp_putfield 5 12 2 _ d_Mo_is_2 rfl fp_Mo_105 rfl rfl (okP_int _) ?_
  refine hEq (hM m_at m_names (v) m_top m_bottom m_sort m_trayMany m_trays m_tape m_text m_taped m_size m_token m_from m_end m_value m_faultKind m_faultPlace m_faults m_seen m_areOdds m_opened m_depth m_counted m_eastBy m_northBy m_partBy m_wayFaults m_wayEast m_wayNorth m_olds m_wayMany m_oneOfSet m_twoOfSet m_farBy m_rowBy m_triedBy m_rowMany m_doneAt m_gotAt m_struckAt m_bestDeed m_misBy m_drawn m_ranSteps m_loops m_ran m_told1 m_isTold m_marks) rfl ?_
  refine wp_iload_n 6 d_Mo_is_5 rfl rfl ?_
  refine wp_if_ne 13 9 d_Mo_is_6 rfl (by decide) (fun h6 => ?_) (fun h6 => ?_)
  · refine wp_iconst 14 0 d_Mo_is_13 rfl (by decide) ?_
    refine wp_zreturn d_Mo_is_14 rfl (by first | rfl | exact nbP _) ?_
    exact bq0 h6 hq
  · refine wp_iconst 10 1 d_Mo_is_9 rfl (by decide) ?_
    refine wp_goto 14 d_Mo_is_10 (by decide) ?_
    refine wp_zreturn d_Mo_is_14 rfl (by first | rfl | exact nbP _) ?_
    exact bq1 h6 hq

set_option maxRecDepth 100000 in
set_option maxHeartbeats 4000000 in
theorem c_Mo_refuse {v : Int32} (hq : Q (some (.int (-1))) (hM m_at m_names (v) m_top m_bottom m_sort m_trayMany m_trays m_tape m_text m_taped m_size m_token m_from m_end m_value m_faultKind m_faultPlace m_faults m_seen m_areOdds m_opened m_depth m_counted m_eastBy m_northBy m_partBy m_wayFaults m_wayEast m_wayNorth m_olds m_wayMany m_oneOfSet m_twoOfSet m_farBy m_rowBy m_triedBy m_rowMany m_doneAt m_gotAt m_struckAt m_bestDeed m_misBy m_drawn m_ranSteps m_loops m_ran m_told1 m_isTold m_marks)) : Call Γ M_Mo_refuse 1 0 0 [.ref 0, .int v] (hM m_at m_names m_status m_top m_bottom m_sort m_trayMany m_trays m_tape m_text m_taped m_size m_token m_from m_end m_value m_faultKind m_faultPlace m_faults m_seen m_areOdds m_opened m_depth m_counted m_eastBy m_northBy m_partBy m_wayFaults m_wayEast m_wayNorth m_olds m_wayMany m_oneOfSet m_twoOfSet m_farBy m_rowBy m_triedBy m_rowMany m_doneAt m_gotAt m_struckAt m_bestDeed m_misBy m_drawn m_ranSteps m_loops m_ran m_told1 m_isTold m_marks) Q := by
  refine call_intro (ls := [some (.ref 0), some (.int v)]) rfl rfl rfl ?_
  refine wp_aload_n 1 d_Mo_refuse_0 rfl rfl ?_
  refine wp_iload_n 2 d_Mo_refuse_1 rfl rfl ?_
  refine wp_putfield 5 12 2 _ d_Mo_refuse_2 rfl fp_Mo_105 rfl rfl (okP_int _) ?_
  refine hEq (hM m_at m_names (v) m_top m_bottom m_sort m_trayMany m_trays m_tape m_text m_taped m_size m_token m_from m_end m_value m_faultKind m_faultPlace m_faults m_seen m_areOdds m_opened m_depth m_counted m_eastBy m_northBy m_partBy m_wayFaults m_wayEast m_wayNorth m_olds m_wayMany m_oneOfSet m_twoOfSet m_farBy m_rowBy m_triedBy m_rowMany m_doneAt m_gotAt m_struckAt m_bestDeed m_misBy m_drawn m_ranSteps m_loops m_ran m_told1 m_isTold m_marks) rfl ?_
  refine wp_iconst 6 (-1) d_Mo_refuse_5 rfl (by decide) ?_
  refine wp_ireturn d_Mo_refuse_6 rfl ?_
  exact hq

set_option maxRecDepth 100000 in
set_option maxHeartbeats 4000000 in
theorem c_Mo_gives {v : Int32} (hq : Q (some (.int v)) (hM m_at m_names (0) m_top m_bottom m_sort m_trayMany m_trays m_tape m_text m_taped m_size m_token m_from m_end m_value m_faultKind m_faultPlace m_faults m_seen m_areOdds m_opened m_depth m_counted m_eastBy m_northBy m_partBy m_wayFaults m_wayEast m_wayNorth m_olds m_wayMany m_oneOfSet m_twoOfSet m_farBy m_rowBy m_triedBy m_rowMany m_doneAt m_gotAt m_struckAt m_bestDeed m_misBy m_drawn m_ranSteps m_loops m_ran m_told1 m_isTold m_marks)) : Call Γ M_Mo_gives 1 0 0 [.ref 0, .int v] (hM m_at m_names m_status m_top m_bottom m_sort m_trayMany m_trays m_tape m_text m_taped m_size m_token m_from m_end m_value m_faultKind m_faultPlace m_faults m_seen m_areOdds m_opened m_depth m_counted m_eastBy m_northBy m_partBy m_wayFaults m_wayEast m_wayNorth m_olds m_wayMany m_oneOfSet m_twoOfSet m_farBy m_rowBy m_triedBy m_rowMany m_doneAt m_gotAt m_struckAt m_bestDeed m_misBy m_drawn m_ranSteps m_loops m_ran m_told1 m_isTold m_marks) Q := by
  refine call_intro (ls := [some (.ref 0), some (.int v)]) rfl rfl rfl ?_
  refine wp_aload_n 1 d_Mo_gives_0 rfl rfl ?_
  refine wp_iconst 2 0 d_Mo_gives_1 rfl (by decide) ?_
  refine wp_putfield 5 12 2 _ d_Mo_gives_2 rfl fp_Mo_105 rfl rfl (okP_int _) ?_
  refine hEq (hM m_at m_names (0) m_top m_bottom m_sort m_trayMany m_trays m_tape m_text m_taped m_size m_token m_from m_end m_value m_faultKind m_faultPlace m_faults m_seen m_areOdds m_opened m_depth m_counted m_eastBy m_northBy m_partBy m_wayFaults m_wayEast m_wayNorth m_olds m_wayMany m_oneOfSet m_twoOfSet m_farBy m_rowBy m_triedBy m_rowMany m_doneAt m_gotAt m_struckAt m_bestDeed m_misBy m_drawn m_ranSteps m_loops m_ran m_told1 m_isTold m_marks) rfl ?_
  refine wp_iload_n 6 d_Mo_gives_5 rfl rfl ?_
  refine wp_ireturn d_Mo_gives_6 rfl ?_
  exact hq

set_option maxRecDepth 100000 in
set_option maxHeartbeats 4000000 in
theorem c_Mo_orNone {v : Int32} (hq : Q (some (.int v)) (hM m_at m_names (if v = -1 then 6 else 0) m_top m_bottom m_sort m_trayMany m_trays m_tape m_text m_taped m_size m_token m_from m_end m_value m_faultKind m_faultPlace m_faults m_seen m_areOdds m_opened m_depth m_counted m_eastBy m_northBy m_partBy m_wayFaults m_wayEast m_wayNorth m_olds m_wayMany m_oneOfSet m_twoOfSet m_farBy m_rowBy m_triedBy m_rowMany m_doneAt m_gotAt m_struckAt m_bestDeed m_misBy m_drawn m_ranSteps m_loops m_ran m_told1 m_isTold m_marks)) : Call Γ M_Mo_orNone 2 0 0 [.ref 0, .int v] (hM m_at m_names m_status m_top m_bottom m_sort m_trayMany m_trays m_tape m_text m_taped m_size m_token m_from m_end m_value m_faultKind m_faultPlace m_faults m_seen m_areOdds m_opened m_depth m_counted m_eastBy m_northBy m_partBy m_wayFaults m_wayEast m_wayNorth m_olds m_wayMany m_oneOfSet m_twoOfSet m_farBy m_rowBy m_triedBy m_rowMany m_doneAt m_gotAt m_struckAt m_bestDeed m_misBy m_drawn m_ranSteps m_loops m_ran m_told1 m_isTold m_marks) Q := by
  refine call_intro (ls := [some (.ref 0), some (.int v)]) rfl rfl rfl ?_
  refine wp_iload_n 1 d_Mo_orNone_0 rfl rfl ?_
  refine wp_iconst 2 (-1) d_Mo_orNone_1 rfl (by decide) ?_
  refine wp_icmp_ne 12 5 d_Mo_orNone_2 rfl (by decide) (fun h2 => ?_) (fun h2 => ?_)
  · refine wp_aload_n 13 d_Mo_orNone_12 rfl rfl ?_
    refine wp_iload_n 14 d_Mo_orNone_13 rfl rfl ?_
    refine wp_V1 17 M_Mo_gives 1 d_Mo_orNone_14 rfl mv_Mo_gives lk_Mo_115 rfl rfl rfl rfl rfl ?_
    refine c_Mo_gives ?_
    refine kI ?_
    refine wp_ireturn d_Mo_orNone_17 rfl ?_
    rw [if_neg h2] at hq
    exact hq
  · refine wp_aload_n 6 d_Mo_orNone_5 rfl rfl ?_
    refine wp_bipush 8 6 d_Mo_orNone_6 rfl (by decide) ?_
    refine wp_V1 11 M_Mo_refuse 1 d_Mo_orNone_8 rfl mv_Mo_refuse lk_Mo_111 rfl rfl rfl rfl rfl ?_
    refine c_Mo_refuse ?_
    refine kI ?_
    refine wp_ireturn d_Mo_orNone_11 rfl ?_
    rw [if_pos h2] at hq
    rw [h2] at hq
    exact hq

set_option maxRecDepth 100000 in
set_option maxHeartbeats 4000000 in
theorem c_Mo_status  (hq : Q (some (.int m_status)) (hM m_at m_names m_status m_top m_bottom m_sort m_trayMany m_trays m_tape m_text m_taped m_size m_token m_from m_end m_value m_faultKind m_faultPlace m_faults m_seen m_areOdds m_opened m_depth m_counted m_eastBy m_northBy m_partBy m_wayFaults m_wayEast m_wayNorth m_olds m_wayMany m_oneOfSet m_twoOfSet m_farBy m_rowBy m_triedBy m_rowMany m_doneAt m_gotAt m_struckAt m_bestDeed m_misBy m_drawn m_ranSteps m_loops m_ran m_told1 m_isTold m_marks)) : Call Γ M_Mo_status 1 0 0 [.ref 0] (hM m_at m_names m_status m_top m_bottom m_sort m_trayMany m_trays m_tape m_text m_taped m_size m_token m_from m_end m_value m_faultKind m_faultPlace m_faults m_seen m_areOdds m_opened m_depth m_counted m_eastBy m_northBy m_partBy m_wayFaults m_wayEast m_wayNorth m_olds m_wayMany m_oneOfSet m_twoOfSet m_farBy m_rowBy m_triedBy m_rowMany m_doneAt m_gotAt m_struckAt m_bestDeed m_misBy m_drawn m_ranSteps m_loops m_ran m_told1 m_isTold m_marks) Q := by
  refine call_intro (ls := [some (.ref 0)]) rfl rfl rfl ?_
  refine wp_aload_n 1 d_Mo_status_0 rfl rfl ?_
  refine wp_getfield 4 12 2 d_Mo_status_1 rfl fl_Mo_105 rfl rfl ?_
  refine wp_ireturn d_Mo_status_4 rfl ?_
  exact hq

set_option maxRecDepth 100000 in
set_option maxHeartbeats 4000000 in
theorem c_Mo_top  (hq : Q (some (.long m_top)) (hM m_at m_names m_status m_top m_bottom m_sort m_trayMany m_trays m_tape m_text m_taped m_size m_token m_from m_end m_value m_faultKind m_faultPlace m_faults m_seen m_areOdds m_opened m_depth m_counted m_eastBy m_northBy m_partBy m_wayFaults m_wayEast m_wayNorth m_olds m_wayMany m_oneOfSet m_twoOfSet m_farBy m_rowBy m_triedBy m_rowMany m_doneAt m_gotAt m_struckAt m_bestDeed m_misBy m_drawn m_ranSteps m_loops m_ran m_told1 m_isTold m_marks)) : Call Γ M_Mo_top 1 0 0 [.ref 0] (hM m_at m_names m_status m_top m_bottom m_sort m_trayMany m_trays m_tape m_text m_taped m_size m_token m_from m_end m_value m_faultKind m_faultPlace m_faults m_seen m_areOdds m_opened m_depth m_counted m_eastBy m_northBy m_partBy m_wayFaults m_wayEast m_wayNorth m_olds m_wayMany m_oneOfSet m_twoOfSet m_farBy m_rowBy m_triedBy m_rowMany m_doneAt m_gotAt m_struckAt m_bestDeed m_misBy m_drawn m_ranSteps m_loops m_ran m_told1 m_isTold m_marks) Q := by
  refine call_intro (ls := [some (.ref 0)]) rfl rfl rfl ?_
  refine wp_aload_n 1 d_Mo_top_0 rfl rfl ?_
  refine wp_getfield 4 12 3 d_Mo_top_1 rfl fl_Mo_108 rfl rfl ?_
  refine wp_lreturn d_Mo_top_4 rfl ?_
  exact hq

set_option maxRecDepth 100000 in
set_option maxHeartbeats 4000000 in
theorem c_Mo_bottom  (hq : Q (some (.long m_bottom)) (hM m_at m_names m_status m_top m_bottom m_sort m_trayMany m_trays m_tape m_text m_taped m_size m_token m_from m_end m_value m_faultKind m_faultPlace m_faults m_seen m_areOdds m_opened m_depth m_counted m_eastBy m_northBy m_partBy m_wayFaults m_wayEast m_wayNorth m_olds m_wayMany m_oneOfSet m_twoOfSet m_farBy m_rowBy m_triedBy m_rowMany m_doneAt m_gotAt m_struckAt m_bestDeed m_misBy m_drawn m_ranSteps m_loops m_ran m_told1 m_isTold m_marks)) : Call Γ M_Mo_bottom 1 0 0 [.ref 0] (hM m_at m_names m_status m_top m_bottom m_sort m_trayMany m_trays m_tape m_text m_taped m_size m_token m_from m_end m_value m_faultKind m_faultPlace m_faults m_seen m_areOdds m_opened m_depth m_counted m_eastBy m_northBy m_partBy m_wayFaults m_wayEast m_wayNorth m_olds m_wayMany m_oneOfSet m_twoOfSet m_farBy m_rowBy m_triedBy m_rowMany m_doneAt m_gotAt m_struckAt m_bestDeed m_misBy m_drawn m_ranSteps m_loops m_ran m_told1 m_isTold m_marks) Q := by
  refine call_intro (ls := [some (.ref 0)]) rfl rfl rfl ?_
  refine wp_aload_n 1 d_Mo_bottom_0 rfl rfl ?_
  refine wp_getfield 4 12 4 d_Mo_bottom_1 rfl fl_Mo_17 rfl rfl ?_
  refine wp_lreturn d_Mo_bottom_4 rfl ?_
  exact hq

set_option maxRecDepth 100000 in
set_option maxHeartbeats 4000000 in
theorem l_Mo_tellsBy_6 {x y : Int64} : ∀ (r : Nat) (a b : Int64) (w9 w10 : Option Value), cdD r a b → (∀ w9 w10, WP Γ M_Mo_tellsBy 2 0 0 (hM m_at m_names m_status m_top m_bottom m_sort m_trayMany m_trays m_tape m_text m_taped m_size m_token m_from m_end m_value m_faultKind m_faultPlace m_faults m_seen m_areOdds m_opened m_depth m_counted m_eastBy m_northBy m_partBy m_wayFaults m_wayEast m_wayNorth m_olds m_wayMany m_oneOfSet m_twoOfSet m_farBy m_rowBy m_triedBy m_rowMany m_doneAt m_gotAt m_struckAt m_bestDeed m_misBy m_drawn m_ranSteps m_loops m_ran m_told1 m_isTold m_marks) 31 [some (.ref 0), some (.long x), none, some (.long y), none, some (.long (cdI r a b)), none, some (.long 0), none, w9, w10] [] Q) → WP Γ M_Mo_tellsBy 2 0 0 (hM m_at m_names m_status m_top m_bottom m_sort m_trayMany m_trays m_tape m_text m_taped m_size m_token m_from m_end m_value m_faultKind m_faultPlace m_faults m_seen m_areOdds m_opened m_depth m_counted m_eastBy m_northBy m_partBy m_wayFaults m_wayEast m_wayNorth m_olds m_wayMany m_oneOfSet m_twoOfSet m_farBy m_rowBy m_triedBy m_rowMany m_doneAt m_gotAt m_struckAt m_bestDeed m_misBy m_drawn m_ranSteps m_loops m_ran m_told1 m_isTold m_marks) 6 [some (.ref 0), some (.long x), none, some (.long y), none, some (.long a), none, some (.long b), none, w9, w10] [] Q := by
  intro r
  induction r with
  | zero =>
    intro a b w9 w10 hd hq
    have hb : b = 0 := hd
    subst hb
    refine wp_lload 8 d_Mo_tellsBy_6 rfl rfl ?_
    refine wp_lconst 9 0 d_Mo_tellsBy_8 rfl (by decide) ?_
    refine wp_lcmp 10 d_Mo_tellsBy_9 rfl ?_
    refine wp_if_eq 31 13 d_Mo_tellsBy_10 rfl (by decide) (fun h10 => ?_) (fun h10 => ?_)
    · exact hq _ _
    · exact absurd rfl (lc_n h10)
  | succ r ih =>
    intro a b w9 w10 hd hq
    by_cases hb : b = 0
    · subst hb
      rw [cdI_0] at hq
      refine wp_lload 8 d_Mo_tellsBy_6 rfl rfl ?_
      refine wp_lconst 9 0 d_Mo_tellsBy_8 rfl (by decide) ?_
      refine wp_lcmp 10 d_Mo_tellsBy_9 rfl ?_
      refine wp_if_eq 31 13 d_Mo_tellsBy_10 rfl (by decide) (fun h10 => ?_) (fun h10 => ?_)
      · exact hq _ _
      · exact absurd rfl (lc_n h10)
    · have hd2 : cdD r b (a - a / b * b) := hd.resolve_left hb
      have e : cdI (r + 1) a b = cdI r b (a - a / b * b) := if_neg hb
      rw [e] at hq
      refine wp_lload 8 d_Mo_tellsBy_6 rfl rfl ?_
      refine wp_lconst 9 0 d_Mo_tellsBy_8 rfl (by decide) ?_
      refine wp_lcmp 10 d_Mo_tellsBy_9 rfl ?_
      refine wp_if_eq 31 13 d_Mo_tellsBy_10 rfl (by decide) (fun h10 => ?_) (fun h10 => ?_)
      · exact absurd (lc_0 h10) hb
      · refine wp_lload 15 d_Mo_tellsBy_13 rfl rfl ?_
        refine wp_lload 17 d_Mo_tellsBy_15 rfl rfl ?_
        refine wp_lrem 18 d_Mo_tellsBy_17 rfl hb ?_
        refine wp_lstore_9 20 d_Mo_tellsBy_18 rfl rfl rfl ?_
        refine wp_lload 22 d_Mo_tellsBy_20 rfl rfl ?_
        refine wp_lstore_5 24 d_Mo_tellsBy_22 rfl rfl rfl ?_
        refine wp_lload 26 d_Mo_tellsBy_24 rfl rfl ?_
        refine wp_lstore_7 28 d_Mo_tellsBy_26 rfl rfl rfl ?_
        refine wp_goto 6 d_Mo_tellsBy_28 (by decide) ?_
        exact ih _ _ _ _ hd2 hq
set_option maxRecDepth 100000 in
set_option maxHeartbeats 4000000 in
theorem c_Mo_tellsBy {x y : Int64} (hd : cdD 100 x y) (hne : ¬ cdF x y = 0) (hq : Q (some (.int 1)) (hM m_at m_names (0) (x / cdF x y) (y / cdF x y) m_sort m_trayMany m_trays m_tape m_text m_taped m_size m_token m_from m_end m_value m_faultKind m_faultPlace m_faults m_seen m_areOdds m_opened m_depth m_counted m_eastBy m_northBy m_partBy m_wayFaults m_wayEast m_wayNorth m_olds m_wayMany m_oneOfSet m_twoOfSet m_farBy m_rowBy m_triedBy m_rowMany m_doneAt m_gotAt m_struckAt m_bestDeed m_misBy m_drawn m_ranSteps m_loops m_ran m_told1 m_isTold m_marks)) : Call Γ M_Mo_tellsBy 2 0 0 [.ref 0, .long x, .long y] (hM m_at m_names m_status m_top m_bottom m_sort m_trayMany m_trays m_tape m_text m_taped m_size m_token m_from m_end m_value m_faultKind m_faultPlace m_faults m_seen m_areOdds m_opened m_depth m_counted m_eastBy m_northBy m_partBy m_wayFaults m_wayEast m_wayNorth m_olds m_wayMany m_oneOfSet m_twoOfSet m_farBy m_rowBy m_triedBy m_rowMany m_doneAt m_gotAt m_struckAt m_bestDeed m_misBy m_drawn m_ranSteps m_loops m_ran m_told1 m_isTold m_marks) Q := by
  refine call_intro (ls := [some (.ref 0), some (.long x), none, some (.long y), none, none, none, none, none, none, none]) rfl rfl rfl ?_
  refine wp_lload_n 1 d_Mo_tellsBy_0 rfl rfl ?_
  refine wp_lstore_5 3 d_Mo_tellsBy_1 rfl rfl rfl ?_
  refine wp_lload_n 4 d_Mo_tellsBy_3 rfl rfl ?_
  refine wp_lstore_7 6 d_Mo_tellsBy_4 rfl rfl rfl ?_
  refine l_Mo_tellsBy_6 100 x y none none hd (fun w9 w10 => ?_)
  refine wp_aload_n 32 d_Mo_tellsBy_31 rfl rfl ?_
  refine wp_lload_n 33 d_Mo_tellsBy_32 rfl rfl ?_
  refine wp_lload 35 d_Mo_tellsBy_33 rfl rfl ?_
  refine wp_ldiv 36 d_Mo_tellsBy_35 rfl hne ?_
  refine wp_putfield 39 12 3 _ d_Mo_tellsBy_36 rfl fp_Mo_108 rfl rfl (okP_long _) ?_
  refine hEq (hM m_at m_names m_status (x / cdF x y) m_bottom m_sort m_trayMany m_trays m_tape m_text m_taped m_size m_token m_from m_end m_value m_faultKind m_faultPlace m_faults m_seen m_areOdds m_opened m_depth m_counted m_eastBy m_northBy m_partBy m_wayFaults m_wayEast m_wayNorth m_olds m_wayMany m_oneOfSet m_twoOfSet m_farBy m_rowBy m_triedBy m_rowMany m_doneAt m_gotAt m_struckAt m_bestDeed m_misBy m_drawn m_ranSteps m_loops m_ran m_told1 m_isTold m_marks) rfl ?_
  refine wp_aload_n 40 d_Mo_tellsBy_39 rfl rfl ?_
  refine wp_lload_n 41 d_Mo_tellsBy_40 rfl rfl ?_
  refine wp_lload 43 d_Mo_tellsBy_41 rfl rfl ?_
  refine wp_ldiv 44 d_Mo_tellsBy_43 rfl hne ?_
  refine wp_putfield 47 12 4 _ d_Mo_tellsBy_44 rfl fp_Mo_17 rfl rfl (okP_long _) ?_
  refine hEq (hM m_at m_names m_status (x / cdF x y) (y / cdF x y) m_sort m_trayMany m_trays m_tape m_text m_taped m_size m_token m_from m_end m_value m_faultKind m_faultPlace m_faults m_seen m_areOdds m_opened m_depth m_counted m_eastBy m_northBy m_partBy m_wayFaults m_wayEast m_wayNorth m_olds m_wayMany m_oneOfSet m_twoOfSet m_farBy m_rowBy m_triedBy m_rowMany m_doneAt m_gotAt m_struckAt m_bestDeed m_misBy m_drawn m_ranSteps m_loops m_ran m_told1 m_isTold m_marks) rfl ?_
  refine wp_aload_n 48 d_Mo_tellsBy_47 rfl rfl ?_
  refine wp_iconst 49 0 d_Mo_tellsBy_48 rfl (by decide) ?_
  refine wp_V1 52 M_Mo_is 1 d_Mo_tellsBy_49 rfl mv_Mo_is lk_Mo_118 rfl rfl rfl rfl rfl ?_
  refine c_Mo_is ?_
  refine kI ?_
  refine wp_zreturn d_Mo_tellsBy_52 rfl (by first | rfl | exact nbP _) ?_
  rw [show bP ((0 : Int32) = 0) = 1 from bP_t rfl]
  exact hq

set_option maxRecDepth 100000 in
set_option maxHeartbeats 4000000 in
theorem c_Mo_isTray {x : Int32} {h : LH} (hq : Q (some (.int (bP (inR x 4)))) h) : Call Γ M_Mo_isTray 1 0 0 [.int x] h Q := by
  refine call_intro (ls := [some (.int x)]) rfl rfl rfl ?_
  refine wp_iload_n 1 d_Mo_isTray_0 rfl rfl ?_
  refine wp_if_lt 13 4 d_Mo_isTray_1 rfl (by decide) (fun h1 => ?_) (fun h1 => ?_)
  · refine wp_iconst 14 0 d_Mo_isTray_13 rfl (by decide) ?_
    refine wp_zreturn d_Mo_isTray_14 rfl (by first | rfl | exact nbP _) ?_
    exact bq0 (fun z => absurd h1 (Int32.not_lt.mpr z.1)) hq
  · refine wp_iload_n 5 d_Mo_isTray_4 rfl rfl ?_
    refine wp_iconst 6 4 d_Mo_isTray_5 rfl (by decide) ?_
    refine wp_icmp_ge 13 9 d_Mo_isTray_6 rfl (by decide) (fun h6 => ?_) (fun h6 => ?_)
    · refine wp_iconst 14 0 d_Mo_isTray_13 rfl (by decide) ?_
      refine wp_zreturn d_Mo_isTray_14 rfl (by first | rfl | exact nbP _) ?_
      exact bq0 (fun z => absurd h6 (Int32.not_le.mpr z.2)) hq
    · refine wp_iconst 10 1 d_Mo_isTray_9 rfl (by decide) ?_
      refine wp_goto 14 d_Mo_isTray_10 (by decide) ?_
      refine wp_zreturn d_Mo_isTray_14 rfl (by first | rfl | exact nbP _) ?_
      exact bq1 ⟨Int32.not_lt.mp h1, Int32.not_le.mp h6⟩ hq

set_option maxRecDepth 100000 in
set_option maxHeartbeats 4000000 in
theorem c_Mo_cut {v : Int64} {s : Int32} {h : LH} (hq : Q (some (.long (cutR s v))) h) : Call Γ M_Mo_cut 1 0 0 [.long v, .int s] h Q := by
  refine call_intro (ls := [some (.long v), none, some (.int s)]) rfl rfl rfl ?_
  refine wp_iload_n 1 d_Mo_cut_0 rfl rfl ?_
  refine wp_if_ne 11 4 d_Mo_cut_1 rfl (by decide) (fun h1 => ?_) (fun h1 => ?_)
  · refine wp_iload_n 12 d_Mo_cut_11 rfl rfl ?_
    refine wp_iconst 13 1 d_Mo_cut_12 rfl (by decide) ?_
    refine wp_icmp_ne 23 16 d_Mo_cut_13 rfl (by decide) (fun h13 => ?_) (fun h13 => ?_)
    · refine wp_iload_n 24 d_Mo_cut_23 rfl rfl ?_
      refine wp_iconst 25 2 d_Mo_cut_24 rfl (by decide) ?_
      refine wp_icmp_ne 34 28 d_Mo_cut_25 rfl (by decide) (fun h25 => ?_) (fun h25 => ?_)
      · refine wp_lload_n 35 d_Mo_cut_34 rfl rfl ?_
        refine wp_lreturn d_Mo_cut_35 rfl ?_
        refine qJ hq ?_; simp [cutR, *]
      · refine wp_lload_n 29 d_Mo_cut_28 rfl rfl ?_
        refine wp_l2i 30 d_Mo_cut_29 rfl ?_
        refine wp_i2l 31 d_Mo_cut_30 rfl ?_
        refine wp_goto 35 d_Mo_cut_31 (by decide) ?_
        refine wp_lreturn d_Mo_cut_35 rfl ?_
        refine qJ hq ?_; simp [cutR, *]
    · refine wp_lload_n 17 d_Mo_cut_16 rfl rfl ?_
      refine wp_l2i 18 d_Mo_cut_17 rfl ?_
      refine wp_i2s 19 d_Mo_cut_18 rfl ?_
      refine wp_i2l 20 d_Mo_cut_19 rfl ?_
      refine wp_goto 35 d_Mo_cut_20 (by decide) ?_
      refine wp_lreturn d_Mo_cut_35 rfl ?_
      refine qJ hq ?_; simp [cutR, *]
  · refine wp_lload_n 5 d_Mo_cut_4 rfl rfl ?_
    refine wp_l2i 6 d_Mo_cut_5 rfl ?_
    refine wp_i2b 7 d_Mo_cut_6 rfl ?_
    refine wp_i2l 8 d_Mo_cut_7 rfl ?_
    refine wp_goto 35 d_Mo_cut_8 (by decide) ?_
    refine wp_lreturn d_Mo_cut_35 rfl ?_
    refine qJ hq ?_; simp [cutR, *]

set_option maxRecDepth 100000 in
set_option maxHeartbeats 4000000 in
theorem c_Mo_isFrom {a b c : Int64} {h : LH} (hq : Q (some (.int (bP (b ≤ a ∧ a ≤ c)))) h) : Call Γ M_Mo_isFrom 1 0 0 [.long a, .long b, .long c] h Q := by
  refine call_intro (ls := [some (.long a), none, some (.long b), none, some (.long c), none]) rfl rfl rfl ?_
  refine wp_lload_n 1 d_Mo_isFrom_0 rfl rfl ?_
  refine wp_lload_n 2 d_Mo_isFrom_1 rfl rfl ?_
  refine wp_lcmp 3 d_Mo_isFrom_2 rfl ?_
  refine wp_if_lt 17 6 d_Mo_isFrom_3 rfl (by decide) (fun h3 => ?_) (fun h3 => ?_)
  · refine wp_iconst 18 0 d_Mo_isFrom_17 rfl (by decide) ?_
    refine wp_zreturn d_Mo_isFrom_18 rfl (by first | rfl | exact nbP _) ?_
    exact bq0 (fun z => absurd (lc_lt.mp h3) (Int64.not_lt.mpr z.1)) hq
  · refine wp_lload_n 7 d_Mo_isFrom_6 rfl rfl ?_
    refine wp_lload 9 d_Mo_isFrom_7 rfl rfl ?_
    refine wp_lcmp 10 d_Mo_isFrom_9 rfl ?_
    refine wp_if_gt 17 13 d_Mo_isFrom_10 rfl (by decide) (fun h10 => ?_) (fun h10 => ?_)
    · refine wp_iconst 18 0 d_Mo_isFrom_17 rfl (by decide) ?_
      refine wp_zreturn d_Mo_isFrom_18 rfl (by first | rfl | exact nbP _) ?_
      exact bq0 (fun z => absurd (lc_gt.mp h10) (Int64.not_lt.mpr z.2)) hq
    · refine wp_iconst 14 1 d_Mo_isFrom_13 rfl (by decide) ?_
      refine wp_goto 18 d_Mo_isFrom_14 (by decide) ?_
      refine wp_zreturn d_Mo_isFrom_18 rfl (by first | rfl | exact nbP _) ?_
      exact bq1 ⟨Int64.not_lt.mp (fun z => h3 (lc_lt.mpr z)), Int64.not_lt.mp (fun z => h10 (lc_gt.mpr z))⟩ hq

set_option maxRecDepth 100000 in
set_option maxHeartbeats 4000000 in
theorem c_Mo_isSmall {c : Int32} {h : LH} (hq : Q (some (.int (bP (isLe c)))) h) : Call Γ M_Mo_isSmall 1 0 0 [.int c] h Q := by
  refine call_intro (ls := [some (.int c)]) rfl rfl rfl ?_
  refine wp_iload_n 1 d_Mo_isSmall_0 rfl rfl ?_
  refine wp_bipush 3 97 d_Mo_isSmall_1 rfl (by decide) ?_
  refine wp_icmp_lt 16 6 d_Mo_isSmall_3 rfl (by decide) (fun h3 => ?_) (fun h3 => ?_)
  · refine wp_iconst 17 0 d_Mo_isSmall_16 rfl (by decide) ?_
    refine wp_zreturn d_Mo_isSmall_17 rfl (by first | rfl | exact nbP _) ?_
    exact bq0 (fun z => absurd h3 (Int32.not_lt.mpr z.1)) hq
  · refine wp_iload_n 7 d_Mo_isSmall_6 rfl rfl ?_
    refine wp_bipush 9 122 d_Mo_isSmall_7 rfl (by decide) ?_
    refine wp_icmp_gt 16 12 d_Mo_isSmall_9 rfl (by decide) (fun h9 => ?_) (fun h9 => ?_)
    · refine wp_iconst 17 0 d_Mo_isSmall_16 rfl (by decide) ?_
      refine wp_zreturn d_Mo_isSmall_17 rfl (by first | rfl | exact nbP _) ?_
      exact bq0 (fun z => absurd h9 (Int32.not_lt.mpr z.2)) hq
    · refine wp_iconst 13 1 d_Mo_isSmall_12 rfl (by decide) ?_
      refine wp_goto 17 d_Mo_isSmall_13 (by decide) ?_
      refine wp_zreturn d_Mo_isSmall_17 rfl (by first | rfl | exact nbP _) ?_
      exact bq1 ⟨Int32.not_lt.mp h3, Int32.not_lt.mp h9⟩ hq

set_option maxRecDepth 100000 in
set_option maxHeartbeats 4000000 in
theorem c_Mo_isDigit {c : Int32} {h : LH} (hq : Q (some (.int (bP (isDi c)))) h) : Call Γ M_Mo_isDigit 1 0 0 [.int c] h Q := by
  refine call_intro (ls := [some (.int c)]) rfl rfl rfl ?_
  refine wp_iload_n 1 d_Mo_isDigit_0 rfl rfl ?_
  refine wp_bipush 3 48 d_Mo_isDigit_1 rfl (by decide) ?_
  refine wp_icmp_lt 16 6 d_Mo_isDigit_3 rfl (by decide) (fun h3 => ?_) (fun h3 => ?_)
  · refine wp_iconst 17 0 d_Mo_isDigit_16 rfl (by decide) ?_
    refine wp_zreturn d_Mo_isDigit_17 rfl (by first | rfl | exact nbP _) ?_
    exact bq0 (fun z => absurd h3 (Int32.not_lt.mpr z.1)) hq
  · refine wp_iload_n 7 d_Mo_isDigit_6 rfl rfl ?_
    refine wp_bipush 9 57 d_Mo_isDigit_7 rfl (by decide) ?_
    refine wp_icmp_gt 16 12 d_Mo_isDigit_9 rfl (by decide) (fun h9 => ?_) (fun h9 => ?_)
    · refine wp_iconst 17 0 d_Mo_isDigit_16 rfl (by decide) ?_
      refine wp_zreturn d_Mo_isDigit_17 rfl (by first | rfl | exact nbP _) ?_
      exact bq0 (fun z => absurd h9 (Int32.not_lt.mpr z.2)) hq
    · refine wp_iconst 13 1 d_Mo_isDigit_12 rfl (by decide) ?_
      refine wp_goto 17 d_Mo_isDigit_13 (by decide) ?_
      refine wp_zreturn d_Mo_isDigit_17 rfl (by first | rfl | exact nbP _) ?_
      exact bq1 ⟨Int32.not_lt.mp h3, Int32.not_lt.mp h9⟩ hq

set_option maxRecDepth 100000 in
set_option maxHeartbeats 4000000 in
theorem l_Mo_bits_4 {x : Int32} {h : LH}  : ∀ (r i : Nat) (k n : Int32), i + r = 13 → (bbD r k = true ∧ Q (some (.int (bbI r k n))) h) → WP Γ M_Mo_bits 1 0 0 h 4 [some (.int x), some (.int n), some (.int k)] [] Q := by
  intro r
  induction r with
  | zero =>
    intro i k n hi hinv
    obtain ⟨hd, hq⟩ := hinv
    refine wp_iload_n 5 d_Mo_bits_4 rfl rfl ?_
    refine wp_if_eq 20 8 d_Mo_bits_5 rfl (by decide) (fun h5 => ?_) (fun h5 => ?_)
    · refine wp_iload_n 21 d_Mo_bits_20 rfl rfl ?_
      refine wp_ireturn d_Mo_bits_21 rfl ?_
      exact hq
    · exact absurd (by simpa [bbD] using hd) h5
  | succ r ih =>
    intro i k n hi hinv
    obtain ⟨hd, hq⟩ := hinv
    refine wp_iload_n 5 d_Mo_bits_4 rfl rfl ?_
    refine wp_if_eq 20 8 d_Mo_bits_5 rfl (by decide) (fun h5 => ?_) (fun h5 => ?_)
    · refine wp_iload_n 21 d_Mo_bits_20 rfl rfl ?_
      refine wp_ireturn d_Mo_bits_21 rfl ?_
      have e : bbI (r + 1) k n = n := if_pos h5
      rw [e] at hq
      exact hq
    · first | refine wp_iincN_1 11 d_Mo_bits_8 rfl rfl rfl ?_ | refine wp_iinc_1 11 1 d_Mo_bits_8 rfl (by decide) rfl rfl ?_
      refine wp_iload_n 12 d_Mo_bits_11 rfl rfl ?_
      refine wp_iload_n 13 d_Mo_bits_12 rfl rfl ?_
      refine wp_iconst 14 1 d_Mo_bits_13 rfl (by decide) ?_
      refine wp_isub 15 d_Mo_bits_14 rfl ?_
      refine wp_iand 16 d_Mo_bits_15 rfl ?_
      refine wp_istore_2 17 d_Mo_bits_16 rfl rfl rfl ?_
      refine wp_goto 4 d_Mo_bits_17 (by decide) ?_
      have e : bbI (r + 1) k n = bbI r (k &&& (k - 1)) (n + 1) := if_neg h5
      rw [e] at hq
      exact ih (i + 1) _ _ (by omega) ⟨by simpa [bbD, h5] using hd, hq⟩

set_option maxRecDepth 100000 in
set_option maxHeartbeats 4000000 in
theorem c_Mo_bits {x : Int32} {h : LH} (hx : vp_in x 4096) (hq : Q (some (.int (bcR x))) h) : Call Γ M_Mo_bits 1 0 0 [.int x] h Q := by
  refine call_intro (ls := [some (.int x), none, none]) rfl rfl rfl ?_
  refine wp_iconst 1 0 d_Mo_bits_0 rfl (by decide) ?_
  refine wp_istore_1 2 d_Mo_bits_1 rfl rfl rfl ?_
  refine wp_iload_n 3 d_Mo_bits_2 rfl rfl ?_
  refine wp_istore_2 4 d_Mo_bits_3 rfl rfl rfl ?_
  obtain ⟨i, hi, rfl⟩ := vp_in_of hx (by omega)
  exact l_Mo_bits_4 13 0 _ _ (by omega) ⟨(bb_ok i hi).1, by rw [(bb_ok i hi).2]; exact hq⟩

set_option maxRecDepth 100000 in
set_option maxHeartbeats 4000000 in
theorem c_Mo_plainly {v : Int32} {h : LH} (hq : Q (some (.int (aB v))) h) : Call Γ M_Mo_plainly 2 0 0 [.int v] h Q := by
  refine call_intro (ls := [some (.int v)]) rfl rfl rfl ?_
  refine wp_iload_n 1 d_Mo_plainly_0 rfl rfl ?_
  refine wp_iload_n 2 d_Mo_plainly_1 rfl rfl ?_
  refine wp_ineg 3 d_Mo_plainly_2 rfl ?_
  refine wp_S2 6 M_JMath_max 1 d_Mo_plainly_3 rfl ms_JMath_max lk_Mo_284 rfl rfl ?_
  refine c_JMath_max ?_
  refine kI ?_
  rw [aB_max]
  refine wp_ireturn d_Mo_plainly_6 rfl ?_
  exact hq

set_option maxRecDepth 100000 in
set_option maxHeartbeats 4000000 in
theorem c_Mo_walkerRow {w : Nat} {h : LH} (hq : Q (some (.int (nI (10 + 3 * w)))) h) : Call Γ M_Mo_walkerRow 1 0 0 [.int (nI w)] h Q := by
  refine call_intro (ls := [some (.int (nI w))]) rfl rfl rfl ?_
  refine wp_bipush 2 10 d_Mo_walkerRow_0 rfl (by decide) ?_
  refine wp_iconst 3 3 d_Mo_walkerRow_2 rfl (by decide) ?_
  refine wp_iload_n 4 d_Mo_walkerRow_3 rfl rfl ?_
  refine wp_imul 5 d_Mo_walkerRow_4 rfl ?_
  refine wp_iadd 6 d_Mo_walkerRow_5 rfl ?_
  refine wp_ireturn d_Mo_walkerRow_6 rfl ?_
  rw [show (10 : Int32) + 3 * nI w = nI (10 + 3 * w) from by rw [show (10 : Int32) = nI 10 from rfl, show (3 : Int32) = 1 + 1 + 1 from rfl, Int32.add_mul, Int32.add_mul, Int32.one_mul, nI_add, nI_add, nI_add]; congr 1; omega]
  exact hq

set_option maxRecDepth 100000 in
set_option maxHeartbeats 4000000 in
theorem c_Mo_legRow {l : Nat} {h : LH} (hq : Q (some (.int (nI (22 + 5 * l)))) h) : Call Γ M_Mo_legRow 1 0 0 [.int (nI l)] h Q := by
  refine call_intro (ls := [some (.int (nI l))]) rfl rfl rfl ?_
  refine wp_bipush 2 22 d_Mo_legRow_0 rfl (by decide) ?_
  refine wp_iconst 3 5 d_Mo_legRow_2 rfl (by decide) ?_
  refine wp_iload_n 4 d_Mo_legRow_3 rfl rfl ?_
  refine wp_imul 5 d_Mo_legRow_4 rfl ?_
  refine wp_iadd 6 d_Mo_legRow_5 rfl ?_
  refine wp_ireturn d_Mo_legRow_6 rfl ?_
  rw [show (22 : Int32) + 5 * nI l = nI (22 + 5 * l) from by rw [show (22 : Int32) = nI 22 from rfl, show (5 : Int32) = 1 + 1 + 1 + 1 + 1 from rfl, Int32.add_mul, Int32.add_mul, Int32.add_mul, Int32.add_mul, Int32.one_mul, nI_add, nI_add, nI_add, nI_add, nI_add]; congr 1; omega]
  exact hq

set_option maxRecDepth 100000 in
set_option maxHeartbeats 4000000 in
theorem c_Mo_isIn {s k : Int32} (hq : Q (some (.int (bP (hs s k)))) (hM m_at m_names m_status m_top m_bottom m_sort m_trayMany m_trays m_tape m_text m_taped m_size m_token m_from m_end m_value m_faultKind m_faultPlace m_faults m_seen m_areOdds m_opened m_depth m_counted m_eastBy m_northBy m_partBy m_wayFaults m_wayEast m_wayNorth m_olds m_wayMany m_oneOfSet m_twoOfSet m_farBy m_rowBy m_triedBy m_rowMany m_doneAt m_gotAt m_struckAt m_bestDeed m_misBy m_drawn m_ranSteps m_loops m_ran m_told1 m_isTold m_marks)) : Call Γ M_Mo_isIn 1 0 0 [.ref 0, .int s, .int k] (hM m_at m_names m_status m_top m_bottom m_sort m_trayMany m_trays m_tape m_text m_taped m_size m_token m_from m_end m_value m_faultKind m_faultPlace m_faults m_seen m_areOdds m_opened m_depth m_counted m_eastBy m_northBy m_partBy m_wayFaults m_wayEast m_wayNorth m_olds m_wayMany m_oneOfSet m_twoOfSet m_farBy m_rowBy m_triedBy m_rowMany m_doneAt m_gotAt m_struckAt m_bestDeed m_misBy m_drawn m_ranSteps m_loops m_ran m_told1 m_isTold m_marks) Q := by
  refine call_intro (ls := [some (.ref 0), some (.int s), some (.int k)]) rfl rfl rfl ?_
  refine wp_iload_n 1 d_Mo_isIn_0 rfl rfl ?_
  refine wp_iload_n 2 d_Mo_isIn_1 rfl rfl ?_
  refine wp_ishr 3 d_Mo_isIn_2 rfl ?_
  refine wp_iconst 4 1 d_Mo_isIn_3 rfl (by decide) ?_
  refine wp_iand 5 d_Mo_isIn_4 rfl ?_
  refine wp_iconst 6 1 d_Mo_isIn_5 rfl (by decide) ?_
  refine wp_icmp_ne 13 9 d_Mo_isIn_6 rfl (by decide) (fun h6 => ?_) (fun h6 => ?_)
  · refine wp_iconst 14 0 d_Mo_isIn_13 rfl (by decide) ?_
    refine wp_zreturn d_Mo_isIn_14 rfl (by first | rfl | exact nbP _) ?_
    exact bq0 (fun z => h6 (hs_one.mpr z)) hq
  · refine wp_iconst 10 1 d_Mo_isIn_9 rfl (by decide) ?_
    refine wp_goto 14 d_Mo_isIn_10 (by decide) ?_
    refine wp_zreturn d_Mo_isIn_14 rfl (by first | rfl | exact nbP _) ?_
    exact bq1 (hs_one.mp h6) hq

end T70
