/-! ===== the reference: legs, what lies ===== -/
theorem vT.leg {a t} (V : vT a t) {l : Nat} (hl : l < t.nL) : a (22 + 5 * l) = t.te l ∧ a (23 + 5 * l) = t.fr l ∧ a (24 + 5 * l) = t.to_ l ∧ a (25 + 5 * l) = t.ea l ∧ a (26 + 5 * l) = t.no l := V.2.2.1 l hl
theorem vT.wk {a t} (V : vT a t) {w : Nat} (hw : w < t.nW) : a (10 + 3 * w) = tB (t.fa w) ∧ a (11 + 3 * w) = lB (t.fa w) ∧ a (12 + 3 * w) = sB (t.fa w) := V.2.1 w hw
theorem vT.l12 {a t} (V : vT a t) {l : Nat} (hl : l < t.nL) : l < 12 := Nat.lt_of_lt_of_le hl V.ok.hL
theorem vT.fr7 {a t} (V : vT a t) (l : Nat) : (t.fr l).toNatClampNeg < 7 := Nat.not_le.mp fun q => V.ok.fr l (Or.inr q)
theorem vT.to7 {a t} (V : vT a t) (l : Nat) : (t.to_ l).toNatClampNeg < 7 := Nat.not_le.mp fun q => V.ok.to_ l (Or.inr q)
theorem bP_inj {p q : Prop} [Decidable p] [Decidable q] : bP p = bP q ↔ (p ↔ q) := by
  by_cases hp : p <;> by_cases hq : q
  · rw [bP_t hp, bP_t hq]; simp [hp, hq]
  · rw [bP_t hp, bP_f hq]; simp [hp, hq]
  · rw [bP_f hp, bP_t hq]; simp [hp, hq]
  · rw [bP_f hp, bP_f hq]; simp [hp, hq]
theorem nn_iff {p q : Prop} [Decidable p] [Decidable q] : (¬ p ↔ ¬ q) ↔ (p ↔ q) := by
  by_cases hp : p <;> by_cases hq : q <;> simp [hp, hq]
theorem ffind_at {p : Nat → Prop} [DecidablePred p] {n : Nat} : ∀ {i k : Nat}, (∀ j, k ≤ j → j < i → ¬ p j) → p i → k ≤ i → i < k + n → ffind p k n = nI i := by
  induction n with
  | zero => intro i k _ _ h1 h2; omega
  | succ n ih =>
    intro i k hn hp h1 h2
    unfold ffind
    by_cases e : k = i
    · subst e; rw [if_pos hp]
    · rw [if_neg (hn k (Nat.le_refl _) (by omega))]
      exact ih (fun j a b => hn j (by omega) b) hp (by omega) (by omega)
theorem ffind_no {p : Nat → Prop} [DecidablePred p] {n : Nat} : ∀ {k : Nat}, (∀ j, k ≤ j → j < k + n → ¬ p j) → ffind p k n = -1 := by
  induction n with
  | zero => intro k _; rfl
  | succ n ih =>
    intro k hn
    unfold ffind
    rw [if_neg (hn k (Nat.le_refl _) (by omega))]
    exact ih (fun j a b => hn j (by omega) (by omega))
theorem ffind_neg {p : Nat → Prop} [DecidablePred p] {n : Nat} : ∀ {k : Nat}, k + n < 2 ^ 31 → ffind p k n = -1 → ∀ j, k ≤ j → j < k + n → ¬ p j := by
  induction n with
  | zero => intro k _ _ j h1 h2; omega
  | succ n ih =>
    intro k hk h j h1 h2
    unfold ffind at h
    split at h
    · exact absurd (show (-1 : Int32) < 0 by decide) (by rw [← h]; exact Int32.not_lt.mpr (show nI 0 ≤ nI k from (nI_leI (by omega) (by omega)).mpr (by omega)))
    · rename_i hp
      by_cases e : j = k
      · subst e; exact hp
      · exact ih (by omega) h j (by omega) (by omega)
abbrev MS : Type := (Nat → Int32) × (Nat → Int32) × (Nat → Int32)
abbrev moP (t : TW) (pb : Nat → Int32) (l : Nat) : Prop := layP (tTh t) pb t.fr t.to_ l
def moL (t : TW) (l : Nat) (s : MS) : MS := if un s.1 t.fr l then (upd s.1 (t.fr l).toNatClampNeg (s.1 (t.to_ l).toNatClampNeg), upd s.2.1 (t.fr l).toNatClampNeg (s.2.1 (t.to_ l).toNatClampNeg + -1 * tE_ t l), upd s.2.2 (t.fr l).toNatClampNeg (s.2.2 (t.to_ l).toNatClampNeg + -1 * tN_ t l))
  else (upd s.1 (t.to_ l).toNatClampNeg (s.1 (t.fr l).toNatClampNeg), upd s.2.1 (t.to_ l).toNatClampNeg (s.2.1 (t.fr l).toNatClampNeg + 1 * tE_ t l), upd s.2.2 (t.to_ l).toNatClampNeg (s.2.2 (t.fr l).toNatClampNeg + 1 * tN_ t l))
def moF (t : TW) (pb : Nat → Int32) : Int32 := trL (tTh t) t.fr t.to_ t.nL pb
def spI (t : TW) : Nat → MS → MS
  | 0, s => s
  | f + 1, s => if moF t s.1 = -1 then s else spI t f (moL t (moF t s.1).toNatClampNeg s)
def spD (t : TW) (f : Nat) (s : MS) : Prop := moF t (spI t f s).1 = -1
def loG (t : TW) (all : Prop) [Decidable all] (p : Nat) (s : MS) : MS := if ¬ s.1 p = -1 ∨ (0 < p ∧ ¬ all) then s else spI t 7 (upd s.1 p (nI p), upd s.2.1 p 0, upd s.2.2 p 0)
def lmF (t : TW) (all : Prop) [Decidable all] (s : MS) : MS := iterN (loG t all) t.nP 0 (fil 7 (-1) s.1, s.2.1, s.2.2)
def yY (t : TW) (l : Nat) : Int32 := aB (tE_ t l) + aB (tN_ t l)
/-- how many places do not lie yet -/
def cnU (pb : Nat → Int32) : Nat → Nat
  | 0 => 0
  | n + 1 => cnU pb n + if pb n = -1 then 1 else 0
theorem cnU_le {pb : Nat → Int32} : ∀ n, cnU pb n ≤ n
  | 0 => Nat.le_refl _
  | n + 1 => by
    have := cnU_le (pb := pb) n
    simp only [cnU]
    split <;> omega
theorem cnU_hi {pb : Nat → Int32} {k : Nat} {v : Int32} : ∀ n, n ≤ k → cnU (upd pb k v) n = cnU pb n
  | 0, _ => rfl
  | n + 1, h => by
    simp only [cnU]
    rw [cnU_hi n (by omega), show upd pb k v n = pb n from if_neg (by omega)]
theorem cnU_upd {pb : Nat → Int32} {k : Nat} {v : Int32} (h1 : pb k = -1) (h2 : ¬ v = -1) : ∀ n, k < n → cnU (upd pb k v) n + 1 = cnU pb n
  | 0, h => absurd h (by omega)
  | n + 1, h => by
    simp only [cnU]
    by_cases e : n = k
    · subst e
      rw [cnU_hi n (Nat.le_refl _), show upd pb n v n = v from if_pos rfl, if_neg h2, if_pos h1]
    · have := cnU_upd h1 h2 n (by omega)
      rw [show upd pb k v n = pb n from if_neg e]
      omega
theorem cnU_0 {pb : Nat → Int32} : ∀ n, cnU pb n = 0 → ∀ j, j < n → ¬ pb j = -1
  | 0, _, j, h => absurd h (by omega)
  | n + 1, h, j, hj => by
    simp only [cnU] at h
    intro z
    by_cases e : j = n
    · subst e; rw [if_pos z] at h; omega
    · exact cnU_0 n (by omega) j (by omega) z
theorem moL_cn {t : TW} (I : tOK t) {l : Nat} {s : MS} (h : moP t s.1 l) : cnU (moL t l s).1 7 + 1 = cnU s.1 7 := by
  have f1 : (t.fr l).toNatClampNeg < 7 := Nat.not_le.mp fun q => I.fr l (Or.inr q)
  have t1 : (t.to_ l).toNatClampNeg < 7 := Nat.not_le.mp fun q => I.to_ l (Or.inr q)
  unfold moL
  split
  · rename_i hu
    have hv : ¬ un s.1 t.to_ l := fun z => h.2 ⟨fun _ => z, fun _ => hu⟩
    exact cnU_upd hu hv 7 f1
  · rename_i hu
    have hv : un s.1 t.to_ l := Decidable.of_not_not fun z => h.2 ⟨fun y => absurd y hu, fun y => absurd y z⟩
    exact cnU_upd hv hu 7 t1
theorem moF_ex {t : TW} {pb : Nat → Int32} (I : tOK t) (h : ¬ moF t pb = -1) : ∃ l, l < t.nL ∧ moF t pb = nI l ∧ (moF t pb).toNatClampNeg = l ∧ moP t pb l := by
  obtain ⟨l, -, h1, h2, h3⟩ := ffind_ex h
  exact ⟨l, by omega, h2, by rw [show moF t pb = nI l from h2]; exact nI_clamp (by have := I.hL; omega), h3⟩
theorem spD_of {t : TW} (I : tOK t) : ∀ (f : Nat) (s : MS), cnU s.1 7 ≤ f → spD t f s
  | 0, s, h => by
    unfold spD spI
    by_cases e : moF t s.1 = -1
    · exact e
    · obtain ⟨l, hl, -, -, hp⟩ := moF_ex I e
      have := moL_cn I hp
      omega
  | f + 1, s, h => by
    unfold spD spI
    by_cases e : moF t s.1 = -1
    · rw [if_pos e]; exact e
    · rw [if_neg e]
      obtain ⟨l, hl, e1, e2, hp⟩ := moF_ex I e
      have := moL_cn I hp
      exact spD_of I f _ (by rw [e2]; omega)
section T71
variable {Γ : Gm} {Q : Option Value → LH → Prop} {m_at m_sort m_trayMany m_tape m_text m_opened m_eastBy m_northBy m_partBy m_wayFaults m_wayEast m_wayNorth m_olds m_farBy m_rowBy m_triedBy m_doneAt m_gotAt m_struckAt m_bestDeed m_loops m_ran m_told1 : Nat → Int32} {m_names m_trays m_misBy : Nat → Int64} {m_status m_taped m_size m_token m_from m_end m_value m_faultKind m_faultPlace m_faults m_seen m_areOdds m_depth m_counted m_wayMany m_oneOfSet m_twoOfSet m_rowMany m_drawn m_ranSteps m_isTold m_marks : Int32} {m_top m_bottom : Int64} {t : TW}
set_option maxRecDepth 100000 in
set_option maxHeartbeats 4000000 in
theorem c_Mo_counts {l : Int32} (V : vT m_at t) (hq : Q (some (.int (bP (l < nI t.nL ∧ ¬ hs t.sk l)))) (hM m_at m_names m_status m_top m_bottom m_sort m_trayMany m_trays m_tape m_text m_taped m_size m_token m_from m_end m_value m_faultKind m_faultPlace m_faults m_seen m_areOdds m_opened m_depth m_counted m_eastBy m_northBy m_partBy m_wayFaults m_wayEast m_wayNorth m_olds m_wayMany m_oneOfSet m_twoOfSet m_farBy m_rowBy m_triedBy m_rowMany m_doneAt m_gotAt m_struckAt m_bestDeed m_misBy m_drawn m_ranSteps m_loops m_ran m_told1 m_isTold m_marks)) : Call Γ M_Mo_counts 2 0 0 [.ref 0, .int l] (hM m_at m_names m_status m_top m_bottom m_sort m_trayMany m_trays m_tape m_text m_taped m_size m_token m_from m_end m_value m_faultKind m_faultPlace m_faults m_seen m_areOdds m_opened m_depth m_counted m_eastBy m_northBy m_partBy m_wayFaults m_wayEast m_wayNorth m_olds m_wayMany m_oneOfSet m_twoOfSet m_farBy m_rowBy m_triedBy m_rowMany m_doneAt m_gotAt m_struckAt m_bestDeed m_misBy m_drawn m_ranSteps m_loops m_ran m_told1 m_isTold m_marks) Q := by
  refine call_intro (ls := [some (.ref 0), some (.int l)]) rfl rfl rfl ?_
  refine wp_iload_n 1 d_Mo_counts_0 rfl rfl ?_
  refine wp_aload_n 2 d_Mo_counts_1 rfl rfl ?_
  refine wp_getfield 5 12 0 d_Mo_counts_2 rfl fl_Mo_7 rfl rfl ?_
  refine wp_iconst 6 2 d_Mo_counts_5 rfl (by decide) ?_
  refine wp_iaload 7 d_Mo_counts_6 rfl rfl (vp_in_nI (n := 2) (N := 2332) (by omega) (by omega)) ?_
  rw [show m_at (2 : Int32).toNatClampNeg = nI t.nL from V.L]
  refine wp_icmp_ge 29 10 d_Mo_counts_7 rfl (by decide) (fun h7 => ?_) (fun h7 => ?_)
  · refine wp_iconst 30 0 d_Mo_counts_29 rfl (by decide) ?_
    refine wp_zreturn d_Mo_counts_30 rfl (by first | rfl | exact nbP _) ?_
    exact bq0 (fun z => absurd h7 (Int32.not_le.mpr z.1)) hq
  · refine wp_aload_n 11 d_Mo_counts_10 rfl rfl ?_
    refine wp_aload_n 12 d_Mo_counts_11 rfl rfl ?_
    refine wp_getfield 15 12 0 d_Mo_counts_12 rfl fl_Mo_7 rfl rfl ?_
    refine wp_bipush 17 6 d_Mo_counts_15 rfl (by decide) ?_
    refine wp_iaload 18 d_Mo_counts_17 rfl rfl (vp_in_nI (n := 6) (N := 2332) (by omega) (by omega)) ?_
    rw [show m_at (6 : Int32).toNatClampNeg = t.sk from V.sk]
    refine wp_iload_n 19 d_Mo_counts_18 rfl rfl ?_
    refine wp_V2 22 M_Mo_isIn 1 d_Mo_counts_19 rfl mv_Mo_isIn lk_Mo_281 rfl rfl rfl rfl rfl ?_
    refine c_Mo_isIn ?_
    refine kI ?_
    (first | refine wp_ifP_ne 29 25 d_Mo_counts_22 rfl (by decide) (fun h22 => ?_) (fun h22 => ?_) | refine wp_if_ne 29 25 d_Mo_counts_22 rfl (by decide) (fun h22 => ?_) (fun h22 => ?_))
    · refine wp_iconst 30 0 d_Mo_counts_29 rfl (by decide) ?_
      refine wp_zreturn d_Mo_counts_30 rfl (by first | rfl | exact nbP _) ?_
      exact bq0 (fun z => z.2 h22) hq
    · refine wp_iconst 26 1 d_Mo_counts_25 rfl (by decide) ?_
      refine wp_goto 30 d_Mo_counts_26 (by decide) ?_
      refine wp_zreturn d_Mo_counts_30 rfl (by first | rfl | exact nbP _) ?_
      exact bq1 ⟨Int32.not_le.mp h7, h22⟩ hq

set_option maxRecDepth 100000 in
set_option maxHeartbeats 4000000 in
theorem c_Mo_isPlace {p : Int32} (V : vT m_at t) (hq : Q (some (.int (bP (inR p (nI t.nP))))) (hM m_at m_names m_status m_top m_bottom m_sort m_trayMany m_trays m_tape m_text m_taped m_size m_token m_from m_end m_value m_faultKind m_faultPlace m_faults m_seen m_areOdds m_opened m_depth m_counted m_eastBy m_northBy m_partBy m_wayFaults m_wayEast m_wayNorth m_olds m_wayMany m_oneOfSet m_twoOfSet m_farBy m_rowBy m_triedBy m_rowMany m_doneAt m_gotAt m_struckAt m_bestDeed m_misBy m_drawn m_ranSteps m_loops m_ran m_told1 m_isTold m_marks)) : Call Γ M_Mo_isPlace 1 0 0 [.ref 0, .int p] (hM m_at m_names m_status m_top m_bottom m_sort m_trayMany m_trays m_tape m_text m_taped m_size m_token m_from m_end m_value m_faultKind m_faultPlace m_faults m_seen m_areOdds m_opened m_depth m_counted m_eastBy m_northBy m_partBy m_wayFaults m_wayEast m_wayNorth m_olds m_wayMany m_oneOfSet m_twoOfSet m_farBy m_rowBy m_triedBy m_rowMany m_doneAt m_gotAt m_struckAt m_bestDeed m_misBy m_drawn m_ranSteps m_loops m_ran m_told1 m_isTold m_marks) Q := by
  refine call_intro (ls := [some (.ref 0), some (.int p)]) rfl rfl rfl ?_
  refine wp_iload_n 1 d_Mo_isPlace_0 rfl rfl ?_
  refine wp_if_lt 18 4 d_Mo_isPlace_1 rfl (by decide) (fun h1 => ?_) (fun h1 => ?_)
  · refine wp_iconst 19 0 d_Mo_isPlace_18 rfl (by decide) ?_
    refine wp_zreturn d_Mo_isPlace_19 rfl (by first | rfl | exact nbP _) ?_
    exact bq0 (fun z => absurd h1 (Int32.not_lt.mpr z.1)) hq
  · refine wp_iload_n 5 d_Mo_isPlace_4 rfl rfl ?_
    refine wp_aload_n 6 d_Mo_isPlace_5 rfl rfl ?_
    refine wp_getfield 9 12 0 d_Mo_isPlace_6 rfl fl_Mo_7 rfl rfl ?_
    refine wp_iconst 10 0 d_Mo_isPlace_9 rfl (by decide) ?_
    refine wp_iaload 11 d_Mo_isPlace_10 rfl rfl (vp_in_nI (n := 0) (N := 2332) (by omega) (by omega)) ?_
    rw [show m_at (0 : Int32).toNatClampNeg = nI t.nP from V.P]
    refine wp_icmp_ge 18 14 d_Mo_isPlace_11 rfl (by decide) (fun h11 => ?_) (fun h11 => ?_)
    · refine wp_iconst 19 0 d_Mo_isPlace_18 rfl (by decide) ?_
      refine wp_zreturn d_Mo_isPlace_19 rfl (by first | rfl | exact nbP _) ?_
      exact bq0 (fun z => absurd h11 (Int32.not_le.mpr z.2)) hq
    · refine wp_iconst 15 1 d_Mo_isPlace_14 rfl (by decide) ?_
      refine wp_goto 19 d_Mo_isPlace_15 (by decide) ?_
      refine wp_zreturn d_Mo_isPlace_19 rfl (by first | rfl | exact nbP _) ?_
      exact bq1 ⟨Int32.not_lt.mp h1, Int32.not_le.mp h11⟩ hq

set_option maxRecDepth 100000 in
set_option maxHeartbeats 4000000 in
theorem c_Mo_isWalker {p : Int32} (V : vT m_at t) (hq : Q (some (.int (bP (inR p (nI t.nW))))) (hM m_at m_names m_status m_top m_bottom m_sort m_trayMany m_trays m_tape m_text m_taped m_size m_token m_from m_end m_value m_faultKind m_faultPlace m_faults m_seen m_areOdds m_opened m_depth m_counted m_eastBy m_northBy m_partBy m_wayFaults m_wayEast m_wayNorth m_olds m_wayMany m_oneOfSet m_twoOfSet m_farBy m_rowBy m_triedBy m_rowMany m_doneAt m_gotAt m_struckAt m_bestDeed m_misBy m_drawn m_ranSteps m_loops m_ran m_told1 m_isTold m_marks)) : Call Γ M_Mo_isWalker 1 0 0 [.ref 0, .int p] (hM m_at m_names m_status m_top m_bottom m_sort m_trayMany m_trays m_tape m_text m_taped m_size m_token m_from m_end m_value m_faultKind m_faultPlace m_faults m_seen m_areOdds m_opened m_depth m_counted m_eastBy m_northBy m_partBy m_wayFaults m_wayEast m_wayNorth m_olds m_wayMany m_oneOfSet m_twoOfSet m_farBy m_rowBy m_triedBy m_rowMany m_doneAt m_gotAt m_struckAt m_bestDeed m_misBy m_drawn m_ranSteps m_loops m_ran m_told1 m_isTold m_marks) Q := by
  refine call_intro (ls := [some (.ref 0), some (.int p)]) rfl rfl rfl ?_
  refine wp_iload_n 1 d_Mo_isWalker_0 rfl rfl ?_
  refine wp_if_lt 18 4 d_Mo_isWalker_1 rfl (by decide) (fun h1 => ?_) (fun h1 => ?_)
  · refine wp_iconst 19 0 d_Mo_isWalker_18 rfl (by decide) ?_
    refine wp_zreturn d_Mo_isWalker_19 rfl (by first | rfl | exact nbP _) ?_
    exact bq0 (fun z => absurd h1 (Int32.not_lt.mpr z.1)) hq
  · refine wp_iload_n 5 d_Mo_isWalker_4 rfl rfl ?_
    refine wp_aload_n 6 d_Mo_isWalker_5 rfl rfl ?_
    refine wp_getfield 9 12 0 d_Mo_isWalker_6 rfl fl_Mo_7 rfl rfl ?_
    refine wp_iconst 10 1 d_Mo_isWalker_9 rfl (by decide) ?_
    refine wp_iaload 11 d_Mo_isWalker_10 rfl rfl (vp_in_nI (n := 1) (N := 2332) (by omega) (by omega)) ?_
    rw [show m_at (1 : Int32).toNatClampNeg = nI t.nW from V.W]
    refine wp_icmp_ge 18 14 d_Mo_isWalker_11 rfl (by decide) (fun h11 => ?_) (fun h11 => ?_)
    · refine wp_iconst 19 0 d_Mo_isWalker_18 rfl (by decide) ?_
      refine wp_zreturn d_Mo_isWalker_19 rfl (by first | rfl | exact nbP _) ?_
      exact bq0 (fun z => absurd h11 (Int32.not_le.mpr z.2)) hq
    · refine wp_iconst 15 1 d_Mo_isWalker_14 rfl (by decide) ?_
      refine wp_goto 19 d_Mo_isWalker_15 (by decide) ?_
      refine wp_zreturn d_Mo_isWalker_19 rfl (by first | rfl | exact nbP _) ?_
      exact bq1 ⟨Int32.not_lt.mp h1, Int32.not_le.mp h11⟩ hq

set_option maxRecDepth 100000 in
set_option maxHeartbeats 4000000 in
theorem c_Mo_isLeg {p : Int32} (V : vT m_at t) (hq : Q (some (.int (bP (inR p (nI t.nL))))) (hM m_at m_names m_status m_top m_bottom m_sort m_trayMany m_trays m_tape m_text m_taped m_size m_token m_from m_end m_value m_faultKind m_faultPlace m_faults m_seen m_areOdds m_opened m_depth m_counted m_eastBy m_northBy m_partBy m_wayFaults m_wayEast m_wayNorth m_olds m_wayMany m_oneOfSet m_twoOfSet m_farBy m_rowBy m_triedBy m_rowMany m_doneAt m_gotAt m_struckAt m_bestDeed m_misBy m_drawn m_ranSteps m_loops m_ran m_told1 m_isTold m_marks)) : Call Γ M_Mo_isLeg 1 0 0 [.ref 0, .int p] (hM m_at m_names m_status m_top m_bottom m_sort m_trayMany m_trays m_tape m_text m_taped m_size m_token m_from m_end m_value m_faultKind m_faultPlace m_faults m_seen m_areOdds m_opened m_depth m_counted m_eastBy m_northBy m_partBy m_wayFaults m_wayEast m_wayNorth m_olds m_wayMany m_oneOfSet m_twoOfSet m_farBy m_rowBy m_triedBy m_rowMany m_doneAt m_gotAt m_struckAt m_bestDeed m_misBy m_drawn m_ranSteps m_loops m_ran m_told1 m_isTold m_marks) Q := by
  refine call_intro (ls := [some (.ref 0), some (.int p)]) rfl rfl rfl ?_
  refine wp_iload_n 1 d_Mo_isLeg_0 rfl rfl ?_
  refine wp_if_lt 18 4 d_Mo_isLeg_1 rfl (by decide) (fun h1 => ?_) (fun h1 => ?_)
  · refine wp_iconst 19 0 d_Mo_isLeg_18 rfl (by decide) ?_
    refine wp_zreturn d_Mo_isLeg_19 rfl (by first | rfl | exact nbP _) ?_
    exact bq0 (fun z => absurd h1 (Int32.not_lt.mpr z.1)) hq
  · refine wp_iload_n 5 d_Mo_isLeg_4 rfl rfl ?_
    refine wp_aload_n 6 d_Mo_isLeg_5 rfl rfl ?_
    refine wp_getfield 9 12 0 d_Mo_isLeg_6 rfl fl_Mo_7 rfl rfl ?_
    refine wp_iconst 10 2 d_Mo_isLeg_9 rfl (by decide) ?_
    refine wp_iaload 11 d_Mo_isLeg_10 rfl rfl (vp_in_nI (n := 2) (N := 2332) (by omega) (by omega)) ?_
    rw [show m_at (2 : Int32).toNatClampNeg = nI t.nL from V.L]
    refine wp_icmp_ge 18 14 d_Mo_isLeg_11 rfl (by decide) (fun h11 => ?_) (fun h11 => ?_)
    · refine wp_iconst 19 0 d_Mo_isLeg_18 rfl (by decide) ?_
      refine wp_zreturn d_Mo_isLeg_19 rfl (by first | rfl | exact nbP _) ?_
      exact bq0 (fun z => absurd h11 (Int32.not_le.mpr z.2)) hq
    · refine wp_iconst 15 1 d_Mo_isLeg_14 rfl (by decide) ?_
      refine wp_goto 19 d_Mo_isLeg_15 (by decide) ?_
      refine wp_zreturn d_Mo_isLeg_19 rfl (by first | rfl | exact nbP _) ?_
      exact bq1 ⟨Int32.not_lt.mp h1, Int32.not_le.mp h11⟩ hq

set_option maxRecDepth 100000 in
set_option maxHeartbeats 4000000 in
theorem c_Mo_areTwo {a b : Int32} (V : vT m_at t) (hq : Q (some (.int (bP (isTw t a b)))) (hM m_at m_names m_status m_top m_bottom m_sort m_trayMany m_trays m_tape m_text m_taped m_size m_token m_from m_end m_value m_faultKind m_faultPlace m_faults m_seen m_areOdds m_opened m_depth m_counted m_eastBy m_northBy m_partBy m_wayFaults m_wayEast m_wayNorth m_olds m_wayMany m_oneOfSet m_twoOfSet m_farBy m_rowBy m_triedBy m_rowMany m_doneAt m_gotAt m_struckAt m_bestDeed m_misBy m_drawn m_ranSteps m_loops m_ran m_told1 m_isTold m_marks)) : Call Γ M_Mo_areTwo 2 0 0 [.ref 0, .int a, .int b] (hM m_at m_names m_status m_top m_bottom m_sort m_trayMany m_trays m_tape m_text m_taped m_size m_token m_from m_end m_value m_faultKind m_faultPlace m_faults m_seen m_areOdds m_opened m_depth m_counted m_eastBy m_northBy m_partBy m_wayFaults m_wayEast m_wayNorth m_olds m_wayMany m_oneOfSet m_twoOfSet m_farBy m_rowBy m_triedBy m_rowMany m_doneAt m_gotAt m_struckAt m_bestDeed m_misBy m_drawn m_ranSteps m_loops m_ran m_told1 m_isTold m_marks) Q := by
  refine call_intro (ls := [some (.ref 0), some (.int a), some (.int b)]) rfl rfl rfl ?_
  refine wp_aload_n 1 d_Mo_areTwo_0 rfl rfl ?_
  refine wp_iload_n 2 d_Mo_areTwo_1 rfl rfl ?_
  refine wp_V1 5 M_Mo_isPlace 1 d_Mo_areTwo_2 rfl mv_Mo_isPlace lk_Mo_278 rfl rfl rfl rfl rfl ?_
  refine c_Mo_isPlace V ?_
  refine kI ?_
  (first | refine wp_ifP_eq 25 8 d_Mo_areTwo_5 rfl (by decide) (fun h5 => ?_) (fun h5 => ?_) | refine wp_if_eq 25 8 d_Mo_areTwo_5 rfl (by decide) (fun h5 => ?_) (fun h5 => ?_))
  · refine wp_iconst 26 0 d_Mo_areTwo_25 rfl (by decide) ?_
    refine wp_zreturn d_Mo_areTwo_26 rfl (by first | rfl | exact nbP _) ?_
    exact bq0 (fun z => h5 z.1) hq
  · refine wp_aload_n 9 d_Mo_areTwo_8 rfl rfl ?_
    refine wp_iload_n 10 d_Mo_areTwo_9 rfl rfl ?_
    refine wp_V1 13 M_Mo_isPlace 1 d_Mo_areTwo_10 rfl mv_Mo_isPlace lk_Mo_278 rfl rfl rfl rfl rfl ?_
    refine c_Mo_isPlace V ?_
    refine kI ?_
    (first | refine wp_ifP_eq 25 16 d_Mo_areTwo_13 rfl (by decide) (fun h13 => ?_) (fun h13 => ?_) | refine wp_if_eq 25 16 d_Mo_areTwo_13 rfl (by decide) (fun h13 => ?_) (fun h13 => ?_))
    · refine wp_iconst 26 0 d_Mo_areTwo_25 rfl (by decide) ?_
      refine wp_zreturn d_Mo_areTwo_26 rfl (by first | rfl | exact nbP _) ?_
      exact bq0 (fun z => h13 z.2.1) hq
    · refine wp_iload_n 17 d_Mo_areTwo_16 rfl rfl ?_
      refine wp_iload_n 18 d_Mo_areTwo_17 rfl rfl ?_
      refine wp_icmp_eq 25 21 d_Mo_areTwo_18 rfl (by decide) (fun h18 => ?_) (fun h18 => ?_)
      · refine wp_iconst 26 0 d_Mo_areTwo_25 rfl (by decide) ?_
        refine wp_zreturn d_Mo_areTwo_26 rfl (by first | rfl | exact nbP _) ?_
        exact bq0 (fun z => z.2.2 h18) hq
      · refine wp_iconst 22 1 d_Mo_areTwo_21 rfl (by decide) ?_
        refine wp_goto 26 d_Mo_areTwo_22 (by decide) ?_
        refine wp_zreturn d_Mo_areTwo_26 rfl (by first | rfl | exact nbP _) ?_
        exact bq1 ⟨h5, h13, h18⟩ hq

set_option maxRecDepth 100000 in
set_option maxHeartbeats 4000000 in
theorem c_Mo_legOf (k : Nat) {l : Nat} {v : Int32} (hv : v = nI k) (hl : l < 12) (hk : k < 5) (hq : Q (some (.int (m_at (22 + 5 * l + k)))) (hM m_at m_names m_status m_top m_bottom m_sort m_trayMany m_trays m_tape m_text m_taped m_size m_token m_from m_end m_value m_faultKind m_faultPlace m_faults m_seen m_areOdds m_opened m_depth m_counted m_eastBy m_northBy m_partBy m_wayFaults m_wayEast m_wayNorth m_olds m_wayMany m_oneOfSet m_twoOfSet m_farBy m_rowBy m_triedBy m_rowMany m_doneAt m_gotAt m_struckAt m_bestDeed m_misBy m_drawn m_ranSteps m_loops m_ran m_told1 m_isTold m_marks)) : Call Γ M_Mo_legOf 2 0 0 [.ref 0, .int (nI l), .int v] (hM m_at m_names m_status m_top m_bottom m_sort m_trayMany m_trays m_tape m_text m_taped m_size m_token m_from m_end m_value m_faultKind m_faultPlace m_faults m_seen m_areOdds m_opened m_depth m_counted m_eastBy m_northBy m_partBy m_wayFaults m_wayEast m_wayNorth m_olds m_wayMany m_oneOfSet m_twoOfSet m_farBy m_rowBy m_triedBy m_rowMany m_doneAt m_gotAt m_struckAt m_bestDeed m_misBy m_drawn m_ranSteps m_loops m_ran m_told1 m_isTold m_marks) Q := by
  subst hv
  refine call_intro (ls := [some (.ref 0), some (.int (nI l)), some (.int (nI k))]) rfl rfl rfl ?_
  refine wp_aload_n 1 d_Mo_legOf_0 rfl rfl ?_
  refine wp_getfield 4 12 0 d_Mo_legOf_1 rfl fl_Mo_7 rfl rfl ?_
  refine wp_iload_n 5 d_Mo_legOf_4 rfl rfl ?_
  refine wp_S1 8 M_Mo_legRow 1 d_Mo_legOf_5 rfl ms_Mo_legRow lk_Mo_226 rfl rfl ?_
  refine c_Mo_legRow ?_
  refine kI ?_
  refine wp_iload_n 9 d_Mo_legOf_8 rfl rfl ?_
  refine wp_iadd 10 d_Mo_legOf_9 rfl ?_
  rw [nI_add]
  refine wp_ialoadN 11 d_Mo_legOf_10 rfl rfl rfl (by omega) ?_
  refine wp_ireturn d_Mo_legOf_11 rfl ?_
  exact hq

theorem c_leg0 (V : vT m_at t) {l : Nat} (hl : l < t.nL) (hq : Q (some (.int (t.te l))) (hM m_at m_names m_status m_top m_bottom m_sort m_trayMany m_trays m_tape m_text m_taped m_size m_token m_from m_end m_value m_faultKind m_faultPlace m_faults m_seen m_areOdds m_opened m_depth m_counted m_eastBy m_northBy m_partBy m_wayFaults m_wayEast m_wayNorth m_olds m_wayMany m_oneOfSet m_twoOfSet m_farBy m_rowBy m_triedBy m_rowMany m_doneAt m_gotAt m_struckAt m_bestDeed m_misBy m_drawn m_ranSteps m_loops m_ran m_told1 m_isTold m_marks)) : Call Γ M_Mo_legOf 2 0 0 [.ref 0, .int (nI l), .int 0] (hM m_at m_names m_status m_top m_bottom m_sort m_trayMany m_trays m_tape m_text m_taped m_size m_token m_from m_end m_value m_faultKind m_faultPlace m_faults m_seen m_areOdds m_opened m_depth m_counted m_eastBy m_northBy m_partBy m_wayFaults m_wayEast m_wayNorth m_olds m_wayMany m_oneOfSet m_twoOfSet m_farBy m_rowBy m_triedBy m_rowMany m_doneAt m_gotAt m_struckAt m_bestDeed m_misBy m_drawn m_ranSteps m_loops m_ran m_told1 m_isTold m_marks) Q := c_Mo_legOf 0 rfl (V.l12 hl) (by omega) (by rw [show m_at (22 + 5 * l + 0) = t.te l from by rw [show 22 + 5 * l + 0 = 22 + 5 * l by omega]; exact (V.leg hl).1]; exact hq)
theorem c_leg1 (V : vT m_at t) {l : Nat} (hl : l < t.nL) (hq : Q (some (.int (t.fr l))) (hM m_at m_names m_status m_top m_bottom m_sort m_trayMany m_trays m_tape m_text m_taped m_size m_token m_from m_end m_value m_faultKind m_faultPlace m_faults m_seen m_areOdds m_opened m_depth m_counted m_eastBy m_northBy m_partBy m_wayFaults m_wayEast m_wayNorth m_olds m_wayMany m_oneOfSet m_twoOfSet m_farBy m_rowBy m_triedBy m_rowMany m_doneAt m_gotAt m_struckAt m_bestDeed m_misBy m_drawn m_ranSteps m_loops m_ran m_told1 m_isTold m_marks)) : Call Γ M_Mo_legOf 2 0 0 [.ref 0, .int (nI l), .int 1] (hM m_at m_names m_status m_top m_bottom m_sort m_trayMany m_trays m_tape m_text m_taped m_size m_token m_from m_end m_value m_faultKind m_faultPlace m_faults m_seen m_areOdds m_opened m_depth m_counted m_eastBy m_northBy m_partBy m_wayFaults m_wayEast m_wayNorth m_olds m_wayMany m_oneOfSet m_twoOfSet m_farBy m_rowBy m_triedBy m_rowMany m_doneAt m_gotAt m_struckAt m_bestDeed m_misBy m_drawn m_ranSteps m_loops m_ran m_told1 m_isTold m_marks) Q := c_Mo_legOf 1 rfl (V.l12 hl) (by omega) (by rw [show m_at (22 + 5 * l + 1) = t.fr l from by rw [show 22 + 5 * l + 1 = 23 + 5 * l by omega]; exact (V.leg hl).2.1]; exact hq)
theorem c_leg2 (V : vT m_at t) {l : Nat} (hl : l < t.nL) (hq : Q (some (.int (t.to_ l))) (hM m_at m_names m_status m_top m_bottom m_sort m_trayMany m_trays m_tape m_text m_taped m_size m_token m_from m_end m_value m_faultKind m_faultPlace m_faults m_seen m_areOdds m_opened m_depth m_counted m_eastBy m_northBy m_partBy m_wayFaults m_wayEast m_wayNorth m_olds m_wayMany m_oneOfSet m_twoOfSet m_farBy m_rowBy m_triedBy m_rowMany m_doneAt m_gotAt m_struckAt m_bestDeed m_misBy m_drawn m_ranSteps m_loops m_ran m_told1 m_isTold m_marks)) : Call Γ M_Mo_legOf 2 0 0 [.ref 0, .int (nI l), .int 2] (hM m_at m_names m_status m_top m_bottom m_sort m_trayMany m_trays m_tape m_text m_taped m_size m_token m_from m_end m_value m_faultKind m_faultPlace m_faults m_seen m_areOdds m_opened m_depth m_counted m_eastBy m_northBy m_partBy m_wayFaults m_wayEast m_wayNorth m_olds m_wayMany m_oneOfSet m_twoOfSet m_farBy m_rowBy m_triedBy m_rowMany m_doneAt m_gotAt m_struckAt m_bestDeed m_misBy m_drawn m_ranSteps m_loops m_ran m_told1 m_isTold m_marks) Q := c_Mo_legOf 2 rfl (V.l12 hl) (by omega) (by rw [show m_at (22 + 5 * l + 2) = t.to_ l from by rw [show 22 + 5 * l + 2 = 24 + 5 * l by omega]; exact (V.leg hl).2.2.1]; exact hq)
theorem c_leg3 (V : vT m_at t) {l : Nat} (hl : l < t.nL) (hq : Q (some (.int (t.ea l))) (hM m_at m_names m_status m_top m_bottom m_sort m_trayMany m_trays m_tape m_text m_taped m_size m_token m_from m_end m_value m_faultKind m_faultPlace m_faults m_seen m_areOdds m_opened m_depth m_counted m_eastBy m_northBy m_partBy m_wayFaults m_wayEast m_wayNorth m_olds m_wayMany m_oneOfSet m_twoOfSet m_farBy m_rowBy m_triedBy m_rowMany m_doneAt m_gotAt m_struckAt m_bestDeed m_misBy m_drawn m_ranSteps m_loops m_ran m_told1 m_isTold m_marks)) : Call Γ M_Mo_legOf 2 0 0 [.ref 0, .int (nI l), .int 3] (hM m_at m_names m_status m_top m_bottom m_sort m_trayMany m_trays m_tape m_text m_taped m_size m_token m_from m_end m_value m_faultKind m_faultPlace m_faults m_seen m_areOdds m_opened m_depth m_counted m_eastBy m_northBy m_partBy m_wayFaults m_wayEast m_wayNorth m_olds m_wayMany m_oneOfSet m_twoOfSet m_farBy m_rowBy m_triedBy m_rowMany m_doneAt m_gotAt m_struckAt m_bestDeed m_misBy m_drawn m_ranSteps m_loops m_ran m_told1 m_isTold m_marks) Q := c_Mo_legOf 3 rfl (V.l12 hl) (by omega) (by rw [show m_at (22 + 5 * l + 3) = t.ea l from by rw [show 22 + 5 * l + 3 = 25 + 5 * l by omega]; exact (V.leg hl).2.2.2.1]; exact hq)
theorem c_leg4 (V : vT m_at t) {l : Nat} (hl : l < t.nL) (hq : Q (some (.int (t.no l))) (hM m_at m_names m_status m_top m_bottom m_sort m_trayMany m_trays m_tape m_text m_taped m_size m_token m_from m_end m_value m_faultKind m_faultPlace m_faults m_seen m_areOdds m_opened m_depth m_counted m_eastBy m_northBy m_partBy m_wayFaults m_wayEast m_wayNorth m_olds m_wayMany m_oneOfSet m_twoOfSet m_farBy m_rowBy m_triedBy m_rowMany m_doneAt m_gotAt m_struckAt m_bestDeed m_misBy m_drawn m_ranSteps m_loops m_ran m_told1 m_isTold m_marks)) : Call Γ M_Mo_legOf 2 0 0 [.ref 0, .int (nI l), .int 4] (hM m_at m_names m_status m_top m_bottom m_sort m_trayMany m_trays m_tape m_text m_taped m_size m_token m_from m_end m_value m_faultKind m_faultPlace m_faults m_seen m_areOdds m_opened m_depth m_counted m_eastBy m_northBy m_partBy m_wayFaults m_wayEast m_wayNorth m_olds m_wayMany m_oneOfSet m_twoOfSet m_farBy m_rowBy m_triedBy m_rowMany m_doneAt m_gotAt m_struckAt m_bestDeed m_misBy m_drawn m_ranSteps m_loops m_ran m_told1 m_isTold m_marks) Q := c_Mo_legOf 4 rfl (V.l12 hl) (by omega) (by rw [show m_at (22 + 5 * l + 4) = t.no l from by rw [show 22 + 5 * l + 4 = 26 + 5 * l by omega]; exact (V.leg hl).2.2.2.2]; exact hq)
set_option maxRecDepth 100000 in
set_option maxHeartbeats 4000000 in
theorem c_Mo_walkerOf (k : Nat) {w : Nat} {v : Int32} (hv : v = nI k) (hl : w < 4) (hk : k < 3) (hq : Q (some (.int (m_at (10 + 3 * w + k)))) (hM m_at m_names m_status m_top m_bottom m_sort m_trayMany m_trays m_tape m_text m_taped m_size m_token m_from m_end m_value m_faultKind m_faultPlace m_faults m_seen m_areOdds m_opened m_depth m_counted m_eastBy m_northBy m_partBy m_wayFaults m_wayEast m_wayNorth m_olds m_wayMany m_oneOfSet m_twoOfSet m_farBy m_rowBy m_triedBy m_rowMany m_doneAt m_gotAt m_struckAt m_bestDeed m_misBy m_drawn m_ranSteps m_loops m_ran m_told1 m_isTold m_marks)) : Call Γ M_Mo_walkerOf 2 0 0 [.ref 0, .int (nI w), .int v] (hM m_at m_names m_status m_top m_bottom m_sort m_trayMany m_trays m_tape m_text m_taped m_size m_token m_from m_end m_value m_faultKind m_faultPlace m_faults m_seen m_areOdds m_opened m_depth m_counted m_eastBy m_northBy m_partBy m_wayFaults m_wayEast m_wayNorth m_olds m_wayMany m_oneOfSet m_twoOfSet m_farBy m_rowBy m_triedBy m_rowMany m_doneAt m_gotAt m_struckAt m_bestDeed m_misBy m_drawn m_ranSteps m_loops m_ran m_told1 m_isTold m_marks) Q := by
  subst hv
  refine call_intro (ls := [some (.ref 0), some (.int (nI w)), some (.int (nI k))]) rfl rfl rfl ?_
  refine wp_aload_n 1 d_Mo_walkerOf_0 rfl rfl ?_
  refine wp_getfield 4 12 0 d_Mo_walkerOf_1 rfl fl_Mo_7 rfl rfl ?_
  refine wp_iload_n 5 d_Mo_walkerOf_4 rfl rfl ?_
  refine wp_S1 8 M_Mo_walkerRow 1 d_Mo_walkerOf_5 rfl ms_Mo_walkerRow lk_Mo_216 rfl rfl ?_
  refine c_Mo_walkerRow ?_
  refine kI ?_
  refine wp_iload_n 9 d_Mo_walkerOf_8 rfl rfl ?_
  refine wp_iadd 10 d_Mo_walkerOf_9 rfl ?_
  rw [nI_add]
  refine wp_ialoadN 11 d_Mo_walkerOf_10 rfl rfl rfl (by omega) ?_
  refine wp_ireturn d_Mo_walkerOf_11 rfl ?_
  exact hq

theorem c_wk0 (V : vT m_at t) {w : Int32} (hw : inR w (nI t.nW)) (hq : Q (some (.int (tB (t.fa w.toNatClampNeg)))) (hM m_at m_names m_status m_top m_bottom m_sort m_trayMany m_trays m_tape m_text m_taped m_size m_token m_from m_end m_value m_faultKind m_faultPlace m_faults m_seen m_areOdds m_opened m_depth m_counted m_eastBy m_northBy m_partBy m_wayFaults m_wayEast m_wayNorth m_olds m_wayMany m_oneOfSet m_twoOfSet m_farBy m_rowBy m_triedBy m_rowMany m_doneAt m_gotAt m_struckAt m_bestDeed m_misBy m_drawn m_ranSteps m_loops m_ran m_told1 m_isTold m_marks)) : Call Γ M_Mo_walkerOf 2 0 0 [.ref 0, .int w, .int 0] (hM m_at m_names m_status m_top m_bottom m_sort m_trayMany m_trays m_tape m_text m_taped m_size m_token m_from m_end m_value m_faultKind m_faultPlace m_faults m_seen m_areOdds m_opened m_depth m_counted m_eastBy m_northBy m_partBy m_wayFaults m_wayEast m_wayNorth m_olds m_wayMany m_oneOfSet m_twoOfSet m_farBy m_rowBy m_triedBy m_rowMany m_doneAt m_gotAt m_struckAt m_bestDeed m_misBy m_drawn m_ranSteps m_loops m_ran m_told1 m_isTold m_marks) Q := by
  obtain ⟨j, hj, rfl⟩ := inR_ex hw (by have := V.ok.hW; omega)
  have h4 := V.ok.hW
  rw [nI_clamp (by omega)] at hq
  exact c_Mo_walkerOf 0 rfl (by omega) (by omega) (by rw [show m_at (10 + 3 * j + 0) = tB (t.fa j) from by rw [show 10 + 3 * j + 0 = 10 + 3 * j by omega]; exact (V.wk hj).1]; exact hq)
theorem c_wk1 (V : vT m_at t) {w : Int32} (hw : inR w (nI t.nW)) (hq : Q (some (.int (lB (t.fa w.toNatClampNeg)))) (hM m_at m_names m_status m_top m_bottom m_sort m_trayMany m_trays m_tape m_text m_taped m_size m_token m_from m_end m_value m_faultKind m_faultPlace m_faults m_seen m_areOdds m_opened m_depth m_counted m_eastBy m_northBy m_partBy m_wayFaults m_wayEast m_wayNorth m_olds m_wayMany m_oneOfSet m_twoOfSet m_farBy m_rowBy m_triedBy m_rowMany m_doneAt m_gotAt m_struckAt m_bestDeed m_misBy m_drawn m_ranSteps m_loops m_ran m_told1 m_isTold m_marks)) : Call Γ M_Mo_walkerOf 2 0 0 [.ref 0, .int w, .int 1] (hM m_at m_names m_status m_top m_bottom m_sort m_trayMany m_trays m_tape m_text m_taped m_size m_token m_from m_end m_value m_faultKind m_faultPlace m_faults m_seen m_areOdds m_opened m_depth m_counted m_eastBy m_northBy m_partBy m_wayFaults m_wayEast m_wayNorth m_olds m_wayMany m_oneOfSet m_twoOfSet m_farBy m_rowBy m_triedBy m_rowMany m_doneAt m_gotAt m_struckAt m_bestDeed m_misBy m_drawn m_ranSteps m_loops m_ran m_told1 m_isTold m_marks) Q := by
  obtain ⟨j, hj, rfl⟩ := inR_ex hw (by have := V.ok.hW; omega)
  have h4 := V.ok.hW
  rw [nI_clamp (by omega)] at hq
  exact c_Mo_walkerOf 1 rfl (by omega) (by omega) (by rw [show m_at (10 + 3 * j + 1) = lB (t.fa j) from by rw [show 10 + 3 * j + 1 = 11 + 3 * j by omega]; exact (V.wk hj).2.1]; exact hq)
theorem c_wk2 (V : vT m_at t) {w : Int32} (hw : inR w (nI t.nW)) (hq : Q (some (.int (sB (t.fa w.toNatClampNeg)))) (hM m_at m_names m_status m_top m_bottom m_sort m_trayMany m_trays m_tape m_text m_taped m_size m_token m_from m_end m_value m_faultKind m_faultPlace m_faults m_seen m_areOdds m_opened m_depth m_counted m_eastBy m_northBy m_partBy m_wayFaults m_wayEast m_wayNorth m_olds m_wayMany m_oneOfSet m_twoOfSet m_farBy m_rowBy m_triedBy m_rowMany m_doneAt m_gotAt m_struckAt m_bestDeed m_misBy m_drawn m_ranSteps m_loops m_ran m_told1 m_isTold m_marks)) : Call Γ M_Mo_walkerOf 2 0 0 [.ref 0, .int w, .int 2] (hM m_at m_names m_status m_top m_bottom m_sort m_trayMany m_trays m_tape m_text m_taped m_size m_token m_from m_end m_value m_faultKind m_faultPlace m_faults m_seen m_areOdds m_opened m_depth m_counted m_eastBy m_northBy m_partBy m_wayFaults m_wayEast m_wayNorth m_olds m_wayMany m_oneOfSet m_twoOfSet m_farBy m_rowBy m_triedBy m_rowMany m_doneAt m_gotAt m_struckAt m_bestDeed m_misBy m_drawn m_ranSteps m_loops m_ran m_told1 m_isTold m_marks) Q := by
  obtain ⟨j, hj, rfl⟩ := inR_ex hw (by have := V.ok.hW; omega)
  have h4 := V.ok.hW
  rw [nI_clamp (by omega)] at hq
  exact c_Mo_walkerOf 2 rfl (by omega) (by omega) (by rw [show m_at (10 + 3 * j + 2) = sB (t.fa j) from by rw [show 10 + 3 * j + 2 = 12 + 3 * j by omega]; exact (V.wk hj).2.2]; exact hq)
set_option maxRecDepth 100000 in
set_option maxHeartbeats 4000000 in
theorem c_right0 (V : vT m_at t) {l : Nat} (hl : l < t.nL) (hq : Q (some (.int (tE_ t l))) (hM m_at m_names m_status m_top m_bottom m_sort m_trayMany m_trays m_tape m_text m_taped m_size m_token m_from m_end m_value m_faultKind m_faultPlace m_faults m_seen m_areOdds m_opened m_depth m_counted m_eastBy m_northBy m_partBy m_wayFaults m_wayEast m_wayNorth m_olds m_wayMany m_oneOfSet m_twoOfSet m_farBy m_rowBy m_triedBy m_rowMany m_doneAt m_gotAt m_struckAt m_bestDeed m_misBy m_drawn m_ranSteps m_loops m_ran m_told1 m_isTold m_marks)) : Call Γ M_Mo_right 3 0 0 [.ref 0, .int (nI l), .int 0] (hM m_at m_names m_status m_top m_bottom m_sort m_trayMany m_trays m_tape m_text m_taped m_size m_token m_from m_end m_value m_faultKind m_faultPlace m_faults m_seen m_areOdds m_opened m_depth m_counted m_eastBy m_northBy m_partBy m_wayFaults m_wayEast m_wayNorth m_olds m_wayMany m_oneOfSet m_twoOfSet m_farBy m_rowBy m_triedBy m_rowMany m_doneAt m_gotAt m_struckAt m_bestDeed m_misBy m_drawn m_ranSteps m_loops m_ran m_told1 m_isTold m_marks) Q := by
  refine call_intro (ls := [some (.ref 0), some (.int (nI l)), some (.int 0), none, none, none, none]) rfl rfl rfl ?_
  refine wp_aload_n 1 d_Mo_right_0 rfl rfl ?_
  refine wp_iload_n 2 d_Mo_right_1 rfl rfl ?_
  refine wp_iconst 3 0 d_Mo_right_2 rfl (by decide) ?_
  refine wp_V2 6 M_Mo_legOf 2 d_Mo_right_3 rfl mv_Mo_legOf lk_Mo_287 rfl rfl rfl rfl rfl ?_
  refine c_leg0 V hl ?_
  refine kI ?_
  refine wp_istore_3 7 d_Mo_right_6 rfl rfl rfl ?_
  refine wp_aload_n 8 d_Mo_right_7 rfl rfl ?_
  refine wp_iload_n 9 d_Mo_right_8 rfl rfl ?_
  refine wp_iconst 10 2 d_Mo_right_9 rfl (by decide) ?_
  refine wp_V2 13 M_Mo_walkerOf 2 d_Mo_right_10 rfl mv_Mo_walkerOf lk_Mo_290 rfl rfl rfl rfl rfl ?_
  refine c_wk2 V (V.in_.1 l hl).1 ?_
  refine kI ?_
  refine wp_istore_4 15 d_Mo_right_13 rfl rfl rfl ?_
  refine wp_aload_n 16 d_Mo_right_15 rfl rfl ?_
  refine wp_iload_n 17 d_Mo_right_16 rfl rfl ?_
  refine wp_iconst 18 1 d_Mo_right_17 rfl (by decide) ?_
  refine wp_V2 21 M_Mo_walkerOf 2 d_Mo_right_18 rfl mv_Mo_walkerOf lk_Mo_290 rfl rfl rfl rfl rfl ?_
  refine c_wk1 V (V.in_.1 l hl).1 ?_
  refine kI ?_
  refine wp_iconst 22 1 d_Mo_right_21 rfl (by decide) ?_
  refine wp_icmp_ne 35 25 d_Mo_right_22 rfl (by decide) (fun h22 => ?_) (fun h22 => ?_)
  · refine wp_aload_n 36 d_Mo_right_35 rfl rfl ?_
    refine wp_iload_n 37 d_Mo_right_36 rfl rfl ?_
    refine wp_iconst 38 3 d_Mo_right_37 rfl (by decide) ?_
    refine wp_V2 41 M_Mo_legOf 2 d_Mo_right_38 rfl mv_Mo_legOf lk_Mo_287 rfl rfl rfl rfl rfl ?_
    refine c_leg3 V hl ?_
    refine kI ?_
    refine wp_istore_5 43 d_Mo_right_41 rfl rfl rfl ?_
    refine wp_aload_n 44 d_Mo_right_43 rfl rfl ?_
    refine wp_iload_n 45 d_Mo_right_44 rfl rfl ?_
    refine wp_iconst 46 4 d_Mo_right_45 rfl (by decide) ?_
    refine wp_V2 49 M_Mo_legOf 2 d_Mo_right_46 rfl mv_Mo_legOf lk_Mo_287 rfl rfl rfl rfl rfl ?_
    refine c_leg4 V hl ?_
    refine kI ?_
    refine wp_istore_6 51 d_Mo_right_49 rfl rfl rfl ?_
    refine wp_aload_n 52 d_Mo_right_51 rfl rfl ?_
    refine wp_iload_n 53 d_Mo_right_52 rfl rfl ?_
    refine wp_iconst 54 0 d_Mo_right_53 rfl (by decide) ?_
    refine wp_V2 57 M_Mo_walkerOf 2 d_Mo_right_54 rfl mv_Mo_walkerOf lk_Mo_290 rfl rfl rfl rfl rfl ?_
    refine c_wk0 V (V.in_.1 l hl).1 ?_
    refine kI ?_
    by_cases h57_0 : tB (t.fa (t.te l).toNatClampNeg) = 0
    · refine wp_tabIn (off := 27) 84 0 d_Mo_right_57 h57_0 (by decide) (by decide) (by decide) (by decide) ?_
      refine wp_iload 86 d_Mo_right_84 rfl rfl ?_
      refine wp_iload_n 87 d_Mo_right_86 rfl rfl ?_
      refine wp_if_eq 95 90 d_Mo_right_87 rfl (by decide) (fun h87 => ?_) (fun h87 => ?_)
      · refine wp_iload 97 d_Mo_right_95 rfl rfl ?_
        refine wp_imul 98 d_Mo_right_97 rfl ?_
        refine wp_ireturn d_Mo_right_98 rfl ?_
        refine qI hq ?_; simp [tE_, mE, rE, *]
      · exact absurd rfl h87
    by_cases h57_1 : tB (t.fa (t.te l).toNatClampNeg) = 1
    · refine wp_tabIn (off := 42) 99 1 d_Mo_right_57 h57_1 (by decide) (by decide) (by decide) (by decide) ?_
      refine wp_iload 101 d_Mo_right_99 rfl rfl ?_
      refine wp_iload_n 102 d_Mo_right_101 rfl rfl ?_
      refine wp_if_eq 111 105 d_Mo_right_102 rfl (by decide) (fun h102 => ?_) (fun h102 => ?_)
      · refine wp_iload 113 d_Mo_right_111 rfl rfl ?_
        refine wp_imul 114 d_Mo_right_113 rfl ?_
        refine wp_ireturn d_Mo_right_114 rfl ?_
        refine qI hq ?_; simp [tE_, mE, rE, *]
      · exact absurd rfl h102
    by_cases h57_2 : tB (t.fa (t.te l).toNatClampNeg) = 2
    · refine wp_tabIn (off := 58) 115 2 d_Mo_right_57 h57_2 (by decide) (by decide) (by decide) (by decide) ?_
      refine wp_iload 117 d_Mo_right_115 rfl rfl ?_
      refine wp_iload_n 118 d_Mo_right_117 rfl rfl ?_
      refine wp_if_eq 127 121 d_Mo_right_118 rfl (by decide) (fun h118 => ?_) (fun h118 => ?_)
      · refine wp_iload 129 d_Mo_right_127 rfl rfl ?_
        refine wp_ineg 130 d_Mo_right_129 rfl ?_
        refine wp_imul 131 d_Mo_right_130 rfl ?_
        refine wp_ireturn d_Mo_right_131 rfl ?_
        refine qI hq ?_; simp [tE_, mE, rE, *]
      · exact absurd rfl h118
    refine wp_tabOut 132 d_Mo_right_57 (sw_out3 h57_0 h57_1 h57_2) (by decide) ?_
    refine wp_iload 134 d_Mo_right_132 rfl rfl ?_
    refine wp_iload_n 135 d_Mo_right_134 rfl rfl ?_
    refine wp_if_eq 143 138 d_Mo_right_135 rfl (by decide) (fun h135 => ?_) (fun h135 => ?_)
    · refine wp_iload 145 d_Mo_right_143 rfl rfl ?_
      refine wp_ineg 146 d_Mo_right_145 rfl ?_
      refine wp_imul 147 d_Mo_right_146 rfl ?_
      refine wp_ireturn d_Mo_right_147 rfl ?_
      refine qI hq ?_; simp [tE_, mE, rE, *]
    · exact absurd rfl h135
  · refine wp_aload_n 26 d_Mo_right_25 rfl rfl ?_
    refine wp_iload_n 27 d_Mo_right_26 rfl rfl ?_
    refine wp_iconst 28 3 d_Mo_right_27 rfl (by decide) ?_
    refine wp_V2 31 M_Mo_legOf 2 d_Mo_right_28 rfl mv_Mo_legOf lk_Mo_287 rfl rfl rfl rfl rfl ?_
    refine c_leg3 V hl ?_
    refine kI ?_
    refine wp_ineg 32 d_Mo_right_31 rfl ?_
    refine wp_goto 41 d_Mo_right_32 (by decide) ?_
    refine wp_istore_5 43 d_Mo_right_41 rfl rfl rfl ?_
    refine wp_aload_n 44 d_Mo_right_43 rfl rfl ?_
    refine wp_iload_n 45 d_Mo_right_44 rfl rfl ?_
    refine wp_iconst 46 4 d_Mo_right_45 rfl (by decide) ?_
    refine wp_V2 49 M_Mo_legOf 2 d_Mo_right_46 rfl mv_Mo_legOf lk_Mo_287 rfl rfl rfl rfl rfl ?_
    refine c_leg4 V hl ?_
    refine kI ?_
    refine wp_istore_6 51 d_Mo_right_49 rfl rfl rfl ?_
    refine wp_aload_n 52 d_Mo_right_51 rfl rfl ?_
    refine wp_iload_n 53 d_Mo_right_52 rfl rfl ?_
    refine wp_iconst 54 0 d_Mo_right_53 rfl (by decide) ?_
    refine wp_V2 57 M_Mo_walkerOf 2 d_Mo_right_54 rfl mv_Mo_walkerOf lk_Mo_290 rfl rfl rfl rfl rfl ?_
    refine c_wk0 V (V.in_.1 l hl).1 ?_
    refine kI ?_
    by_cases h57_0 : tB (t.fa (t.te l).toNatClampNeg) = 0
    · refine wp_tabIn (off := 27) 84 0 d_Mo_right_57 h57_0 (by decide) (by decide) (by decide) (by decide) ?_
      refine wp_iload 86 d_Mo_right_84 rfl rfl ?_
      refine wp_iload_n 87 d_Mo_right_86 rfl rfl ?_
      refine wp_if_eq 95 90 d_Mo_right_87 rfl (by decide) (fun h87 => ?_) (fun h87 => ?_)
      · refine wp_iload 97 d_Mo_right_95 rfl rfl ?_
        refine wp_imul 98 d_Mo_right_97 rfl ?_
        refine wp_ireturn d_Mo_right_98 rfl ?_
        refine qI hq ?_; simp [tE_, mE, rE, *]
      · exact absurd rfl h87
    by_cases h57_1 : tB (t.fa (t.te l).toNatClampNeg) = 1
    · refine wp_tabIn (off := 42) 99 1 d_Mo_right_57 h57_1 (by decide) (by decide) (by decide) (by decide) ?_
      refine wp_iload 101 d_Mo_right_99 rfl rfl ?_
      refine wp_iload_n 102 d_Mo_right_101 rfl rfl ?_
      refine wp_if_eq 111 105 d_Mo_right_102 rfl (by decide) (fun h102 => ?_) (fun h102 => ?_)
      · refine wp_iload 113 d_Mo_right_111 rfl rfl ?_
        refine wp_imul 114 d_Mo_right_113 rfl ?_
        refine wp_ireturn d_Mo_right_114 rfl ?_
        refine qI hq ?_; simp [tE_, mE, rE, *]
      · exact absurd rfl h102
    by_cases h57_2 : tB (t.fa (t.te l).toNatClampNeg) = 2
    · refine wp_tabIn (off := 58) 115 2 d_Mo_right_57 h57_2 (by decide) (by decide) (by decide) (by decide) ?_
      refine wp_iload 117 d_Mo_right_115 rfl rfl ?_
      refine wp_iload_n 118 d_Mo_right_117 rfl rfl ?_
      refine wp_if_eq 127 121 d_Mo_right_118 rfl (by decide) (fun h118 => ?_) (fun h118 => ?_)
      · refine wp_iload 129 d_Mo_right_127 rfl rfl ?_
        refine wp_ineg 130 d_Mo_right_129 rfl ?_
        refine wp_imul 131 d_Mo_right_130 rfl ?_
        refine wp_ireturn d_Mo_right_131 rfl ?_
        refine qI hq ?_; simp [tE_, mE, rE, *]
      · exact absurd rfl h118
    refine wp_tabOut 132 d_Mo_right_57 (sw_out3 h57_0 h57_1 h57_2) (by decide) ?_
    refine wp_iload 134 d_Mo_right_132 rfl rfl ?_
    refine wp_iload_n 135 d_Mo_right_134 rfl rfl ?_
    refine wp_if_eq 143 138 d_Mo_right_135 rfl (by decide) (fun h135 => ?_) (fun h135 => ?_)
    · refine wp_iload 145 d_Mo_right_143 rfl rfl ?_
      refine wp_ineg 146 d_Mo_right_145 rfl ?_
      refine wp_imul 147 d_Mo_right_146 rfl ?_
      refine wp_ireturn d_Mo_right_147 rfl ?_
      refine qI hq ?_; simp [tE_, mE, rE, *]
    · exact absurd rfl h135

set_option maxRecDepth 100000 in
set_option maxHeartbeats 4000000 in
theorem c_right1 (V : vT m_at t) {l : Nat} (hl : l < t.nL) (hq : Q (some (.int (tN_ t l))) (hM m_at m_names m_status m_top m_bottom m_sort m_trayMany m_trays m_tape m_text m_taped m_size m_token m_from m_end m_value m_faultKind m_faultPlace m_faults m_seen m_areOdds m_opened m_depth m_counted m_eastBy m_northBy m_partBy m_wayFaults m_wayEast m_wayNorth m_olds m_wayMany m_oneOfSet m_twoOfSet m_farBy m_rowBy m_triedBy m_rowMany m_doneAt m_gotAt m_struckAt m_bestDeed m_misBy m_drawn m_ranSteps m_loops m_ran m_told1 m_isTold m_marks)) : Call Γ M_Mo_right 3 0 0 [.ref 0, .int (nI l), .int 1] (hM m_at m_names m_status m_top m_bottom m_sort m_trayMany m_trays m_tape m_text m_taped m_size m_token m_from m_end m_value m_faultKind m_faultPlace m_faults m_seen m_areOdds m_opened m_depth m_counted m_eastBy m_northBy m_partBy m_wayFaults m_wayEast m_wayNorth m_olds m_wayMany m_oneOfSet m_twoOfSet m_farBy m_rowBy m_triedBy m_rowMany m_doneAt m_gotAt m_struckAt m_bestDeed m_misBy m_drawn m_ranSteps m_loops m_ran m_told1 m_isTold m_marks) Q := by
  refine call_intro (ls := [some (.ref 0), some (.int (nI l)), some (.int 1), none, none, none, none]) rfl rfl rfl ?_
  refine wp_aload_n 1 d_Mo_right_0 rfl rfl ?_
  refine wp_iload_n 2 d_Mo_right_1 rfl rfl ?_
  refine wp_iconst 3 0 d_Mo_right_2 rfl (by decide) ?_
  refine wp_V2 6 M_Mo_legOf 2 d_Mo_right_3 rfl mv_Mo_legOf lk_Mo_287 rfl rfl rfl rfl rfl ?_
  refine c_leg0 V hl ?_
  refine kI ?_
  refine wp_istore_3 7 d_Mo_right_6 rfl rfl rfl ?_
  refine wp_aload_n 8 d_Mo_right_7 rfl rfl ?_
  refine wp_iload_n 9 d_Mo_right_8 rfl rfl ?_
  refine wp_iconst 10 2 d_Mo_right_9 rfl (by decide) ?_
  refine wp_V2 13 M_Mo_walkerOf 2 d_Mo_right_10 rfl mv_Mo_walkerOf lk_Mo_290 rfl rfl rfl rfl rfl ?_
  refine c_wk2 V (V.in_.1 l hl).1 ?_
  refine kI ?_
  refine wp_istore_4 15 d_Mo_right_13 rfl rfl rfl ?_
  refine wp_aload_n 16 d_Mo_right_15 rfl rfl ?_
  refine wp_iload_n 17 d_Mo_right_16 rfl rfl ?_
  refine wp_iconst 18 1 d_Mo_right_17 rfl (by decide) ?_
  refine wp_V2 21 M_Mo_walkerOf 2 d_Mo_right_18 rfl mv_Mo_walkerOf lk_Mo_290 rfl rfl rfl rfl rfl ?_
  refine c_wk1 V (V.in_.1 l hl).1 ?_
  refine kI ?_
  refine wp_iconst 22 1 d_Mo_right_21 rfl (by decide) ?_
  refine wp_icmp_ne 35 25 d_Mo_right_22 rfl (by decide) (fun h22 => ?_) (fun h22 => ?_)
  · refine wp_aload_n 36 d_Mo_right_35 rfl rfl ?_
    refine wp_iload_n 37 d_Mo_right_36 rfl rfl ?_
    refine wp_iconst 38 3 d_Mo_right_37 rfl (by decide) ?_
    refine wp_V2 41 M_Mo_legOf 2 d_Mo_right_38 rfl mv_Mo_legOf lk_Mo_287 rfl rfl rfl rfl rfl ?_
    refine c_leg3 V hl ?_
    refine kI ?_
    refine wp_istore_5 43 d_Mo_right_41 rfl rfl rfl ?_
    refine wp_aload_n 44 d_Mo_right_43 rfl rfl ?_
    refine wp_iload_n 45 d_Mo_right_44 rfl rfl ?_
    refine wp_iconst 46 4 d_Mo_right_45 rfl (by decide) ?_
    refine wp_V2 49 M_Mo_legOf 2 d_Mo_right_46 rfl mv_Mo_legOf lk_Mo_287 rfl rfl rfl rfl rfl ?_
    refine c_leg4 V hl ?_
    refine kI ?_
    refine wp_istore_6 51 d_Mo_right_49 rfl rfl rfl ?_
    refine wp_aload_n 52 d_Mo_right_51 rfl rfl ?_
    refine wp_iload_n 53 d_Mo_right_52 rfl rfl ?_
    refine wp_iconst 54 0 d_Mo_right_53 rfl (by decide) ?_
    refine wp_V2 57 M_Mo_walkerOf 2 d_Mo_right_54 rfl mv_Mo_walkerOf lk_Mo_290 rfl rfl rfl rfl rfl ?_
    refine c_wk0 V (V.in_.1 l hl).1 ?_
    refine kI ?_
    by_cases h57_0 : tB (t.fa (t.te l).toNatClampNeg) = 0
    · refine wp_tabIn (off := 27) 84 0 d_Mo_right_57 h57_0 (by decide) (by decide) (by decide) (by decide) ?_
      refine wp_iload 86 d_Mo_right_84 rfl rfl ?_
      refine wp_iload_n 87 d_Mo_right_86 rfl rfl ?_
      refine wp_if_eq 95 90 d_Mo_right_87 rfl (by decide) (fun h87 => ?_) (fun h87 => ?_)
      · exact absurd h87 (by decide)
      · refine wp_iload 92 d_Mo_right_90 rfl rfl ?_
        refine wp_goto 97 d_Mo_right_92 (by decide) ?_
        refine wp_imul 98 d_Mo_right_97 rfl ?_
        refine wp_ireturn d_Mo_right_98 rfl ?_
        refine qI hq ?_; simp [tN_, mN, rN, *]
    by_cases h57_1 : tB (t.fa (t.te l).toNatClampNeg) = 1
    · refine wp_tabIn (off := 42) 99 1 d_Mo_right_57 h57_1 (by decide) (by decide) (by decide) (by decide) ?_
      refine wp_iload 101 d_Mo_right_99 rfl rfl ?_
      refine wp_iload_n 102 d_Mo_right_101 rfl rfl ?_
      refine wp_if_eq 111 105 d_Mo_right_102 rfl (by decide) (fun h102 => ?_) (fun h102 => ?_)
      · exact absurd h102 (by decide)
      · refine wp_iload 107 d_Mo_right_105 rfl rfl ?_
        refine wp_ineg 108 d_Mo_right_107 rfl ?_
        refine wp_goto 113 d_Mo_right_108 (by decide) ?_
        refine wp_imul 114 d_Mo_right_113 rfl ?_
        refine wp_ireturn d_Mo_right_114 rfl ?_
        refine qI hq ?_; simp [tN_, mN, rN, *]
    by_cases h57_2 : tB (t.fa (t.te l).toNatClampNeg) = 2
    · refine wp_tabIn (off := 58) 115 2 d_Mo_right_57 h57_2 (by decide) (by decide) (by decide) (by decide) ?_
      refine wp_iload 117 d_Mo_right_115 rfl rfl ?_
      refine wp_iload_n 118 d_Mo_right_117 rfl rfl ?_
      refine wp_if_eq 127 121 d_Mo_right_118 rfl (by decide) (fun h118 => ?_) (fun h118 => ?_)
      · exact absurd h118 (by decide)
      · refine wp_iload 123 d_Mo_right_121 rfl rfl ?_
        refine wp_ineg 124 d_Mo_right_123 rfl ?_
        refine wp_goto 130 d_Mo_right_124 (by decide) ?_
        refine wp_imul 131 d_Mo_right_130 rfl ?_
        refine wp_ireturn d_Mo_right_131 rfl ?_
        refine qI hq ?_; simp [tN_, mN, rN, *]
    refine wp_tabOut 132 d_Mo_right_57 (sw_out3 h57_0 h57_1 h57_2) (by decide) ?_
    refine wp_iload 134 d_Mo_right_132 rfl rfl ?_
    refine wp_iload_n 135 d_Mo_right_134 rfl rfl ?_
    refine wp_if_eq 143 138 d_Mo_right_135 rfl (by decide) (fun h135 => ?_) (fun h135 => ?_)
    · exact absurd h135 (by decide)
    · refine wp_iload 140 d_Mo_right_138 rfl rfl ?_
      refine wp_goto 146 d_Mo_right_140 (by decide) ?_
      refine wp_imul 147 d_Mo_right_146 rfl ?_
      refine wp_ireturn d_Mo_right_147 rfl ?_
      refine qI hq ?_; simp [tN_, mN, rN, *]
  · refine wp_aload_n 26 d_Mo_right_25 rfl rfl ?_
    refine wp_iload_n 27 d_Mo_right_26 rfl rfl ?_
    refine wp_iconst 28 3 d_Mo_right_27 rfl (by decide) ?_
    refine wp_V2 31 M_Mo_legOf 2 d_Mo_right_28 rfl mv_Mo_legOf lk_Mo_287 rfl rfl rfl rfl rfl ?_
    refine c_leg3 V hl ?_
    refine kI ?_
    refine wp_ineg 32 d_Mo_right_31 rfl ?_
    refine wp_goto 41 d_Mo_right_32 (by decide) ?_
    refine wp_istore_5 43 d_Mo_right_41 rfl rfl rfl ?_
    refine wp_aload_n 44 d_Mo_right_43 rfl rfl ?_
    refine wp_iload_n 45 d_Mo_right_44 rfl rfl ?_
    refine wp_iconst 46 4 d_Mo_right_45 rfl (by decide) ?_
    refine wp_V2 49 M_Mo_legOf 2 d_Mo_right_46 rfl mv_Mo_legOf lk_Mo_287 rfl rfl rfl rfl rfl ?_
    refine c_leg4 V hl ?_
    refine kI ?_
    refine wp_istore_6 51 d_Mo_right_49 rfl rfl rfl ?_
    refine wp_aload_n 52 d_Mo_right_51 rfl rfl ?_
    refine wp_iload_n 53 d_Mo_right_52 rfl rfl ?_
    refine wp_iconst 54 0 d_Mo_right_53 rfl (by decide) ?_
    refine wp_V2 57 M_Mo_walkerOf 2 d_Mo_right_54 rfl mv_Mo_walkerOf lk_Mo_290 rfl rfl rfl rfl rfl ?_
    refine c_wk0 V (V.in_.1 l hl).1 ?_
    refine kI ?_
    by_cases h57_0 : tB (t.fa (t.te l).toNatClampNeg) = 0
    · refine wp_tabIn (off := 27) 84 0 d_Mo_right_57 h57_0 (by decide) (by decide) (by decide) (by decide) ?_
      refine wp_iload 86 d_Mo_right_84 rfl rfl ?_
      refine wp_iload_n 87 d_Mo_right_86 rfl rfl ?_
      refine wp_if_eq 95 90 d_Mo_right_87 rfl (by decide) (fun h87 => ?_) (fun h87 => ?_)
      · exact absurd h87 (by decide)
      · refine wp_iload 92 d_Mo_right_90 rfl rfl ?_
        refine wp_goto 97 d_Mo_right_92 (by decide) ?_
        refine wp_imul 98 d_Mo_right_97 rfl ?_
        refine wp_ireturn d_Mo_right_98 rfl ?_
        refine qI hq ?_; simp [tN_, mN, rN, *]
    by_cases h57_1 : tB (t.fa (t.te l).toNatClampNeg) = 1
    · refine wp_tabIn (off := 42) 99 1 d_Mo_right_57 h57_1 (by decide) (by decide) (by decide) (by decide) ?_
      refine wp_iload 101 d_Mo_right_99 rfl rfl ?_
      refine wp_iload_n 102 d_Mo_right_101 rfl rfl ?_
      refine wp_if_eq 111 105 d_Mo_right_102 rfl (by decide) (fun h102 => ?_) (fun h102 => ?_)
      · exact absurd h102 (by decide)
      · refine wp_iload 107 d_Mo_right_105 rfl rfl ?_
        refine wp_ineg 108 d_Mo_right_107 rfl ?_
        refine wp_goto 113 d_Mo_right_108 (by decide) ?_
        refine wp_imul 114 d_Mo_right_113 rfl ?_
        refine wp_ireturn d_Mo_right_114 rfl ?_
        refine qI hq ?_; simp [tN_, mN, rN, *]
    by_cases h57_2 : tB (t.fa (t.te l).toNatClampNeg) = 2
    · refine wp_tabIn (off := 58) 115 2 d_Mo_right_57 h57_2 (by decide) (by decide) (by decide) (by decide) ?_
      refine wp_iload 117 d_Mo_right_115 rfl rfl ?_
      refine wp_iload_n 118 d_Mo_right_117 rfl rfl ?_
      refine wp_if_eq 127 121 d_Mo_right_118 rfl (by decide) (fun h118 => ?_) (fun h118 => ?_)
      · exact absurd h118 (by decide)
      · refine wp_iload 123 d_Mo_right_121 rfl rfl ?_
        refine wp_ineg 124 d_Mo_right_123 rfl ?_
        refine wp_goto 130 d_Mo_right_124 (by decide) ?_
        refine wp_imul 131 d_Mo_right_130 rfl ?_
        refine wp_ireturn d_Mo_right_131 rfl ?_
        refine qI hq ?_; simp [tN_, mN, rN, *]
    refine wp_tabOut 132 d_Mo_right_57 (sw_out3 h57_0 h57_1 h57_2) (by decide) ?_
    refine wp_iload 134 d_Mo_right_132 rfl rfl ?_
    refine wp_iload_n 135 d_Mo_right_134 rfl rfl ?_
    refine wp_if_eq 143 138 d_Mo_right_135 rfl (by decide) (fun h135 => ?_) (fun h135 => ?_)
    · exact absurd h135 (by decide)
    · refine wp_iload 140 d_Mo_right_138 rfl rfl ?_
      refine wp_goto 146 d_Mo_right_140 (by decide) ?_
      refine wp_imul 147 d_Mo_right_146 rfl ?_
      refine wp_ireturn d_Mo_right_147 rfl ?_
      refine qI hq ?_; simp [tN_, mN, rN, *]

set_option maxRecDepth 100000 in
set_option maxHeartbeats 4000000 in
theorem c_Mo_yardsOf (V : vT m_at t) {l : Nat} (hl : l < t.nL) (hq : Q (some (.int (yY t l))) (hM m_at m_names m_status m_top m_bottom m_sort m_trayMany m_trays m_tape m_text m_taped m_size m_token m_from m_end m_value m_faultKind m_faultPlace m_faults m_seen m_areOdds m_opened m_depth m_counted m_eastBy m_northBy m_partBy m_wayFaults m_wayEast m_wayNorth m_olds m_wayMany m_oneOfSet m_twoOfSet m_farBy m_rowBy m_triedBy m_rowMany m_doneAt m_gotAt m_struckAt m_bestDeed m_misBy m_drawn m_ranSteps m_loops m_ran m_told1 m_isTold m_marks)) : Call Γ M_Mo_yardsOf 4 0 0 [.ref 0, .int (nI l)] (hM m_at m_names m_status m_top m_bottom m_sort m_trayMany m_trays m_tape m_text m_taped m_size m_token m_from m_end m_value m_faultKind m_faultPlace m_faults m_seen m_areOdds m_opened m_depth m_counted m_eastBy m_northBy m_partBy m_wayFaults m_wayEast m_wayNorth m_olds m_wayMany m_oneOfSet m_twoOfSet m_farBy m_rowBy m_triedBy m_rowMany m_doneAt m_gotAt m_struckAt m_bestDeed m_misBy m_drawn m_ranSteps m_loops m_ran m_told1 m_isTold m_marks) Q := by
  refine call_intro (ls := [some (.ref 0), some (.int (nI l))]) rfl rfl rfl ?_
  refine wp_aload_n 1 d_Mo_yardsOf_0 rfl rfl ?_
  refine wp_iload_n 2 d_Mo_yardsOf_1 rfl rfl ?_
  refine wp_iconst 3 0 d_Mo_yardsOf_2 rfl (by decide) ?_
  refine wp_V2 6 M_Mo_right 3 d_Mo_yardsOf_3 rfl mv_Mo_right lk_Mo_293 rfl rfl rfl rfl rfl ?_
  refine c_right0 V hl ?_
  refine kI ?_
  refine wp_S1 9 M_Mo_plainly 2 d_Mo_yardsOf_6 rfl ms_Mo_plainly lk_Mo_297 rfl rfl ?_
  refine c_Mo_plainly ?_
  refine kI ?_
  refine wp_aload_n 10 d_Mo_yardsOf_9 rfl rfl ?_
  refine wp_iload_n 11 d_Mo_yardsOf_10 rfl rfl ?_
  refine wp_iconst 12 1 d_Mo_yardsOf_11 rfl (by decide) ?_
  refine wp_V2 15 M_Mo_right 3 d_Mo_yardsOf_12 rfl mv_Mo_right lk_Mo_293 rfl rfl rfl rfl rfl ?_
  refine c_right1 V hl ?_
  refine kI ?_
  refine wp_S1 18 M_Mo_plainly 2 d_Mo_yardsOf_15 rfl ms_Mo_plainly lk_Mo_297 rfl rfl ?_
  refine c_Mo_plainly ?_
  refine kI ?_
  refine wp_iadd 19 d_Mo_yardsOf_18 rfl ?_
  refine wp_ireturn d_Mo_yardsOf_19 rfl ?_
  exact hq

set_option maxRecDepth 100000 in
set_option maxHeartbeats 4000000 in
theorem c_Mo_isLying {p : Int32} (hp : vp_in p 7) (hq : Q (some (.int (bP (¬ m_partBy p.toNatClampNeg = -1)))) (hM m_at m_names m_status m_top m_bottom m_sort m_trayMany m_trays m_tape m_text m_taped m_size m_token m_from m_end m_value m_faultKind m_faultPlace m_faults m_seen m_areOdds m_opened m_depth m_counted m_eastBy m_northBy m_partBy m_wayFaults m_wayEast m_wayNorth m_olds m_wayMany m_oneOfSet m_twoOfSet m_farBy m_rowBy m_triedBy m_rowMany m_doneAt m_gotAt m_struckAt m_bestDeed m_misBy m_drawn m_ranSteps m_loops m_ran m_told1 m_isTold m_marks)) : Call Γ M_Mo_isLying 1 0 0 [.ref 0, .int p] (hM m_at m_names m_status m_top m_bottom m_sort m_trayMany m_trays m_tape m_text m_taped m_size m_token m_from m_end m_value m_faultKind m_faultPlace m_faults m_seen m_areOdds m_opened m_depth m_counted m_eastBy m_northBy m_partBy m_wayFaults m_wayEast m_wayNorth m_olds m_wayMany m_oneOfSet m_twoOfSet m_farBy m_rowBy m_triedBy m_rowMany m_doneAt m_gotAt m_struckAt m_bestDeed m_misBy m_drawn m_ranSteps m_loops m_ran m_told1 m_isTold m_marks) Q := by
  refine call_intro (ls := [some (.ref 0), some (.int p)]) rfl rfl rfl ?_
  refine wp_aload_n 1 d_Mo_isLying_0 rfl rfl ?_
  refine wp_getfield 4 12 26 d_Mo_isLying_1 rfl fl_Mo_53 rfl rfl ?_
  refine wp_iload_n 5 d_Mo_isLying_4 rfl rfl ?_
  refine wp_iaload 6 d_Mo_isLying_5 rfl rfl hp ?_
  refine wp_iconst 7 (-1) d_Mo_isLying_6 rfl (by decide) ?_
  refine wp_icmp_eq 14 10 d_Mo_isLying_7 rfl (by decide) (fun h7 => ?_) (fun h7 => ?_)
  · refine wp_iconst 15 0 d_Mo_isLying_14 rfl (by decide) ?_
    refine wp_zreturn d_Mo_isLying_15 rfl (by first | rfl | exact nbP _) ?_
    exact bq0 (fun z => z h7) hq
  · refine wp_iconst 11 1 d_Mo_isLying_10 rfl (by decide) ?_
    refine wp_goto 15 d_Mo_isLying_11 (by decide) ?_
    refine wp_zreturn d_Mo_isLying_15 rfl (by first | rfl | exact nbP _) ?_
    exact bq1 h7 hq

set_option maxRecDepth 100000 in
set_option maxHeartbeats 4000000 in
theorem c_Mo_lays (V : vT m_at t) {l : Nat} (hl : l < t.nL) (hq1 : moP t m_partBy l → Q (some (.int 1)) (hM m_at m_names m_status m_top m_bottom m_sort m_trayMany m_trays m_tape m_text m_taped m_size m_token m_from m_end m_value m_faultKind m_faultPlace m_faults m_seen m_areOdds m_opened m_depth m_counted ((moL t l (m_partBy, m_eastBy, m_northBy)).2.1) ((moL t l (m_partBy, m_eastBy, m_northBy)).2.2) ((moL t l (m_partBy, m_eastBy, m_northBy)).1) m_wayFaults m_wayEast m_wayNorth m_olds m_wayMany m_oneOfSet m_twoOfSet m_farBy m_rowBy m_triedBy m_rowMany m_doneAt m_gotAt m_struckAt m_bestDeed m_misBy m_drawn m_ranSteps m_loops m_ran m_told1 m_isTold m_marks)) (hq0 : ¬ moP t m_partBy l → Q (some (.int 0)) (hM m_at m_names m_status m_top m_bottom m_sort m_trayMany m_trays m_tape m_text m_taped m_size m_token m_from m_end m_value m_faultKind m_faultPlace m_faults m_seen m_areOdds m_opened m_depth m_counted m_eastBy m_northBy m_partBy m_wayFaults m_wayEast m_wayNorth m_olds m_wayMany m_oneOfSet m_twoOfSet m_farBy m_rowBy m_triedBy m_rowMany m_doneAt m_gotAt m_struckAt m_bestDeed m_misBy m_drawn m_ranSteps m_loops m_ran m_told1 m_isTold m_marks)) : Call Γ M_Mo_lays 4 0 0 [.ref 0, .int (nI l)] (hM m_at m_names m_status m_top m_bottom m_sort m_trayMany m_trays m_tape m_text m_taped m_size m_token m_from m_end m_value m_faultKind m_faultPlace m_faults m_seen m_areOdds m_opened m_depth m_counted m_eastBy m_northBy m_partBy m_wayFaults m_wayEast m_wayNorth m_olds m_wayMany m_oneOfSet m_twoOfSet m_farBy m_rowBy m_triedBy m_rowMany m_doneAt m_gotAt m_struckAt m_bestDeed m_misBy m_drawn m_ranSteps m_loops m_ran m_told1 m_isTold m_marks) Q := by
  have hL12 := V.ok.hL
  refine call_intro (ls := [some (.ref 0), some (.int (nI l)), none, none, none, none, none]) rfl rfl rfl ?_
  refine wp_aload_n 1 d_Mo_lays_0 rfl rfl ?_
  refine wp_iload_n 2 d_Mo_lays_1 rfl rfl ?_
  refine wp_iconst 3 1 d_Mo_lays_2 rfl (by decide) ?_
  refine wp_V2 6 M_Mo_legOf 2 d_Mo_lays_3 rfl mv_Mo_legOf lk_Mo_287 rfl rfl rfl rfl rfl ?_
  refine c_leg1 V hl ?_
  refine kI ?_
  refine wp_istore_2 7 d_Mo_lays_6 rfl rfl rfl ?_
  refine wp_aload_n 8 d_Mo_lays_7 rfl rfl ?_
  refine wp_iload_n 9 d_Mo_lays_8 rfl rfl ?_
  refine wp_iconst 10 2 d_Mo_lays_9 rfl (by decide) ?_
  refine wp_V2 13 M_Mo_legOf 2 d_Mo_lays_10 rfl mv_Mo_legOf lk_Mo_287 rfl rfl rfl rfl rfl ?_
  refine c_leg2 V hl ?_
  refine kI ?_
  refine wp_istore_3 14 d_Mo_lays_13 rfl rfl rfl ?_
  refine wp_aload_n 15 d_Mo_lays_14 rfl rfl ?_
  refine wp_iload_n 16 d_Mo_lays_15 rfl rfl ?_
  refine wp_V1 19 M_Mo_counts 2 d_Mo_lays_16 rfl mv_Mo_counts lk_Mo_300 rfl rfl rfl rfl rfl ?_
  refine c_Mo_counts V ?_
  refine kI ?_
  (first | refine wp_ifP_eq 35 22 d_Mo_lays_19 rfl (by decide) (fun h19 => ?_) (fun h19 => ?_) | refine wp_if_eq 35 22 d_Mo_lays_19 rfl (by decide) (fun h19 => ?_) (fun h19 => ?_))
  · refine wp_iconst 36 0 d_Mo_lays_35 rfl (by decide) ?_
    refine wp_zreturn d_Mo_lays_36 rfl (by first | rfl | exact nbP _) ?_
    exact hq0 (fun z => h19 ⟨(nI_ltI (by omega) (by omega)).mpr hl, (hs_th V.ok.hL hl).mp z.1⟩)
  · refine wp_aload_n 23 d_Mo_lays_22 rfl rfl ?_
    refine wp_iload_n 24 d_Mo_lays_23 rfl rfl ?_
    refine wp_V1 27 M_Mo_isLying 1 d_Mo_lays_24 rfl mv_Mo_isLying lk_Mo_303 rfl rfl rfl rfl rfl ?_
    refine c_Mo_isLying (V.ok.fr l) ?_
    refine kI ?_
    refine wp_aload_n 28 d_Mo_lays_27 rfl rfl ?_
    refine wp_iload_n 29 d_Mo_lays_28 rfl rfl ?_
    refine wp_V1 32 M_Mo_isLying 1 d_Mo_lays_29 rfl mv_Mo_isLying lk_Mo_303 rfl rfl rfl rfl rfl ?_
    refine c_Mo_isLying (V.ok.to_ l) ?_
    refine kI ?_
    refine wp_icmp_ne 37 35 d_Mo_lays_32 rfl (by decide) (fun h32 => ?_) (fun h32 => ?_)
    · refine wp_aload_n 38 d_Mo_lays_37 rfl rfl ?_
      refine wp_iload_n 39 d_Mo_lays_38 rfl rfl ?_
      refine wp_V1 42 M_Mo_isLying 1 d_Mo_lays_39 rfl mv_Mo_isLying lk_Mo_303 rfl rfl rfl rfl rfl ?_
      refine c_Mo_isLying (V.ok.fr l) ?_
      refine kI ?_
      (first | refine wp_ifP_eq 49 45 d_Mo_lays_42 rfl (by decide) (fun h42 => ?_) (fun h42 => ?_) | refine wp_if_eq 49 45 d_Mo_lays_42 rfl (by decide) (fun h42 => ?_) (fun h42 => ?_))
      · refine wp_iload_n 50 d_Mo_lays_49 rfl rfl ?_
        refine wp_istore_4 52 d_Mo_lays_50 rfl rfl rfl ?_
        refine wp_aload_n 53 d_Mo_lays_52 rfl rfl ?_
        refine wp_iload_n 54 d_Mo_lays_53 rfl rfl ?_
        refine wp_V1 57 M_Mo_isLying 1 d_Mo_lays_54 rfl mv_Mo_isLying lk_Mo_303 rfl rfl rfl rfl rfl ?_
        refine c_Mo_isLying (V.ok.fr l) ?_
        refine kI ?_
        (first | refine wp_ifP_eq 64 60 d_Mo_lays_57 rfl (by decide) (fun h57 => ?_) (fun h57 => ?_) | refine wp_if_eq 64 60 d_Mo_lays_57 rfl (by decide) (fun h57 => ?_) (fun h57 => ?_))
        · refine wp_iload_n 65 d_Mo_lays_64 rfl rfl ?_
          refine wp_istore_5 67 d_Mo_lays_65 rfl rfl rfl ?_
          refine wp_aload_n 68 d_Mo_lays_67 rfl rfl ?_
          refine wp_iload_n 69 d_Mo_lays_68 rfl rfl ?_
          refine wp_V1 72 M_Mo_isLying 1 d_Mo_lays_69 rfl mv_Mo_isLying lk_Mo_303 rfl rfl rfl rfl rfl ?_
          refine c_Mo_isLying (V.ok.fr l) ?_
          refine kI ?_
          (first | refine wp_ifP_eq 79 75 d_Mo_lays_72 rfl (by decide) (fun h72 => ?_) (fun h72 => ?_) | refine wp_if_eq 79 75 d_Mo_lays_72 rfl (by decide) (fun h72 => ?_) (fun h72 => ?_))
          · refine wp_iconst 80 (-1) d_Mo_lays_79 rfl (by decide) ?_
            refine wp_istore_6 82 d_Mo_lays_80 rfl rfl rfl ?_
            refine wp_aload_n 83 d_Mo_lays_82 rfl rfl ?_
            refine wp_getfield 86 12 26 d_Mo_lays_83 rfl fl_Mo_53 rfl rfl ?_
            refine wp_iload 88 d_Mo_lays_86 rfl rfl ?_
            refine wp_aload_n 89 d_Mo_lays_88 rfl rfl ?_
            refine wp_getfield 92 12 26 d_Mo_lays_89 rfl fl_Mo_53 rfl rfl ?_
            refine wp_iload 94 d_Mo_lays_92 rfl rfl ?_
            refine wp_iaload 95 d_Mo_lays_94 rfl rfl (by first | exact V.ok.fr l | exact V.ok.to_ l) ?_
            refine wp_iastore 96 d_Mo_lays_95 rfl rfl (by first | exact V.ok.fr l | exact V.ok.to_ l) ?_
            refine hEq (hM m_at m_names m_status m_top m_bottom m_sort m_trayMany m_trays m_tape m_text m_taped m_size m_token m_from m_end m_value m_faultKind m_faultPlace m_faults m_seen m_areOdds m_opened m_depth m_counted m_eastBy m_northBy (upd m_partBy (t.fr l).toNatClampNeg (m_partBy (t.to_ l).toNatClampNeg)) m_wayFaults m_wayEast m_wayNorth m_olds m_wayMany m_oneOfSet m_twoOfSet m_farBy m_rowBy m_triedBy m_rowMany m_doneAt m_gotAt m_struckAt m_bestDeed m_misBy m_drawn m_ranSteps m_loops m_ran m_told1 m_isTold m_marks) rfl ?_
            refine wp_aload_n 97 d_Mo_lays_96 rfl rfl ?_
            refine wp_getfield 100 12 24 d_Mo_lays_97 rfl fl_Mo_47 rfl rfl ?_
            refine wp_iload 102 d_Mo_lays_100 rfl rfl ?_
            refine wp_aload_n 103 d_Mo_lays_102 rfl rfl ?_
            refine wp_getfield 106 12 24 d_Mo_lays_103 rfl fl_Mo_47 rfl rfl ?_
            refine wp_iload 108 d_Mo_lays_106 rfl rfl ?_
            refine wp_iaload 109 d_Mo_lays_108 rfl rfl (by first | exact V.ok.fr l | exact V.ok.to_ l) ?_
            refine wp_iload 111 d_Mo_lays_109 rfl rfl ?_
            refine wp_aload_n 112 d_Mo_lays_111 rfl rfl ?_
            refine wp_iload_n 113 d_Mo_lays_112 rfl rfl ?_
            refine wp_iconst 114 0 d_Mo_lays_113 rfl (by decide) ?_
            refine wp_V2 117 M_Mo_right 3 d_Mo_lays_114 rfl mv_Mo_right lk_Mo_293 rfl rfl rfl rfl rfl ?_
            refine c_right0 V hl ?_
            refine kI ?_
            refine wp_imul 118 d_Mo_lays_117 rfl ?_
            refine wp_iadd 119 d_Mo_lays_118 rfl ?_
            refine wp_iastore 120 d_Mo_lays_119 rfl rfl (by first | exact V.ok.fr l | exact V.ok.to_ l) ?_
            refine hEq (hM m_at m_names m_status m_top m_bottom m_sort m_trayMany m_trays m_tape m_text m_taped m_size m_token m_from m_end m_value m_faultKind m_faultPlace m_faults m_seen m_areOdds m_opened m_depth m_counted (upd m_eastBy (t.fr l).toNatClampNeg (m_eastBy (t.to_ l).toNatClampNeg + -1 * tE_ t l)) m_northBy (upd m_partBy (t.fr l).toNatClampNeg (m_partBy (t.to_ l).toNatClampNeg)) m_wayFaults m_wayEast m_wayNorth m_olds m_wayMany m_oneOfSet m_twoOfSet m_farBy m_rowBy m_triedBy m_rowMany m_doneAt m_gotAt m_struckAt m_bestDeed m_misBy m_drawn m_ranSteps m_loops m_ran m_told1 m_isTold m_marks) rfl ?_
            refine wp_aload_n 121 d_Mo_lays_120 rfl rfl ?_
            refine wp_getfield 124 12 25 d_Mo_lays_121 rfl fl_Mo_50 rfl rfl ?_
            refine wp_iload 126 d_Mo_lays_124 rfl rfl ?_
            refine wp_aload_n 127 d_Mo_lays_126 rfl rfl ?_
            refine wp_getfield 130 12 25 d_Mo_lays_127 rfl fl_Mo_50 rfl rfl ?_
            refine wp_iload 132 d_Mo_lays_130 rfl rfl ?_
            refine wp_iaload 133 d_Mo_lays_132 rfl rfl (by first | exact V.ok.fr l | exact V.ok.to_ l) ?_
            refine wp_iload 135 d_Mo_lays_133 rfl rfl ?_
            refine wp_aload_n 136 d_Mo_lays_135 rfl rfl ?_
            refine wp_iload_n 137 d_Mo_lays_136 rfl rfl ?_
            refine wp_iconst 138 1 d_Mo_lays_137 rfl (by decide) ?_
            refine wp_V2 141 M_Mo_right 3 d_Mo_lays_138 rfl mv_Mo_right lk_Mo_293 rfl rfl rfl rfl rfl ?_
            refine c_right1 V hl ?_
            refine kI ?_
            refine wp_imul 142 d_Mo_lays_141 rfl ?_
            refine wp_iadd 143 d_Mo_lays_142 rfl ?_
            refine wp_iastore 144 d_Mo_lays_143 rfl rfl (by first | exact V.ok.fr l | exact V.ok.to_ l) ?_
            refine hEq (hM m_at m_names m_status m_top m_bottom m_sort m_trayMany m_trays m_tape m_text m_taped m_size m_token m_from m_end m_value m_faultKind m_faultPlace m_faults m_seen m_areOdds m_opened m_depth m_counted (upd m_eastBy (t.fr l).toNatClampNeg (m_eastBy (t.to_ l).toNatClampNeg + -1 * tE_ t l)) (upd m_northBy (t.fr l).toNatClampNeg (m_northBy (t.to_ l).toNatClampNeg + -1 * tN_ t l)) (upd m_partBy (t.fr l).toNatClampNeg (m_partBy (t.to_ l).toNatClampNeg)) m_wayFaults m_wayEast m_wayNorth m_olds m_wayMany m_oneOfSet m_twoOfSet m_farBy m_rowBy m_triedBy m_rowMany m_doneAt m_gotAt m_struckAt m_bestDeed m_misBy m_drawn m_ranSteps m_loops m_ran m_told1 m_isTold m_marks) rfl ?_
            refine wp_iconst 145 1 d_Mo_lays_144 rfl (by decide) ?_
            refine wp_zreturn d_Mo_lays_145 rfl (by first | rfl | exact nbP _) ?_
            have hp : moP t m_partBy l := ⟨(hs_th V.ok.hL hl).mpr h19.2, fun z => h32 (bP_inj.mpr (nn_iff.mpr z))⟩
            have h9 := hq1 hp
            have e : moL t l (m_partBy, m_eastBy, m_northBy) = _ := if_pos (Decidable.of_not_not h42)
            rw [e] at h9
            exact h9
          · exact absurd h72 h42
        · exact absurd h57 h42
      · refine wp_iload_n 46 d_Mo_lays_45 rfl rfl ?_
        refine wp_goto 50 d_Mo_lays_46 (by decide) ?_
        refine wp_istore_4 52 d_Mo_lays_50 rfl rfl rfl ?_
        refine wp_aload_n 53 d_Mo_lays_52 rfl rfl ?_
        refine wp_iload_n 54 d_Mo_lays_53 rfl rfl ?_
        refine wp_V1 57 M_Mo_isLying 1 d_Mo_lays_54 rfl mv_Mo_isLying lk_Mo_303 rfl rfl rfl rfl rfl ?_
        refine c_Mo_isLying (V.ok.fr l) ?_
        refine kI ?_
        (first | refine wp_ifP_eq 64 60 d_Mo_lays_57 rfl (by decide) (fun h57 => ?_) (fun h57 => ?_) | refine wp_if_eq 64 60 d_Mo_lays_57 rfl (by decide) (fun h57 => ?_) (fun h57 => ?_))
        · exact absurd h42 h57
        · refine wp_iload_n 61 d_Mo_lays_60 rfl rfl ?_
          refine wp_goto 65 d_Mo_lays_61 (by decide) ?_
          refine wp_istore_5 67 d_Mo_lays_65 rfl rfl rfl ?_
          refine wp_aload_n 68 d_Mo_lays_67 rfl rfl ?_
          refine wp_iload_n 69 d_Mo_lays_68 rfl rfl ?_
          refine wp_V1 72 M_Mo_isLying 1 d_Mo_lays_69 rfl mv_Mo_isLying lk_Mo_303 rfl rfl rfl rfl rfl ?_
          refine c_Mo_isLying (V.ok.fr l) ?_
          refine kI ?_
          (first | refine wp_ifP_eq 79 75 d_Mo_lays_72 rfl (by decide) (fun h72 => ?_) (fun h72 => ?_) | refine wp_if_eq 79 75 d_Mo_lays_72 rfl (by decide) (fun h72 => ?_) (fun h72 => ?_))
          · exact absurd h42 h72
          · refine wp_iconst 76 1 d_Mo_lays_75 rfl (by decide) ?_
            refine wp_goto 80 d_Mo_lays_76 (by decide) ?_
            refine wp_istore_6 82 d_Mo_lays_80 rfl rfl rfl ?_
            refine wp_aload_n 83 d_Mo_lays_82 rfl rfl ?_
            refine wp_getfield 86 12 26 d_Mo_lays_83 rfl fl_Mo_53 rfl rfl ?_
            refine wp_iload 88 d_Mo_lays_86 rfl rfl ?_
            refine wp_aload_n 89 d_Mo_lays_88 rfl rfl ?_
            refine wp_getfield 92 12 26 d_Mo_lays_89 rfl fl_Mo_53 rfl rfl ?_
            refine wp_iload 94 d_Mo_lays_92 rfl rfl ?_
            refine wp_iaload 95 d_Mo_lays_94 rfl rfl (by first | exact V.ok.fr l | exact V.ok.to_ l) ?_
            refine wp_iastore 96 d_Mo_lays_95 rfl rfl (by first | exact V.ok.fr l | exact V.ok.to_ l) ?_
            refine hEq (hM m_at m_names m_status m_top m_bottom m_sort m_trayMany m_trays m_tape m_text m_taped m_size m_token m_from m_end m_value m_faultKind m_faultPlace m_faults m_seen m_areOdds m_opened m_depth m_counted m_eastBy m_northBy (upd m_partBy (t.to_ l).toNatClampNeg (m_partBy (t.fr l).toNatClampNeg)) m_wayFaults m_wayEast m_wayNorth m_olds m_wayMany m_oneOfSet m_twoOfSet m_farBy m_rowBy m_triedBy m_rowMany m_doneAt m_gotAt m_struckAt m_bestDeed m_misBy m_drawn m_ranSteps m_loops m_ran m_told1 m_isTold m_marks) rfl ?_
            refine wp_aload_n 97 d_Mo_lays_96 rfl rfl ?_
            refine wp_getfield 100 12 24 d_Mo_lays_97 rfl fl_Mo_47 rfl rfl ?_
            refine wp_iload 102 d_Mo_lays_100 rfl rfl ?_
            refine wp_aload_n 103 d_Mo_lays_102 rfl rfl ?_
            refine wp_getfield 106 12 24 d_Mo_lays_103 rfl fl_Mo_47 rfl rfl ?_
            refine wp_iload 108 d_Mo_lays_106 rfl rfl ?_
            refine wp_iaload 109 d_Mo_lays_108 rfl rfl (by first | exact V.ok.fr l | exact V.ok.to_ l) ?_
            refine wp_iload 111 d_Mo_lays_109 rfl rfl ?_
            refine wp_aload_n 112 d_Mo_lays_111 rfl rfl ?_
            refine wp_iload_n 113 d_Mo_lays_112 rfl rfl ?_
            refine wp_iconst 114 0 d_Mo_lays_113 rfl (by decide) ?_
            refine wp_V2 117 M_Mo_right 3 d_Mo_lays_114 rfl mv_Mo_right lk_Mo_293 rfl rfl rfl rfl rfl ?_
            refine c_right0 V hl ?_
            refine kI ?_
            refine wp_imul 118 d_Mo_lays_117 rfl ?_
            refine wp_iadd 119 d_Mo_lays_118 rfl ?_
            refine wp_iastore 120 d_Mo_lays_119 rfl rfl (by first | exact V.ok.fr l | exact V.ok.to_ l) ?_
            refine hEq (hM m_at m_names m_status m_top m_bottom m_sort m_trayMany m_trays m_tape m_text m_taped m_size m_token m_from m_end m_value m_faultKind m_faultPlace m_faults m_seen m_areOdds m_opened m_depth m_counted (upd m_eastBy (t.to_ l).toNatClampNeg (m_eastBy (t.fr l).toNatClampNeg + 1 * tE_ t l)) m_northBy (upd m_partBy (t.to_ l).toNatClampNeg (m_partBy (t.fr l).toNatClampNeg)) m_wayFaults m_wayEast m_wayNorth m_olds m_wayMany m_oneOfSet m_twoOfSet m_farBy m_rowBy m_triedBy m_rowMany m_doneAt m_gotAt m_struckAt m_bestDeed m_misBy m_drawn m_ranSteps m_loops m_ran m_told1 m_isTold m_marks) rfl ?_
            refine wp_aload_n 121 d_Mo_lays_120 rfl rfl ?_
            refine wp_getfield 124 12 25 d_Mo_lays_121 rfl fl_Mo_50 rfl rfl ?_
            refine wp_iload 126 d_Mo_lays_124 rfl rfl ?_
            refine wp_aload_n 127 d_Mo_lays_126 rfl rfl ?_
            refine wp_getfield 130 12 25 d_Mo_lays_127 rfl fl_Mo_50 rfl rfl ?_
            refine wp_iload 132 d_Mo_lays_130 rfl rfl ?_
            refine wp_iaload 133 d_Mo_lays_132 rfl rfl (by first | exact V.ok.fr l | exact V.ok.to_ l) ?_
            refine wp_iload 135 d_Mo_lays_133 rfl rfl ?_
            refine wp_aload_n 136 d_Mo_lays_135 rfl rfl ?_
            refine wp_iload_n 137 d_Mo_lays_136 rfl rfl ?_
            refine wp_iconst 138 1 d_Mo_lays_137 rfl (by decide) ?_
            refine wp_V2 141 M_Mo_right 3 d_Mo_lays_138 rfl mv_Mo_right lk_Mo_293 rfl rfl rfl rfl rfl ?_
            refine c_right1 V hl ?_
            refine kI ?_
            refine wp_imul 142 d_Mo_lays_141 rfl ?_
            refine wp_iadd 143 d_Mo_lays_142 rfl ?_
            refine wp_iastore 144 d_Mo_lays_143 rfl rfl (by first | exact V.ok.fr l | exact V.ok.to_ l) ?_
            refine hEq (hM m_at m_names m_status m_top m_bottom m_sort m_trayMany m_trays m_tape m_text m_taped m_size m_token m_from m_end m_value m_faultKind m_faultPlace m_faults m_seen m_areOdds m_opened m_depth m_counted (upd m_eastBy (t.to_ l).toNatClampNeg (m_eastBy (t.fr l).toNatClampNeg + 1 * tE_ t l)) (upd m_northBy (t.to_ l).toNatClampNeg (m_northBy (t.fr l).toNatClampNeg + 1 * tN_ t l)) (upd m_partBy (t.to_ l).toNatClampNeg (m_partBy (t.fr l).toNatClampNeg)) m_wayFaults m_wayEast m_wayNorth m_olds m_wayMany m_oneOfSet m_twoOfSet m_farBy m_rowBy m_triedBy m_rowMany m_doneAt m_gotAt m_struckAt m_bestDeed m_misBy m_drawn m_ranSteps m_loops m_ran m_told1 m_isTold m_marks) rfl ?_
            refine wp_iconst 145 1 d_Mo_lays_144 rfl (by decide) ?_
            refine wp_zreturn d_Mo_lays_145 rfl (by first | rfl | exact nbP _) ?_
            have hp : moP t m_partBy l := ⟨(hs_th V.ok.hL hl).mpr h19.2, fun z => h32 (bP_inj.mpr (nn_iff.mpr z))⟩
            have h9 := hq1 hp
            have e : moL t l (m_partBy, m_eastBy, m_northBy) = _ := if_neg h42
            rw [e] at h9
            exact h9
    · refine wp_iconst 36 0 d_Mo_lays_35 rfl (by decide) ?_
      refine wp_zreturn d_Mo_lays_36 rfl (by first | rfl | exact nbP _) ?_
      exact hq0 (fun z => z.2 (nn_iff.mp (bP_inj.mp h32)))

end T71
