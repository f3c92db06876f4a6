/-! ===== the reference: what lies, in the class's words ===== -/
theorem hs_0 {k : Nat} (hk : k < 32) : ¬ hs 0 (nI k) := by
  rw [hs_bv hk]; simp
theorem hs_iorr {p : Nat → Prop} [DecidablePred p] : ∀ {n k : Nat}, n ≤ 32 → k < 32 → (hs (iorr (fun l => if p l then bit (nI l) else 0) n) (nI k) ↔ k < n ∧ p k)
  | 0, k, _, hk => ⟨fun z => absurd z (hs_0 hk), fun z => absurd z.1 (Nat.not_lt_zero k)⟩
  | n + 1, k, hn, hk => by
    simp only [iorr]
    rw [hs_or hk, hs_iorr (by omega) hk]
    by_cases hp : p n
    · rw [if_pos hp, hs_bit (by omega) hk]
      constructor
      · rintro (⟨a, b⟩ | a)
        · exact ⟨by omega, b⟩
        · rw [a]; exact ⟨by omega, hp⟩
      · rintro ⟨a, b⟩
        by_cases e : k = n
        · exact Or.inr e
        · exact Or.inl ⟨by omega, b⟩
    · rw [if_neg hp]
      constructor
      · rintro (⟨a, b⟩ | a)
        · exact ⟨by omega, b⟩
        · exact absurd a (hs_0 hk)
      · rintro ⟨a, b⟩
        by_cases e : k = n
        · rw [e] at b; exact absurd b hp
        · exact Or.inl ⟨by omega, b⟩
theorem iorr_0 {p : Nat → Prop} [DecidablePred p] {n : Nat} (hn : n ≤ 32) : iorr (fun l => if p l then bit (nI l) else 0) n = 0 ↔ ∀ l, l < n → ¬ p l := by
  constructor
  · intro z l hl hp
    have := (hs_iorr (p := p) hn (by omega : l < 32)).mpr ⟨hl, hp⟩
    rw [z] at this
    exact hs_0 (by omega) this
  · intro h
    have e : ∀ m, m ≤ n → iorr (fun l => if p l then bit (nI l) else 0) m = 0 := by
      intro m
      induction m with
      | zero => intro _; rfl
      | succ m ih =>
        intro hm
        simp only [iorr]
        rw [ih (by omega), if_neg (h m (by omega))]; rfl
    exact e n (Nat.le_refl _)
theorem moC_th {t : TW} (I : tOK t) {l : Nat} (hl : l < t.nL) : (nI l < nI t.nL ∧ ¬ hs t.sk (nI l)) ↔ hs (tTh t) (nI l) := by
  have hL := I.hL
  have h := hs_th (sk := t.sk) hL hl
  exact ⟨fun z => h.mpr z.2, fun z => ⟨(nI_ltI (by omega) (by omega)).mpr hl, h.mp z⟩⟩
theorem un7 {t : TW} (I : tOK t) (l : Nat) : (t.fr l).toNatClampNeg < 7 ∧ (t.to_ l).toNatClampNeg < 7 := ⟨Nat.not_le.mp fun q => I.fr l (Or.inr q), Nat.not_le.mp fun q => I.to_ l (Or.inr q)⟩
theorem iorr_if {p q : Nat → Prop} [DecidablePred p] [DecidablePred q] {n : Nat} (h : ∀ l, l < n → (p l ↔ q l)) : iorr (fun l => if p l then bit (nI l) else 0) n = iorr (fun l => if q l then bit (nI l) else 0) n := iorr_congr (fun l hl => by
  by_cases z : p l
  · rw [if_pos z, if_pos ((h l hl).mp z)]
  · rw [if_neg z, if_neg (fun y => z ((h l hl).mpr y))])
theorem isum_if {p q : Nat → Prop} [DecidablePred p] [DecidablePred q] {n : Nat} (h : ∀ l, l < n → (p l ↔ q l)) : isum (fun l => if p l then 1 else 0) n = isum (fun l => if q l then 1 else 0) n := isum_congr (fun l hl => by
  by_cases z : p l
  · rw [if_pos z, if_pos ((h l hl).mp z)]
  · rw [if_neg z, if_neg (fun y => z ((h l hl).mpr y))])
theorem mv_M {t : TW} (I : tOK t) (J : tIn t) {s : MS} (h : chM t s) {l : Nat} (hl : l < t.nL) : mvS t s l = tMs t l := by
  obtain ⟨f, g⟩ := frP I J hl
  unfold mvS tMs misC misV
  rw [(h.2.2.1 _ f).1, (h.2.2.1 _ f).2, (h.2.2.1 _ g).1, (h.2.2.1 _ g).2]
  rfl
theorem clo_M {t : TW} (I : tOK t) (J : tIn t) {s : MS} (h : chM t s) : moMi t s = 0 ↔ tClo t := by
  have hL := I.hL
  unfold moMi
  rw [iorr_0 (by omega)]
  refine forall_congr' fun l => ?_
  refine forall_congr' fun hl => ?_
  have e : moM t s l ↔ (hs (tTh t) (nI l) ∧ 0 < misC (tE_ t) (tN_ t) (tTh t) t.fr t.to_ t.nL t.nP l) := by
    unfold moM
    rw [moC_th I hl, mv_M I J h hl]
    have := (frP I J hl).1
    exact ⟨fun z => ⟨z.1, z.2.2⟩, fun z => ⟨z.1, fun y => by have := (h.2.1 _ (un7 I l).1).mp y; omega, z.2⟩⟩
  exact ⟨fun z y => z (e.mpr y), fun z y => z (e.mp y)⟩
theorem lp_O {t : TW} {s : MS} (h : chO t s) {j : Nat} (hj : j < 7) : ¬ s.1 j = -1 ↔ tLp t j := by
  rw [h.1 j hj]
  by_cases z : tLp t j
  · rw [if_pos z]; exact ⟨fun _ => z, fun _ => by decide⟩
  · rw [if_neg z]; exact ⟨fun y => absurd rfl y, fun y => absurd y z⟩
theorem li_O {t : TW} (I : tOK t) {s : MS} (h : chO t s) : moLi t s = tLi t := by
  have hP := I.hP
  unfold moLi tLi liSC
  exact iorr_if (q := fun p => tLp t p) (fun p hp => lp_O h (by omega))
theorem vp_inR {x : Int32} {n : Nat} (h : vp_in x n) (hn : n < 2 ^ 31) : inR x (nI n) := by
  obtain ⟨i, hi, rfl⟩ := vp_in_of h hn
  exact inR_N hi hn
theorem liP_L {t : TW} (I : tOK t) {x : Int32} (hx : vp_in x 7) : liP (tPo t).1 x ↔ tLp t x.toNatClampNeg := ⟨fun z => z.2, fun z => ⟨vp_inR (n := 7) hx (by omega), z⟩⟩
theorem can_O {t : TW} (I : tOK t) {s : MS} (h : chO t s) {l : Nat} (hl : l < t.nL) : canM (tPo t).1 t.fr t.to_ (tTh t) l ↔ (hs (tTh t) (nI l) ∧ ¬ s.1 (t.fr l).toNatClampNeg = -1) := by
  obtain ⟨f, g⟩ := un7 I l
  rw [show canM (tPo t).1 t.fr t.to_ (tTh t) l = (hs (tTh t) (nI l) ∧ liP (tPo t).1 (t.fr l) ∧ liP (tPo t).1 (t.to_ l)) from rfl, liP_L I (I.fr l), liP_L I (I.to_ l), lp_O h f]
  refine ⟨fun z => ⟨z.1, z.2.1⟩, fun z => ⟨z.1, z.2, ?_⟩⟩
  have hno := ffind_neg (k := 0) (by have := I.hL; omega) h.2.2 l (by omega) (by omega)
  exact (lp_O h g).mp fun y => hno ⟨z.1, fun q => ((lp_O h f).mpr z.2) (q.mpr y)⟩
theorem mv_O {t : TW} (I : tOK t) {s : MS} (h : chO t s) {l : Nat} (hl : l < t.nL) (hc : canM (tPo t).1 t.fr t.to_ (tTh t) l) : mvS t s l = tMs t l := by
  obtain ⟨f, g⟩ := un7 I l
  have a := (h.2.1 _ f ((liP_L I (I.fr l)).mp hc.2.1)).2
  have b := (h.2.1 _ g ((liP_L I (I.to_ l)).mp hc.2.2)).2
  unfold mvS tMs misC misV
  rw [a.1, a.2, b.1, b.2]
  rfl
theorem mi_O {t : TW} (I : tOK t) {s : MS} (h : chO t s) : moMi t s = tMi t := by
  unfold moMi tMi misSC
  refine iorr_if (fun l hl => ?_)
  unfold moM
  rw [moC_th I hl]
  constructor
  · rintro ⟨a, b, c⟩
    have hc := (can_O I h hl).mpr ⟨a, b⟩
    exact ⟨hc, by rw [mv_O I h hl hc] at c; exact c⟩
  · rintro ⟨a, c⟩
    have hc := (can_O I h hl).mp a
    exact ⟨hc.1, hc.2, by rw [mv_O I h hl a]; exact c⟩
theorem cnP_sum {pb : Nat → Int32} : ∀ n, n < 2 ^ 31 → isum (fun p => if pb p = nI p then 1 else 0) n = nI (cnP pb n)
  | 0, _ => rfl
  | n + 1, h => by
    simp only [isum, cnP]
    rw [cnP_sum n (by omega)]
    split
    · exact nI_add _ 1
    · rw [add_0]; rfl
theorem cnP_lo {pb : Nat → Int32} {m : Nat} : ∀ n, m ≤ n → (∀ j, m ≤ j → j < n → ¬ pb j = nI j) → cnP pb n = cnP pb m
  | 0, h, _ => by rw [show m = 0 by omega]
  | n + 1, h, hn => by
    by_cases e : m = n + 1
    · rw [e]
    · simp only [cnP]
      rw [cnP_lo n (by omega) (fun j a b => hn j a (by omega)), if_neg (hn n (by omega) (by omega)), Nat.add_zero]
theorem pa_M {t : TW} (I : tOK t) {s : MS} (h : chM t s) : moPa t s = nI (tPo t).2.2.2.2.1 := by
  have hP := I.hP
  unfold moPa
  rw [cnP_sum t.nP (by omega), h.2.2.2.2.1, cnP_lo (pb := s.1) (m := t.nP) 7 hP (fun j a b z => by rw [(h.2.1 j b).mpr a] at z; exact nI_ne1 (by omega) z.symm)]
theorem bc_12a : ∀ a, a < 64 → ∀ b, b < 64 → bcR (nI (64 * a + b)) = isum (fun l => if hs (nI (64 * a + b)) (nI l) then 1 else 0) 12 := by decide +kernel
theorem bc_12 {x : Int32} (h : vp_in x 4096) : bcR x = isum (fun l => if hs x (nI l) then 1 else 0) 12 := by
  obtain ⟨i, hi, rfl⟩ := vp_in_of h (by omega)
  have h := bc_12a (i / 64) (by omega) (i % 64) (by omega)
  rw [show 64 * (i / 64) + i % 64 = i by omega] at h
  exact h
theorem isum_lo {f : Nat → Int32} {m : Nat} : ∀ n, m ≤ n → (∀ j, m ≤ j → j < n → f j = 0) → isum f n = isum f m
  | 0, h, _ => by rw [show m = 0 by omega]
  | n + 1, h, hn => by
    by_cases e : m = n + 1
    · rw [e]
    · simp only [isum]
      rw [isum_lo n (by omega) (fun j a b => hn j a (by omega)), hn n (by omega) (by omega), add_0]
theorem th_hi {t : TW} (I : tOK t) {k : Nat} (hk : k < 32) (h : t.nL ≤ k) : ¬ hs (tTh t) (nI k) := by
  intro z
  unfold tTh lTh at z
  rw [hs_and hk, hs_low I.hL hk] at z
  omega
theorem th_bc {t : TW} (I : tOK t) : moTh t = bcR (tTh t) := by
  rw [bc_12 (tTh_in I)]
  have h1 := isum_lo (f := fun l => if hs (tTh t) (nI l) then (1 : Int32) else 0) (m := t.nL) 12 I.hL (fun j a b => if_neg (th_hi I (by omega) a))
  rw [h1]
  exact isum_if (fun l hl => moC_th I hl)
section T75
variable {Γ : Gm} {Q : Option Value → LH → Prop} {m_at m_sort m_trayMany m_tape m_text m_opened m_eastBy m_northBy m_partBy m_wayFaults m_wayEast m_wayNorth m_olds m_farBy m_rowBy m_triedBy m_doneAt m_gotAt m_struckAt m_bestDeed m_loops m_ran m_told1 : Nat → Int32} {m_names m_trays m_misBy : Nat → Int64} {m_status m_taped m_size m_token m_from m_end m_value m_faultKind m_faultPlace m_faults m_seen m_areOdds m_depth m_counted m_wayMany m_oneOfSet m_twoOfSet m_rowMany m_drawn m_ranSteps m_isTold m_marks : Int32} {m_top m_bottom : Int64} {t : TW}
set_option maxRecDepth 100000 in
set_option maxHeartbeats 4000000 in
theorem l_Mo_lying_9 (V : vT m_at t) (hn : t.nP ≤ 7) : ∀ (r i : Nat) , i + r = t.nP → Q (some (.int (iorr (fun p => if ¬ (m_partBy, m_eastBy, m_northBy).1 p = -1 then bit (nI p) else 0) t.nP))) (hM m_at m_names m_status m_top m_bottom m_sort m_trayMany m_trays m_tape m_text m_taped m_size m_token m_from m_end m_value m_faultKind m_faultPlace m_faults m_seen m_areOdds m_opened m_depth m_counted m_eastBy m_northBy m_partBy m_wayFaults m_wayEast m_wayNorth m_olds m_wayMany m_oneOfSet m_twoOfSet m_farBy m_rowBy m_triedBy m_rowMany m_doneAt m_gotAt m_struckAt m_bestDeed m_misBy m_drawn m_ranSteps m_loops m_ran m_told1 m_isTold m_marks) → WP Γ M_Mo_lying 7 0 0 (hM m_at m_names m_status m_top m_bottom m_sort m_trayMany m_trays m_tape m_text m_taped m_size m_token m_from m_end m_value m_faultKind m_faultPlace m_faults m_seen m_areOdds m_opened m_depth m_counted m_eastBy m_northBy m_partBy m_wayFaults m_wayEast m_wayNorth m_olds m_wayMany m_oneOfSet m_twoOfSet m_farBy m_rowBy m_triedBy m_rowMany m_doneAt m_gotAt m_struckAt m_bestDeed m_misBy m_drawn m_ranSteps m_loops m_ran m_told1 m_isTold m_marks) 9 [some (.ref 0), some (.int (iorr (fun p => if ¬ (m_partBy, m_eastBy, m_northBy).1 p = -1 then bit (nI p) else 0) i)), some (.int (nI i))] [] Q := by
  intro r
  induction r with
  | zero =>
    intro i  hi hinv
    have hq := hinv
    refine wp_iload_n 10 d_Mo_lying_9 rfl rfl ?_
    refine wp_aload_n 11 d_Mo_lying_10 rfl rfl ?_
    refine wp_getfield 14 12 0 d_Mo_lying_11 rfl fl_Mo_7 rfl rfl ?_
    refine wp_iconst 15 0 d_Mo_lying_14 rfl (by decide) ?_
    refine wp_iaload 16 d_Mo_lying_15 rfl rfl (vp_in_nI (n := 0) (N := 2332) (by omega) (by omega)) ?_
    rw [show m_at (0 : Int32).toNatClampNeg = nI t.nP from V.P]
    refine wp_icmp_ge 43 19 d_Mo_lying_16 rfl (by decide) (fun h16 => ?_) (fun h16 => ?_)
    · refine wp_iload_n 44 d_Mo_lying_43 rfl rfl ?_
      refine wp_ireturn d_Mo_lying_44 rfl ?_
      have e : i = t.nP := by omega
      subst e
      exact hq
    · exact absurd ((nI_leI (a := t.nP) (by omega) (by omega)).mpr (by omega)) h16
  | succ r ih =>
    intro i  hi hinv
    have hq := hinv
    refine wp_iload_n 10 d_Mo_lying_9 rfl rfl ?_
    refine wp_aload_n 11 d_Mo_lying_10 rfl rfl ?_
    refine wp_getfield 14 12 0 d_Mo_lying_11 rfl fl_Mo_7 rfl rfl ?_
    refine wp_iconst 15 0 d_Mo_lying_14 rfl (by decide) ?_
    refine wp_iaload 16 d_Mo_lying_15 rfl rfl (vp_in_nI (n := 0) (N := 2332) (by omega) (by omega)) ?_
    rw [show m_at (0 : Int32).toNatClampNeg = nI t.nP from V.P]
    refine wp_icmp_ge 43 19 d_Mo_lying_16 rfl (by decide) (fun h16 => ?_) (fun h16 => ?_)
    · exact absurd (nI_leN (b := t.nP) h16 (by omega) (by omega)) (by omega)
    · refine wp_iload_n 20 d_Mo_lying_19 rfl rfl ?_
      refine wp_aload_n 21 d_Mo_lying_20 rfl rfl ?_
      refine wp_iload_n 22 d_Mo_lying_21 rfl rfl ?_
      refine wp_V1 25 M_Mo_isLying 1 d_Mo_lying_22 rfl mv_Mo_isLying lk_Mo_303 rfl rfl rfl rfl rfl ?_
      refine c_Mo_isLying (vp_in_nI (by omega) (by omega)) ?_
      rw [nI_clamp (by omega : i < 2 ^ 31)]
      refine kI ?_
      (first | refine wp_ifP_eq 34 28 d_Mo_lying_25 rfl (by decide) (fun h25 => ?_) (fun h25 => ?_) | refine wp_if_eq 34 28 d_Mo_lying_25 rfl (by decide) (fun h25 => ?_) (fun h25 => ?_))
      · refine wp_iconst 35 0 d_Mo_lying_34 rfl (by decide) ?_
        refine wp_ior 36 d_Mo_lying_35 rfl ?_
        refine wp_istore_1 37 d_Mo_lying_36 rfl rfl rfl ?_
        first | refine wp_iincN_2 40 d_Mo_lying_37 rfl rfl rfl ?_ | refine wp_iinc_2 40 1 d_Mo_lying_37 rfl (by decide) rfl rfl ?_
        refine wp_goto 9 d_Mo_lying_40 (by decide) ?_
        refine qL2 ?_ (ih (i + 1) (by omega) hq)
        simp only [iorr]
        rw [if_neg h25]
      · refine wp_iconst 29 1 d_Mo_lying_28 rfl (by decide) ?_
        refine wp_iload_n 30 d_Mo_lying_29 rfl rfl ?_
        refine wp_ishl 31 d_Mo_lying_30 rfl ?_
        refine wp_goto 35 d_Mo_lying_31 (by decide) ?_
        refine wp_ior 36 d_Mo_lying_35 rfl ?_
        refine wp_istore_1 37 d_Mo_lying_36 rfl rfl rfl ?_
        first | refine wp_iincN_2 40 d_Mo_lying_37 rfl rfl rfl ?_ | refine wp_iinc_2 40 1 d_Mo_lying_37 rfl (by decide) rfl rfl ?_
        refine wp_goto 9 d_Mo_lying_40 (by decide) ?_
        refine qL2 ?_ (ih (i + 1) (by omega) hq)
        simp only [iorr]
        rw [if_pos h25]

set_option maxRecDepth 100000 in
set_option maxHeartbeats 4000000 in
theorem l_Mo_parts_9 (V : vT m_at t) (hn : t.nP ≤ 7) : ∀ (r i : Nat) , i + r = t.nP → Q (some (.int (isum (fun p => if (m_partBy, m_eastBy, m_northBy).1 p = nI p then 1 else 0) t.nP))) (hM m_at m_names m_status m_top m_bottom m_sort m_trayMany m_trays m_tape m_text m_taped m_size m_token m_from m_end m_value m_faultKind m_faultPlace m_faults m_seen m_areOdds m_opened m_depth m_counted m_eastBy m_northBy m_partBy m_wayFaults m_wayEast m_wayNorth m_olds m_wayMany m_oneOfSet m_twoOfSet m_farBy m_rowBy m_triedBy m_rowMany m_doneAt m_gotAt m_struckAt m_bestDeed m_misBy m_drawn m_ranSteps m_loops m_ran m_told1 m_isTold m_marks) → WP Γ M_Mo_parts 7 0 0 (hM m_at m_names m_status m_top m_bottom m_sort m_trayMany m_trays m_tape m_text m_taped m_size m_token m_from m_end m_value m_faultKind m_faultPlace m_faults m_seen m_areOdds m_opened m_depth m_counted m_eastBy m_northBy m_partBy m_wayFaults m_wayEast m_wayNorth m_olds m_wayMany m_oneOfSet m_twoOfSet m_farBy m_rowBy m_triedBy m_rowMany m_doneAt m_gotAt m_struckAt m_bestDeed m_misBy m_drawn m_ranSteps m_loops m_ran m_told1 m_isTold m_marks) 9 [some (.ref 0), some (.int (isum (fun p => if (m_partBy, m_eastBy, m_northBy).1 p = nI p then 1 else 0) i)), some (.int (nI i))] [] Q := by
  intro r
  induction r with
  | zero =>
    intro i  hi hinv
    have hq := hinv
    refine wp_iload_n 10 d_Mo_parts_9 rfl rfl ?_
    refine wp_aload_n 11 d_Mo_parts_10 rfl rfl ?_
    refine wp_getfield 14 12 0 d_Mo_parts_11 rfl fl_Mo_7 rfl rfl ?_
    refine wp_iconst 15 0 d_Mo_parts_14 rfl (by decide) ?_
    refine wp_iaload 16 d_Mo_parts_15 rfl rfl (vp_in_nI (n := 0) (N := 2332) (by omega) (by omega)) ?_
    rw [show m_at (0 : Int32).toNatClampNeg = nI t.nP from V.P]
    refine wp_icmp_ge 43 19 d_Mo_parts_16 rfl (by decide) (fun h16 => ?_) (fun h16 => ?_)
    · refine wp_iload_n 44 d_Mo_parts_43 rfl rfl ?_
      refine wp_ireturn d_Mo_parts_44 rfl ?_
      have e : i = t.nP := by omega
      subst e
      exact hq
    · exact absurd ((nI_leI (a := t.nP) (by omega) (by omega)).mpr (by omega)) h16
  | succ r ih =>
    intro i  hi hinv
    have hq := hinv
    refine wp_iload_n 10 d_Mo_parts_9 rfl rfl ?_
    refine wp_aload_n 11 d_Mo_parts_10 rfl rfl ?_
    refine wp_getfield 14 12 0 d_Mo_parts_11 rfl fl_Mo_7 rfl rfl ?_
    refine wp_iconst 15 0 d_Mo_parts_14 rfl (by decide) ?_
    refine wp_iaload 16 d_Mo_parts_15 rfl rfl (vp_in_nI (n := 0) (N := 2332) (by omega) (by omega)) ?_
    rw [show m_at (0 : Int32).toNatClampNeg = nI t.nP from V.P]
    refine wp_icmp_ge 43 19 d_Mo_parts_16 rfl (by decide) (fun h16 => ?_) (fun h16 => ?_)
    · exact absurd (nI_leN (b := t.nP) h16 (by omega) (by omega)) (by omega)
    · refine wp_iload_n 20 d_Mo_parts_19 rfl rfl ?_
      refine wp_aload_n 21 d_Mo_parts_20 rfl rfl ?_
      refine wp_getfield 24 12 26 d_Mo_parts_21 rfl fl_Mo_53 rfl rfl ?_
      refine wp_iload_n 25 d_Mo_parts_24 rfl rfl ?_
      refine wp_iaload 26 d_Mo_parts_25 rfl rfl (vp_in_nI (by omega) (by omega)) ?_
      rw [nI_clamp (by omega : i < 2 ^ 31)]
      refine wp_iload_n 27 d_Mo_parts_26 rfl rfl ?_
      refine wp_icmp_ne 34 30 d_Mo_parts_27 rfl (by decide) (fun h27 => ?_) (fun h27 => ?_)
      · refine wp_iconst 35 0 d_Mo_parts_34 rfl (by decide) ?_
        refine wp_iadd 36 d_Mo_parts_35 rfl ?_
        refine wp_istore_1 37 d_Mo_parts_36 rfl rfl rfl ?_
        first | refine wp_iincN_2 40 d_Mo_parts_37 rfl rfl rfl ?_ | refine wp_iinc_2 40 1 d_Mo_parts_37 rfl (by decide) rfl rfl ?_
        refine wp_goto 9 d_Mo_parts_40 (by decide) ?_
        refine qL2 ?_ (ih (i + 1) (by omega) hq)
        simp only [isum]
        rw [if_neg h27]
      · refine wp_iconst 31 1 d_Mo_parts_30 rfl (by decide) ?_
        refine wp_goto 35 d_Mo_parts_31 (by decide) ?_
        refine wp_iadd 36 d_Mo_parts_35 rfl ?_
        refine wp_istore_1 37 d_Mo_parts_36 rfl rfl rfl ?_
        first | refine wp_iincN_2 40 d_Mo_parts_37 rfl rfl rfl ?_ | refine wp_iinc_2 40 1 d_Mo_parts_37 rfl (by decide) rfl rfl ?_
        refine wp_goto 9 d_Mo_parts_40 (by decide) ?_
        refine qL2 ?_ (ih (i + 1) (by omega) hq)
        simp only [isum]
        rw [if_pos h27]

set_option maxRecDepth 100000 in
set_option maxHeartbeats 4000000 in
theorem l_Mo_legsThere_4 (V : vT m_at t) (hn : t.nL ≤ 12) : ∀ (r i : Nat) , i + r = t.nL → Q (some (.int (isum (fun l => if nI l < nI t.nL ∧ ¬ hs t.sk (nI l) then 1 else 0) t.nL))) (hM m_at m_names m_status m_top m_bottom m_sort m_trayMany m_trays m_tape m_text m_taped m_size m_token m_from m_end m_value m_faultKind m_faultPlace m_faults m_seen m_areOdds m_opened m_depth m_counted m_eastBy m_northBy m_partBy m_wayFaults m_wayEast m_wayNorth m_olds m_wayMany m_oneOfSet m_twoOfSet m_farBy m_rowBy m_triedBy m_rowMany m_doneAt m_gotAt m_struckAt m_bestDeed m_misBy m_drawn m_ranSteps m_loops m_ran m_told1 m_isTold m_marks) → WP Γ M_Mo_legsThere 3 0 0 (hM m_at m_names m_status m_top m_bottom m_sort m_trayMany m_trays m_tape m_text m_taped m_size m_token m_from m_end m_value m_faultKind m_faultPlace m_faults m_seen m_areOdds m_opened m_depth m_counted m_eastBy m_northBy m_partBy m_wayFaults m_wayEast m_wayNorth m_olds m_wayMany m_oneOfSet m_twoOfSet m_farBy m_rowBy m_triedBy m_rowMany m_doneAt m_gotAt m_struckAt m_bestDeed m_misBy m_drawn m_ranSteps m_loops m_ran m_told1 m_isTold m_marks) 4 [some (.ref 0), some (.int (isum (fun l => if nI l < nI t.nL ∧ ¬ hs t.sk (nI l) then 1 else 0) i)), some (.int (nI i))] [] Q := by
  intro r
  induction r with
  | zero =>
    intro i  hi hinv
    have hq := hinv
    refine wp_iload_n 5 d_Mo_legsThere_4 rfl rfl ?_
    refine wp_aload_n 6 d_Mo_legsThere_5 rfl rfl ?_
    refine wp_getfield 9 12 0 d_Mo_legsThere_6 rfl fl_Mo_7 rfl rfl ?_
    refine wp_iconst 10 2 d_Mo_legsThere_9 rfl (by decide) ?_
    refine wp_iaload 11 d_Mo_legsThere_10 rfl rfl (vp_in_nI (n := 2) (N := 2332) (by omega) (by omega)) ?_
    rw [show m_at (2 : Int32).toNatClampNeg = nI t.nL from V.L]
    refine wp_icmp_ge 36 14 d_Mo_legsThere_11 rfl (by decide) (fun h11 => ?_) (fun h11 => ?_)
    · refine wp_iload_n 37 d_Mo_legsThere_36 rfl rfl ?_
      refine wp_ireturn d_Mo_legsThere_37 rfl ?_
      have e : i = t.nL := by omega
      subst e
      exact hq
    · exact absurd ((nI_leI (a := t.nL) (by omega) (by omega)).mpr (by omega)) h11
  | succ r ih =>
    intro i  hi hinv
    have hq := hinv
    refine wp_iload_n 5 d_Mo_legsThere_4 rfl rfl ?_
    refine wp_aload_n 6 d_Mo_legsThere_5 rfl rfl ?_
    refine wp_getfield 9 12 0 d_Mo_legsThere_6 rfl fl_Mo_7 rfl rfl ?_
    refine wp_iconst 10 2 d_Mo_legsThere_9 rfl (by decide) ?_
    refine wp_iaload 11 d_Mo_legsThere_10 rfl rfl (vp_in_nI (n := 2) (N := 2332) (by omega) (by omega)) ?_
    rw [show m_at (2 : Int32).toNatClampNeg = nI t.nL from V.L]
    refine wp_icmp_ge 36 14 d_Mo_legsThere_11 rfl (by decide) (fun h11 => ?_) (fun h11 => ?_)
    · exact absurd (nI_leN (b := t.nL) h11 (by omega) (by omega)) (by omega)
    · refine wp_iload_n 15 d_Mo_legsThere_14 rfl rfl ?_
      refine wp_aload_n 16 d_Mo_legsThere_15 rfl rfl ?_
      refine wp_iload_n 17 d_Mo_legsThere_16 rfl rfl ?_
      refine wp_V1 20 M_Mo_counts 2 d_Mo_legsThere_17 rfl mv_Mo_counts lk_Mo_300 rfl rfl rfl rfl rfl ?_
      refine c_Mo_counts V ?_
      refine kI ?_
      (first | refine wp_ifP_eq 27 23 d_Mo_legsThere_20 rfl (by decide) (fun h20 => ?_) (fun h20 => ?_) | refine wp_if_eq 27 23 d_Mo_legsThere_20 rfl (by decide) (fun h20 => ?_) (fun h20 => ?_))
      · refine wp_iconst 28 0 d_Mo_legsThere_27 rfl (by decide) ?_
        refine wp_iadd 29 d_Mo_legsThere_28 rfl ?_
        refine wp_istore_1 30 d_Mo_legsThere_29 rfl rfl rfl ?_
        first | refine wp_iincN_2 33 d_Mo_legsThere_30 rfl rfl rfl ?_ | refine wp_iinc_2 33 1 d_Mo_legsThere_30 rfl (by decide) rfl rfl ?_
        refine wp_goto 4 d_Mo_legsThere_33 (by decide) ?_
        refine qL2 ?_ (ih (i + 1) (by omega) hq)
        simp only [isum]
        rw [if_neg h20]
      · refine wp_iconst 24 1 d_Mo_legsThere_23 rfl (by decide) ?_
        refine wp_goto 28 d_Mo_legsThere_24 (by decide) ?_
        refine wp_iadd 29 d_Mo_legsThere_28 rfl ?_
        refine wp_istore_1 30 d_Mo_legsThere_29 rfl rfl rfl ?_
        first | refine wp_iincN_2 33 d_Mo_legsThere_30 rfl rfl rfl ?_ | refine wp_iinc_2 33 1 d_Mo_legsThere_30 rfl (by decide) rfl rfl ?_
        refine wp_goto 4 d_Mo_legsThere_33 (by decide) ?_
        refine qL2 ?_ (ih (i + 1) (by omega) hq)
        simp only [isum]
        rw [if_pos h20]

set_option maxRecDepth 100000 in
set_option maxHeartbeats 4000000 in
theorem c_Mo_legsThere (V : vT m_at t) (hq : Q (some (.int (bcR (tTh t)))) (hM m_at m_names m_status m_top m_bottom m_sort m_trayMany m_trays m_tape m_text m_taped m_size m_token m_from m_end m_value m_faultKind m_faultPlace m_faults m_seen m_areOdds m_opened m_depth m_counted m_eastBy m_northBy m_partBy m_wayFaults m_wayEast m_wayNorth m_olds m_wayMany m_oneOfSet m_twoOfSet m_farBy m_rowBy m_triedBy m_rowMany m_doneAt m_gotAt m_struckAt m_bestDeed m_misBy m_drawn m_ranSteps m_loops m_ran m_told1 m_isTold m_marks)) : Call Γ M_Mo_legsThere 3 0 0 [.ref 0] (hM m_at m_names m_status m_top m_bottom m_sort m_trayMany m_trays m_tape m_text m_taped m_size m_token m_from m_end m_value m_faultKind m_faultPlace m_faults m_seen m_areOdds m_opened m_depth m_counted m_eastBy m_northBy m_partBy m_wayFaults m_wayEast m_wayNorth m_olds m_wayMany m_oneOfSet m_twoOfSet m_farBy m_rowBy m_triedBy m_rowMany m_doneAt m_gotAt m_struckAt m_bestDeed m_misBy m_drawn m_ranSteps m_loops m_ran m_told1 m_isTold m_marks) Q := by
  refine call_intro (ls := [some (.ref 0), none, none]) rfl rfl rfl ?_
  refine wp_iconst 1 0 d_Mo_legsThere_0 rfl (by decide) ?_
  refine wp_istore_1 2 d_Mo_legsThere_1 rfl rfl rfl ?_
  refine wp_iconst 3 0 d_Mo_legsThere_2 rfl (by decide) ?_
  refine wp_istore_2 4 d_Mo_legsThere_3 rfl rfl rfl ?_
  exact l_Mo_legsThere_4 V V.ok.hL t.nL 0 (by omega) (by rw [show isum (fun l => if nI l < nI t.nL ∧ ¬ hs t.sk (nI l) then 1 else 0) t.nL = bcR (tTh t) from th_bc V.ok]; exact hq)

set_option maxRecDepth 100000 in
set_option maxHeartbeats 4000000 in
theorem c_Mo_lying (V : vT m_at t) (hq : ∀ s : MS, chO t s → Q (some (.int (tLi t))) (hM m_at m_names m_status m_top m_bottom m_sort m_trayMany m_trays m_tape m_text m_taped m_size m_token m_from m_end m_value m_faultKind m_faultPlace m_faults m_seen m_areOdds m_opened m_depth m_counted (s.2.1) (s.2.2) (s.1) m_wayFaults m_wayEast m_wayNorth m_olds m_wayMany m_oneOfSet m_twoOfSet m_farBy m_rowBy m_triedBy m_rowMany m_doneAt m_gotAt m_struckAt m_bestDeed m_misBy m_drawn m_ranSteps m_loops m_ran m_told1 m_isTold m_marks)) : Call Γ M_Mo_lying 7 0 0 [.ref 0] (hM m_at m_names m_status m_top m_bottom m_sort m_trayMany m_trays m_tape m_text m_taped m_size m_token m_from m_end m_value m_faultKind m_faultPlace m_faults m_seen m_areOdds m_opened m_depth m_counted m_eastBy m_northBy m_partBy m_wayFaults m_wayEast m_wayNorth m_olds m_wayMany m_oneOfSet m_twoOfSet m_farBy m_rowBy m_triedBy m_rowMany m_doneAt m_gotAt m_struckAt m_bestDeed m_misBy m_drawn m_ranSteps m_loops m_ran m_told1 m_isTold m_marks) Q := by
  refine call_intro (ls := [some (.ref 0), none, none]) rfl rfl rfl ?_
  refine wp_aload_n 1 d_Mo_lying_0 rfl rfl ?_
  refine wp_iconst 2 0 d_Mo_lying_1 rfl (by decide) ?_
  refine wp_V1 5 M_Mo_laysOut 6 d_Mo_lying_2 rfl mv_Mo_laysOut lk_Mo_315 rfl rfl rfl rfl rfl ?_
  refine c_lo0 V ?_
  refine kV ?_
  have h9 := lm_0 V.ok V.in_ (m_partBy, m_eastBy, m_northBy)
  generalize lmF t False (m_partBy, m_eastBy, m_northBy) = s9 at h9 ⊢
  refine wp_iconst 6 0 d_Mo_lying_5 rfl (by decide) ?_
  refine wp_istore_1 7 d_Mo_lying_6 rfl rfl rfl ?_
  refine wp_iconst 8 0 d_Mo_lying_7 rfl (by decide) ?_
  refine wp_istore_2 9 d_Mo_lying_8 rfl rfl rfl ?_
  exact l_Mo_lying_9 V V.ok.hP t.nP 0 (by omega) (by rw [show iorr (fun p => if ¬ (s9.1, s9.2.1, s9.2.2).1 p = -1 then bit (nI p) else 0) t.nP = tLi t from li_O V.ok h9]; exact hq _ h9)

set_option maxRecDepth 100000 in
set_option maxHeartbeats 4000000 in
theorem c_Mo_parts (V : vT m_at t) (hq : ∀ s : MS, chM t s → Q (some (.int (nI (tPo t).2.2.2.2.1))) (hM m_at m_names m_status m_top m_bottom m_sort m_trayMany m_trays m_tape m_text m_taped m_size m_token m_from m_end m_value m_faultKind m_faultPlace m_faults m_seen m_areOdds m_opened m_depth m_counted (s.2.1) (s.2.2) (s.1) m_wayFaults m_wayEast m_wayNorth m_olds m_wayMany m_oneOfSet m_twoOfSet m_farBy m_rowBy m_triedBy m_rowMany m_doneAt m_gotAt m_struckAt m_bestDeed m_misBy m_drawn m_ranSteps m_loops m_ran m_told1 m_isTold m_marks)) : Call Γ M_Mo_parts 7 0 0 [.ref 0] (hM m_at m_names m_status m_top m_bottom m_sort m_trayMany m_trays m_tape m_text m_taped m_size m_token m_from m_end m_value m_faultKind m_faultPlace m_faults m_seen m_areOdds m_opened m_depth m_counted m_eastBy m_northBy m_partBy m_wayFaults m_wayEast m_wayNorth m_olds m_wayMany m_oneOfSet m_twoOfSet m_farBy m_rowBy m_triedBy m_rowMany m_doneAt m_gotAt m_struckAt m_bestDeed m_misBy m_drawn m_ranSteps m_loops m_ran m_told1 m_isTold m_marks) Q := by
  refine call_intro (ls := [some (.ref 0), none, none]) rfl rfl rfl ?_
  refine wp_aload_n 1 d_Mo_parts_0 rfl rfl ?_
  refine wp_iconst 2 1 d_Mo_parts_1 rfl (by decide) ?_
  refine wp_V1 5 M_Mo_laysOut 6 d_Mo_parts_2 rfl mv_Mo_laysOut lk_Mo_315 rfl rfl rfl rfl rfl ?_
  refine c_lo1 V ?_
  refine kV ?_
  have h9 := lm_all V.ok V.in_ (m_partBy, m_eastBy, m_northBy)
  generalize lmF t True (m_partBy, m_eastBy, m_northBy) = s9 at h9 ⊢
  refine wp_iconst 6 0 d_Mo_parts_5 rfl (by decide) ?_
  refine wp_istore_1 7 d_Mo_parts_6 rfl rfl rfl ?_
  refine wp_iconst 8 0 d_Mo_parts_7 rfl (by decide) ?_
  refine wp_istore_2 9 d_Mo_parts_8 rfl rfl rfl ?_
  exact l_Mo_parts_9 V V.ok.hP t.nP 0 (by omega) (by rw [show isum (fun p => if (s9.1, s9.2.1, s9.2.2).1 p = nI p then 1 else 0) t.nP = nI (tPo t).2.2.2.2.1 from pa_M V.ok h9]; exact hq _ h9)

set_option maxRecDepth 100000 in
set_option maxHeartbeats 4000000 in
theorem c_Mo_isClosed (V : vT m_at t) (hq : ∀ s : MS, chM t s → Q (some (.int (bP (tClo t)))) (hM m_at m_names m_status m_top m_bottom m_sort m_trayMany m_trays m_tape m_text m_taped m_size m_token m_from m_end m_value m_faultKind m_faultPlace m_faults m_seen m_areOdds m_opened m_depth m_counted (s.2.1) (s.2.2) (s.1) m_wayFaults m_wayEast m_wayNorth m_olds m_wayMany m_oneOfSet m_twoOfSet m_farBy m_rowBy m_triedBy m_rowMany m_doneAt m_gotAt m_struckAt m_bestDeed m_misBy m_drawn m_ranSteps m_loops m_ran m_told1 m_isTold m_marks)) : Call Γ M_Mo_isClosed 7 0 0 [.ref 0] (hM m_at m_names m_status m_top m_bottom m_sort m_trayMany m_trays m_tape m_text m_taped m_size m_token m_from m_end m_value m_faultKind m_faultPlace m_faults m_seen m_areOdds m_opened m_depth m_counted m_eastBy m_northBy m_partBy m_wayFaults m_wayEast m_wayNorth m_olds m_wayMany m_oneOfSet m_twoOfSet m_farBy m_rowBy m_triedBy m_rowMany m_doneAt m_gotAt m_struckAt m_bestDeed m_misBy m_drawn m_ranSteps m_loops m_ran m_told1 m_isTold m_marks) Q := by
  refine call_intro (ls := [some (.ref 0)]) rfl rfl rfl ?_
  refine wp_aload_n 1 d_Mo_isClosed_0 rfl rfl ?_
  refine wp_iconst 2 1 d_Mo_isClosed_1 rfl (by decide) ?_
  refine wp_V1 5 M_Mo_laysOut 6 d_Mo_isClosed_2 rfl mv_Mo_laysOut lk_Mo_315 rfl rfl rfl rfl rfl ?_
  refine c_lo1 V ?_
  refine kV ?_
  have h9 := lm_all V.ok V.in_ (m_partBy, m_eastBy, m_northBy)
  generalize lmF t True (m_partBy, m_eastBy, m_northBy) = s9 at h9 ⊢
  have hch := h9
  refine wp_aload_n 6 d_Mo_isClosed_5 rfl rfl ?_
  refine wp_V0 9 M_Mo_missing 5 d_Mo_isClosed_6 rfl mv_Mo_missing lk_Mo_319 rfl rfl rfl rfl rfl ?_
  refine c_Mo_missing V ?_
  refine kI ?_
  refine wp_if_ne 16 12 d_Mo_isClosed_9 rfl (by decide) (fun h9 => ?_) (fun h9 => ?_)
  · have h9_ : ¬ moMi t s9 = 0 := h9
    have h9 := hch
    have hq9 := hq _ h9
    refine wp_iconst 17 0 d_Mo_isClosed_16 rfl (by decide) ?_
    refine wp_zreturn d_Mo_isClosed_17 rfl (by first | rfl | exact nbP _) ?_
    exact bq0 (fun z => h9_ ((clo_M V.ok V.in_ h9).mpr z)) hq9
  · have h9_ : moMi t s9 = 0 := h9
    have h9 := hch
    have hq9 := hq _ h9
    refine wp_iconst 13 1 d_Mo_isClosed_12 rfl (by decide) ?_
    refine wp_goto 17 d_Mo_isClosed_13 (by decide) ?_
    refine wp_zreturn d_Mo_isClosed_17 rfl (by first | rfl | exact nbP _) ?_
    exact bq1 ((clo_M V.ok V.in_ h9).mp h9_) hq9

end T75
