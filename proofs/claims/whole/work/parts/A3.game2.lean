/-! ===== the reference: GAME ===== -/
abbrev ON : Type := Option (Nat × Nat)
def RC (cur : ON) (g b : Int32) : Prop := match cur with
  | none => b = -1
  | some (x, d) => b = nI d ∧ g = nI x ∧ x ≤ 7 ∧ d ≤ 12
def stl (k : Nat) (cur : ON) (v l : Nat) : ON := match cur with
  | none => some (v, l)
  | some (x, d) => if (if k % 2 = 0 then v < x else x < v) then some (v, l) else some (x, d)
theorem RC_s {cur : ON} {g b : Int32} (h : RC cur g b) (hb : ¬ b = -1) : ∃ x d, cur = some (x, d) ∧ g = nI x ∧ x ≤ 7 ∧ d ≤ 12 := by
  cases cur with
  | none => exact absurd h hb
  | some c => obtain ⟨x, d⟩ := c; exact ⟨x, d, rfl, h.2.1, h.2.2⟩
theorem RC_n {cur : ON} {g : Int32} (h : RC cur g (-1)) : cur = none := by
  cases cur with
  | none => rfl
  | some c => obtain ⟨x, d⟩ := c; exact absurd h.1.symm (nI_ne1 (by have := h.2.2.2; omega))
theorem stl_ok {k v l : Nat} {cur : ON} {g b : Int32} (h : RC cur g b) (hv : v ≤ 7) (hl : l ≤ 12) (h2 : stl k cur v l = some (v, l)) : RC (stl k cur v l) (nI v) (nI l) := by
  rw [h2]; exact ⟨rfl, rfl, hv, hl⟩
theorem par2 : ∀ k, k < 5 → (nI k - nI k / 2 * 2 = 0 ↔ k % 2 = 0) := by decide +kernel
/-- what a deed comes to; the last one is nothing -/
def cV (t : TW) (f k : Nat) (th : Int32) (l : Nat) : Option Nat := if l < t.nL then (if (hs th (nI l) ↔ k % 2 = 0) then some (mmV t f (k + 1) (th ^^^ bit (nI l))) else none) else some (mmV t f (k + 1) th)
def gmS (t : TW) (f k : Nat) (th : Int32) (l : Nat) (cur : ON) : ON := match cV t f k th l with
  | none => cur
  | some v => stl k cur v l
def bet (k a b : Nat) : Prop := if k % 2 = 0 then a ≤ b else b ≤ a
theorem bet_rf (k a : Nat) : bet k a a := by unfold bet; split <;> omega
theorem bet_tr {k a b c : Nat} (h1 : bet k a b) (h2 : bet k b c) : bet k a c := by
  unfold bet at *; split at h1 <;> rename_i z
  · rw [if_pos z] at h2 ⊢; omega
  · rw [if_neg z] at h2 ⊢; omega
theorem bet_as {k a b : Nat} (h1 : bet k a b) (h2 : bet k b a) : a = b := by
  unfold bet at *; split at h1 <;> rename_i z
  · rw [if_pos z] at h2; omega
  · rw [if_neg z] at h2; omega
theorem bet_no {k a b : Nat} : (if k % 2 = 0 then a < b else b < a) ↔ ¬ bet k b a := by
  unfold bet; split <;> omega
/-- what is settled when i deeds were looked at -/
def GI (t : TW) (f k : Nat) (th : Int32) (i : Nat) (cur : ON) : Prop := match cur with
  | none => ∀ l, l < i → cV t f k th l = none
  | some (x, d) => d < i ∧ cV t f k th d = some x ∧ (∀ l v, l < i → cV t f k th l = some v → bet k x v) ∧ ∀ l v, l < d → cV t f k th l = some v → ¬ bet k v x
theorem GI_s {t : TW} {f k : Nat} {th : Int32} {i : Nat} {cur : ON} (h : GI t f k th i cur) : GI t f k th (i + 1) (gmS t f k th i cur) := by
  unfold gmS
  cases hv : cV t f k th i with
  | none =>
    cases cur with
    | none =>
      intro l hl
      rcases Nat.lt_or_ge l i with z | z
      · exact h l z
      · rw [show l = i by omega]; exact hv
    | some c =>
      obtain ⟨x, d⟩ := c
      obtain ⟨a, b, c, e⟩ := h
      refine ⟨by omega, b, fun l v hl hc => ?_, e⟩
      rcases Nat.lt_or_ge l i with z | z
      · exact c l v z hc
      · rw [show l = i by omega, hv] at hc; cases hc
  | some w =>
    cases cur with
    | none =>
      refine ⟨by omega, hv, fun l v hl hc => ?_, fun l v hl hc => ?_⟩
      · rcases Nat.lt_or_ge l i with z | z
        · rw [h l z] at hc; cases hc
        · rw [show l = i by omega, hv] at hc
          cases hc; exact bet_rf k _
      · rw [h l hl] at hc; cases hc
    | some c =>
      obtain ⟨x, d⟩ := c
      obtain ⟨a, b, c, e⟩ := h
      show GI t f k th (i + 1) (stl k (some (x, d)) w i)
      unfold stl
      by_cases z : (if k % 2 = 0 then w < x else x < w)
      · simp only [if_pos z]
        have zb := bet_no.mp z
        have zb2 : bet k w x := by
          unfold bet; split <;> rename_i y
          · rw [if_pos y] at z; omega
          · rw [if_neg y] at z; omega
        refine ⟨by omega, hv, fun l v hl hc => ?_, fun l v hl hc => ?_⟩
        · rcases Nat.lt_or_ge l i with y | y
          · exact bet_tr zb2 (c l v y hc)
          · rw [show l = i by omega, hv] at hc
            cases hc; exact bet_rf k _
        · exact fun q => zb (bet_tr (c l v hl hc) q)
      · simp only [if_neg z]
        have zb : bet k x w := Classical.byContradiction (fun q => z (bet_no.mpr q))
        refine ⟨by omega, b, fun l v hl hc => ?_, e⟩
        rcases Nat.lt_or_ge l i with y | y
        · exact c l v y hc
        · rw [show l = i by omega, hv] at hc
          cases hc; exact zb
theorem GI_run {t : TW} {f k : Nat} {th : Int32} : ∀ (r i : Nat) (cur : ON), GI t f k th i cur → GI t f k th (i + r) (iterN (gmS t f k th) r i cur)
  | 0, _, _, h => h
  | r + 1, i, cur, h => by
    simp only [iterN]
    have := GI_run r (i + 1) _ (GI_s h)
    rw [show i + 1 + r = i + (r + 1) by omega] at this
    exact this
/-- best play's worth is the best deed's -/
def MI_ (t : TW) (f k : Nat) (th : Int32) (i v : Nat) : Prop := (v = mmV t f (k + 1) th ∨ ∃ l, l < i ∧ cV t f k th l = some v) ∧ bet k v (mmV t f (k + 1) th) ∧ ∀ l w, l < i → cV t f k th l = some w → bet k v w
theorem mmB_b {k a b : Nat} : bet k (mmB k a b) a ∧ bet k (mmB k a b) b ∧ (mmB k a b = a ∨ mmB k a b = b) := by
  unfold bet mmB
  split
  · omega
  · omega
theorem MI_run {t : TW} {f k : Nat} {th : Int32} : ∀ (r i v : Nat), i + r = t.nL → MI_ t f k th i v → MI_ t f k th t.nL (iterN (mmG t f k th) r i v)
  | 0, i, v, hi, h => by rw [← hi]; exact h
  | r + 1, i, v, hi, h => by
    simp only [iterN]
    refine MI_run r (i + 1) _ (by omega) ?_
    obtain ⟨a, b, c⟩ := h
    unfold mmG
    by_cases d : (hs th (nI i) ↔ k % 2 = 0)
    · rw [if_pos d]
      have hc : cV t f k th i = some (mmV t f (k + 1) (th ^^^ bit (nI i))) := (if_pos (by omega)).trans (if_pos d)
      obtain ⟨m1, m2, m3⟩ := mmB_b (k := k) (a := v) (b := mmV t f (k + 1) (th ^^^ bit (nI i)))
      refine ⟨?_, bet_tr m1 b, fun l w hl hw => ?_⟩
      · rcases m3 with z | z
        · rw [z]
          rcases a with y | ⟨l, hl, y⟩
          · exact Or.inl y
          · exact Or.inr ⟨l, by omega, y⟩
        · rw [z]; exact Or.inr ⟨i, by omega, hc⟩
      · rcases Nat.lt_or_ge l i with y | y
        · exact bet_tr m1 (c l w y hw)
        · rw [show l = i by omega, hc] at hw
          cases hw; exact m2
    · rw [if_neg d]
      have hc : cV t f k th i = none := (if_pos (by omega)).trans (if_neg d)
      refine ⟨?_, b, fun l w hl hw => ?_⟩
      · rcases a with y | ⟨l, hl, y⟩
        · exact Or.inl y
        · exact Or.inr ⟨l, by omega, y⟩
      · rcases Nat.lt_or_ge l i with y | y
        · exact c l w y hw
        · rw [show l = i by omega, hc] at hw; cases hw
theorem GM {t : TW} (f k : Nat) (th : Int32) : ∃ d, d ≤ t.nL ∧ iterN (gmS t f k th) (t.nL + 1) 0 none = some (mmV t (f + 1) k th, d) ∧ cV t f k th d = some (mmV t (f + 1) k th) ∧ ∀ l v, l < d → cV t f k th l = some v → ¬ v = mmV t (f + 1) k th := by
  have hG := GI_run (t := t) (f := f) (k := k) (th := th) (t.nL + 1) 0 none (fun l hl => absurd hl (Nat.not_lt_zero l))
  rw [Nat.zero_add] at hG
  have hM := MI_run (t := t) (f := f) (k := k) (th := th) t.nL 0 (mmV t f (k + 1) th) (by omega) ⟨Or.inl rfl, bet_rf _ _, fun l w hl => absurd hl (Nat.not_lt_zero l)⟩
  rw [← mmV_s] at hM
  have hn : cV t f k th t.nL = some (mmV t f (k + 1) th) := if_neg (Nat.lt_irrefl _)
  generalize iterN (gmS t f k th) (t.nL + 1) 0 none = cur at hG ⊢
  cases cur with
  | none => rw [hG t.nL (by omega)] at hn; cases hn
  | some c =>
    obtain ⟨x, d⟩ := c
    obtain ⟨a, b, c, e⟩ := hG
    obtain ⟨m1, m2, m3⟩ := hM
    have h1 : bet k x (mmV t (f + 1) k th) := by
      rcases m1 with z | ⟨l, hl, z⟩
      · rw [z]; exact c t.nL _ (by omega) hn
      · exact c l _ (by omega) z
    have h2 : bet k (mmV t (f + 1) k th) x := by
      rcases Nat.lt_or_ge d t.nL with z | z
      · exact m3 d x z b
      · rw [show d = t.nL by omega, hn] at b
        cases b; exact m2
    have hx : x = mmV t (f + 1) k th := bet_as h1 h2
    subst hx
    exact ⟨d, by omega, rfl, b, fun l v hl hc q => e l v hl hc (by rw [q]; exact bet_rf _ _)⟩
theorem th_xor {n : Int32} {sk : Int32} {l : Nat} (hl : l < 32) (h : hs (lTh n sk) (nI l)) : lTh n (sk ||| bit (nI l)) = lTh n sk ^^^ bit (nI l) := by
  rw [th_or]
  refine hs_ext (fun k hk => ?_)
  have hx : hs (lTh n sk ^^^ bit (nI l)) (nI k) ↔ ¬ (hs (lTh n sk) (nI k) ↔ k = l) := by
    rw [hs_bv hk, hs_bv hk, Int32.toBitVec_xor, BitVec.getLsbD_xor, bit_bv hl k hk]
    by_cases e : k = l <;> cases (lTh n sk).toBitVec.getLsbD k <;> simp [e]
  rw [hs_and hk, hs_not hk, hs_bit hl hk, hx]
  by_cases e : k = l
  · subst e; simp [h]
  · simp [e]
theorem th_xor2 {n : Nat} (hn : n ≤ 12) {sk : Int32} {l : Nat} (hl : l < n) (h : hs sk (nI l)) : lTh (nI n) (sk &&& (bit (nI l) ^^^ (-1))) = lTh (nI n) sk ^^^ bit (nI l) := by
  refine hs_ext (fun k hk => ?_)
  have hx : hs (lTh (nI n) sk ^^^ bit (nI l)) (nI k) ↔ ¬ (hs (lTh (nI n) sk) (nI k) ↔ k = l) := by
    rw [hs_bv hk, hs_bv hk, Int32.toBitVec_xor, BitVec.getLsbD_xor, bit_bv (by omega) k hk]
    by_cases e : k = l <;> cases (lTh (nI n) sk).toBitVec.getLsbD k <;> simp [e]
  rw [hx]
  unfold lTh
  rw [hs_and hk, hs_and hk, hs_low hn hk, hs_not hk, hs_not hk, hs_and hk, hs_not hk, hs_bit (by omega) hk]
  by_cases e : k = l
  · subst e; simp [h, hl]
  · simp [e]
theorem cV_k {t : TW} {f k : Nat} {th : Int32} {l : Nat} (hl : l < t.nL) : cV t f k th l = if (hs th (nI l) ↔ k % 2 = 0) then some (mmV t f (k + 1) (th ^^^ bit (nI l))) else none := if_pos hl
theorem gmS_n {t : TW} {f k : Nat} {th : Int32} {l : Nat} {cur : ON} (h : cV t f k th l = none) : gmS t f k th l cur = cur := by unfold gmS; rw [h]
theorem gmS_v {t : TW} {f k : Nat} {th : Int32} {l v : Nat} {cur : ON} (h : cV t f k th l = some v) : gmS t f k th l cur = stl k cur v l := by unfold gmS; rw [h]
section TA3
variable {Γ : Gm} {Q : Option Value → LH → Prop} {m_at m_sort m_trayMany m_tape m_text m_opened m_eastBy m_northBy m_partBy m_wayFaults m_wayEast m_wayNorth m_olds m_farBy m_rowBy m_triedBy m_doneAt m_gotAt m_struckAt m_bestDeed m_loops m_ran m_told1 : Nat → Int32} {m_names m_trays m_misBy : Nat → Int64} {m_status m_taped m_size m_token m_from m_end m_value m_faultKind m_faultPlace m_faults m_seen m_areOdds m_depth m_counted m_wayMany m_oneOfSet m_twoOfSet m_rowMany m_drawn m_ranSteps m_isTold m_marks : Int32} {m_top m_bottom : Int64} {t : TW}
set_option maxRecDepth 100000 in
set_option maxHeartbeats 4000000 in
theorem c_Mo_settles {k l v : Nat} {cur : ON} (hk : k < 5) (hl : l ≤ 12) (hv : v ≤ 7) (hd : m_doneAt k = nI l) (hc : RC cur (m_gotAt k) (m_bestDeed k)) (hq : ∀ g2 b2, RC (stl k cur v l) (g2 k) (b2 k) → (∀ j, ¬ j = k → g2 j = m_gotAt j ∧ b2 j = m_bestDeed j) → Q none (hM m_at m_names m_status m_top m_bottom m_sort m_trayMany m_trays m_tape m_text m_taped m_size m_token m_from m_end m_value m_faultKind m_faultPlace m_faults m_seen m_areOdds m_opened m_depth m_counted m_eastBy m_northBy m_partBy m_wayFaults m_wayEast m_wayNorth m_olds m_wayMany m_oneOfSet m_twoOfSet m_farBy m_rowBy m_triedBy m_rowMany m_doneAt (g2) m_struckAt (b2) m_misBy m_drawn m_ranSteps m_loops m_ran m_told1 m_isTold m_marks)) : Call Γ M_Mo_settles 1 0 0 [.ref 0, .int (nI k), .int (nI v)] (hM m_at m_names m_status m_top m_bottom m_sort m_trayMany m_trays m_tape m_text m_taped m_size m_token m_from m_end m_value m_faultKind m_faultPlace m_faults m_seen m_areOdds m_opened m_depth m_counted m_eastBy m_northBy m_partBy m_wayFaults m_wayEast m_wayNorth m_olds m_wayMany m_oneOfSet m_twoOfSet m_farBy m_rowBy m_triedBy m_rowMany m_doneAt m_gotAt m_struckAt m_bestDeed m_misBy m_drawn m_ranSteps m_loops m_ran m_told1 m_isTold m_marks) Q := by
  refine call_intro (ls := [some (.ref 0), some (.int (nI k)), some (.int (nI v)), none]) rfl rfl rfl ?_
  refine wp_aload_n 1 d_Mo_settles_0 rfl rfl ?_
  refine wp_getfield 4 12 41 d_Mo_settles_1 rfl fl_Mo_86 rfl rfl ?_
  refine wp_iload_n 5 d_Mo_settles_4 rfl rfl ?_
  refine wp_ialoadN 6 d_Mo_settles_5 rfl rfl rfl (by omega) ?_
  refine wp_iconst 7 (-1) d_Mo_settles_6 rfl (by decide) ?_
  refine wp_icmp_ne 14 10 d_Mo_settles_7 rfl (by decide) (fun h7 => ?_) (fun h7 => ?_)
  · obtain ⟨x, d, rfl, hx, hx7, hd12⟩ := RC_s hc h7
    refine wp_iconst 15 0 d_Mo_settles_14 rfl (by decide) ?_
    refine wp_istore_3 16 d_Mo_settles_15 rfl rfl rfl ?_
    refine wp_iload_n 17 d_Mo_settles_16 rfl rfl ?_
    refine wp_if_ne 50 20 d_Mo_settles_17 rfl (by decide) (fun h17 => ?_) (fun h17 => ?_)
    · exact absurd rfl h17
    · refine wp_iload_n 21 d_Mo_settles_20 rfl rfl ?_
      refine wp_iconst 22 2 d_Mo_settles_21 rfl (by decide) ?_
      refine wp_irem 23 d_Mo_settles_22 rfl (by decide) ?_
      refine wp_if_ne 39 26 d_Mo_settles_23 rfl (by decide) (fun h23 => ?_) (fun h23 => ?_)
      · have he : ¬ k % 2 = 0 := fun z => h23 ((par2 k hk).mpr z)
        refine wp_iload_n 40 d_Mo_settles_39 rfl rfl ?_
        refine wp_aload_n 41 d_Mo_settles_40 rfl rfl ?_
        refine wp_getfield 44 12 39 d_Mo_settles_41 rfl fl_Mo_80 rfl rfl ?_
        refine wp_iload_n 45 d_Mo_settles_44 rfl rfl ?_
        refine wp_ialoadN 46 d_Mo_settles_45 rfl rfl rfl (by omega) ?_
        rw [hx]
        refine wp_icmp_gt 50 49 d_Mo_settles_46 rfl (by decide) (fun h46 => ?_) (fun h46 => ?_)
        · refine wp_aload_n 51 d_Mo_settles_50 rfl rfl ?_
          refine wp_getfield 54 12 39 d_Mo_settles_51 rfl fl_Mo_80 rfl rfl ?_
          refine wp_iload_n 55 d_Mo_settles_54 rfl rfl ?_
          refine wp_iload_n 56 d_Mo_settles_55 rfl rfl ?_
          refine wp_iastoreN 57 d_Mo_settles_56 rfl rfl rfl (by omega) ?_
          refine hEq (hM m_at m_names m_status m_top m_bottom m_sort m_trayMany m_trays m_tape m_text m_taped m_size m_token m_from m_end m_value m_faultKind m_faultPlace m_faults m_seen m_areOdds m_opened m_depth m_counted m_eastBy m_northBy m_partBy m_wayFaults m_wayEast m_wayNorth m_olds m_wayMany m_oneOfSet m_twoOfSet m_farBy m_rowBy m_triedBy m_rowMany m_doneAt (upd m_gotAt k (nI v)) m_struckAt m_bestDeed m_misBy m_drawn m_ranSteps m_loops m_ran m_told1 m_isTold m_marks) rfl ?_
          refine wp_aload_n 58 d_Mo_settles_57 rfl rfl ?_
          refine wp_getfield 61 12 41 d_Mo_settles_58 rfl fl_Mo_86 rfl rfl ?_
          refine wp_iload_n 62 d_Mo_settles_61 rfl rfl ?_
          refine wp_aload_n 63 d_Mo_settles_62 rfl rfl ?_
          refine wp_getfield 66 12 38 d_Mo_settles_63 rfl fl_Mo_77 rfl rfl ?_
          refine wp_iload_n 67 d_Mo_settles_66 rfl rfl ?_
          refine wp_ialoadN 68 d_Mo_settles_67 rfl rfl rfl (by omega) ?_
          rw [hd]
          refine wp_iastoreN 69 d_Mo_settles_68 rfl rfl rfl (by omega) ?_
          refine hEq (hM m_at m_names m_status m_top m_bottom m_sort m_trayMany m_trays m_tape m_text m_taped m_size m_token m_from m_end m_value m_faultKind m_faultPlace m_faults m_seen m_areOdds m_opened m_depth m_counted m_eastBy m_northBy m_partBy m_wayFaults m_wayEast m_wayNorth m_olds m_wayMany m_oneOfSet m_twoOfSet m_farBy m_rowBy m_triedBy m_rowMany m_doneAt (upd m_gotAt k (nI v)) m_struckAt (upd m_bestDeed k (nI l)) m_misBy m_drawn m_ranSteps m_loops m_ran m_told1 m_isTold m_marks) rfl ?_
          refine wp_return d_Mo_settles_69 rfl ?_
          have e : stl k (some (x, d)) v l = some (v, l) := if_pos (by rw [if_neg he]; exact (nI_ltI (by omega) (by omega)).mp h46)
          refine hq (upd m_gotAt k (nI v)) (upd m_bestDeed k (nI l)) ?_ (fun j hj => ⟨upd_ne hj, upd_ne hj⟩)
          rw [upd_at, upd_at]
          exact stl_ok hc hv hl e
        · refine wp_return d_Mo_settles_49 rfl ?_
          have e : stl k (some (x, d)) v l = some (x, d) := if_neg (by rw [if_neg he]; exact fun z => h46 ((nI_ltI (by omega) (by omega)).mpr z))
          refine hq m_gotAt m_bestDeed ?_ (fun j _ => ⟨rfl, rfl⟩)
          rw [e]; exact hc
      · have he := (par2 k hk).mp h23
        refine wp_iload_n 27 d_Mo_settles_26 rfl rfl ?_
        refine wp_aload_n 28 d_Mo_settles_27 rfl rfl ?_
        refine wp_getfield 31 12 39 d_Mo_settles_28 rfl fl_Mo_80 rfl rfl ?_
        refine wp_iload_n 32 d_Mo_settles_31 rfl rfl ?_
        refine wp_ialoadN 33 d_Mo_settles_32 rfl rfl rfl (by omega) ?_
        rw [hx]
        refine wp_icmp_lt 50 36 d_Mo_settles_33 rfl (by decide) (fun h33 => ?_) (fun h33 => ?_)
        · refine wp_aload_n 51 d_Mo_settles_50 rfl rfl ?_
          refine wp_getfield 54 12 39 d_Mo_settles_51 rfl fl_Mo_80 rfl rfl ?_
          refine wp_iload_n 55 d_Mo_settles_54 rfl rfl ?_
          refine wp_iload_n 56 d_Mo_settles_55 rfl rfl ?_
          refine wp_iastoreN 57 d_Mo_settles_56 rfl rfl rfl (by omega) ?_
          refine hEq (hM m_at m_names m_status m_top m_bottom m_sort m_trayMany m_trays m_tape m_text m_taped m_size m_token m_from m_end m_value m_faultKind m_faultPlace m_faults m_seen m_areOdds m_opened m_depth m_counted m_eastBy m_northBy m_partBy m_wayFaults m_wayEast m_wayNorth m_olds m_wayMany m_oneOfSet m_twoOfSet m_farBy m_rowBy m_triedBy m_rowMany m_doneAt (upd m_gotAt k (nI v)) m_struckAt m_bestDeed m_misBy m_drawn m_ranSteps m_loops m_ran m_told1 m_isTold m_marks) rfl ?_
          refine wp_aload_n 58 d_Mo_settles_57 rfl rfl ?_
          refine wp_getfield 61 12 41 d_Mo_settles_58 rfl fl_Mo_86 rfl rfl ?_
          refine wp_iload_n 62 d_Mo_settles_61 rfl rfl ?_
          refine wp_aload_n 63 d_Mo_settles_62 rfl rfl ?_
          refine wp_getfield 66 12 38 d_Mo_settles_63 rfl fl_Mo_77 rfl rfl ?_
          refine wp_iload_n 67 d_Mo_settles_66 rfl rfl ?_
          refine wp_ialoadN 68 d_Mo_settles_67 rfl rfl rfl (by omega) ?_
          rw [hd]
          refine wp_iastoreN 69 d_Mo_settles_68 rfl rfl rfl (by omega) ?_
          refine hEq (hM m_at m_names m_status m_top m_bottom m_sort m_trayMany m_trays m_tape m_text m_taped m_size m_token m_from m_end m_value m_faultKind m_faultPlace m_faults m_seen m_areOdds m_opened m_depth m_counted m_eastBy m_northBy m_partBy m_wayFaults m_wayEast m_wayNorth m_olds m_wayMany m_oneOfSet m_twoOfSet m_farBy m_rowBy m_triedBy m_rowMany m_doneAt (upd m_gotAt k (nI v)) m_struckAt (upd m_bestDeed k (nI l)) m_misBy m_drawn m_ranSteps m_loops m_ran m_told1 m_isTold m_marks) rfl ?_
          refine wp_return d_Mo_settles_69 rfl ?_
          have e : stl k (some (x, d)) v l = some (v, l) := if_pos (by rw [if_pos he]; exact (nI_ltI (by omega) (by omega)).mp h33)
          refine hq (upd m_gotAt k (nI v)) (upd m_bestDeed k (nI l)) ?_ (fun j hj => ⟨upd_ne hj, upd_ne hj⟩)
          rw [upd_at, upd_at]
          exact stl_ok hc hv hl e
        · refine wp_goto 49 d_Mo_settles_36 (by decide) ?_
          refine wp_return d_Mo_settles_49 rfl ?_
          have e : stl k (some (x, d)) v l = some (x, d) := if_neg (by rw [if_pos he]; exact fun z => h33 ((nI_ltI (by omega) (by omega)).mpr z))
          refine hq m_gotAt m_bestDeed ?_ (fun j _ => ⟨rfl, rfl⟩)
          rw [e]; exact hc
  · have hcur := RC_n (by rw [h7] at hc; exact hc)
    refine wp_iconst 11 1 d_Mo_settles_10 rfl (by decide) ?_
    refine wp_goto 15 d_Mo_settles_11 (by decide) ?_
    refine wp_istore_3 16 d_Mo_settles_15 rfl rfl rfl ?_
    refine wp_iload_n 17 d_Mo_settles_16 rfl rfl ?_
    refine wp_if_ne 50 20 d_Mo_settles_17 rfl (by decide) (fun h17 => ?_) (fun h17 => ?_)
    · refine wp_aload_n 51 d_Mo_settles_50 rfl rfl ?_
      refine wp_getfield 54 12 39 d_Mo_settles_51 rfl fl_Mo_80 rfl rfl ?_
      refine wp_iload_n 55 d_Mo_settles_54 rfl rfl ?_
      refine wp_iload_n 56 d_Mo_settles_55 rfl rfl ?_
      refine wp_iastoreN 57 d_Mo_settles_56 rfl rfl rfl (by omega) ?_
      refine hEq (hM m_at m_names m_status m_top m_bottom m_sort m_trayMany m_trays m_tape m_text m_taped m_size m_token m_from m_end m_value m_faultKind m_faultPlace m_faults m_seen m_areOdds m_opened m_depth m_counted m_eastBy m_northBy m_partBy m_wayFaults m_wayEast m_wayNorth m_olds m_wayMany m_oneOfSet m_twoOfSet m_farBy m_rowBy m_triedBy m_rowMany m_doneAt (upd m_gotAt k (nI v)) m_struckAt m_bestDeed m_misBy m_drawn m_ranSteps m_loops m_ran m_told1 m_isTold m_marks) rfl ?_
      refine wp_aload_n 58 d_Mo_settles_57 rfl rfl ?_
      refine wp_getfield 61 12 41 d_Mo_settles_58 rfl fl_Mo_86 rfl rfl ?_
      refine wp_iload_n 62 d_Mo_settles_61 rfl rfl ?_
      refine wp_aload_n 63 d_Mo_settles_62 rfl rfl ?_
      refine wp_getfield 66 12 38 d_Mo_settles_63 rfl fl_Mo_77 rfl rfl ?_
      refine wp_iload_n 67 d_Mo_settles_66 rfl rfl ?_
      refine wp_ialoadN 68 d_Mo_settles_67 rfl rfl rfl (by omega) ?_
      rw [hd]
      refine wp_iastoreN 69 d_Mo_settles_68 rfl rfl rfl (by omega) ?_
      refine hEq (hM m_at m_names m_status m_top m_bottom m_sort m_trayMany m_trays m_tape m_text m_taped m_size m_token m_from m_end m_value m_faultKind m_faultPlace m_faults m_seen m_areOdds m_opened m_depth m_counted m_eastBy m_northBy m_partBy m_wayFaults m_wayEast m_wayNorth m_olds m_wayMany m_oneOfSet m_twoOfSet m_farBy m_rowBy m_triedBy m_rowMany m_doneAt (upd m_gotAt k (nI v)) m_struckAt (upd m_bestDeed k (nI l)) m_misBy m_drawn m_ranSteps m_loops m_ran m_told1 m_isTold m_marks) rfl ?_
      refine wp_return d_Mo_settles_69 rfl ?_
      have e : stl k cur v l = some (v, l) := by rw [hcur]; rfl
      refine hq (upd m_gotAt k (nI v)) (upd m_bestDeed k (nI l)) ?_ (fun j hj => ⟨upd_ne hj, upd_ne hj⟩)
      rw [upd_at, upd_at]
      exact stl_ok hc hv hl e
    · exact absurd h17 (by decide)

set_option maxRecDepth 100000 in
set_option maxHeartbeats 4000000 in
theorem c_Mo_beginsAt {k : Nat} (hk : k < 5) (hq : Q none (hM m_at m_names m_status m_top m_bottom m_sort m_trayMany m_trays m_tape m_text m_taped m_size m_token m_from m_end m_value m_faultKind m_faultPlace m_faults m_seen m_areOdds m_opened m_depth m_counted m_eastBy m_northBy m_partBy m_wayFaults m_wayEast m_wayNorth m_olds m_wayMany m_oneOfSet m_twoOfSet m_farBy m_rowBy m_triedBy m_rowMany (upd m_doneAt k (-1)) m_gotAt (upd m_struckAt k (m_at 6)) (upd m_bestDeed k (-1)) m_misBy m_drawn m_ranSteps m_loops m_ran m_told1 m_isTold m_marks)) : Call Γ M_Mo_beginsAt 1 0 0 [.ref 0, .int (nI k)] (hM m_at m_names m_status m_top m_bottom m_sort m_trayMany m_trays m_tape m_text m_taped m_size m_token m_from m_end m_value m_faultKind m_faultPlace m_faults m_seen m_areOdds m_opened m_depth m_counted m_eastBy m_northBy m_partBy m_wayFaults m_wayEast m_wayNorth m_olds m_wayMany m_oneOfSet m_twoOfSet m_farBy m_rowBy m_triedBy m_rowMany m_doneAt m_gotAt m_struckAt m_bestDeed m_misBy m_drawn m_ranSteps m_loops m_ran m_told1 m_isTold m_marks) Q := by
  refine call_intro (ls := [some (.ref 0), some (.int (nI k))]) rfl rfl rfl ?_
  refine wp_aload_n 1 d_Mo_beginsAt_0 rfl rfl ?_
  refine wp_getfield 4 12 40 d_Mo_beginsAt_1 rfl fl_Mo_83 rfl rfl ?_
  refine wp_iload_n 5 d_Mo_beginsAt_4 rfl rfl ?_
  refine wp_aload_n 6 d_Mo_beginsAt_5 rfl rfl ?_
  refine wp_getfield 9 12 0 d_Mo_beginsAt_6 rfl fl_Mo_7 rfl rfl ?_
  refine wp_bipush 11 6 d_Mo_beginsAt_9 rfl (by decide) ?_
  refine wp_iaload 12 d_Mo_beginsAt_11 rfl rfl (vp_in_nI (n := 6) (N := 2332) (by omega) (by omega)) ?_
  refine wp_iastoreN 13 d_Mo_beginsAt_12 rfl rfl rfl (by omega) ?_
  refine hEq (hM m_at m_names m_status m_top m_bottom m_sort m_trayMany m_trays m_tape m_text m_taped m_size m_token m_from m_end m_value m_faultKind m_faultPlace m_faults m_seen m_areOdds m_opened m_depth m_counted m_eastBy m_northBy m_partBy m_wayFaults m_wayEast m_wayNorth m_olds m_wayMany m_oneOfSet m_twoOfSet m_farBy m_rowBy m_triedBy m_rowMany m_doneAt m_gotAt (upd m_struckAt k (m_at 6)) m_bestDeed m_misBy m_drawn m_ranSteps m_loops m_ran m_told1 m_isTold m_marks) rfl ?_
  refine wp_aload_n 14 d_Mo_beginsAt_13 rfl rfl ?_
  refine wp_getfield 17 12 38 d_Mo_beginsAt_14 rfl fl_Mo_77 rfl rfl ?_
  refine wp_iload_n 18 d_Mo_beginsAt_17 rfl rfl ?_
  refine wp_iconst 19 (-1) d_Mo_beginsAt_18 rfl (by decide) ?_
  refine wp_iastoreN 20 d_Mo_beginsAt_19 rfl rfl rfl (by omega) ?_
  refine hEq (hM m_at m_names m_status m_top m_bottom m_sort m_trayMany m_trays m_tape m_text m_taped m_size m_token m_from m_end m_value m_faultKind m_faultPlace m_faults m_seen m_areOdds m_opened m_depth m_counted m_eastBy m_northBy m_partBy m_wayFaults m_wayEast m_wayNorth m_olds m_wayMany m_oneOfSet m_twoOfSet m_farBy m_rowBy m_triedBy m_rowMany (upd m_doneAt k (-1)) m_gotAt (upd m_struckAt k (m_at 6)) m_bestDeed m_misBy m_drawn m_ranSteps m_loops m_ran m_told1 m_isTold m_marks) rfl ?_
  refine wp_aload_n 21 d_Mo_beginsAt_20 rfl rfl ?_
  refine wp_getfield 24 12 41 d_Mo_beginsAt_21 rfl fl_Mo_86 rfl rfl ?_
  refine wp_iload_n 25 d_Mo_beginsAt_24 rfl rfl ?_
  refine wp_iconst 26 (-1) d_Mo_beginsAt_25 rfl (by decide) ?_
  refine wp_iastoreN 27 d_Mo_beginsAt_26 rfl rfl rfl (by omega) ?_
  refine hEq (hM m_at m_names m_status m_top m_bottom m_sort m_trayMany m_trays m_tape m_text m_taped m_size m_token m_from m_end m_value m_faultKind m_faultPlace m_faults m_seen m_areOdds m_opened m_depth m_counted m_eastBy m_northBy m_partBy m_wayFaults m_wayEast m_wayNorth m_olds m_wayMany m_oneOfSet m_twoOfSet m_farBy m_rowBy m_triedBy m_rowMany (upd m_doneAt k (-1)) m_gotAt (upd m_struckAt k (m_at 6)) (upd m_bestDeed k (-1)) m_misBy m_drawn m_ranSteps m_loops m_ran m_told1 m_isTold m_marks) rfl ?_
  refine wp_return d_Mo_beginsAt_27 rfl ?_
  exact hq

set_option maxRecDepth 100000 in
set_option maxHeartbeats 4000000 in
theorem l_Mo_playing_19 (V : vT m_at t) {n k f : Nat} {sk : Int32} (hn : n ≤ 4) (hkn : k + f + 1 = n) (hch : ∀ f2, f = f2 + 1 → (∀ (dn gt sa bd : Nat → Int32) (v sk : Int32) (s : MS) (w3 w4 : Option Value), dn (k + 1) = -1 → bd (k + 1) = -1 → sa (k + 1) = sk → (∀ (dn2 gt2 sa2 bd2 : Nat → Int32) (v2 : Int32) (s2 : MS) (x3 x4 : Option Value), (∀ j, j < (k + 1) → dn2 j = dn j ∧ gt2 j = gt j ∧ sa2 j = sa j ∧ bd2 j = bd j) → sa2 ((k + 1)) = sk → RC (iterN (gmS t (f2) (k + 1) (lTh (nI t.nL) sk)) (t.nL + 1) 0 none) (gt2 ((k + 1))) (bd2 ((k + 1))) → WP Γ M_Mo_playing 8 0 0 (hM (upd m_at 6 v2) m_names m_status m_top m_bottom m_sort m_trayMany m_trays m_tape m_text m_taped m_size m_token m_from m_end m_value m_faultKind m_faultPlace m_faults m_seen m_areOdds m_opened m_depth m_counted (s2.2.1) (s2.2.2) (s2.1) m_wayFaults m_wayEast m_wayNorth m_olds m_wayMany m_oneOfSet m_twoOfSet m_farBy m_rowBy m_triedBy m_rowMany (dn2) (gt2) (sa2) (bd2) m_misBy m_drawn m_ranSteps m_loops m_ran m_told1 m_isTold m_marks) 59 [some (.ref 0), some (.int (nI n)), some (.int (nI ((k + 1)))), x3, x4] [] Q) → WP Γ M_Mo_playing 8 0 0 (hM (upd m_at 6 v) m_names m_status m_top m_bottom m_sort m_trayMany m_trays m_tape m_text m_taped m_size m_token m_from m_end m_value m_faultKind m_faultPlace m_faults m_seen m_areOdds m_opened m_depth m_counted (s.2.1) (s.2.2) (s.1) m_wayFaults m_wayEast m_wayNorth m_olds m_wayMany m_oneOfSet m_twoOfSet m_farBy m_rowBy m_triedBy m_rowMany (dn) (gt) (sa) (bd) m_misBy m_drawn m_ranSteps m_loops m_ran m_told1 m_isTold m_marks) 19 [some (.ref 0), some (.int (nI n)), some (.int (nI (k + 1))), w3, w4] [] Q)) : ∀ (r i : Nat) (dn gt sa bd : Nat → Int32) (v : Int32) (s : MS) (cur : ON) (w3 w4 : Option Value), i + r = t.nL + 1 → (dn k = nI i - 1 ∧ RC cur (gt k) (bd k) ∧ sa k = sk ∧ (∀ (dn2 gt2 sa2 bd2 : Nat → Int32) (v2 : Int32) (s2 : MS) (x3 x4 : Option Value), (∀ j, j < k → dn2 j = dn j ∧ gt2 j = gt j ∧ sa2 j = sa j ∧ bd2 j = bd j) → sa2 (k) = sk → RC (iterN (gmS t f k (lTh (nI t.nL) sk)) r i cur) (gt2 (k)) (bd2 (k)) → WP Γ M_Mo_playing 8 0 0 (hM (upd m_at 6 v2) m_names m_status m_top m_bottom m_sort m_trayMany m_trays m_tape m_text m_taped m_size m_token m_from m_end m_value m_faultKind m_faultPlace m_faults m_seen m_areOdds m_opened m_depth m_counted (s2.2.1) (s2.2.2) (s2.1) m_wayFaults m_wayEast m_wayNorth m_olds m_wayMany m_oneOfSet m_twoOfSet m_farBy m_rowBy m_triedBy m_rowMany (dn2) (gt2) (sa2) (bd2) m_misBy m_drawn m_ranSteps m_loops m_ran m_told1 m_isTold m_marks) 59 [some (.ref 0), some (.int (nI n)), some (.int (nI (k))), x3, x4] [] Q)) → WP Γ M_Mo_playing 8 0 0 (hM (upd m_at 6 v) m_names m_status m_top m_bottom m_sort m_trayMany m_trays m_tape m_text m_taped m_size m_token m_from m_end m_value m_faultKind m_faultPlace m_faults m_seen m_areOdds m_opened m_depth m_counted (s.2.1) (s.2.2) (s.1) m_wayFaults m_wayEast m_wayNorth m_olds m_wayMany m_oneOfSet m_twoOfSet m_farBy m_rowBy m_triedBy m_rowMany (dn) (gt) (sa) (bd) m_misBy m_drawn m_ranSteps m_loops m_ran m_told1 m_isTold m_marks) 19 [some (.ref 0), some (.int (nI n)), some (.int (nI (k))), w3, w4] [] Q := by
  intro r
  induction r with
  | zero =>
    intro i dn gt sa bd v s cur w3 w4 hi hinv
    obtain ⟨hdn, hrc, hsa, hup⟩ := hinv
    have hL12 := V.ok.hL
    refine wp_aload_n 20 d_Mo_playing_19 rfl rfl ?_
    refine wp_getfield 23 12 0 d_Mo_playing_20 rfl fl_Mo_7 rfl rfl ?_
    refine wp_bipush 25 6 d_Mo_playing_23 rfl (by decide) ?_
    refine wp_aload_n 26 d_Mo_playing_25 rfl rfl ?_
    refine wp_getfield 29 12 40 d_Mo_playing_26 rfl fl_Mo_83 rfl rfl ?_
    refine wp_iload_n 30 d_Mo_playing_29 rfl rfl ?_
    refine wp_ialoadN 31 d_Mo_playing_30 rfl rfl rfl (by omega) ?_
    rw [hsa]
    refine wp_iastore 32 d_Mo_playing_31 rfl rfl (vp_in_nI (n := 6) (N := 2332) (by omega) (by omega)) ?_
    refine hEq (hM (upd m_at 6 sk) m_names m_status m_top m_bottom m_sort m_trayMany m_trays m_tape m_text m_taped m_size m_token m_from m_end m_value m_faultKind m_faultPlace m_faults m_seen m_areOdds m_opened m_depth m_counted (s.2.1) (s.2.2) (s.1) m_wayFaults m_wayEast m_wayNorth m_olds m_wayMany m_oneOfSet m_twoOfSet m_farBy m_rowBy m_triedBy m_rowMany (dn) (gt) (sa) (bd) m_misBy m_drawn m_ranSteps m_loops m_ran m_told1 m_isTold m_marks) (congrArg (fun a => (hM a m_names m_status m_top m_bottom m_sort m_trayMany m_trays m_tape m_text m_taped m_size m_token m_from m_end m_value m_faultKind m_faultPlace m_faults m_seen m_areOdds m_opened m_depth m_counted (s.2.1) (s.2.2) (s.1) m_wayFaults m_wayEast m_wayNorth m_olds m_wayMany m_oneOfSet m_twoOfSet m_farBy m_rowBy m_triedBy m_rowMany (dn) (gt) (sa) (bd) m_misBy m_drawn m_ranSteps m_loops m_ran m_told1 m_isTold m_marks)) (show upd (upd m_at 6 v) 6 sk = upd m_at 6 sk from upd2)) ?_
    refine wp_aload_n 33 d_Mo_playing_32 rfl rfl ?_
    refine wp_getfield 36 12 38 d_Mo_playing_33 rfl fl_Mo_77 rfl rfl ?_
    refine wp_iload_n 37 d_Mo_playing_36 rfl rfl ?_
    refine wp_dup2 38 d_Mo_playing_37 rfl rfl rfl ?_
    refine wp_ialoadN 39 d_Mo_playing_38 rfl rfl rfl (by omega) ?_
    rw [hdn]
    refine wp_iconst 40 1 d_Mo_playing_39 rfl (by decide) ?_
    refine wp_iadd 41 d_Mo_playing_40 rfl ?_
    rw [show nI i - 1 + 1 = nI i from Int32.sub_add_cancel _ _]
    refine wp_iastoreN 42 d_Mo_playing_41 rfl rfl rfl (by omega) ?_
    refine hEq (hM (upd m_at 6 sk) m_names m_status m_top m_bottom m_sort m_trayMany m_trays m_tape m_text m_taped m_size m_token m_from m_end m_value m_faultKind m_faultPlace m_faults m_seen m_areOdds m_opened m_depth m_counted (s.2.1) (s.2.2) (s.1) m_wayFaults m_wayEast m_wayNorth m_olds m_wayMany m_oneOfSet m_twoOfSet m_farBy m_rowBy m_triedBy m_rowMany ((upd dn k (nI i))) (gt) (sa) (bd) m_misBy m_drawn m_ranSteps m_loops m_ran m_told1 m_isTold m_marks) rfl ?_
    refine wp_aload_n 43 d_Mo_playing_42 rfl rfl ?_
    refine wp_getfield 46 12 38 d_Mo_playing_43 rfl fl_Mo_77 rfl rfl ?_
    refine wp_iload_n 47 d_Mo_playing_46 rfl rfl ?_
    refine wp_ialoadN 48 d_Mo_playing_47 rfl rfl rfl (by omega) ?_
    rw [show upd dn k (nI i) k = nI i from if_pos rfl]
    refine wp_istore_3 49 d_Mo_playing_48 rfl rfl rfl ?_
    refine wp_iload_n 50 d_Mo_playing_49 rfl rfl ?_
    refine wp_aload_n 51 d_Mo_playing_50 rfl rfl ?_
    refine wp_getfield 54 12 0 d_Mo_playing_51 rfl fl_Mo_7 rfl rfl ?_
    refine wp_iconst 55 2 d_Mo_playing_54 rfl (by decide) ?_
    refine wp_iaload 56 d_Mo_playing_55 rfl rfl (vp_in_nI (n := 2) (N := 2332) (by omega) (by omega)) ?_
    rw [show upd m_at 6 sk (2 : Int32).toNatClampNeg = nI t.nL from (if_neg (by decide)).trans V.L]
    refine wp_icmp_le 85 59 d_Mo_playing_56 rfl (by decide) (fun h56 => ?_) (fun h56 => ?_)
    · exact absurd (nI_leN (a := t.nL) (b := i) h56 (by omega) (by omega)) (by omega)
    · exact hup _ _ _ _ _ _ _ _ (fun j hj => ⟨upd_ne (by omega), rfl, rfl, rfl⟩) hsa hrc
  | succ r ih =>
    intro i dn gt sa bd v s cur w3 w4 hi hinv
    obtain ⟨hdn, hrc, hsa, hup⟩ := hinv
    have hL12 := V.ok.hL
    refine wp_aload_n 20 d_Mo_playing_19 rfl rfl ?_
    refine wp_getfield 23 12 0 d_Mo_playing_20 rfl fl_Mo_7 rfl rfl ?_
    refine wp_bipush 25 6 d_Mo_playing_23 rfl (by decide) ?_
    refine wp_aload_n 26 d_Mo_playing_25 rfl rfl ?_
    refine wp_getfield 29 12 40 d_Mo_playing_26 rfl fl_Mo_83 rfl rfl ?_
    refine wp_iload_n 30 d_Mo_playing_29 rfl rfl ?_
    refine wp_ialoadN 31 d_Mo_playing_30 rfl rfl rfl (by omega) ?_
    rw [hsa]
    refine wp_iastore 32 d_Mo_playing_31 rfl rfl (vp_in_nI (n := 6) (N := 2332) (by omega) (by omega)) ?_
    refine hEq (hM (upd m_at 6 sk) m_names m_status m_top m_bottom m_sort m_trayMany m_trays m_tape m_text m_taped m_size m_token m_from m_end m_value m_faultKind m_faultPlace m_faults m_seen m_areOdds m_opened m_depth m_counted (s.2.1) (s.2.2) (s.1) m_wayFaults m_wayEast m_wayNorth m_olds m_wayMany m_oneOfSet m_twoOfSet m_farBy m_rowBy m_triedBy m_rowMany (dn) (gt) (sa) (bd) m_misBy m_drawn m_ranSteps m_loops m_ran m_told1 m_isTold m_marks) (congrArg (fun a => (hM a m_names m_status m_top m_bottom m_sort m_trayMany m_trays m_tape m_text m_taped m_size m_token m_from m_end m_value m_faultKind m_faultPlace m_faults m_seen m_areOdds m_opened m_depth m_counted (s.2.1) (s.2.2) (s.1) m_wayFaults m_wayEast m_wayNorth m_olds m_wayMany m_oneOfSet m_twoOfSet m_farBy m_rowBy m_triedBy m_rowMany (dn) (gt) (sa) (bd) m_misBy m_drawn m_ranSteps m_loops m_ran m_told1 m_isTold m_marks)) (show upd (upd m_at 6 v) 6 sk = upd m_at 6 sk from upd2)) ?_
    refine wp_aload_n 33 d_Mo_playing_32 rfl rfl ?_
    refine wp_getfield 36 12 38 d_Mo_playing_33 rfl fl_Mo_77 rfl rfl ?_
    refine wp_iload_n 37 d_Mo_playing_36 rfl rfl ?_
    refine wp_dup2 38 d_Mo_playing_37 rfl rfl rfl ?_
    refine wp_ialoadN 39 d_Mo_playing_38 rfl rfl rfl (by omega) ?_
    rw [hdn]
    refine wp_iconst 40 1 d_Mo_playing_39 rfl (by decide) ?_
    refine wp_iadd 41 d_Mo_playing_40 rfl ?_
    rw [show nI i - 1 + 1 = nI i from Int32.sub_add_cancel _ _]
    refine wp_iastoreN 42 d_Mo_playing_41 rfl rfl rfl (by omega) ?_
    refine hEq (hM (upd m_at 6 sk) m_names m_status m_top m_bottom m_sort m_trayMany m_trays m_tape m_text m_taped m_size m_token m_from m_end m_value m_faultKind m_faultPlace m_faults m_seen m_areOdds m_opened m_depth m_counted (s.2.1) (s.2.2) (s.1) m_wayFaults m_wayEast m_wayNorth m_olds m_wayMany m_oneOfSet m_twoOfSet m_farBy m_rowBy m_triedBy m_rowMany ((upd dn k (nI i))) (gt) (sa) (bd) m_misBy m_drawn m_ranSteps m_loops m_ran m_told1 m_isTold m_marks) rfl ?_
    refine wp_aload_n 43 d_Mo_playing_42 rfl rfl ?_
    refine wp_getfield 46 12 38 d_Mo_playing_43 rfl fl_Mo_77 rfl rfl ?_
    refine wp_iload_n 47 d_Mo_playing_46 rfl rfl ?_
    refine wp_ialoadN 48 d_Mo_playing_47 rfl rfl rfl (by omega) ?_
    rw [show upd dn k (nI i) k = nI i from if_pos rfl]
    refine wp_istore_3 49 d_Mo_playing_48 rfl rfl rfl ?_
    refine wp_iload_n 50 d_Mo_playing_49 rfl rfl ?_
    refine wp_aload_n 51 d_Mo_playing_50 rfl rfl ?_
    refine wp_getfield 54 12 0 d_Mo_playing_51 rfl fl_Mo_7 rfl rfl ?_
    refine wp_iconst 55 2 d_Mo_playing_54 rfl (by decide) ?_
    refine wp_iaload 56 d_Mo_playing_55 rfl rfl (vp_in_nI (n := 2) (N := 2332) (by omega) (by omega)) ?_
    rw [show upd m_at 6 sk (2 : Int32).toNatClampNeg = nI t.nL from (if_neg (by decide)).trans V.L]
    refine wp_icmp_le 85 59 d_Mo_playing_56 rfl (by decide) (fun h56 => ?_) (fun h56 => ?_)
    · refine wp_iload_n 86 d_Mo_playing_85 rfl rfl ?_
      refine wp_aload_n 87 d_Mo_playing_86 rfl rfl ?_
      refine wp_getfield 90 12 0 d_Mo_playing_87 rfl fl_Mo_7 rfl rfl ?_
      refine wp_iconst 91 2 d_Mo_playing_90 rfl (by decide) ?_
      refine wp_iaload 92 d_Mo_playing_91 rfl rfl (vp_in_nI (n := 2) (N := 2332) (by omega) (by omega)) ?_
      rw [show upd m_at 6 sk (2 : Int32).toNatClampNeg = nI t.nL from (if_neg (by decide)).trans V.L]
      refine wp_icmp_ge 99 95 d_Mo_playing_92 rfl (by decide) (fun h92 => ?_) (fun h92 => ?_)
      · refine wp_iconst 100 0 d_Mo_playing_99 rfl (by decide) ?_
        refine wp_istore_4 102 d_Mo_playing_100 rfl rfl rfl ?_
        refine wp_iload 104 d_Mo_playing_102 rfl rfl ?_
        refine wp_if_eq 135 107 d_Mo_playing_104 rfl (by decide) (fun h104 => ?_) (fun h104 => ?_)
        · have hth : lTh (nI t.nL) sk = lTh (nI t.nL) sk := rfl
          have hcv : cV t f k (lTh (nI t.nL) sk) i = some (mmV t f (k + 1) (lTh (nI t.nL) sk)) := if_neg (by have := nI_leN (a := i) (b := t.nL) h92 (by omega) (by omega); omega)
          refine wp_iload_n 136 d_Mo_playing_135 rfl rfl ?_
          refine wp_iconst 137 1 d_Mo_playing_136 rfl (by decide) ?_
          refine wp_iadd 138 d_Mo_playing_137 rfl ?_
          rw [nI_1]
          refine wp_iload_n 139 d_Mo_playing_138 rfl rfl ?_
          refine wp_icmp_ne 157 142 d_Mo_playing_139 rfl (by decide) (fun h139 => ?_) (fun h139 => ?_)
          · have hk1 : ¬ k + 1 = n := fun y => h139 (by rw [y])
            refine wp_iincN_2 160 d_Mo_playing_157 rfl rfl rfl ?_
            refine wp_aload_n 161 d_Mo_playing_160 rfl rfl ?_
            refine wp_iload_n 162 d_Mo_playing_161 rfl rfl ?_
            refine wp_V1 165 M_Mo_beginsAt 1 d_Mo_playing_162 rfl mv_Mo_beginsAt lk_Mo_443 rfl rfl rfl rfl rfl ?_
            refine c_Mo_beginsAt (by omega) ?_
            refine kV ?_
            refine wp_goto 19 d_Mo_playing_165 (by decide) ?_
            obtain ⟨f2, rfl⟩ : ∃ f2, f = f2 + 1 := ⟨f - 1, by omega⟩
            obtain ⟨dd, hdd, hgm, -, -⟩ := GM (t := t) f2 (k + 1) (lTh (nI t.nL) sk)
            refine hch f2 rfl (upd (upd dn k (nI i)) (k + 1) (-1)) gt (upd sa (k + 1) (upd m_at 6 sk 6)) (upd bd (k + 1) (-1)) sk sk s _ _ (if_pos rfl) (if_pos rfl) ((if_pos rfl).trans (if_pos rfl)) (fun d2 g2 a2 b2 v2 s2 x3 x4 q1 q2 q3 => ?_)
            rw [hgm] at q3
            obtain ⟨qb, qg, qx, -⟩ := q3
            obtain ⟨p1, p2, p3, p4⟩ := q1 k (by omega)
            have hdk : d2 k = nI i := by rw [p1, upd_ne (by omega)]; exact if_pos rfl
            have hrk : RC cur (g2 k) (b2 k) := by rw [p2, p4, upd_ne (by omega)]; exact hrc
            have hak : a2 k = sk := by rw [p3, upd_ne (by omega)]; exact hsa
            refine wp_iload_n 60 d_Mo_playing_59 rfl rfl ?_
            refine wp_if_ne 66 63 d_Mo_playing_60 rfl (by decide) (fun h60 => ?_) (fun h60 => ?_)
            · refine wp_iinc_2 69 (-1) d_Mo_playing_66 rfl (by decide) rfl rfl ?_
              refine qL2 (show _ = [some (.ref 0), some (.int (nI n)), some (.int (nI (k))), x3, x4] from by rw [show nI (k + 1) + (-1) = nI k from by rw [← nI_1, Int32.add_assoc, show (1 : Int32) + (-1) = 0 from by decide, add_0]]) ?_
              refine wp_aload_n 70 d_Mo_playing_69 rfl rfl ?_
              refine wp_iload_n 71 d_Mo_playing_70 rfl rfl ?_
              refine wp_aload_n 72 d_Mo_playing_71 rfl rfl ?_
              refine wp_getfield 75 12 39 d_Mo_playing_72 rfl fl_Mo_80 rfl rfl ?_
              refine wp_iload_n 76 d_Mo_playing_75 rfl rfl ?_
              refine wp_iconst 77 1 d_Mo_playing_76 rfl (by decide) ?_
              refine wp_iadd 78 d_Mo_playing_77 rfl ?_
              rw [nI_1]
              refine wp_ialoadN 79 d_Mo_playing_78 rfl rfl rfl (by omega) ?_
              rw [qg]
              refine wp_V2 82 M_Mo_settles 1 d_Mo_playing_79 rfl mv_Mo_settles lk_Mo_446 rfl rfl rfl rfl rfl ?_
              refine c_Mo_settles (cur := cur) (by omega) (by omega) (mmV_le V.ok _ _ _) hdk hrk (fun g4 b4 hr4 ho4 => ?_)
              refine kV ?_
              refine wp_goto 19 d_Mo_playing_82 (by decide) ?_
              have hcv2 : cV t (f2 + 1) k (lTh (nI t.nL) sk) i = some (mmV t (f2 + 1) (k + 1) (lTh (nI t.nL) sk)) := by rw [hcv, hth]
              have e : iterN (gmS t (f2 + 1) k (lTh (nI t.nL) sk)) (r + 1) i cur = iterN (gmS t (f2 + 1) k (lTh (nI t.nL) sk)) r (i + 1) (stl k cur (mmV t (f2 + 1) (k + 1) (lTh (nI t.nL) sk)) i) := by simp only [iterN]; rw [gmS_v hcv2]
              rw [e] at hup
              exact ih (i + 1) d2 g4 a2 b4 v2 s2 _ _ _ (by omega) ⟨by rw [hdk, show nI (i + 1) = nI i + 1 from (nI_1 i).symm]; exact (Int32.add_sub_cancel _ _).symm, hr4, hak, fun d5 g5 a5 b5 v5 s5 x5 x6 u1 u2 u3 => hup d5 g5 a5 b5 v5 s5 x5 x6 (fun j hj => by
                obtain ⟨m1, m2, m3, m4⟩ := u1 j hj
                obtain ⟨n1, n2, n3, n4⟩ := q1 j (by omega)
                exact ⟨m1.trans (n1.trans ((upd_ne (by omega)).trans (upd_ne (by omega)))), m2.trans ((ho4 j (by omega)).1.trans n2), m3.trans (n3.trans (upd_ne (by omega))), m4.trans ((ho4 j (by omega)).2.trans (n4.trans (upd_ne (by omega))))⟩) u2 u3⟩
            · exact absurd (nI_ij (b := 0) h60 (by omega) (by omega)) (by omega)
          · have hk1 : k + 1 = n := nI_ij h139 (by omega) (by omega)
            refine wp_aload_n 143 d_Mo_playing_142 rfl rfl ?_
            refine wp_iload_n 144 d_Mo_playing_143 rfl rfl ?_
            refine wp_aload_n 145 d_Mo_playing_144 rfl rfl ?_
            refine wp_V0 148 M_Mo_lying 7 d_Mo_playing_145 rfl mv_Mo_lying lk_Mo_328 rfl rfl rfl rfl rfl ?_
            refine c_Mo_lying (vT_sk V sk) (fun s9 hch9 => ?_)
            refine kI ?_
            refine wp_S1 151 M_Mo_bits 1 d_Mo_playing_148 rfl ms_Mo_bits lk_Mo_363 rfl rfl ?_
            refine c_Mo_bits (tLi_in (t := tSk t sk) V.ok) ?_
            refine kI ?_
            rw [show bcR (tLi (tSk t sk)) = nI (bcR (lyT t (lTh (nI t.nL) sk))).toNatClampNeg from (lyT_7 V.ok _).2.1]
            have ly7 := lyT_7 V.ok (lTh (nI t.nL) sk)
            refine wp_V2 154 M_Mo_settles 1 d_Mo_playing_151 rfl mv_Mo_settles lk_Mo_446 rfl rfl rfl rfl rfl ?_
            refine c_Mo_settles (cur := cur) (by omega) (by omega) ly7.2.2 (show (upd dn k (nI i)) k = nI i from if_pos rfl) hrc (fun g2 b2 hr2 ho2 => ?_)
            refine kV ?_
            refine wp_goto 165 d_Mo_playing_154 (by decide) ?_
            refine wp_goto 19 d_Mo_playing_165 (by decide) ?_
            have hcv2 : cV t f k (lTh (nI t.nL) sk) i = some (bcR (lyT t (lTh (nI t.nL) sk))).toNatClampNeg := by rw [hcv, show f = 0 by omega, hth]; rfl
            have e : iterN (gmS t f k (lTh (nI t.nL) sk)) (r + 1) i cur = iterN (gmS t f k (lTh (nI t.nL) sk)) r (i + 1) (stl k cur (bcR (lyT t (lTh (nI t.nL) sk))).toNatClampNeg i) := by simp only [iterN]; rw [gmS_v hcv2]
            rw [e] at hup
            exact ih (i + 1) (upd dn k (nI i)) g2 sa b2 sk s9 _ _ _ (by omega) ⟨by rw [show (upd dn k (nI i)) k = nI i from if_pos rfl, show nI (i + 1) = nI i + 1 from (nI_1 i).symm]; exact (Int32.add_sub_cancel _ _).symm, hr2, hsa, fun d2 g3 a3 b3 v3 s3 x3 x4 q1 q2 q3 => hup d2 g3 a3 b3 v3 s3 x3 x4 (fun j hj => ⟨(q1 j hj).1.trans (upd_ne (by omega)), (q1 j hj).2.1.trans (ho2 j (by omega)).1, (q1 j hj).2.2.1, (q1 j hj).2.2.2.trans (ho2 j (by omega)).2⟩) q2 q3⟩
        · exact absurd rfl h104
      · have hin9 : i < t.nL := nI_nleN h92 (by omega) (by omega)
        refine wp_iconst 96 1 d_Mo_playing_95 rfl (by decide) ?_
        refine wp_goto 100 d_Mo_playing_96 (by decide) ?_
        refine wp_istore_4 102 d_Mo_playing_100 rfl rfl rfl ?_
        refine wp_iload 104 d_Mo_playing_102 rfl rfl ?_
        refine wp_if_eq 135 107 d_Mo_playing_104 rfl (by decide) (fun h104 => ?_) (fun h104 => ?_)
        · exact absurd h104 (by decide)
        · refine wp_iload_n 108 d_Mo_playing_107 rfl rfl ?_
          refine wp_iconst 109 2 d_Mo_playing_108 rfl (by decide) ?_
          refine wp_irem 110 d_Mo_playing_109 rfl (by decide) ?_
          refine wp_if_ne 124 113 d_Mo_playing_110 rfl (by decide) (fun h110 => ?_) (fun h110 => ?_)
          · have he : ¬ k % 2 = 0 := fun y => h110 ((par2 k (by omega)).mpr y)
            refine wp_aload_n 125 d_Mo_playing_124 rfl rfl ?_
            refine wp_iload_n 126 d_Mo_playing_125 rfl rfl ?_
            refine wp_V1 129 M_Mo_restores1 2 d_Mo_playing_126 rfl mv_Mo_restores1 lk_Mo_366 rfl rfl rfl rfl rfl ?_
            refine c_Mo_restores1 (vT_sk V sk) (fun h9 => ?_) (fun h9 => ?_)
            · refine kI ?_
              (first | refine wp_ifP_ne 135 132 d_Mo_playing_129 rfl (by decide) (fun h129 => ?_) (fun h129 => ?_) | refine wp_if_ne 135 132 d_Mo_playing_129 rfl (by decide) (fun h129 => ?_) (fun h129 => ?_))
              · exact absurd rfl h129
              · refine wp_goto 19 d_Mo_playing_132 (by decide) ?_
                have hcv : cV t f k (lTh (nI t.nL) sk) i = none := (cV_k (by omega)).trans (if_neg (fun y => he (y.mp ((hs_th hL12 (by omega)).mpr h9))))
                have e : iterN (gmS t f k (lTh (nI t.nL) sk)) (r + 1) i cur = iterN (gmS t f k (lTh (nI t.nL) sk)) r (i + 1) cur := by simp only [iterN]; rw [gmS_n hcv]
                rw [e] at hup
                exact ih (i + 1) (upd dn k (nI i)) gt sa bd sk s cur _ _ (by omega) ⟨by rw [show (upd dn k (nI i)) k = nI i from if_pos rfl, show nI (i + 1) = nI i + 1 from (nI_1 i).symm]; exact (Int32.add_sub_cancel _ _).symm, hrc, hsa, fun d2 g2 a2 b2 v2 s2 x3 x4 q1 q2 q3 => hup d2 g2 a2 b2 v2 s2 x3 x4 (fun j hj => ⟨(q1 j hj).1.trans (upd_ne (by omega)), (q1 j hj).2⟩) q2 q3⟩
            · refine kI ?_
              refine hEq (hM (upd m_at 6 (sk &&& (bit (nI i) ^^^ (-1)))) m_names m_status m_top m_bottom m_sort m_trayMany m_trays m_tape m_text m_taped m_size m_token m_from m_end m_value m_faultKind m_faultPlace m_faults m_seen m_areOdds m_opened m_depth m_counted (s.2.1) (s.2.2) (s.1) m_wayFaults m_wayEast m_wayNorth m_olds m_wayMany m_oneOfSet m_twoOfSet m_farBy m_rowBy m_triedBy m_rowMany ((upd dn k (nI i))) (gt) (sa) (bd) m_misBy m_drawn m_ranSteps m_loops m_ran m_told1 m_isTold m_marks) (congrArg (fun a => (hM a m_names m_status m_top m_bottom m_sort m_trayMany m_trays m_tape m_text m_taped m_size m_token m_from m_end m_value m_faultKind m_faultPlace m_faults m_seen m_areOdds m_opened m_depth m_counted (s.2.1) (s.2.2) (s.1) m_wayFaults m_wayEast m_wayNorth m_olds m_wayMany m_oneOfSet m_twoOfSet m_farBy m_rowBy m_triedBy m_rowMany ((upd dn k (nI i))) (gt) (sa) (bd) m_misBy m_drawn m_ranSteps m_loops m_ran m_told1 m_isTold m_marks)) (show upd (upd m_at 6 sk) 6 (sk &&& (bit (nI i) ^^^ (-1))) = upd m_at 6 (sk &&& (bit (nI i) ^^^ (-1))) from upd2)) ?_
              refine wp_if_ne 135 132 d_Mo_playing_129 rfl (by decide) (fun h129 => ?_) (fun h129 => ?_)
              · have hth : lTh (nI t.nL) (sk &&& (bit (nI i) ^^^ (-1))) = lTh (nI t.nL) sk ^^^ bit (nI i) := th_xor2 hL12 (by omega) h9
                have hcv : cV t f k (lTh (nI t.nL) sk) i = some (mmV t f (k + 1) (lTh (nI t.nL) sk ^^^ bit (nI i))) := (cV_k (by omega)).trans (if_pos ⟨fun y => absurd h9 ((hs_th hL12 (by omega)).mp y), fun y => absurd y he⟩)
                refine wp_iload_n 136 d_Mo_playing_135 rfl rfl ?_
                refine wp_iconst 137 1 d_Mo_playing_136 rfl (by decide) ?_
                refine wp_iadd 138 d_Mo_playing_137 rfl ?_
                rw [nI_1]
                refine wp_iload_n 139 d_Mo_playing_138 rfl rfl ?_
                refine wp_icmp_ne 157 142 d_Mo_playing_139 rfl (by decide) (fun h139 => ?_) (fun h139 => ?_)
                · have hk1 : ¬ k + 1 = n := fun y => h139 (by rw [y])
                  refine wp_iincN_2 160 d_Mo_playing_157 rfl rfl rfl ?_
                  refine wp_aload_n 161 d_Mo_playing_160 rfl rfl ?_
                  refine wp_iload_n 162 d_Mo_playing_161 rfl rfl ?_
                  refine wp_V1 165 M_Mo_beginsAt 1 d_Mo_playing_162 rfl mv_Mo_beginsAt lk_Mo_443 rfl rfl rfl rfl rfl ?_
                  refine c_Mo_beginsAt (by omega) ?_
                  refine kV ?_
                  refine wp_goto 19 d_Mo_playing_165 (by decide) ?_
                  obtain ⟨f2, rfl⟩ : ∃ f2, f = f2 + 1 := ⟨f - 1, by omega⟩
                  obtain ⟨dd, hdd, hgm, -, -⟩ := GM (t := t) f2 (k + 1) (lTh (nI t.nL) (sk &&& (bit (nI i) ^^^ (-1))))
                  refine hch f2 rfl (upd (upd dn k (nI i)) (k + 1) (-1)) gt (upd sa (k + 1) (upd m_at 6 (sk &&& (bit (nI i) ^^^ (-1))) 6)) (upd bd (k + 1) (-1)) (sk &&& (bit (nI i) ^^^ (-1))) (sk &&& (bit (nI i) ^^^ (-1))) s _ _ (if_pos rfl) (if_pos rfl) ((if_pos rfl).trans (if_pos rfl)) (fun d2 g2 a2 b2 v2 s2 x3 x4 q1 q2 q3 => ?_)
                  rw [hgm] at q3
                  obtain ⟨qb, qg, qx, -⟩ := q3
                  obtain ⟨p1, p2, p3, p4⟩ := q1 k (by omega)
                  have hdk : d2 k = nI i := by rw [p1, upd_ne (by omega)]; exact if_pos rfl
                  have hrk : RC cur (g2 k) (b2 k) := by rw [p2, p4, upd_ne (by omega)]; exact hrc
                  have hak : a2 k = sk := by rw [p3, upd_ne (by omega)]; exact hsa
                  refine wp_iload_n 60 d_Mo_playing_59 rfl rfl ?_
                  refine wp_if_ne 66 63 d_Mo_playing_60 rfl (by decide) (fun h60 => ?_) (fun h60 => ?_)
                  · refine wp_iinc_2 69 (-1) d_Mo_playing_66 rfl (by decide) rfl rfl ?_
                    refine qL2 (show _ = [some (.ref 0), some (.int (nI n)), some (.int (nI (k))), x3, x4] from by rw [show nI (k + 1) + (-1) = nI k from by rw [← nI_1, Int32.add_assoc, show (1 : Int32) + (-1) = 0 from by decide, add_0]]) ?_
                    refine wp_aload_n 70 d_Mo_playing_69 rfl rfl ?_
                    refine wp_iload_n 71 d_Mo_playing_70 rfl rfl ?_
                    refine wp_aload_n 72 d_Mo_playing_71 rfl rfl ?_
                    refine wp_getfield 75 12 39 d_Mo_playing_72 rfl fl_Mo_80 rfl rfl ?_
                    refine wp_iload_n 76 d_Mo_playing_75 rfl rfl ?_
                    refine wp_iconst 77 1 d_Mo_playing_76 rfl (by decide) ?_
                    refine wp_iadd 78 d_Mo_playing_77 rfl ?_
                    rw [nI_1]
                    refine wp_ialoadN 79 d_Mo_playing_78 rfl rfl rfl (by omega) ?_
                    rw [qg]
                    refine wp_V2 82 M_Mo_settles 1 d_Mo_playing_79 rfl mv_Mo_settles lk_Mo_446 rfl rfl rfl rfl rfl ?_
                    refine c_Mo_settles (cur := cur) (by omega) (by omega) (mmV_le V.ok _ _ _) hdk hrk (fun g4 b4 hr4 ho4 => ?_)
                    refine kV ?_
                    refine wp_goto 19 d_Mo_playing_82 (by decide) ?_
                    have hcv2 : cV t (f2 + 1) k (lTh (nI t.nL) sk) i = some (mmV t (f2 + 1) (k + 1) (lTh (nI t.nL) (sk &&& (bit (nI i) ^^^ (-1))))) := by rw [hcv, hth]
                    have e : iterN (gmS t (f2 + 1) k (lTh (nI t.nL) sk)) (r + 1) i cur = iterN (gmS t (f2 + 1) k (lTh (nI t.nL) sk)) r (i + 1) (stl k cur (mmV t (f2 + 1) (k + 1) (lTh (nI t.nL) (sk &&& (bit (nI i) ^^^ (-1))))) i) := by simp only [iterN]; rw [gmS_v hcv2]
                    rw [e] at hup
                    exact ih (i + 1) d2 g4 a2 b4 v2 s2 _ _ _ (by omega) ⟨by rw [hdk, show nI (i + 1) = nI i + 1 from (nI_1 i).symm]; exact (Int32.add_sub_cancel _ _).symm, hr4, hak, fun d5 g5 a5 b5 v5 s5 x5 x6 u1 u2 u3 => hup d5 g5 a5 b5 v5 s5 x5 x6 (fun j hj => by
                      obtain ⟨m1, m2, m3, m4⟩ := u1 j hj
                      obtain ⟨n1, n2, n3, n4⟩ := q1 j (by omega)
                      exact ⟨m1.trans (n1.trans ((upd_ne (by omega)).trans (upd_ne (by omega)))), m2.trans ((ho4 j (by omega)).1.trans n2), m3.trans (n3.trans (upd_ne (by omega))), m4.trans ((ho4 j (by omega)).2.trans (n4.trans (upd_ne (by omega))))⟩) u2 u3⟩
                  · exact absurd (nI_ij (b := 0) h60 (by omega) (by omega)) (by omega)
                · have hk1 : k + 1 = n := nI_ij h139 (by omega) (by omega)
                  refine wp_aload_n 143 d_Mo_playing_142 rfl rfl ?_
                  refine wp_iload_n 144 d_Mo_playing_143 rfl rfl ?_
                  refine wp_aload_n 145 d_Mo_playing_144 rfl rfl ?_
                  refine wp_V0 148 M_Mo_lying 7 d_Mo_playing_145 rfl mv_Mo_lying lk_Mo_328 rfl rfl rfl rfl rfl ?_
                  refine c_Mo_lying (vT_sk V (sk &&& (bit (nI i) ^^^ (-1)))) (fun s9 hch9 => ?_)
                  refine kI ?_
                  refine wp_S1 151 M_Mo_bits 1 d_Mo_playing_148 rfl ms_Mo_bits lk_Mo_363 rfl rfl ?_
                  refine c_Mo_bits (tLi_in (t := tSk t (sk &&& (bit (nI i) ^^^ (-1)))) V.ok) ?_
                  refine kI ?_
                  rw [show bcR (tLi (tSk t (sk &&& (bit (nI i) ^^^ (-1))))) = nI (bcR (lyT t (lTh (nI t.nL) (sk &&& (bit (nI i) ^^^ (-1)))))).toNatClampNeg from (lyT_7 V.ok _).2.1]
                  have ly7 := lyT_7 V.ok (lTh (nI t.nL) (sk &&& (bit (nI i) ^^^ (-1))))
                  refine wp_V2 154 M_Mo_settles 1 d_Mo_playing_151 rfl mv_Mo_settles lk_Mo_446 rfl rfl rfl rfl rfl ?_
                  refine c_Mo_settles (cur := cur) (by omega) (by omega) ly7.2.2 (show (upd dn k (nI i)) k = nI i from if_pos rfl) hrc (fun g2 b2 hr2 ho2 => ?_)
                  refine kV ?_
                  refine wp_goto 165 d_Mo_playing_154 (by decide) ?_
                  refine wp_goto 19 d_Mo_playing_165 (by decide) ?_
                  have hcv2 : cV t f k (lTh (nI t.nL) sk) i = some (bcR (lyT t (lTh (nI t.nL) (sk &&& (bit (nI i) ^^^ (-1)))))).toNatClampNeg := by rw [hcv, show f = 0 by omega, hth]; rfl
                  have e : iterN (gmS t f k (lTh (nI t.nL) sk)) (r + 1) i cur = iterN (gmS t f k (lTh (nI t.nL) sk)) r (i + 1) (stl k cur (bcR (lyT t (lTh (nI t.nL) (sk &&& (bit (nI i) ^^^ (-1)))))).toNatClampNeg i) := by simp only [iterN]; rw [gmS_v hcv2]
                  rw [e] at hup
                  exact ih (i + 1) (upd dn k (nI i)) g2 sa b2 (sk &&& (bit (nI i) ^^^ (-1))) s9 _ _ _ (by omega) ⟨by rw [show (upd dn k (nI i)) k = nI i from if_pos rfl, show nI (i + 1) = nI i + 1 from (nI_1 i).symm]; exact (Int32.add_sub_cancel _ _).symm, hr2, hsa, fun d2 g3 a3 b3 v3 s3 x3 x4 q1 q2 q3 => hup d2 g3 a3 b3 v3 s3 x3 x4 (fun j hj => ⟨(q1 j hj).1.trans (upd_ne (by omega)), (q1 j hj).2.1.trans (ho2 j (by omega)).1, (q1 j hj).2.2.1, (q1 j hj).2.2.2.trans (ho2 j (by omega)).2⟩) q2 q3⟩
              · exact absurd h129 (by decide)
          · have he := (par2 k (by omega)).mp h110
            refine wp_aload_n 114 d_Mo_playing_113 rfl rfl ?_
            refine wp_iload_n 115 d_Mo_playing_114 rfl rfl ?_
            refine wp_V1 118 M_Mo_strikes 3 d_Mo_playing_115 rfl mv_Mo_strikes lk_Mo_360 rfl rfl rfl rfl rfl ?_
            refine c_Mo_strikes (vT_sk V sk) (fun h9 => ?_) (fun h9 => ?_)
            · refine kI ?_
              (first | refine wp_ifP_eq 19 121 d_Mo_playing_118 rfl (by decide) (fun h118 => ?_) (fun h118 => ?_) | refine wp_if_eq 19 121 d_Mo_playing_118 rfl (by decide) (fun h118 => ?_) (fun h118 => ?_))
              · have hcv : cV t f k (lTh (nI t.nL) sk) i = none := (cV_k (by omega)).trans (if_neg (fun y => h9 ((moC_th (t := tSk t sk) V.ok hin9).mpr (y.mpr he))))
                have e : iterN (gmS t f k (lTh (nI t.nL) sk)) (r + 1) i cur = iterN (gmS t f k (lTh (nI t.nL) sk)) r (i + 1) cur := by simp only [iterN]; rw [gmS_n hcv]
                rw [e] at hup
                exact ih (i + 1) (upd dn k (nI i)) gt sa bd sk s cur _ _ (by omega) ⟨by rw [show (upd dn k (nI i)) k = nI i from if_pos rfl, show nI (i + 1) = nI i + 1 from (nI_1 i).symm]; exact (Int32.add_sub_cancel _ _).symm, hrc, hsa, fun d2 g2 a2 b2 v2 s2 x3 x4 q1 q2 q3 => hup d2 g2 a2 b2 v2 s2 x3 x4 (fun j hj => ⟨(q1 j hj).1.trans (upd_ne (by omega)), (q1 j hj).2⟩) q2 q3⟩
              · exact absurd rfl h118
            · refine kI ?_
              refine hEq (hM (upd m_at 6 (sk ||| bit (nI i))) m_names m_status m_top m_bottom m_sort m_trayMany m_trays m_tape m_text m_taped m_size m_token m_from m_end m_value m_faultKind m_faultPlace m_faults m_seen m_areOdds m_opened m_depth m_counted (s.2.1) (s.2.2) (s.1) m_wayFaults m_wayEast m_wayNorth m_olds m_wayMany m_oneOfSet m_twoOfSet m_farBy m_rowBy m_triedBy m_rowMany ((upd dn k (nI i))) (gt) (sa) (bd) m_misBy m_drawn m_ranSteps m_loops m_ran m_told1 m_isTold m_marks) (congrArg (fun a => (hM a m_names m_status m_top m_bottom m_sort m_trayMany m_trays m_tape m_text m_taped m_size m_token m_from m_end m_value m_faultKind m_faultPlace m_faults m_seen m_areOdds m_opened m_depth m_counted (s.2.1) (s.2.2) (s.1) m_wayFaults m_wayEast m_wayNorth m_olds m_wayMany m_oneOfSet m_twoOfSet m_farBy m_rowBy m_triedBy m_rowMany ((upd dn k (nI i))) (gt) (sa) (bd) m_misBy m_drawn m_ranSteps m_loops m_ran m_told1 m_isTold m_marks)) (show upd (upd m_at 6 sk) 6 (sk ||| bit (nI i)) = upd m_at 6 (sk ||| bit (nI i)) from upd2)) ?_
              have hthi : hs (lTh (nI t.nL) sk) (nI i) := (hs_th hL12 (by omega)).mpr h9.2
              refine wp_if_eq 19 121 d_Mo_playing_118 rfl (by decide) (fun h118 => ?_) (fun h118 => ?_)
              · exact absurd h118 (by decide)
              · refine wp_goto 135 d_Mo_playing_121 (by decide) ?_
                have hth : lTh (nI t.nL) (sk ||| bit (nI i)) = lTh (nI t.nL) sk ^^^ bit (nI i) := th_xor (by omega) hthi
                have hcv : cV t f k (lTh (nI t.nL) sk) i = some (mmV t f (k + 1) (lTh (nI t.nL) sk ^^^ bit (nI i))) := (cV_k (by omega)).trans (if_pos ⟨fun _ => he, fun _ => hthi⟩)
                refine wp_iload_n 136 d_Mo_playing_135 rfl rfl ?_
                refine wp_iconst 137 1 d_Mo_playing_136 rfl (by decide) ?_
                refine wp_iadd 138 d_Mo_playing_137 rfl ?_
                rw [nI_1]
                refine wp_iload_n 139 d_Mo_playing_138 rfl rfl ?_
                refine wp_icmp_ne 157 142 d_Mo_playing_139 rfl (by decide) (fun h139 => ?_) (fun h139 => ?_)
                · have hk1 : ¬ k + 1 = n := fun y => h139 (by rw [y])
                  refine wp_iincN_2 160 d_Mo_playing_157 rfl rfl rfl ?_
                  refine wp_aload_n 161 d_Mo_playing_160 rfl rfl ?_
                  refine wp_iload_n 162 d_Mo_playing_161 rfl rfl ?_
                  refine wp_V1 165 M_Mo_beginsAt 1 d_Mo_playing_162 rfl mv_Mo_beginsAt lk_Mo_443 rfl rfl rfl rfl rfl ?_
                  refine c_Mo_beginsAt (by omega) ?_
                  refine kV ?_
                  refine wp_goto 19 d_Mo_playing_165 (by decide) ?_
                  obtain ⟨f2, rfl⟩ : ∃ f2, f = f2 + 1 := ⟨f - 1, by omega⟩
                  obtain ⟨dd, hdd, hgm, -, -⟩ := GM (t := t) f2 (k + 1) (lTh (nI t.nL) (sk ||| bit (nI i)))
                  refine hch f2 rfl (upd (upd dn k (nI i)) (k + 1) (-1)) gt (upd sa (k + 1) (upd m_at 6 (sk ||| bit (nI i)) 6)) (upd bd (k + 1) (-1)) (sk ||| bit (nI i)) (sk ||| bit (nI i)) s _ _ (if_pos rfl) (if_pos rfl) ((if_pos rfl).trans (if_pos rfl)) (fun d2 g2 a2 b2 v2 s2 x3 x4 q1 q2 q3 => ?_)
                  rw [hgm] at q3
                  obtain ⟨qb, qg, qx, -⟩ := q3
                  obtain ⟨p1, p2, p3, p4⟩ := q1 k (by omega)
                  have hdk : d2 k = nI i := by rw [p1, upd_ne (by omega)]; exact if_pos rfl
                  have hrk : RC cur (g2 k) (b2 k) := by rw [p2, p4, upd_ne (by omega)]; exact hrc
                  have hak : a2 k = sk := by rw [p3, upd_ne (by omega)]; exact hsa
                  refine wp_iload_n 60 d_Mo_playing_59 rfl rfl ?_
                  refine wp_if_ne 66 63 d_Mo_playing_60 rfl (by decide) (fun h60 => ?_) (fun h60 => ?_)
                  · refine wp_iinc_2 69 (-1) d_Mo_playing_66 rfl (by decide) rfl rfl ?_
                    refine qL2 (show _ = [some (.ref 0), some (.int (nI n)), some (.int (nI (k))), x3, x4] from by rw [show nI (k + 1) + (-1) = nI k from by rw [← nI_1, Int32.add_assoc, show (1 : Int32) + (-1) = 0 from by decide, add_0]]) ?_
                    refine wp_aload_n 70 d_Mo_playing_69 rfl rfl ?_
                    refine wp_iload_n 71 d_Mo_playing_70 rfl rfl ?_
                    refine wp_aload_n 72 d_Mo_playing_71 rfl rfl ?_
                    refine wp_getfield 75 12 39 d_Mo_playing_72 rfl fl_Mo_80 rfl rfl ?_
                    refine wp_iload_n 76 d_Mo_playing_75 rfl rfl ?_
                    refine wp_iconst 77 1 d_Mo_playing_76 rfl (by decide) ?_
                    refine wp_iadd 78 d_Mo_playing_77 rfl ?_
                    rw [nI_1]
                    refine wp_ialoadN 79 d_Mo_playing_78 rfl rfl rfl (by omega) ?_
                    rw [qg]
                    refine wp_V2 82 M_Mo_settles 1 d_Mo_playing_79 rfl mv_Mo_settles lk_Mo_446 rfl rfl rfl rfl rfl ?_
                    refine c_Mo_settles (cur := cur) (by omega) (by omega) (mmV_le V.ok _ _ _) hdk hrk (fun g4 b4 hr4 ho4 => ?_)
                    refine kV ?_
                    refine wp_goto 19 d_Mo_playing_82 (by decide) ?_
                    have hcv2 : cV t (f2 + 1) k (lTh (nI t.nL) sk) i = some (mmV t (f2 + 1) (k + 1) (lTh (nI t.nL) (sk ||| bit (nI i)))) := by rw [hcv, hth]
                    have e : iterN (gmS t (f2 + 1) k (lTh (nI t.nL) sk)) (r + 1) i cur = iterN (gmS t (f2 + 1) k (lTh (nI t.nL) sk)) r (i + 1) (stl k cur (mmV t (f2 + 1) (k + 1) (lTh (nI t.nL) (sk ||| bit (nI i)))) i) := by simp only [iterN]; rw [gmS_v hcv2]
                    rw [e] at hup
                    exact ih (i + 1) d2 g4 a2 b4 v2 s2 _ _ _ (by omega) ⟨by rw [hdk, show nI (i + 1) = nI i + 1 from (nI_1 i).symm]; exact (Int32.add_sub_cancel _ _).symm, hr4, hak, fun d5 g5 a5 b5 v5 s5 x5 x6 u1 u2 u3 => hup d5 g5 a5 b5 v5 s5 x5 x6 (fun j hj => by
                      obtain ⟨m1, m2, m3, m4⟩ := u1 j hj
                      obtain ⟨n1, n2, n3, n4⟩ := q1 j (by omega)
                      exact ⟨m1.trans (n1.trans ((upd_ne (by omega)).trans (upd_ne (by omega)))), m2.trans ((ho4 j (by omega)).1.trans n2), m3.trans (n3.trans (upd_ne (by omega))), m4.trans ((ho4 j (by omega)).2.trans (n4.trans (upd_ne (by omega))))⟩) u2 u3⟩
                  · exact absurd (nI_ij (b := 0) h60 (by omega) (by omega)) (by omega)
                · have hk1 : k + 1 = n := nI_ij h139 (by omega) (by omega)
                  refine wp_aload_n 143 d_Mo_playing_142 rfl rfl ?_
                  refine wp_iload_n 144 d_Mo_playing_143 rfl rfl ?_
                  refine wp_aload_n 145 d_Mo_playing_144 rfl rfl ?_
                  refine wp_V0 148 M_Mo_lying 7 d_Mo_playing_145 rfl mv_Mo_lying lk_Mo_328 rfl rfl rfl rfl rfl ?_
                  refine c_Mo_lying (vT_sk V (sk ||| bit (nI i))) (fun s9 hch9 => ?_)
                  refine kI ?_
                  refine wp_S1 151 M_Mo_bits 1 d_Mo_playing_148 rfl ms_Mo_bits lk_Mo_363 rfl rfl ?_
                  refine c_Mo_bits (tLi_in (t := tSk t (sk ||| bit (nI i))) V.ok) ?_
                  refine kI ?_
                  rw [show bcR (tLi (tSk t (sk ||| bit (nI i)))) = nI (bcR (lyT t (lTh (nI t.nL) (sk ||| bit (nI i))))).toNatClampNeg from (lyT_7 V.ok _).2.1]
                  have ly7 := lyT_7 V.ok (lTh (nI t.nL) (sk ||| bit (nI i)))
                  refine wp_V2 154 M_Mo_settles 1 d_Mo_playing_151 rfl mv_Mo_settles lk_Mo_446 rfl rfl rfl rfl rfl ?_
                  refine c_Mo_settles (cur := cur) (by omega) (by omega) ly7.2.2 (show (upd dn k (nI i)) k = nI i from if_pos rfl) hrc (fun g2 b2 hr2 ho2 => ?_)
                  refine kV ?_
                  refine wp_goto 165 d_Mo_playing_154 (by decide) ?_
                  refine wp_goto 19 d_Mo_playing_165 (by decide) ?_
                  have hcv2 : cV t f k (lTh (nI t.nL) sk) i = some (bcR (lyT t (lTh (nI t.nL) (sk ||| bit (nI i))))).toNatClampNeg := by rw [hcv, show f = 0 by omega, hth]; rfl
                  have e : iterN (gmS t f k (lTh (nI t.nL) sk)) (r + 1) i cur = iterN (gmS t f k (lTh (nI t.nL) sk)) r (i + 1) (stl k cur (bcR (lyT t (lTh (nI t.nL) (sk ||| bit (nI i))))).toNatClampNeg i) := by simp only [iterN]; rw [gmS_v hcv2]
                  rw [e] at hup
                  exact ih (i + 1) (upd dn k (nI i)) g2 sa b2 (sk ||| bit (nI i)) s9 _ _ _ (by omega) ⟨by rw [show (upd dn k (nI i)) k = nI i from if_pos rfl, show nI (i + 1) = nI i + 1 from (nI_1 i).symm]; exact (Int32.add_sub_cancel _ _).symm, hr2, hsa, fun d2 g3 a3 b3 v3 s3 x3 x4 q1 q2 q3 => hup d2 g3 a3 b3 v3 s3 x3 x4 (fun j hj => ⟨(q1 j hj).1.trans (upd_ne (by omega)), (q1 j hj).2.1.trans (ho2 j (by omega)).1, (q1 j hj).2.2.1, (q1 j hj).2.2.2.trans (ho2 j (by omega)).2⟩) q2 q3⟩
    · exact absurd ((nI_leI (a := i) (b := t.nL) (by omega) (by omega)).mpr (by omega)) h56

theorem l_play_node (V : vT m_at t) {n : Nat} (hn : n ≤ 4) : ∀ (f k : Nat), k + f + 1 = n → (∀ (dn gt sa bd : Nat → Int32) (v sk : Int32) (s : MS) (w3 w4 : Option Value), dn (k) = -1 → bd (k) = -1 → sa (k) = sk → (∀ (dn2 gt2 sa2 bd2 : Nat → Int32) (v2 : Int32) (s2 : MS) (x3 x4 : Option Value), (∀ j, j < (k) → dn2 j = dn j ∧ gt2 j = gt j ∧ sa2 j = sa j ∧ bd2 j = bd j) → sa2 ((k)) = sk → RC (iterN (gmS t (f) (k) (lTh (nI t.nL) sk)) (t.nL + 1) 0 none) (gt2 ((k))) (bd2 ((k))) → WP Γ M_Mo_playing 8 0 0 (hM (upd m_at 6 v2) m_names m_status m_top m_bottom m_sort m_trayMany m_trays m_tape m_text m_taped m_size m_token m_from m_end m_value m_faultKind m_faultPlace m_faults m_seen m_areOdds m_opened m_depth m_counted (s2.2.1) (s2.2.2) (s2.1) m_wayFaults m_wayEast m_wayNorth m_olds m_wayMany m_oneOfSet m_twoOfSet m_farBy m_rowBy m_triedBy m_rowMany (dn2) (gt2) (sa2) (bd2) m_misBy m_drawn m_ranSteps m_loops m_ran m_told1 m_isTold m_marks) 59 [some (.ref 0), some (.int (nI n)), some (.int (nI ((k)))), x3, x4] [] Q) → WP Γ M_Mo_playing 8 0 0 (hM (upd m_at 6 v) m_names m_status m_top m_bottom m_sort m_trayMany m_trays m_tape m_text m_taped m_size m_token m_from m_end m_value m_faultKind m_faultPlace m_faults m_seen m_areOdds m_opened m_depth m_counted (s.2.1) (s.2.2) (s.1) m_wayFaults m_wayEast m_wayNorth m_olds m_wayMany m_oneOfSet m_twoOfSet m_farBy m_rowBy m_triedBy m_rowMany (dn) (gt) (sa) (bd) m_misBy m_drawn m_ranSteps m_loops m_ran m_told1 m_isTold m_marks) 19 [some (.ref 0), some (.int (nI n)), some (.int (nI (k))), w3, w4] [] Q) := by
  intro f
  induction f with
  | zero =>
    intro k hk dn gt sa bd v sk s w3 w4 h1 h2 h3 hup
    exact l_Mo_playing_19 (f := 0) (k := k) V hn hk (fun f2 e => absurd e (by omega)) (t.nL + 1) 0 dn gt sa bd v s none w3 w4 (by omega) ⟨by rw [h1]; decide, h2, h3, hup⟩
  | succ f ih =>
    intro k hk dn gt sa bd v sk s w3 w4 h1 h2 h3 hup
    exact l_Mo_playing_19 (f := f + 1) (k := k) V hn hk (fun f2 e => by
      have : f = f2 := by omega
      subst this
      exact ih (k + 1) (by omega)) (t.nL + 1) 0 dn gt sa bd v s none w3 w4 (by omega) ⟨by rw [h1]; decide, h2, h3, hup⟩
set_option maxRecDepth 100000 in
set_option maxHeartbeats 4000000 in
theorem c_Mo_playing {n : Nat} (V : vT m_at t) (hn : n ≤ 4) (hq : ∀ (d2 g2 a2 b2 : Nat → Int32) (s2 : MS), (0 < n → ∃ d, d ≤ t.nL ∧ b2 0 = nI d ∧ cV t (n - 1) 0 (tTh t) d = some (mmV t n 0 (tTh t)) ∧ ∀ l v, l < d → cV t (n - 1) 0 (tTh t) l = some v → ¬ v = mmV t n 0 (tTh t)) → Q (some (.int (nI (mmV t n 0 (tTh t))))) (hM m_at m_names m_status m_top m_bottom m_sort m_trayMany m_trays m_tape m_text m_taped m_size m_token m_from m_end m_value m_faultKind m_faultPlace m_faults m_seen m_areOdds m_opened m_depth m_counted (s2.2.1) (s2.2.2) (s2.1) m_wayFaults m_wayEast m_wayNorth m_olds m_wayMany m_oneOfSet m_twoOfSet m_farBy m_rowBy m_triedBy m_rowMany (d2) (g2) (a2) (b2) m_misBy m_drawn m_ranSteps m_loops m_ran m_told1 m_isTold m_marks)) : Call Γ M_Mo_playing 8 0 0 [.ref 0, .int (nI n)] (hM m_at m_names m_status m_top m_bottom m_sort m_trayMany m_trays m_tape m_text m_taped m_size m_token m_from m_end m_value m_faultKind m_faultPlace m_faults m_seen m_areOdds m_opened m_depth m_counted m_eastBy m_northBy m_partBy m_wayFaults m_wayEast m_wayNorth m_olds m_wayMany m_oneOfSet m_twoOfSet m_farBy m_rowBy m_triedBy m_rowMany m_doneAt m_gotAt m_struckAt m_bestDeed m_misBy m_drawn m_ranSteps m_loops m_ran m_told1 m_isTold m_marks) Q := by
  refine call_intro (ls := [some (.ref 0), some (.int (nI n)), none, none, none]) rfl rfl rfl ?_
  refine wp_iload_n 1 d_Mo_playing_0 rfl rfl ?_
  refine wp_if_ne 12 4 d_Mo_playing_1 rfl (by decide) (fun h1 => ?_) (fun h1 => ?_)
  · refine wp_iconst 13 0 d_Mo_playing_12 rfl (by decide) ?_
    refine wp_istore_2 14 d_Mo_playing_13 rfl rfl rfl ?_
    refine wp_aload_n 15 d_Mo_playing_14 rfl rfl ?_
    refine wp_iconst 16 0 d_Mo_playing_15 rfl (by decide) ?_
    refine wp_V1 19 M_Mo_beginsAt 1 d_Mo_playing_16 rfl mv_Mo_beginsAt lk_Mo_443 rfl rfl rfl rfl rfl ?_
    refine c_Mo_beginsAt (k := 0) (by omega) ?_
    refine kV ?_
    obtain ⟨m, rfl⟩ : ∃ m, n = m + 1 := ⟨n - 1, by have : ¬ n = 0 := fun y => h1 (by rw [y]; rfl); omega⟩
    obtain ⟨dd, hdd, hgm, hcv9, hfi9⟩ := GM (t := t) m 0 (lTh (nI t.nL) t.sk)
    refine hEq (hM (upd m_at 6 t.sk) m_names m_status m_top m_bottom m_sort m_trayMany m_trays m_tape m_text m_taped m_size m_token m_from m_end m_value m_faultKind m_faultPlace m_faults m_seen m_areOdds m_opened m_depth m_counted ((m_partBy, m_eastBy, m_northBy).2.1) ((m_partBy, m_eastBy, m_northBy).2.2) ((m_partBy, m_eastBy, m_northBy).1) m_wayFaults m_wayEast m_wayNorth m_olds m_wayMany m_oneOfSet m_twoOfSet m_farBy m_rowBy m_triedBy m_rowMany ((upd m_doneAt 0 (-1))) (m_gotAt) ((upd m_struckAt 0 (m_at 6))) ((upd m_bestDeed 0 (-1))) m_misBy m_drawn m_ranSteps m_loops m_ran m_told1 m_isTold m_marks) (congrArg (fun a => (hM (a) m_names m_status m_top m_bottom m_sort m_trayMany m_trays m_tape m_text m_taped m_size m_token m_from m_end m_value m_faultKind m_faultPlace m_faults m_seen m_areOdds m_opened m_depth m_counted m_eastBy m_northBy m_partBy m_wayFaults m_wayEast m_wayNorth m_olds m_wayMany m_oneOfSet m_twoOfSet m_farBy m_rowBy m_triedBy m_rowMany ((upd m_doneAt 0 (-1))) m_gotAt ((upd m_struckAt 0 (m_at 6))) ((upd m_bestDeed 0 (-1))) m_misBy m_drawn m_ranSteps m_loops m_ran m_told1 m_isTold m_marks)) (show m_at = upd m_at 6 t.sk from (upd_self V.sk).symm)) ?_
    refine l_play_node V hn m 0 (by omega) (upd m_doneAt 0 (-1)) m_gotAt (upd m_struckAt 0 (m_at 6)) (upd m_bestDeed 0 (-1)) t.sk t.sk (m_partBy, m_eastBy, m_northBy) none none (if_pos rfl) (if_pos rfl) ((if_pos rfl).trans V.sk) (fun d2 g2 a2 b2 v2 s2 x3 x4 q1 q2 q3 => ?_)
    rw [hgm] at q3
    obtain ⟨qb, qg, qx, -⟩ := q3
    refine wp_iload_n 60 d_Mo_playing_59 rfl rfl ?_
    refine wp_if_ne 66 63 d_Mo_playing_60 rfl (by decide) (fun h60 => ?_) (fun h60 => ?_)
    · exact absurd rfl h60
    · refine wp_goto 168 d_Mo_playing_63 (by decide) ?_
      refine wp_aload_n 169 d_Mo_playing_168 rfl rfl ?_
      refine wp_getfield 172 12 0 d_Mo_playing_169 rfl fl_Mo_7 rfl rfl ?_
      refine wp_bipush 174 6 d_Mo_playing_172 rfl (by decide) ?_
      refine wp_aload_n 175 d_Mo_playing_174 rfl rfl ?_
      refine wp_getfield 178 12 40 d_Mo_playing_175 rfl fl_Mo_83 rfl rfl ?_
      refine wp_iconst 179 0 d_Mo_playing_178 rfl (by decide) ?_
      refine wp_iaload 180 d_Mo_playing_179 rfl rfl (vp_in_nI (n := 0) (N := 5) (by omega) (by omega)) ?_
      rw [show a2 (0 : Int32).toNatClampNeg = t.sk from q2]
      refine wp_iastore 181 d_Mo_playing_180 rfl rfl (vp_in_nI (n := 6) (N := 2332) (by omega) (by omega)) ?_
      refine hEq (hM m_at m_names m_status m_top m_bottom m_sort m_trayMany m_trays m_tape m_text m_taped m_size m_token m_from m_end m_value m_faultKind m_faultPlace m_faults m_seen m_areOdds m_opened m_depth m_counted (s2.2.1) (s2.2.2) (s2.1) m_wayFaults m_wayEast m_wayNorth m_olds m_wayMany m_oneOfSet m_twoOfSet m_farBy m_rowBy m_triedBy m_rowMany (d2) (g2) (a2) (b2) m_misBy m_drawn m_ranSteps m_loops m_ran m_told1 m_isTold m_marks) (congrArg (fun a => (hM a m_names m_status m_top m_bottom m_sort m_trayMany m_trays m_tape m_text m_taped m_size m_token m_from m_end m_value m_faultKind m_faultPlace m_faults m_seen m_areOdds m_opened m_depth m_counted (s2.2.1) (s2.2.2) (s2.1) m_wayFaults m_wayEast m_wayNorth m_olds m_wayMany m_oneOfSet m_twoOfSet m_farBy m_rowBy m_triedBy m_rowMany (d2) (g2) (a2) (b2) m_misBy m_drawn m_ranSteps m_loops m_ran m_told1 m_isTold m_marks)) (show upd (upd m_at 6 v2) 6 t.sk = m_at from upd_back V.sk)) ?_
      refine wp_aload_n 182 d_Mo_playing_181 rfl rfl ?_
      refine wp_getfield 185 12 39 d_Mo_playing_182 rfl fl_Mo_80 rfl rfl ?_
      refine wp_iconst 186 0 d_Mo_playing_185 rfl (by decide) ?_
      refine wp_iaload 187 d_Mo_playing_186 rfl rfl (vp_in_nI (n := 0) (N := 5) (by omega) (by omega)) ?_
      rw [show g2 (0 : Int32).toNatClampNeg = nI (mmV t (m + 1) 0 (tTh t)) from qg]
      refine wp_ireturn d_Mo_playing_187 rfl ?_
      exact hq d2 g2 a2 b2 s2 (fun _ => ⟨dd, hdd, qb, hcv9, hfi9⟩)
  · refine wp_aload_n 5 d_Mo_playing_4 rfl rfl ?_
    refine wp_V0 8 M_Mo_lying 7 d_Mo_playing_5 rfl mv_Mo_lying lk_Mo_328 rfl rfl rfl rfl rfl ?_
    refine c_Mo_lying V (fun s2 h2 => ?_)
    refine kI ?_
    refine wp_S1 11 M_Mo_bits 1 d_Mo_playing_8 rfl ms_Mo_bits lk_Mo_363 rfl rfl ?_
    refine c_Mo_bits (tLi_in V.ok) ?_
    refine kI ?_
    refine wp_ireturn d_Mo_playing_11 rfl ?_
    have hn0 : n = 0 := nI_ij (b := 0) h1 (by omega) (by omega)
    subst hn0
    rw [show bcR (tLi t) = nI (mmV t 0 0 (tTh t)) from (lyT_7 V.ok _).2.1]
    exact hq m_doneAt m_gotAt m_struckAt m_bestDeed s2 (fun y => absurd y (Nat.lt_irrefl 0))

theorem in5 {x : Int32} : ((0 : Int64) ≤ x.toInt64 ∧ x.toInt64 ≤ 4) ↔ inR x 5 := inC (by decide)
theorem in15 {x : Int32} : ((1 : Int64) ≤ x.toInt64 ∧ x.toInt64 ≤ 4) ↔ (¬ x = 0 ∧ inR x 5) := by
  have a : ((1 : Int64)).toInt = 1 := rfl
  have b : ((4 : Int64)).toInt = 4 := rfl
  have c : ((0 : Int32)).toInt = 0 := rfl
  have d : ((5 : Int32)).toInt = 5 := rfl
  rw [Int64.le_iff_toInt_le, Int64.le_iff_toInt_le, Int32.toInt_toInt64, a, b]
  unfold inR
  rw [Int32.le_iff_toInt_le, Int32.lt_iff_toInt_lt, c, d, ← Int32.toInt_inj, c]
  omega
theorem gs_T (t : TW) (G : GT) (n : Int32) : enT t (tGs G t n).gen := fun l hl => if_pos hl
theorem low_th {t : TW} : (bit (nI t.nL) - 1) &&& tTh t = tTh t := by
  unfold tTh lTh
  rw [← Int32.and_assoc, Int32.and_self]
theorem TBL_0 {t : TW} {n : Nat} (G : GT) (m : Int32) (hn : n ≤ 4) : TBL t n (tGs G t m).gta := by
  intro i k hi hk
  left
  have e : (tGs G t m).gta i = 0 := if_pos hi
  rw [e]
  have : ∀ k, k < 5 → nib 0 k = 0 := by decide +kernel
  exact this k (by omega)
theorem gm_eq {t : TW} (I : tOK t) (J : tIn t) (G : GT) {n : Nat} (hn : n ≤ 4) : (gmR (tGs G t (nI n)) t).1 = nI (mmV t n 0 (tTh t)) ∧ TBL t n (gmR (tGs G t (nI n)) t).2 := by
  have h := wo_mm I J (gs_T t G (nI n)) (an := (tGs G t (nI n)).gan) rfl hn 4 0 (tTh t) (tGs G t (nI n)).gta rfl (Nat.zero_le _) (tTh_in I) low_th (TBL_0 G (nI n) hn)
  exact h
theorem fb_eq {t : TW} (I : tOK t) (J : tIn t) {en : Nat → Int32} (hE : enT t en) {an : Int32} (ha : an = bP (0 < nI t.nP)) {n : Nat} (hn : n ≤ 4) (h1 : 1 ≤ n) {best : Int32} : ∀ (r i : Nat) (tb : Nat → Int32), i + r = t.nL → TBL t n tb → (fbL t.nL en an (nI n) (tTh t) best r i tb).1 = ffind (fun l => hs (tTh t) (nI l) ∧ nI (mmV t (n - 1) 1 (tTh t ^^^ bit (nI l))) = best) i r
  | 0, _, _, _, _ => rfl
  | r + 1, i, tb, hi, T => by
    have hL := I.hL
    simp only [fbL, ffind]
    by_cases c : hs (tTh t) (nI i)
    · rw [if_pos c]
      have ex : tTh t &&& (bit (nI i) ^^^ (-1)) = tTh t ^^^ bit (nI i) := by
        rw [show tTh t &&& (bit (nI i) ^^^ (-1)) = lTh (nI t.nL) (t.sk ||| bit (nI i)) from th_or.symm]
        exact th_xor (by omega) c
      rw [ex]
      have hlow : (bit (nI t.nL) - 1) &&& (tTh t ^^^ bit (nI i)) = tTh t ^^^ bit (nI i) := by
        rw [← ex, ← Int32.and_assoc, low_th]
      obtain ⟨w1, w2⟩ := wo_mm I J hE ha hn 3 1 (tTh t ^^^ bit (nI i)) tb rfl h1 (xor_in (tTh_in I) (by omega)) hlow T
      rw [w1]
      by_cases d : nI (mmV t (n - 1) 1 (tTh t ^^^ bit (nI i))) = best
      · rw [if_pos d, if_pos ⟨c, d⟩]
      · rw [if_neg d, if_neg (fun z => d z.2)]
        exact fb_eq I J hE ha hn h1 r (i + 1) _ (by omega) w2
    · rw [if_neg c, if_neg (fun z => c z.1)]
      exact fb_eq I J hE ha hn h1 r (i + 1) tb (by omega) T
theorem mv_eq {t : TW} (I : tOK t) (J : tIn t) (G : GT) {n d : Nat} (hn : n ≤ 4) (h1 : 1 ≤ n) (hd : d ≤ t.nL) (hc : cV t (n - 1) 0 (tTh t) d = some (mmV t n 0 (tTh t))) (hf : ∀ l v, l < d → cV t (n - 1) 0 (tTh t) l = some v → ¬ v = mmV t n 0 (tTh t)) : (mvR (tGs G t (nI n)) t).1 = if d = t.nL then -1 else nI d := by
  have hL := I.hL
  obtain ⟨g1, g2⟩ := gm_eq I J G hn
  have h := fb_eq I J (gs_T t G (nI n)) (an := (tGs G t (nI n)).gan) rfl hn h1 (best := (gmR (tGs G t (nI n)) t).1) t.nL 0 (gmR (tGs G t (nI n)) t).2 (by omega) g2
  have e : (mvR (tGs G t (nI n)) t).1 = (fbL t.nL (tGs G t (nI n)).gen (tGs G t (nI n)).gan (nI n) (tTh t) (gmR (tGs G t (nI n)) t).1 t.nL 0 (gmR (tGs G t (nI n)) t).2).1 := rfl
  rw [e, h, g1]
  have hcand : ∀ l, l < t.nL → hs (tTh t) (nI l) → cV t (n - 1) 0 (tTh t) l = some (mmV t (n - 1) 1 (tTh t ^^^ bit (nI l))) := fun l hl hh => (cV_k hl).trans (if_pos ⟨fun _ => rfl, fun _ => hh⟩)
  have hm7 := fun x => mmV_le I (n - 1) 1 x
  have hm8 := mmV_le I n 0 (tTh t)
  by_cases z : d = t.nL
  · rw [if_pos z]
    refine ffind_no (fun l _ hl w => hf l _ (by omega) (hcand l (by omega) w.1) (nI_ij w.2 (by have := hm7 (tTh t ^^^ bit (nI l)); omega) (by omega)))
  · rw [if_neg z]
    have hdl : d < t.nL := by omega
    have hth : hs (tTh t) (nI d) := by
      rw [cV_k hdl] at hc
      by_cases y : (hs (tTh t) (nI d) ↔ 0 % 2 = 0)
      · exact y.mpr rfl
      · rw [if_neg y] at hc; cases hc
    have hv := hcand d hdl hth
    rw [hc] at hv
    have hv2 : mmV t n 0 (tTh t) = mmV t (n - 1) 1 (tTh t ^^^ bit (nI d)) := by simpa using hv
    exact ffind_at (fun l _ hl w => hf l _ hl (hcand l (by omega) w.1) (nI_ij w.2 (by have := hm7 (tTh t ^^^ bit (nI l)); omega) (by omega))) ⟨hth, by rw [hv2]⟩ (by omega) (by omega)
set_option maxRecDepth 100000 in
set_option maxHeartbeats 4000000 in
theorem c_Mo_game {n : Int32} (V : vT m_at t) (G : GT) (hq : ∀ (d2 g2 a2 b2 : Nat → Int32) (s2 : MS), Q (some (.int (gaF t G n).2)) (hM m_at m_names ((gaF t G n).1) m_top m_bottom m_sort m_trayMany m_trays m_tape m_text m_taped m_size m_token m_from m_end m_value m_faultKind m_faultPlace m_faults m_seen m_areOdds m_opened m_depth m_counted (s2.2.1) (s2.2.2) (s2.1) m_wayFaults m_wayEast m_wayNorth m_olds m_wayMany m_oneOfSet m_twoOfSet m_farBy m_rowBy m_triedBy m_rowMany (d2) (g2) (a2) (b2) m_misBy m_drawn m_ranSteps m_loops m_ran m_told1 m_isTold m_marks)) : Call Γ M_Mo_game 9 0 0 [.ref 0, .int n] (hM m_at m_names m_status m_top m_bottom m_sort m_trayMany m_trays m_tape m_text m_taped m_size m_token m_from m_end m_value m_faultKind m_faultPlace m_faults m_seen m_areOdds m_opened m_depth m_counted m_eastBy m_northBy m_partBy m_wayFaults m_wayEast m_wayNorth m_olds m_wayMany m_oneOfSet m_twoOfSet m_farBy m_rowBy m_triedBy m_rowMany m_doneAt m_gotAt m_struckAt m_bestDeed m_misBy m_drawn m_ranSteps m_loops m_ran m_told1 m_isTold m_marks) Q := by
  refine call_intro (ls := [some (.ref 0), some (.int n)]) rfl rfl rfl ?_
  refine wp_iload_n 1 d_Mo_game_0 rfl rfl ?_
  refine wp_i2l 2 d_Mo_game_1 rfl ?_
  refine wp_lconst 3 0 d_Mo_game_2 rfl (by decide) ?_
  refine wp_ldc2 6 (4 : Int64) d_Mo_game_3 rfl ct_Mo_449 ?_
  refine wp_S3 9 M_Mo_isFrom 1 d_Mo_game_6 rfl ms_Mo_isFrom lk_Mo_356 rfl rfl ?_
  refine c_Mo_isFrom ?_
  refine kI ?_
  (first | refine wp_ifP_ne 18 12 d_Mo_game_9 rfl (by decide) (fun h9 => ?_) (fun h9 => ?_) | refine wp_if_ne 18 12 d_Mo_game_9 rfl (by decide) (fun h9 => ?_) (fun h9 => ?_))
  · have hin := in5.mp h9
    obtain ⟨n_, hn_, rfl⟩ := inR_ex (n := 5) hin (by omega)
    refine wp_aload_n 19 d_Mo_game_18 rfl rfl ?_
    refine wp_aload_n 20 d_Mo_game_19 rfl rfl ?_
    refine wp_iload_n 21 d_Mo_game_20 rfl rfl ?_
    refine wp_V1 24 M_Mo_playing 8 d_Mo_game_21 rfl mv_Mo_playing lk_Mo_451 rfl rfl rfl rfl rfl ?_
    refine c_Mo_playing V (by omega) (fun d2 g2 a2 b2 s2 hb => ?_)
    refine kI ?_
    refine wp_V1 27 M_Mo_gives 1 d_Mo_game_24 rfl mv_Mo_gives lk_Mo_115 rfl rfl rfl rfl rfl ?_
    refine c_Mo_gives ?_
    refine kI ?_
    refine wp_ireturn d_Mo_game_27 rfl ?_
    have e : gaF t G (nI n_) = (0, nI (mmV t n_ 0 (tTh t))) := (if_pos hin).trans (congrArg (Prod.mk 0) (gm_eq V.ok V.in_ G (by omega)).1)
    have hh := hq d2 g2 a2 b2 s2
    rw [e] at hh
    exact hh
  · have hno := h9
    refine wp_aload_n 13 d_Mo_game_12 rfl rfl ?_
    refine wp_iconst 14 1 d_Mo_game_13 rfl (by decide) ?_
    refine wp_V1 17 M_Mo_refuse 1 d_Mo_game_14 rfl mv_Mo_refuse lk_Mo_111 rfl rfl rfl rfl rfl ?_
    refine c_Mo_refuse ?_
    refine kI ?_
    refine wp_ireturn d_Mo_game_17 rfl ?_
    have e : gaF t G n = _ := (if_neg (fun z => hno (in5.mpr z)))
    have h9 := hq m_doneAt m_gotAt m_struckAt m_bestDeed (m_partBy, m_eastBy, m_northBy)
    rw [e] at h9
    exact h9

set_option maxRecDepth 100000 in
set_option maxHeartbeats 4000000 in
theorem c_Mo_moveOf {n : Int32} (V : vT m_at t) (G : GT) (hq : ∀ (d2 g2 a2 b2 : Nat → Int32) (s2 : MS), Q (some (.int (mvF t G n).2)) (hM m_at m_names ((mvF t G n).1) m_top m_bottom m_sort m_trayMany m_trays m_tape m_text m_taped m_size m_token m_from m_end m_value m_faultKind m_faultPlace m_faults m_seen m_areOdds m_opened m_depth m_counted (s2.2.1) (s2.2.2) (s2.1) m_wayFaults m_wayEast m_wayNorth m_olds m_wayMany m_oneOfSet m_twoOfSet m_farBy m_rowBy m_triedBy m_rowMany (d2) (g2) (a2) (b2) m_misBy m_drawn m_ranSteps m_loops m_ran m_told1 m_isTold m_marks)) : Call Γ M_Mo_moveOf 9 0 0 [.ref 0, .int n] (hM m_at m_names m_status m_top m_bottom m_sort m_trayMany m_trays m_tape m_text m_taped m_size m_token m_from m_end m_value m_faultKind m_faultPlace m_faults m_seen m_areOdds m_opened m_depth m_counted m_eastBy m_northBy m_partBy m_wayFaults m_wayEast m_wayNorth m_olds m_wayMany m_oneOfSet m_twoOfSet m_farBy m_rowBy m_triedBy m_rowMany m_doneAt m_gotAt m_struckAt m_bestDeed m_misBy m_drawn m_ranSteps m_loops m_ran m_told1 m_isTold m_marks) Q := by
  refine call_intro (ls := [some (.ref 0), some (.int n)]) rfl rfl rfl ?_
  refine wp_iload_n 1 d_Mo_moveOf_0 rfl rfl ?_
  refine wp_i2l 2 d_Mo_moveOf_1 rfl ?_
  refine wp_lconst 3 1 d_Mo_moveOf_2 rfl (by decide) ?_
  refine wp_ldc2 6 (4 : Int64) d_Mo_moveOf_3 rfl ct_Mo_449 ?_
  refine wp_S3 9 M_Mo_isFrom 1 d_Mo_moveOf_6 rfl ms_Mo_isFrom lk_Mo_356 rfl rfl ?_
  refine c_Mo_isFrom ?_
  refine kI ?_
  (first | refine wp_ifP_ne 18 12 d_Mo_moveOf_9 rfl (by decide) (fun h9 => ?_) (fun h9 => ?_) | refine wp_if_ne 18 12 d_Mo_moveOf_9 rfl (by decide) (fun h9 => ?_) (fun h9 => ?_))
  · have hin := in15.mp h9
    obtain ⟨n_, hn_, rfl⟩ := inR_ex (n := 5) hin.2 (by omega)
    have hn1 : 1 ≤ n_ := by have : ¬ n_ = 0 := fun y => hin.1 (by rw [y]; rfl); omega
    refine wp_aload_n 19 d_Mo_moveOf_18 rfl rfl ?_
    refine wp_iload_n 20 d_Mo_moveOf_19 rfl rfl ?_
    refine wp_V1 23 M_Mo_playing 8 d_Mo_moveOf_20 rfl mv_Mo_playing lk_Mo_451 rfl rfl rfl rfl rfl ?_
    refine c_Mo_playing V (by omega) (fun d2 g2 a2 b2 s2 hb => ?_)
    refine kI ?_
    refine wp_pop 24 d_Mo_moveOf_23 rfl rfl ?_
    refine wp_aload_n 25 d_Mo_moveOf_24 rfl rfl ?_
    refine wp_getfield 28 12 41 d_Mo_moveOf_25 rfl fl_Mo_86 rfl rfl ?_
    refine wp_iconst 29 0 d_Mo_moveOf_28 rfl (by decide) ?_
    refine wp_iaload 30 d_Mo_moveOf_29 rfl rfl (vp_in_nI (n := 0) (N := 5) (by omega) (by omega)) ?_
    obtain ⟨d, hd, hbd, hcv, hfi⟩ := hb (by omega)
    rw [show b2 (0 : Int32).toNatClampNeg = nI d from hbd]
    refine wp_aload_n 31 d_Mo_moveOf_30 rfl rfl ?_
    refine wp_getfield 34 12 0 d_Mo_moveOf_31 rfl fl_Mo_7 rfl rfl ?_
    refine wp_iconst 35 2 d_Mo_moveOf_34 rfl (by decide) ?_
    refine wp_iaload 36 d_Mo_moveOf_35 rfl rfl (vp_in_nI (n := 2) (N := 2332) (by omega) (by omega)) ?_
    rw [show m_at (2 : Int32).toNatClampNeg = nI t.nL from V.L]
    refine wp_icmp_ne 48 39 d_Mo_moveOf_36 rfl (by decide) (fun h36 => ?_) (fun h36 => ?_)
    · refine wp_aload_n 49 d_Mo_moveOf_48 rfl rfl ?_
      refine wp_aload_n 50 d_Mo_moveOf_49 rfl rfl ?_
      refine wp_getfield 53 12 41 d_Mo_moveOf_50 rfl fl_Mo_86 rfl rfl ?_
      refine wp_iconst 54 0 d_Mo_moveOf_53 rfl (by decide) ?_
      refine wp_iaload 55 d_Mo_moveOf_54 rfl rfl (vp_in_nI (n := 0) (N := 5) (by omega) (by omega)) ?_
      rw [show b2 (0 : Int32).toNatClampNeg = nI d from hbd]
      refine wp_V1 58 M_Mo_gives 1 d_Mo_moveOf_55 rfl mv_Mo_gives lk_Mo_115 rfl rfl rfl rfl rfl ?_
      refine c_Mo_gives ?_
      refine kI ?_
      refine wp_ireturn d_Mo_moveOf_58 rfl ?_
      have hmv := mv_eq V.ok V.in_ G (by omega) hn1 hd hcv hfi
      have hd2 : ¬ d = t.nL := fun y => h36 (by rw [y])
      rw [if_neg hd2] at hmv
      have e : mvF t G (nI n_) = _ := (((if_pos hin).trans (if_neg (by rw [hmv]; exact nI_ne1 (by have := V.ok.hL; omega)))).trans (congrArg (Prod.mk 0) hmv))
      have h9 := hq d2 g2 a2 b2 s2
      rw [e] at h9
      exact h9
    · refine wp_aload_n 40 d_Mo_moveOf_39 rfl rfl ?_
      refine wp_bipush 42 6 d_Mo_moveOf_40 rfl (by decide) ?_
      refine wp_V1 45 M_Mo_refuse 1 d_Mo_moveOf_42 rfl mv_Mo_refuse lk_Mo_111 rfl rfl rfl rfl rfl ?_
      refine c_Mo_refuse ?_
      refine kI ?_
      refine wp_goto 58 d_Mo_moveOf_45 (by decide) ?_
      refine wp_ireturn d_Mo_moveOf_58 rfl ?_
      have hmv := mv_eq V.ok V.in_ G (by omega) hn1 hd hcv hfi
      have hd2 : d = t.nL := nI_ij h36 (by have := V.ok.hL; omega) (by have := V.ok.hL; omega)
      rw [if_pos hd2] at hmv
      have e : mvF t G (nI n_) = _ := ((if_pos hin).trans (if_pos hmv))
      have h9 := hq d2 g2 a2 b2 s2
      rw [e] at h9
      exact h9
  · have hno := h9
    refine wp_aload_n 13 d_Mo_moveOf_12 rfl rfl ?_
    refine wp_iconst 14 1 d_Mo_moveOf_13 rfl (by decide) ?_
    refine wp_V1 17 M_Mo_refuse 1 d_Mo_moveOf_14 rfl mv_Mo_refuse lk_Mo_111 rfl rfl rfl rfl rfl ?_
    refine c_Mo_refuse ?_
    refine kI ?_
    refine wp_ireturn d_Mo_moveOf_17 rfl ?_
    have e : mvF t G n = _ := (if_neg (fun z => hno (in15.mpr z)))
    have h9 := hq m_doneAt m_gotAt m_struckAt m_bestDeed (m_partBy, m_eastBy, m_northBy)
    rw [e] at h9
    exact h9

end TA3
