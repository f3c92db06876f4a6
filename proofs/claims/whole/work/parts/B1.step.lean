/-! ===== the reference: a step of DAYS ===== -/
/-- the rows in the reference's cells -/
def RDr (nW : Nat) (a : Nat → Int32) (y : DY) : Prop := ∀ r, r < y.nR → ROW nW a (1882 + 6 * r) (y.dk r) (y.df r) (y.ds r)
theorem RDr_add {nW : Nat} {a b : Nat → Int32} {y : DY} {k f z : Int32} (h : RDr nW a y) (e : ∀ j, 1882 ≤ j → j < 1882 + 6 * y.nR → b j = a j) (hr : ROW nW b (1882 + 6 * y.nR) k f z) : RDr nW b (dAdd y k f z) := by
  intro r hr2
  have hlt : r < y.nR + 1 := hr2
  show ROW nW b (1882 + 6 * r) (upd y.dk y.nR k r) (upd y.df y.nR f r) (upd y.ds y.nR z r)
  by_cases c : r = y.nR
  · rw [c, upd_at, upd_at, upd_at]; exact hr
  · rw [upd_ne c, upd_ne c, upd_ne c]
    exact ROW_fr (fun j h1 h2 => e j (by omega) (by omega)) (h r (by omega))
theorem ROW_s {nW : Nat} {a b : Nat → Int32} {p : Nat} {k f s s2 : Int32} (h : ROW nW a p k f s) (ho : opn k) (e : ∀ j, p ≤ j → j < p + 6 → ¬ j = p + 4 → b j = a j) (e4 : b (p + 4) = s2) : ROW nW b p k f s2 := by
  have n : ∀ {v : Int32}, k = v → ¬ (v = 0 ∨ v = 1 ∨ v = 2 ∨ v = 3 ∨ v = 4 ∨ v = 5 ∨ v = 7) := by
    rintro v rfl z
    unfold opn at ho
    rcases z with z | z | z | z | z | z | z <;> rw [z] at ho <;> revert ho <;> decide
  unfold ROW at *
  rw [e p (by omega) (by omega) (by omega), e (p + 1) (by omega) (by omega) (by omega), e (p + 2) (by omega) (by omega) (by omega), e (p + 5) (by omega) (by omega) (by omega)]
  rcases h with h | h | h | h | h | h | h | h | h | h | h | h | h | h
  · exact absurd (Or.inl rfl) (n h.1)
  · exact absurd (Or.inr (Or.inl rfl)) (n h.1)
  · exact absurd (Or.inr (Or.inr (Or.inl rfl))) (n h.1)
  · exact absurd (Or.inr (Or.inr (Or.inr (Or.inl rfl)))) (n h.1)
  · exact absurd (Or.inr (Or.inr (Or.inr (Or.inr (Or.inl rfl))))) (n h.1)
  · exact absurd (Or.inr (Or.inr (Or.inr (Or.inr (Or.inr (Or.inl rfl)))))) (n h.1)
  · exact Or.inr (Or.inr (Or.inr (Or.inr (Or.inr (Or.inr (Or.inl ⟨h.1, h.2.1, h.2.2.1, h.2.2.2.1, e4⟩))))))
  · exact absurd (Or.inr (Or.inr (Or.inr (Or.inr (Or.inr (Or.inr rfl)))))) (n h.1)
  · exact Or.inr (Or.inr (Or.inr (Or.inr (Or.inr (Or.inr (Or.inr (Or.inr (Or.inl ⟨h.1, h.2.1, h.2.2.1, e4⟩))))))))
  · exact Or.inr (Or.inr (Or.inr (Or.inr (Or.inr (Or.inr (Or.inr (Or.inr (Or.inr (Or.inl ⟨h.1, h.2.1, e4⟩)))))))))
  · exact Or.inr (Or.inr (Or.inr (Or.inr (Or.inr (Or.inr (Or.inr (Or.inr (Or.inr (Or.inr (Or.inl ⟨h.1, h.2.1, h.2.2.1, h.2.2.2.1, e4⟩))))))))))
  · exact Or.inr (Or.inr (Or.inr (Or.inr (Or.inr (Or.inr (Or.inr (Or.inr (Or.inr (Or.inr (Or.inr (Or.inl ⟨h.1, h.2.1, h.2.2.1, h.2.2.2.1, e4⟩)))))))))))
  · exact Or.inr (Or.inr (Or.inr (Or.inr (Or.inr (Or.inr (Or.inr (Or.inr (Or.inr (Or.inr (Or.inr (Or.inr (Or.inl ⟨h.1, h.2.1, h.2.2.1, h.2.2.2.1, e4⟩))))))))))))
  · exact Or.inr (Or.inr (Or.inr (Or.inr (Or.inr (Or.inr (Or.inr (Or.inr (Or.inr (Or.inr (Or.inr (Or.inr (Or.inr ⟨h.1, h.2.1, h.2.2.1, h.2.2.2.1, e4⟩))))))))))))
/-- one step and its sign -/
def dUt (K : TK) (t : TW) (s : CS) (y : DY) : Bool × CS × DY := if (dTu K t s y).1 = true then ((cSg K 59 (dTu K t s y).2.1).1, (cSg K 59 (dTu K t s y).2.1).2, (dTu K t s y).2.2) else (false, (dTu K t s y).2.1, (dTu K t s y).2.2)
theorem dUt_y {K : TK} {t : TW} {s : CS} {y : DY} {r : Bool × CS × DY} (e : dTu K t s y = r) (h : r.1 = true) : dUt K t s y = ((cSg K 59 r.2.1).1, (cSg K 59 r.2.1).2, r.2.2) := by
  unfold dUt
  rw [e, if_pos h]
theorem dUt_f {K : TK} {t : TW} {s : CS} {y : DY} {r : Bool × CS × DY} (e : dTu K t s y = r) (h : ¬ r.1 = true) : dUt K t s y = (false, r.2.1, r.2.2) := by
  unfold dUt
  rw [e, if_neg h]
theorem dTu_st {K : TK} {t : TW} {s : CS} {y : DY} (h : ¬ cWo K s = 22) (h1 : isSt (cWo K s)) (h2 : y.nS < 30) (h3 : ¬ ((cWo K s = 16 ∨ cWo K s = 21) ∧ 3 ≤ y.nD)) : dTu K t s y = dS2 K t (cWo K s) (cNx K s) (dSp y) := (if_neg h).trans ((if_pos h1).trans ((if_pos h2).trans (if_neg h3)))
theorem dTu_7 {K : TK} {t : TW} {s : CS} {y : DY} (h : ¬ cWo K s = 22) (h1 : isSt (cWo K s)) (h2 : y.nS < 30) (h3 : (cWo K s = 16 ∨ cWo K s = 21) ∧ 3 ≤ y.nD) : dTu K t s y = (false, cFl K 7 s, y) := (if_neg h).trans ((if_pos h1).trans ((if_pos h2).trans (if_pos h3)))
theorem dTu_6 {K : TK} {t : TW} {s : CS} {y : DY} (h : ¬ cWo K s = 22) (h1 : isSt (cWo K s)) (h2 : ¬ y.nS < 30) : dTu K t s y = (false, cFl K 6 s, y) := (if_neg h).trans ((if_pos h1).trans (if_neg h2))
theorem dTu_2 {K : TK} {t : TW} {s : CS} {y : DY} (h : ¬ cWo K s = 22) (h1 : ¬ isSt (cWo K s)) : dTu K t s y = (false, cCs K s, y) := (if_neg h).trans (if_neg h1)
theorem dTu_e {K : TK} {t : TW} {s : CS} {y : DY} (h : cWo K s = 22) (h1 : 0 < y.nD) : dTu K t s y = (true, cNx K s, dAdd (dBk y) 7 0 (y.op (y.nD - 1))) := (if_pos h).trans (if_pos h1)
theorem dTu_e0 {K : TK} {t : TW} {s : CS} {y : DY} (h : cWo K s = 22) (h1 : ¬ 0 < y.nD) : dTu K t s y = (false, cCs K s, y) := (if_pos h).trans (if_neg h1)
section TB1
variable {Γ : Gm} {Q : Option Value → LH → Prop} {m_at m_sort m_trayMany m_tape m_text m_opened m_eastBy m_northBy m_partBy m_wayFaults m_wayEast m_wayNorth m_olds m_farBy m_rowBy m_triedBy m_doneAt m_gotAt m_struckAt m_bestDeed m_loops m_ran m_told1 : Nat → Int32} {m_names m_trays m_misBy : Nat → Int64} {m_status m_taped m_size m_token m_from m_end m_value m_faultKind m_faultPlace m_faults m_seen m_areOdds m_depth m_counted m_wayMany m_oneOfSet m_twoOfSet m_rowMany m_drawn m_ranSteps m_isTold m_marks : Int32} {m_top m_bottom : Int64} {L : Nat} {K : TK} {t : TW} {y : DY} {p : Nat} {s : CS}
set_option maxRecDepth 100000 in
set_option maxHeartbeats 4000000 in
theorem l_ds_147 {c1 c4 : Int32} (hp : p + 6 ≤ 2332) (hq : ∀ b : Nat → Int32, (∀ j, 1 ≤ j → j < 6 → b (p + j) = 0) → (∀ j, ¬ (p + 1 ≤ j ∧ j < p + 6) → b j = m_at j) → WP Γ M_Mo_dayStep 11 0 0 (hM (b) m_names m_status m_top m_bottom m_sort m_trayMany m_trays m_tape m_text m_taped m_size m_token m_from m_end m_value m_faultKind m_faultPlace m_faults m_seen m_areOdds m_opened m_depth m_counted m_eastBy m_northBy m_partBy m_wayFaults m_wayEast m_wayNorth m_olds m_wayMany m_oneOfSet m_twoOfSet m_farBy m_rowBy m_triedBy m_rowMany m_doneAt m_gotAt m_struckAt m_bestDeed m_misBy m_drawn m_ranSteps m_loops m_ran m_told1 m_isTold m_marks) 170 [some (.ref 0), some (.int c1), some (.int (nI y.nR)), some (.int (nI p)), some (.int c4), some (.int 6)] [] Q) : ∀ (n i : Nat) (a : Nat → Int32), i + n = 6 → 1 ≤ i → (∀ j, 1 ≤ j → j < i → a (p + j) = 0) → (∀ j, ¬ (p + 1 ≤ j ∧ j < p + 6) → a j = m_at j) → WP Γ M_Mo_dayStep 11 0 0 (hM (a) m_names m_status m_top m_bottom m_sort m_trayMany m_trays m_tape m_text m_taped m_size m_token m_from m_end m_value m_faultKind m_faultPlace m_faults m_seen m_areOdds m_opened m_depth m_counted m_eastBy m_northBy m_partBy m_wayFaults m_wayEast m_wayNorth m_olds m_wayMany m_oneOfSet m_twoOfSet m_farBy m_rowBy m_triedBy m_rowMany m_doneAt m_gotAt m_struckAt m_bestDeed m_misBy m_drawn m_ranSteps m_loops m_ran m_told1 m_isTold m_marks) 147 [some (.ref 0), some (.int c1), some (.int (nI y.nR)), some (.int (nI p)), some (.int c4), some (.int (nI i))] [] Q := by
  intro n
  induction n with
  | zero =>
    intro i a hi hi1 h0 h1
    refine wp_iload 149 d_Mo_dayStep_147 rfl rfl ?_
    refine wp_bipush 151 6 d_Mo_dayStep_149 rfl (by decide) ?_
    refine wp_icmp_ge 170 154 d_Mo_dayStep_151 rfl (by decide) (fun h151 => ?_) (fun h151 => ?_)
    · obtain rfl : i = 6 := by omega
      exact hq a (fun j j1 j2 => h0 j j1 j2) h1
    · exact absurd (nI_ltN (b := 6) (Int32.not_le.mp h151) (by omega) (by omega)) (by omega)
  | succ n ih =>
    intro i a hi hi1 h0 h1
    refine wp_iload 149 d_Mo_dayStep_147 rfl rfl ?_
    refine wp_bipush 151 6 d_Mo_dayStep_149 rfl (by decide) ?_
    refine wp_icmp_ge 170 154 d_Mo_dayStep_151 rfl (by decide) (fun h151 => ?_) (fun h151 => ?_)
    · exact absurd (nI_leN (b := 6) h151 (by omega) (by omega)) (by omega)
    · refine wp_aload_n 155 d_Mo_dayStep_154 rfl rfl ?_
      refine wp_getfield 158 12 0 d_Mo_dayStep_155 rfl fl_Mo_7 rfl rfl ?_
      refine wp_iload_n 159 d_Mo_dayStep_158 rfl rfl ?_
      refine wp_iload 161 d_Mo_dayStep_159 rfl rfl ?_
      refine wp_iadd 162 d_Mo_dayStep_161 rfl ?_
      rw [nI_add]
      refine wp_iconst 163 0 d_Mo_dayStep_162 rfl (by decide) ?_
      refine wp_iastoreN 164 d_Mo_dayStep_163 rfl rfl rfl (by omega) ?_
      refine hEq (hM (upd a (p + i) 0) m_names m_status m_top m_bottom m_sort m_trayMany m_trays m_tape m_text m_taped m_size m_token m_from m_end m_value m_faultKind m_faultPlace m_faults m_seen m_areOdds m_opened m_depth m_counted m_eastBy m_northBy m_partBy m_wayFaults m_wayEast m_wayNorth m_olds m_wayMany m_oneOfSet m_twoOfSet m_farBy m_rowBy m_triedBy m_rowMany m_doneAt m_gotAt m_struckAt m_bestDeed m_misBy m_drawn m_ranSteps m_loops m_ran m_told1 m_isTold m_marks) rfl ?_
      first | refine wp_iincN_5 167 d_Mo_dayStep_164 rfl rfl rfl ?_ | refine wp_iinc_5 167 1 d_Mo_dayStep_164 rfl (by decide) rfl rfl ?_
      refine wp_goto 147 d_Mo_dayStep_167 (by decide) ?_
      refine ih (i + 1) (upd a (p + i) 0) (by omega) (by omega) (fun j j1 j2 => ?_) (fun j hj => ?_)
      · by_cases z : j = i
        · rw [z, upd_at]
        · rw [upd_ne (by omega)]; exact h0 j j1 (by omega)
      · rw [upd_ne (by omega)]; exact h1 j hj
set_option maxRecDepth 100000 in
set_option maxHeartbeats 4000000 in
theorem l_ds_11 (hL : L ≤ 900) (hb : ∀ k, k < L → b8 (m_text k)) (T : TKs co0_ m_text L K) (ha : s.a < K.nT) (hf : m_faults = 0) (hw : cWo K s = 11) (V : vT m_at t) (N : NS m_names 0 t) (ok : DOk K s y) (hw7 : m_at 1807 = nI y.nR) (RR : RDr t.nW m_at y) (W : WFP y) (O : ∀ i, i < y.nD → m_opened i = y.op i) (hq1 : (dUt K t s y).1 = true → ∀ (a2 op2 : Nat → Int32), frO a2 m_at → a2 1807 = nI (dUt K t s y).2.2.nR → RDr t.nW a2 (dUt K t s y).2.2 → WFP (dUt K t s y).2.2 → (∀ i, i < (dUt K t s y).2.2.nD → op2 i = (dUt K t s y).2.2.op i) → Q (some (.int 1)) (hM (a2) m_names m_status m_top m_bottom m_sort m_trayMany m_trays m_tape m_text m_taped ((nI L)) ((gtF m_text L (dUt K t s y).2.1.a).1) ((nI (gtF m_text L (dUt K t s y).2.1.a).2.1)) ((nI (gtF m_text L (dUt K t s y).2.1.a).2.2.1)) ((gtF m_text L (dUt K t s y).2.1.a).2.2.2) m_faultKind m_faultPlace m_faults m_seen m_areOdds (op2) ((nI (dUt K t s y).2.2.nD)) ((nI (dUt K t s y).2.2.nS)) m_eastBy m_northBy m_partBy m_wayFaults m_wayEast m_wayNorth m_olds m_wayMany m_oneOfSet m_twoOfSet m_farBy m_rowBy m_triedBy m_rowMany m_doneAt m_gotAt m_struckAt m_bestDeed m_misBy m_drawn m_ranSteps m_loops m_ran m_told1 m_isTold m_marks)) (hq0 : ¬ (dUt K t s y).1 = true → ∀ (a2 op2 : Nat → Int32) (z1 z2 z3 z4 z5 z6 : Int32), frO a2 m_at → Q (some (.int 0)) (hM (a2) m_names m_status m_top m_bottom m_sort m_trayMany m_trays m_tape m_text m_taped ((nI L)) (z1) (z2) (z3) (z4) m_faultKind (((dUt K t s y).2.1).fp) (((dUt K t s y).2.1).fk) m_seen m_areOdds (op2) (z5) (z6) m_eastBy m_northBy m_partBy m_wayFaults m_wayEast m_wayNorth m_olds m_wayMany m_oneOfSet m_twoOfSet m_farBy m_rowBy m_triedBy m_rowMany m_doneAt m_gotAt m_struckAt m_bestDeed m_misBy m_drawn m_ranSteps m_loops m_ran m_told1 m_isTold m_marks)) : WP Γ M_Mo_dayStep 11 0 0 (hM m_at m_names m_status m_top m_bottom m_sort m_trayMany m_trays m_tape m_text m_taped ((nI L)) ((gtF m_text L s.a).1) ((nI (gtF m_text L s.a).2.1)) ((nI (gtF m_text L s.a).2.2.1)) ((gtF m_text L s.a).2.2.2) m_faultKind m_faultPlace m_faults m_seen m_areOdds m_opened ((nI y.nD)) ((nI y.nS)) m_eastBy m_northBy m_partBy m_wayFaults m_wayEast m_wayNorth m_olds m_wayMany m_oneOfSet m_twoOfSet m_farBy m_rowBy m_triedBy m_rowMany m_doneAt m_gotAt m_struckAt m_bestDeed m_misBy m_drawn m_ranSteps m_loops m_ran m_told1 m_isTold m_marks) 7 [some (.ref 0), some (.int 11), none, none, none, none] [] Q := by
  have A := ATk_of (s := s) hb T ha
  have g2 := ak_w2 (w := 11) A (by omega) hw
  have hS30 := ok.2.2.1
  have hD3 := ok.2.2.2.1
  have hRR := ok.2.1
  refine wp_aload_n 8 d_Mo_dayStep_7 rfl rfl ?_
  refine wp_getfield 11 12 0 d_Mo_dayStep_8 rfl fl_Mo_7 rfl rfl ?_
  refine wp_sipush 14 1807 d_Mo_dayStep_11 rfl (by decide) ?_
  refine wp_iaload 15 d_Mo_dayStep_14 rfl rfl (vp_in_nI (n := 1807) (N := 2332) (by omega) (by omega)) ?_
  rw [show m_at (1807 : Int32).toNatClampNeg = nI y.nR from hw7]
  refine wp_istore_2 16 d_Mo_dayStep_15 rfl rfl rfl ?_
  refine wp_sipush 19 1882 d_Mo_dayStep_16 rfl (by decide) ?_
  refine wp_bipush 21 6 d_Mo_dayStep_19 rfl (by decide) ?_
  refine wp_iload_n 22 d_Mo_dayStep_21 rfl rfl ?_
  refine wp_imul 23 d_Mo_dayStep_22 rfl ?_
  refine wp_iadd 24 d_Mo_dayStep_23 rfl ?_
  rw [show (1882 : Int32) + 6 * nI y.nR = nI (1882 + 6 * y.nR) from by rw [show (6 : Int32) * nI y.nR = nI (6 * y.nR) from mulK 6 y.nR]; exact nI_add 1882 _]
  refine wp_istore_3 25 d_Mo_dayStep_24 rfl rfl rfl ?_
  refine wp_iload_n 26 d_Mo_dayStep_25 rfl rfl ?_
  refine wp_bipush 28 16 d_Mo_dayStep_26 rfl (by decide) ?_
  refine wp_icmp_eq 37 31 d_Mo_dayStep_28 rfl (by decide) (fun h28 => ?_) (fun h28 => ?_)
  · exact absurd h28 (by decide)
  · refine wp_iload_n 32 d_Mo_dayStep_31 rfl rfl ?_
    refine wp_bipush 34 17 d_Mo_dayStep_32 rfl (by decide) ?_
    refine wp_icmp_ne 41 37 d_Mo_dayStep_34 rfl (by decide) (fun h34 => ?_) (fun h34 => ?_)
    · refine wp_iconst 42 0 d_Mo_dayStep_41 rfl (by decide) ?_
      refine wp_istore_4 44 d_Mo_dayStep_42 rfl rfl rfl ?_
      refine wp_iload_n 45 d_Mo_dayStep_44 rfl rfl ?_
      refine wp_bipush 47 11 d_Mo_dayStep_45 rfl (by decide) ?_
      refine wp_icmp_lt 69 50 d_Mo_dayStep_47 rfl (by decide) (fun h47 => ?_) (fun h47 => ?_)
      · exact absurd h47 (by decide)
      · refine wp_iload_n 51 d_Mo_dayStep_50 rfl rfl ?_
        refine wp_bipush 53 19 d_Mo_dayStep_51 rfl (by decide) ?_
        refine wp_icmp_gt 69 56 d_Mo_dayStep_53 rfl (by decide) (fun h53 => ?_) (fun h53 => ?_)
        · exact absurd h53 (by decide)
        · refine wp_iload_n 57 d_Mo_dayStep_56 rfl rfl ?_
          refine wp_bipush 59 18 d_Mo_dayStep_57 rfl (by decide) ?_
          refine wp_icmp_ne 75 62 d_Mo_dayStep_59 rfl (by decide) (fun h59 => ?_) (fun h59 => ?_)
          · refine wp_iload_n 76 d_Mo_dayStep_75 rfl rfl ?_
            refine wp_bipush 78 18 d_Mo_dayStep_76 rfl (by decide) ?_
            refine wp_icmp_eq 97 81 d_Mo_dayStep_78 rfl (by decide) (fun h78 => ?_) (fun h78 => ?_)
            · exact absurd h78 (by decide)
            · refine wp_aload_n 82 d_Mo_dayStep_81 rfl rfl ?_
              refine wp_getfield 85 12 23 d_Mo_dayStep_82 rfl fl_Mo_269 rfl rfl ?_
              refine wp_bipush 87 30 d_Mo_dayStep_85 rfl (by decide) ?_
              refine wp_icmp_ne 97 90 d_Mo_dayStep_87 rfl (by decide) (fun h87 => ?_) (fun h87 => ?_)
              · have h30 : y.nS < 30 := by
                  rcases Nat.lt_or_ge y.nS 30 with z | z
                  · exact z
                  · exact absurd (show nI y.nS = 30 from by rw [show y.nS = 30 by omega]; rfl) h87
                refine wp_iload 99 d_Mo_dayStep_97 rfl rfl ?_
                refine wp_if_eq 117 102 d_Mo_dayStep_99 rfl (by decide) (fun h99 => ?_) (fun h99 => ?_)
                · refine wp_aload_n 118 d_Mo_dayStep_117 rfl rfl ?_
                  refine wp_dup 119 d_Mo_dayStep_118 rfl rfl ?_
                  refine wp_getfield 122 12 23 d_Mo_dayStep_119 rfl fl_Mo_269 rfl rfl ?_
                  refine wp_iload_n 123 d_Mo_dayStep_122 rfl rfl ?_
                  refine wp_bipush 125 18 d_Mo_dayStep_123 rfl (by decide) ?_
                  refine wp_icmp_ne 132 128 d_Mo_dayStep_125 rfl (by decide) (fun h125 => ?_) (fun h125 => ?_)
                  · refine wp_iconst 133 1 d_Mo_dayStep_132 rfl (by decide) ?_
                    refine wp_iadd 134 d_Mo_dayStep_133 rfl ?_
                    rw [nI_1]
                    refine wp_putfield 137 12 23 _ d_Mo_dayStep_134 rfl fp_Mo_269 rfl rfl (okP_int _) ?_
                    refine hEq (hM m_at m_names m_status m_top m_bottom m_sort m_trayMany m_trays m_tape m_text m_taped ((nI L)) ((gtF m_text L s.a).1) ((nI (gtF m_text L s.a).2.1)) ((nI (gtF m_text L s.a).2.2.1)) ((gtF m_text L s.a).2.2.2) m_faultKind m_faultPlace m_faults m_seen m_areOdds m_opened ((nI y.nD)) ((nI (y.nS + 1))) m_eastBy m_northBy m_partBy m_wayFaults m_wayEast m_wayNorth m_olds m_wayMany m_oneOfSet m_twoOfSet m_farBy m_rowBy m_triedBy m_rowMany m_doneAt m_gotAt m_struckAt m_bestDeed m_misBy m_drawn m_ranSteps m_loops m_ran m_told1 m_isTold m_marks) rfl ?_
                    refine wp_aload_n 138 d_Mo_dayStep_137 rfl rfl ?_
                    refine wp_getfield 141 12 0 d_Mo_dayStep_138 rfl fl_Mo_7 rfl rfl ?_
                    refine wp_iload_n 142 d_Mo_dayStep_141 rfl rfl ?_
                    refine wp_iload_n 143 d_Mo_dayStep_142 rfl rfl ?_
                    refine wp_iastoreN 144 d_Mo_dayStep_143 rfl rfl rfl (by omega) ?_
                    refine hEq (hM ((upd m_at (1882 + 6 * y.nR) 11)) m_names m_status m_top m_bottom m_sort m_trayMany m_trays m_tape m_text m_taped ((nI L)) ((gtF m_text L s.a).1) ((nI (gtF m_text L s.a).2.1)) ((nI (gtF m_text L s.a).2.2.1)) ((gtF m_text L s.a).2.2.2) m_faultKind m_faultPlace m_faults m_seen m_areOdds m_opened ((nI y.nD)) ((nI (y.nS + 1))) m_eastBy m_northBy m_partBy m_wayFaults m_wayEast m_wayNorth m_olds m_wayMany m_oneOfSet m_twoOfSet m_farBy m_rowBy m_triedBy m_rowMany m_doneAt m_gotAt m_struckAt m_bestDeed m_misBy m_drawn m_ranSteps m_loops m_ran m_told1 m_isTold m_marks) rfl ?_
                    refine wp_iconst 145 1 d_Mo_dayStep_144 rfl (by decide) ?_
                    refine wp_istore_5 147 d_Mo_dayStep_145 rfl rfl rfl ?_
                    have hR60 : y.nR < 60 := by omega
                    refine l_ds_147 (m_at := (upd m_at (1882 + 6 * y.nR) 11)) (y := y) (p := (1882 + 6 * y.nR)) (c1 := 11) (c4 := 0) (by omega) (fun b b1 b2 => ?_) 5 1 (upd m_at (1882 + 6 * y.nR) 11) (by omega) (by omega) (fun j j1 j2 => absurd j1 (by omega)) (fun _ _ => rfl)
                    have b7 : b 1807 = nI y.nR := (b2 1807 (by omega)).trans ((upd_ne (by omega)).trans hw7)
                    have bp : b (1882 + 6 * y.nR) = 11 := (b2 _ (by omega)).trans upd_at
                    have bo : ∀ j, j < 1882 + 6 * y.nR → b j = m_at j := fun j hj => (b2 j (by omega)).trans (upd_ne (by omega))
                    have V2 : vT (upd b 1807 (nI (y.nR + 1))) t := vT_82 V (fun j hj => (upd_ne (by omega)).trans (bo j (by omega)))
                    have hz0 : ∀ j, 1 ≤ j → j < 6 → (upd b 1807 (nI (y.nR + 1))) ((1882 + 6 * y.nR) + j) = 0 := fun j j1 j2 => (upd_ne (by omega)).trans (b1 j j1 j2)
                    have hw0 : (upd b 1807 (nI (y.nR + 1))) (1882 + 6 * y.nR) = 11 := (upd_ne (by omega)).trans bp
                    have et : dTu K t s y = dNR K 0 0 11 (cNx K s) (dSp y) := (dTu_st (by rw [hw]; decide) (by rw [hw]; decide) h30 (by rw [hw]; exact fun z => absurd z.1 (by decide))).trans (by rw [hw]; rfl)
                    have hlt : (dNR K 0 0 11 (cNx K s) (dSp y)).2.1.a < K.nT := by have := (dTu_ok (t := t) ok).1; rw [et] at this; exact this
                    refine wp_aload_n 171 d_Mo_dayStep_170 rfl rfl ?_
                    refine wp_getfield 174 12 0 d_Mo_dayStep_171 rfl fl_Mo_7 rfl rfl ?_
                    refine wp_sipush 177 1807 d_Mo_dayStep_174 rfl (by decide) ?_
                    refine wp_dup2 178 d_Mo_dayStep_177 rfl rfl rfl ?_
                    refine wp_iaload 179 d_Mo_dayStep_178 rfl rfl (vp_in_nI (n := 1807) (N := 2332) (by omega) (by omega)) ?_
                    rw [show b (1807 : Int32).toNatClampNeg = nI y.nR from b7]
                    refine wp_iconst 180 1 d_Mo_dayStep_179 rfl (by decide) ?_
                    refine wp_iadd 181 d_Mo_dayStep_180 rfl ?_
                    rw [nI_1]
                    refine wp_iastore 182 d_Mo_dayStep_181 rfl rfl (vp_in_nI (n := 1807) (N := 2332) (by omega) (by omega)) ?_
                    refine hEq (hM ((upd b 1807 (nI (y.nR + 1)))) m_names m_status m_top m_bottom m_sort m_trayMany m_trays m_tape m_text m_taped ((nI L)) ((gtF m_text L s.a).1) ((nI (gtF m_text L s.a).2.1)) ((nI (gtF m_text L s.a).2.2.1)) ((gtF m_text L s.a).2.2.2) m_faultKind m_faultPlace m_faults m_seen m_areOdds m_opened ((nI y.nD)) ((nI (y.nS + 1))) m_eastBy m_northBy m_partBy m_wayFaults m_wayEast m_wayNorth m_olds m_wayMany m_oneOfSet m_twoOfSet m_farBy m_rowBy m_triedBy m_rowMany m_doneAt m_gotAt m_struckAt m_bestDeed m_misBy m_drawn m_ranSteps m_loops m_ran m_told1 m_isTold m_marks) rfl ?_
                    refine wp_aload_n 183 d_Mo_dayStep_182 rfl rfl ?_
                    refine wp_V0 186 M_Mo_ahead 2 d_Mo_dayStep_183 rfl mv_Mo_ahead lk_Mo_187 rfl rfl rfl rfl rfl ?_
                    refine k_ahead (s := s) hL hb T ha (by rw [g2]; decide) ?_
                    refine kV ?_
                    refine wp_aload_n 187 d_Mo_dayStep_186 rfl rfl ?_
                    refine wp_iload_n 188 d_Mo_dayStep_187 rfl rfl ?_
                    refine wp_iload_n 189 d_Mo_dayStep_188 rfl rfl ?_
                    refine wp_V2 192 M_Mo_dayOrder 10 d_Mo_dayStep_189 rfl mv_Mo_dayOrder lk_Mo_272 rfl rfl rfl rfl rfl ?_
                    refine k_doGo (s := cNx K s) (t := t) (y := (dSp y)) (p := (1882 + 6 * y.nR)) hL hb T (cNx_lt ha) hf V2 N (by omega) (by omega) hz0 hw0 (fun n1 a2 kk f z g1 g2_ g3 g4 => ?_) (fun n8 a2 z1 z2 z3 z4 g1 => ?_)
                    · refine kI ?_
                      refine wp_if_ne 197 195 d_Mo_dayStep_192 rfl (by decide) (fun h192 => ?_) (fun h192 => ?_)
                      · refine wp_iload 199 d_Mo_dayStep_197 rfl rfl ?_
                        refine wp_if_eq 222 202 d_Mo_dayStep_199 rfl (by decide) (fun h199 => ?_) (fun h199 => ?_)
                        · refine wp_iload_n 223 d_Mo_dayStep_222 rfl rfl ?_
                          refine wp_bipush 225 18 d_Mo_dayStep_223 rfl (by decide) ?_
                          refine wp_icmp_ne 279 228 d_Mo_dayStep_225 rfl (by decide) (fun h225 => ?_) (fun h225 => ?_)
                          · refine wp_aload_n 280 d_Mo_dayStep_279 rfl rfl ?_
                            refine wp_bipush 282 59 d_Mo_dayStep_280 rfl (by decide) ?_
                            refine wp_V1 285 M_Mo_wantSign 3 d_Mo_dayStep_282 rfl mv_Mo_wantSign lk_Mo_240 rfl rfl rfl rfl rfl ?_
                            refine k_wantSign (s := (dNR K 0 0 11 (cNx K s) (dSp y)).2.1) (c := 59) hL hb T hlt hf (fun n5 => ?_) (fun n9 => ?_)
                            · refine kI ?_
                              refine wp_zreturn d_Mo_dayStep_285 rfl (by first | rfl | exact nbP _) ?_
                              have e := dUt_y et n1
                              rw [e, g2_] at hq1
                              exact hq1 n5 a2 m_opened (fun k9 hk9 => (g1 k9 (by omega)).trans ((upd_ne (by omega)).trans (bo k9 (by omega)))) ((g1 1807 (by omega)).trans upd_at) (RDr_add (y := (dSp y)) RR (fun j j1 j2 => (g1 j (by have j2 : j < 1882 + 6 * y.nR := j2; omega)).trans ((upd_ne (by omega)).trans (bo j j2))) g3) (WFP_add (y := dSp y) W hR60 g4.1 g4.2.1) O
                            · refine kI ?_
                              refine wp_zreturn d_Mo_dayStep_285 rfl (by first | rfl | exact nbP _) ?_
                              have e := dUt_y et n1
                              rw [e] at hq0
                              exact hq0 n9 a2 m_opened _ _ _ _ _ _ (fun k9 hk9 => (g1 k9 (by omega)).trans ((upd_ne (by omega)).trans (bo k9 (by omega))))
                          · exact absurd h225 (by decide)
                        · exact absurd h199 (by decide)
                      · exact absurd h192 (by decide)
                    · refine kI ?_
                      refine wp_if_ne 197 195 d_Mo_dayStep_192 rfl (by decide) (fun h192 => ?_) (fun h192 => ?_)
                      · exact absurd rfl h192
                      · refine wp_iconst 196 0 d_Mo_dayStep_195 rfl (by decide) ?_
                        refine wp_zreturn d_Mo_dayStep_196 rfl (by first | rfl | exact nbP _) ?_
                        have e := dUt_f et n8
                        rw [e] at hq0
                        exact hq0 Bool.false_ne_true a2 m_opened _ _ _ _ _ _ (fun k9 hk9 => (g1 k9 (by omega)).trans ((upd_ne (by omega)).trans (bo k9 (by omega))))
                  · exact absurd h125 (by decide)
                · exact absurd h99 (by decide)
              · refine wp_aload_n 91 d_Mo_dayStep_90 rfl rfl ?_
                refine wp_bipush 93 6 d_Mo_dayStep_91 rfl (by decide) ?_
                refine wp_V1 96 M_Mo_fails 1 d_Mo_dayStep_93 rfl mv_Mo_fails lk_Mo_193 rfl rfl rfl rfl rfl ?_
                refine k_fails (s := s) (c := 6) hL hb T ha hf (by rw [g2]; decide) ?_
                refine kI ?_
                refine wp_zreturn d_Mo_dayStep_96 rfl (by first | rfl | exact nbP _) ?_
                have h30 : ¬ y.nS < 30 := fun z => absurd (nI_ij (b := 30) h87 (by omega) (by omega)) (by omega)
                have e := dUt_f (dTu_6 (K := K) (t := t) (s := s) (y := y) (by rw [hw]; decide) (by rw [hw]; decide) h30) Bool.false_ne_true
                rw [e] at hq0
                exact hq0 Bool.false_ne_true m_at m_opened _ _ _ _ _ _ (fun _ _ => rfl)
          · exact absurd h59 (by decide)
    · exact absurd h34 (by decide)
set_option maxRecDepth 100000 in
set_option maxHeartbeats 4000000 in
theorem l_ds_12 (hL : L ≤ 900) (hb : ∀ k, k < L → b8 (m_text k)) (T : TKs co0_ m_text L K) (ha : s.a < K.nT) (hf : m_faults = 0) (hw : cWo K s = 12) (V : vT m_at t) (N : NS m_names 0 t) (ok : DOk K s y) (hw7 : m_at 1807 = nI y.nR) (RR : RDr t.nW m_at y) (W : WFP y) (O : ∀ i, i < y.nD → m_opened i = y.op i) (hq1 : (dUt K t s y).1 = true → ∀ (a2 op2 : Nat → Int32), frO a2 m_at → a2 1807 = nI (dUt K t s y).2.2.nR → RDr t.nW a2 (dUt K t s y).2.2 → WFP (dUt K t s y).2.2 → (∀ i, i < (dUt K t s y).2.2.nD → op2 i = (dUt K t s y).2.2.op i) → Q (some (.int 1)) (hM (a2) m_names m_status m_top m_bottom m_sort m_trayMany m_trays m_tape m_text m_taped ((nI L)) ((gtF m_text L (dUt K t s y).2.1.a).1) ((nI (gtF m_text L (dUt K t s y).2.1.a).2.1)) ((nI (gtF m_text L (dUt K t s y).2.1.a).2.2.1)) ((gtF m_text L (dUt K t s y).2.1.a).2.2.2) m_faultKind m_faultPlace m_faults m_seen m_areOdds (op2) ((nI (dUt K t s y).2.2.nD)) ((nI (dUt K t s y).2.2.nS)) m_eastBy m_northBy m_partBy m_wayFaults m_wayEast m_wayNorth m_olds m_wayMany m_oneOfSet m_twoOfSet m_farBy m_rowBy m_triedBy m_rowMany m_doneAt m_gotAt m_struckAt m_bestDeed m_misBy m_drawn m_ranSteps m_loops m_ran m_told1 m_isTold m_marks)) (hq0 : ¬ (dUt K t s y).1 = true → ∀ (a2 op2 : Nat → Int32) (z1 z2 z3 z4 z5 z6 : Int32), frO a2 m_at → Q (some (.int 0)) (hM (a2) m_names m_status m_top m_bottom m_sort m_trayMany m_trays m_tape m_text m_taped ((nI L)) (z1) (z2) (z3) (z4) m_faultKind (((dUt K t s y).2.1).fp) (((dUt K t s y).2.1).fk) m_seen m_areOdds (op2) (z5) (z6) m_eastBy m_northBy m_partBy m_wayFaults m_wayEast m_wayNorth m_olds m_wayMany m_oneOfSet m_twoOfSet m_farBy m_rowBy m_triedBy m_rowMany m_doneAt m_gotAt m_struckAt m_bestDeed m_misBy m_drawn m_ranSteps m_loops m_ran m_told1 m_isTold m_marks)) : WP Γ M_Mo_dayStep 11 0 0 (hM m_at m_names m_status m_top m_bottom m_sort m_trayMany m_trays m_tape m_text m_taped ((nI L)) ((gtF m_text L s.a).1) ((nI (gtF m_text L s.a).2.1)) ((nI (gtF m_text L s.a).2.2.1)) ((gtF m_text L s.a).2.2.2) m_faultKind m_faultPlace m_faults m_seen m_areOdds m_opened ((nI y.nD)) ((nI y.nS)) m_eastBy m_northBy m_partBy m_wayFaults m_wayEast m_wayNorth m_olds m_wayMany m_oneOfSet m_twoOfSet m_farBy m_rowBy m_triedBy m_rowMany m_doneAt m_gotAt m_struckAt m_bestDeed m_misBy m_drawn m_ranSteps m_loops m_ran m_told1 m_isTold m_marks) 7 [some (.ref 0), some (.int 12), none, none, none, none] [] Q := by
  have A := ATk_of (s := s) hb T ha
  have g2 := ak_w2 (w := 12) A (by omega) hw
  have hS30 := ok.2.2.1
  have hD3 := ok.2.2.2.1
  have hRR := ok.2.1
  refine wp_aload_n 8 d_Mo_dayStep_7 rfl rfl ?_
  refine wp_getfield 11 12 0 d_Mo_dayStep_8 rfl fl_Mo_7 rfl rfl ?_
  refine wp_sipush 14 1807 d_Mo_dayStep_11 rfl (by decide) ?_
  refine wp_iaload 15 d_Mo_dayStep_14 rfl rfl (vp_in_nI (n := 1807) (N := 2332) (by omega) (by omega)) ?_
  rw [show m_at (1807 : Int32).toNatClampNeg = nI y.nR from hw7]
  refine wp_istore_2 16 d_Mo_dayStep_15 rfl rfl rfl ?_
  refine wp_sipush 19 1882 d_Mo_dayStep_16 rfl (by decide) ?_
  refine wp_bipush 21 6 d_Mo_dayStep_19 rfl (by decide) ?_
  refine wp_iload_n 22 d_Mo_dayStep_21 rfl rfl ?_
  refine wp_imul 23 d_Mo_dayStep_22 rfl ?_
  refine wp_iadd 24 d_Mo_dayStep_23 rfl ?_
  rw [show (1882 : Int32) + 6 * nI y.nR = nI (1882 + 6 * y.nR) from by rw [show (6 : Int32) * nI y.nR = nI (6 * y.nR) from mulK 6 y.nR]; exact nI_add 1882 _]
  refine wp_istore_3 25 d_Mo_dayStep_24 rfl rfl rfl ?_
  refine wp_iload_n 26 d_Mo_dayStep_25 rfl rfl ?_
  refine wp_bipush 28 16 d_Mo_dayStep_26 rfl (by decide) ?_
  refine wp_icmp_eq 37 31 d_Mo_dayStep_28 rfl (by decide) (fun h28 => ?_) (fun h28 => ?_)
  · exact absurd h28 (by decide)
  · refine wp_iload_n 32 d_Mo_dayStep_31 rfl rfl ?_
    refine wp_bipush 34 17 d_Mo_dayStep_32 rfl (by decide) ?_
    refine wp_icmp_ne 41 37 d_Mo_dayStep_34 rfl (by decide) (fun h34 => ?_) (fun h34 => ?_)
    · refine wp_iconst 42 0 d_Mo_dayStep_41 rfl (by decide) ?_
      refine wp_istore_4 44 d_Mo_dayStep_42 rfl rfl rfl ?_
      refine wp_iload_n 45 d_Mo_dayStep_44 rfl rfl ?_
      refine wp_bipush 47 11 d_Mo_dayStep_45 rfl (by decide) ?_
      refine wp_icmp_lt 69 50 d_Mo_dayStep_47 rfl (by decide) (fun h47 => ?_) (fun h47 => ?_)
      · exact absurd h47 (by decide)
      · refine wp_iload_n 51 d_Mo_dayStep_50 rfl rfl ?_
        refine wp_bipush 53 19 d_Mo_dayStep_51 rfl (by decide) ?_
        refine wp_icmp_gt 69 56 d_Mo_dayStep_53 rfl (by decide) (fun h53 => ?_) (fun h53 => ?_)
        · exact absurd h53 (by decide)
        · refine wp_iload_n 57 d_Mo_dayStep_56 rfl rfl ?_
          refine wp_bipush 59 18 d_Mo_dayStep_57 rfl (by decide) ?_
          refine wp_icmp_ne 75 62 d_Mo_dayStep_59 rfl (by decide) (fun h59 => ?_) (fun h59 => ?_)
          · refine wp_iload_n 76 d_Mo_dayStep_75 rfl rfl ?_
            refine wp_bipush 78 18 d_Mo_dayStep_76 rfl (by decide) ?_
            refine wp_icmp_eq 97 81 d_Mo_dayStep_78 rfl (by decide) (fun h78 => ?_) (fun h78 => ?_)
            · exact absurd h78 (by decide)
            · refine wp_aload_n 82 d_Mo_dayStep_81 rfl rfl ?_
              refine wp_getfield 85 12 23 d_Mo_dayStep_82 rfl fl_Mo_269 rfl rfl ?_
              refine wp_bipush 87 30 d_Mo_dayStep_85 rfl (by decide) ?_
              refine wp_icmp_ne 97 90 d_Mo_dayStep_87 rfl (by decide) (fun h87 => ?_) (fun h87 => ?_)
              · have h30 : y.nS < 30 := by
                  rcases Nat.lt_or_ge y.nS 30 with z | z
                  · exact z
                  · exact absurd (show nI y.nS = 30 from by rw [show y.nS = 30 by omega]; rfl) h87
                refine wp_iload 99 d_Mo_dayStep_97 rfl rfl ?_
                refine wp_if_eq 117 102 d_Mo_dayStep_99 rfl (by decide) (fun h99 => ?_) (fun h99 => ?_)
                · refine wp_aload_n 118 d_Mo_dayStep_117 rfl rfl ?_
                  refine wp_dup 119 d_Mo_dayStep_118 rfl rfl ?_
                  refine wp_getfield 122 12 23 d_Mo_dayStep_119 rfl fl_Mo_269 rfl rfl ?_
                  refine wp_iload_n 123 d_Mo_dayStep_122 rfl rfl ?_
                  refine wp_bipush 125 18 d_Mo_dayStep_123 rfl (by decide) ?_
                  refine wp_icmp_ne 132 128 d_Mo_dayStep_125 rfl (by decide) (fun h125 => ?_) (fun h125 => ?_)
                  · refine wp_iconst 133 1 d_Mo_dayStep_132 rfl (by decide) ?_
                    refine wp_iadd 134 d_Mo_dayStep_133 rfl ?_
                    rw [nI_1]
                    refine wp_putfield 137 12 23 _ d_Mo_dayStep_134 rfl fp_Mo_269 rfl rfl (okP_int _) ?_
                    refine hEq (hM m_at m_names m_status m_top m_bottom m_sort m_trayMany m_trays m_tape m_text m_taped ((nI L)) ((gtF m_text L s.a).1) ((nI (gtF m_text L s.a).2.1)) ((nI (gtF m_text L s.a).2.2.1)) ((gtF m_text L s.a).2.2.2) m_faultKind m_faultPlace m_faults m_seen m_areOdds m_opened ((nI y.nD)) ((nI (y.nS + 1))) m_eastBy m_northBy m_partBy m_wayFaults m_wayEast m_wayNorth m_olds m_wayMany m_oneOfSet m_twoOfSet m_farBy m_rowBy m_triedBy m_rowMany m_doneAt m_gotAt m_struckAt m_bestDeed m_misBy m_drawn m_ranSteps m_loops m_ran m_told1 m_isTold m_marks) rfl ?_
                    refine wp_aload_n 138 d_Mo_dayStep_137 rfl rfl ?_
                    refine wp_getfield 141 12 0 d_Mo_dayStep_138 rfl fl_Mo_7 rfl rfl ?_
                    refine wp_iload_n 142 d_Mo_dayStep_141 rfl rfl ?_
                    refine wp_iload_n 143 d_Mo_dayStep_142 rfl rfl ?_
                    refine wp_iastoreN 144 d_Mo_dayStep_143 rfl rfl rfl (by omega) ?_
                    refine hEq (hM ((upd m_at (1882 + 6 * y.nR) 12)) m_names m_status m_top m_bottom m_sort m_trayMany m_trays m_tape m_text m_taped ((nI L)) ((gtF m_text L s.a).1) ((nI (gtF m_text L s.a).2.1)) ((nI (gtF m_text L s.a).2.2.1)) ((gtF m_text L s.a).2.2.2) m_faultKind m_faultPlace m_faults m_seen m_areOdds m_opened ((nI y.nD)) ((nI (y.nS + 1))) m_eastBy m_northBy m_partBy m_wayFaults m_wayEast m_wayNorth m_olds m_wayMany m_oneOfSet m_twoOfSet m_farBy m_rowBy m_triedBy m_rowMany m_doneAt m_gotAt m_struckAt m_bestDeed m_misBy m_drawn m_ranSteps m_loops m_ran m_told1 m_isTold m_marks) rfl ?_
                    refine wp_iconst 145 1 d_Mo_dayStep_144 rfl (by decide) ?_
                    refine wp_istore_5 147 d_Mo_dayStep_145 rfl rfl rfl ?_
                    have hR60 : y.nR < 60 := by omega
                    refine l_ds_147 (m_at := (upd m_at (1882 + 6 * y.nR) 12)) (y := y) (p := (1882 + 6 * y.nR)) (c1 := 12) (c4 := 0) (by omega) (fun b b1 b2 => ?_) 5 1 (upd m_at (1882 + 6 * y.nR) 12) (by omega) (by omega) (fun j j1 j2 => absurd j1 (by omega)) (fun _ _ => rfl)
                    have b7 : b 1807 = nI y.nR := (b2 1807 (by omega)).trans ((upd_ne (by omega)).trans hw7)
                    have bp : b (1882 + 6 * y.nR) = 12 := (b2 _ (by omega)).trans upd_at
                    have bo : ∀ j, j < 1882 + 6 * y.nR → b j = m_at j := fun j hj => (b2 j (by omega)).trans (upd_ne (by omega))
                    have V2 : vT (upd b 1807 (nI (y.nR + 1))) t := vT_82 V (fun j hj => (upd_ne (by omega)).trans (bo j (by omega)))
                    have hz0 : ∀ j, 1 ≤ j → j < 6 → (upd b 1807 (nI (y.nR + 1))) ((1882 + 6 * y.nR) + j) = 0 := fun j j1 j2 => (upd_ne (by omega)).trans (b1 j j1 j2)
                    have hw0 : (upd b 1807 (nI (y.nR + 1))) (1882 + 6 * y.nR) = 12 := (upd_ne (by omega)).trans bp
                    have et : dTu K t s y = dNR K 1 0 11 (cNx K s) (dSp y) := (dTu_st (by rw [hw]; decide) (by rw [hw]; decide) h30 (by rw [hw]; exact fun z => absurd z.1 (by decide))).trans (by rw [hw]; rfl)
                    have hlt : (dNR K 1 0 11 (cNx K s) (dSp y)).2.1.a < K.nT := by have := (dTu_ok (t := t) ok).1; rw [et] at this; exact this
                    refine wp_aload_n 171 d_Mo_dayStep_170 rfl rfl ?_
                    refine wp_getfield 174 12 0 d_Mo_dayStep_171 rfl fl_Mo_7 rfl rfl ?_
                    refine wp_sipush 177 1807 d_Mo_dayStep_174 rfl (by decide) ?_
                    refine wp_dup2 178 d_Mo_dayStep_177 rfl rfl rfl ?_
                    refine wp_iaload 179 d_Mo_dayStep_178 rfl rfl (vp_in_nI (n := 1807) (N := 2332) (by omega) (by omega)) ?_
                    rw [show b (1807 : Int32).toNatClampNeg = nI y.nR from b7]
                    refine wp_iconst 180 1 d_Mo_dayStep_179 rfl (by decide) ?_
                    refine wp_iadd 181 d_Mo_dayStep_180 rfl ?_
                    rw [nI_1]
                    refine wp_iastore 182 d_Mo_dayStep_181 rfl rfl (vp_in_nI (n := 1807) (N := 2332) (by omega) (by omega)) ?_
                    refine hEq (hM ((upd b 1807 (nI (y.nR + 1)))) m_names m_status m_top m_bottom m_sort m_trayMany m_trays m_tape m_text m_taped ((nI L)) ((gtF m_text L s.a).1) ((nI (gtF m_text L s.a).2.1)) ((nI (gtF m_text L s.a).2.2.1)) ((gtF m_text L s.a).2.2.2) m_faultKind m_faultPlace m_faults m_seen m_areOdds m_opened ((nI y.nD)) ((nI (y.nS + 1))) m_eastBy m_northBy m_partBy m_wayFaults m_wayEast m_wayNorth m_olds m_wayMany m_oneOfSet m_twoOfSet m_farBy m_rowBy m_triedBy m_rowMany m_doneAt m_gotAt m_struckAt m_bestDeed m_misBy m_drawn m_ranSteps m_loops m_ran m_told1 m_isTold m_marks) rfl ?_
                    refine wp_aload_n 183 d_Mo_dayStep_182 rfl rfl ?_
                    refine wp_V0 186 M_Mo_ahead 2 d_Mo_dayStep_183 rfl mv_Mo_ahead lk_Mo_187 rfl rfl rfl rfl rfl ?_
                    refine k_ahead (s := s) hL hb T ha (by rw [g2]; decide) ?_
                    refine kV ?_
                    refine wp_aload_n 187 d_Mo_dayStep_186 rfl rfl ?_
                    refine wp_iload_n 188 d_Mo_dayStep_187 rfl rfl ?_
                    refine wp_iload_n 189 d_Mo_dayStep_188 rfl rfl ?_
                    refine wp_V2 192 M_Mo_dayOrder 10 d_Mo_dayStep_189 rfl mv_Mo_dayOrder lk_Mo_272 rfl rfl rfl rfl rfl ?_
                    refine k_doStrike (s := cNx K s) (t := t) (y := (dSp y)) (p := (1882 + 6 * y.nR)) hL hb T (cNx_lt ha) hf V2 N (by omega) (by omega) hz0 hw0 (fun n1 a2 kk f z g1 g2_ g3 g4 => ?_) (fun n8 a2 z1 z2 z3 z4 g1 => ?_)
                    · refine kI ?_
                      refine wp_if_ne 197 195 d_Mo_dayStep_192 rfl (by decide) (fun h192 => ?_) (fun h192 => ?_)
                      · refine wp_iload 199 d_Mo_dayStep_197 rfl rfl ?_
                        refine wp_if_eq 222 202 d_Mo_dayStep_199 rfl (by decide) (fun h199 => ?_) (fun h199 => ?_)
                        · refine wp_iload_n 223 d_Mo_dayStep_222 rfl rfl ?_
                          refine wp_bipush 225 18 d_Mo_dayStep_223 rfl (by decide) ?_
                          refine wp_icmp_ne 279 228 d_Mo_dayStep_225 rfl (by decide) (fun h225 => ?_) (fun h225 => ?_)
                          · refine wp_aload_n 280 d_Mo_dayStep_279 rfl rfl ?_
                            refine wp_bipush 282 59 d_Mo_dayStep_280 rfl (by decide) ?_
                            refine wp_V1 285 M_Mo_wantSign 3 d_Mo_dayStep_282 rfl mv_Mo_wantSign lk_Mo_240 rfl rfl rfl rfl rfl ?_
                            refine k_wantSign (s := (dNR K 1 0 11 (cNx K s) (dSp y)).2.1) (c := 59) hL hb T hlt hf (fun n5 => ?_) (fun n9 => ?_)
                            · refine kI ?_
                              refine wp_zreturn d_Mo_dayStep_285 rfl (by first | rfl | exact nbP _) ?_
                              have e := dUt_y et n1
                              rw [e, g2_] at hq1
                              exact hq1 n5 a2 m_opened (fun k9 hk9 => (g1 k9 (by omega)).trans ((upd_ne (by omega)).trans (bo k9 (by omega)))) ((g1 1807 (by omega)).trans upd_at) (RDr_add (y := (dSp y)) RR (fun j j1 j2 => (g1 j (by have j2 : j < 1882 + 6 * y.nR := j2; omega)).trans ((upd_ne (by omega)).trans (bo j j2))) g3) (WFP_add (y := dSp y) W hR60 g4.1 g4.2.1) O
                            · refine kI ?_
                              refine wp_zreturn d_Mo_dayStep_285 rfl (by first | rfl | exact nbP _) ?_
                              have e := dUt_y et n1
                              rw [e] at hq0
                              exact hq0 n9 a2 m_opened _ _ _ _ _ _ (fun k9 hk9 => (g1 k9 (by omega)).trans ((upd_ne (by omega)).trans (bo k9 (by omega))))
                          · exact absurd h225 (by decide)
                        · exact absurd h199 (by decide)
                      · exact absurd h192 (by decide)
                    · refine kI ?_
                      refine wp_if_ne 197 195 d_Mo_dayStep_192 rfl (by decide) (fun h192 => ?_) (fun h192 => ?_)
                      · exact absurd rfl h192
                      · refine wp_iconst 196 0 d_Mo_dayStep_195 rfl (by decide) ?_
                        refine wp_zreturn d_Mo_dayStep_196 rfl (by first | rfl | exact nbP _) ?_
                        have e := dUt_f et n8
                        rw [e] at hq0
                        exact hq0 Bool.false_ne_true a2 m_opened _ _ _ _ _ _ (fun k9 hk9 => (g1 k9 (by omega)).trans ((upd_ne (by omega)).trans (bo k9 (by omega))))
                  · exact absurd h125 (by decide)
                · exact absurd h99 (by decide)
              · refine wp_aload_n 91 d_Mo_dayStep_90 rfl rfl ?_
                refine wp_bipush 93 6 d_Mo_dayStep_91 rfl (by decide) ?_
                refine wp_V1 96 M_Mo_fails 1 d_Mo_dayStep_93 rfl mv_Mo_fails lk_Mo_193 rfl rfl rfl rfl rfl ?_
                refine k_fails (s := s) (c := 6) hL hb T ha hf (by rw [g2]; decide) ?_
                refine kI ?_
                refine wp_zreturn d_Mo_dayStep_96 rfl (by first | rfl | exact nbP _) ?_
                have h30 : ¬ y.nS < 30 := fun z => absurd (nI_ij (b := 30) h87 (by omega) (by omega)) (by omega)
                have e := dUt_f (dTu_6 (K := K) (t := t) (s := s) (y := y) (by rw [hw]; decide) (by rw [hw]; decide) h30) Bool.false_ne_true
                rw [e] at hq0
                exact hq0 Bool.false_ne_true m_at m_opened _ _ _ _ _ _ (fun _ _ => rfl)
          · exact absurd h59 (by decide)
    · exact absurd h34 (by decide)
set_option maxRecDepth 100000 in
set_option maxHeartbeats 4000000 in
theorem l_ds_13 (hL : L ≤ 900) (hb : ∀ k, k < L → b8 (m_text k)) (T : TKs co0_ m_text L K) (ha : s.a < K.nT) (hf : m_faults = 0) (hw : cWo K s = 13) (V : vT m_at t) (N : NS m_names 0 t) (ok : DOk K s y) (hw7 : m_at 1807 = nI y.nR) (RR : RDr t.nW m_at y) (W : WFP y) (O : ∀ i, i < y.nD → m_opened i = y.op i) (hq1 : (dUt K t s y).1 = true → ∀ (a2 op2 : Nat → Int32), frO a2 m_at → a2 1807 = nI (dUt K t s y).2.2.nR → RDr t.nW a2 (dUt K t s y).2.2 → WFP (dUt K t s y).2.2 → (∀ i, i < (dUt K t s y).2.2.nD → op2 i = (dUt K t s y).2.2.op i) → Q (some (.int 1)) (hM (a2) m_names m_status m_top m_bottom m_sort m_trayMany m_trays m_tape m_text m_taped ((nI L)) ((gtF m_text L (dUt K t s y).2.1.a).1) ((nI (gtF m_text L (dUt K t s y).2.1.a).2.1)) ((nI (gtF m_text L (dUt K t s y).2.1.a).2.2.1)) ((gtF m_text L (dUt K t s y).2.1.a).2.2.2) m_faultKind m_faultPlace m_faults m_seen m_areOdds (op2) ((nI (dUt K t s y).2.2.nD)) ((nI (dUt K t s y).2.2.nS)) m_eastBy m_northBy m_partBy m_wayFaults m_wayEast m_wayNorth m_olds m_wayMany m_oneOfSet m_twoOfSet m_farBy m_rowBy m_triedBy m_rowMany m_doneAt m_gotAt m_struckAt m_bestDeed m_misBy m_drawn m_ranSteps m_loops m_ran m_told1 m_isTold m_marks)) (hq0 : ¬ (dUt K t s y).1 = true → ∀ (a2 op2 : Nat → Int32) (z1 z2 z3 z4 z5 z6 : Int32), frO a2 m_at → Q (some (.int 0)) (hM (a2) m_names m_status m_top m_bottom m_sort m_trayMany m_trays m_tape m_text m_taped ((nI L)) (z1) (z2) (z3) (z4) m_faultKind (((dUt K t s y).2.1).fp) (((dUt K t s y).2.1).fk) m_seen m_areOdds (op2) (z5) (z6) m_eastBy m_northBy m_partBy m_wayFaults m_wayEast m_wayNorth m_olds m_wayMany m_oneOfSet m_twoOfSet m_farBy m_rowBy m_triedBy m_rowMany m_doneAt m_gotAt m_struckAt m_bestDeed m_misBy m_drawn m_ranSteps m_loops m_ran m_told1 m_isTold m_marks)) : WP Γ M_Mo_dayStep 11 0 0 (hM m_at m_names m_status m_top m_bottom m_sort m_trayMany m_trays m_tape m_text m_taped ((nI L)) ((gtF m_text L s.a).1) ((nI (gtF m_text L s.a).2.1)) ((nI (gtF m_text L s.a).2.2.1)) ((gtF m_text L s.a).2.2.2) m_faultKind m_faultPlace m_faults m_seen m_areOdds m_opened ((nI y.nD)) ((nI y.nS)) m_eastBy m_northBy m_partBy m_wayFaults m_wayEast m_wayNorth m_olds m_wayMany m_oneOfSet m_twoOfSet m_farBy m_rowBy m_triedBy m_rowMany m_doneAt m_gotAt m_struckAt m_bestDeed m_misBy m_drawn m_ranSteps m_loops m_ran m_told1 m_isTold m_marks) 7 [some (.ref 0), some (.int 13), none, none, none, none] [] Q := by
  have A := ATk_of (s := s) hb T ha
  have g2 := ak_w2 (w := 13) A (by omega) hw
  have hS30 := ok.2.2.1
  have hD3 := ok.2.2.2.1
  have hRR := ok.2.1
  refine wp_aload_n 8 d_Mo_dayStep_7 rfl rfl ?_
  refine wp_getfield 11 12 0 d_Mo_dayStep_8 rfl fl_Mo_7 rfl rfl ?_
  refine wp_sipush 14 1807 d_Mo_dayStep_11 rfl (by decide) ?_
  refine wp_iaload 15 d_Mo_dayStep_14 rfl rfl (vp_in_nI (n := 1807) (N := 2332) (by omega) (by omega)) ?_
  rw [show m_at (1807 : Int32).toNatClampNeg = nI y.nR from hw7]
  refine wp_istore_2 16 d_Mo_dayStep_15 rfl rfl rfl ?_
  refine wp_sipush 19 1882 d_Mo_dayStep_16 rfl (by decide) ?_
  refine wp_bipush 21 6 d_Mo_dayStep_19 rfl (by decide) ?_
  refine wp_iload_n 22 d_Mo_dayStep_21 rfl rfl ?_
  refine wp_imul 23 d_Mo_dayStep_22 rfl ?_
  refine wp_iadd 24 d_Mo_dayStep_23 rfl ?_
  rw [show (1882 : Int32) + 6 * nI y.nR = nI (1882 + 6 * y.nR) from by rw [show (6 : Int32) * nI y.nR = nI (6 * y.nR) from mulK 6 y.nR]; exact nI_add 1882 _]
  refine wp_istore_3 25 d_Mo_dayStep_24 rfl rfl rfl ?_
  refine wp_iload_n 26 d_Mo_dayStep_25 rfl rfl ?_
  refine wp_bipush 28 16 d_Mo_dayStep_26 rfl (by decide) ?_
  refine wp_icmp_eq 37 31 d_Mo_dayStep_28 rfl (by decide) (fun h28 => ?_) (fun h28 => ?_)
  · exact absurd h28 (by decide)
  · refine wp_iload_n 32 d_Mo_dayStep_31 rfl rfl ?_
    refine wp_bipush 34 17 d_Mo_dayStep_32 rfl (by decide) ?_
    refine wp_icmp_ne 41 37 d_Mo_dayStep_34 rfl (by decide) (fun h34 => ?_) (fun h34 => ?_)
    · refine wp_iconst 42 0 d_Mo_dayStep_41 rfl (by decide) ?_
      refine wp_istore_4 44 d_Mo_dayStep_42 rfl rfl rfl ?_
      refine wp_iload_n 45 d_Mo_dayStep_44 rfl rfl ?_
      refine wp_bipush 47 11 d_Mo_dayStep_45 rfl (by decide) ?_
      refine wp_icmp_lt 69 50 d_Mo_dayStep_47 rfl (by decide) (fun h47 => ?_) (fun h47 => ?_)
      · exact absurd h47 (by decide)
      · refine wp_iload_n 51 d_Mo_dayStep_50 rfl rfl ?_
        refine wp_bipush 53 19 d_Mo_dayStep_51 rfl (by decide) ?_
        refine wp_icmp_gt 69 56 d_Mo_dayStep_53 rfl (by decide) (fun h53 => ?_) (fun h53 => ?_)
        · exact absurd h53 (by decide)
        · refine wp_iload_n 57 d_Mo_dayStep_56 rfl rfl ?_
          refine wp_bipush 59 18 d_Mo_dayStep_57 rfl (by decide) ?_
          refine wp_icmp_ne 75 62 d_Mo_dayStep_59 rfl (by decide) (fun h59 => ?_) (fun h59 => ?_)
          · refine wp_iload_n 76 d_Mo_dayStep_75 rfl rfl ?_
            refine wp_bipush 78 18 d_Mo_dayStep_76 rfl (by decide) ?_
            refine wp_icmp_eq 97 81 d_Mo_dayStep_78 rfl (by decide) (fun h78 => ?_) (fun h78 => ?_)
            · exact absurd h78 (by decide)
            · refine wp_aload_n 82 d_Mo_dayStep_81 rfl rfl ?_
              refine wp_getfield 85 12 23 d_Mo_dayStep_82 rfl fl_Mo_269 rfl rfl ?_
              refine wp_bipush 87 30 d_Mo_dayStep_85 rfl (by decide) ?_
              refine wp_icmp_ne 97 90 d_Mo_dayStep_87 rfl (by decide) (fun h87 => ?_) (fun h87 => ?_)
              · have h30 : y.nS < 30 := by
                  rcases Nat.lt_or_ge y.nS 30 with z | z
                  · exact z
                  · exact absurd (show nI y.nS = 30 from by rw [show y.nS = 30 by omega]; rfl) h87
                refine wp_iload 99 d_Mo_dayStep_97 rfl rfl ?_
                refine wp_if_eq 117 102 d_Mo_dayStep_99 rfl (by decide) (fun h99 => ?_) (fun h99 => ?_)
                · refine wp_aload_n 118 d_Mo_dayStep_117 rfl rfl ?_
                  refine wp_dup 119 d_Mo_dayStep_118 rfl rfl ?_
                  refine wp_getfield 122 12 23 d_Mo_dayStep_119 rfl fl_Mo_269 rfl rfl ?_
                  refine wp_iload_n 123 d_Mo_dayStep_122 rfl rfl ?_
                  refine wp_bipush 125 18 d_Mo_dayStep_123 rfl (by decide) ?_
                  refine wp_icmp_ne 132 128 d_Mo_dayStep_125 rfl (by decide) (fun h125 => ?_) (fun h125 => ?_)
                  · refine wp_iconst 133 1 d_Mo_dayStep_132 rfl (by decide) ?_
                    refine wp_iadd 134 d_Mo_dayStep_133 rfl ?_
                    rw [nI_1]
                    refine wp_putfield 137 12 23 _ d_Mo_dayStep_134 rfl fp_Mo_269 rfl rfl (okP_int _) ?_
                    refine hEq (hM m_at m_names m_status m_top m_bottom m_sort m_trayMany m_trays m_tape m_text m_taped ((nI L)) ((gtF m_text L s.a).1) ((nI (gtF m_text L s.a).2.1)) ((nI (gtF m_text L s.a).2.2.1)) ((gtF m_text L s.a).2.2.2) m_faultKind m_faultPlace m_faults m_seen m_areOdds m_opened ((nI y.nD)) ((nI (y.nS + 1))) m_eastBy m_northBy m_partBy m_wayFaults m_wayEast m_wayNorth m_olds m_wayMany m_oneOfSet m_twoOfSet m_farBy m_rowBy m_triedBy m_rowMany m_doneAt m_gotAt m_struckAt m_bestDeed m_misBy m_drawn m_ranSteps m_loops m_ran m_told1 m_isTold m_marks) rfl ?_
                    refine wp_aload_n 138 d_Mo_dayStep_137 rfl rfl ?_
                    refine wp_getfield 141 12 0 d_Mo_dayStep_138 rfl fl_Mo_7 rfl rfl ?_
                    refine wp_iload_n 142 d_Mo_dayStep_141 rfl rfl ?_
                    refine wp_iload_n 143 d_Mo_dayStep_142 rfl rfl ?_
                    refine wp_iastoreN 144 d_Mo_dayStep_143 rfl rfl rfl (by omega) ?_
                    refine hEq (hM ((upd m_at (1882 + 6 * y.nR) 13)) m_names m_status m_top m_bottom m_sort m_trayMany m_trays m_tape m_text m_taped ((nI L)) ((gtF m_text L s.a).1) ((nI (gtF m_text L s.a).2.1)) ((nI (gtF m_text L s.a).2.2.1)) ((gtF m_text L s.a).2.2.2) m_faultKind m_faultPlace m_faults m_seen m_areOdds m_opened ((nI y.nD)) ((nI (y.nS + 1))) m_eastBy m_northBy m_partBy m_wayFaults m_wayEast m_wayNorth m_olds m_wayMany m_oneOfSet m_twoOfSet m_farBy m_rowBy m_triedBy m_rowMany m_doneAt m_gotAt m_struckAt m_bestDeed m_misBy m_drawn m_ranSteps m_loops m_ran m_told1 m_isTold m_marks) rfl ?_
                    refine wp_iconst 145 1 d_Mo_dayStep_144 rfl (by decide) ?_
                    refine wp_istore_5 147 d_Mo_dayStep_145 rfl rfl rfl ?_
                    have hR60 : y.nR < 60 := by omega
                    refine l_ds_147 (m_at := (upd m_at (1882 + 6 * y.nR) 13)) (y := y) (p := (1882 + 6 * y.nR)) (c1 := 13) (c4 := 0) (by omega) (fun b b1 b2 => ?_) 5 1 (upd m_at (1882 + 6 * y.nR) 13) (by omega) (by omega) (fun j j1 j2 => absurd j1 (by omega)) (fun _ _ => rfl)
                    have b7 : b 1807 = nI y.nR := (b2 1807 (by omega)).trans ((upd_ne (by omega)).trans hw7)
                    have bp : b (1882 + 6 * y.nR) = 13 := (b2 _ (by omega)).trans upd_at
                    have bo : ∀ j, j < 1882 + 6 * y.nR → b j = m_at j := fun j hj => (b2 j (by omega)).trans (upd_ne (by omega))
                    have V2 : vT (upd b 1807 (nI (y.nR + 1))) t := vT_82 V (fun j hj => (upd_ne (by omega)).trans (bo j (by omega)))
                    have hz0 : ∀ j, 1 ≤ j → j < 6 → (upd b 1807 (nI (y.nR + 1))) ((1882 + 6 * y.nR) + j) = 0 := fun j j1 j2 => (upd_ne (by omega)).trans (b1 j j1 j2)
                    have hw0 : (upd b 1807 (nI (y.nR + 1))) (1882 + 6 * y.nR) = 13 := (upd_ne (by omega)).trans bp
                    have et : dTu K t s y = dNR K 2 0 11 (cNx K s) (dSp y) := (dTu_st (by rw [hw]; decide) (by rw [hw]; decide) h30 (by rw [hw]; exact fun z => absurd z.1 (by decide))).trans (by rw [hw]; rfl)
                    have hlt : (dNR K 2 0 11 (cNx K s) (dSp y)).2.1.a < K.nT := by have := (dTu_ok (t := t) ok).1; rw [et] at this; exact this
                    refine wp_aload_n 171 d_Mo_dayStep_170 rfl rfl ?_
                    refine wp_getfield 174 12 0 d_Mo_dayStep_171 rfl fl_Mo_7 rfl rfl ?_
                    refine wp_sipush 177 1807 d_Mo_dayStep_174 rfl (by decide) ?_
                    refine wp_dup2 178 d_Mo_dayStep_177 rfl rfl rfl ?_
                    refine wp_iaload 179 d_Mo_dayStep_178 rfl rfl (vp_in_nI (n := 1807) (N := 2332) (by omega) (by omega)) ?_
                    rw [show b (1807 : Int32).toNatClampNeg = nI y.nR from b7]
                    refine wp_iconst 180 1 d_Mo_dayStep_179 rfl (by decide) ?_
                    refine wp_iadd 181 d_Mo_dayStep_180 rfl ?_
                    rw [nI_1]
                    refine wp_iastore 182 d_Mo_dayStep_181 rfl rfl (vp_in_nI (n := 1807) (N := 2332) (by omega) (by omega)) ?_
                    refine hEq (hM ((upd b 1807 (nI (y.nR + 1)))) m_names m_status m_top m_bottom m_sort m_trayMany m_trays m_tape m_text m_taped ((nI L)) ((gtF m_text L s.a).1) ((nI (gtF m_text L s.a).2.1)) ((nI (gtF m_text L s.a).2.2.1)) ((gtF m_text L s.a).2.2.2) m_faultKind m_faultPlace m_faults m_seen m_areOdds m_opened ((nI y.nD)) ((nI (y.nS + 1))) m_eastBy m_northBy m_partBy m_wayFaults m_wayEast m_wayNorth m_olds m_wayMany m_oneOfSet m_twoOfSet m_farBy m_rowBy m_triedBy m_rowMany m_doneAt m_gotAt m_struckAt m_bestDeed m_misBy m_drawn m_ranSteps m_loops m_ran m_told1 m_isTold m_marks) rfl ?_
                    refine wp_aload_n 183 d_Mo_dayStep_182 rfl rfl ?_
                    refine wp_V0 186 M_Mo_ahead 2 d_Mo_dayStep_183 rfl mv_Mo_ahead lk_Mo_187 rfl rfl rfl rfl rfl ?_
                    refine k_ahead (s := s) hL hb T ha (by rw [g2]; decide) ?_
                    refine kV ?_
                    refine wp_aload_n 187 d_Mo_dayStep_186 rfl rfl ?_
                    refine wp_iload_n 188 d_Mo_dayStep_187 rfl rfl ?_
                    refine wp_iload_n 189 d_Mo_dayStep_188 rfl rfl ?_
                    refine wp_V2 192 M_Mo_dayOrder 10 d_Mo_dayStep_189 rfl mv_Mo_dayOrder lk_Mo_272 rfl rfl rfl rfl rfl ?_
                    refine k_doRestore (s := cNx K s) (t := t) (y := (dSp y)) (p := (1882 + 6 * y.nR)) hL hb T (cNx_lt ha) hf V2 N (by omega) (by omega) hz0 hw0 (fun n1 a2 kk f z g1 g2_ g3 g4 => ?_) (fun n8 a2 z1 z2 z3 z4 g1 => ?_)
                    · refine kI ?_
                      refine wp_if_ne 197 195 d_Mo_dayStep_192 rfl (by decide) (fun h192 => ?_) (fun h192 => ?_)
                      · refine wp_iload 199 d_Mo_dayStep_197 rfl rfl ?_
                        refine wp_if_eq 222 202 d_Mo_dayStep_199 rfl (by decide) (fun h199 => ?_) (fun h199 => ?_)
                        · refine wp_iload_n 223 d_Mo_dayStep_222 rfl rfl ?_
                          refine wp_bipush 225 18 d_Mo_dayStep_223 rfl (by decide) ?_
                          refine wp_icmp_ne 279 228 d_Mo_dayStep_225 rfl (by decide) (fun h225 => ?_) (fun h225 => ?_)
                          · refine wp_aload_n 280 d_Mo_dayStep_279 rfl rfl ?_
                            refine wp_bipush 282 59 d_Mo_dayStep_280 rfl (by decide) ?_
                            refine wp_V1 285 M_Mo_wantSign 3 d_Mo_dayStep_282 rfl mv_Mo_wantSign lk_Mo_240 rfl rfl rfl rfl rfl ?_
                            refine k_wantSign (s := (dNR K 2 0 11 (cNx K s) (dSp y)).2.1) (c := 59) hL hb T hlt hf (fun n5 => ?_) (fun n9 => ?_)
                            · refine kI ?_
                              refine wp_zreturn d_Mo_dayStep_285 rfl (by first | rfl | exact nbP _) ?_
                              have e := dUt_y et n1
                              rw [e, g2_] at hq1
                              exact hq1 n5 a2 m_opened (fun k9 hk9 => (g1 k9 (by omega)).trans ((upd_ne (by omega)).trans (bo k9 (by omega)))) ((g1 1807 (by omega)).trans upd_at) (RDr_add (y := (dSp y)) RR (fun j j1 j2 => (g1 j (by have j2 : j < 1882 + 6 * y.nR := j2; omega)).trans ((upd_ne (by omega)).trans (bo j j2))) g3) (WFP_add (y := dSp y) W hR60 g4.1 g4.2.1) O
                            · refine kI ?_
                              refine wp_zreturn d_Mo_dayStep_285 rfl (by first | rfl | exact nbP _) ?_
                              have e := dUt_y et n1
                              rw [e] at hq0
                              exact hq0 n9 a2 m_opened _ _ _ _ _ _ (fun k9 hk9 => (g1 k9 (by omega)).trans ((upd_ne (by omega)).trans (bo k9 (by omega))))
                          · exact absurd h225 (by decide)
                        · exact absurd h199 (by decide)
                      · exact absurd h192 (by decide)
                    · refine kI ?_
                      refine wp_if_ne 197 195 d_Mo_dayStep_192 rfl (by decide) (fun h192 => ?_) (fun h192 => ?_)
                      · exact absurd rfl h192
                      · refine wp_iconst 196 0 d_Mo_dayStep_195 rfl (by decide) ?_
                        refine wp_zreturn d_Mo_dayStep_196 rfl (by first | rfl | exact nbP _) ?_
                        have e := dUt_f et n8
                        rw [e] at hq0
                        exact hq0 Bool.false_ne_true a2 m_opened _ _ _ _ _ _ (fun k9 hk9 => (g1 k9 (by omega)).trans ((upd_ne (by omega)).trans (bo k9 (by omega))))
                  · exact absurd h125 (by decide)
                · exact absurd h99 (by decide)
              · refine wp_aload_n 91 d_Mo_dayStep_90 rfl rfl ?_
                refine wp_bipush 93 6 d_Mo_dayStep_91 rfl (by decide) ?_
                refine wp_V1 96 M_Mo_fails 1 d_Mo_dayStep_93 rfl mv_Mo_fails lk_Mo_193 rfl rfl rfl rfl rfl ?_
                refine k_fails (s := s) (c := 6) hL hb T ha hf (by rw [g2]; decide) ?_
                refine kI ?_
                refine wp_zreturn d_Mo_dayStep_96 rfl (by first | rfl | exact nbP _) ?_
                have h30 : ¬ y.nS < 30 := fun z => absurd (nI_ij (b := 30) h87 (by omega) (by omega)) (by omega)
                have e := dUt_f (dTu_6 (K := K) (t := t) (s := s) (y := y) (by rw [hw]; decide) (by rw [hw]; decide) h30) Bool.false_ne_true
                rw [e] at hq0
                exact hq0 Bool.false_ne_true m_at m_opened _ _ _ _ _ _ (fun _ _ => rfl)
          · exact absurd h59 (by decide)
    · exact absurd h34 (by decide)
set_option maxRecDepth 100000 in
set_option maxHeartbeats 4000000 in
theorem l_ds_14 (hL : L ≤ 900) (hb : ∀ k, k < L → b8 (m_text k)) (T : TKs co0_ m_text L K) (ha : s.a < K.nT) (hf : m_faults = 0) (hw : cWo K s = 14) (V : vT m_at t) (N : NS m_names 0 t) (ok : DOk K s y) (hw7 : m_at 1807 = nI y.nR) (RR : RDr t.nW m_at y) (W : WFP y) (O : ∀ i, i < y.nD → m_opened i = y.op i) (hq1 : (dUt K t s y).1 = true → ∀ (a2 op2 : Nat → Int32), frO a2 m_at → a2 1807 = nI (dUt K t s y).2.2.nR → RDr t.nW a2 (dUt K t s y).2.2 → WFP (dUt K t s y).2.2 → (∀ i, i < (dUt K t s y).2.2.nD → op2 i = (dUt K t s y).2.2.op i) → Q (some (.int 1)) (hM (a2) m_names m_status m_top m_bottom m_sort m_trayMany m_trays m_tape m_text m_taped ((nI L)) ((gtF m_text L (dUt K t s y).2.1.a).1) ((nI (gtF m_text L (dUt K t s y).2.1.a).2.1)) ((nI (gtF m_text L (dUt K t s y).2.1.a).2.2.1)) ((gtF m_text L (dUt K t s y).2.1.a).2.2.2) m_faultKind m_faultPlace m_faults m_seen m_areOdds (op2) ((nI (dUt K t s y).2.2.nD)) ((nI (dUt K t s y).2.2.nS)) m_eastBy m_northBy m_partBy m_wayFaults m_wayEast m_wayNorth m_olds m_wayMany m_oneOfSet m_twoOfSet m_farBy m_rowBy m_triedBy m_rowMany m_doneAt m_gotAt m_struckAt m_bestDeed m_misBy m_drawn m_ranSteps m_loops m_ran m_told1 m_isTold m_marks)) (hq0 : ¬ (dUt K t s y).1 = true → ∀ (a2 op2 : Nat → Int32) (z1 z2 z3 z4 z5 z6 : Int32), frO a2 m_at → Q (some (.int 0)) (hM (a2) m_names m_status m_top m_bottom m_sort m_trayMany m_trays m_tape m_text m_taped ((nI L)) (z1) (z2) (z3) (z4) m_faultKind (((dUt K t s y).2.1).fp) (((dUt K t s y).2.1).fk) m_seen m_areOdds (op2) (z5) (z6) m_eastBy m_northBy m_partBy m_wayFaults m_wayEast m_wayNorth m_olds m_wayMany m_oneOfSet m_twoOfSet m_farBy m_rowBy m_triedBy m_rowMany m_doneAt m_gotAt m_struckAt m_bestDeed m_misBy m_drawn m_ranSteps m_loops m_ran m_told1 m_isTold m_marks)) : WP Γ M_Mo_dayStep 11 0 0 (hM m_at m_names m_status m_top m_bottom m_sort m_trayMany m_trays m_tape m_text m_taped ((nI L)) ((gtF m_text L s.a).1) ((nI (gtF m_text L s.a).2.1)) ((nI (gtF m_text L s.a).2.2.1)) ((gtF m_text L s.a).2.2.2) m_faultKind m_faultPlace m_faults m_seen m_areOdds m_opened ((nI y.nD)) ((nI y.nS)) m_eastBy m_northBy m_partBy m_wayFaults m_wayEast m_wayNorth m_olds m_wayMany m_oneOfSet m_twoOfSet m_farBy m_rowBy m_triedBy m_rowMany m_doneAt m_gotAt m_struckAt m_bestDeed m_misBy m_drawn m_ranSteps m_loops m_ran m_told1 m_isTold m_marks) 7 [some (.ref 0), some (.int 14), none, none, none, none] [] Q := by
  have A := ATk_of (s := s) hb T ha
  have g2 := ak_w2 (w := 14) A (by omega) hw
  have hS30 := ok.2.2.1
  have hD3 := ok.2.2.2.1
  have hRR := ok.2.1
  refine wp_aload_n 8 d_Mo_dayStep_7 rfl rfl ?_
  refine wp_getfield 11 12 0 d_Mo_dayStep_8 rfl fl_Mo_7 rfl rfl ?_
  refine wp_sipush 14 1807 d_Mo_dayStep_11 rfl (by decide) ?_
  refine wp_iaload 15 d_Mo_dayStep_14 rfl rfl (vp_in_nI (n := 1807) (N := 2332) (by omega) (by omega)) ?_
  rw [show m_at (1807 : Int32).toNatClampNeg = nI y.nR from hw7]
  refine wp_istore_2 16 d_Mo_dayStep_15 rfl rfl rfl ?_
  refine wp_sipush 19 1882 d_Mo_dayStep_16 rfl (by decide) ?_
  refine wp_bipush 21 6 d_Mo_dayStep_19 rfl (by decide) ?_
  refine wp_iload_n 22 d_Mo_dayStep_21 rfl rfl ?_
  refine wp_imul 23 d_Mo_dayStep_22 rfl ?_
  refine wp_iadd 24 d_Mo_dayStep_23 rfl ?_
  rw [show (1882 : Int32) + 6 * nI y.nR = nI (1882 + 6 * y.nR) from by rw [show (6 : Int32) * nI y.nR = nI (6 * y.nR) from mulK 6 y.nR]; exact nI_add 1882 _]
  refine wp_istore_3 25 d_Mo_dayStep_24 rfl rfl rfl ?_
  refine wp_iload_n 26 d_Mo_dayStep_25 rfl rfl ?_
  refine wp_bipush 28 16 d_Mo_dayStep_26 rfl (by decide) ?_
  refine wp_icmp_eq 37 31 d_Mo_dayStep_28 rfl (by decide) (fun h28 => ?_) (fun h28 => ?_)
  · exact absurd h28 (by decide)
  · refine wp_iload_n 32 d_Mo_dayStep_31 rfl rfl ?_
    refine wp_bipush 34 17 d_Mo_dayStep_32 rfl (by decide) ?_
    refine wp_icmp_ne 41 37 d_Mo_dayStep_34 rfl (by decide) (fun h34 => ?_) (fun h34 => ?_)
    · refine wp_iconst 42 0 d_Mo_dayStep_41 rfl (by decide) ?_
      refine wp_istore_4 44 d_Mo_dayStep_42 rfl rfl rfl ?_
      refine wp_iload_n 45 d_Mo_dayStep_44 rfl rfl ?_
      refine wp_bipush 47 11 d_Mo_dayStep_45 rfl (by decide) ?_
      refine wp_icmp_lt 69 50 d_Mo_dayStep_47 rfl (by decide) (fun h47 => ?_) (fun h47 => ?_)
      · exact absurd h47 (by decide)
      · refine wp_iload_n 51 d_Mo_dayStep_50 rfl rfl ?_
        refine wp_bipush 53 19 d_Mo_dayStep_51 rfl (by decide) ?_
        refine wp_icmp_gt 69 56 d_Mo_dayStep_53 rfl (by decide) (fun h53 => ?_) (fun h53 => ?_)
        · exact absurd h53 (by decide)
        · refine wp_iload_n 57 d_Mo_dayStep_56 rfl rfl ?_
          refine wp_bipush 59 18 d_Mo_dayStep_57 rfl (by decide) ?_
          refine wp_icmp_ne 75 62 d_Mo_dayStep_59 rfl (by decide) (fun h59 => ?_) (fun h59 => ?_)
          · refine wp_iload_n 76 d_Mo_dayStep_75 rfl rfl ?_
            refine wp_bipush 78 18 d_Mo_dayStep_76 rfl (by decide) ?_
            refine wp_icmp_eq 97 81 d_Mo_dayStep_78 rfl (by decide) (fun h78 => ?_) (fun h78 => ?_)
            · exact absurd h78 (by decide)
            · refine wp_aload_n 82 d_Mo_dayStep_81 rfl rfl ?_
              refine wp_getfield 85 12 23 d_Mo_dayStep_82 rfl fl_Mo_269 rfl rfl ?_
              refine wp_bipush 87 30 d_Mo_dayStep_85 rfl (by decide) ?_
              refine wp_icmp_ne 97 90 d_Mo_dayStep_87 rfl (by decide) (fun h87 => ?_) (fun h87 => ?_)
              · have h30 : y.nS < 30 := by
                  rcases Nat.lt_or_ge y.nS 30 with z | z
                  · exact z
                  · exact absurd (show nI y.nS = 30 from by rw [show y.nS = 30 by omega]; rfl) h87
                refine wp_iload 99 d_Mo_dayStep_97 rfl rfl ?_
                refine wp_if_eq 117 102 d_Mo_dayStep_99 rfl (by decide) (fun h99 => ?_) (fun h99 => ?_)
                · refine wp_aload_n 118 d_Mo_dayStep_117 rfl rfl ?_
                  refine wp_dup 119 d_Mo_dayStep_118 rfl rfl ?_
                  refine wp_getfield 122 12 23 d_Mo_dayStep_119 rfl fl_Mo_269 rfl rfl ?_
                  refine wp_iload_n 123 d_Mo_dayStep_122 rfl rfl ?_
                  refine wp_bipush 125 18 d_Mo_dayStep_123 rfl (by decide) ?_
                  refine wp_icmp_ne 132 128 d_Mo_dayStep_125 rfl (by decide) (fun h125 => ?_) (fun h125 => ?_)
                  · refine wp_iconst 133 1 d_Mo_dayStep_132 rfl (by decide) ?_
                    refine wp_iadd 134 d_Mo_dayStep_133 rfl ?_
                    rw [nI_1]
                    refine wp_putfield 137 12 23 _ d_Mo_dayStep_134 rfl fp_Mo_269 rfl rfl (okP_int _) ?_
                    refine hEq (hM m_at m_names m_status m_top m_bottom m_sort m_trayMany m_trays m_tape m_text m_taped ((nI L)) ((gtF m_text L s.a).1) ((nI (gtF m_text L s.a).2.1)) ((nI (gtF m_text L s.a).2.2.1)) ((gtF m_text L s.a).2.2.2) m_faultKind m_faultPlace m_faults m_seen m_areOdds m_opened ((nI y.nD)) ((nI (y.nS + 1))) m_eastBy m_northBy m_partBy m_wayFaults m_wayEast m_wayNorth m_olds m_wayMany m_oneOfSet m_twoOfSet m_farBy m_rowBy m_triedBy m_rowMany m_doneAt m_gotAt m_struckAt m_bestDeed m_misBy m_drawn m_ranSteps m_loops m_ran m_told1 m_isTold m_marks) rfl ?_
                    refine wp_aload_n 138 d_Mo_dayStep_137 rfl rfl ?_
                    refine wp_getfield 141 12 0 d_Mo_dayStep_138 rfl fl_Mo_7 rfl rfl ?_
                    refine wp_iload_n 142 d_Mo_dayStep_141 rfl rfl ?_
                    refine wp_iload_n 143 d_Mo_dayStep_142 rfl rfl ?_
                    refine wp_iastoreN 144 d_Mo_dayStep_143 rfl rfl rfl (by omega) ?_
                    refine hEq (hM ((upd m_at (1882 + 6 * y.nR) 14)) m_names m_status m_top m_bottom m_sort m_trayMany m_trays m_tape m_text m_taped ((nI L)) ((gtF m_text L s.a).1) ((nI (gtF m_text L s.a).2.1)) ((nI (gtF m_text L s.a).2.2.1)) ((gtF m_text L s.a).2.2.2) m_faultKind m_faultPlace m_faults m_seen m_areOdds m_opened ((nI y.nD)) ((nI (y.nS + 1))) m_eastBy m_northBy m_partBy m_wayFaults m_wayEast m_wayNorth m_olds m_wayMany m_oneOfSet m_twoOfSet m_farBy m_rowBy m_triedBy m_rowMany m_doneAt m_gotAt m_struckAt m_bestDeed m_misBy m_drawn m_ranSteps m_loops m_ran m_told1 m_isTold m_marks) rfl ?_
                    refine wp_iconst 145 1 d_Mo_dayStep_144 rfl (by decide) ?_
                    refine wp_istore_5 147 d_Mo_dayStep_145 rfl rfl rfl ?_
                    have hR60 : y.nR < 60 := by omega
                    refine l_ds_147 (m_at := (upd m_at (1882 + 6 * y.nR) 14)) (y := y) (p := (1882 + 6 * y.nR)) (c1 := 14) (c4 := 0) (by omega) (fun b b1 b2 => ?_) 5 1 (upd m_at (1882 + 6 * y.nR) 14) (by omega) (by omega) (fun j j1 j2 => absurd j1 (by omega)) (fun _ _ => rfl)
                    have b7 : b 1807 = nI y.nR := (b2 1807 (by omega)).trans ((upd_ne (by omega)).trans hw7)
                    have bp : b (1882 + 6 * y.nR) = 14 := (b2 _ (by omega)).trans upd_at
                    have bo : ∀ j, j < 1882 + 6 * y.nR → b j = m_at j := fun j hj => (b2 j (by omega)).trans (upd_ne (by omega))
                    have V2 : vT (upd b 1807 (nI (y.nR + 1))) t := vT_82 V (fun j hj => (upd_ne (by omega)).trans (bo j (by omega)))
                    have hz0 : ∀ j, 1 ≤ j → j < 6 → (upd b 1807 (nI (y.nR + 1))) ((1882 + 6 * y.nR) + j) = 0 := fun j j1 j2 => (upd_ne (by omega)).trans (b1 j j1 j2)
                    have hw0 : (upd b 1807 (nI (y.nR + 1))) (1882 + 6 * y.nR) = 14 := (upd_ne (by omega)).trans bp
                    have et : dTu K t s y = dBe K t (cNx K s) (dSp y) := (dTu_st (by rw [hw]; decide) (by rw [hw]; decide) h30 (by rw [hw]; exact fun z => absurd z.1 (by decide))).trans (by rw [hw]; rfl)
                    have hlt : (dBe K t (cNx K s) (dSp y)).2.1.a < K.nT := by have := (dTu_ok (t := t) ok).1; rw [et] at this; exact this
                    refine wp_aload_n 171 d_Mo_dayStep_170 rfl rfl ?_
                    refine wp_getfield 174 12 0 d_Mo_dayStep_171 rfl fl_Mo_7 rfl rfl ?_
                    refine wp_sipush 177 1807 d_Mo_dayStep_174 rfl (by decide) ?_
                    refine wp_dup2 178 d_Mo_dayStep_177 rfl rfl rfl ?_
                    refine wp_iaload 179 d_Mo_dayStep_178 rfl rfl (vp_in_nI (n := 1807) (N := 2332) (by omega) (by omega)) ?_
                    rw [show b (1807 : Int32).toNatClampNeg = nI y.nR from b7]
                    refine wp_iconst 180 1 d_Mo_dayStep_179 rfl (by decide) ?_
                    refine wp_iadd 181 d_Mo_dayStep_180 rfl ?_
                    rw [nI_1]
                    refine wp_iastore 182 d_Mo_dayStep_181 rfl rfl (vp_in_nI (n := 1807) (N := 2332) (by omega) (by omega)) ?_
                    refine hEq (hM ((upd b 1807 (nI (y.nR + 1)))) m_names m_status m_top m_bottom m_sort m_trayMany m_trays m_tape m_text m_taped ((nI L)) ((gtF m_text L s.a).1) ((nI (gtF m_text L s.a).2.1)) ((nI (gtF m_text L s.a).2.2.1)) ((gtF m_text L s.a).2.2.2) m_faultKind m_faultPlace m_faults m_seen m_areOdds m_opened ((nI y.nD)) ((nI (y.nS + 1))) m_eastBy m_northBy m_partBy m_wayFaults m_wayEast m_wayNorth m_olds m_wayMany m_oneOfSet m_twoOfSet m_farBy m_rowBy m_triedBy m_rowMany m_doneAt m_gotAt m_struckAt m_bestDeed m_misBy m_drawn m_ranSteps m_loops m_ran m_told1 m_isTold m_marks) rfl ?_
                    refine wp_aload_n 183 d_Mo_dayStep_182 rfl rfl ?_
                    refine wp_V0 186 M_Mo_ahead 2 d_Mo_dayStep_183 rfl mv_Mo_ahead lk_Mo_187 rfl rfl rfl rfl rfl ?_
                    refine k_ahead (s := s) hL hb T ha (by rw [g2]; decide) ?_
                    refine kV ?_
                    refine wp_aload_n 187 d_Mo_dayStep_186 rfl rfl ?_
                    refine wp_iload_n 188 d_Mo_dayStep_187 rfl rfl ?_
                    refine wp_iload_n 189 d_Mo_dayStep_188 rfl rfl ?_
                    refine wp_V2 192 M_Mo_dayOrder 10 d_Mo_dayStep_189 rfl mv_Mo_dayOrder lk_Mo_272 rfl rfl rfl rfl rfl ?_
                    refine k_doBelieve (s := cNx K s) (t := t) (y := (dSp y)) (p := (1882 + 6 * y.nR)) hL hb T (cNx_lt ha) hf V2 N (by omega) (by omega) hz0 hw0 (fun n1 a2 kk f z g1 g2_ g3 g4 => ?_) (fun n8 a2 z1 z2 z3 z4 g1 => ?_)
                    · refine kI ?_
                      refine wp_if_ne 197 195 d_Mo_dayStep_192 rfl (by decide) (fun h192 => ?_) (fun h192 => ?_)
                      · refine wp_iload 199 d_Mo_dayStep_197 rfl rfl ?_
                        refine wp_if_eq 222 202 d_Mo_dayStep_199 rfl (by decide) (fun h199 => ?_) (fun h199 => ?_)
                        · refine wp_iload_n 223 d_Mo_dayStep_222 rfl rfl ?_
                          refine wp_bipush 225 18 d_Mo_dayStep_223 rfl (by decide) ?_
                          refine wp_icmp_ne 279 228 d_Mo_dayStep_225 rfl (by decide) (fun h225 => ?_) (fun h225 => ?_)
                          · refine wp_aload_n 280 d_Mo_dayStep_279 rfl rfl ?_
                            refine wp_bipush 282 59 d_Mo_dayStep_280 rfl (by decide) ?_
                            refine wp_V1 285 M_Mo_wantSign 3 d_Mo_dayStep_282 rfl mv_Mo_wantSign lk_Mo_240 rfl rfl rfl rfl rfl ?_
                            refine k_wantSign (s := (dBe K t (cNx K s) (dSp y)).2.1) (c := 59) hL hb T hlt hf (fun n5 => ?_) (fun n9 => ?_)
                            · refine kI ?_
                              refine wp_zreturn d_Mo_dayStep_285 rfl (by first | rfl | exact nbP _) ?_
                              have e := dUt_y et n1
                              rw [e, g2_] at hq1
                              exact hq1 n5 a2 m_opened (fun k9 hk9 => (g1 k9 (by omega)).trans ((upd_ne (by omega)).trans (bo k9 (by omega)))) ((g1 1807 (by omega)).trans upd_at) (RDr_add (y := (dSp y)) RR (fun j j1 j2 => (g1 j (by have j2 : j < 1882 + 6 * y.nR := j2; omega)).trans ((upd_ne (by omega)).trans (bo j j2))) g3) (WFP_add (y := dSp y) W hR60 g4.1 g4.2.1) O
                            · refine kI ?_
                              refine wp_zreturn d_Mo_dayStep_285 rfl (by first | rfl | exact nbP _) ?_
                              have e := dUt_y et n1
                              rw [e] at hq0
                              exact hq0 n9 a2 m_opened _ _ _ _ _ _ (fun k9 hk9 => (g1 k9 (by omega)).trans ((upd_ne (by omega)).trans (bo k9 (by omega))))
                          · exact absurd h225 (by decide)
                        · exact absurd h199 (by decide)
                      · exact absurd h192 (by decide)
                    · refine kI ?_
                      refine wp_if_ne 197 195 d_Mo_dayStep_192 rfl (by decide) (fun h192 => ?_) (fun h192 => ?_)
                      · exact absurd rfl h192
                      · refine wp_iconst 196 0 d_Mo_dayStep_195 rfl (by decide) ?_
                        refine wp_zreturn d_Mo_dayStep_196 rfl (by first | rfl | exact nbP _) ?_
                        have e := dUt_f et n8
                        rw [e] at hq0
                        exact hq0 Bool.false_ne_true a2 m_opened _ _ _ _ _ _ (fun k9 hk9 => (g1 k9 (by omega)).trans ((upd_ne (by omega)).trans (bo k9 (by omega))))
                  · exact absurd h125 (by decide)
                · exact absurd h99 (by decide)
              · refine wp_aload_n 91 d_Mo_dayStep_90 rfl rfl ?_
                refine wp_bipush 93 6 d_Mo_dayStep_91 rfl (by decide) ?_
                refine wp_V1 96 M_Mo_fails 1 d_Mo_dayStep_93 rfl mv_Mo_fails lk_Mo_193 rfl rfl rfl rfl rfl ?_
                refine k_fails (s := s) (c := 6) hL hb T ha hf (by rw [g2]; decide) ?_
                refine kI ?_
                refine wp_zreturn d_Mo_dayStep_96 rfl (by first | rfl | exact nbP _) ?_
                have h30 : ¬ y.nS < 30 := fun z => absurd (nI_ij (b := 30) h87 (by omega) (by omega)) (by omega)
                have e := dUt_f (dTu_6 (K := K) (t := t) (s := s) (y := y) (by rw [hw]; decide) (by rw [hw]; decide) h30) Bool.false_ne_true
                rw [e] at hq0
                exact hq0 Bool.false_ne_true m_at m_opened _ _ _ _ _ _ (fun _ _ => rfl)
          · exact absurd h59 (by decide)
    · exact absurd h34 (by decide)
set_option maxRecDepth 100000 in
set_option maxHeartbeats 4000000 in
theorem l_ds_15 (hL : L ≤ 900) (hb : ∀ k, k < L → b8 (m_text k)) (T : TKs co0_ m_text L K) (ha : s.a < K.nT) (hf : m_faults = 0) (hw : cWo K s = 15) (V : vT m_at t) (N : NS m_names 0 t) (ok : DOk K s y) (hw7 : m_at 1807 = nI y.nR) (RR : RDr t.nW m_at y) (W : WFP y) (O : ∀ i, i < y.nD → m_opened i = y.op i) (hq1 : (dUt K t s y).1 = true → ∀ (a2 op2 : Nat → Int32), frO a2 m_at → a2 1807 = nI (dUt K t s y).2.2.nR → RDr t.nW a2 (dUt K t s y).2.2 → WFP (dUt K t s y).2.2 → (∀ i, i < (dUt K t s y).2.2.nD → op2 i = (dUt K t s y).2.2.op i) → Q (some (.int 1)) (hM (a2) m_names m_status m_top m_bottom m_sort m_trayMany m_trays m_tape m_text m_taped ((nI L)) ((gtF m_text L (dUt K t s y).2.1.a).1) ((nI (gtF m_text L (dUt K t s y).2.1.a).2.1)) ((nI (gtF m_text L (dUt K t s y).2.1.a).2.2.1)) ((gtF m_text L (dUt K t s y).2.1.a).2.2.2) m_faultKind m_faultPlace m_faults m_seen m_areOdds (op2) ((nI (dUt K t s y).2.2.nD)) ((nI (dUt K t s y).2.2.nS)) m_eastBy m_northBy m_partBy m_wayFaults m_wayEast m_wayNorth m_olds m_wayMany m_oneOfSet m_twoOfSet m_farBy m_rowBy m_triedBy m_rowMany m_doneAt m_gotAt m_struckAt m_bestDeed m_misBy m_drawn m_ranSteps m_loops m_ran m_told1 m_isTold m_marks)) (hq0 : ¬ (dUt K t s y).1 = true → ∀ (a2 op2 : Nat → Int32) (z1 z2 z3 z4 z5 z6 : Int32), frO a2 m_at → Q (some (.int 0)) (hM (a2) m_names m_status m_top m_bottom m_sort m_trayMany m_trays m_tape m_text m_taped ((nI L)) (z1) (z2) (z3) (z4) m_faultKind (((dUt K t s y).2.1).fp) (((dUt K t s y).2.1).fk) m_seen m_areOdds (op2) (z5) (z6) m_eastBy m_northBy m_partBy m_wayFaults m_wayEast m_wayNorth m_olds m_wayMany m_oneOfSet m_twoOfSet m_farBy m_rowBy m_triedBy m_rowMany m_doneAt m_gotAt m_struckAt m_bestDeed m_misBy m_drawn m_ranSteps m_loops m_ran m_told1 m_isTold m_marks)) : WP Γ M_Mo_dayStep 11 0 0 (hM m_at m_names m_status m_top m_bottom m_sort m_trayMany m_trays m_tape m_text m_taped ((nI L)) ((gtF m_text L s.a).1) ((nI (gtF m_text L s.a).2.1)) ((nI (gtF m_text L s.a).2.2.1)) ((gtF m_text L s.a).2.2.2) m_faultKind m_faultPlace m_faults m_seen m_areOdds m_opened ((nI y.nD)) ((nI y.nS)) m_eastBy m_northBy m_partBy m_wayFaults m_wayEast m_wayNorth m_olds m_wayMany m_oneOfSet m_twoOfSet m_farBy m_rowBy m_triedBy m_rowMany m_doneAt m_gotAt m_struckAt m_bestDeed m_misBy m_drawn m_ranSteps m_loops m_ran m_told1 m_isTold m_marks) 7 [some (.ref 0), some (.int 15), none, none, none, none] [] Q := by
  have A := ATk_of (s := s) hb T ha
  have g2 := ak_w2 (w := 15) A (by omega) hw
  have hS30 := ok.2.2.1
  have hD3 := ok.2.2.2.1
  have hRR := ok.2.1
  refine wp_aload_n 8 d_Mo_dayStep_7 rfl rfl ?_
  refine wp_getfield 11 12 0 d_Mo_dayStep_8 rfl fl_Mo_7 rfl rfl ?_
  refine wp_sipush 14 1807 d_Mo_dayStep_11 rfl (by decide) ?_
  refine wp_iaload 15 d_Mo_dayStep_14 rfl rfl (vp_in_nI (n := 1807) (N := 2332) (by omega) (by omega)) ?_
  rw [show m_at (1807 : Int32).toNatClampNeg = nI y.nR from hw7]
  refine wp_istore_2 16 d_Mo_dayStep_15 rfl rfl rfl ?_
  refine wp_sipush 19 1882 d_Mo_dayStep_16 rfl (by decide) ?_
  refine wp_bipush 21 6 d_Mo_dayStep_19 rfl (by decide) ?_
  refine wp_iload_n 22 d_Mo_dayStep_21 rfl rfl ?_
  refine wp_imul 23 d_Mo_dayStep_22 rfl ?_
  refine wp_iadd 24 d_Mo_dayStep_23 rfl ?_
  rw [show (1882 : Int32) + 6 * nI y.nR = nI (1882 + 6 * y.nR) from by rw [show (6 : Int32) * nI y.nR = nI (6 * y.nR) from mulK 6 y.nR]; exact nI_add 1882 _]
  refine wp_istore_3 25 d_Mo_dayStep_24 rfl rfl rfl ?_
  refine wp_iload_n 26 d_Mo_dayStep_25 rfl rfl ?_
  refine wp_bipush 28 16 d_Mo_dayStep_26 rfl (by decide) ?_
  refine wp_icmp_eq 37 31 d_Mo_dayStep_28 rfl (by decide) (fun h28 => ?_) (fun h28 => ?_)
  · exact absurd h28 (by decide)
  · refine wp_iload_n 32 d_Mo_dayStep_31 rfl rfl ?_
    refine wp_bipush 34 17 d_Mo_dayStep_32 rfl (by decide) ?_
    refine wp_icmp_ne 41 37 d_Mo_dayStep_34 rfl (by decide) (fun h34 => ?_) (fun h34 => ?_)
    · refine wp_iconst 42 0 d_Mo_dayStep_41 rfl (by decide) ?_
      refine wp_istore_4 44 d_Mo_dayStep_42 rfl rfl rfl ?_
      refine wp_iload_n 45 d_Mo_dayStep_44 rfl rfl ?_
      refine wp_bipush 47 11 d_Mo_dayStep_45 rfl (by decide) ?_
      refine wp_icmp_lt 69 50 d_Mo_dayStep_47 rfl (by decide) (fun h47 => ?_) (fun h47 => ?_)
      · exact absurd h47 (by decide)
      · refine wp_iload_n 51 d_Mo_dayStep_50 rfl rfl ?_
        refine wp_bipush 53 19 d_Mo_dayStep_51 rfl (by decide) ?_
        refine wp_icmp_gt 69 56 d_Mo_dayStep_53 rfl (by decide) (fun h53 => ?_) (fun h53 => ?_)
        · exact absurd h53 (by decide)
        · refine wp_iload_n 57 d_Mo_dayStep_56 rfl rfl ?_
          refine wp_bipush 59 18 d_Mo_dayStep_57 rfl (by decide) ?_
          refine wp_icmp_ne 75 62 d_Mo_dayStep_59 rfl (by decide) (fun h59 => ?_) (fun h59 => ?_)
          · refine wp_iload_n 76 d_Mo_dayStep_75 rfl rfl ?_
            refine wp_bipush 78 18 d_Mo_dayStep_76 rfl (by decide) ?_
            refine wp_icmp_eq 97 81 d_Mo_dayStep_78 rfl (by decide) (fun h78 => ?_) (fun h78 => ?_)
            · exact absurd h78 (by decide)
            · refine wp_aload_n 82 d_Mo_dayStep_81 rfl rfl ?_
              refine wp_getfield 85 12 23 d_Mo_dayStep_82 rfl fl_Mo_269 rfl rfl ?_
              refine wp_bipush 87 30 d_Mo_dayStep_85 rfl (by decide) ?_
              refine wp_icmp_ne 97 90 d_Mo_dayStep_87 rfl (by decide) (fun h87 => ?_) (fun h87 => ?_)
              · have h30 : y.nS < 30 := by
                  rcases Nat.lt_or_ge y.nS 30 with z | z
                  · exact z
                  · exact absurd (show nI y.nS = 30 from by rw [show y.nS = 30 by omega]; rfl) h87
                refine wp_iload 99 d_Mo_dayStep_97 rfl rfl ?_
                refine wp_if_eq 117 102 d_Mo_dayStep_99 rfl (by decide) (fun h99 => ?_) (fun h99 => ?_)
                · refine wp_aload_n 118 d_Mo_dayStep_117 rfl rfl ?_
                  refine wp_dup 119 d_Mo_dayStep_118 rfl rfl ?_
                  refine wp_getfield 122 12 23 d_Mo_dayStep_119 rfl fl_Mo_269 rfl rfl ?_
                  refine wp_iload_n 123 d_Mo_dayStep_122 rfl rfl ?_
                  refine wp_bipush 125 18 d_Mo_dayStep_123 rfl (by decide) ?_
                  refine wp_icmp_ne 132 128 d_Mo_dayStep_125 rfl (by decide) (fun h125 => ?_) (fun h125 => ?_)
                  · refine wp_iconst 133 1 d_Mo_dayStep_132 rfl (by decide) ?_
                    refine wp_iadd 134 d_Mo_dayStep_133 rfl ?_
                    rw [nI_1]
                    refine wp_putfield 137 12 23 _ d_Mo_dayStep_134 rfl fp_Mo_269 rfl rfl (okP_int _) ?_
                    refine hEq (hM m_at m_names m_status m_top m_bottom m_sort m_trayMany m_trays m_tape m_text m_taped ((nI L)) ((gtF m_text L s.a).1) ((nI (gtF m_text L s.a).2.1)) ((nI (gtF m_text L s.a).2.2.1)) ((gtF m_text L s.a).2.2.2) m_faultKind m_faultPlace m_faults m_seen m_areOdds m_opened ((nI y.nD)) ((nI (y.nS + 1))) m_eastBy m_northBy m_partBy m_wayFaults m_wayEast m_wayNorth m_olds m_wayMany m_oneOfSet m_twoOfSet m_farBy m_rowBy m_triedBy m_rowMany m_doneAt m_gotAt m_struckAt m_bestDeed m_misBy m_drawn m_ranSteps m_loops m_ran m_told1 m_isTold m_marks) rfl ?_
                    refine wp_aload_n 138 d_Mo_dayStep_137 rfl rfl ?_
                    refine wp_getfield 141 12 0 d_Mo_dayStep_138 rfl fl_Mo_7 rfl rfl ?_
                    refine wp_iload_n 142 d_Mo_dayStep_141 rfl rfl ?_
                    refine wp_iload_n 143 d_Mo_dayStep_142 rfl rfl ?_
                    refine wp_iastoreN 144 d_Mo_dayStep_143 rfl rfl rfl (by omega) ?_
                    refine hEq (hM ((upd m_at (1882 + 6 * y.nR) 15)) m_names m_status m_top m_bottom m_sort m_trayMany m_trays m_tape m_text m_taped ((nI L)) ((gtF m_text L s.a).1) ((nI (gtF m_text L s.a).2.1)) ((nI (gtF m_text L s.a).2.2.1)) ((gtF m_text L s.a).2.2.2) m_faultKind m_faultPlace m_faults m_seen m_areOdds m_opened ((nI y.nD)) ((nI (y.nS + 1))) m_eastBy m_northBy m_partBy m_wayFaults m_wayEast m_wayNorth m_olds m_wayMany m_oneOfSet m_twoOfSet m_farBy m_rowBy m_triedBy m_rowMany m_doneAt m_gotAt m_struckAt m_bestDeed m_misBy m_drawn m_ranSteps m_loops m_ran m_told1 m_isTold m_marks) rfl ?_
                    refine wp_iconst 145 1 d_Mo_dayStep_144 rfl (by decide) ?_
                    refine wp_istore_5 147 d_Mo_dayStep_145 rfl rfl rfl ?_
                    have hR60 : y.nR < 60 := by omega
                    refine l_ds_147 (m_at := (upd m_at (1882 + 6 * y.nR) 15)) (y := y) (p := (1882 + 6 * y.nR)) (c1 := 15) (c4 := 0) (by omega) (fun b b1 b2 => ?_) 5 1 (upd m_at (1882 + 6 * y.nR) 15) (by omega) (by omega) (fun j j1 j2 => absurd j1 (by omega)) (fun _ _ => rfl)
                    have b7 : b 1807 = nI y.nR := (b2 1807 (by omega)).trans ((upd_ne (by omega)).trans hw7)
                    have bp : b (1882 + 6 * y.nR) = 15 := (b2 _ (by omega)).trans upd_at
                    have bo : ∀ j, j < 1882 + 6 * y.nR → b j = m_at j := fun j hj => (b2 j (by omega)).trans (upd_ne (by omega))
                    have V2 : vT (upd b 1807 (nI (y.nR + 1))) t := vT_82 V (fun j hj => (upd_ne (by omega)).trans (bo j (by omega)))
                    have hz0 : ∀ j, 1 ≤ j → j < 6 → (upd b 1807 (nI (y.nR + 1))) ((1882 + 6 * y.nR) + j) = 0 := fun j j1 j2 => (upd_ne (by omega)).trans (b1 j j1 j2)
                    have hw0 : (upd b 1807 (nI (y.nR + 1))) (1882 + 6 * y.nR) = 15 := (upd_ne (by omega)).trans bp
                    have et : dTu K t s y = ((true, (cNx K s), dAdd (dSp y) 4 0 0) : Bool × CS × DY) := (dTu_st (by rw [hw]; decide) (by rw [hw]; decide) h30 (by rw [hw]; exact fun z => absurd z.1 (by decide))).trans (by rw [hw]; rfl)
                    have hlt : (((true, (cNx K s), dAdd (dSp y) 4 0 0) : Bool × CS × DY)).2.1.a < K.nT := by have := (dTu_ok (t := t) ok).1; rw [et] at this; exact this
                    refine wp_aload_n 171 d_Mo_dayStep_170 rfl rfl ?_
                    refine wp_getfield 174 12 0 d_Mo_dayStep_171 rfl fl_Mo_7 rfl rfl ?_
                    refine wp_sipush 177 1807 d_Mo_dayStep_174 rfl (by decide) ?_
                    refine wp_dup2 178 d_Mo_dayStep_177 rfl rfl rfl ?_
                    refine wp_iaload 179 d_Mo_dayStep_178 rfl rfl (vp_in_nI (n := 1807) (N := 2332) (by omega) (by omega)) ?_
                    rw [show b (1807 : Int32).toNatClampNeg = nI y.nR from b7]
                    refine wp_iconst 180 1 d_Mo_dayStep_179 rfl (by decide) ?_
                    refine wp_iadd 181 d_Mo_dayStep_180 rfl ?_
                    rw [nI_1]
                    refine wp_iastore 182 d_Mo_dayStep_181 rfl rfl (vp_in_nI (n := 1807) (N := 2332) (by omega) (by omega)) ?_
                    refine hEq (hM ((upd b 1807 (nI (y.nR + 1)))) m_names m_status m_top m_bottom m_sort m_trayMany m_trays m_tape m_text m_taped ((nI L)) ((gtF m_text L s.a).1) ((nI (gtF m_text L s.a).2.1)) ((nI (gtF m_text L s.a).2.2.1)) ((gtF m_text L s.a).2.2.2) m_faultKind m_faultPlace m_faults m_seen m_areOdds m_opened ((nI y.nD)) ((nI (y.nS + 1))) m_eastBy m_northBy m_partBy m_wayFaults m_wayEast m_wayNorth m_olds m_wayMany m_oneOfSet m_twoOfSet m_farBy m_rowBy m_triedBy m_rowMany m_doneAt m_gotAt m_struckAt m_bestDeed m_misBy m_drawn m_ranSteps m_loops m_ran m_told1 m_isTold m_marks) rfl ?_
                    refine wp_aload_n 183 d_Mo_dayStep_182 rfl rfl ?_
                    refine wp_V0 186 M_Mo_ahead 2 d_Mo_dayStep_183 rfl mv_Mo_ahead lk_Mo_187 rfl rfl rfl rfl rfl ?_
                    refine k_ahead (s := s) hL hb T ha (by rw [g2]; decide) ?_
                    refine kV ?_
                    refine wp_aload_n 187 d_Mo_dayStep_186 rfl rfl ?_
                    refine wp_iload_n 188 d_Mo_dayStep_187 rfl rfl ?_
                    refine wp_iload_n 189 d_Mo_dayStep_188 rfl rfl ?_
                    refine wp_V2 192 M_Mo_dayOrder 10 d_Mo_dayStep_189 rfl mv_Mo_dayOrder lk_Mo_272 rfl rfl rfl rfl rfl ?_
                    refine k_doAny (s := cNx K s) (t := t) (y := (dSp y)) (p := (1882 + 6 * y.nR)) hL hb T (cNx_lt ha) hf V2 N (by omega) (by omega) hz0 hw0 (fun n1 a2 kk f z g1 g2_ g3 g4 => ?_) (fun n8 a2 z1 z2 z3 z4 g1 => ?_)
                    · refine kI ?_
                      refine wp_if_ne 197 195 d_Mo_dayStep_192 rfl (by decide) (fun h192 => ?_) (fun h192 => ?_)
                      · refine wp_iload 199 d_Mo_dayStep_197 rfl rfl ?_
                        refine wp_if_eq 222 202 d_Mo_dayStep_199 rfl (by decide) (fun h199 => ?_) (fun h199 => ?_)
                        · refine wp_iload_n 223 d_Mo_dayStep_222 rfl rfl ?_
                          refine wp_bipush 225 18 d_Mo_dayStep_223 rfl (by decide) ?_
                          refine wp_icmp_ne 279 228 d_Mo_dayStep_225 rfl (by decide) (fun h225 => ?_) (fun h225 => ?_)
                          · refine wp_aload_n 280 d_Mo_dayStep_279 rfl rfl ?_
                            refine wp_bipush 282 59 d_Mo_dayStep_280 rfl (by decide) ?_
                            refine wp_V1 285 M_Mo_wantSign 3 d_Mo_dayStep_282 rfl mv_Mo_wantSign lk_Mo_240 rfl rfl rfl rfl rfl ?_
                            refine k_wantSign (s := (((true, (cNx K s), dAdd (dSp y) 4 0 0) : Bool × CS × DY)).2.1) (c := 59) hL hb T hlt hf (fun n5 => ?_) (fun n9 => ?_)
                            · refine kI ?_
                              refine wp_zreturn d_Mo_dayStep_285 rfl (by first | rfl | exact nbP _) ?_
                              have e := dUt_y et n1
                              rw [e, g2_] at hq1
                              exact hq1 n5 a2 m_opened (fun k9 hk9 => (g1 k9 (by omega)).trans ((upd_ne (by omega)).trans (bo k9 (by omega)))) ((g1 1807 (by omega)).trans upd_at) (RDr_add (y := (dSp y)) RR (fun j j1 j2 => (g1 j (by have j2 : j < 1882 + 6 * y.nR := j2; omega)).trans ((upd_ne (by omega)).trans (bo j j2))) g3) (WFP_add (y := dSp y) W hR60 g4.1 g4.2.1) O
                            · refine kI ?_
                              refine wp_zreturn d_Mo_dayStep_285 rfl (by first | rfl | exact nbP _) ?_
                              have e := dUt_y et n1
                              rw [e] at hq0
                              exact hq0 n9 a2 m_opened _ _ _ _ _ _ (fun k9 hk9 => (g1 k9 (by omega)).trans ((upd_ne (by omega)).trans (bo k9 (by omega))))
                          · exact absurd h225 (by decide)
                        · exact absurd h199 (by decide)
                      · exact absurd h192 (by decide)
                    · refine kI ?_
                      refine wp_if_ne 197 195 d_Mo_dayStep_192 rfl (by decide) (fun h192 => ?_) (fun h192 => ?_)
                      · exact absurd rfl h192
                      · refine wp_iconst 196 0 d_Mo_dayStep_195 rfl (by decide) ?_
                        refine wp_zreturn d_Mo_dayStep_196 rfl (by first | rfl | exact nbP _) ?_
                        have e := dUt_f et n8
                        rw [e] at hq0
                        exact hq0 Bool.false_ne_true a2 m_opened _ _ _ _ _ _ (fun k9 hk9 => (g1 k9 (by omega)).trans ((upd_ne (by omega)).trans (bo k9 (by omega))))
                  · exact absurd h125 (by decide)
                · exact absurd h99 (by decide)
              · refine wp_aload_n 91 d_Mo_dayStep_90 rfl rfl ?_
                refine wp_bipush 93 6 d_Mo_dayStep_91 rfl (by decide) ?_
                refine wp_V1 96 M_Mo_fails 1 d_Mo_dayStep_93 rfl mv_Mo_fails lk_Mo_193 rfl rfl rfl rfl rfl ?_
                refine k_fails (s := s) (c := 6) hL hb T ha hf (by rw [g2]; decide) ?_
                refine kI ?_
                refine wp_zreturn d_Mo_dayStep_96 rfl (by first | rfl | exact nbP _) ?_
                have h30 : ¬ y.nS < 30 := fun z => absurd (nI_ij (b := 30) h87 (by omega) (by omega)) (by omega)
                have e := dUt_f (dTu_6 (K := K) (t := t) (s := s) (y := y) (by rw [hw]; decide) (by rw [hw]; decide) h30) Bool.false_ne_true
                rw [e] at hq0
                exact hq0 Bool.false_ne_true m_at m_opened _ _ _ _ _ _ (fun _ _ => rfl)
          · exact absurd h59 (by decide)
    · exact absurd h34 (by decide)
set_option maxRecDepth 100000 in
set_option maxHeartbeats 4000000 in
theorem l_ds_16 (hL : L ≤ 900) (hb : ∀ k, k < L → b8 (m_text k)) (T : TKs co0_ m_text L K) (ha : s.a < K.nT) (hf : m_faults = 0) (hw : cWo K s = 16) (V : vT m_at t) (N : NS m_names 0 t) (ok : DOk K s y) (hw7 : m_at 1807 = nI y.nR) (RR : RDr t.nW m_at y) (W : WFP y) (O : ∀ i, i < y.nD → m_opened i = y.op i) (hq1 : (dUt K t s y).1 = true → ∀ (a2 op2 : Nat → Int32), frO a2 m_at → a2 1807 = nI (dUt K t s y).2.2.nR → RDr t.nW a2 (dUt K t s y).2.2 → WFP (dUt K t s y).2.2 → (∀ i, i < (dUt K t s y).2.2.nD → op2 i = (dUt K t s y).2.2.op i) → Q (some (.int 1)) (hM (a2) m_names m_status m_top m_bottom m_sort m_trayMany m_trays m_tape m_text m_taped ((nI L)) ((gtF m_text L (dUt K t s y).2.1.a).1) ((nI (gtF m_text L (dUt K t s y).2.1.a).2.1)) ((nI (gtF m_text L (dUt K t s y).2.1.a).2.2.1)) ((gtF m_text L (dUt K t s y).2.1.a).2.2.2) m_faultKind m_faultPlace m_faults m_seen m_areOdds (op2) ((nI (dUt K t s y).2.2.nD)) ((nI (dUt K t s y).2.2.nS)) m_eastBy m_northBy m_partBy m_wayFaults m_wayEast m_wayNorth m_olds m_wayMany m_oneOfSet m_twoOfSet m_farBy m_rowBy m_triedBy m_rowMany m_doneAt m_gotAt m_struckAt m_bestDeed m_misBy m_drawn m_ranSteps m_loops m_ran m_told1 m_isTold m_marks)) (hq0 : ¬ (dUt K t s y).1 = true → ∀ (a2 op2 : Nat → Int32) (z1 z2 z3 z4 z5 z6 : Int32), frO a2 m_at → Q (some (.int 0)) (hM (a2) m_names m_status m_top m_bottom m_sort m_trayMany m_trays m_tape m_text m_taped ((nI L)) (z1) (z2) (z3) (z4) m_faultKind (((dUt K t s y).2.1).fp) (((dUt K t s y).2.1).fk) m_seen m_areOdds (op2) (z5) (z6) m_eastBy m_northBy m_partBy m_wayFaults m_wayEast m_wayNorth m_olds m_wayMany m_oneOfSet m_twoOfSet m_farBy m_rowBy m_triedBy m_rowMany m_doneAt m_gotAt m_struckAt m_bestDeed m_misBy m_drawn m_ranSteps m_loops m_ran m_told1 m_isTold m_marks)) : WP Γ M_Mo_dayStep 11 0 0 (hM m_at m_names m_status m_top m_bottom m_sort m_trayMany m_trays m_tape m_text m_taped ((nI L)) ((gtF m_text L s.a).1) ((nI (gtF m_text L s.a).2.1)) ((nI (gtF m_text L s.a).2.2.1)) ((gtF m_text L s.a).2.2.2) m_faultKind m_faultPlace m_faults m_seen m_areOdds m_opened ((nI y.nD)) ((nI y.nS)) m_eastBy m_northBy m_partBy m_wayFaults m_wayEast m_wayNorth m_olds m_wayMany m_oneOfSet m_twoOfSet m_farBy m_rowBy m_triedBy m_rowMany m_doneAt m_gotAt m_struckAt m_bestDeed m_misBy m_drawn m_ranSteps m_loops m_ran m_told1 m_isTold m_marks) 7 [some (.ref 0), some (.int 16), none, none, none, none] [] Q := by
  have A := ATk_of (s := s) hb T ha
  have g2 := ak_w2 (w := 16) A (by omega) hw
  have hS30 := ok.2.2.1
  have hD3 := ok.2.2.2.1
  have hRR := ok.2.1
  refine wp_aload_n 8 d_Mo_dayStep_7 rfl rfl ?_
  refine wp_getfield 11 12 0 d_Mo_dayStep_8 rfl fl_Mo_7 rfl rfl ?_
  refine wp_sipush 14 1807 d_Mo_dayStep_11 rfl (by decide) ?_
  refine wp_iaload 15 d_Mo_dayStep_14 rfl rfl (vp_in_nI (n := 1807) (N := 2332) (by omega) (by omega)) ?_
  rw [show m_at (1807 : Int32).toNatClampNeg = nI y.nR from hw7]
  refine wp_istore_2 16 d_Mo_dayStep_15 rfl rfl rfl ?_
  refine wp_sipush 19 1882 d_Mo_dayStep_16 rfl (by decide) ?_
  refine wp_bipush 21 6 d_Mo_dayStep_19 rfl (by decide) ?_
  refine wp_iload_n 22 d_Mo_dayStep_21 rfl rfl ?_
  refine wp_imul 23 d_Mo_dayStep_22 rfl ?_
  refine wp_iadd 24 d_Mo_dayStep_23 rfl ?_
  rw [show (1882 : Int32) + 6 * nI y.nR = nI (1882 + 6 * y.nR) from by rw [show (6 : Int32) * nI y.nR = nI (6 * y.nR) from mulK 6 y.nR]; exact nI_add 1882 _]
  refine wp_istore_3 25 d_Mo_dayStep_24 rfl rfl rfl ?_
  refine wp_iload_n 26 d_Mo_dayStep_25 rfl rfl ?_
  refine wp_bipush 28 16 d_Mo_dayStep_26 rfl (by decide) ?_
  refine wp_icmp_eq 37 31 d_Mo_dayStep_28 rfl (by decide) (fun h28 => ?_) (fun h28 => ?_)
  · refine wp_iconst 38 1 d_Mo_dayStep_37 rfl (by decide) ?_
    refine wp_goto 42 d_Mo_dayStep_38 (by decide) ?_
    refine wp_istore_4 44 d_Mo_dayStep_42 rfl rfl rfl ?_
    refine wp_iload_n 45 d_Mo_dayStep_44 rfl rfl ?_
    refine wp_bipush 47 11 d_Mo_dayStep_45 rfl (by decide) ?_
    refine wp_icmp_lt 69 50 d_Mo_dayStep_47 rfl (by decide) (fun h47 => ?_) (fun h47 => ?_)
    · exact absurd h47 (by decide)
    · refine wp_iload_n 51 d_Mo_dayStep_50 rfl rfl ?_
      refine wp_bipush 53 19 d_Mo_dayStep_51 rfl (by decide) ?_
      refine wp_icmp_gt 69 56 d_Mo_dayStep_53 rfl (by decide) (fun h53 => ?_) (fun h53 => ?_)
      · exact absurd h53 (by decide)
      · refine wp_iload_n 57 d_Mo_dayStep_56 rfl rfl ?_
        refine wp_bipush 59 18 d_Mo_dayStep_57 rfl (by decide) ?_
        refine wp_icmp_ne 75 62 d_Mo_dayStep_59 rfl (by decide) (fun h59 => ?_) (fun h59 => ?_)
        · refine wp_iload_n 76 d_Mo_dayStep_75 rfl rfl ?_
          refine wp_bipush 78 18 d_Mo_dayStep_76 rfl (by decide) ?_
          refine wp_icmp_eq 97 81 d_Mo_dayStep_78 rfl (by decide) (fun h78 => ?_) (fun h78 => ?_)
          · exact absurd h78 (by decide)
          · refine wp_aload_n 82 d_Mo_dayStep_81 rfl rfl ?_
            refine wp_getfield 85 12 23 d_Mo_dayStep_82 rfl fl_Mo_269 rfl rfl ?_
            refine wp_bipush 87 30 d_Mo_dayStep_85 rfl (by decide) ?_
            refine wp_icmp_ne 97 90 d_Mo_dayStep_87 rfl (by decide) (fun h87 => ?_) (fun h87 => ?_)
            · have h30 : y.nS < 30 := by
                rcases Nat.lt_or_ge y.nS 30 with z | z
                · exact z
                · exact absurd (show nI y.nS = 30 from by rw [show y.nS = 30 by omega]; rfl) h87
              refine wp_iload 99 d_Mo_dayStep_97 rfl rfl ?_
              refine wp_if_eq 117 102 d_Mo_dayStep_99 rfl (by decide) (fun h99 => ?_) (fun h99 => ?_)
              · exact absurd h99 (by decide)
              · refine wp_aload_n 103 d_Mo_dayStep_102 rfl rfl ?_
                refine wp_getfield 106 12 22 d_Mo_dayStep_103 rfl fl_Mo_266 rfl rfl ?_
                refine wp_iconst 107 3 d_Mo_dayStep_106 rfl (by decide) ?_
                refine wp_icmp_ne 117 110 d_Mo_dayStep_107 rfl (by decide) (fun h107 => ?_) (fun h107 => ?_)
                · have h3 : y.nD < 3 := by
                    rcases Nat.lt_or_ge y.nD 3 with z | z
                    · exact z
                    · exact absurd (show nI y.nD = 3 from by rw [show y.nD = 3 by omega]; rfl) h107
                  refine wp_aload_n 118 d_Mo_dayStep_117 rfl rfl ?_
                  refine wp_dup 119 d_Mo_dayStep_118 rfl rfl ?_
                  refine wp_getfield 122 12 23 d_Mo_dayStep_119 rfl fl_Mo_269 rfl rfl ?_
                  refine wp_iload_n 123 d_Mo_dayStep_122 rfl rfl ?_
                  refine wp_bipush 125 18 d_Mo_dayStep_123 rfl (by decide) ?_
                  refine wp_icmp_ne 132 128 d_Mo_dayStep_125 rfl (by decide) (fun h125 => ?_) (fun h125 => ?_)
                  · refine wp_iconst 133 1 d_Mo_dayStep_132 rfl (by decide) ?_
                    refine wp_iadd 134 d_Mo_dayStep_133 rfl ?_
                    rw [nI_1]
                    refine wp_putfield 137 12 23 _ d_Mo_dayStep_134 rfl fp_Mo_269 rfl rfl (okP_int _) ?_
                    refine hEq (hM m_at m_names m_status m_top m_bottom m_sort m_trayMany m_trays m_tape m_text m_taped ((nI L)) ((gtF m_text L s.a).1) ((nI (gtF m_text L s.a).2.1)) ((nI (gtF m_text L s.a).2.2.1)) ((gtF m_text L s.a).2.2.2) m_faultKind m_faultPlace m_faults m_seen m_areOdds m_opened ((nI y.nD)) ((nI (y.nS + 1))) m_eastBy m_northBy m_partBy m_wayFaults m_wayEast m_wayNorth m_olds m_wayMany m_oneOfSet m_twoOfSet m_farBy m_rowBy m_triedBy m_rowMany m_doneAt m_gotAt m_struckAt m_bestDeed m_misBy m_drawn m_ranSteps m_loops m_ran m_told1 m_isTold m_marks) rfl ?_
                    refine wp_aload_n 138 d_Mo_dayStep_137 rfl rfl ?_
                    refine wp_getfield 141 12 0 d_Mo_dayStep_138 rfl fl_Mo_7 rfl rfl ?_
                    refine wp_iload_n 142 d_Mo_dayStep_141 rfl rfl ?_
                    refine wp_iload_n 143 d_Mo_dayStep_142 rfl rfl ?_
                    refine wp_iastoreN 144 d_Mo_dayStep_143 rfl rfl rfl (by omega) ?_
                    refine hEq (hM ((upd m_at (1882 + 6 * y.nR) 16)) m_names m_status m_top m_bottom m_sort m_trayMany m_trays m_tape m_text m_taped ((nI L)) ((gtF m_text L s.a).1) ((nI (gtF m_text L s.a).2.1)) ((nI (gtF m_text L s.a).2.2.1)) ((gtF m_text L s.a).2.2.2) m_faultKind m_faultPlace m_faults m_seen m_areOdds m_opened ((nI y.nD)) ((nI (y.nS + 1))) m_eastBy m_northBy m_partBy m_wayFaults m_wayEast m_wayNorth m_olds m_wayMany m_oneOfSet m_twoOfSet m_farBy m_rowBy m_triedBy m_rowMany m_doneAt m_gotAt m_struckAt m_bestDeed m_misBy m_drawn m_ranSteps m_loops m_ran m_told1 m_isTold m_marks) rfl ?_
                    refine wp_iconst 145 1 d_Mo_dayStep_144 rfl (by decide) ?_
                    refine wp_istore_5 147 d_Mo_dayStep_145 rfl rfl rfl ?_
                    have hR60 : y.nR < 60 := by omega
                    refine l_ds_147 (m_at := (upd m_at (1882 + 6 * y.nR) 16)) (y := y) (p := (1882 + 6 * y.nR)) (c1 := 16) (c4 := 1) (by omega) (fun b b1 b2 => ?_) 5 1 (upd m_at (1882 + 6 * y.nR) 16) (by omega) (by omega) (fun j j1 j2 => absurd j1 (by omega)) (fun _ _ => rfl)
                    have b7 : b 1807 = nI y.nR := (b2 1807 (by omega)).trans ((upd_ne (by omega)).trans hw7)
                    have bp : b (1882 + 6 * y.nR) = 16 := (b2 _ (by omega)).trans upd_at
                    have bo : ∀ j, j < 1882 + 6 * y.nR → b j = m_at j := fun j hj => (b2 j (by omega)).trans (upd_ne (by omega))
                    have V2 : vT (upd b 1807 (nI (y.nR + 1))) t := vT_82 V (fun j hj => (upd_ne (by omega)).trans (bo j (by omega)))
                    have hz0 : ∀ j, 1 ≤ j → j < 6 → (upd b 1807 (nI (y.nR + 1))) ((1882 + 6 * y.nR) + j) = 0 := fun j j1 j2 => (upd_ne (by omega)).trans (b1 j j1 j2)
                    have hw0 : (upd b 1807 (nI (y.nR + 1))) (1882 + 6 * y.nR) = 16 := (upd_ne (by omega)).trans bp
                    have et : dTu K t s y = dTe K t (cNx K s) (dOp (dSp y)) := (dTu_st (by rw [hw]; decide) (by rw [hw]; decide) h30 (fun z => absurd z.2 (by omega))).trans (by rw [hw]; rfl)
                    have hlt : (dTe K t (cNx K s) (dOp (dSp y))).2.1.a < K.nT := by have := (dTu_ok (t := t) ok).1; rw [et] at this; exact this
                    refine wp_aload_n 171 d_Mo_dayStep_170 rfl rfl ?_
                    refine wp_getfield 174 12 0 d_Mo_dayStep_171 rfl fl_Mo_7 rfl rfl ?_
                    refine wp_sipush 177 1807 d_Mo_dayStep_174 rfl (by decide) ?_
                    refine wp_dup2 178 d_Mo_dayStep_177 rfl rfl rfl ?_
                    refine wp_iaload 179 d_Mo_dayStep_178 rfl rfl (vp_in_nI (n := 1807) (N := 2332) (by omega) (by omega)) ?_
                    rw [show b (1807 : Int32).toNatClampNeg = nI y.nR from b7]
                    refine wp_iconst 180 1 d_Mo_dayStep_179 rfl (by decide) ?_
                    refine wp_iadd 181 d_Mo_dayStep_180 rfl ?_
                    rw [nI_1]
                    refine wp_iastore 182 d_Mo_dayStep_181 rfl rfl (vp_in_nI (n := 1807) (N := 2332) (by omega) (by omega)) ?_
                    refine hEq (hM ((upd b 1807 (nI (y.nR + 1)))) m_names m_status m_top m_bottom m_sort m_trayMany m_trays m_tape m_text m_taped ((nI L)) ((gtF m_text L s.a).1) ((nI (gtF m_text L s.a).2.1)) ((nI (gtF m_text L s.a).2.2.1)) ((gtF m_text L s.a).2.2.2) m_faultKind m_faultPlace m_faults m_seen m_areOdds m_opened ((nI y.nD)) ((nI (y.nS + 1))) m_eastBy m_northBy m_partBy m_wayFaults m_wayEast m_wayNorth m_olds m_wayMany m_oneOfSet m_twoOfSet m_farBy m_rowBy m_triedBy m_rowMany m_doneAt m_gotAt m_struckAt m_bestDeed m_misBy m_drawn m_ranSteps m_loops m_ran m_told1 m_isTold m_marks) rfl ?_
                    refine wp_aload_n 183 d_Mo_dayStep_182 rfl rfl ?_
                    refine wp_V0 186 M_Mo_ahead 2 d_Mo_dayStep_183 rfl mv_Mo_ahead lk_Mo_187 rfl rfl rfl rfl rfl ?_
                    refine k_ahead (s := s) hL hb T ha (by rw [g2]; decide) ?_
                    refine kV ?_
                    refine wp_aload_n 187 d_Mo_dayStep_186 rfl rfl ?_
                    refine wp_iload_n 188 d_Mo_dayStep_187 rfl rfl ?_
                    refine wp_iload_n 189 d_Mo_dayStep_188 rfl rfl ?_
                    refine wp_V2 192 M_Mo_dayOrder 10 d_Mo_dayStep_189 rfl mv_Mo_dayOrder lk_Mo_272 rfl rfl rfl rfl rfl ?_
                    refine k_doWhen (s := cNx K s) (t := t) (y := (dOp (dSp y))) (p := (1882 + 6 * y.nR)) hL hb T (cNx_lt ha) hf V2 N (by omega) (by omega) hz0 hw0 (fun n1 a2 kk f z g1 g2_ g3 g4 => ?_) (fun n8 a2 z1 z2 z3 z4 g1 => ?_)
                    · refine kI ?_
                      refine wp_if_ne 197 195 d_Mo_dayStep_192 rfl (by decide) (fun h192 => ?_) (fun h192 => ?_)
                      · refine wp_iload 199 d_Mo_dayStep_197 rfl rfl ?_
                        refine wp_if_eq 222 202 d_Mo_dayStep_199 rfl (by decide) (fun h199 => ?_) (fun h199 => ?_)
                        · exact absurd h199 (by decide)
                        · refine wp_aload_n 203 d_Mo_dayStep_202 rfl rfl ?_
                          refine wp_getfield 206 12 21 d_Mo_dayStep_203 rfl fl_Mo_44 rfl rfl ?_
                          refine wp_aload_n 207 d_Mo_dayStep_206 rfl rfl ?_
                          refine wp_getfield 210 12 22 d_Mo_dayStep_207 rfl fl_Mo_266 rfl rfl ?_
                          refine wp_iload_n 211 d_Mo_dayStep_210 rfl rfl ?_
                          refine wp_iastoreN 212 d_Mo_dayStep_211 rfl rfl rfl (by omega) ?_
                          refine hEq (hM (a2) m_names m_status m_top m_bottom m_sort m_trayMany m_trays m_tape m_text m_taped ((nI L)) ((gtF m_text L (dTe K t (cNx K s) (dOp (dSp y))).2.1.a).1) ((nI (gtF m_text L (dTe K t (cNx K s) (dOp (dSp y))).2.1.a).2.1)) ((nI (gtF m_text L (dTe K t (cNx K s) (dOp (dSp y))).2.1.a).2.2.1)) ((gtF m_text L (dTe K t (cNx K s) (dOp (dSp y))).2.1.a).2.2.2) m_faultKind m_faultPlace m_faults m_seen m_areOdds ((upd m_opened y.nD (nI y.nR))) ((nI y.nD)) ((nI (y.nS + 1))) m_eastBy m_northBy m_partBy m_wayFaults m_wayEast m_wayNorth m_olds m_wayMany m_oneOfSet m_twoOfSet m_farBy m_rowBy m_triedBy m_rowMany m_doneAt m_gotAt m_struckAt m_bestDeed m_misBy m_drawn m_ranSteps m_loops m_ran m_told1 m_isTold m_marks) rfl ?_
                          refine wp_aload_n 213 d_Mo_dayStep_212 rfl rfl ?_
                          refine wp_dup 214 d_Mo_dayStep_213 rfl rfl ?_
                          refine wp_getfield 217 12 22 d_Mo_dayStep_214 rfl fl_Mo_266 rfl rfl ?_
                          refine wp_iconst 218 1 d_Mo_dayStep_217 rfl (by decide) ?_
                          refine wp_iadd 219 d_Mo_dayStep_218 rfl ?_
                          rw [nI_1]
                          refine wp_putfield 222 12 22 _ d_Mo_dayStep_219 rfl fp_Mo_266 rfl rfl (okP_int _) ?_
                          refine hEq (hM (a2) m_names m_status m_top m_bottom m_sort m_trayMany m_trays m_tape m_text m_taped ((nI L)) ((gtF m_text L (dTe K t (cNx K s) (dOp (dSp y))).2.1.a).1) ((nI (gtF m_text L (dTe K t (cNx K s) (dOp (dSp y))).2.1.a).2.1)) ((nI (gtF m_text L (dTe K t (cNx K s) (dOp (dSp y))).2.1.a).2.2.1)) ((gtF m_text L (dTe K t (cNx K s) (dOp (dSp y))).2.1.a).2.2.2) m_faultKind m_faultPlace m_faults m_seen m_areOdds ((upd m_opened y.nD (nI y.nR))) ((nI (y.nD + 1))) ((nI (y.nS + 1))) m_eastBy m_northBy m_partBy m_wayFaults m_wayEast m_wayNorth m_olds m_wayMany m_oneOfSet m_twoOfSet m_farBy m_rowBy m_triedBy m_rowMany m_doneAt m_gotAt m_struckAt m_bestDeed m_misBy m_drawn m_ranSteps m_loops m_ran m_told1 m_isTold m_marks) rfl ?_
                          refine wp_iload_n 223 d_Mo_dayStep_222 rfl rfl ?_
                          refine wp_bipush 225 18 d_Mo_dayStep_223 rfl (by decide) ?_
                          refine wp_icmp_ne 279 228 d_Mo_dayStep_225 rfl (by decide) (fun h225 => ?_) (fun h225 => ?_)
                          · refine wp_aload_n 280 d_Mo_dayStep_279 rfl rfl ?_
                            refine wp_bipush 282 59 d_Mo_dayStep_280 rfl (by decide) ?_
                            refine wp_V1 285 M_Mo_wantSign 3 d_Mo_dayStep_282 rfl mv_Mo_wantSign lk_Mo_240 rfl rfl rfl rfl rfl ?_
                            refine k_wantSign (s := (dTe K t (cNx K s) (dOp (dSp y))).2.1) (c := 59) hL hb T hlt hf (fun n5 => ?_) (fun n9 => ?_)
                            · refine kI ?_
                              refine wp_zreturn d_Mo_dayStep_285 rfl (by first | rfl | exact nbP _) ?_
                              have e := dUt_y et n1
                              obtain ⟨g5, g6⟩ := g4
                              rw [g6] at g2_ g3
                              rw [e, g2_] at hq1
                              exact hq1 n5 a2 (upd m_opened y.nD (nI y.nR)) (fun k9 hk9 => (g1 k9 (by omega)).trans ((upd_ne (by omega)).trans (bo k9 (by omega)))) ((g1 1807 (by omega)).trans upd_at) (RDr_add (y := (dOp (dSp y))) RR (fun j j1 j2 => (g1 j (by have j2 : j < 1882 + 6 * y.nR := j2; omega)).trans ((upd_ne (by omega)).trans (bo j j2))) g3) (WFP_open (y := dSp y) W hR60 g5) (fun i hi => by
                                have hi2 : i < y.nD + 1 := hi
                                show upd m_opened y.nD (nI y.nR) i = upd y.op y.nD (nI y.nR) i
                                by_cases c : i = y.nD
                                · rw [c, upd_at, upd_at]
                                · rw [upd_ne c, upd_ne c]; exact O i (by omega))
                            · refine kI ?_
                              refine wp_zreturn d_Mo_dayStep_285 rfl (by first | rfl | exact nbP _) ?_
                              have e := dUt_y et n1
                              rw [e] at hq0
                              exact hq0 n9 a2 (upd m_opened y.nD (nI y.nR)) _ _ _ _ _ _ (fun k9 hk9 => (g1 k9 (by omega)).trans ((upd_ne (by omega)).trans (bo k9 (by omega))))
                          · exact absurd h225 (by decide)
                      · exact absurd h192 (by decide)
                    · refine kI ?_
                      refine wp_if_ne 197 195 d_Mo_dayStep_192 rfl (by decide) (fun h192 => ?_) (fun h192 => ?_)
                      · exact absurd rfl h192
                      · refine wp_iconst 196 0 d_Mo_dayStep_195 rfl (by decide) ?_
                        refine wp_zreturn d_Mo_dayStep_196 rfl (by first | rfl | exact nbP _) ?_
                        have e := dUt_f et n8
                        rw [e] at hq0
                        exact hq0 Bool.false_ne_true a2 m_opened _ _ _ _ _ _ (fun k9 hk9 => (g1 k9 (by omega)).trans ((upd_ne (by omega)).trans (bo k9 (by omega))))
                  · exact absurd h125 (by decide)
                · refine wp_aload_n 111 d_Mo_dayStep_110 rfl rfl ?_
                  refine wp_bipush 113 7 d_Mo_dayStep_111 rfl (by decide) ?_
                  refine wp_V1 116 M_Mo_fails 1 d_Mo_dayStep_113 rfl mv_Mo_fails lk_Mo_193 rfl rfl rfl rfl rfl ?_
                  refine k_fails (s := s) (c := 7) hL hb T ha hf (by rw [g2]; decide) ?_
                  refine kI ?_
                  refine wp_zreturn d_Mo_dayStep_116 rfl (by first | rfl | exact nbP _) ?_
                  have h3 : 3 ≤ y.nD := by have := nI_ij (b := 3) h107 (by omega) (by omega); omega
                  have e := dUt_f (dTu_7 (K := K) (t := t) (s := s) (y := y) (by rw [hw]; decide) (by rw [hw]; decide) h30 ⟨by rw [hw]; decide, h3⟩) Bool.false_ne_true
                  rw [e] at hq0
                  exact hq0 Bool.false_ne_true m_at m_opened _ _ _ _ _ _ (fun _ _ => rfl)
            · refine wp_aload_n 91 d_Mo_dayStep_90 rfl rfl ?_
              refine wp_bipush 93 6 d_Mo_dayStep_91 rfl (by decide) ?_
              refine wp_V1 96 M_Mo_fails 1 d_Mo_dayStep_93 rfl mv_Mo_fails lk_Mo_193 rfl rfl rfl rfl rfl ?_
              refine k_fails (s := s) (c := 6) hL hb T ha hf (by rw [g2]; decide) ?_
              refine kI ?_
              refine wp_zreturn d_Mo_dayStep_96 rfl (by first | rfl | exact nbP _) ?_
              have h30 : ¬ y.nS < 30 := fun z => absurd (nI_ij (b := 30) h87 (by omega) (by omega)) (by omega)
              have e := dUt_f (dTu_6 (K := K) (t := t) (s := s) (y := y) (by rw [hw]; decide) (by rw [hw]; decide) h30) Bool.false_ne_true
              rw [e] at hq0
              exact hq0 Bool.false_ne_true m_at m_opened _ _ _ _ _ _ (fun _ _ => rfl)
        · exact absurd h59 (by decide)
  · exact absurd h28 (by decide)
set_option maxRecDepth 100000 in
set_option maxHeartbeats 4000000 in
theorem l_ds_17 (hL : L ≤ 900) (hb : ∀ k, k < L → b8 (m_text k)) (T : TKs co0_ m_text L K) (ha : s.a < K.nT) (hf : m_faults = 0) (hw : cWo K s = 21) (V : vT m_at t) (N : NS m_names 0 t) (ok : DOk K s y) (hw7 : m_at 1807 = nI y.nR) (RR : RDr t.nW m_at y) (W : WFP y) (O : ∀ i, i < y.nD → m_opened i = y.op i) (hq1 : (dUt K t s y).1 = true → ∀ (a2 op2 : Nat → Int32), frO a2 m_at → a2 1807 = nI (dUt K t s y).2.2.nR → RDr t.nW a2 (dUt K t s y).2.2 → WFP (dUt K t s y).2.2 → (∀ i, i < (dUt K t s y).2.2.nD → op2 i = (dUt K t s y).2.2.op i) → Q (some (.int 1)) (hM (a2) m_names m_status m_top m_bottom m_sort m_trayMany m_trays m_tape m_text m_taped ((nI L)) ((gtF m_text L (dUt K t s y).2.1.a).1) ((nI (gtF m_text L (dUt K t s y).2.1.a).2.1)) ((nI (gtF m_text L (dUt K t s y).2.1.a).2.2.1)) ((gtF m_text L (dUt K t s y).2.1.a).2.2.2) m_faultKind m_faultPlace m_faults m_seen m_areOdds (op2) ((nI (dUt K t s y).2.2.nD)) ((nI (dUt K t s y).2.2.nS)) m_eastBy m_northBy m_partBy m_wayFaults m_wayEast m_wayNorth m_olds m_wayMany m_oneOfSet m_twoOfSet m_farBy m_rowBy m_triedBy m_rowMany m_doneAt m_gotAt m_struckAt m_bestDeed m_misBy m_drawn m_ranSteps m_loops m_ran m_told1 m_isTold m_marks)) (hq0 : ¬ (dUt K t s y).1 = true → ∀ (a2 op2 : Nat → Int32) (z1 z2 z3 z4 z5 z6 : Int32), frO a2 m_at → Q (some (.int 0)) (hM (a2) m_names m_status m_top m_bottom m_sort m_trayMany m_trays m_tape m_text m_taped ((nI L)) (z1) (z2) (z3) (z4) m_faultKind (((dUt K t s y).2.1).fp) (((dUt K t s y).2.1).fk) m_seen m_areOdds (op2) (z5) (z6) m_eastBy m_northBy m_partBy m_wayFaults m_wayEast m_wayNorth m_olds m_wayMany m_oneOfSet m_twoOfSet m_farBy m_rowBy m_triedBy m_rowMany m_doneAt m_gotAt m_struckAt m_bestDeed m_misBy m_drawn m_ranSteps m_loops m_ran m_told1 m_isTold m_marks)) : WP Γ M_Mo_dayStep 11 0 0 (hM m_at m_names m_status m_top m_bottom m_sort m_trayMany m_trays m_tape m_text m_taped ((nI L)) ((gtF m_text L s.a).1) ((nI (gtF m_text L s.a).2.1)) ((nI (gtF m_text L s.a).2.2.1)) ((gtF m_text L s.a).2.2.2) m_faultKind m_faultPlace m_faults m_seen m_areOdds m_opened ((nI y.nD)) ((nI y.nS)) m_eastBy m_northBy m_partBy m_wayFaults m_wayEast m_wayNorth m_olds m_wayMany m_oneOfSet m_twoOfSet m_farBy m_rowBy m_triedBy m_rowMany m_doneAt m_gotAt m_struckAt m_bestDeed m_misBy m_drawn m_ranSteps m_loops m_ran m_told1 m_isTold m_marks) 7 [some (.ref 0), some (.int 17), none, none, none, none] [] Q := by
  have A := ATk_of (s := s) hb T ha
  have g2 := ak_w2 (w := 21) A (by omega) hw
  have hS30 := ok.2.2.1
  have hD3 := ok.2.2.2.1
  have hRR := ok.2.1
  refine wp_aload_n 8 d_Mo_dayStep_7 rfl rfl ?_
  refine wp_getfield 11 12 0 d_Mo_dayStep_8 rfl fl_Mo_7 rfl rfl ?_
  refine wp_sipush 14 1807 d_Mo_dayStep_11 rfl (by decide) ?_
  refine wp_iaload 15 d_Mo_dayStep_14 rfl rfl (vp_in_nI (n := 1807) (N := 2332) (by omega) (by omega)) ?_
  rw [show m_at (1807 : Int32).toNatClampNeg = nI y.nR from hw7]
  refine wp_istore_2 16 d_Mo_dayStep_15 rfl rfl rfl ?_
  refine wp_sipush 19 1882 d_Mo_dayStep_16 rfl (by decide) ?_
  refine wp_bipush 21 6 d_Mo_dayStep_19 rfl (by decide) ?_
  refine wp_iload_n 22 d_Mo_dayStep_21 rfl rfl ?_
  refine wp_imul 23 d_Mo_dayStep_22 rfl ?_
  refine wp_iadd 24 d_Mo_dayStep_23 rfl ?_
  rw [show (1882 : Int32) + 6 * nI y.nR = nI (1882 + 6 * y.nR) from by rw [show (6 : Int32) * nI y.nR = nI (6 * y.nR) from mulK 6 y.nR]; exact nI_add 1882 _]
  refine wp_istore_3 25 d_Mo_dayStep_24 rfl rfl rfl ?_
  refine wp_iload_n 26 d_Mo_dayStep_25 rfl rfl ?_
  refine wp_bipush 28 16 d_Mo_dayStep_26 rfl (by decide) ?_
  refine wp_icmp_eq 37 31 d_Mo_dayStep_28 rfl (by decide) (fun h28 => ?_) (fun h28 => ?_)
  · exact absurd h28 (by decide)
  · refine wp_iload_n 32 d_Mo_dayStep_31 rfl rfl ?_
    refine wp_bipush 34 17 d_Mo_dayStep_32 rfl (by decide) ?_
    refine wp_icmp_ne 41 37 d_Mo_dayStep_34 rfl (by decide) (fun h34 => ?_) (fun h34 => ?_)
    · exact absurd h34 (by decide)
    · refine wp_iconst 38 1 d_Mo_dayStep_37 rfl (by decide) ?_
      refine wp_goto 42 d_Mo_dayStep_38 (by decide) ?_
      refine wp_istore_4 44 d_Mo_dayStep_42 rfl rfl rfl ?_
      refine wp_iload_n 45 d_Mo_dayStep_44 rfl rfl ?_
      refine wp_bipush 47 11 d_Mo_dayStep_45 rfl (by decide) ?_
      refine wp_icmp_lt 69 50 d_Mo_dayStep_47 rfl (by decide) (fun h47 => ?_) (fun h47 => ?_)
      · exact absurd h47 (by decide)
      · refine wp_iload_n 51 d_Mo_dayStep_50 rfl rfl ?_
        refine wp_bipush 53 19 d_Mo_dayStep_51 rfl (by decide) ?_
        refine wp_icmp_gt 69 56 d_Mo_dayStep_53 rfl (by decide) (fun h53 => ?_) (fun h53 => ?_)
        · exact absurd h53 (by decide)
        · refine wp_iload_n 57 d_Mo_dayStep_56 rfl rfl ?_
          refine wp_bipush 59 18 d_Mo_dayStep_57 rfl (by decide) ?_
          refine wp_icmp_ne 75 62 d_Mo_dayStep_59 rfl (by decide) (fun h59 => ?_) (fun h59 => ?_)
          · refine wp_iload_n 76 d_Mo_dayStep_75 rfl rfl ?_
            refine wp_bipush 78 18 d_Mo_dayStep_76 rfl (by decide) ?_
            refine wp_icmp_eq 97 81 d_Mo_dayStep_78 rfl (by decide) (fun h78 => ?_) (fun h78 => ?_)
            · exact absurd h78 (by decide)
            · refine wp_aload_n 82 d_Mo_dayStep_81 rfl rfl ?_
              refine wp_getfield 85 12 23 d_Mo_dayStep_82 rfl fl_Mo_269 rfl rfl ?_
              refine wp_bipush 87 30 d_Mo_dayStep_85 rfl (by decide) ?_
              refine wp_icmp_ne 97 90 d_Mo_dayStep_87 rfl (by decide) (fun h87 => ?_) (fun h87 => ?_)
              · have h30 : y.nS < 30 := by
                  rcases Nat.lt_or_ge y.nS 30 with z | z
                  · exact z
                  · exact absurd (show nI y.nS = 30 from by rw [show y.nS = 30 by omega]; rfl) h87
                refine wp_iload 99 d_Mo_dayStep_97 rfl rfl ?_
                refine wp_if_eq 117 102 d_Mo_dayStep_99 rfl (by decide) (fun h99 => ?_) (fun h99 => ?_)
                · exact absurd h99 (by decide)
                · refine wp_aload_n 103 d_Mo_dayStep_102 rfl rfl ?_
                  refine wp_getfield 106 12 22 d_Mo_dayStep_103 rfl fl_Mo_266 rfl rfl ?_
                  refine wp_iconst 107 3 d_Mo_dayStep_106 rfl (by decide) ?_
                  refine wp_icmp_ne 117 110 d_Mo_dayStep_107 rfl (by decide) (fun h107 => ?_) (fun h107 => ?_)
                  · have h3 : y.nD < 3 := by
                      rcases Nat.lt_or_ge y.nD 3 with z | z
                      · exact z
                      · exact absurd (show nI y.nD = 3 from by rw [show y.nD = 3 by omega]; rfl) h107
                    refine wp_aload_n 118 d_Mo_dayStep_117 rfl rfl ?_
                    refine wp_dup 119 d_Mo_dayStep_118 rfl rfl ?_
                    refine wp_getfield 122 12 23 d_Mo_dayStep_119 rfl fl_Mo_269 rfl rfl ?_
                    refine wp_iload_n 123 d_Mo_dayStep_122 rfl rfl ?_
                    refine wp_bipush 125 18 d_Mo_dayStep_123 rfl (by decide) ?_
                    refine wp_icmp_ne 132 128 d_Mo_dayStep_125 rfl (by decide) (fun h125 => ?_) (fun h125 => ?_)
                    · refine wp_iconst 133 1 d_Mo_dayStep_132 rfl (by decide) ?_
                      refine wp_iadd 134 d_Mo_dayStep_133 rfl ?_
                      rw [nI_1]
                      refine wp_putfield 137 12 23 _ d_Mo_dayStep_134 rfl fp_Mo_269 rfl rfl (okP_int _) ?_
                      refine hEq (hM m_at m_names m_status m_top m_bottom m_sort m_trayMany m_trays m_tape m_text m_taped ((nI L)) ((gtF m_text L s.a).1) ((nI (gtF m_text L s.a).2.1)) ((nI (gtF m_text L s.a).2.2.1)) ((gtF m_text L s.a).2.2.2) m_faultKind m_faultPlace m_faults m_seen m_areOdds m_opened ((nI y.nD)) ((nI (y.nS + 1))) m_eastBy m_northBy m_partBy m_wayFaults m_wayEast m_wayNorth m_olds m_wayMany m_oneOfSet m_twoOfSet m_farBy m_rowBy m_triedBy m_rowMany m_doneAt m_gotAt m_struckAt m_bestDeed m_misBy m_drawn m_ranSteps m_loops m_ran m_told1 m_isTold m_marks) rfl ?_
                      refine wp_aload_n 138 d_Mo_dayStep_137 rfl rfl ?_
                      refine wp_getfield 141 12 0 d_Mo_dayStep_138 rfl fl_Mo_7 rfl rfl ?_
                      refine wp_iload_n 142 d_Mo_dayStep_141 rfl rfl ?_
                      refine wp_iload_n 143 d_Mo_dayStep_142 rfl rfl ?_
                      refine wp_iastoreN 144 d_Mo_dayStep_143 rfl rfl rfl (by omega) ?_
                      refine hEq (hM ((upd m_at (1882 + 6 * y.nR) 17)) m_names m_status m_top m_bottom m_sort m_trayMany m_trays m_tape m_text m_taped ((nI L)) ((gtF m_text L s.a).1) ((nI (gtF m_text L s.a).2.1)) ((nI (gtF m_text L s.a).2.2.1)) ((gtF m_text L s.a).2.2.2) m_faultKind m_faultPlace m_faults m_seen m_areOdds m_opened ((nI y.nD)) ((nI (y.nS + 1))) m_eastBy m_northBy m_partBy m_wayFaults m_wayEast m_wayNorth m_olds m_wayMany m_oneOfSet m_twoOfSet m_farBy m_rowBy m_triedBy m_rowMany m_doneAt m_gotAt m_struckAt m_bestDeed m_misBy m_drawn m_ranSteps m_loops m_ran m_told1 m_isTold m_marks) rfl ?_
                      refine wp_iconst 145 1 d_Mo_dayStep_144 rfl (by decide) ?_
                      refine wp_istore_5 147 d_Mo_dayStep_145 rfl rfl rfl ?_
                      have hR60 : y.nR < 60 := by omega
                      refine l_ds_147 (m_at := (upd m_at (1882 + 6 * y.nR) 17)) (y := y) (p := (1882 + 6 * y.nR)) (c1 := 17) (c4 := 1) (by omega) (fun b b1 b2 => ?_) 5 1 (upd m_at (1882 + 6 * y.nR) 17) (by omega) (by omega) (fun j j1 j2 => absurd j1 (by omega)) (fun _ _ => rfl)
                      have b7 : b 1807 = nI y.nR := (b2 1807 (by omega)).trans ((upd_ne (by omega)).trans hw7)
                      have bp : b (1882 + 6 * y.nR) = 17 := (b2 _ (by omega)).trans upd_at
                      have bo : ∀ j, j < 1882 + 6 * y.nR → b j = m_at j := fun j hj => (b2 j (by omega)).trans (upd_ne (by omega))
                      have V2 : vT (upd b 1807 (nI (y.nR + 1))) t := vT_82 V (fun j hj => (upd_ne (by omega)).trans (bo j (by omega)))
                      have hz0 : ∀ j, 1 ≤ j → j < 6 → (upd b 1807 (nI (y.nR + 1))) ((1882 + 6 * y.nR) + j) = 0 := fun j j1 j2 => (upd_ne (by omega)).trans (b1 j j1 j2)
                      have hw0 : (upd b 1807 (nI (y.nR + 1))) (1882 + 6 * y.nR) = 17 := (upd_ne (by omega)).trans bp
                      have et : dTu K t s y = dNR K 6 1 99 (cNx K s) (dOp (dSp y)) := (dTu_st (by rw [hw]; decide) (by rw [hw]; decide) h30 (fun z => absurd z.2 (by omega))).trans (by rw [hw]; rfl)
                      have hlt : (dNR K 6 1 99 (cNx K s) (dOp (dSp y))).2.1.a < K.nT := by have := (dTu_ok (t := t) ok).1; rw [et] at this; exact this
                      refine wp_aload_n 171 d_Mo_dayStep_170 rfl rfl ?_
                      refine wp_getfield 174 12 0 d_Mo_dayStep_171 rfl fl_Mo_7 rfl rfl ?_
                      refine wp_sipush 177 1807 d_Mo_dayStep_174 rfl (by decide) ?_
                      refine wp_dup2 178 d_Mo_dayStep_177 rfl rfl rfl ?_
                      refine wp_iaload 179 d_Mo_dayStep_178 rfl rfl (vp_in_nI (n := 1807) (N := 2332) (by omega) (by omega)) ?_
                      rw [show b (1807 : Int32).toNatClampNeg = nI y.nR from b7]
                      refine wp_iconst 180 1 d_Mo_dayStep_179 rfl (by decide) ?_
                      refine wp_iadd 181 d_Mo_dayStep_180 rfl ?_
                      rw [nI_1]
                      refine wp_iastore 182 d_Mo_dayStep_181 rfl rfl (vp_in_nI (n := 1807) (N := 2332) (by omega) (by omega)) ?_
                      refine hEq (hM ((upd b 1807 (nI (y.nR + 1)))) m_names m_status m_top m_bottom m_sort m_trayMany m_trays m_tape m_text m_taped ((nI L)) ((gtF m_text L s.a).1) ((nI (gtF m_text L s.a).2.1)) ((nI (gtF m_text L s.a).2.2.1)) ((gtF m_text L s.a).2.2.2) m_faultKind m_faultPlace m_faults m_seen m_areOdds m_opened ((nI y.nD)) ((nI (y.nS + 1))) m_eastBy m_northBy m_partBy m_wayFaults m_wayEast m_wayNorth m_olds m_wayMany m_oneOfSet m_twoOfSet m_farBy m_rowBy m_triedBy m_rowMany m_doneAt m_gotAt m_struckAt m_bestDeed m_misBy m_drawn m_ranSteps m_loops m_ran m_told1 m_isTold m_marks) rfl ?_
                      refine wp_aload_n 183 d_Mo_dayStep_182 rfl rfl ?_
                      refine wp_V0 186 M_Mo_ahead 2 d_Mo_dayStep_183 rfl mv_Mo_ahead lk_Mo_187 rfl rfl rfl rfl rfl ?_
                      refine k_ahead (s := s) hL hb T ha (by rw [g2]; decide) ?_
                      refine kV ?_
                      refine wp_aload_n 187 d_Mo_dayStep_186 rfl rfl ?_
                      refine wp_iload_n 188 d_Mo_dayStep_187 rfl rfl ?_
                      refine wp_iload_n 189 d_Mo_dayStep_188 rfl rfl ?_
                      refine wp_V2 192 M_Mo_dayOrder 10 d_Mo_dayStep_189 rfl mv_Mo_dayOrder lk_Mo_272 rfl rfl rfl rfl rfl ?_
                      refine k_doLoop (s := cNx K s) (t := t) (y := (dOp (dSp y))) (p := (1882 + 6 * y.nR)) hL hb T (cNx_lt ha) hf V2 N (by omega) (by omega) hz0 hw0 (fun n1 a2 kk f z g1 g2_ g3 g4 => ?_) (fun n8 a2 z1 z2 z3 z4 g1 => ?_)
                      · refine kI ?_
                        refine wp_if_ne 197 195 d_Mo_dayStep_192 rfl (by decide) (fun h192 => ?_) (fun h192 => ?_)
                        · refine wp_iload 199 d_Mo_dayStep_197 rfl rfl ?_
                          refine wp_if_eq 222 202 d_Mo_dayStep_199 rfl (by decide) (fun h199 => ?_) (fun h199 => ?_)
                          · exact absurd h199 (by decide)
                          · refine wp_aload_n 203 d_Mo_dayStep_202 rfl rfl ?_
                            refine wp_getfield 206 12 21 d_Mo_dayStep_203 rfl fl_Mo_44 rfl rfl ?_
                            refine wp_aload_n 207 d_Mo_dayStep_206 rfl rfl ?_
                            refine wp_getfield 210 12 22 d_Mo_dayStep_207 rfl fl_Mo_266 rfl rfl ?_
                            refine wp_iload_n 211 d_Mo_dayStep_210 rfl rfl ?_
                            refine wp_iastoreN 212 d_Mo_dayStep_211 rfl rfl rfl (by omega) ?_
                            refine hEq (hM (a2) m_names m_status m_top m_bottom m_sort m_trayMany m_trays m_tape m_text m_taped ((nI L)) ((gtF m_text L (dNR K 6 1 99 (cNx K s) (dOp (dSp y))).2.1.a).1) ((nI (gtF m_text L (dNR K 6 1 99 (cNx K s) (dOp (dSp y))).2.1.a).2.1)) ((nI (gtF m_text L (dNR K 6 1 99 (cNx K s) (dOp (dSp y))).2.1.a).2.2.1)) ((gtF m_text L (dNR K 6 1 99 (cNx K s) (dOp (dSp y))).2.1.a).2.2.2) m_faultKind m_faultPlace m_faults m_seen m_areOdds ((upd m_opened y.nD (nI y.nR))) ((nI y.nD)) ((nI (y.nS + 1))) m_eastBy m_northBy m_partBy m_wayFaults m_wayEast m_wayNorth m_olds m_wayMany m_oneOfSet m_twoOfSet m_farBy m_rowBy m_triedBy m_rowMany m_doneAt m_gotAt m_struckAt m_bestDeed m_misBy m_drawn m_ranSteps m_loops m_ran m_told1 m_isTold m_marks) rfl ?_
                            refine wp_aload_n 213 d_Mo_dayStep_212 rfl rfl ?_
                            refine wp_dup 214 d_Mo_dayStep_213 rfl rfl ?_
                            refine wp_getfield 217 12 22 d_Mo_dayStep_214 rfl fl_Mo_266 rfl rfl ?_
                            refine wp_iconst 218 1 d_Mo_dayStep_217 rfl (by decide) ?_
                            refine wp_iadd 219 d_Mo_dayStep_218 rfl ?_
                            rw [nI_1]
                            refine wp_putfield 222 12 22 _ d_Mo_dayStep_219 rfl fp_Mo_266 rfl rfl (okP_int _) ?_
                            refine hEq (hM (a2) m_names m_status m_top m_bottom m_sort m_trayMany m_trays m_tape m_text m_taped ((nI L)) ((gtF m_text L (dNR K 6 1 99 (cNx K s) (dOp (dSp y))).2.1.a).1) ((nI (gtF m_text L (dNR K 6 1 99 (cNx K s) (dOp (dSp y))).2.1.a).2.1)) ((nI (gtF m_text L (dNR K 6 1 99 (cNx K s) (dOp (dSp y))).2.1.a).2.2.1)) ((gtF m_text L (dNR K 6 1 99 (cNx K s) (dOp (dSp y))).2.1.a).2.2.2) m_faultKind m_faultPlace m_faults m_seen m_areOdds ((upd m_opened y.nD (nI y.nR))) ((nI (y.nD + 1))) ((nI (y.nS + 1))) m_eastBy m_northBy m_partBy m_wayFaults m_wayEast m_wayNorth m_olds m_wayMany m_oneOfSet m_twoOfSet m_farBy m_rowBy m_triedBy m_rowMany m_doneAt m_gotAt m_struckAt m_bestDeed m_misBy m_drawn m_ranSteps m_loops m_ran m_told1 m_isTold m_marks) rfl ?_
                            refine wp_iload_n 223 d_Mo_dayStep_222 rfl rfl ?_
                            refine wp_bipush 225 18 d_Mo_dayStep_223 rfl (by decide) ?_
                            refine wp_icmp_ne 279 228 d_Mo_dayStep_225 rfl (by decide) (fun h225 => ?_) (fun h225 => ?_)
                            · refine wp_aload_n 280 d_Mo_dayStep_279 rfl rfl ?_
                              refine wp_bipush 282 59 d_Mo_dayStep_280 rfl (by decide) ?_
                              refine wp_V1 285 M_Mo_wantSign 3 d_Mo_dayStep_282 rfl mv_Mo_wantSign lk_Mo_240 rfl rfl rfl rfl rfl ?_
                              refine k_wantSign (s := (dNR K 6 1 99 (cNx K s) (dOp (dSp y))).2.1) (c := 59) hL hb T hlt hf (fun n5 => ?_) (fun n9 => ?_)
                              · refine kI ?_
                                refine wp_zreturn d_Mo_dayStep_285 rfl (by first | rfl | exact nbP _) ?_
                                have e := dUt_y et n1
                                obtain ⟨g5, g6⟩ := g4
                                rw [g6] at g2_ g3
                                rw [e, g2_] at hq1
                                exact hq1 n5 a2 (upd m_opened y.nD (nI y.nR)) (fun k9 hk9 => (g1 k9 (by omega)).trans ((upd_ne (by omega)).trans (bo k9 (by omega)))) ((g1 1807 (by omega)).trans upd_at) (RDr_add (y := (dOp (dSp y))) RR (fun j j1 j2 => (g1 j (by have j2 : j < 1882 + 6 * y.nR := j2; omega)).trans ((upd_ne (by omega)).trans (bo j j2))) g3) (WFP_open (y := dSp y) W hR60 g5) (fun i hi => by
                                  have hi2 : i < y.nD + 1 := hi
                                  show upd m_opened y.nD (nI y.nR) i = upd y.op y.nD (nI y.nR) i
                                  by_cases c : i = y.nD
                                  · rw [c, upd_at, upd_at]
                                  · rw [upd_ne c, upd_ne c]; exact O i (by omega))
                              · refine kI ?_
                                refine wp_zreturn d_Mo_dayStep_285 rfl (by first | rfl | exact nbP _) ?_
                                have e := dUt_y et n1
                                rw [e] at hq0
                                exact hq0 n9 a2 (upd m_opened y.nD (nI y.nR)) _ _ _ _ _ _ (fun k9 hk9 => (g1 k9 (by omega)).trans ((upd_ne (by omega)).trans (bo k9 (by omega))))
                            · exact absurd h225 (by decide)
                        · exact absurd h192 (by decide)
                      · refine kI ?_
                        refine wp_if_ne 197 195 d_Mo_dayStep_192 rfl (by decide) (fun h192 => ?_) (fun h192 => ?_)
                        · exact absurd rfl h192
                        · refine wp_iconst 196 0 d_Mo_dayStep_195 rfl (by decide) ?_
                          refine wp_zreturn d_Mo_dayStep_196 rfl (by first | rfl | exact nbP _) ?_
                          have e := dUt_f et n8
                          rw [e] at hq0
                          exact hq0 Bool.false_ne_true a2 m_opened _ _ _ _ _ _ (fun k9 hk9 => (g1 k9 (by omega)).trans ((upd_ne (by omega)).trans (bo k9 (by omega))))
                    · exact absurd h125 (by decide)
                  · refine wp_aload_n 111 d_Mo_dayStep_110 rfl rfl ?_
                    refine wp_bipush 113 7 d_Mo_dayStep_111 rfl (by decide) ?_
                    refine wp_V1 116 M_Mo_fails 1 d_Mo_dayStep_113 rfl mv_Mo_fails lk_Mo_193 rfl rfl rfl rfl rfl ?_
                    refine k_fails (s := s) (c := 7) hL hb T ha hf (by rw [g2]; decide) ?_
                    refine kI ?_
                    refine wp_zreturn d_Mo_dayStep_116 rfl (by first | rfl | exact nbP _) ?_
                    have h3 : 3 ≤ y.nD := by have := nI_ij (b := 3) h107 (by omega) (by omega); omega
                    have e := dUt_f (dTu_7 (K := K) (t := t) (s := s) (y := y) (by rw [hw]; decide) (by rw [hw]; decide) h30 ⟨by rw [hw]; decide, h3⟩) Bool.false_ne_true
                    rw [e] at hq0
                    exact hq0 Bool.false_ne_true m_at m_opened _ _ _ _ _ _ (fun _ _ => rfl)
              · refine wp_aload_n 91 d_Mo_dayStep_90 rfl rfl ?_
                refine wp_bipush 93 6 d_Mo_dayStep_91 rfl (by decide) ?_
                refine wp_V1 96 M_Mo_fails 1 d_Mo_dayStep_93 rfl mv_Mo_fails lk_Mo_193 rfl rfl rfl rfl rfl ?_
                refine k_fails (s := s) (c := 6) hL hb T ha hf (by rw [g2]; decide) ?_
                refine kI ?_
                refine wp_zreturn d_Mo_dayStep_96 rfl (by first | rfl | exact nbP _) ?_
                have h30 : ¬ y.nS < 30 := fun z => absurd (nI_ij (b := 30) h87 (by omega) (by omega)) (by omega)
                have e := dUt_f (dTu_6 (K := K) (t := t) (s := s) (y := y) (by rw [hw]; decide) (by rw [hw]; decide) h30) Bool.false_ne_true
                rw [e] at hq0
                exact hq0 Bool.false_ne_true m_at m_opened _ _ _ _ _ _ (fun _ _ => rfl)
          · exact absurd h59 (by decide)
set_option maxRecDepth 100000 in
set_option maxHeartbeats 4000000 in
theorem l_ds_19 (hL : L ≤ 900) (hb : ∀ k, k < L → b8 (m_text k)) (T : TKs co0_ m_text L K) (ha : s.a < K.nT) (hf : m_faults = 0) (hw : cWo K s = 23) (V : vT m_at t) (N : NS m_names 0 t) (ok : DOk K s y) (hw7 : m_at 1807 = nI y.nR) (RR : RDr t.nW m_at y) (W : WFP y) (O : ∀ i, i < y.nD → m_opened i = y.op i) (hq1 : (dUt K t s y).1 = true → ∀ (a2 op2 : Nat → Int32), frO a2 m_at → a2 1807 = nI (dUt K t s y).2.2.nR → RDr t.nW a2 (dUt K t s y).2.2 → WFP (dUt K t s y).2.2 → (∀ i, i < (dUt K t s y).2.2.nD → op2 i = (dUt K t s y).2.2.op i) → Q (some (.int 1)) (hM (a2) m_names m_status m_top m_bottom m_sort m_trayMany m_trays m_tape m_text m_taped ((nI L)) ((gtF m_text L (dUt K t s y).2.1.a).1) ((nI (gtF m_text L (dUt K t s y).2.1.a).2.1)) ((nI (gtF m_text L (dUt K t s y).2.1.a).2.2.1)) ((gtF m_text L (dUt K t s y).2.1.a).2.2.2) m_faultKind m_faultPlace m_faults m_seen m_areOdds (op2) ((nI (dUt K t s y).2.2.nD)) ((nI (dUt K t s y).2.2.nS)) m_eastBy m_northBy m_partBy m_wayFaults m_wayEast m_wayNorth m_olds m_wayMany m_oneOfSet m_twoOfSet m_farBy m_rowBy m_triedBy m_rowMany m_doneAt m_gotAt m_struckAt m_bestDeed m_misBy m_drawn m_ranSteps m_loops m_ran m_told1 m_isTold m_marks)) (hq0 : ¬ (dUt K t s y).1 = true → ∀ (a2 op2 : Nat → Int32) (z1 z2 z3 z4 z5 z6 : Int32), frO a2 m_at → Q (some (.int 0)) (hM (a2) m_names m_status m_top m_bottom m_sort m_trayMany m_trays m_tape m_text m_taped ((nI L)) (z1) (z2) (z3) (z4) m_faultKind (((dUt K t s y).2.1).fp) (((dUt K t s y).2.1).fk) m_seen m_areOdds (op2) (z5) (z6) m_eastBy m_northBy m_partBy m_wayFaults m_wayEast m_wayNorth m_olds m_wayMany m_oneOfSet m_twoOfSet m_farBy m_rowBy m_triedBy m_rowMany m_doneAt m_gotAt m_struckAt m_bestDeed m_misBy m_drawn m_ranSteps m_loops m_ran m_told1 m_isTold m_marks)) : WP Γ M_Mo_dayStep 11 0 0 (hM m_at m_names m_status m_top m_bottom m_sort m_trayMany m_trays m_tape m_text m_taped ((nI L)) ((gtF m_text L s.a).1) ((nI (gtF m_text L s.a).2.1)) ((nI (gtF m_text L s.a).2.2.1)) ((gtF m_text L s.a).2.2.2) m_faultKind m_faultPlace m_faults m_seen m_areOdds m_opened ((nI y.nD)) ((nI y.nS)) m_eastBy m_northBy m_partBy m_wayFaults m_wayEast m_wayNorth m_olds m_wayMany m_oneOfSet m_twoOfSet m_farBy m_rowBy m_triedBy m_rowMany m_doneAt m_gotAt m_struckAt m_bestDeed m_misBy m_drawn m_ranSteps m_loops m_ran m_told1 m_isTold m_marks) 7 [some (.ref 0), some (.int 19), none, none, none, none] [] Q := by
  have A := ATk_of (s := s) hb T ha
  have g2 := ak_w2 (w := 23) A (by omega) hw
  have hS30 := ok.2.2.1
  have hD3 := ok.2.2.2.1
  have hRR := ok.2.1
  refine wp_aload_n 8 d_Mo_dayStep_7 rfl rfl ?_
  refine wp_getfield 11 12 0 d_Mo_dayStep_8 rfl fl_Mo_7 rfl rfl ?_
  refine wp_sipush 14 1807 d_Mo_dayStep_11 rfl (by decide) ?_
  refine wp_iaload 15 d_Mo_dayStep_14 rfl rfl (vp_in_nI (n := 1807) (N := 2332) (by omega) (by omega)) ?_
  rw [show m_at (1807 : Int32).toNatClampNeg = nI y.nR from hw7]
  refine wp_istore_2 16 d_Mo_dayStep_15 rfl rfl rfl ?_
  refine wp_sipush 19 1882 d_Mo_dayStep_16 rfl (by decide) ?_
  refine wp_bipush 21 6 d_Mo_dayStep_19 rfl (by decide) ?_
  refine wp_iload_n 22 d_Mo_dayStep_21 rfl rfl ?_
  refine wp_imul 23 d_Mo_dayStep_22 rfl ?_
  refine wp_iadd 24 d_Mo_dayStep_23 rfl ?_
  rw [show (1882 : Int32) + 6 * nI y.nR = nI (1882 + 6 * y.nR) from by rw [show (6 : Int32) * nI y.nR = nI (6 * y.nR) from mulK 6 y.nR]; exact nI_add 1882 _]
  refine wp_istore_3 25 d_Mo_dayStep_24 rfl rfl rfl ?_
  refine wp_iload_n 26 d_Mo_dayStep_25 rfl rfl ?_
  refine wp_bipush 28 16 d_Mo_dayStep_26 rfl (by decide) ?_
  refine wp_icmp_eq 37 31 d_Mo_dayStep_28 rfl (by decide) (fun h28 => ?_) (fun h28 => ?_)
  · exact absurd h28 (by decide)
  · refine wp_iload_n 32 d_Mo_dayStep_31 rfl rfl ?_
    refine wp_bipush 34 17 d_Mo_dayStep_32 rfl (by decide) ?_
    refine wp_icmp_ne 41 37 d_Mo_dayStep_34 rfl (by decide) (fun h34 => ?_) (fun h34 => ?_)
    · refine wp_iconst 42 0 d_Mo_dayStep_41 rfl (by decide) ?_
      refine wp_istore_4 44 d_Mo_dayStep_42 rfl rfl rfl ?_
      refine wp_iload_n 45 d_Mo_dayStep_44 rfl rfl ?_
      refine wp_bipush 47 11 d_Mo_dayStep_45 rfl (by decide) ?_
      refine wp_icmp_lt 69 50 d_Mo_dayStep_47 rfl (by decide) (fun h47 => ?_) (fun h47 => ?_)
      · exact absurd h47 (by decide)
      · refine wp_iload_n 51 d_Mo_dayStep_50 rfl rfl ?_
        refine wp_bipush 53 19 d_Mo_dayStep_51 rfl (by decide) ?_
        refine wp_icmp_gt 69 56 d_Mo_dayStep_53 rfl (by decide) (fun h53 => ?_) (fun h53 => ?_)
        · exact absurd h53 (by decide)
        · refine wp_iload_n 57 d_Mo_dayStep_56 rfl rfl ?_
          refine wp_bipush 59 18 d_Mo_dayStep_57 rfl (by decide) ?_
          refine wp_icmp_ne 75 62 d_Mo_dayStep_59 rfl (by decide) (fun h59 => ?_) (fun h59 => ?_)
          · refine wp_iload_n 76 d_Mo_dayStep_75 rfl rfl ?_
            refine wp_bipush 78 18 d_Mo_dayStep_76 rfl (by decide) ?_
            refine wp_icmp_eq 97 81 d_Mo_dayStep_78 rfl (by decide) (fun h78 => ?_) (fun h78 => ?_)
            · exact absurd h78 (by decide)
            · refine wp_aload_n 82 d_Mo_dayStep_81 rfl rfl ?_
              refine wp_getfield 85 12 23 d_Mo_dayStep_82 rfl fl_Mo_269 rfl rfl ?_
              refine wp_bipush 87 30 d_Mo_dayStep_85 rfl (by decide) ?_
              refine wp_icmp_ne 97 90 d_Mo_dayStep_87 rfl (by decide) (fun h87 => ?_) (fun h87 => ?_)
              · have h30 : y.nS < 30 := by
                  rcases Nat.lt_or_ge y.nS 30 with z | z
                  · exact z
                  · exact absurd (show nI y.nS = 30 from by rw [show y.nS = 30 by omega]; rfl) h87
                refine wp_iload 99 d_Mo_dayStep_97 rfl rfl ?_
                refine wp_if_eq 117 102 d_Mo_dayStep_99 rfl (by decide) (fun h99 => ?_) (fun h99 => ?_)
                · refine wp_aload_n 118 d_Mo_dayStep_117 rfl rfl ?_
                  refine wp_dup 119 d_Mo_dayStep_118 rfl rfl ?_
                  refine wp_getfield 122 12 23 d_Mo_dayStep_119 rfl fl_Mo_269 rfl rfl ?_
                  refine wp_iload_n 123 d_Mo_dayStep_122 rfl rfl ?_
                  refine wp_bipush 125 18 d_Mo_dayStep_123 rfl (by decide) ?_
                  refine wp_icmp_ne 132 128 d_Mo_dayStep_125 rfl (by decide) (fun h125 => ?_) (fun h125 => ?_)
                  · refine wp_iconst 133 1 d_Mo_dayStep_132 rfl (by decide) ?_
                    refine wp_iadd 134 d_Mo_dayStep_133 rfl ?_
                    rw [nI_1]
                    refine wp_putfield 137 12 23 _ d_Mo_dayStep_134 rfl fp_Mo_269 rfl rfl (okP_int _) ?_
                    refine hEq (hM m_at m_names m_status m_top m_bottom m_sort m_trayMany m_trays m_tape m_text m_taped ((nI L)) ((gtF m_text L s.a).1) ((nI (gtF m_text L s.a).2.1)) ((nI (gtF m_text L s.a).2.2.1)) ((gtF m_text L s.a).2.2.2) m_faultKind m_faultPlace m_faults m_seen m_areOdds m_opened ((nI y.nD)) ((nI (y.nS + 1))) m_eastBy m_northBy m_partBy m_wayFaults m_wayEast m_wayNorth m_olds m_wayMany m_oneOfSet m_twoOfSet m_farBy m_rowBy m_triedBy m_rowMany m_doneAt m_gotAt m_struckAt m_bestDeed m_misBy m_drawn m_ranSteps m_loops m_ran m_told1 m_isTold m_marks) rfl ?_
                    refine wp_aload_n 138 d_Mo_dayStep_137 rfl rfl ?_
                    refine wp_getfield 141 12 0 d_Mo_dayStep_138 rfl fl_Mo_7 rfl rfl ?_
                    refine wp_iload_n 142 d_Mo_dayStep_141 rfl rfl ?_
                    refine wp_iload_n 143 d_Mo_dayStep_142 rfl rfl ?_
                    refine wp_iastoreN 144 d_Mo_dayStep_143 rfl rfl rfl (by omega) ?_
                    refine hEq (hM ((upd m_at (1882 + 6 * y.nR) 19)) m_names m_status m_top m_bottom m_sort m_trayMany m_trays m_tape m_text m_taped ((nI L)) ((gtF m_text L s.a).1) ((nI (gtF m_text L s.a).2.1)) ((nI (gtF m_text L s.a).2.2.1)) ((gtF m_text L s.a).2.2.2) m_faultKind m_faultPlace m_faults m_seen m_areOdds m_opened ((nI y.nD)) ((nI (y.nS + 1))) m_eastBy m_northBy m_partBy m_wayFaults m_wayEast m_wayNorth m_olds m_wayMany m_oneOfSet m_twoOfSet m_farBy m_rowBy m_triedBy m_rowMany m_doneAt m_gotAt m_struckAt m_bestDeed m_misBy m_drawn m_ranSteps m_loops m_ran m_told1 m_isTold m_marks) rfl ?_
                    refine wp_iconst 145 1 d_Mo_dayStep_144 rfl (by decide) ?_
                    refine wp_istore_5 147 d_Mo_dayStep_145 rfl rfl rfl ?_
                    have hR60 : y.nR < 60 := by omega
                    refine l_ds_147 (m_at := (upd m_at (1882 + 6 * y.nR) 19)) (y := y) (p := (1882 + 6 * y.nR)) (c1 := 19) (c4 := 0) (by omega) (fun b b1 b2 => ?_) 5 1 (upd m_at (1882 + 6 * y.nR) 19) (by omega) (by omega) (fun j j1 j2 => absurd j1 (by omega)) (fun _ _ => rfl)
                    have b7 : b 1807 = nI y.nR := (b2 1807 (by omega)).trans ((upd_ne (by omega)).trans hw7)
                    have bp : b (1882 + 6 * y.nR) = 19 := (b2 _ (by omega)).trans upd_at
                    have bo : ∀ j, j < 1882 + 6 * y.nR → b j = m_at j := fun j hj => (b2 j (by omega)).trans (upd_ne (by omega))
                    have V2 : vT (upd b 1807 (nI (y.nR + 1))) t := vT_82 V (fun j hj => (upd_ne (by omega)).trans (bo j (by omega)))
                    have hz0 : ∀ j, 1 ≤ j → j < 6 → (upd b 1807 (nI (y.nR + 1))) ((1882 + 6 * y.nR) + j) = 0 := fun j j1 j2 => (upd_ne (by omega)).trans (b1 j j1 j2)
                    have hw0 : (upd b 1807 (nI (y.nR + 1))) (1882 + 6 * y.nR) = 19 := (upd_ne (by omega)).trans bp
                    have et : dTu K t s y = ((true, (cNx K s), dAdd (dSp y) 5 0 0) : Bool × CS × DY) := (dTu_st (by rw [hw]; decide) (by rw [hw]; decide) h30 (by rw [hw]; exact fun z => absurd z.1 (by decide))).trans (by rw [hw]; rfl)
                    have hlt : (((true, (cNx K s), dAdd (dSp y) 5 0 0) : Bool × CS × DY)).2.1.a < K.nT := by have := (dTu_ok (t := t) ok).1; rw [et] at this; exact this
                    refine wp_aload_n 171 d_Mo_dayStep_170 rfl rfl ?_
                    refine wp_getfield 174 12 0 d_Mo_dayStep_171 rfl fl_Mo_7 rfl rfl ?_
                    refine wp_sipush 177 1807 d_Mo_dayStep_174 rfl (by decide) ?_
                    refine wp_dup2 178 d_Mo_dayStep_177 rfl rfl rfl ?_
                    refine wp_iaload 179 d_Mo_dayStep_178 rfl rfl (vp_in_nI (n := 1807) (N := 2332) (by omega) (by omega)) ?_
                    rw [show b (1807 : Int32).toNatClampNeg = nI y.nR from b7]
                    refine wp_iconst 180 1 d_Mo_dayStep_179 rfl (by decide) ?_
                    refine wp_iadd 181 d_Mo_dayStep_180 rfl ?_
                    rw [nI_1]
                    refine wp_iastore 182 d_Mo_dayStep_181 rfl rfl (vp_in_nI (n := 1807) (N := 2332) (by omega) (by omega)) ?_
                    refine hEq (hM ((upd b 1807 (nI (y.nR + 1)))) m_names m_status m_top m_bottom m_sort m_trayMany m_trays m_tape m_text m_taped ((nI L)) ((gtF m_text L s.a).1) ((nI (gtF m_text L s.a).2.1)) ((nI (gtF m_text L s.a).2.2.1)) ((gtF m_text L s.a).2.2.2) m_faultKind m_faultPlace m_faults m_seen m_areOdds m_opened ((nI y.nD)) ((nI (y.nS + 1))) m_eastBy m_northBy m_partBy m_wayFaults m_wayEast m_wayNorth m_olds m_wayMany m_oneOfSet m_twoOfSet m_farBy m_rowBy m_triedBy m_rowMany m_doneAt m_gotAt m_struckAt m_bestDeed m_misBy m_drawn m_ranSteps m_loops m_ran m_told1 m_isTold m_marks) rfl ?_
                    refine wp_aload_n 183 d_Mo_dayStep_182 rfl rfl ?_
                    refine wp_V0 186 M_Mo_ahead 2 d_Mo_dayStep_183 rfl mv_Mo_ahead lk_Mo_187 rfl rfl rfl rfl rfl ?_
                    refine k_ahead (s := s) hL hb T ha (by rw [g2]; decide) ?_
                    refine kV ?_
                    refine wp_aload_n 187 d_Mo_dayStep_186 rfl rfl ?_
                    refine wp_iload_n 188 d_Mo_dayStep_187 rfl rfl ?_
                    refine wp_iload_n 189 d_Mo_dayStep_188 rfl rfl ?_
                    refine wp_V2 192 M_Mo_dayOrder 10 d_Mo_dayStep_189 rfl mv_Mo_dayOrder lk_Mo_272 rfl rfl rfl rfl rfl ?_
                    refine k_doStop (s := cNx K s) (t := t) (y := (dSp y)) (p := (1882 + 6 * y.nR)) hL hb T (cNx_lt ha) hf V2 N (by omega) (by omega) hz0 hw0 (fun n1 a2 kk f z g1 g2_ g3 g4 => ?_) (fun n8 a2 z1 z2 z3 z4 g1 => ?_)
                    · refine kI ?_
                      refine wp_if_ne 197 195 d_Mo_dayStep_192 rfl (by decide) (fun h192 => ?_) (fun h192 => ?_)
                      · refine wp_iload 199 d_Mo_dayStep_197 rfl rfl ?_
                        refine wp_if_eq 222 202 d_Mo_dayStep_199 rfl (by decide) (fun h199 => ?_) (fun h199 => ?_)
                        · refine wp_iload_n 223 d_Mo_dayStep_222 rfl rfl ?_
                          refine wp_bipush 225 18 d_Mo_dayStep_223 rfl (by decide) ?_
                          refine wp_icmp_ne 279 228 d_Mo_dayStep_225 rfl (by decide) (fun h225 => ?_) (fun h225 => ?_)
                          · refine wp_aload_n 280 d_Mo_dayStep_279 rfl rfl ?_
                            refine wp_bipush 282 59 d_Mo_dayStep_280 rfl (by decide) ?_
                            refine wp_V1 285 M_Mo_wantSign 3 d_Mo_dayStep_282 rfl mv_Mo_wantSign lk_Mo_240 rfl rfl rfl rfl rfl ?_
                            refine k_wantSign (s := (((true, (cNx K s), dAdd (dSp y) 5 0 0) : Bool × CS × DY)).2.1) (c := 59) hL hb T hlt hf (fun n5 => ?_) (fun n9 => ?_)
                            · refine kI ?_
                              refine wp_zreturn d_Mo_dayStep_285 rfl (by first | rfl | exact nbP _) ?_
                              have e := dUt_y et n1
                              rw [e, g2_] at hq1
                              exact hq1 n5 a2 m_opened (fun k9 hk9 => (g1 k9 (by omega)).trans ((upd_ne (by omega)).trans (bo k9 (by omega)))) ((g1 1807 (by omega)).trans upd_at) (RDr_add (y := (dSp y)) RR (fun j j1 j2 => (g1 j (by have j2 : j < 1882 + 6 * y.nR := j2; omega)).trans ((upd_ne (by omega)).trans (bo j j2))) g3) (WFP_add (y := dSp y) W hR60 g4.1 g4.2.1) O
                            · refine kI ?_
                              refine wp_zreturn d_Mo_dayStep_285 rfl (by first | rfl | exact nbP _) ?_
                              have e := dUt_y et n1
                              rw [e] at hq0
                              exact hq0 n9 a2 m_opened _ _ _ _ _ _ (fun k9 hk9 => (g1 k9 (by omega)).trans ((upd_ne (by omega)).trans (bo k9 (by omega))))
                          · exact absurd h225 (by decide)
                        · exact absurd h199 (by decide)
                      · exact absurd h192 (by decide)
                    · refine kI ?_
                      refine wp_if_ne 197 195 d_Mo_dayStep_192 rfl (by decide) (fun h192 => ?_) (fun h192 => ?_)
                      · exact absurd rfl h192
                      · refine wp_iconst 196 0 d_Mo_dayStep_195 rfl (by decide) ?_
                        refine wp_zreturn d_Mo_dayStep_196 rfl (by first | rfl | exact nbP _) ?_
                        have e := dUt_f et n8
                        rw [e] at hq0
                        exact hq0 Bool.false_ne_true a2 m_opened _ _ _ _ _ _ (fun k9 hk9 => (g1 k9 (by omega)).trans ((upd_ne (by omega)).trans (bo k9 (by omega))))
                  · exact absurd h125 (by decide)
                · exact absurd h99 (by decide)
              · refine wp_aload_n 91 d_Mo_dayStep_90 rfl rfl ?_
                refine wp_bipush 93 6 d_Mo_dayStep_91 rfl (by decide) ?_
                refine wp_V1 96 M_Mo_fails 1 d_Mo_dayStep_93 rfl mv_Mo_fails lk_Mo_193 rfl rfl rfl rfl rfl ?_
                refine k_fails (s := s) (c := 6) hL hb T ha hf (by rw [g2]; decide) ?_
                refine kI ?_
                refine wp_zreturn d_Mo_dayStep_96 rfl (by first | rfl | exact nbP _) ?_
                have h30 : ¬ y.nS < 30 := fun z => absurd (nI_ij (b := 30) h87 (by omega) (by omega)) (by omega)
                have e := dUt_f (dTu_6 (K := K) (t := t) (s := s) (y := y) (by rw [hw]; decide) (by rw [hw]; decide) h30) Bool.false_ne_true
                rw [e] at hq0
                exact hq0 Bool.false_ne_true m_at m_opened _ _ _ _ _ _ (fun _ _ => rfl)
          · exact absurd h59 (by decide)
    · exact absurd h34 (by decide)
set_option maxRecDepth 100000 in
set_option maxHeartbeats 4000000 in
theorem l_ds_18 (hL : L ≤ 900) (hb : ∀ k, k < L → b8 (m_text k)) (T : TKs co0_ m_text L K) (ha : s.a < K.nT) (hf : m_faults = 0) (hw : cWo K s = 22) (V : vT m_at t) (N : NS m_names 0 t) (ok : DOk K s y) (hw7 : m_at 1807 = nI y.nR) (RR : RDr t.nW m_at y) (W : WFP y) (O : ∀ i, i < y.nD → m_opened i = y.op i) (hq1 : (dUt K t s y).1 = true → ∀ (a2 op2 : Nat → Int32), frO a2 m_at → a2 1807 = nI (dUt K t s y).2.2.nR → RDr t.nW a2 (dUt K t s y).2.2 → WFP (dUt K t s y).2.2 → (∀ i, i < (dUt K t s y).2.2.nD → op2 i = (dUt K t s y).2.2.op i) → Q (some (.int 1)) (hM (a2) m_names m_status m_top m_bottom m_sort m_trayMany m_trays m_tape m_text m_taped ((nI L)) ((gtF m_text L (dUt K t s y).2.1.a).1) ((nI (gtF m_text L (dUt K t s y).2.1.a).2.1)) ((nI (gtF m_text L (dUt K t s y).2.1.a).2.2.1)) ((gtF m_text L (dUt K t s y).2.1.a).2.2.2) m_faultKind m_faultPlace m_faults m_seen m_areOdds (op2) ((nI (dUt K t s y).2.2.nD)) ((nI (dUt K t s y).2.2.nS)) m_eastBy m_northBy m_partBy m_wayFaults m_wayEast m_wayNorth m_olds m_wayMany m_oneOfSet m_twoOfSet m_farBy m_rowBy m_triedBy m_rowMany m_doneAt m_gotAt m_struckAt m_bestDeed m_misBy m_drawn m_ranSteps m_loops m_ran m_told1 m_isTold m_marks)) (hq0 : ¬ (dUt K t s y).1 = true → ∀ (a2 op2 : Nat → Int32) (z1 z2 z3 z4 z5 z6 : Int32), frO a2 m_at → Q (some (.int 0)) (hM (a2) m_names m_status m_top m_bottom m_sort m_trayMany m_trays m_tape m_text m_taped ((nI L)) (z1) (z2) (z3) (z4) m_faultKind (((dUt K t s y).2.1).fp) (((dUt K t s y).2.1).fk) m_seen m_areOdds (op2) (z5) (z6) m_eastBy m_northBy m_partBy m_wayFaults m_wayEast m_wayNorth m_olds m_wayMany m_oneOfSet m_twoOfSet m_farBy m_rowBy m_triedBy m_rowMany m_doneAt m_gotAt m_struckAt m_bestDeed m_misBy m_drawn m_ranSteps m_loops m_ran m_told1 m_isTold m_marks)) : WP Γ M_Mo_dayStep 11 0 0 (hM m_at m_names m_status m_top m_bottom m_sort m_trayMany m_trays m_tape m_text m_taped ((nI L)) ((gtF m_text L s.a).1) ((nI (gtF m_text L s.a).2.1)) ((nI (gtF m_text L s.a).2.2.1)) ((gtF m_text L s.a).2.2.2) m_faultKind m_faultPlace m_faults m_seen m_areOdds m_opened ((nI y.nD)) ((nI y.nS)) m_eastBy m_northBy m_partBy m_wayFaults m_wayEast m_wayNorth m_olds m_wayMany m_oneOfSet m_twoOfSet m_farBy m_rowBy m_triedBy m_rowMany m_doneAt m_gotAt m_struckAt m_bestDeed m_misBy m_drawn m_ranSteps m_loops m_ran m_told1 m_isTold m_marks) 7 [some (.ref 0), some (.int 18), none, none, none, none] [] Q := by
  have A := ATk_of (s := s) hb T ha
  have g2 := ak_w2 (w := 22) A (by omega) hw
  have hS30 := ok.2.2.1
  have hD3 := ok.2.2.2.1
  have hRR := ok.2.1
  refine wp_aload_n 8 d_Mo_dayStep_7 rfl rfl ?_
  refine wp_getfield 11 12 0 d_Mo_dayStep_8 rfl fl_Mo_7 rfl rfl ?_
  refine wp_sipush 14 1807 d_Mo_dayStep_11 rfl (by decide) ?_
  refine wp_iaload 15 d_Mo_dayStep_14 rfl rfl (vp_in_nI (n := 1807) (N := 2332) (by omega) (by omega)) ?_
  rw [show m_at (1807 : Int32).toNatClampNeg = nI y.nR from hw7]
  refine wp_istore_2 16 d_Mo_dayStep_15 rfl rfl rfl ?_
  refine wp_sipush 19 1882 d_Mo_dayStep_16 rfl (by decide) ?_
  refine wp_bipush 21 6 d_Mo_dayStep_19 rfl (by decide) ?_
  refine wp_iload_n 22 d_Mo_dayStep_21 rfl rfl ?_
  refine wp_imul 23 d_Mo_dayStep_22 rfl ?_
  refine wp_iadd 24 d_Mo_dayStep_23 rfl ?_
  rw [show (1882 : Int32) + 6 * nI y.nR = nI (1882 + 6 * y.nR) from by rw [show (6 : Int32) * nI y.nR = nI (6 * y.nR) from mulK 6 y.nR]; exact nI_add 1882 _]
  refine wp_istore_3 25 d_Mo_dayStep_24 rfl rfl rfl ?_
  refine wp_iload_n 26 d_Mo_dayStep_25 rfl rfl ?_
  refine wp_bipush 28 16 d_Mo_dayStep_26 rfl (by decide) ?_
  refine wp_icmp_eq 37 31 d_Mo_dayStep_28 rfl (by decide) (fun h28 => ?_) (fun h28 => ?_)
  · exact absurd h28 (by decide)
  · refine wp_iload_n 32 d_Mo_dayStep_31 rfl rfl ?_
    refine wp_bipush 34 17 d_Mo_dayStep_32 rfl (by decide) ?_
    refine wp_icmp_ne 41 37 d_Mo_dayStep_34 rfl (by decide) (fun h34 => ?_) (fun h34 => ?_)
    · refine wp_iconst 42 0 d_Mo_dayStep_41 rfl (by decide) ?_
      refine wp_istore_4 44 d_Mo_dayStep_42 rfl rfl rfl ?_
      refine wp_iload_n 45 d_Mo_dayStep_44 rfl rfl ?_
      refine wp_bipush 47 11 d_Mo_dayStep_45 rfl (by decide) ?_
      refine wp_icmp_lt 69 50 d_Mo_dayStep_47 rfl (by decide) (fun h47 => ?_) (fun h47 => ?_)
      · exact absurd h47 (by decide)
      · refine wp_iload_n 51 d_Mo_dayStep_50 rfl rfl ?_
        refine wp_bipush 53 19 d_Mo_dayStep_51 rfl (by decide) ?_
        refine wp_icmp_gt 69 56 d_Mo_dayStep_53 rfl (by decide) (fun h53 => ?_) (fun h53 => ?_)
        · exact absurd h53 (by decide)
        · refine wp_iload_n 57 d_Mo_dayStep_56 rfl rfl ?_
          refine wp_bipush 59 18 d_Mo_dayStep_57 rfl (by decide) ?_
          refine wp_icmp_ne 75 62 d_Mo_dayStep_59 rfl (by decide) (fun h59 => ?_) (fun h59 => ?_)
          · exact absurd h59 (by decide)
          · refine wp_aload_n 63 d_Mo_dayStep_62 rfl rfl ?_
            refine wp_getfield 66 12 22 d_Mo_dayStep_63 rfl fl_Mo_266 rfl rfl ?_
            refine wp_if_ne 75 69 d_Mo_dayStep_66 rfl (by decide) (fun h66 => ?_) (fun h66 => ?_)
            · have h0 : 0 < y.nD := Nat.pos_of_ne_zero (fun z => h66 (by rw [z]; rfl))
              refine wp_iload_n 76 d_Mo_dayStep_75 rfl rfl ?_
              refine wp_bipush 78 18 d_Mo_dayStep_76 rfl (by decide) ?_
              refine wp_icmp_eq 97 81 d_Mo_dayStep_78 rfl (by decide) (fun h78 => ?_) (fun h78 => ?_)
              · refine wp_iload 99 d_Mo_dayStep_97 rfl rfl ?_
                refine wp_if_eq 117 102 d_Mo_dayStep_99 rfl (by decide) (fun h99 => ?_) (fun h99 => ?_)
                · refine wp_aload_n 118 d_Mo_dayStep_117 rfl rfl ?_
                  refine wp_dup 119 d_Mo_dayStep_118 rfl rfl ?_
                  refine wp_getfield 122 12 23 d_Mo_dayStep_119 rfl fl_Mo_269 rfl rfl ?_
                  refine wp_iload_n 123 d_Mo_dayStep_122 rfl rfl ?_
                  refine wp_bipush 125 18 d_Mo_dayStep_123 rfl (by decide) ?_
                  refine wp_icmp_ne 132 128 d_Mo_dayStep_125 rfl (by decide) (fun h125 => ?_) (fun h125 => ?_)
                  · exact absurd h125 (by decide)
                  · refine wp_iconst 129 0 d_Mo_dayStep_128 rfl (by decide) ?_
                    refine wp_goto 133 d_Mo_dayStep_129 (by decide) ?_
                    refine wp_iadd 134 d_Mo_dayStep_133 rfl ?_
                    rw [add_0]
                    refine wp_putfield 137 12 23 _ d_Mo_dayStep_134 rfl fp_Mo_269 rfl rfl (okP_int _) ?_
                    refine hEq (hM m_at m_names m_status m_top m_bottom m_sort m_trayMany m_trays m_tape m_text m_taped ((nI L)) ((gtF m_text L s.a).1) ((nI (gtF m_text L s.a).2.1)) ((nI (gtF m_text L s.a).2.2.1)) ((gtF m_text L s.a).2.2.2) m_faultKind m_faultPlace m_faults m_seen m_areOdds m_opened ((nI y.nD)) ((nI y.nS)) m_eastBy m_northBy m_partBy m_wayFaults m_wayEast m_wayNorth m_olds m_wayMany m_oneOfSet m_twoOfSet m_farBy m_rowBy m_triedBy m_rowMany m_doneAt m_gotAt m_struckAt m_bestDeed m_misBy m_drawn m_ranSteps m_loops m_ran m_told1 m_isTold m_marks) rfl ?_
                    refine wp_aload_n 138 d_Mo_dayStep_137 rfl rfl ?_
                    refine wp_getfield 141 12 0 d_Mo_dayStep_138 rfl fl_Mo_7 rfl rfl ?_
                    refine wp_iload_n 142 d_Mo_dayStep_141 rfl rfl ?_
                    refine wp_iload_n 143 d_Mo_dayStep_142 rfl rfl ?_
                    refine wp_iastoreN 144 d_Mo_dayStep_143 rfl rfl rfl (by omega) ?_
                    refine hEq (hM ((upd m_at (1882 + 6 * y.nR) 18)) m_names m_status m_top m_bottom m_sort m_trayMany m_trays m_tape m_text m_taped ((nI L)) ((gtF m_text L s.a).1) ((nI (gtF m_text L s.a).2.1)) ((nI (gtF m_text L s.a).2.2.1)) ((gtF m_text L s.a).2.2.2) m_faultKind m_faultPlace m_faults m_seen m_areOdds m_opened ((nI y.nD)) ((nI y.nS)) m_eastBy m_northBy m_partBy m_wayFaults m_wayEast m_wayNorth m_olds m_wayMany m_oneOfSet m_twoOfSet m_farBy m_rowBy m_triedBy m_rowMany m_doneAt m_gotAt m_struckAt m_bestDeed m_misBy m_drawn m_ranSteps m_loops m_ran m_told1 m_isTold m_marks) rfl ?_
                    refine wp_iconst 145 1 d_Mo_dayStep_144 rfl (by decide) ?_
                    refine wp_istore_5 147 d_Mo_dayStep_145 rfl rfl rfl ?_
                    have hR60 : y.nR < 60 := by omega
                    refine l_ds_147 (m_at := (upd m_at (1882 + 6 * y.nR) 18)) (y := y) (p := (1882 + 6 * y.nR)) (c1 := 18) (c4 := 0) (by omega) (fun b b1 b2 => ?_) 5 1 (upd m_at (1882 + 6 * y.nR) 18) (by omega) (by omega) (fun j j1 j2 => absurd j1 (by omega)) (fun _ _ => rfl)
                    have b7 : b 1807 = nI y.nR := (b2 1807 (by omega)).trans ((upd_ne (by omega)).trans hw7)
                    have bp : b (1882 + 6 * y.nR) = 18 := (b2 _ (by omega)).trans upd_at
                    have bo : ∀ j, j < 1882 + 6 * y.nR → b j = m_at j := fun j hj => (b2 j (by omega)).trans (upd_ne (by omega))
                    obtain ⟨t1, t2, t3, t4⟩ := W.1 (y.nD - 1) (by omega)
                    have WE := WFP_end W hR60 h0
                    have et := dTu_e (K := K) (t := t) hw h0
                    have eob : (y.op (y.nD - 1)).toNatClampNeg = ob y (y.nD - 1) := rfl
                    have O1 : m_opened (y.nD - 1) = y.op (y.nD - 1) := O _ (by omega)
                    generalize ob y (y.nD - 1) = o9 at t1 t2 t3 t4 eob
                    rw [t1] at O1
                    refine wp_aload_n 171 d_Mo_dayStep_170 rfl rfl ?_
                    refine wp_getfield 174 12 0 d_Mo_dayStep_171 rfl fl_Mo_7 rfl rfl ?_
                    refine wp_sipush 177 1807 d_Mo_dayStep_174 rfl (by decide) ?_
                    refine wp_dup2 178 d_Mo_dayStep_177 rfl rfl rfl ?_
                    refine wp_iaload 179 d_Mo_dayStep_178 rfl rfl (vp_in_nI (n := 1807) (N := 2332) (by omega) (by omega)) ?_
                    rw [show b (1807 : Int32).toNatClampNeg = nI y.nR from b7]
                    refine wp_iconst 180 1 d_Mo_dayStep_179 rfl (by decide) ?_
                    refine wp_iadd 181 d_Mo_dayStep_180 rfl ?_
                    rw [nI_1]
                    refine wp_iastore 182 d_Mo_dayStep_181 rfl rfl (vp_in_nI (n := 1807) (N := 2332) (by omega) (by omega)) ?_
                    refine hEq (hM ((upd b 1807 (nI (y.nR + 1)))) m_names m_status m_top m_bottom m_sort m_trayMany m_trays m_tape m_text m_taped ((nI L)) ((gtF m_text L s.a).1) ((nI (gtF m_text L s.a).2.1)) ((nI (gtF m_text L s.a).2.2.1)) ((gtF m_text L s.a).2.2.2) m_faultKind m_faultPlace m_faults m_seen m_areOdds m_opened ((nI y.nD)) ((nI y.nS)) m_eastBy m_northBy m_partBy m_wayFaults m_wayEast m_wayNorth m_olds m_wayMany m_oneOfSet m_twoOfSet m_farBy m_rowBy m_triedBy m_rowMany m_doneAt m_gotAt m_struckAt m_bestDeed m_misBy m_drawn m_ranSteps m_loops m_ran m_told1 m_isTold m_marks) rfl ?_
                    refine wp_aload_n 183 d_Mo_dayStep_182 rfl rfl ?_
                    refine wp_V0 186 M_Mo_ahead 2 d_Mo_dayStep_183 rfl mv_Mo_ahead lk_Mo_187 rfl rfl rfl rfl rfl ?_
                    refine k_ahead (s := s) hL hb T ha (by rw [g2]; decide) ?_
                    refine kV ?_
                    refine wp_aload_n 187 d_Mo_dayStep_186 rfl rfl ?_
                    refine wp_iload_n 188 d_Mo_dayStep_187 rfl rfl ?_
                    refine wp_iload_n 189 d_Mo_dayStep_188 rfl rfl ?_
                    refine wp_V2 192 M_Mo_dayOrder 10 d_Mo_dayStep_189 rfl mv_Mo_dayOrder lk_Mo_272 rfl rfl rfl rfl rfl ?_
                    refine k_doEnd ?_
                    refine kI ?_
                    refine wp_if_ne 197 195 d_Mo_dayStep_192 rfl (by decide) (fun h192 => ?_) (fun h192 => ?_)
                    · refine wp_iload 199 d_Mo_dayStep_197 rfl rfl ?_
                      refine wp_if_eq 222 202 d_Mo_dayStep_199 rfl (by decide) (fun h199 => ?_) (fun h199 => ?_)
                      · refine wp_iload_n 223 d_Mo_dayStep_222 rfl rfl ?_
                        refine wp_bipush 225 18 d_Mo_dayStep_223 rfl (by decide) ?_
                        refine wp_icmp_ne 279 228 d_Mo_dayStep_225 rfl (by decide) (fun h225 => ?_) (fun h225 => ?_)
                        · exact absurd h225 (by decide)
                        · refine wp_aload_n 229 d_Mo_dayStep_228 rfl rfl ?_
                          refine wp_dup 230 d_Mo_dayStep_229 rfl rfl ?_
                          refine wp_getfield 233 12 22 d_Mo_dayStep_230 rfl fl_Mo_266 rfl rfl ?_
                          refine wp_iconst 234 1 d_Mo_dayStep_233 rfl (by decide) ?_
                          refine wp_isub 235 d_Mo_dayStep_234 rfl ?_
                          rw [show nI y.nD - 1 = nI (y.nD - 1) from by rw [show nI y.nD = nI (y.nD - 1 + 1) from by congr 1; omega]; exact nI_pred _]
                          refine wp_putfield 238 12 22 _ d_Mo_dayStep_235 rfl fp_Mo_266 rfl rfl (okP_int _) ?_
                          refine hEq (hM ((upd b 1807 (nI (y.nR + 1)))) m_names m_status m_top m_bottom m_sort m_trayMany m_trays m_tape m_text m_taped ((nI L)) ((gtF m_text L (cNx K s).a).1) ((nI (gtF m_text L (cNx K s).a).2.1)) ((nI (gtF m_text L (cNx K s).a).2.2.1)) ((gtF m_text L (cNx K s).a).2.2.2) m_faultKind m_faultPlace m_faults m_seen m_areOdds m_opened ((nI (y.nD - 1))) ((nI y.nS)) m_eastBy m_northBy m_partBy m_wayFaults m_wayEast m_wayNorth m_olds m_wayMany m_oneOfSet m_twoOfSet m_farBy m_rowBy m_triedBy m_rowMany m_doneAt m_gotAt m_struckAt m_bestDeed m_misBy m_drawn m_ranSteps m_loops m_ran m_told1 m_isTold m_marks) rfl ?_
                          refine wp_aload_n 239 d_Mo_dayStep_238 rfl rfl ?_
                          refine wp_getfield 242 12 0 d_Mo_dayStep_239 rfl fl_Mo_7 rfl rfl ?_
                          refine wp_iload_n 243 d_Mo_dayStep_242 rfl rfl ?_
                          refine wp_iconst 244 4 d_Mo_dayStep_243 rfl (by decide) ?_
                          refine wp_iadd 245 d_Mo_dayStep_244 rfl ?_
                          rw [show nI (1882 + 6 * y.nR) + 4 = nI ((1882 + 6 * y.nR) + 4) from nI_add _ 4]
                          refine wp_aload_n 246 d_Mo_dayStep_245 rfl rfl ?_
                          refine wp_getfield 249 12 21 d_Mo_dayStep_246 rfl fl_Mo_44 rfl rfl ?_
                          refine wp_aload_n 250 d_Mo_dayStep_249 rfl rfl ?_
                          refine wp_getfield 253 12 22 d_Mo_dayStep_250 rfl fl_Mo_266 rfl rfl ?_
                          refine wp_ialoadN 254 d_Mo_dayStep_253 rfl rfl rfl (by omega) ?_
                          rw [O1]
                          refine wp_iastoreN 255 d_Mo_dayStep_254 rfl rfl rfl (by omega) ?_
                          refine hEq (hM ((upd (upd b 1807 (nI (y.nR + 1))) ((1882 + 6 * y.nR) + 4) (nI o9))) m_names m_status m_top m_bottom m_sort m_trayMany m_trays m_tape m_text m_taped ((nI L)) ((gtF m_text L (cNx K s).a).1) ((nI (gtF m_text L (cNx K s).a).2.1)) ((nI (gtF m_text L (cNx K s).a).2.2.1)) ((gtF m_text L (cNx K s).a).2.2.2) m_faultKind m_faultPlace m_faults m_seen m_areOdds m_opened ((nI (y.nD - 1))) ((nI y.nS)) m_eastBy m_northBy m_partBy m_wayFaults m_wayEast m_wayNorth m_olds m_wayMany m_oneOfSet m_twoOfSet m_farBy m_rowBy m_triedBy m_rowMany m_doneAt m_gotAt m_struckAt m_bestDeed m_misBy m_drawn m_ranSteps m_loops m_ran m_told1 m_isTold m_marks) rfl ?_
                          refine wp_aload_n 256 d_Mo_dayStep_255 rfl rfl ?_
                          refine wp_getfield 259 12 0 d_Mo_dayStep_256 rfl fl_Mo_7 rfl rfl ?_
                          refine wp_sipush 262 1882 d_Mo_dayStep_259 rfl (by decide) ?_
                          refine wp_bipush 264 6 d_Mo_dayStep_262 rfl (by decide) ?_
                          refine wp_aload_n 265 d_Mo_dayStep_264 rfl rfl ?_
                          refine wp_getfield 268 12 21 d_Mo_dayStep_265 rfl fl_Mo_44 rfl rfl ?_
                          refine wp_aload_n 269 d_Mo_dayStep_268 rfl rfl ?_
                          refine wp_getfield 272 12 22 d_Mo_dayStep_269 rfl fl_Mo_266 rfl rfl ?_
                          refine wp_ialoadN 273 d_Mo_dayStep_272 rfl rfl rfl (by omega) ?_
                          rw [O1]
                          refine wp_imul 274 d_Mo_dayStep_273 rfl ?_
                          refine wp_iadd 275 d_Mo_dayStep_274 rfl ?_
                          rw [show (1882 : Int32) + 6 * nI o9 = nI (1882 + 6 * o9) from by rw [show (6 : Int32) * nI o9 = nI (6 * o9) from mulK 6 o9]; exact nI_add 1882 _]
                          refine wp_iconst 276 4 d_Mo_dayStep_275 rfl (by decide) ?_
                          refine wp_iadd 277 d_Mo_dayStep_276 rfl ?_
                          rw [show nI (1882 + 6 * o9) + 4 = nI (1882 + 6 * o9 + 4) from nI_add _ 4]
                          refine wp_iload_n 278 d_Mo_dayStep_277 rfl rfl ?_
                          refine wp_iastoreN 279 d_Mo_dayStep_278 rfl rfl rfl (by omega) ?_
                          refine hEq (hM ((upd (upd (upd b 1807 (nI (y.nR + 1))) ((1882 + 6 * y.nR) + 4) (nI o9)) (1882 + 6 * o9 + 4) (nI y.nR))) m_names m_status m_top m_bottom m_sort m_trayMany m_trays m_tape m_text m_taped ((nI L)) ((gtF m_text L (cNx K s).a).1) ((nI (gtF m_text L (cNx K s).a).2.1)) ((nI (gtF m_text L (cNx K s).a).2.2.1)) ((gtF m_text L (cNx K s).a).2.2.2) m_faultKind m_faultPlace m_faults m_seen m_areOdds m_opened ((nI (y.nD - 1))) ((nI y.nS)) m_eastBy m_northBy m_partBy m_wayFaults m_wayEast m_wayNorth m_olds m_wayMany m_oneOfSet m_twoOfSet m_farBy m_rowBy m_triedBy m_rowMany m_doneAt m_gotAt m_struckAt m_bestDeed m_misBy m_drawn m_ranSteps m_loops m_ran m_told1 m_isTold m_marks) rfl ?_
                          refine wp_aload_n 280 d_Mo_dayStep_279 rfl rfl ?_
                          refine wp_bipush 282 59 d_Mo_dayStep_280 rfl (by decide) ?_
                          refine wp_V1 285 M_Mo_wantSign 3 d_Mo_dayStep_282 rfl mv_Mo_wantSign lk_Mo_240 rfl rfl rfl rfl rfl ?_
                          refine k_wantSign (s := cNx K s) (c := 59) hL hb T (cNx_lt ha) hf (fun n5 => ?_) (fun n9 => ?_)
                          · refine kI ?_
                            refine wp_zreturn d_Mo_dayStep_285 rfl (by first | rfl | exact nbP _) ?_
                            have e := dUt_y et rfl
                            rw [e] at hq1
                            refine hq1 n5 (upd (upd (upd b 1807 (nI (y.nR + 1))) ((1882 + 6 * y.nR) + 4) (nI o9)) (1882 + 6 * o9 + 4) (nI y.nR)) m_opened (fun k9 hk9 => by rw [upd_ne (by omega), upd_ne (by omega), upd_ne (by omega)]; exact bo k9 (by omega)) (by rw [upd_ne (by omega), upd_ne (by omega)]; exact upd_at) ?_ WE (fun i hi => O i (by have hi2 : i < y.nD - 1 := hi; omega))
                            intro r hr
                            have hr2 : r < y.nR + 1 := hr
                            show ROW t.nW (upd (upd (upd b 1807 (nI (y.nR + 1))) ((1882 + 6 * y.nR) + 4) (nI o9)) (1882 + 6 * o9 + 4) (nI y.nR)) (1882 + 6 * r) (upd y.dk y.nR 7 r) (upd y.df y.nR 0 r) (upd (upd y.ds (y.op (y.nD - 1)).toNatClampNeg (nI y.nR)) y.nR (y.op (y.nD - 1)) r)
                            rw [eob]
                            by_cases c : r = y.nR
                            · rw [c, upd_at, upd_at, upd_at, t1]
                              exact Or.inr (Or.inr (Or.inr (Or.inr (Or.inr (Or.inr (Or.inr (Or.inl ⟨rfl, by rw [upd_ne (by omega), upd_ne (by omega), upd_ne (by omega)]; exact bp, by rw [upd_ne (by omega), upd_at]⟩)))))))
                            · rw [upd_ne c, upd_ne c, upd_ne c]
                              by_cases c2 : r = o9
                              · rw [c2, upd_at]
                                exact ROW_s (RR o9 t2) t3 (fun j j1 j2 j3 => by rw [upd_ne (by omega), upd_ne (by omega), upd_ne (by omega)]; exact bo j (by omega)) upd_at
                              · rw [upd_ne c2]
                                exact ROW_fr (fun j j1 j2 => by rw [upd_ne (by omega), upd_ne (by omega), upd_ne (by omega)]; exact bo j (by omega)) (RR r (by omega))
                          · refine kI ?_
                            refine wp_zreturn d_Mo_dayStep_285 rfl (by first | rfl | exact nbP _) ?_
                            have e := dUt_y et rfl
                            rw [e] at hq0
                            exact hq0 n9 (upd (upd (upd b 1807 (nI (y.nR + 1))) ((1882 + 6 * y.nR) + 4) (nI o9)) (1882 + 6 * o9 + 4) (nI y.nR)) m_opened _ _ _ _ _ _ (fun k9 hk9 => by rw [upd_ne (by omega), upd_ne (by omega), upd_ne (by omega)]; exact bo k9 (by omega))
                      · exact absurd h199 (by decide)
                    · exact absurd h192 (by decide)
                · exact absurd h99 (by decide)
              · exact absurd h78 (by decide)
            · refine wp_aload_n 70 d_Mo_dayStep_69 rfl rfl ?_
              refine wp_iconst 71 2 d_Mo_dayStep_70 rfl (by decide) ?_
              refine wp_V1 74 M_Mo_fails 1 d_Mo_dayStep_71 rfl mv_Mo_fails lk_Mo_193 rfl rfl rfl rfl rfl ?_
              refine k_fails2 (s := s) hL hb T ha hf ?_
              refine kI ?_
              refine wp_zreturn d_Mo_dayStep_74 rfl (by first | rfl | exact nbP _) ?_
              have h0 : ¬ 0 < y.nD := fun z => absurd (nI_inj0 h66 (by omega)) (by omega)
              have e := dUt_f (dTu_e0 (K := K) (t := t) (s := s) (y := y) hw h0) Bool.false_ne_true
              rw [e] at hq0
              exact hq0 Bool.false_ne_true m_at m_opened _ _ _ _ _ _ (fun _ _ => rfl)
    · exact absurd h34 (by decide)
set_option maxRecDepth 100000 in
set_option maxHeartbeats 4000000 in
theorem l_ds_no {kk : Int32} (hL : L ≤ 900) (hb : ∀ k, k < L → b8 (m_text k)) (T : TKs co0_ m_text L K) (ha : s.a < K.nT) (hf : m_faults = 0) (hk : kk < 11 ∨ 19 < kk) (hn : ¬ cWo K s = 22) (hst : ¬ isSt (cWo K s)) (hw7 : m_at 1807 = nI y.nR) (hq0 : ¬ (dUt K t s y).1 = true → ∀ (a2 op2 : Nat → Int32) (z1 z2 z3 z4 z5 z6 : Int32), frO a2 m_at → Q (some (.int 0)) (hM (a2) m_names m_status m_top m_bottom m_sort m_trayMany m_trays m_tape m_text m_taped ((nI L)) (z1) (z2) (z3) (z4) m_faultKind (((dUt K t s y).2.1).fp) (((dUt K t s y).2.1).fk) m_seen m_areOdds (op2) (z5) (z6) m_eastBy m_northBy m_partBy m_wayFaults m_wayEast m_wayNorth m_olds m_wayMany m_oneOfSet m_twoOfSet m_farBy m_rowBy m_triedBy m_rowMany m_doneAt m_gotAt m_struckAt m_bestDeed m_misBy m_drawn m_ranSteps m_loops m_ran m_told1 m_isTold m_marks)) : WP Γ M_Mo_dayStep 11 0 0 (hM m_at m_names m_status m_top m_bottom m_sort m_trayMany m_trays m_tape m_text m_taped ((nI L)) ((gtF m_text L s.a).1) ((nI (gtF m_text L s.a).2.1)) ((nI (gtF m_text L s.a).2.2.1)) ((gtF m_text L s.a).2.2.2) m_faultKind m_faultPlace m_faults m_seen m_areOdds m_opened ((nI y.nD)) ((nI y.nS)) m_eastBy m_northBy m_partBy m_wayFaults m_wayEast m_wayNorth m_olds m_wayMany m_oneOfSet m_twoOfSet m_farBy m_rowBy m_triedBy m_rowMany m_doneAt m_gotAt m_struckAt m_bestDeed m_misBy m_drawn m_ranSteps m_loops m_ran m_told1 m_isTold m_marks) 7 [some (.ref 0), some (.int kk), none, none, none, none] [] Q := by
  refine wp_aload_n 8 d_Mo_dayStep_7 rfl rfl ?_
  refine wp_getfield 11 12 0 d_Mo_dayStep_8 rfl fl_Mo_7 rfl rfl ?_
  refine wp_sipush 14 1807 d_Mo_dayStep_11 rfl (by decide) ?_
  refine wp_iaload 15 d_Mo_dayStep_14 rfl rfl (vp_in_nI (n := 1807) (N := 2332) (by omega) (by omega)) ?_
  rw [show m_at (1807 : Int32).toNatClampNeg = nI y.nR from hw7]
  refine wp_istore_2 16 d_Mo_dayStep_15 rfl rfl rfl ?_
  refine wp_sipush 19 1882 d_Mo_dayStep_16 rfl (by decide) ?_
  refine wp_bipush 21 6 d_Mo_dayStep_19 rfl (by decide) ?_
  refine wp_iload_n 22 d_Mo_dayStep_21 rfl rfl ?_
  refine wp_imul 23 d_Mo_dayStep_22 rfl ?_
  refine wp_iadd 24 d_Mo_dayStep_23 rfl ?_
  rw [show (1882 : Int32) + 6 * nI y.nR = nI (1882 + 6 * y.nR) from by rw [show (6 : Int32) * nI y.nR = nI (6 * y.nR) from mulK 6 y.nR]; exact nI_add 1882 _]
  refine wp_istore_3 25 d_Mo_dayStep_24 rfl rfl rfl ?_
  refine wp_iload_n 26 d_Mo_dayStep_25 rfl rfl ?_
  refine wp_bipush 28 16 d_Mo_dayStep_26 rfl (by decide) ?_
  refine wp_icmp_eq 37 31 d_Mo_dayStep_28 rfl (by decide) (fun h28 => ?_) (fun h28 => ?_)
  · refine wp_iconst 38 1 d_Mo_dayStep_37 rfl (by decide) ?_
    refine wp_goto 42 d_Mo_dayStep_38 (by decide) ?_
    refine wp_istore_4 44 d_Mo_dayStep_42 rfl rfl rfl ?_
    refine wp_iload_n 45 d_Mo_dayStep_44 rfl rfl ?_
    refine wp_bipush 47 11 d_Mo_dayStep_45 rfl (by decide) ?_
    refine wp_icmp_lt 69 50 d_Mo_dayStep_47 rfl (by decide) (fun h47 => ?_) (fun h47 => ?_)
    · refine wp_aload_n 70 d_Mo_dayStep_69 rfl rfl ?_
      refine wp_iconst 71 2 d_Mo_dayStep_70 rfl (by decide) ?_
      refine wp_V1 74 M_Mo_fails 1 d_Mo_dayStep_71 rfl mv_Mo_fails lk_Mo_193 rfl rfl rfl rfl rfl ?_
      refine k_fails2 (s := s) hL hb T ha hf ?_
      refine kI ?_
      refine wp_zreturn d_Mo_dayStep_74 rfl (by first | rfl | exact nbP _) ?_
      have e := dUt_f (dTu_2 (K := K) (t := t) (s := s) (y := y) hn hst) Bool.false_ne_true
      rw [e] at hq0
      exact hq0 Bool.false_ne_true m_at m_opened _ _ _ _ _ _ (fun _ _ => rfl)
    · refine wp_iload_n 51 d_Mo_dayStep_50 rfl rfl ?_
      refine wp_bipush 53 19 d_Mo_dayStep_51 rfl (by decide) ?_
      refine wp_icmp_gt 69 56 d_Mo_dayStep_53 rfl (by decide) (fun h53 => ?_) (fun h53 => ?_)
      · refine wp_aload_n 70 d_Mo_dayStep_69 rfl rfl ?_
        refine wp_iconst 71 2 d_Mo_dayStep_70 rfl (by decide) ?_
        refine wp_V1 74 M_Mo_fails 1 d_Mo_dayStep_71 rfl mv_Mo_fails lk_Mo_193 rfl rfl rfl rfl rfl ?_
        refine k_fails2 (s := s) hL hb T ha hf ?_
        refine kI ?_
        refine wp_zreturn d_Mo_dayStep_74 rfl (by first | rfl | exact nbP _) ?_
        have e := dUt_f (dTu_2 (K := K) (t := t) (s := s) (y := y) hn hst) Bool.false_ne_true
        rw [e] at hq0
        exact hq0 Bool.false_ne_true m_at m_opened _ _ _ _ _ _ (fun _ _ => rfl)
      · exact absurd hk (fun z => by rcases z with z | z; exact h47 z; exact h53 z)
  · refine wp_iload_n 32 d_Mo_dayStep_31 rfl rfl ?_
    refine wp_bipush 34 17 d_Mo_dayStep_32 rfl (by decide) ?_
    refine wp_icmp_ne 41 37 d_Mo_dayStep_34 rfl (by decide) (fun h34 => ?_) (fun h34 => ?_)
    · refine wp_iconst 42 0 d_Mo_dayStep_41 rfl (by decide) ?_
      refine wp_istore_4 44 d_Mo_dayStep_42 rfl rfl rfl ?_
      refine wp_iload_n 45 d_Mo_dayStep_44 rfl rfl ?_
      refine wp_bipush 47 11 d_Mo_dayStep_45 rfl (by decide) ?_
      refine wp_icmp_lt 69 50 d_Mo_dayStep_47 rfl (by decide) (fun h47 => ?_) (fun h47 => ?_)
      · refine wp_aload_n 70 d_Mo_dayStep_69 rfl rfl ?_
        refine wp_iconst 71 2 d_Mo_dayStep_70 rfl (by decide) ?_
        refine wp_V1 74 M_Mo_fails 1 d_Mo_dayStep_71 rfl mv_Mo_fails lk_Mo_193 rfl rfl rfl rfl rfl ?_
        refine k_fails2 (s := s) hL hb T ha hf ?_
        refine kI ?_
        refine wp_zreturn d_Mo_dayStep_74 rfl (by first | rfl | exact nbP _) ?_
        have e := dUt_f (dTu_2 (K := K) (t := t) (s := s) (y := y) hn hst) Bool.false_ne_true
        rw [e] at hq0
        exact hq0 Bool.false_ne_true m_at m_opened _ _ _ _ _ _ (fun _ _ => rfl)
      · refine wp_iload_n 51 d_Mo_dayStep_50 rfl rfl ?_
        refine wp_bipush 53 19 d_Mo_dayStep_51 rfl (by decide) ?_
        refine wp_icmp_gt 69 56 d_Mo_dayStep_53 rfl (by decide) (fun h53 => ?_) (fun h53 => ?_)
        · refine wp_aload_n 70 d_Mo_dayStep_69 rfl rfl ?_
          refine wp_iconst 71 2 d_Mo_dayStep_70 rfl (by decide) ?_
          refine wp_V1 74 M_Mo_fails 1 d_Mo_dayStep_71 rfl mv_Mo_fails lk_Mo_193 rfl rfl rfl rfl rfl ?_
          refine k_fails2 (s := s) hL hb T ha hf ?_
          refine kI ?_
          refine wp_zreturn d_Mo_dayStep_74 rfl (by first | rfl | exact nbP _) ?_
          have e := dUt_f (dTu_2 (K := K) (t := t) (s := s) (y := y) hn hst) Bool.false_ne_true
          rw [e] at hq0
          exact hq0 Bool.false_ne_true m_at m_opened _ _ _ _ _ _ (fun _ _ => rfl)
        · exact absurd hk (fun z => by rcases z with z | z; exact h47 z; exact h53 z)
    · refine wp_iconst 38 1 d_Mo_dayStep_37 rfl (by decide) ?_
      refine wp_goto 42 d_Mo_dayStep_38 (by decide) ?_
      refine wp_istore_4 44 d_Mo_dayStep_42 rfl rfl rfl ?_
      refine wp_iload_n 45 d_Mo_dayStep_44 rfl rfl ?_
      refine wp_bipush 47 11 d_Mo_dayStep_45 rfl (by decide) ?_
      refine wp_icmp_lt 69 50 d_Mo_dayStep_47 rfl (by decide) (fun h47 => ?_) (fun h47 => ?_)
      · refine wp_aload_n 70 d_Mo_dayStep_69 rfl rfl ?_
        refine wp_iconst 71 2 d_Mo_dayStep_70 rfl (by decide) ?_
        refine wp_V1 74 M_Mo_fails 1 d_Mo_dayStep_71 rfl mv_Mo_fails lk_Mo_193 rfl rfl rfl rfl rfl ?_
        refine k_fails2 (s := s) hL hb T ha hf ?_
        refine kI ?_
        refine wp_zreturn d_Mo_dayStep_74 rfl (by first | rfl | exact nbP _) ?_
        have e := dUt_f (dTu_2 (K := K) (t := t) (s := s) (y := y) hn hst) Bool.false_ne_true
        rw [e] at hq0
        exact hq0 Bool.false_ne_true m_at m_opened _ _ _ _ _ _ (fun _ _ => rfl)
      · refine wp_iload_n 51 d_Mo_dayStep_50 rfl rfl ?_
        refine wp_bipush 53 19 d_Mo_dayStep_51 rfl (by decide) ?_
        refine wp_icmp_gt 69 56 d_Mo_dayStep_53 rfl (by decide) (fun h53 => ?_) (fun h53 => ?_)
        · refine wp_aload_n 70 d_Mo_dayStep_69 rfl rfl ?_
          refine wp_iconst 71 2 d_Mo_dayStep_70 rfl (by decide) ?_
          refine wp_V1 74 M_Mo_fails 1 d_Mo_dayStep_71 rfl mv_Mo_fails lk_Mo_193 rfl rfl rfl rfl rfl ?_
          refine k_fails2 (s := s) hL hb T ha hf ?_
          refine kI ?_
          refine wp_zreturn d_Mo_dayStep_74 rfl (by first | rfl | exact nbP _) ?_
          have e := dUt_f (dTu_2 (K := K) (t := t) (s := s) (y := y) hn hst) Bool.false_ne_true
          rw [e] at hq0
          exact hq0 Bool.false_ne_true m_at m_opened _ _ _ _ _ _ (fun _ _ => rfl)
        · exact absurd hk (fun z => by rcases z with z | z; exact h47 z; exact h53 z)
set_option maxRecDepth 100000 in
set_option maxHeartbeats 4000000 in
theorem k_dayStep (hL : L ≤ 900) (hb : ∀ k, k < L → b8 (m_text k)) (T : TKs co0_ m_text L K) (ha : s.a < K.nT) (hf : m_faults = 0) (V : vT m_at t) (N : NS m_names 0 t) (ok : DOk K s y) (hw7 : m_at 1807 = nI y.nR) (RR : RDr t.nW m_at y) (W : WFP y) (O : ∀ i, i < y.nD → m_opened i = y.op i) (hq1 : (dUt K t s y).1 = true → ∀ (a2 op2 : Nat → Int32), frO a2 m_at → a2 1807 = nI (dUt K t s y).2.2.nR → RDr t.nW a2 (dUt K t s y).2.2 → WFP (dUt K t s y).2.2 → (∀ i, i < (dUt K t s y).2.2.nD → op2 i = (dUt K t s y).2.2.op i) → Q (some (.int 1)) (hM (a2) m_names m_status m_top m_bottom m_sort m_trayMany m_trays m_tape m_text m_taped ((nI L)) ((gtF m_text L (dUt K t s y).2.1.a).1) ((nI (gtF m_text L (dUt K t s y).2.1.a).2.1)) ((nI (gtF m_text L (dUt K t s y).2.1.a).2.2.1)) ((gtF m_text L (dUt K t s y).2.1.a).2.2.2) m_faultKind m_faultPlace m_faults m_seen m_areOdds (op2) ((nI (dUt K t s y).2.2.nD)) ((nI (dUt K t s y).2.2.nS)) m_eastBy m_northBy m_partBy m_wayFaults m_wayEast m_wayNorth m_olds m_wayMany m_oneOfSet m_twoOfSet m_farBy m_rowBy m_triedBy m_rowMany m_doneAt m_gotAt m_struckAt m_bestDeed m_misBy m_drawn m_ranSteps m_loops m_ran m_told1 m_isTold m_marks)) (hq0 : ¬ (dUt K t s y).1 = true → ∀ (a2 op2 : Nat → Int32) (z1 z2 z3 z4 z5 z6 : Int32), frO a2 m_at → Q (some (.int 0)) (hM (a2) m_names m_status m_top m_bottom m_sort m_trayMany m_trays m_tape m_text m_taped ((nI L)) (z1) (z2) (z3) (z4) m_faultKind (((dUt K t s y).2.1).fp) (((dUt K t s y).2.1).fk) m_seen m_areOdds (op2) (z5) (z6) m_eastBy m_northBy m_partBy m_wayFaults m_wayEast m_wayNorth m_olds m_wayMany m_oneOfSet m_twoOfSet m_farBy m_rowBy m_triedBy m_rowMany m_doneAt m_gotAt m_struckAt m_bestDeed m_misBy m_drawn m_ranSteps m_loops m_ran m_told1 m_isTold m_marks)) : Call Γ M_Mo_dayStep 11 0 0 [.ref 0] (hM m_at m_names m_status m_top m_bottom m_sort m_trayMany m_trays m_tape m_text m_taped ((nI L)) ((gtF m_text L s.a).1) ((nI (gtF m_text L s.a).2.1)) ((nI (gtF m_text L s.a).2.2.1)) ((gtF m_text L s.a).2.2.2) m_faultKind m_faultPlace m_faults m_seen m_areOdds m_opened ((nI y.nD)) ((nI y.nS)) m_eastBy m_northBy m_partBy m_wayFaults m_wayEast m_wayNorth m_olds m_wayMany m_oneOfSet m_twoOfSet m_farBy m_rowBy m_triedBy m_rowMany m_doneAt m_gotAt m_struckAt m_bestDeed m_misBy m_drawn m_ranSteps m_loops m_ran m_told1 m_isTold m_marks) Q := by
  have A := ATk_of (s := s) hb T ha
  refine call_intro (ls := [some (.ref 0), none, none, none, none, none]) rfl rfl rfl ?_
  refine wp_aload_n 1 d_Mo_dayStep_0 rfl rfl ?_
  refine wp_ldcS2 3 d_Mo_dayStep_1 rfl rfl ?_
  refine wp_V1 6 M_Mo_inWords 6 d_Mo_dayStep_3 rfl mv_Mo_inWords lk_Mo_196 rfl rfl rfl rfl rfl ?_
  refine c_inWordsJ (j := s.a) hL (ak_le A) ?_
  refine kI ?_
  refine wp_istore_1 7 d_Mo_dayStep_6 rfl rfl rfl ?_
  rcases ak_wo A with ⟨c1, c2⟩ | ⟨w, w1, c1, c2⟩
  · rw [c2]
    exact l_ds_no (s := s) (t := t) (y := y) hL hb T ha hf (Or.inl (by decide)) (by rw [c1]; decide) (by rw [c1]; decide) hw7 hq0
  · rw [c2]
    match w, w1, c1 with
    | 0, _, c1 => exact l_ds_no (s := s) (t := t) (y := y) hL hb T ha hf (Or.inl (by decide)) (by rw [c1]; decide) (by rw [c1]; decide) hw7 hq0
    | 1, _, c1 => exact l_ds_no (s := s) (t := t) (y := y) hL hb T ha hf (Or.inl (by decide)) (by rw [c1]; decide) (by rw [c1]; decide) hw7 hq0
    | 2, _, c1 => exact l_ds_no (s := s) (t := t) (y := y) hL hb T ha hf (Or.inl (by decide)) (by rw [c1]; decide) (by rw [c1]; decide) hw7 hq0
    | 3, _, c1 => exact l_ds_no (s := s) (t := t) (y := y) hL hb T ha hf (Or.inl (by decide)) (by rw [c1]; decide) (by rw [c1]; decide) hw7 hq0
    | 4, _, c1 => exact l_ds_no (s := s) (t := t) (y := y) hL hb T ha hf (Or.inl (by decide)) (by rw [c1]; decide) (by rw [c1]; decide) hw7 hq0
    | 5, _, c1 => exact l_ds_no (s := s) (t := t) (y := y) hL hb T ha hf (Or.inl (by decide)) (by rw [c1]; decide) (by rw [c1]; decide) hw7 hq0
    | 6, _, c1 => exact l_ds_no (s := s) (t := t) (y := y) hL hb T ha hf (Or.inl (by decide)) (by rw [c1]; decide) (by rw [c1]; decide) hw7 hq0
    | 7, _, c1 => exact l_ds_no (s := s) (t := t) (y := y) hL hb T ha hf (Or.inl (by decide)) (by rw [c1]; decide) (by rw [c1]; decide) hw7 hq0
    | 8, _, c1 => exact l_ds_no (s := s) (t := t) (y := y) hL hb T ha hf (Or.inl (by decide)) (by rw [c1]; decide) (by rw [c1]; decide) hw7 hq0
    | 9, _, c1 => exact l_ds_no (s := s) (t := t) (y := y) hL hb T ha hf (Or.inl (by decide)) (by rw [c1]; decide) (by rw [c1]; decide) hw7 hq0
    | 10, _, c1 => exact l_ds_no (s := s) (t := t) (y := y) hL hb T ha hf (Or.inl (by decide)) (by rw [c1]; decide) (by rw [c1]; decide) hw7 hq0
    | 11, _, c1 => exact l_ds_11 (s := s) (t := t) (y := y) hL hb T ha hf c1 V N ok hw7 RR W O hq1 hq0
    | 12, _, c1 => exact l_ds_12 (s := s) (t := t) (y := y) hL hb T ha hf c1 V N ok hw7 RR W O hq1 hq0
    | 13, _, c1 => exact l_ds_13 (s := s) (t := t) (y := y) hL hb T ha hf c1 V N ok hw7 RR W O hq1 hq0
    | 14, _, c1 => exact l_ds_14 (s := s) (t := t) (y := y) hL hb T ha hf c1 V N ok hw7 RR W O hq1 hq0
    | 15, _, c1 => exact l_ds_15 (s := s) (t := t) (y := y) hL hb T ha hf c1 V N ok hw7 RR W O hq1 hq0
    | 16, _, c1 => exact l_ds_16 (s := s) (t := t) (y := y) hL hb T ha hf c1 V N ok hw7 RR W O hq1 hq0
    | 17, _, c1 => exact l_ds_no (s := s) (t := t) (y := y) hL hb T ha hf (Or.inr (by decide)) (by rw [c1]; decide) (by rw [c1]; decide) hw7 hq0
    | 18, _, c1 => exact l_ds_no (s := s) (t := t) (y := y) hL hb T ha hf (Or.inr (by decide)) (by rw [c1]; decide) (by rw [c1]; decide) hw7 hq0
    | 19, _, c1 => exact l_ds_no (s := s) (t := t) (y := y) hL hb T ha hf (Or.inr (by decide)) (by rw [c1]; decide) (by rw [c1]; decide) hw7 hq0
    | 20, _, c1 => exact l_ds_no (s := s) (t := t) (y := y) hL hb T ha hf (Or.inr (by decide)) (by rw [c1]; decide) (by rw [c1]; decide) hw7 hq0
    | 21, _, c1 => exact l_ds_17 (s := s) (t := t) (y := y) hL hb T ha hf c1 V N ok hw7 RR W O hq1 hq0
    | 22, _, c1 => exact l_ds_18 (s := s) (t := t) (y := y) hL hb T ha hf c1 V N ok hw7 RR W O hq1 hq0
    | 23, _, c1 => exact l_ds_19 (s := s) (t := t) (y := y) hL hb T ha hf c1 V N ok hw7 RR W O hq1 hq0
    | w + 24, w1, _ => exact absurd w1 (by omega)

end TB1
