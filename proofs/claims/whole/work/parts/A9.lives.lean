/-! ===== the reference: days are lived ===== -/
theorem ROW_k {nW p : Nat} {a : Nat → Int32} {k f s : Int32} (h : ROW nW a p k f s) (n5 : ¬ k = 5) (n7 : ¬ k = 7) (ho : ¬ opn k) (c0 : ¬ k = 0) (c1 : ¬ k = 1) (c2 : ¬ k = 2) (c3 : ¬ k = 3) (c4 : ¬ k = 4) : False := by
  rcases h with ⟨h0, h1, h2, h3⟩ | ⟨h0, h1, h2, h3⟩ | ⟨h0, h1, h2, h3⟩ | ⟨h0, h1, h2, h3, h4, h5⟩ | ⟨h0, h1⟩ | ⟨h0, h1⟩ | ⟨h0, h1, h2, h3, h4⟩ | ⟨h0, h1, h2⟩ | ⟨h0, h1, h2, h3⟩ | ⟨h0, h1, h2⟩ | ⟨h0, h1, h2, h3, h4⟩ | ⟨h0, h1, h2, h3, h4⟩ | ⟨h0, h1, h2, h3, h4⟩ | ⟨h0, h1, h2, h3, h4⟩
  · exact c0 h0
  · exact c1 h0
  · exact c2 h0
  · exact c3 h0
  · exact c4 h0
  · exact n5 h0
  · exact ho (by rw [h0]; unfold opn; decide)
  · exact n7 h0
  · exact ho (by rw [h0]; unfold opn; decide)
  · exact ho (by rw [h0]; unfold opn; decide)
  · exact ho (by rw [h0]; unfold opn; decide)
  · exact ho (by rw [h0]; unfold opn; decide)
  · exact ho (by rw [h0]; unfold opn; decide)
  · exact ho (by rw [h0]; unfold opn; decide)
theorem BS_a {t : TW} {D : DW} {p nW q : Nat} {a : Nat → Int32} {s : LSt} (h : ROW nW a q (D.dk p) (D.df p) (D.ds p)) (n5 : ¬ D.dk p = 5) (n7 : ¬ D.dk p = 7) (ho : ¬ opn (D.dk p)) : bsT t D p s = (nI (p + 1), stD t (D.dk p) (D.df p) (D.ds p) s) := by
  show bsF t.te t.fr t.to_ t.ea t.no t.nL t.nP t.nW t.od D.dk D.df D.ds (nI D.nR) p s = _
  unfold bsF stD
  by_cases c0 : D.dk p = 0
  · rw [if_pos c0, if_pos c0]
  · rw [if_neg c0, if_neg c0]
    by_cases c1 : D.dk p = 1
    · rw [if_pos c1, if_pos c1]
    · rw [if_neg c1, if_neg c1]
      by_cases c2 : D.dk p = 2
      · rw [if_pos c2, if_pos c2]
      · rw [if_neg c2, if_neg c2]
        by_cases c3 : D.dk p = 3
        · rw [if_pos c3, if_pos c3]
        · rw [if_neg c3, if_neg c3]
          by_cases c4 : D.dk p = 4
          · rw [if_pos c4, if_pos c4]
          · rw [if_neg c4, if_neg c4]
            exact (ROW_k h n5 n7 ho c0 c1 c2 c3 c4).elim
theorem STD_o {t : TW} {D : DW} {p : Nat} {f c : Int32} {s : LSt} (ho : opn (D.dk p)) : stD t (D.dk p) f c s = s := by
  have n0 : ¬ D.dk p = 0 := fun e => by rw [e] at ho; exact absurd ho (by unfold opn; decide)
  have n1 : ¬ D.dk p = 1 := fun e => by rw [e] at ho; exact absurd ho (by unfold opn; decide)
  have n2 : ¬ D.dk p = 2 := fun e => by rw [e] at ho; exact absurd ho (by unfold opn; decide)
  have n3 : ¬ D.dk p = 3 := fun e => by rw [e] at ho; exact absurd ho (by unfold opn; decide)
  have n4 : ¬ D.dk p = 4 := fun e => by rw [e] at ho; exact absurd ho (by unfold opn; decide)
  exact (if_neg n0).trans ((if_neg n1).trans ((if_neg n2).trans ((if_neg n3).trans (if_neg n4))))
theorem BS_5 {t : TW} {D : DW} {p : Nat} {s : LSt} (h : D.dk p = 5) : bsT t D p s = (nI D.nR, s) := (if_neg (by rw [h]; decide)).trans ((if_neg (by rw [h]; decide)).trans ((if_neg (by rw [h]; decide)).trans ((if_neg (by rw [h]; decide)).trans ((if_neg (by rw [h]; decide)).trans (if_pos h)))))
theorem BS_6 {t : TW} {D : DW} {p : Nat} {s : LSt} (h : D.dk p = 6) : bsT t D p s = (nI (p + 1), stLo p (D.df p) s) := (if_neg (by rw [h]; decide)).trans ((if_neg (by rw [h]; decide)).trans ((if_neg (by rw [h]; decide)).trans ((if_neg (by rw [h]; decide)).trans ((if_neg (by rw [h]; decide)).trans ((if_neg (by rw [h]; decide)).trans (if_pos h))))))
theorem BS_h {t : TW} {D : DW} {p : Nat} {s : LSt} (ho : opn (D.dk p)) (n6 : ¬ D.dk p = 6) : bsT t D p s = (if hoV t.te t.fr t.to_ t.ea t.no t.nL t.nP s (D.dk p) (D.df p) = 0 then D.ds p + 1 else nI (p + 1), s) := by
  have n0 : ¬ D.dk p = 0 := fun e => by rw [e] at ho; exact absurd ho (by unfold opn; decide)
  have n1 : ¬ D.dk p = 1 := fun e => by rw [e] at ho; exact absurd ho (by unfold opn; decide)
  have n2 : ¬ D.dk p = 2 := fun e => by rw [e] at ho; exact absurd ho (by unfold opn; decide)
  have n3 : ¬ D.dk p = 3 := fun e => by rw [e] at ho; exact absurd ho (by unfold opn; decide)
  have n4 : ¬ D.dk p = 4 := fun e => by rw [e] at ho; exact absurd ho (by unfold opn; decide)
  have n5 : ¬ D.dk p = 5 := fun e => by rw [e] at ho; exact absurd ho (by unfold opn; decide)
  exact (if_neg n0).trans ((if_neg n1).trans ((if_neg n2).trans ((if_neg n3).trans ((if_neg n4).trans ((if_neg n5).trans (if_neg n6))))))
theorem rn_out {t : TW} {D : DW} {f p : Nat} {st : Int32} {s : LSt} (hp : D.nR ≤ p) (hp2 : p ≤ 60) : rnT t D (f + 1) (nI p) st s = (st, s) := by
  show (if inR (nI p) (nI D.nR) then _ else _) = _
  rw [if_neg (fun z => by have := nI_ltN z.2 (by omega) (by omega); omega)]
theorem rn_step {t : TW} {D : DW} {f p st : Nat} {s : LSt} (hp : p < D.nR) (hn : D.nR ≤ 60) (h7 : ¬ D.dk p = 7) (hst : st < 300) : rnT t D (f + 1) (nI p) (nI st) s = rnT t D f (bsT t D p s).1 (nI (st + 1)) (bsT t D p s).2 := by
  have ec : (nI p).toNatClampNeg = p := nI_clamp (by omega)
  have e1 : nI st + 1 = nI (st + 1) := by rw [nI_1]
  show (if inR (nI p) (nI D.nR) then _ else _) = _
  rw [if_pos (inR_N hp (by omega)), ec, if_neg h7, if_neg (show ¬ (300 : Int32) ≤ nI st from Int32.not_le.mpr ((nI_ltI (b := 300) (by omega) (by omega)).mpr hst)), e1]
theorem rn_300 {t : TW} {D : DW} {f p : Nat} {s : LSt} (hp : p < D.nR) (hn : D.nR ≤ 60) (h7 : ¬ D.dk p = 7) : rnT t D (f + 1) (nI p) (nI 300) s = (nI 300, (s.1, s.2.1, s.2.2.1, s.2.2.2.1, upd s.2.2.2.2.1 4 1, s.2.2.2.2.2.1, s.2.2.2.2.2.2)) := by
  have ec : (nI p).toNatClampNeg = p := nI_clamp (by omega)
  show (if inR (nI p) (nI D.nR) then _ else _) = _
  rw [if_pos (inR_N hp (by omega)), ec, if_neg h7, if_pos (show (300 : Int32) ≤ nI 300 by decide)]
theorem LV_o {t : TW} {D : DW} {f p : Nat} {st : Int32} {s : LSt} {R : Int32 × LSt} (hp : D.nR ≤ p) (hp2 : p ≤ 60) (hf : 1 ≤ f) (hr : rnT t D f (nI p) st s = R) : R = (st, s) := by
  rw [← hr, show f = f - 1 + 1 by omega]
  exact rn_out hp hp2
theorem LV_3 {t : TW} {D : DW} {f p : Nat} {s : LSt} {R : Int32 × LSt} (hp : p < D.nR) (hn : D.nR ≤ 60) (h7 : ¬ D.dk p = 7) (hf : 1 ≤ f) (hr : rnT t D f (nI p) (nI 300) s = R) : R = (nI 300, (s.1, s.2.1, s.2.2.1, s.2.2.2.1, upd s.2.2.2.2.1 4 1, s.2.2.2.2.2.1, s.2.2.2.2.2.2)) := by
  rw [← hr, show f = f - 1 + 1 by omega]
  exact rn_300 hp hn h7
theorem LV_5 {t : TW} {D : DW} {f p st : Nat} {s : LSt} {R : Int32 × LSt} (hp : p < D.nR) (hn : D.nR ≤ 60) (h7 : ¬ D.dk p = 7) (hst : st < 300) (k5 : D.dk p = 5) (hf : 2 ≤ f) (hr : rnT t D f (nI p) (nI st) s = R) : R = (nI (st + 1), s) := by
  rw [← hr, show f = f - 1 + 1 by omega, rn_step hp hn h7 hst, BS_5 k5]
  exact (LV_o (Nat.le_refl D.nR) hn (by omega) rfl)
theorem LV_step {t : TW} {D : DW} (hn : D.nR ≤ 60) (W : WFD D) {p st f n p2 : Nat} {s s2 : LSt} {lo2 : Nat → Int32} {R : Int32 × LSt} (hp : p < D.nR) (h7 : ¬ D.dk p = 7) (hst : st < 300) (hb : bsT t D p s = (nI p2, s2)) (hp2 : p2 ≤ D.nR) (hA : ACT D p2 s2.2.2.2.2.2.1 lo2) (hf : 200 * (n + 1 + 1) ≤ f) (hr : rnT t D f (nI p) (nI st) s = R) : erD D 160 p2 lo2 ∧ (er D 160 p2 lo2).1 ≤ D.nR ∧ ∃ f3 lro2, 200 * (n + 1) ≤ f3 ∧ ACT D (er D 160 p2 lo2).1 lro2 (er D 160 p2 lo2).2 ∧ rnT t D f3 (nI (er D 160 p2 lo2).1) (nI (st + 1)) (setL s2 lro2) = R := by
  obtain ⟨i1, i2, c, lro2, i3, i4, i5⟩ := ER (t := t) hn W 160 p2 lo2 s2.2.2.2.2.2.1 (mu_le hn hp2 W hA) hp2 hA
  refine ⟨i1, i2, f - 1 - c, lro2, by omega, i4, ?_⟩
  have e := rn_step (t := t) (f := f - 1) (s := s) hp hn h7 hst
  rw [show f - 1 + 1 = f by omega, hr, hb] at e
  have e2 := i5 (f - 1 - c) (nI (st + 1)) s2
  have es : setL s2 s2.2.2.2.2.2.1 = s2 := rfl
  rw [show f - 1 - c + c = f - 1 by omega, es] at e2
  exact e2.symm.trans e.symm
theorem tLt_L (t : TW) (s : LSt) (l : Nat → Int32) : tLt t (setL s l) = tLt t s := by
  unfold tLt setL
  dsimp only
theorem ST_L {t : TW} {a r : Nat → Int32} {d : Int32} {s : LSt} (S : ST_ t a r d s) (l : Nat → Int32) : ST_ t a r d (setL s l) := by
  obtain ⟨h1, h2, h3, h4, h5⟩ := S
  unfold ST_
  rw [tLt_L]
  exact ⟨h1, h2, h3, h4, h5⟩
theorem DP_T0 {t : TW} {ma r0 : Nat → Int32} {s s2 : LSt} {a2 r2 : Nat → Int32} {dr2 d : Int32} (h : DP t ma r0 s s2 a2 r2 dr2 d) (e : d = 0) : ST_ t a2 (upd r2 0 (r0 0 + 1)) dr2 s2 := by
  subst e
  obtain ⟨h1, h2, h3, h4, h5, h6, h7, h8, h9⟩ := h
  rw [if_pos (rfl : (0 : Int32) = 0), h4] at h3
  exact ⟨h1, h3, h5, h6, h7⟩
theorem DP_T1 {t : TW} {ma r0 : Nat → Int32} {s s2 : LSt} {a2 r2 : Nat → Int32} {dr2 d : Int32} (h : DP t ma r0 s s2 a2 r2 dr2 d) (e : ¬ d = 0) : ST_ t a2 (upd r2 0 (r0 0 + 0)) dr2 s2 := by
  obtain ⟨h1, h2, h3, h4, h5, h6, h7, h8, h9⟩ := h
  rw [if_neg e, h4] at h3
  exact ⟨h1, h3, h5, h6, h7⟩
theorem lcU {r c : Nat → Int32} (h : ∀ j, j < 5 → r j = c j) : ∀ j, j < 5 → upd r 4 1 j = upd c 4 1 j := by
  intro j hj
  by_cases z : j = 4
  · rw [z, upd_at, upd_at]
  · rw [upd_ne z, upd_ne z, h j hj]
theorem tLv_e {t : TW} {D : DW} {sd : Int32} {lco lro : Nat → Int32} : rnT t D 1000000 (nI 0) (nI 0) (t.fa, t.sk, t.sd, t.go, fil 5 0 lco, lro, sd) = tLv t D sd lco lro := rfl
section TA9
variable {Γ : Gm} {Q : Option Value → LH → Prop} {m_at m_sort m_trayMany m_tape m_text m_opened m_eastBy m_northBy m_partBy m_wayFaults m_wayEast m_wayNorth m_olds m_farBy m_rowBy m_triedBy m_doneAt m_gotAt m_struckAt m_bestDeed m_loops m_ran m_told1 : Nat → Int32} {m_names m_trays m_misBy : Nat → Int64} {m_status m_taped m_size m_token m_from m_end m_value m_faultKind m_faultPlace m_faults m_seen m_areOdds m_depth m_counted m_wayMany m_oneOfSet m_twoOfSet m_rowMany m_drawn m_ranSteps m_isTold m_marks : Int32} {m_top m_bottom : Int64} {t : TW} {s : LSt}
set_option maxRecDepth 100000 in
set_option maxHeartbeats 8000000 in
theorem l_Mo_lives_32 {D : DW} {sd : Int32} {R : Int32 × LSt} (hn : D.nR ≤ 60) (h7_ : m_at 7 = nI D.nR) (hrow : ∀ r, r < D.nR → ROW t.nW m_at (82 + 6 * r) (D.dk r) (D.df r) (D.ds r)) (W : WFD D) (hq : ∀ (a2 r2 l2 : Nat → Int32) (d2 : Int32) (sc : MS), vT a2 (tLt t R.2) → frA m_at a2 → (∀ j, j < 5 → r2 j = R.2.2.2.2.2.1 j) → SKo (tLt t R.2) → Q none (hM (a2) m_names m_status m_top m_bottom m_sort m_trayMany m_trays m_tape m_text m_taped m_size m_token m_from m_end m_value m_faultKind m_faultPlace m_faults m_seen m_areOdds m_opened m_depth m_counted (sc.2.1) (sc.2.2) (sc.1) m_wayFaults m_wayEast m_wayNorth m_olds m_wayMany m_oneOfSet m_twoOfSet m_farBy m_rowBy m_triedBy m_rowMany m_doneAt m_gotAt m_struckAt m_bestDeed m_misBy (d2) (R.1) (l2) (r2) m_told1 m_isTold m_marks)) : ∀ (n p st f : Nat) (a r lo : Nat → Int32) (dr : Int32) (s : LSt) (sc : MS) (w3 : Option Value), st + n = 300 → p ≤ D.nR → frA m_at a → ST_ t a r dr s → ACT D p s.2.2.2.2.2.1 lo → ¬ (p < D.nR ∧ D.dk p = 7) → 200 * (n + 1) ≤ f → rnT t D f (nI p) (nI st) s = R → WP Γ M_Mo_lives 9 0 0 (hM (a) m_names m_status m_top m_bottom m_sort m_trayMany m_trays m_tape m_text m_taped m_size m_token m_from m_end m_value m_faultKind m_faultPlace m_faults m_seen m_areOdds m_opened m_depth m_counted (sc.2.1) (sc.2.2) (sc.1) m_wayFaults m_wayEast m_wayNorth m_olds m_wayMany m_oneOfSet m_twoOfSet m_farBy m_rowBy m_triedBy m_rowMany m_doneAt m_gotAt m_struckAt m_bestDeed m_misBy (dr) ((nI st)) (lo) (r) m_told1 m_isTold m_marks) 32 [some (.ref 0), some (.int sd), some (.int (nI p)), w3] [] Q := by
  intro n
  induction n with
  | zero =>
    intro p st f a r lo dr s sc w3 hst hp60 hfr S hA hne hf hr
    refine wp_iload_n 33 d_Mo_lives_32 rfl rfl ?_
    refine wp_aload_n 34 d_Mo_lives_33 rfl rfl ?_
    refine wp_getfield 37 12 0 d_Mo_lives_34 rfl fl_Mo_7 rfl rfl ?_
    refine wp_bipush 39 7 d_Mo_lives_37 rfl (by decide) ?_
    refine wp_iaload 40 d_Mo_lives_39 rfl rfl (vp_in_nI (n := 7) (N := 2332) (by omega) (by omega)) ?_
    rw [show a (7 : Int32).toNatClampNeg = nI D.nR from (hfr 7 (Or.inl rfl)).trans h7_]
    refine wp_icmp_ge 184 43 d_Mo_lives_40 rfl (by decide) (fun h40 => ?_) (fun h40 => ?_)
    · refine wp_return d_Mo_lives_184 rfl ?_
      have e := LV_o (nI_leN (b := D.nR) h40 (by omega) (by omega)) (by omega) (by omega) hr
      subst e
      exact hq a r lo dr sc S.1 hfr S.2.1 S.2.2.2.2
    · have hp9 : p < D.nR := nI_nleN h40 (by omega) (by omega)
      have hk7 : ¬ D.dk p = 7 := fun z => hne ⟨hp9, z⟩
      have hR0 : ROW t.nW a (82 + 6 * p) (D.dk p) (D.df p) (D.ds p) := ROW_fr (fun j hj _ => hfr j (Or.inr (by omega))) (hrow p hp9)
      refine wp_aload_n 44 d_Mo_lives_43 rfl rfl ?_
      refine wp_getfield 47 12 44 d_Mo_lives_44 rfl fl_Mo_473 rfl rfl ?_
      refine wp_sipush 50 300 d_Mo_lives_47 rfl (by decide) ?_
      refine wp_icmp_ne 61 53 d_Mo_lives_50 rfl (by decide) (fun h50 => ?_) (fun h50 => ?_)
      · exact absurd (show nI st = 300 from by rw [show st = 300 by omega]; rfl) h50
      · obtain rfl : st = 300 := by omega
        refine wp_aload_n 54 d_Mo_lives_53 rfl rfl ?_
        refine wp_getfield 57 12 46 d_Mo_lives_54 rfl fl_Mo_95 rfl rfl ?_
        refine wp_iconst 58 4 d_Mo_lives_57 rfl (by decide) ?_
        refine wp_iconst 59 1 d_Mo_lives_58 rfl (by decide) ?_
        refine wp_iastore 60 d_Mo_lives_59 rfl rfl (vp_in_nI (n := 4) (N := 5) (by omega) (by omega)) ?_
        refine hEq (hM (a) m_names m_status m_top m_bottom m_sort m_trayMany m_trays m_tape m_text m_taped m_size m_token m_from m_end m_value m_faultKind m_faultPlace m_faults m_seen m_areOdds m_opened m_depth m_counted (sc.2.1) (sc.2.2) (sc.1) m_wayFaults m_wayEast m_wayNorth m_olds m_wayMany m_oneOfSet m_twoOfSet m_farBy m_rowBy m_triedBy m_rowMany m_doneAt m_gotAt m_struckAt m_bestDeed m_misBy (dr) ((nI 300)) (lo) (upd r 4 1) m_told1 m_isTold m_marks) rfl ?_
        refine wp_return d_Mo_lives_60 rfl ?_
        have e := LV_3 hp9 hn hk7 (by omega) hr
        subst e
        exact hq a (upd r 4 1) lo dr sc S.1 hfr (lcU S.2.1) S.2.2.2.2
  | succ n ih =>
    intro p st f a r lo dr s sc w3 hst hp60 hfr S hA hne hf hr
    refine wp_iload_n 33 d_Mo_lives_32 rfl rfl ?_
    refine wp_aload_n 34 d_Mo_lives_33 rfl rfl ?_
    refine wp_getfield 37 12 0 d_Mo_lives_34 rfl fl_Mo_7 rfl rfl ?_
    refine wp_bipush 39 7 d_Mo_lives_37 rfl (by decide) ?_
    refine wp_iaload 40 d_Mo_lives_39 rfl rfl (vp_in_nI (n := 7) (N := 2332) (by omega) (by omega)) ?_
    rw [show a (7 : Int32).toNatClampNeg = nI D.nR from (hfr 7 (Or.inl rfl)).trans h7_]
    refine wp_icmp_ge 184 43 d_Mo_lives_40 rfl (by decide) (fun h40 => ?_) (fun h40 => ?_)
    · refine wp_return d_Mo_lives_184 rfl ?_
      have e := LV_o (nI_leN (b := D.nR) h40 (by omega) (by omega)) (by omega) (by omega) hr
      subst e
      exact hq a r lo dr sc S.1 hfr S.2.1 S.2.2.2.2
    · have hp9 : p < D.nR := nI_nleN h40 (by omega) (by omega)
      have hk7 : ¬ D.dk p = 7 := fun z => hne ⟨hp9, z⟩
      have hR0 : ROW t.nW a (82 + 6 * p) (D.dk p) (D.df p) (D.ds p) := ROW_fr (fun j hj _ => hfr j (Or.inr (by omega))) (hrow p hp9)
      refine wp_aload_n 44 d_Mo_lives_43 rfl rfl ?_
      refine wp_getfield 47 12 44 d_Mo_lives_44 rfl fl_Mo_473 rfl rfl ?_
      refine wp_sipush 50 300 d_Mo_lives_47 rfl (by decide) ?_
      refine wp_icmp_ne 61 53 d_Mo_lives_50 rfl (by decide) (fun h50 => ?_) (fun h50 => ?_)
      · refine wp_bipush 63 82 d_Mo_lives_61 rfl (by decide) ?_
        refine wp_bipush 65 6 d_Mo_lives_63 rfl (by decide) ?_
        refine wp_iload_n 66 d_Mo_lives_65 rfl rfl ?_
        refine wp_imul 67 d_Mo_lives_66 rfl ?_
        rw [show (6 : Int32) * nI p = nI (6 * p) from mulK 6 p]
        refine wp_iadd 68 d_Mo_lives_67 rfl ?_
        rw [show (82 : Int32) + nI (6 * p) = nI (82 + 6 * p) from nI_add 82 _]
        refine wp_istore_3 69 d_Mo_lives_68 rfl rfl rfl ?_
        refine wp_aload_n 70 d_Mo_lives_69 rfl rfl ?_
        refine wp_dup 71 d_Mo_lives_70 rfl rfl ?_
        refine wp_getfield 74 12 44 d_Mo_lives_71 rfl fl_Mo_473 rfl rfl ?_
        refine wp_iconst 75 1 d_Mo_lives_74 rfl (by decide) ?_
        refine wp_iadd 76 d_Mo_lives_75 rfl ?_
        rw [nI_1]
        refine wp_putfield 79 12 44 _ d_Mo_lives_76 rfl fp_Mo_473 rfl rfl (okP_int _) ?_
        refine hEq (hM (a) m_names m_status m_top m_bottom m_sort m_trayMany m_trays m_tape m_text m_taped m_size m_token m_from m_end m_value m_faultKind m_faultPlace m_faults m_seen m_areOdds m_opened m_depth m_counted (sc.2.1) (sc.2.2) (sc.1) m_wayFaults m_wayEast m_wayNorth m_olds m_wayMany m_oneOfSet m_twoOfSet m_farBy m_rowBy m_triedBy m_rowMany m_doneAt m_gotAt m_struckAt m_bestDeed m_misBy (dr) ((nI (st + 1))) (lo) (r) m_told1 m_isTold m_marks) rfl ?_
        refine wp_aload_n 80 d_Mo_lives_79 rfl rfl ?_
        refine wp_getfield 83 12 0 d_Mo_lives_80 rfl fl_Mo_7 rfl rfl ?_
        refine wp_iload_n 84 d_Mo_lives_83 rfl rfl ?_
        refine wp_ialoadN 85 d_Mo_lives_84 rfl rfl rfl (by omega) ?_
        refine wp_bipush 87 19 d_Mo_lives_85 rfl (by decide) ?_
        refine wp_icmp_ne 91 90 d_Mo_lives_87 rfl (by decide) (fun h87 => ?_) (fun h87 => ?_)
        · refine wp_aload_n 92 d_Mo_lives_91 rfl rfl ?_
          refine wp_getfield 95 12 46 d_Mo_lives_92 rfl fl_Mo_95 rfl rfl ?_
          refine wp_iconst 96 0 d_Mo_lives_95 rfl (by decide) ?_
          refine wp_dup2 97 d_Mo_lives_96 rfl rfl rfl ?_
          refine wp_iaload 98 d_Mo_lives_97 rfl rfl (vp_in_nI (n := 0) (N := 5) (by omega) (by omega)) ?_
          rw [show r (0 : Int32).toNatClampNeg = r 0 from rfl]
          refine wp_aload_n 99 d_Mo_lives_98 rfl rfl ?_
          refine wp_iload_n 100 d_Mo_lives_99 rfl rfl ?_
          refine wp_V1 103 M_Mo_does 7 d_Mo_lives_100 rfl mv_Mo_does lk_Mo_476 rfl rfl rfl rfl rfl ?_
          refine c_Mo_does S hR0 (by omega) (fun a2 r2 d2 d hd => ?_)
          have hfr2 : frA m_at a2 := fun j hj => (hd.2.1 j hj).trans (hfr j hj)
          have ha72 : a2 7 = nI D.nR := (hfr2 7 (Or.inl rfl)).trans h7_
          have hrow2 : ∀ r, r < D.nR → ROW t.nW a2 (82 + 6 * r) (D.dk r) (D.df r) (D.ds r) := fun r hr9 => ROW_fr (fun j hj _ => hfr2 j (Or.inr (by omega))) (hrow r hr9)
          have hR2 := hrow2 p hp9
          have es : (stD t (D.dk p) (D.df p) (D.ds p) s).2.2.2.2.2.1 = s.2.2.2.2.2.1 := hd.2.2.2.2.2.2.2.1
          refine kI ?_
          (first | refine wp_ifP_eq 110 106 d_Mo_lives_103 rfl (by decide) (fun h103 => ?_) (fun h103 => ?_) | refine wp_if_eq 110 106 d_Mo_lives_103 rfl (by decide) (fun h103 => ?_) (fun h103 => ?_))
          · have S2 := DP_T0 hd h103
            refine wp_iconst 111 1 d_Mo_lives_110 rfl (by decide) ?_
            refine wp_iadd 112 d_Mo_lives_111 rfl ?_
            refine wp_iastore 113 d_Mo_lives_112 rfl rfl (vp_in_nI (n := 0) (N := 5) (by omega) (by omega)) ?_
            refine hEq (hM (a2) m_names m_status m_top m_bottom m_sort m_trayMany m_trays m_tape m_text m_taped m_size m_token m_from m_end m_value m_faultKind m_faultPlace m_faults m_seen m_areOdds m_opened m_depth m_counted (sc.2.1) (sc.2.2) (sc.1) m_wayFaults m_wayEast m_wayNorth m_olds m_wayMany m_oneOfSet m_twoOfSet m_farBy m_rowBy m_triedBy m_rowMany m_doneAt m_gotAt m_struckAt m_bestDeed m_misBy (d2) ((nI (st + 1))) (lo) (upd r2 0 (r 0 + 1)) m_told1 m_isTold m_marks) rfl ?_
            refine wp_aload_n 114 d_Mo_lives_113 rfl rfl ?_
            refine wp_getfield 117 12 0 d_Mo_lives_114 rfl fl_Mo_7 rfl rfl ?_
            refine wp_iload_n 118 d_Mo_lives_117 rfl rfl ?_
            refine wp_ialoadN 119 d_Mo_lives_118 rfl rfl rfl (by omega) ?_
            refine wp_bipush 121 17 d_Mo_lives_119 rfl (by decide) ?_
            refine wp_icmp_ne 140 124 d_Mo_lives_121 rfl (by decide) (fun h121 => ?_) (fun h121 => ?_)
            · have n6 : ¬ D.dk p = 6 := fun z => h121 ((ROW_17 hR2).mpr z)
              refine wp_aload_n 141 d_Mo_lives_140 rfl rfl ?_
              refine wp_aload_n 142 d_Mo_lives_141 rfl rfl ?_
              refine wp_getfield 145 12 0 d_Mo_lives_142 rfl fl_Mo_7 rfl rfl ?_
              refine wp_iload_n 146 d_Mo_lives_145 rfl rfl ?_
              refine wp_ialoadN 147 d_Mo_lives_146 rfl rfl rfl (by omega) ?_
              refine wp_sipush 150 1600 d_Mo_lives_147 rfl (by decide) ?_
              refine wp_icmp_lt 174 153 d_Mo_lives_150 rfl (by decide) (fun h150 => ?_) (fun h150 => ?_)
              · refine wp_iload_n 175 d_Mo_lives_174 rfl rfl ?_
                refine wp_iconst 176 1 d_Mo_lives_175 rfl (by decide) ?_
                refine wp_iadd 177 d_Mo_lives_176 rfl ?_
                rw [nI_1]
                refine wp_V1 180 M_Mo_behindEnds 1 d_Mo_lives_177 rfl mv_Mo_behindEnds lk_Mo_482 rfl rfl rfl rfl rfl ?_
                have hb : bsT t D p s = (nI (p + 1), stD t (D.dk p) (D.df p) (D.ds p) s) := BS_a hR2 (fun z => h87 ((ROW_19 hR0).mpr z)) hk7 (fun z => absurd h150 (Int32.not_lt.mpr ((ROW_w hR2).mpr ⟨z, n6⟩)))
                have S3 : ST_ t a2 (upd r2 0 (r 0 + 1)) d2 (stD t (D.dk p) (D.df p) (D.ds p) s) := S2
                have hA3 : ACT D (p + 1) (stD t (D.dk p) (D.df p) (D.ds p) s).2.2.2.2.2.1 (lo) := (by rw [es]; exact ACT_n hA n6)
                obtain ⟨i1, i2, f3, lro2, i3, i4, i5⟩ := LV_step hn W (n := n) hp9 hk7 (by omega) hb (by omega) hA3 hf hr
                refine c_Mo_behindEnds (D := D) (nW := t.nW) (n := 160) ha72 hn hrow2 W (by omega) i1 ?_
                refine kI ?_
                refine wp_istore_2 181 d_Mo_lives_180 rfl rfl rfl ?_
                refine wp_goto 32 d_Mo_lives_181 (by decide) ?_
                exact ih _ (st + 1) f3 a2 _ _ d2 _ sc _ (by omega) i2 hfr2 (ST_L S3 lro2) i4 i1 i3 i5
              · have w15 : 1600 ≤ a2 (82 + 6 * p) := Int32.not_lt.mp h150
                refine wp_aload_n 154 d_Mo_lives_153 rfl rfl ?_
                refine wp_iload_n 155 d_Mo_lives_154 rfl rfl ?_
                refine wp_V1 158 M_Mo_holds 8 d_Mo_lives_155 rfl mv_Mo_holds lk_Mo_479 rfl rfl rfl rfl rfl ?_
                have ho : opn (D.dk p) := ((ROW_w hR2).mp w15).1
                rw [STD_o ho] at S2
                refine c_Mo_holds S2.1 hR2 (by omega) w15 (fun sc2 => ?_)
                refine kI ?_
                (first | refine wp_ifP_ne 174 161 d_Mo_lives_158 rfl (by decide) (fun h158 => ?_) (fun h158 => ?_) | refine wp_if_ne 174 161 d_Mo_lives_158 rfl (by decide) (fun h158 => ?_) (fun h158 => ?_))
                · refine wp_iload_n 175 d_Mo_lives_174 rfl rfl ?_
                  refine wp_iconst 176 1 d_Mo_lives_175 rfl (by decide) ?_
                  refine wp_iadd 177 d_Mo_lives_176 rfl ?_
                  rw [nI_1]
                  refine wp_V1 180 M_Mo_behindEnds 1 d_Mo_lives_177 rfl mv_Mo_behindEnds lk_Mo_482 rfl rfl rfl rfl rfl ?_
                  have hb : bsT t D p s = (nI (p + 1), s) := (BS_h (s := s) ho n6).trans (by rw [if_neg h158])
                  have S3 : ST_ t a2 (upd r2 0 (r 0 + 1)) d2 (s) := S2
                  have hA3 : ACT D (p + 1) (s).2.2.2.2.2.1 (lo) := ACT_n hA n6
                  obtain ⟨i1, i2, f3, lro2, i3, i4, i5⟩ := LV_step hn W (n := n) hp9 hk7 (by omega) hb (by omega) hA3 hf hr
                  refine c_Mo_behindEnds (D := D) (nW := t.nW) (n := 160) ha72 hn hrow2 W (by omega) i1 ?_
                  refine kI ?_
                  refine wp_istore_2 181 d_Mo_lives_180 rfl rfl rfl ?_
                  refine wp_goto 32 d_Mo_lives_181 (by decide) ?_
                  exact ih _ (st + 1) f3 a2 _ _ d2 _ sc2 _ (by omega) i2 hfr2 (ST_L S3 lro2) i4 i1 i3 i5
                · obtain ⟨e9, he1, he2, he3, he4, he5⟩ := W.1 p hp9 ho
                  refine wp_aload_n 162 d_Mo_lives_161 rfl rfl ?_
                  refine wp_getfield 165 12 0 d_Mo_lives_162 rfl fl_Mo_7 rfl rfl ?_
                  refine wp_iload_n 166 d_Mo_lives_165 rfl rfl ?_
                  refine wp_iconst 167 4 d_Mo_lives_166 rfl (by decide) ?_
                  refine wp_iadd 168 d_Mo_lives_167 rfl ?_
                  rw [show nI (82 + 6 * p) + 4 = nI (82 + 6 * p + 4) from nI_add _ 4]
                  refine wp_ialoadN 169 d_Mo_lives_168 rfl rfl rfl (by omega) ?_
                  rw [ROW_4 hR2 (Or.inr ho), he3]
                  refine wp_iconst 170 1 d_Mo_lives_169 rfl (by decide) ?_
                  refine wp_iadd 171 d_Mo_lives_170 rfl ?_
                  rw [nI_1]
                  refine wp_goto 177 d_Mo_lives_171 (by decide) ?_
                  refine wp_V1 180 M_Mo_behindEnds 1 d_Mo_lives_177 rfl mv_Mo_behindEnds lk_Mo_482 rfl rfl rfl rfl rfl ?_
                  have hb : bsT t D p s = (nI (e9 + 1), s) := (BS_h (s := s) ho n6).trans (by rw [if_pos h158, he3, nI_1])
                  have S3 : ST_ t a2 (upd r2 0 (r 0 + 1)) d2 (s) := S2
                  have hA3 : ACT D (e9 + 1) (s).2.2.2.2.2.1 (lo) := ACT_e hn W hA ho he3 he1 he2
                  obtain ⟨i1, i2, f3, lro2, i3, i4, i5⟩ := LV_step hn W (n := n) hp9 hk7 (by omega) hb (by omega) hA3 hf hr
                  refine c_Mo_behindEnds (D := D) (nW := t.nW) (n := 160) ha72 hn hrow2 W (by omega) i1 ?_
                  refine kI ?_
                  refine wp_istore_2 181 d_Mo_lives_180 rfl rfl rfl ?_
                  refine wp_goto 32 d_Mo_lives_181 (by decide) ?_
                  exact ih _ (st + 1) f3 a2 _ _ d2 _ sc2 _ (by omega) i2 hfr2 (ST_L S3 lro2) i4 i1 i3 i5
            · have k6 : D.dk p = 6 := (ROW_17 hR2).mp h121
              obtain ⟨⟨n9, g1, g2, g3⟩, hr17⟩ := ROW_17a hR2 k6
              refine wp_aload_n 125 d_Mo_lives_124 rfl rfl ?_
              refine wp_getfield 128 12 45 d_Mo_lives_125 rfl fl_Mo_92 rfl rfl ?_
              refine wp_iload_n 129 d_Mo_lives_128 rfl rfl ?_
              refine wp_aload_n 130 d_Mo_lives_129 rfl rfl ?_
              refine wp_getfield 133 12 0 d_Mo_lives_130 rfl fl_Mo_7 rfl rfl ?_
              refine wp_iload_n 134 d_Mo_lives_133 rfl rfl ?_
              refine wp_iconst 135 1 d_Mo_lives_134 rfl (by decide) ?_
              refine wp_iadd 136 d_Mo_lives_135 rfl ?_
              rw [nI_1]
              refine wp_ialoadN 137 d_Mo_lives_136 rfl rfl rfl (by omega) ?_
              rw [hr17]
              refine wp_iconst 138 1 d_Mo_lives_137 rfl (by decide) ?_
              refine wp_isub 139 d_Mo_lives_138 rfl ?_
              refine wp_iastoreN 140 d_Mo_lives_139 rfl rfl rfl (by omega) ?_
              refine hEq (hM (a2) m_names m_status m_top m_bottom m_sort m_trayMany m_trays m_tape m_text m_taped m_size m_token m_from m_end m_value m_faultKind m_faultPlace m_faults m_seen m_areOdds m_opened m_depth m_counted (sc.2.1) (sc.2.2) (sc.1) m_wayFaults m_wayEast m_wayNorth m_olds m_wayMany m_oneOfSet m_twoOfSet m_farBy m_rowBy m_triedBy m_rowMany m_doneAt m_gotAt m_struckAt m_bestDeed m_misBy (d2) ((nI (st + 1))) (upd lo p (D.df p - 1)) (upd r2 0 (r 0 + 1)) m_told1 m_isTold m_marks) rfl ?_
              refine wp_aload_n 141 d_Mo_lives_140 rfl rfl ?_
              refine wp_aload_n 142 d_Mo_lives_141 rfl rfl ?_
              refine wp_getfield 145 12 0 d_Mo_lives_142 rfl fl_Mo_7 rfl rfl ?_
              refine wp_iload_n 146 d_Mo_lives_145 rfl rfl ?_
              refine wp_ialoadN 147 d_Mo_lives_146 rfl rfl rfl (by omega) ?_
              refine wp_sipush 150 1600 d_Mo_lives_147 rfl (by decide) ?_
              refine wp_icmp_lt 174 153 d_Mo_lives_150 rfl (by decide) (fun h150 => ?_) (fun h150 => ?_)
              · refine wp_iload_n 175 d_Mo_lives_174 rfl rfl ?_
                refine wp_iconst 176 1 d_Mo_lives_175 rfl (by decide) ?_
                refine wp_iadd 177 d_Mo_lives_176 rfl ?_
                rw [nI_1]
                refine wp_V1 180 M_Mo_behindEnds 1 d_Mo_lives_177 rfl mv_Mo_behindEnds lk_Mo_482 rfl rfl rfl rfl rfl ?_
                have hb : bsT t D p s = (nI (p + 1), stLo p (D.df p) s) := BS_6 (s := s) k6
                have S3 : ST_ t a2 (upd r2 0 (r 0 + 1)) d2 (stLo p (D.df p) s) := ST_L (by rw [STD_o (Or.inl k6)] at S2; exact S2 : ST_ t a2 _ d2 s) (upd s.2.2.2.2.2.1 p (D.df p))
                have hA3 : ACT D (p + 1) (stLo p (D.df p) s).2.2.2.2.2.1 (upd lo p (D.df p - 1)) := ACT_l hA g1 g2 g3
                obtain ⟨i1, i2, f3, lro2, i3, i4, i5⟩ := LV_step hn W (n := n) hp9 hk7 (by omega) hb (by omega) hA3 hf hr
                refine c_Mo_behindEnds (D := D) (nW := t.nW) (n := 160) ha72 hn hrow2 W (by omega) i1 ?_
                refine kI ?_
                refine wp_istore_2 181 d_Mo_lives_180 rfl rfl rfl ?_
                refine wp_goto 32 d_Mo_lives_181 (by decide) ?_
                exact ih _ (st + 1) f3 a2 _ _ d2 _ sc _ (by omega) i2 hfr2 (ST_L S3 lro2) i4 i1 i3 i5
              · exact absurd k6 ((ROW_w hR2).mp (Int32.not_lt.mp h150)).2
          · have S2 := DP_T1 hd h103
            refine wp_iconst 107 0 d_Mo_lives_106 rfl (by decide) ?_
            refine wp_goto 111 d_Mo_lives_107 (by decide) ?_
            refine wp_iadd 112 d_Mo_lives_111 rfl ?_
            refine wp_iastore 113 d_Mo_lives_112 rfl rfl (vp_in_nI (n := 0) (N := 5) (by omega) (by omega)) ?_
            refine hEq (hM (a2) m_names m_status m_top m_bottom m_sort m_trayMany m_trays m_tape m_text m_taped m_size m_token m_from m_end m_value m_faultKind m_faultPlace m_faults m_seen m_areOdds m_opened m_depth m_counted (sc.2.1) (sc.2.2) (sc.1) m_wayFaults m_wayEast m_wayNorth m_olds m_wayMany m_oneOfSet m_twoOfSet m_farBy m_rowBy m_triedBy m_rowMany m_doneAt m_gotAt m_struckAt m_bestDeed m_misBy (d2) ((nI (st + 1))) (lo) (upd r2 0 (r 0 + 0)) m_told1 m_isTold m_marks) rfl ?_
            refine wp_aload_n 114 d_Mo_lives_113 rfl rfl ?_
            refine wp_getfield 117 12 0 d_Mo_lives_114 rfl fl_Mo_7 rfl rfl ?_
            refine wp_iload_n 118 d_Mo_lives_117 rfl rfl ?_
            refine wp_ialoadN 119 d_Mo_lives_118 rfl rfl rfl (by omega) ?_
            refine wp_bipush 121 17 d_Mo_lives_119 rfl (by decide) ?_
            refine wp_icmp_ne 140 124 d_Mo_lives_121 rfl (by decide) (fun h121 => ?_) (fun h121 => ?_)
            · have n6 : ¬ D.dk p = 6 := fun z => h121 ((ROW_17 hR2).mpr z)
              refine wp_aload_n 141 d_Mo_lives_140 rfl rfl ?_
              refine wp_aload_n 142 d_Mo_lives_141 rfl rfl ?_
              refine wp_getfield 145 12 0 d_Mo_lives_142 rfl fl_Mo_7 rfl rfl ?_
              refine wp_iload_n 146 d_Mo_lives_145 rfl rfl ?_
              refine wp_ialoadN 147 d_Mo_lives_146 rfl rfl rfl (by omega) ?_
              refine wp_sipush 150 1600 d_Mo_lives_147 rfl (by decide) ?_
              refine wp_icmp_lt 174 153 d_Mo_lives_150 rfl (by decide) (fun h150 => ?_) (fun h150 => ?_)
              · refine wp_iload_n 175 d_Mo_lives_174 rfl rfl ?_
                refine wp_iconst 176 1 d_Mo_lives_175 rfl (by decide) ?_
                refine wp_iadd 177 d_Mo_lives_176 rfl ?_
                rw [nI_1]
                refine wp_V1 180 M_Mo_behindEnds 1 d_Mo_lives_177 rfl mv_Mo_behindEnds lk_Mo_482 rfl rfl rfl rfl rfl ?_
                have hb : bsT t D p s = (nI (p + 1), stD t (D.dk p) (D.df p) (D.ds p) s) := BS_a hR2 (fun z => h87 ((ROW_19 hR0).mpr z)) hk7 (fun z => absurd h150 (Int32.not_lt.mpr ((ROW_w hR2).mpr ⟨z, n6⟩)))
                have S3 : ST_ t a2 (upd r2 0 (r 0 + 0)) d2 (stD t (D.dk p) (D.df p) (D.ds p) s) := S2
                have hA3 : ACT D (p + 1) (stD t (D.dk p) (D.df p) (D.ds p) s).2.2.2.2.2.1 (lo) := (by rw [es]; exact ACT_n hA n6)
                obtain ⟨i1, i2, f3, lro2, i3, i4, i5⟩ := LV_step hn W (n := n) hp9 hk7 (by omega) hb (by omega) hA3 hf hr
                refine c_Mo_behindEnds (D := D) (nW := t.nW) (n := 160) ha72 hn hrow2 W (by omega) i1 ?_
                refine kI ?_
                refine wp_istore_2 181 d_Mo_lives_180 rfl rfl rfl ?_
                refine wp_goto 32 d_Mo_lives_181 (by decide) ?_
                exact ih _ (st + 1) f3 a2 _ _ d2 _ sc _ (by omega) i2 hfr2 (ST_L S3 lro2) i4 i1 i3 i5
              · have w15 : 1600 ≤ a2 (82 + 6 * p) := Int32.not_lt.mp h150
                refine wp_aload_n 154 d_Mo_lives_153 rfl rfl ?_
                refine wp_iload_n 155 d_Mo_lives_154 rfl rfl ?_
                refine wp_V1 158 M_Mo_holds 8 d_Mo_lives_155 rfl mv_Mo_holds lk_Mo_479 rfl rfl rfl rfl rfl ?_
                have ho : opn (D.dk p) := ((ROW_w hR2).mp w15).1
                rw [STD_o ho] at S2
                refine c_Mo_holds S2.1 hR2 (by omega) w15 (fun sc2 => ?_)
                refine kI ?_
                (first | refine wp_ifP_ne 174 161 d_Mo_lives_158 rfl (by decide) (fun h158 => ?_) (fun h158 => ?_) | refine wp_if_ne 174 161 d_Mo_lives_158 rfl (by decide) (fun h158 => ?_) (fun h158 => ?_))
                · refine wp_iload_n 175 d_Mo_lives_174 rfl rfl ?_
                  refine wp_iconst 176 1 d_Mo_lives_175 rfl (by decide) ?_
                  refine wp_iadd 177 d_Mo_lives_176 rfl ?_
                  rw [nI_1]
                  refine wp_V1 180 M_Mo_behindEnds 1 d_Mo_lives_177 rfl mv_Mo_behindEnds lk_Mo_482 rfl rfl rfl rfl rfl ?_
                  have hb : bsT t D p s = (nI (p + 1), s) := (BS_h (s := s) ho n6).trans (by rw [if_neg h158])
                  have S3 : ST_ t a2 (upd r2 0 (r 0 + 0)) d2 (s) := S2
                  have hA3 : ACT D (p + 1) (s).2.2.2.2.2.1 (lo) := ACT_n hA n6
                  obtain ⟨i1, i2, f3, lro2, i3, i4, i5⟩ := LV_step hn W (n := n) hp9 hk7 (by omega) hb (by omega) hA3 hf hr
                  refine c_Mo_behindEnds (D := D) (nW := t.nW) (n := 160) ha72 hn hrow2 W (by omega) i1 ?_
                  refine kI ?_
                  refine wp_istore_2 181 d_Mo_lives_180 rfl rfl rfl ?_
                  refine wp_goto 32 d_Mo_lives_181 (by decide) ?_
                  exact ih _ (st + 1) f3 a2 _ _ d2 _ sc2 _ (by omega) i2 hfr2 (ST_L S3 lro2) i4 i1 i3 i5
                · obtain ⟨e9, he1, he2, he3, he4, he5⟩ := W.1 p hp9 ho
                  refine wp_aload_n 162 d_Mo_lives_161 rfl rfl ?_
                  refine wp_getfield 165 12 0 d_Mo_lives_162 rfl fl_Mo_7 rfl rfl ?_
                  refine wp_iload_n 166 d_Mo_lives_165 rfl rfl ?_
                  refine wp_iconst 167 4 d_Mo_lives_166 rfl (by decide) ?_
                  refine wp_iadd 168 d_Mo_lives_167 rfl ?_
                  rw [show nI (82 + 6 * p) + 4 = nI (82 + 6 * p + 4) from nI_add _ 4]
                  refine wp_ialoadN 169 d_Mo_lives_168 rfl rfl rfl (by omega) ?_
                  rw [ROW_4 hR2 (Or.inr ho), he3]
                  refine wp_iconst 170 1 d_Mo_lives_169 rfl (by decide) ?_
                  refine wp_iadd 171 d_Mo_lives_170 rfl ?_
                  rw [nI_1]
                  refine wp_goto 177 d_Mo_lives_171 (by decide) ?_
                  refine wp_V1 180 M_Mo_behindEnds 1 d_Mo_lives_177 rfl mv_Mo_behindEnds lk_Mo_482 rfl rfl rfl rfl rfl ?_
                  have hb : bsT t D p s = (nI (e9 + 1), s) := (BS_h (s := s) ho n6).trans (by rw [if_pos h158, he3, nI_1])
                  have S3 : ST_ t a2 (upd r2 0 (r 0 + 0)) d2 (s) := S2
                  have hA3 : ACT D (e9 + 1) (s).2.2.2.2.2.1 (lo) := ACT_e hn W hA ho he3 he1 he2
                  obtain ⟨i1, i2, f3, lro2, i3, i4, i5⟩ := LV_step hn W (n := n) hp9 hk7 (by omega) hb (by omega) hA3 hf hr
                  refine c_Mo_behindEnds (D := D) (nW := t.nW) (n := 160) ha72 hn hrow2 W (by omega) i1 ?_
                  refine kI ?_
                  refine wp_istore_2 181 d_Mo_lives_180 rfl rfl rfl ?_
                  refine wp_goto 32 d_Mo_lives_181 (by decide) ?_
                  exact ih _ (st + 1) f3 a2 _ _ d2 _ sc2 _ (by omega) i2 hfr2 (ST_L S3 lro2) i4 i1 i3 i5
            · have k6 : D.dk p = 6 := (ROW_17 hR2).mp h121
              obtain ⟨⟨n9, g1, g2, g3⟩, hr17⟩ := ROW_17a hR2 k6
              refine wp_aload_n 125 d_Mo_lives_124 rfl rfl ?_
              refine wp_getfield 128 12 45 d_Mo_lives_125 rfl fl_Mo_92 rfl rfl ?_
              refine wp_iload_n 129 d_Mo_lives_128 rfl rfl ?_
              refine wp_aload_n 130 d_Mo_lives_129 rfl rfl ?_
              refine wp_getfield 133 12 0 d_Mo_lives_130 rfl fl_Mo_7 rfl rfl ?_
              refine wp_iload_n 134 d_Mo_lives_133 rfl rfl ?_
              refine wp_iconst 135 1 d_Mo_lives_134 rfl (by decide) ?_
              refine wp_iadd 136 d_Mo_lives_135 rfl ?_
              rw [nI_1]
              refine wp_ialoadN 137 d_Mo_lives_136 rfl rfl rfl (by omega) ?_
              rw [hr17]
              refine wp_iconst 138 1 d_Mo_lives_137 rfl (by decide) ?_
              refine wp_isub 139 d_Mo_lives_138 rfl ?_
              refine wp_iastoreN 140 d_Mo_lives_139 rfl rfl rfl (by omega) ?_
              refine hEq (hM (a2) m_names m_status m_top m_bottom m_sort m_trayMany m_trays m_tape m_text m_taped m_size m_token m_from m_end m_value m_faultKind m_faultPlace m_faults m_seen m_areOdds m_opened m_depth m_counted (sc.2.1) (sc.2.2) (sc.1) m_wayFaults m_wayEast m_wayNorth m_olds m_wayMany m_oneOfSet m_twoOfSet m_farBy m_rowBy m_triedBy m_rowMany m_doneAt m_gotAt m_struckAt m_bestDeed m_misBy (d2) ((nI (st + 1))) (upd lo p (D.df p - 1)) (upd r2 0 (r 0 + 0)) m_told1 m_isTold m_marks) rfl ?_
              refine wp_aload_n 141 d_Mo_lives_140 rfl rfl ?_
              refine wp_aload_n 142 d_Mo_lives_141 rfl rfl ?_
              refine wp_getfield 145 12 0 d_Mo_lives_142 rfl fl_Mo_7 rfl rfl ?_
              refine wp_iload_n 146 d_Mo_lives_145 rfl rfl ?_
              refine wp_ialoadN 147 d_Mo_lives_146 rfl rfl rfl (by omega) ?_
              refine wp_sipush 150 1600 d_Mo_lives_147 rfl (by decide) ?_
              refine wp_icmp_lt 174 153 d_Mo_lives_150 rfl (by decide) (fun h150 => ?_) (fun h150 => ?_)
              · refine wp_iload_n 175 d_Mo_lives_174 rfl rfl ?_
                refine wp_iconst 176 1 d_Mo_lives_175 rfl (by decide) ?_
                refine wp_iadd 177 d_Mo_lives_176 rfl ?_
                rw [nI_1]
                refine wp_V1 180 M_Mo_behindEnds 1 d_Mo_lives_177 rfl mv_Mo_behindEnds lk_Mo_482 rfl rfl rfl rfl rfl ?_
                have hb : bsT t D p s = (nI (p + 1), stLo p (D.df p) s) := BS_6 (s := s) k6
                have S3 : ST_ t a2 (upd r2 0 (r 0 + 0)) d2 (stLo p (D.df p) s) := ST_L (by rw [STD_o (Or.inl k6)] at S2; exact S2 : ST_ t a2 _ d2 s) (upd s.2.2.2.2.2.1 p (D.df p))
                have hA3 : ACT D (p + 1) (stLo p (D.df p) s).2.2.2.2.2.1 (upd lo p (D.df p - 1)) := ACT_l hA g1 g2 g3
                obtain ⟨i1, i2, f3, lro2, i3, i4, i5⟩ := LV_step hn W (n := n) hp9 hk7 (by omega) hb (by omega) hA3 hf hr
                refine c_Mo_behindEnds (D := D) (nW := t.nW) (n := 160) ha72 hn hrow2 W (by omega) i1 ?_
                refine kI ?_
                refine wp_istore_2 181 d_Mo_lives_180 rfl rfl rfl ?_
                refine wp_goto 32 d_Mo_lives_181 (by decide) ?_
                exact ih _ (st + 1) f3 a2 _ _ d2 _ sc _ (by omega) i2 hfr2 (ST_L S3 lro2) i4 i1 i3 i5
              · exact absurd k6 ((ROW_w hR2).mp (Int32.not_lt.mp h150)).2
        · refine wp_return d_Mo_lives_90 rfl ?_
          have e := LV_5 hp9 hn hk7 (by omega) ((ROW_19 hR0).mp h87) (by omega) hr
          subst e
          exact hq a r lo dr sc S.1 hfr S.2.1 S.2.2.2.2
      · exact absurd (nI_ij (b := 300) h50 (by omega) (by omega)) (by omega)
set_option maxRecDepth 100000 in
set_option maxHeartbeats 4000000 in
theorem l_Mo_lives_12 {sd : Int32} (hq : ∀ (r : Nat → Int32) (w3 : Option Value), (∀ j, j < 5 → r j = 0) → WP Γ M_Mo_lives 9 0 0 (hM m_at m_names m_status m_top m_bottom m_sort m_trayMany m_trays m_tape m_text m_taped m_size m_token m_from m_end m_value m_faultKind m_faultPlace m_faults m_seen m_areOdds m_opened m_depth m_counted m_eastBy m_northBy m_partBy m_wayFaults m_wayEast m_wayNorth m_olds m_wayMany m_oneOfSet m_twoOfSet m_farBy m_rowBy m_triedBy m_rowMany m_doneAt m_gotAt m_struckAt m_bestDeed m_misBy (sd) (0) m_loops (r) m_told1 m_isTold m_marks) 32 [some (.ref 0), some (.int sd), some (.int (nI 0)), w3] [] Q) : ∀ (n i : Nat) (r : Nat → Int32) (w3 : Option Value), i + n = 5 → (∀ j, j < i → r j = 0) → WP Γ M_Mo_lives 9 0 0 (hM m_at m_names m_status m_top m_bottom m_sort m_trayMany m_trays m_tape m_text m_taped m_size m_token m_from m_end m_value m_faultKind m_faultPlace m_faults m_seen m_areOdds m_opened m_depth m_counted m_eastBy m_northBy m_partBy m_wayFaults m_wayEast m_wayNorth m_olds m_wayMany m_oneOfSet m_twoOfSet m_farBy m_rowBy m_triedBy m_rowMany m_doneAt m_gotAt m_struckAt m_bestDeed m_misBy (sd) (0) m_loops (r) m_told1 m_isTold m_marks) 12 [some (.ref 0), some (.int sd), some (.int (nI i)), w3] [] Q := by
  intro n
  induction n with
  | zero =>
    intro i r w3 hi h0
    refine wp_iload_n 13 d_Mo_lives_12 rfl rfl ?_
    refine wp_iconst 14 5 d_Mo_lives_13 rfl (by decide) ?_
    refine wp_icmp_ge 30 17 d_Mo_lives_14 rfl (by decide) (fun h14 => ?_) (fun h14 => ?_)
    · refine wp_iconst 31 0 d_Mo_lives_30 rfl (by decide) ?_
      refine wp_istore_2 32 d_Mo_lives_31 rfl rfl rfl ?_
      exact hq r w3 (fun j hj => h0 j (by omega))
    · exact absurd (nI_ltN (b := 5) (Int32.not_le.mp h14) (by omega) (by omega)) (by omega)
  | succ n ih =>
    intro i r w3 hi h0
    refine wp_iload_n 13 d_Mo_lives_12 rfl rfl ?_
    refine wp_iconst 14 5 d_Mo_lives_13 rfl (by decide) ?_
    refine wp_icmp_ge 30 17 d_Mo_lives_14 rfl (by decide) (fun h14 => ?_) (fun h14 => ?_)
    · exact absurd (nI_leN (b := 5) h14 (by omega) (by omega)) (by omega)
    · refine wp_aload_n 18 d_Mo_lives_17 rfl rfl ?_
      refine wp_getfield 21 12 46 d_Mo_lives_18 rfl fl_Mo_95 rfl rfl ?_
      refine wp_iload_n 22 d_Mo_lives_21 rfl rfl ?_
      refine wp_iconst 23 0 d_Mo_lives_22 rfl (by decide) ?_
      refine wp_iastoreN 24 d_Mo_lives_23 rfl rfl rfl (by omega) ?_
      refine hEq (hM m_at m_names m_status m_top m_bottom m_sort m_trayMany m_trays m_tape m_text m_taped m_size m_token m_from m_end m_value m_faultKind m_faultPlace m_faults m_seen m_areOdds m_opened m_depth m_counted m_eastBy m_northBy m_partBy m_wayFaults m_wayEast m_wayNorth m_olds m_wayMany m_oneOfSet m_twoOfSet m_farBy m_rowBy m_triedBy m_rowMany m_doneAt m_gotAt m_struckAt m_bestDeed m_misBy (sd) (0) m_loops (upd r i 0) m_told1 m_isTold m_marks) rfl ?_
      first | refine wp_iincN_2 27 d_Mo_lives_24 rfl rfl rfl ?_ | refine wp_iinc_2 27 1 d_Mo_lives_24 rfl (by decide) rfl rfl ?_
      refine wp_goto 12 d_Mo_lives_27 (by decide) ?_
      refine ih (i + 1) (upd r i 0) w3 (by omega) (fun j hj => ?_)
      by_cases z : j = i
      · rw [z, upd_at]
      · rw [upd_ne z]; exact h0 j (by omega)
set_option maxRecDepth 100000 in
set_option maxHeartbeats 4000000 in
theorem c_Mo_lives {D : DW} {sd : Int32} {lco lro : Nat → Int32} (V : vT m_at t) (K : SKo t) (hs : okDr sd) (hn : D.nR ≤ 60) (h7_ : m_at 7 = nI D.nR) (hrow : ∀ r, r < D.nR → ROW t.nW m_at (82 + 6 * r) (D.dk r) (D.df r) (D.ds r)) (W : WFD D) (hq : ∀ (a2 r2 l2 : Nat → Int32) (d2 : Int32) (sc : MS), vT a2 (tLt t (tLv t D sd lco lro).2) → frA m_at a2 → (∀ j, j < 5 → r2 j = (tLv t D sd lco lro).2.2.2.2.2.1 j) → SKo (tLt t (tLv t D sd lco lro).2) → Q none (hM (a2) m_names m_status m_top m_bottom m_sort m_trayMany m_trays m_tape m_text m_taped m_size m_token m_from m_end m_value m_faultKind m_faultPlace m_faults m_seen m_areOdds m_opened m_depth m_counted (sc.2.1) (sc.2.2) (sc.1) m_wayFaults m_wayEast m_wayNorth m_olds m_wayMany m_oneOfSet m_twoOfSet m_farBy m_rowBy m_triedBy m_rowMany m_doneAt m_gotAt m_struckAt m_bestDeed m_misBy (d2) ((tLv t D sd lco lro).1) (l2) (r2) m_told1 m_isTold m_marks)) : Call Γ M_Mo_lives 9 0 0 [.ref 0, .int sd] (hM m_at m_names m_status m_top m_bottom m_sort m_trayMany m_trays m_tape m_text m_taped m_size m_token m_from m_end m_value m_faultKind m_faultPlace m_faults m_seen m_areOdds m_opened m_depth m_counted m_eastBy m_northBy m_partBy m_wayFaults m_wayEast m_wayNorth m_olds m_wayMany m_oneOfSet m_twoOfSet m_farBy m_rowBy m_triedBy m_rowMany m_doneAt m_gotAt m_struckAt m_bestDeed m_misBy m_drawn m_ranSteps m_loops m_ran m_told1 m_isTold m_marks) Q := by
  refine call_intro (ls := [some (.ref 0), some (.int sd), none, none]) rfl rfl rfl ?_
  refine wp_aload_n 1 d_Mo_lives_0 rfl rfl ?_
  refine wp_iload_n 2 d_Mo_lives_1 rfl rfl ?_
  refine wp_putfield 5 12 43 _ d_Mo_lives_2 rfl fp_Mo_456 rfl rfl (okP_int _) ?_
  refine hEq (hM m_at m_names m_status m_top m_bottom m_sort m_trayMany m_trays m_tape m_text m_taped m_size m_token m_from m_end m_value m_faultKind m_faultPlace m_faults m_seen m_areOdds m_opened m_depth m_counted m_eastBy m_northBy m_partBy m_wayFaults m_wayEast m_wayNorth m_olds m_wayMany m_oneOfSet m_twoOfSet m_farBy m_rowBy m_triedBy m_rowMany m_doneAt m_gotAt m_struckAt m_bestDeed m_misBy (sd) m_ranSteps m_loops m_ran m_told1 m_isTold m_marks) rfl ?_
  refine wp_aload_n 6 d_Mo_lives_5 rfl rfl ?_
  refine wp_iconst 7 0 d_Mo_lives_6 rfl (by decide) ?_
  refine wp_putfield 10 12 44 _ d_Mo_lives_7 rfl fp_Mo_473 rfl rfl (okP_int _) ?_
  refine hEq (hM m_at m_names m_status m_top m_bottom m_sort m_trayMany m_trays m_tape m_text m_taped m_size m_token m_from m_end m_value m_faultKind m_faultPlace m_faults m_seen m_areOdds m_opened m_depth m_counted m_eastBy m_northBy m_partBy m_wayFaults m_wayEast m_wayNorth m_olds m_wayMany m_oneOfSet m_twoOfSet m_farBy m_rowBy m_triedBy m_rowMany m_doneAt m_gotAt m_struckAt m_bestDeed m_misBy (sd) (0) m_loops m_ran m_told1 m_isTold m_marks) rfl ?_
  refine wp_iconst 11 0 d_Mo_lives_10 rfl (by decide) ?_
  refine wp_istore_2 12 d_Mo_lives_11 rfl rfl rfl ?_
  refine l_Mo_lives_12 (fun r w3 hr => ?_) 5 0 m_ran none rfl (fun j hj => absurd hj (by omega))
  have S : ST_ t m_at r sd (t.fa, t.sk, t.sd, t.go, fil 5 0 lco, lro, sd) := ⟨V, fun j hj => (hr j hj).trans (if_pos hj).symm, rfl, hs, K⟩
  exact l_Mo_lives_32 hn h7_ hrow W hq 300 0 0 1000000 m_at r m_loops sd (t.fa, t.sk, t.sd, t.go, fil 5 0 lco, lro, sd) (m_partBy, m_eastBy, m_northBy) w3 rfl (by omega) frA.rf S (fun b e _ _ _ _ h _ => absurd h (by omega)) (fun z => by obtain ⟨b, hb, -⟩ := W.2.1 0 z.1 z.2; omega) (by omega) tLv_e

end TA9
