/-! ===== the law: what holds between its two objects ===== -/
def LR (Y : Nat → YT) (X : XT) (T : TW) (S : TW) (M : Nat → TW) (D : DW) (E : DW) (N : Nat → DW) (C : CH) (U : UT) (W : WT) (L : LT) (VL : Nat → Int32) (HL : Int32) (nK : Nat) (m_at : Nat → Int32) (m_names : Nat → Int64) (m_sort : Nat → Int32) (m_trayMany : Nat → Int32) (m_trays : Nat → Int64) (m_tape : Nat → Int32) (m_faultKind : Int32) (m_faultPlace : Int32) (m_told1 : Nat → Int32) (m_isTold : Int32) : Prop := REL T S D E M N nK m_at m_names ∧ vY m_sort m_trayMany m_trays Y ∧ (∀ k, (Y k).nM ≤ 60) ∧ X.nF ≤ 900 ∧ X.co = co0_ ∧ RX X.by_ m_tape X.nF ∧ m_faultKind = X.fk ∧ m_faultPlace = X.fp ∧ m_isTold = HL ∧ (∀ j, j < 5 → m_told1 j = VL j) ∧ SO C U W L
/-- behind a call the law goes on *at its counter* -/
def LNX (Γ : Gm) (cb sb i : Nat) (Q : Option Value → LH → Prop) : Prop := ∀ (Y : Nat → YT) (X : XT) (T : TW) (S : TW) (M : Nat → TW) (D : DW) (E : DW) (N : Nat → DW) (C : CH) (U : UT) (W : WT) (G : GT) (L : LT) (VL : Nat → Int32) (HL : Int32) (nK : Nat) (ST : Int32) (TP : Int64) (BT : Int64) (m_at : Nat → Int32) (m_names : Nat → Int64) (m_sort : Nat → Int32) (m_trayMany : Nat → Int32) (m_trays : Nat → Int64) (m_tape : Nat → Int32) (m_text : Nat → Int32) (m_size : Int32) (m_token : Int32) (m_from : Int32) (m_end : Int32) (m_value : Int32) (m_faultKind : Int32) (m_faultPlace : Int32) (m_faults : Int32) (m_seen : Int32) (m_areOdds : Int32) (m_opened : Nat → Int32) (m_depth : Int32) (m_counted : Int32) (m_eastBy : Nat → Int32) (m_northBy : Nat → Int32) (m_partBy : Nat → Int32) (m_wayFaults : Nat → Int32) (m_wayEast : Nat → Int32) (m_wayNorth : Nat → Int32) (m_olds : Nat → Int32) (m_wayMany : Int32) (m_oneOfSet : Int32) (m_twoOfSet : Int32) (m_farBy : Nat → Int32) (m_rowBy : Nat → Int32) (m_triedBy : Nat → Int32) (m_rowMany : Int32) (m_doneAt : Nat → Int32) (m_gotAt : Nat → Int32) (m_struckAt : Nat → Int32) (m_bestDeed : Nat → Int32) (m_misBy : Nat → Int64) (m_drawn : Int32) (m_ranSteps : Int32) (m_loops : Nat → Int32) (m_ran : Nat → Int32) (m_told1 : Nat → Int32) (m_isTold : Int32), LR Y X T S M D E N C U W L VL HL nK m_at m_names m_sort m_trayMany m_trays m_tape m_faultKind m_faultPlace m_told1 m_isTold → WP Γ M_Law_law 20 cb sb (lawH (hPM Y X T S M D E N C U W G L VL HL nK ST TP BT) (hM m_at m_names (ST) (TP) (BT) m_sort m_trayMany m_trays m_tape m_text ((nI X.nF)) m_size m_token m_from m_end m_value m_faultKind m_faultPlace m_faults m_seen m_areOdds m_opened m_depth m_counted m_eastBy m_northBy m_partBy m_wayFaults m_wayEast m_wayNorth m_olds m_wayMany m_oneOfSet m_twoOfSet m_farBy m_rowBy m_triedBy m_rowMany m_doneAt m_gotAt m_struckAt m_bestDeed m_misBy m_drawn m_ranSteps m_loops m_ran m_told1 m_isTold ((nI nK)))) 1539 [some (.ref (XB + 4)), some (.ref 0), some (.ref 124), some (.int (nI i))] [] Q
section TB7
variable {Γ : Gm} {μ : MI} {d cb sb : Nat} {h : LH} {pc : Nat} {ls : Lo} {st : List Value} {Q : Option Value → LH → Prop} {P M P2 M2 : LH}
theorem wp_less {a b : Nat} (k : WP Γ μ d cb sb h pc ls st Q) : WP Γ μ d (cb + a) (sb + b) h pc ls st Q := by
  intro p l e R s m args below meth c H locs cells slots A ρ ρ0 n0 mc ms lsr F D
  obtain ⟨d1, d2, d3, d4, d5, d6, d7, d8, d9, d10, d11, d12⟩ := D
  exact k p l e R s m args below meth c H locs cells slots A ρ ρ0 n0 mc ms lsr F ⟨d1, d2, d3, d4, d5, d6, by omega, d8, d9, by omega, by omega, d12⟩
theorem wp_sldN (q : Nat) {j : Nat} (hd : decode μ.2.1 pc = .ok (.iaload, 1)) (hp : pc + 1 = q) (hL : Γ.2.2.2.1 ≤ 3072) (hj : j < Γ.2.2.2.1) (k : WP Γ μ d cb sb h q ls (.int (Γ.2.2.2.2 j) :: st) Q) : WP Γ μ d cb sb h pc ls (.int (nI j) :: .ref (XB + 4) :: st) Q := by
  refine wp_sld q hd hp (vp_in_nI hj (by omega)) ?_
  rw [nI_clamp (by omega)]
  exact k
theorem lkI {q : Nat} {x : Int32} (hP : P2.length = 124) (k : WP Γ μ d cb sb (lawH P2 M) q ls (.int x :: st) Q) : KP Γ μ d cb sb q M ls st Q (some (.int x)) P2 := ⟨hP, k⟩
theorem lkL {q : Nat} {x : Int64} (hP : P2.length = 124) (k : WP Γ μ d cb sb (lawH P2 M) q ls (.long x :: st) Q) : KP Γ μ d cb sb q M ls st Q (some (.long x)) P2 := ⟨hP, k⟩
theorem mkI {q : Nat} {x : Int32} (hM : M2.length = 27) (k : WP Γ μ d cb sb (lawH P M2) q ls (.int x :: st) Q) : KM Γ μ d cb sb q P ls st Q (some (.int x)) M2 := ⟨hM, fun y e => by injection e with e; subst e; rfl, k⟩
theorem mkL {q : Nat} {x : Int64} (hM : M2.length = 27) (k : WP Γ μ d cb sb (lawH P M2) q ls (.long x :: st) Q) : KM Γ μ d cb sb q P ls st Q (some (.long x)) M2 := ⟨hM, fun y e => by injection e with e; subst e; rfl, k⟩
end TB7
theorem updY_nM {Y : Nat → YT} {j : Nat} {y : YT} (h : ∀ k, (Y k).nM ≤ 60) (hy : y.nM ≤ 60) : ∀ k, (updY Y j y k).nM ≤ 60 := by
  intro k
  by_cases c : k = j
  · rw [c, updY_at]; exact hy
  · rw [updY_ne c]; exact h k
theorem trF_nM {Y : Nat → YT} {a b c : Int32} (h : ∀ k, (Y k).nM ≤ 60) : ∀ k, ((trF Y a b c).2.2 k).nM ≤ 60 := by
  unfold trF
  split
  · rename_i hc
    obtain ⟨i, i1, i2⟩ := inR_ex (n := 61) hc.2.2 (by omega)
    refine updY_nM h ?_
    show c.toNatClampNeg ≤ 60
    rw [i2, nI_clamp (by omega)]
    omega
  · exact h
theorem wrF_nM {Y : Nat → YT} {a b : Int32} {v : Int64} (h : ∀ k, (Y k).nM ≤ 60) : ∀ k, ((wrF Y a b v).2.2 k).nM ≤ 60 := by
  unfold wrF
  split
  · exact updY_nM h (h _)
  · exact h
theorem poY_nM {Y : Nat → YT} {f p t a m : Nat} (h : ∀ k, (Y k).nM ≤ 60) : ∀ k, (poY Y f p t a m k).nM ≤ 60 := updY_nM h (h _)
theorem cpY_nM {T : TW} {Y : Nat → YT} {k : Nat} (h : ∀ j, (Y j).nM ≤ 60) : ∀ j, (cpY T Y k j).nM ≤ 60 := by
  unfold cpY
  refine iterN_all (P := fun Z : Nat → YT => ∀ j, (Z j).nM ≤ 60) T.nP (fun n s _ hs => ?_) T.nP 0 Y (by omega) h
  unfold cpH
  refine updY_nM (updY_nM hs ?_) ?_
  · exact hs k
  · show (updY s k (yPut (s k) (2 * n) (tX T n).toInt64) k).nM ≤ 60
    rw [updY_at]
    exact hs k
theorem nI_none {L n : Nat} {v : Int32} (h : v < 0 ∨ nI n < v) (e : v = nI L) (hL : L ≤ n) (hn : n ≤ 900) : False := by
  rw [e] at h
  rcases h with z | z
  · exact absurd z (Int32.not_lt.mpr (show nI 0 ≤ nI L from (nI_leI (by omega) (by omega)).mpr (by omega)))
  · have := (nI_ltI (by omega) (by omega)).mp z
    omega
theorem LR_KK {Y : Nat → YT} {X : XT} {T S : TW} {M : Nat → TW} {D E : DW} {N : Nat → DW} {C : CH} {U : UT} {W : WT} {L : LT} {VL m_at m_sort m_trayMany m_tape m_told1 : Nat → Int32} {HL m_faultKind m_faultPlace m_isTold : Int32} {nK : Nat} {m_names m_trays : Nat → Int64} (R : LR Y X T S M D E N C U W L VL HL nK m_at m_names m_sort m_trayMany m_trays m_tape m_faultKind m_faultPlace m_told1 m_isTold) : ∀ (L9 : Nat) (x : Nat → Int32), L9 ≤ X.nF → (∀ j, j < L9 → x j = m_tape j) → TKs co0_ x L9 (tkK X L9) := by
  obtain ⟨hR, hv, hY, hF, hco, hX, hfk, hfp, hto, htj, hSO⟩ := R
  intro L9 x h1 h2
  have t : TKs X.co X.by_ L9 (tkK X L9) := TKs_begin (by omega)
  rw [hco] at t
  exact TKs_c (fun j hj => ((hX j (by omega)).1).trans (h2 j hj).symm) t
theorem LR_town9 {k : Nat} {a2 : Nat → Int32} {n2 : Nat → Int64} {Y : Nat → YT} {X : XT} {T S : TW} {M : Nat → TW} {D E : DW} {N : Nat → DW} {C : CH} {U : UT} {W : WT} {L : LT} {VL m_at m_sort m_trayMany m_tape m_told1 : Nat → Int32} {HL m_faultKind m_faultPlace m_isTold : Int32} {nK : Nat} {m_names m_trays : Nat → Int64} (R : LR Y X T S M D E N C U W L VL HL nK m_at m_names m_sort m_trayMany m_trays m_tape m_faultKind m_faultPlace m_told1 m_isTold) (h : ¬ (twR (tkK X k) (tkS X) S).1 = true) (f1 : frO a2 m_at) (f2 : frL n2 m_names) : LR Y (xMk X.by_ X.co (nI k) (tkK X k) (twR (tkK X k) (tkS X) S).2.1) T ((twR (tkK X k) (tkS X) S).2.2.1) M D E N C U W L VL HL nK (a2) (n2) m_sort m_trayMany m_trays m_tape ((twR (tkK X k) (tkS X) S).2.1.fk) ((twR (tkK X k) (tkS X) S).2.1.fp) m_told1 m_isTold := by
  obtain ⟨hR, hv, hY, hF, hco, hX, hfk, hfp, hto, htj, hSO⟩ := R
  obtain ⟨r1, r2, r3, r4, r5, r6, r7⟩ := hR
  have c1 : ∀ j, j < 450 → a2 j = m_at j := fun j hj => f1 j (by omega)
  refine ⟨⟨RS_c r1 c1 (fun j hj => f2 j (by omega)), prI_tok 901 _ _ 0 (tClr_tok r2), r3, r4, r5, r6, fun k hk => RS_c (r7 k hk) (fun j hj => f1 _ (by omega)) (fun j hj => f2 _ (by omega))⟩, hv, hY, Nat.zero_le _, hco, fun k hk => absurd hk (Nat.not_lt_zero _), rfl, rfl, hto, htj, hSO⟩
theorem LR_town1 {k : Nat} {a2 : Nat → Int32} {n2 : Nat → Int64} {Y : Nat → YT} {X : XT} {T S : TW} {M : Nat → TW} {D E : DW} {N : Nat → DW} {C : CH} {U : UT} {W : WT} {L : LT} {VL m_at m_sort m_trayMany m_tape m_told1 : Nat → Int32} {HL m_faultKind m_faultPlace m_isTold : Int32} {nK : Nat} {m_names m_trays : Nat → Int64} (R : LR Y X T S M D E N C U W L VL HL nK m_at m_names m_sort m_trayMany m_trays m_tape m_faultKind m_faultPlace m_told1 m_isTold) (h : (twR (tkK X k) (tkS X) S).1 = true) (V : vT a2 (twR (tkK X k) (tkS X) S).2.2.1) (N2 : NS n2 0 (twR (tkK X k) (tkS X) S).2.2.1) (e7 : a2 7 = -1) (f1 : ∀ k, 450 ≤ k → k < 1800 → a2 k = m_at k) (f2 : ∀ k, 11 ≤ k → k < 44 → n2 k = m_names k) : LR Y (xMk X.by_ X.co (nI k) (tkK X k) (twR (tkK X k) (tkS X) S).2.1) (tCp (twR (tkK X k) (tkS X) S).2.2.1 T) ((twR (tkK X k) (tkS X) S).2.2.1) M (dNo D) E N C U W L VL HL nK (a2) (n2) m_sort m_trayMany m_trays m_tape (0) (-1) m_told1 m_isTold := by
  obtain ⟨hR, hv, hY, hF, hco, hX, hfk, hfp, hto, htj, hSO⟩ := R
  obtain ⟨r1, r2, r3, r4, r5, r6, r7⟩ := hR
  have mo := prI_mo 901 (tkS X) (tClr S) 0 (tClr_tok r2) h
  have hsk : (twR (tkK X k) (tkS X) S).2.2.1.sk = 0 := prI_sk 901 _ _ 0
  refine ⟨⟨⟨vT_tCp V r1.1.ok, SKo_0 hsk, NS_cp N2 V.ok.hP V.ok.hW, vD_no e7, dOK_no r1.2.2.2.2⟩, V.ok, r3, r4, r5, r6, fun k hk => RS_c (r7 k hk) (fun j hj => f1 _ (by omega) (by omega)) (fun j hj => f2 _ (by omega) (by omega))⟩, hv, hY, Nat.zero_le _, hco, fun k hk => absurd hk (Nat.not_lt_zero _), mo.2.1.symm, mo.2.2.symm, hto, htj, hSO⟩
theorem dyR_ok {k : Nat} {Y : Nat → YT} {X : XT} {T S : TW} {M : Nat → TW} {D E : DW} {N : Nat → DW} {C : CH} {U : UT} {W : WT} {L : LT} {VL m_at m_sort m_trayMany m_tape m_told1 : Nat → Int32} {HL m_faultKind m_faultPlace m_isTold : Int32} {nK : Nat} {m_names m_trays : Nat → Int64} (R : LR Y X T S M D E N C U W L VL HL nK m_at m_names m_sort m_trayMany m_trays m_tape m_faultKind m_faultPlace m_told1 m_isTold) (hk : k ≤ X.nF) : dOK (dyD (dyR (tkK X k) (tkS X) T E).2.2) := by
  have KK := LR_KK R k m_tape hk (fun _ _ => rfl)
  obtain ⟨hR, hv, hY, hF, hco, hX, hfk, hfp, hto, htj, hSO⟩ := R
  have ok0 : DOk (tkK X k) (tkS X) (dCl (dy0 E)) := ⟨KK.1.1, Nat.le_refl _, Nat.zero_le _, Nat.zero_le _, fun j => v60 (n := 0) (by omega)⟩
  obtain ⟨o1, o2⟩ := dpI_ok (t := T) 301 (tkS X) (dCl (dy0 E)) ok0 hR.2.2.1
  have o3 := o1.2.1
  have o4 := o1.2.2.1
  have d9 : (dyR (tkK X k) (tkS X) T E).2.2.dth = 1 := dpI_dth 301 (tkS X) (dCl (dy0 E))
  refine ⟨?_, o2, ?_⟩
  · show (dyR (tkK X k) (tkS X) T E).2.2.nR ≤ 60
    exact Nat.le_trans (Nat.le_add_right _ _) (Nat.le_trans o3 (by have : (dyR (tkK X k) (tkS X) T E).2.2.nS ≤ 30 := o4; omega))
  · show okP .boolean (.int (dyR (tkK X k) (tkS X) T E).2.2.dth)
    rw [d9]
    exact okP1
theorem LR_days9 {k : Nat} {a2 : Nat → Int32} {Y : Nat → YT} {X : XT} {T S : TW} {M : Nat → TW} {D E : DW} {N : Nat → DW} {C : CH} {U : UT} {W : WT} {L : LT} {VL m_at m_sort m_trayMany m_tape m_told1 : Nat → Int32} {HL m_faultKind m_faultPlace m_isTold : Int32} {nK : Nat} {m_names m_trays : Nat → Int64} (R : LR Y X T S M D E N C U W L VL HL nK m_at m_names m_sort m_trayMany m_trays m_tape m_faultKind m_faultPlace m_told1 m_isTold) (hk : k ≤ X.nF) (h : ¬ (dyR (tkK X k) (tkS X) T E).1 = true) (f1 : frO a2 m_at) : LR Y (xMk X.by_ X.co (nI k) (tkK X k) (dyR (tkK X k) (tkS X) T E).2.1) T S M D (dyD (dyR (tkK X k) (tkS X) T E).2.2) N C U W L VL HL nK (a2) m_names m_sort m_trayMany m_trays m_tape ((dyR (tkK X k) (tkS X) T E).2.1.fk) ((dyR (tkK X k) (tkS X) T E).2.1.fp) m_told1 m_isTold := by
  have dok := dyR_ok R hk
  obtain ⟨hR, hv, hY, hF, hco, hX, hfk, hfp, hto, htj, hSO⟩ := R
  obtain ⟨r1, r2, r3, r4, r5, r6, r7⟩ := hR
  refine ⟨⟨RS_c r1 (fun j hj => f1 j (by omega)) (fun _ _ => rfl), r2, dok.2.1, r4, r5, r6, fun k hk => RS_c (r7 k hk) (fun j hj => f1 _ (by omega)) (fun _ _ => rfl)⟩, hv, hY, Nat.zero_le _, hco, fun k hk => absurd hk (Nat.not_lt_zero _), rfl, rfl, hto, htj, hSO⟩
theorem LR_days1 {k : Nat} {a2 : Nat → Int32} {Y : Nat → YT} {X : XT} {T S : TW} {M : Nat → TW} {D E : DW} {N : Nat → DW} {C : CH} {U : UT} {W : WT} {L : LT} {VL m_at m_sort m_trayMany m_tape m_told1 : Nat → Int32} {HL m_faultKind m_faultPlace m_isTold : Int32} {nK : Nat} {m_names m_trays : Nat → Int64} (R : LR Y X T S M D E N C U W L VL HL nK m_at m_names m_sort m_trayMany m_trays m_tape m_faultKind m_faultPlace m_told1 m_isTold) (hk : k ≤ X.nF) (h : (dyR (tkK X k) (tkS X) T E).1 = true) (V : vD T.nW a2 (dyD (dyR (tkK X k) (tkS X) T E).2.2)) (f1 : ∀ k, k < 1800 → ¬ k = 7 → ¬ (82 ≤ k ∧ k < 442) → a2 k = m_at k) : LR Y (xMk X.by_ X.co (nI k) (tkK X k) (dyR (tkK X k) (tkS X) T E).2.1) T S M (dCp (dyD (dyR (tkK X k) (tkS X) T E).2.2) D) (dyD (dyR (tkK X k) (tkS X) T E).2.2) N C U W L VL HL nK (a2) m_names m_sort m_trayMany m_trays m_tape (0) (-1) m_told1 m_isTold := by
  have dok := dyR_ok R hk
  obtain ⟨hR, hv, hY, hF, hco, hX, hfk, hfp, hto, htj, hSO⟩ := R
  obtain ⟨r1, r2, r3, r4, r5, r6, r7⟩ := hR
  have mo := dpI_mo 301 (tkS X) (dCl (dy0 E)) h
  refine ⟨⟨⟨vT_n7 r1.1 (fun j h1 h2 => f1 j (by omega) h2 (by omega)), r1.2.1, r1.2.2.1, vD_cp V, dOK_cp dok r1.2.2.2.2⟩, r2, dok.2.1, r4, r5, r6, fun k hk => RS_c (r7 k hk) (fun j hj => f1 _ (by omega) (by omega) (by omega)) (fun _ _ => rfl)⟩, hv, hY, Nat.zero_le _, hco, fun k hk => absurd hk (Nat.not_lt_zero _), mo.2.1.symm, mo.2.2.symm, hto, htj, hSO⟩
theorem LR_at {Y : Nat → YT} {X : XT} {T S : TW} {M : Nat → TW} {D E : DW} {N : Nat → DW} {C : CH} {U : UT} {W : WT} {L : LT} {VL m_at m_sort m_trayMany m_tape m_told1 : Nat → Int32} {HL m_faultKind m_faultPlace m_isTold : Int32} {nK : Nat} {m_names m_trays : Nat → Int64} (R : LR Y X T S M D E N C U W L VL HL nK m_at m_names m_sort m_trayMany m_trays m_tape m_faultKind m_faultPlace m_told1 m_isTold) {T2 : TW} {a2 : Nat → Int32} (V : vT a2 T2) (f : frA m_at a2) (k : KEP T T2) {C2 : CH} {U2 : UT} {W2 : WT} {L2 : LT} (so : SO C2 U2 W2 L2) : LR Y X (T2) S M D E N (C2) (U2) (W2) (L2) VL HL nK (a2) m_names m_sort m_trayMany m_trays m_tape m_faultKind m_faultPlace m_told1 m_isTold := by
  obtain ⟨hR, hv, hY, hF, hco, hX, hfk, hfp, hto, htj, hSO⟩ := R
  exact ⟨REL_go hR (RS_kep hR.1 V f k) hR.2.1 hR.2.2.1 (fun j j1 j2 => f j (Or.inr (by omega))) (fun _ _ _ => rfl), hv, hY, hF, hco, hX, hfk, hfp, hto, htj, so⟩
