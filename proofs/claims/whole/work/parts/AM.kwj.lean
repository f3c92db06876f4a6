/-! ===== the reference: the word at a token ===== -/
theorem g2_end {b : Nat → Int32} {L j : Nat} (h : (gtF b L j).1 = 2) : (gtF b L j).2.2.1 = psF b L j + rLn b L j := by
  unfold gtF rLn at *
  generalize psF b L j = p at h
  unfold ahG at *
  by_cases c0 : ¬ p < L
  · rw [if_pos c0] at h
    exact absurd h (show ¬ (0 : Int32) = 2 by decide)
  · rw [if_neg c0] at h ⊢
    by_cases c1 : isLe (b p)
    · rw [if_pos c1]
    · rw [if_neg c1] at h
      by_cases c2 : isDi (b p)
      · rw [if_pos c2] at h
        exfalso
        revert h
        dsimp only
        split <;> decide
      · rw [if_neg c2] at h
        exfalso
        revert h
        dsimp only
        split <;> decide
theorem g_fe {b : Nat → Int32} {L j : Nat} (hp : psF b L j ≤ L) : (gtF b L j).2.1 = psF b L j ∧ psF b L j ≤ (gtF b L j).2.2.1 ∧ (gtF b L j).2.2.1 ≤ L := by
  unfold gtF
  rcases Nat.lt_or_ge (psF b L j) L with z | z
  · obtain ⟨h1, h2⟩ := ahG_E (b := b) z
    have := tkN_in (b := b) z
    rw [h1, h2]
    omega
  · have e : ahG b L (psF b L j) = (0, psF b L j, psF b L j, -1) := if_pos (by omega)
    rw [e]
    exact ⟨rfl, Nat.le_refl _, hp⟩
/-- how long the token is -/
def lnT (b : Nat → Int32) (L j : Nat) : Nat := (gtF b L j).2.2.1 - psF b L j
/-- which word it is -/
def kwR (b : Nat → Int32) (L j : Nat) : Int32 := inWT (gtF b L j).1 b L (psF b L j) (lnT b L j)
theorem ln_2 {b : Nat → Int32} {L j : Nat} (h : (gtF b L j).1 = 2) : lnT b L j = rLn b L j := by
  unfold lnT
  rw [g2_end h]
  omega
theorem kw_2 {b : Nat → Int32} {L j : Nat} (h : (gtF b L j).1 = 2) : kwR b L j = inWF b L (psF b L j) (rLn b L j) := by
  unfold kwR inWT
  rw [if_pos h, ln_2 h]
theorem kw_n {b : Nat → Int32} {L j : Nat} (h : ¬ (gtF b L j).1 = 2) : kwR b L j = -1 := if_neg h
theorem kw_link {K : TK} {b : Nat → Int32} {L j : Nat} (h : TL K b L j) : (woT (K.ki j) (K.va j) = -1 ∧ kwR b L j = -1) ∨ ∃ w, w < 24 ∧ woT (K.ki j) (K.va j) = nI w ∧ kwR b L j = nI (pi_ w) := by
  rcases h with ⟨w, h1, h2, h3, h4, h5, h6⟩ | ⟨h1, h2, h3, h4, h5⟩ | ⟨h1, h2, h3, h4⟩ | ⟨h1, h2, h3⟩ | ⟨h1, h2, h3⟩ | ⟨h1, h2⟩
  · refine Or.inr ⟨w, h1, ?_, ?_⟩
    · unfold woT
      rw [if_pos h2, h3, Int32.toInt32_toInt64]
    · rw [kw_2 h4, h6]
  · refine Or.inl ⟨?_, ?_⟩
    · unfold woT; rw [h1]; rfl
    · rw [kw_2 h2, h4]
  · refine Or.inl ⟨?_, ?_⟩
    · unfold woT; rw [h1]; rfl
    · rw [kw_2 h2, h4]
  · refine Or.inl ⟨?_, kw_n (by rw [h2]; decide)⟩
    unfold woT; rw [h1]; rfl
  · refine Or.inl ⟨?_, kw_n (by rw [h2]; decide)⟩
    unfold woT; rw [h1]; rfl
  · refine Or.inl ⟨?_, kw_n (by rw [h2]; decide)⟩
    unfold woT; rw [h1]; rfl
/-- a name: both sides -/
theorem nm_link {K : TK} {b : Nat → Int32} {L j : Nat} (h : TL K b L j) : K.ki j = 2 ↔ ((gtF b L j).1 = 2 ∧ lnT b L j ≤ 8 ∧ kwR b L j = -1) := by
  rcases h with ⟨w, h1, h2, h3, h4, h5, h6⟩ | ⟨h1, h2, h3, h4, h5⟩ | ⟨h1, h2, h3, h4⟩ | ⟨h1, h2, h3⟩ | ⟨h1, h2, h3⟩ | ⟨h1, h2⟩
  · refine ⟨fun z => by rw [h2] at z; exact absurd z (by decide), fun z => ?_⟩
    have y := z.2.2
    rw [kw_2 h4, h6] at y
    have hp := (pq_t w h1).1
    have := congrArg Int32.toInt y
    rw [nI_toInt (by omega)] at this
    have k : (-1 : Int32).toInt = -1 := rfl
    omega
  · exact ⟨fun _ => ⟨h2, by rw [ln_2 h2]; exact h3, by rw [kw_2 h2]; exact h4⟩, fun _ => h1⟩
  · refine ⟨fun z => by rw [h1] at z; exact absurd z (by decide), fun z => ?_⟩
    have := z.2.1
    rw [ln_2 h2] at this
    omega
  · exact ⟨fun z => by rw [h1] at z; exact absurd z (by decide), fun z => by have := z.1; rw [h2] at this; exact absurd this (by decide)⟩
  · exact ⟨fun z => by rw [h1] at z; exact absurd z (by decide), fun z => by have := z.1; rw [h2] at this; exact absurd this (by decide)⟩
  · exact ⟨fun z => by rw [h1] at z; exact absurd z (by decide), fun z => by have := z.1; rw [h2] at this; exact absurd this (by decide)⟩
section TAM
variable {Γ : Gm} {Q : Option Value → LH → Prop} {m_at m_sort m_trayMany m_tape m_text m_opened m_eastBy m_northBy m_partBy m_wayFaults m_wayEast m_wayNorth m_olds m_farBy m_rowBy m_triedBy m_doneAt m_gotAt m_struckAt m_bestDeed m_loops m_ran m_told1 : Nat → Int32} {m_names m_trays m_misBy : Nat → Int64} {m_status m_taped m_size m_token m_from m_end m_value m_faultKind m_faultPlace m_faults m_seen m_areOdds m_depth m_counted m_wayMany m_oneOfSet m_twoOfSet m_rowMany m_drawn m_ranSteps m_isTold m_marks : Int32} {m_top m_bottom : Int64} {L j : Nat}
theorem c_inWordsJ (hL : L ≤ 900) (hp : psF m_text L j ≤ L) (hq : Q (some (.int (kwR m_text L j))) (hM m_at m_names m_status m_top m_bottom m_sort m_trayMany m_trays m_tape m_text m_taped ((nI L)) ((gtF m_text L j).1) ((nI (gtF m_text L j).2.1)) ((nI (gtF m_text L j).2.2.1)) ((gtF m_text L j).2.2.2) m_faultKind m_faultPlace m_faults m_seen m_areOdds m_opened m_depth m_counted m_eastBy m_northBy m_partBy m_wayFaults m_wayEast m_wayNorth m_olds m_wayMany m_oneOfSet m_twoOfSet m_farBy m_rowBy m_triedBy m_rowMany m_doneAt m_gotAt m_struckAt m_bestDeed m_misBy m_drawn m_ranSteps m_loops m_ran m_told1 m_isTold m_marks)) : Call Γ M_Mo_inWords 6 0 0 [.ref 0, .ref (XB + 1)] (hM m_at m_names m_status m_top m_bottom m_sort m_trayMany m_trays m_tape m_text m_taped ((nI L)) ((gtF m_text L j).1) ((nI (gtF m_text L j).2.1)) ((nI (gtF m_text L j).2.2.1)) ((gtF m_text L j).2.2.2) m_faultKind m_faultPlace m_faults m_seen m_areOdds m_opened m_depth m_counted m_eastBy m_northBy m_partBy m_wayFaults m_wayEast m_wayNorth m_olds m_wayMany m_oneOfSet m_twoOfSet m_farBy m_rowBy m_triedBy m_rowMany m_doneAt m_gotAt m_struckAt m_bestDeed m_misBy m_drawn m_ranSteps m_loops m_ran m_told1 m_isTold m_marks) Q := by
  have hf := g_fe (b := m_text) hp
  have e1 : (gtF m_text L j).2.2.1 = psF m_text L j + lnT m_text L j := by unfold lnT; omega
  rw [e1, hf.1] at hq ⊢
  exact c_Mo_inWords hL (by omega) hq
theorem c_isNameJ (hL : L ≤ 900) (hp : psF m_text L j ≤ L) (hq : Q (some (.int (bP ((gtF m_text L j).1 = 2 ∧ lnT m_text L j ≤ 8 ∧ kwR m_text L j = -1)))) (hM m_at m_names m_status m_top m_bottom m_sort m_trayMany m_trays m_tape m_text m_taped ((nI L)) ((gtF m_text L j).1) ((nI (gtF m_text L j).2.1)) ((nI (gtF m_text L j).2.2.1)) ((gtF m_text L j).2.2.2) m_faultKind m_faultPlace m_faults m_seen m_areOdds m_opened m_depth m_counted m_eastBy m_northBy m_partBy m_wayFaults m_wayEast m_wayNorth m_olds m_wayMany m_oneOfSet m_twoOfSet m_farBy m_rowBy m_triedBy m_rowMany m_doneAt m_gotAt m_struckAt m_bestDeed m_misBy m_drawn m_ranSteps m_loops m_ran m_told1 m_isTold m_marks)) : Call Γ M_Mo_isName 7 0 0 [.ref 0, .ref (XB + 1)] (hM m_at m_names m_status m_top m_bottom m_sort m_trayMany m_trays m_tape m_text m_taped ((nI L)) ((gtF m_text L j).1) ((nI (gtF m_text L j).2.1)) ((nI (gtF m_text L j).2.2.1)) ((gtF m_text L j).2.2.2) m_faultKind m_faultPlace m_faults m_seen m_areOdds m_opened m_depth m_counted m_eastBy m_northBy m_partBy m_wayFaults m_wayEast m_wayNorth m_olds m_wayMany m_oneOfSet m_twoOfSet m_farBy m_rowBy m_triedBy m_rowMany m_doneAt m_gotAt m_struckAt m_bestDeed m_misBy m_drawn m_ranSteps m_loops m_ran m_told1 m_isTold m_marks) Q := by
  have hf := g_fe (b := m_text) hp
  have e1 : (gtF m_text L j).2.2.1 = psF m_text L j + lnT m_text L j := by unfold lnT; omega
  rw [e1, hf.1] at hq ⊢
  exact c_Mo_isName hL (by omega) hq
theorem c_nameHereJ (hL : L ≤ 900) (hp : psF m_text L j ≤ L) (hq : Q (some (.long (nmF m_text L (psF m_text L j) (lnT m_text L j)))) (hM m_at m_names m_status m_top m_bottom m_sort m_trayMany m_trays m_tape m_text m_taped ((nI L)) ((gtF m_text L j).1) ((nI (gtF m_text L j).2.1)) ((nI (gtF m_text L j).2.2.1)) ((gtF m_text L j).2.2.2) m_faultKind m_faultPlace m_faults m_seen m_areOdds m_opened m_depth m_counted m_eastBy m_northBy m_partBy m_wayFaults m_wayEast m_wayNorth m_olds m_wayMany m_oneOfSet m_twoOfSet m_farBy m_rowBy m_triedBy m_rowMany m_doneAt m_gotAt m_struckAt m_bestDeed m_misBy m_drawn m_ranSteps m_loops m_ran m_told1 m_isTold m_marks)) : Call Γ M_Mo_nameHere 2 0 0 [.ref 0] (hM m_at m_names m_status m_top m_bottom m_sort m_trayMany m_trays m_tape m_text m_taped ((nI L)) ((gtF m_text L j).1) ((nI (gtF m_text L j).2.1)) ((nI (gtF m_text L j).2.2.1)) ((gtF m_text L j).2.2.2) m_faultKind m_faultPlace m_faults m_seen m_areOdds m_opened m_depth m_counted m_eastBy m_northBy m_partBy m_wayFaults m_wayEast m_wayNorth m_olds m_wayMany m_oneOfSet m_twoOfSet m_farBy m_rowBy m_triedBy m_rowMany m_doneAt m_gotAt m_struckAt m_bestDeed m_misBy m_drawn m_ranSteps m_loops m_ran m_told1 m_isTold m_marks) Q := by
  have hf := g_fe (b := m_text) hp
  have e1 : (gtF m_text L j).2.2.1 = psF m_text L j + lnT m_text L j := by unfold lnT; omega
  rw [e1, hf.1] at hq ⊢
  exact c_Mo_nameHere hL (by omega) hq
end TAM
