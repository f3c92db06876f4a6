/-! ===== the class's tokens and the reference's ===== -/
def skF (b : Nat → Int32) (L e : Nat) : Nat := e + runL isBl b (L - e) e
def tkN (b : Nat → Int32) (L p : Nat) : Nat := if isLe (b p) then p + runL isLe b (L - p) p else if isDi (b p) then p + runL isDi b (L - p) p else p + 1
/-- where token j stands -/
def psF (b : Nat → Int32) (L : Nat) : Nat → Nat
  | 0 => skF b L 0
  | j + 1 => skF b L (tkN b L (psF b L j))
theorem tok_E {co : Nat → Int64} {b : Nat → Int32} {L p : Nat} : (tokAt co b L p).2 = tkN b L p := by
  unfold tokAt tkN
  split
  · rfl
  · split <;> rfl
theorem runL_p {P : Int32 → Prop} [DecidablePred P] {b : Nat → Int32} {n i : Nat} (h : P (b i)) (hn : 0 < n) : 0 < runL P b n i := by
  obtain ⟨m, rfl⟩ : ∃ m, n = m + 1 := ⟨n - 1, by omega⟩
  have := runL_1 (n := m) h
  omega
theorem tkN_in {b : Nat → Int32} {L p : Nat} (h : p < L) : p < tkN b L p ∧ tkN b L p ≤ L := by
  unfold tkN
  split
  · rename_i h1
    have := runL_p (n := L - p) h1 (by omega)
    have := runL_le (P := isLe) (b := b) (L - p) p
    omega
  · split
    · rename_i h2
      have := runL_p (n := L - p) h2 (by omega)
      have := runL_le (P := isDi) (b := b) (L - p) p
      omega
    · omega
theorem skF_b {b : Nat → Int32} {L e : Nat} (h : e < L) (hb : isBl (b e)) : skF b L e = skF b L (e + 1) := by
  unfold skF
  have := runL_1 (n := L - (e + 1)) hb
  rw [show L - (e + 1) + 1 = L - e by omega] at this
  exact this
theorem skF_n {b : Nat → Int32} {L e : Nat} (h : e < L) (hb : ¬ isBl (b e)) : skF b L e = e := by
  unfold skF
  have := runL_0 (n := L - (e + 1)) hb
  rw [show L - (e + 1) + 1 = L - e by omega] at this
  omega
theorem skF_L {b : Nat → Int32} {L : Nat} : skF b L L = L := by
  unfold skF
  rw [Nat.sub_self]
  rfl
theorem skF_in {b : Nat → Int32} {L e : Nat} (h : e ≤ L) : e ≤ skF b L e ∧ skF b L e ≤ L := by
  unfold skF
  have := runL_le (P := isBl) (b := b) (L - e) e
  omega
def tqS (co : Nat → Int64) (b : Nat → Int32) (L : Nat) (s : ScS) : Prop := s.2.2.2.2 ≤ L ∧ skF b L s.2.2.2.2 = psF b L s.2.2.2.1 ∧ ∀ j, j < s.2.2.2.1 → psF b L j < L ∧ s.1 j = (tokAt co b L (psF b L j)).1.1 ∧ s.2.1 j = (tokAt co b L (psF b L j)).1.2.1 ∧ s.2.2.1 j = (tokAt co b L (psF b L j)).1.2.2
theorem tqS_step {co : Nat → Int64} {b : Nat → Int32} {L : Nat} {s : ScS} (h : tqS co b L s) (hl : s.2.2.2.2 < L) : tqS co b L (scStep co b L s) ∧ s.2.2.2.2 < (scStep co b L s).2.2.2.2 := by
  obtain ⟨h1, h2, h3⟩ := h
  unfold scStep
  by_cases c : isBl (b s.2.2.2.2)
  · rw [if_pos c]
    exact ⟨⟨hl, by rw [← skF_b hl c]; exact h2, h3⟩, Nat.lt_succ_self _⟩
  · rw [if_neg c]
    have e : psF b L s.2.2.2.1 = s.2.2.2.2 := by rw [← h2]; exact skF_n hl c
    have hE := tkN_in (b := b) hl
    refine ⟨⟨?_, ?_, fun j hj => ?_⟩, ?_⟩
    · show (tokAt co b L s.2.2.2.2).2 ≤ L
      rw [tok_E]; exact hE.2
    · show skF b L (tokAt co b L s.2.2.2.2).2 = psF b L (s.2.2.2.1 + 1)
      rw [tok_E]
      show _ = skF b L (tkN b L (psF b L s.2.2.2.1))
      rw [e]
    · have hj2 : j < s.2.2.2.1 + 1 := hj
      show psF b L j < L ∧ upd s.1 s.2.2.2.1 (tokAt co b L s.2.2.2.2).1.1 j = _ ∧ upd s.2.1 s.2.2.2.1 (tokAt co b L s.2.2.2.2).1.2.1 j = _ ∧ vp_updL s.2.2.1 s.2.2.2.1 (tokAt co b L s.2.2.2.2).1.2.2 j = _
      by_cases z : j = s.2.2.2.1
      · rw [z, upd_at, upd_at, vLq_at, e]
        exact ⟨hl, rfl, rfl, rfl⟩
      · rw [upd_ne z, upd_ne z, vLq_ne z]
        exact h3 j (by omega)
    · show s.2.2.2.2 < (tokAt co b L s.2.2.2.2).2
      rw [tok_E]; exact hE.1
theorem tqS_all {co : Nat → Int64} {b : Nat → Int32} {L : Nat} : ∀ (r : Nat) (s : ScS), tqS co b L s → L - s.2.2.2.2 ≤ r → tqS co b L (scI co b L r s) ∧ psF b L (scI co b L r s).2.2.2.1 = L
  | 0, s, h, hr => by
    have hL : s.2.2.2.2 = L := by have := h.1; omega
    refine ⟨h, ?_⟩
    show psF b L s.2.2.2.1 = L
    rw [← h.2.1, hL]
    exact skF_L
  | r + 1, s, h, hr => by
    show tqS co b L (if s.2.2.2.2 < L then scI co b L r (scStep co b L s) else s) ∧ psF b L (if s.2.2.2.2 < L then scI co b L r (scStep co b L s) else s).2.2.2.1 = L
    by_cases c : s.2.2.2.2 < L
    · rw [if_pos c]
      obtain ⟨h2, h3⟩ := tqS_step h c
      exact tqS_all r _ h2 (by omega)
    · rw [if_neg c]
      have hL : s.2.2.2.2 = L := by have := h.1; omega
      refine ⟨h, ?_⟩
      rw [← h.2.1, hL]
      exact skF_L
/-- the tokens of a text -/
def TKs (co : Nat → Int64) (b : Nat → Int32) (L : Nat) (K : TK) : Prop := (0 < K.nT ∧ K.nT ≤ 901) ∧ (∀ j, j + 1 < K.nT → psF b L j < L ∧ K.ki j = (tokAt co b L (psF b L j)).1.1 ∧ K.st j = (tokAt co b L (psF b L j)).1.2.1 ∧ K.va j = (tokAt co b L (psF b L j)).1.2.2) ∧ psF b L (K.nT - 1) = L ∧ K.ki (K.nT - 1) = 0 ∧ K.st (K.nT - 1) = nI L
theorem TKs_begin {co : Nat → Int64} {b : Nat → Int32} {L : Nat} (hL : L ≤ 900) {tki tst : Nat → Int32} {tva : Nat → Int64} : TKs co b L (TK.mk (upd (scI co b L 900 (tki, tst, tva, 0, 0)).1 (scI co b L 900 (tki, tst, tva, 0, 0)).2.2.2.1 0) (upd (scI co b L 900 (tki, tst, tva, 0, 0)).2.1 (scI co b L 900 (tki, tst, tva, 0, 0)).2.2.2.1 (nI L)) (vp_updL (scI co b L 900 (tki, tst, tva, 0, 0)).2.2.1 (scI co b L 900 (tki, tst, tva, 0, 0)).2.2.2.1 0) ((scI co b L 900 (tki, tst, tva, 0, 0)).2.2.2.1 + 1)) := by
  have h0 : tqS co b L (tki, tst, tva, 0, 0) := ⟨Nat.zero_le _, rfl, fun j hj => absurd hj (Nat.not_lt_zero _)⟩
  obtain ⟨h1, h2⟩ := tqS_all 900 _ h0 (by show L - 0 ≤ 900; omega)
  have hn := scI_n co b L 900 (tki, tst, tva, 0, 0)
  generalize scI co b L 900 (tki, tst, tva, 0, 0) = s at h1 h2 hn
  refine ⟨⟨Nat.succ_pos _, by show s.2.2.2.1 + 1 ≤ 901; have : s.2.2.2.1 ≤ 0 + 900 := hn; omega⟩, fun j hj => ?_, h2, upd_at, upd_at⟩
  have hj2 : j < s.2.2.2.1 := by have : j + 1 < s.2.2.2.1 + 1 := hj; omega
  obtain ⟨g1, g2, g3, g4⟩ := h1.2.2 j hj2
  have hne : ¬ j = s.2.2.2.1 := by omega
  refine ⟨g1, ?_, ?_, ?_⟩
  · show upd s.1 s.2.2.2.1 0 j = _
    rw [upd_ne hne]; exact g2
  · show upd s.2.1 s.2.2.2.1 (nI L) j = _
    rw [upd_ne hne]; exact g3
  · show vp_updL s.2.2.1 s.2.2.2.1 0 j = _
    rw [vLq_ne hne]; exact g4
theorem ahG_E {b : Nat → Int32} {L p : Nat} (h : p < L) : (ahG b L p).2.1 = p ∧ (ahG b L p).2.2.1 = tkN b L p := by
  unfold ahG tkN
  rw [if_neg (fun z => z h)]
  by_cases c : isLe (b p)
  · rw [if_pos c, if_pos c]; exact ⟨rfl, rfl⟩
  · rw [if_neg c, if_neg c]
    by_cases c2 : isDi (b p)
    · rw [if_pos c2, if_pos c2]; exact ⟨rfl, rfl⟩
    · rw [if_neg c2, if_neg c2]; exact ⟨rfl, rfl⟩
theorem ahF_ps {b : Nat → Int32} {L j : Nat} (h : psF b L j < L) : ahF b L (ahG b L (psF b L j)).2.2.1 = ahG b L (psF b L (j + 1)) := by
  rw [(ahG_E h).2]
  rfl
