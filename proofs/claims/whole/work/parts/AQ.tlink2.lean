/-! ===== signs, numbers, bad tokens, the end: both sides ===== -/
theorem gt_last {b : Nat → Int32} {L j : Nat} (h : psF b L j = L) : gtF b L j = (0, L, L, -1) := by
  unfold gtF
  rw [h]
  exact if_pos (Nat.lt_irrefl L)
theorem kw_last {b : Nat → Int32} {L j : Nat} (h : psF b L j = L) : kwR b L j = -1 := kw_n (by rw [gt_last h]; exact show ¬ (0 : Int32) = 2 by decide)
theorem TL_sg {K : TK} {b : Nat → Int32} {L j : Nat} {c : Int32} (h : TL K b L j) : (K.ki j = 5 ∧ vlT (K.ki j) (K.va j) = c) ↔ ((gtF b L j).1 = 4 ∧ (gtF b L j).2.2.2 = c) := by
  rcases h with ⟨w, h1, h2, h3, h4, h5, h6⟩ | ⟨h1, h2, h3, h4, h5⟩ | ⟨h1, h2, h3, h4⟩ | ⟨h1, h2, h3⟩ | ⟨h1, h2, h3⟩ | ⟨h1, h2⟩
  · exact ⟨fun z => absurd (h2.symm.trans z.1) (by decide), fun z => absurd (h4.symm.trans z.1) (by decide)⟩
  · exact ⟨fun z => absurd (h1.symm.trans z.1) (by decide), fun z => absurd (h2.symm.trans z.1) (by decide)⟩
  · exact ⟨fun z => absurd (h1.symm.trans z.1) (by decide), fun z => absurd (h2.symm.trans z.1) (by decide)⟩
  · exact ⟨fun z => absurd (h1.symm.trans z.1) (by decide), fun z => absurd (h2.symm.trans z.1) (by decide)⟩
  · exact ⟨fun z => ⟨h2, h3.symm.trans z.2⟩, fun z => ⟨h1, h3.trans z.2⟩⟩
  · exact ⟨fun z => absurd (h1.symm.trans z.1) (by decide), fun z => absurd (h2.symm.trans z.1) (by decide)⟩
theorem TL_nu {K : TK} {b : Nat → Int32} {L j : Nat} (h : TL K b L j) : (K.ki j = 4 ↔ (gtF b L j).1 = 3) ∧ (K.ki j = 4 → vlT (K.ki j) (K.va j) = (gtF b L j).2.2.2) := by
  rcases h with ⟨w, h1, h2, h3, h4, h5, h6⟩ | ⟨h1, h2, h3, h4, h5⟩ | ⟨h1, h2, h3, h4⟩ | ⟨h1, h2, h3⟩ | ⟨h1, h2, h3⟩ | ⟨h1, h2⟩
  · exact ⟨⟨fun z => absurd (h2.symm.trans z) (by decide), fun z => absurd (h4.symm.trans z) (by decide)⟩, fun z => absurd (h2.symm.trans z) (by decide)⟩
  · exact ⟨⟨fun z => absurd (h1.symm.trans z) (by decide), fun z => absurd (h2.symm.trans z) (by decide)⟩, fun z => absurd (h1.symm.trans z) (by decide)⟩
  · exact ⟨⟨fun z => absurd (h1.symm.trans z) (by decide), fun z => absurd (h2.symm.trans z) (by decide)⟩, fun z => absurd (h1.symm.trans z) (by decide)⟩
  · exact ⟨⟨fun _ => h2, fun _ => h1⟩, fun _ => h3⟩
  · exact ⟨⟨fun z => absurd (h1.symm.trans z) (by decide), fun z => absurd (h2.symm.trans z) (by decide)⟩, fun z => absurd (h1.symm.trans z) (by decide)⟩
  · exact ⟨⟨fun z => absurd (h1.symm.trans z) (by decide), fun z => absurd (h2.symm.trans z) (by decide)⟩, fun z => absurd (h1.symm.trans z) (by decide)⟩
theorem TL_cs {K : TK} {b : Nat → Int32} {L j : Nat} (h : TL K b L j) : csK (K.ki j) = if (gtF b L j).1 = 1 then 1 else 2 := by
  unfold csK
  rcases h with ⟨w, h1, h2, h3, h4, h5, h6⟩ | ⟨h1, h2, h3, h4, h5⟩ | ⟨h1, h2, h3, h4⟩ | ⟨h1, h2, h3⟩ | ⟨h1, h2, h3⟩ | ⟨h1, h2⟩
  · rw [h2, h4]; rfl
  · rw [h1, h2]; rfl
  · rw [h1, h2]; rfl
  · rw [h1, h2]; rfl
  · rw [h1, h2]; rfl
  · rw [h1, h2]; rfl
/-- a token of the class and where the reference stands -/
theorem TKs_at {K : TK} {b : Nat → Int32} {L j : Nat} (hb : ∀ k, k < L → b8 (b k)) (T : TKs co0_ b L K) (hj : j < K.nT) : psF b L j ≤ L ∧ K.st j = nI (psF b L j) ∧ (gtF b L j).2.1 = psF b L j ∧ (nx K.nT j = j + 1 ∧ psF b L j < L ∧ TL K b L j ∨ psF b L j = L ∧ K.ki j = 0) := by
  by_cases c : j + 1 < K.nT
  · obtain ⟨h1, h2, h3⟩ := TL_of hb T c
    have h4 := (T.2.1 j c).1
    exact ⟨Nat.le_of_lt h4, h2, h3, Or.inl ⟨if_pos c, h4, h1⟩⟩
  · have e : K.nT - 1 = j := by omega
    obtain ⟨h1, h2, h3⟩ := T.2.2
    rw [e] at h1 h2 h3
    refine ⟨by omega, by rw [h3, h1], ?_, Or.inr ⟨h1, h2⟩⟩
    rw [gt_last h1, h1]
