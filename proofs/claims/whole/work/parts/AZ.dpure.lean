/-! ===== DAYS as they are read: beginnings, ends, what is open ===== -/
def ob (y : DY) (i : Nat) : Nat := (y.op i).toNatClampNeg
def WFP (y : DY) : Prop := (∀ i, i < y.nD → y.op i = nI (ob y i) ∧ ob y i < y.nR ∧ opn (y.dk (ob y i)) ∧ y.ds (ob y i) = 0) ∧ (∀ i j, i < j → j < y.nD → ob y i < ob y j) ∧ (∀ r, r < y.nR → opn (y.dk r) → (∃ i, i < y.nD ∧ ob y i = r) ∨ ∃ e, r < e ∧ e < y.nR ∧ y.ds r = nI e ∧ y.dk e = 7 ∧ y.ds e = nI r) ∧ (∀ r, r < y.nR → y.dk r = 7 → ∃ b, b < r ∧ y.ds r = nI b ∧ opn (y.dk b) ∧ y.ds b = nI r ∧ ∀ i, i < y.nD → ob y i < b ∨ r < ob y i) ∧ ∀ b b2 e e2, b < b2 → b2 < e → e < y.nR → opn (y.dk b) → opn (y.dk b2) → y.ds b = nI e → y.ds b2 = nI e2 → e2 < y.nR → e2 < e
theorem WFP_0 {y : DY} (h1 : y.nR = 0) (h2 : y.nD = 0) : WFP y := by
  unfold WFP
  rw [h1, h2]
  exact ⟨fun i hi => absurd hi (Nat.not_lt_zero _), fun i j _ hj => absurd hj (Nat.not_lt_zero _), fun r hr => absurd hr (Nat.not_lt_zero _), fun r hr => absurd hr (Nat.not_lt_zero _), fun b b2 e e2 _ _ he => absurd he (Nat.not_lt_zero _)⟩
theorem WFP_D {y : DY} (W : WFP y) (h : y.nD = 0) : WFD (dyD y) := by
  obtain ⟨w1, w2, w3, w4, w5⟩ := W
  refine ⟨fun r hr ho => ?_, fun r hr h7 => ?_, w5⟩
  · rcases w3 r hr ho with ⟨i, hi, _⟩ | z
    · rw [h] at hi; exact absurd hi (Nat.not_lt_zero _)
    · exact z
  · obtain ⟨b, b1, b2, b3, b4, _⟩ := w4 r hr h7
    exact ⟨b, b1, b2, b3, b4⟩
/-- no row ends where there is none yet -/
theorem WFP_no {y : DY} (W : WFP y) (hn : y.nR < 60) {b : Nat} (hb : b < y.nR) (ho : opn (y.dk b)) : ¬ (0 < y.nR ∧ y.ds b = nI y.nR) := by
  rintro ⟨h0, h⟩
  rcases W.2.2.1 b hb ho with ⟨i, hi, e⟩ | ⟨e, e1, e2, e3, e4, e5⟩
  · have z := (W.1 i hi).2.2.2
    rw [e, h] at z
    have := nI_ij (b := 0) z (by omega) (by omega)
    omega
  · rw [e3] at h
    have := nI_ij h (by omega) (by omega)
    omega
/-- a row more that neither begins nor ends -/
theorem WFP_add {y : DY} {k f z : Int32} (W : WFP y) (hn : y.nR < 60) (hk : ¬ opn k) (h7 : ¬ k = 7) : WFP (dAdd y k f z) := by
  have no := fun b => WFP_no W hn (b := b)
  obtain ⟨w1, w2, w3, w4, w5⟩ := W
  have eo : ∀ i, ob (dAdd y k f z) i = ob y i := fun _ => rfl
  have en : (dAdd y k f z).nR = y.nR + 1 := rfl
  have eD : (dAdd y k f z).nD = y.nD := rfl
  have ek : ∀ r, r < y.nR → (dAdd y k f z).dk r = y.dk r := fun r hr => upd_ne (by omega)
  have es : ∀ r, r < y.nR → (dAdd y k f z).ds r = y.ds r := fun r hr => upd_ne (by omega)
  have ekn : (dAdd y k f z).dk y.nR = k := upd_at
  refine ⟨fun i hi => ?_, w2, fun r hr ho => ?_, fun r hr hr7 => ?_, fun b b2 e e2 h1 h2 h3 o1 o2 d1 d2 h4 => ?_⟩
  · obtain ⟨a1, a2, a3, a4⟩ := w1 i hi
    rw [eo, ek _ a2, es _ a2]
    exact ⟨a1, by rw [en]; omega, a3, a4⟩
  · rw [en] at hr
    have hlt : r < y.nR := by
      rcases Nat.lt_or_ge r y.nR with q | q
      · exact q
      · have : r = y.nR := by omega
        rw [this, ekn] at ho
        exact absurd ho hk
    rw [ek r hlt] at ho
    rcases w3 r hlt ho with q | ⟨e, e1, e2, e3, e4, e5⟩
    · exact Or.inl q
    · exact Or.inr ⟨e, e1, by rw [en]; omega, by rw [es r hlt]; exact e3, by rw [ek e e2]; exact e4, by rw [es e e2]; exact e5⟩
  · rw [en] at hr
    have hlt : r < y.nR := by
      rcases Nat.lt_or_ge r y.nR with q | q
      · exact q
      · have : r = y.nR := by omega
        rw [this, ekn] at hr7
        exact absurd hr7 h7
    rw [ek r hlt] at hr7
    obtain ⟨b, b1, b2, b3, b4, b5⟩ := w4 r hlt hr7
    exact ⟨b, b1, by rw [es r hlt]; exact b2, by rw [ek b (by omega)]; exact b3, by rw [es b (by omega)]; exact b4, b5⟩
  · rw [en] at h3 h4
    rw [ek b (by omega)] at o1
    rw [ek b2 (by omega)] at o2
    rw [es b (by omega)] at d1
    rw [es b2 (by omega)] at d2
    have he : e < y.nR := by
      rcases Nat.lt_or_ge e y.nR with q | q
      · exact q
      · have : e = y.nR := by omega
        rw [this] at d1
        exact absurd ⟨by omega, d1⟩ (no b (by omega) o1)
    have he2 : e2 < y.nR := by
      rcases Nat.lt_or_ge e2 y.nR with q | q
      · exact q
      · have : e2 = y.nR := by omega
        rw [this] at d2
        exact absurd ⟨by omega, d2⟩ (no b2 (by omega) o2)
    exact w5 b b2 e e2 h1 h2 he o1 o2 d1 d2 he2
theorem ob_op {y : DY} (hn : y.nR < 60) : ob (dOp y) y.nD = y.nR ∧ ∀ i, ¬ i = y.nD → ob (dOp y) i = ob y i := by
  constructor
  · show (upd y.op y.nD (nI y.nR) y.nD).toNatClampNeg = y.nR
    rw [upd_at, nI_clamp (by omega)]
  · intro i hi
    show (upd y.op y.nD (nI y.nR) i).toNatClampNeg = ob y i
    rw [upd_ne hi]
    rfl
/-- a row that begins -/
theorem WFP_open {y : DY} {k f : Int32} (W : WFP y) (hn : y.nR < 60) (hk : opn k) : WFP (dAdd (dOp y) k f 0) := by
  have no := fun b => WFP_no W hn (b := b)
  obtain ⟨w1, w2, w3, w4, w5⟩ := W
  obtain ⟨p1, p2⟩ := ob_op hn
  have eo : ∀ i, ob (dAdd (dOp y) k f 0) i = ob (dOp y) i := fun _ => rfl
  have en : (dAdd (dOp y) k f 0).nR = y.nR + 1 := rfl
  have eD : (dAdd (dOp y) k f 0).nD = y.nD + 1 := rfl
  have ek : ∀ r, r < y.nR → (dAdd (dOp y) k f 0).dk r = y.dk r := fun r hr => upd_ne (show ¬ r = y.nR by omega)
  have es : ∀ r, r < y.nR → (dAdd (dOp y) k f 0).ds r = y.ds r := fun r hr => upd_ne (show ¬ r = y.nR by omega)
  have ekn : (dAdd (dOp y) k f 0).dk y.nR = k := upd_at
  have esn : (dAdd (dOp y) k f 0).ds y.nR = 0 := upd_at
  refine ⟨fun i hi => ?_, fun i j hij hj => ?_, fun r hr ho => ?_, fun r hr hr7 => ?_, fun b b2 e e2 h1 h2 h3 o1 o2 d1 d2 h4 => ?_⟩
  · rw [eD] at hi
    rw [eo]
    by_cases c : i = y.nD
    · rw [c, p1, ekn, esn]
      exact ⟨upd_at, by rw [en]; omega, hk, rfl⟩
    · rw [p2 i c]
      obtain ⟨a1, a2, a3, a4⟩ := w1 i (by omega)
      rw [ek _ a2, es _ a2]
      exact ⟨(upd_ne c).trans a1, by rw [en]; omega, a3, a4⟩
  · rw [eD] at hj
    rw [eo, eo, p2 i (by omega)]
    by_cases c : j = y.nD
    · rw [c, p1]
      exact (w1 i (by omega)).2.1
    · rw [p2 j c]
      exact w2 i j hij (by omega)
  · rw [en] at hr
    by_cases c : r = y.nR
    · exact Or.inl ⟨y.nD, by rw [eD]; omega, by rw [eo, p1, c]⟩
    · have hlt : r < y.nR := by omega
      rw [ek r hlt] at ho
      rcases w3 r hlt ho with ⟨i, i1, i2⟩ | ⟨e, e1, e2, e3, e4, e5⟩
      · exact Or.inl ⟨i, by rw [eD]; omega, by rw [eo, p2 i (by omega)]; exact i2⟩
      · exact Or.inr ⟨e, e1, by rw [en]; omega, by rw [es r hlt]; exact e3, by rw [ek e e2]; exact e4, by rw [es e e2]; exact e5⟩
  · rw [en] at hr
    have hlt : r < y.nR := by
      rcases Nat.lt_or_ge r y.nR with q | q
      · exact q
      · have : r = y.nR := by omega
        rw [this, ekn] at hr7
        exact absurd hr7 (opn_n7 hk)
    rw [ek r hlt] at hr7
    obtain ⟨b, b1, b2, b3, b4, b5⟩ := w4 r hlt hr7
    refine ⟨b, b1, by rw [es r hlt]; exact b2, by rw [ek b (by omega)]; exact b3, by rw [es b (by omega)]; exact b4, fun i hi => ?_⟩
    rw [eD] at hi
    rw [eo]
    by_cases c : i = y.nD
    · rw [c, p1]; exact Or.inr hlt
    · rw [p2 i c]; exact b5 i (by omega)
  · rw [en] at h3 h4
    rw [ek b (by omega)] at o1
    rw [ek b2 (by omega)] at o2
    rw [es b (by omega)] at d1
    rw [es b2 (by omega)] at d2
    have he : e < y.nR := by
      rcases Nat.lt_or_ge e y.nR with q | q
      · exact q
      · have : e = y.nR := by omega
        rw [this] at d1
        exact absurd ⟨by omega, d1⟩ (no b (by omega) o1)
    have he2 : e2 < y.nR := by
      rcases Nat.lt_or_ge e2 y.nR with q | q
      · exact q
      · have : e2 = y.nR := by omega
        rw [this] at d2
        exact absurd ⟨by omega, d2⟩ (no b2 (by omega) o2)
    exact w5 b b2 e e2 h1 h2 he o1 o2 d1 d2 he2
/-- an end -/
theorem WFP_end {y : DY} (W : WFP y) (hn : y.nR < 60) (h0 : 0 < y.nD) : WFP (dAdd (dBk y) 7 0 (y.op (y.nD - 1))) := by
  have no := fun b => WFP_no W hn (b := b)
  obtain ⟨w1, w2, w3, w4, w5⟩ := W
  obtain ⟨t1, t2, t3, t4⟩ := w1 (y.nD - 1) (by omega)
  have et : (y.op (y.nD - 1)).toNatClampNeg = ob y (y.nD - 1) := rfl
  generalize hT : ob y (y.nD - 1) = o at t1 t2 t3 t4 et
  have top : ∀ i, i < y.nD → ¬ i = y.nD - 1 → ob y i < o := fun i hi hne => by rw [← hT]; exact w2 i (y.nD - 1) (by omega) (by omega)
  have eo : ∀ i, ob (dAdd (dBk y) 7 0 (y.op (y.nD - 1))) i = ob y i := fun _ => rfl
  have en : (dAdd (dBk y) 7 0 (y.op (y.nD - 1))).nR = y.nR + 1 := rfl
  have eD : (dAdd (dBk y) 7 0 (y.op (y.nD - 1))).nD = y.nD - 1 := rfl
  have ek : ∀ r, r < y.nR → (dAdd (dBk y) 7 0 (y.op (y.nD - 1))).dk r = y.dk r := fun r hr => upd_ne (show ¬ r = y.nR by omega)
  have es : ∀ r, r < y.nR → ¬ r = o → (dAdd (dBk y) 7 0 (y.op (y.nD - 1))).ds r = y.ds r := fun r hr hne => (upd_ne (show ¬ r = y.nR by omega)).trans (upd_ne (by rw [et]; exact hne))
  have eso : (dAdd (dBk y) 7 0 (y.op (y.nD - 1))).ds o = nI y.nR := by
    refine (upd_ne (show ¬ o = y.nR by omega)).trans ?_
    show upd y.ds (y.op (y.nD - 1)).toNatClampNeg (nI y.nR) o = nI y.nR
    rw [et, upd_at]
  have ekn : (dAdd (dBk y) 7 0 (y.op (y.nD - 1))).dk y.nR = 7 := upd_at
  have esn : (dAdd (dBk y) 7 0 (y.op (y.nD - 1))).ds y.nR = nI o := (show (dAdd (dBk y) 7 0 (y.op (y.nD - 1))).ds y.nR = y.op (y.nD - 1) from upd_at).trans t1
  have n7 : ∀ e, y.dk e = 7 → ¬ e = o := fun e he z => opn_n7 t3 (by rw [← z]; exact he)
  refine ⟨fun i hi => ?_, fun i j hij hj => ?_, fun r hr ho => ?_, fun r hr hr7 => ?_, fun b b2 e e2 h1 h2 h3 o1 o2 d1 d2 h4 => ?_⟩
  · rw [eD] at hi
    rw [eo]
    obtain ⟨a1, a2, a3, a4⟩ := w1 i (by omega)
    have := top i (by omega) (by omega)
    rw [ek _ a2, es _ a2 (by omega)]
    exact ⟨a1, by rw [en]; omega, a3, a4⟩
  · rw [eD] at hj
    rw [eo, eo]
    exact w2 i j hij (by omega)
  · rw [en] at hr
    have hlt : r < y.nR := by
      rcases Nat.lt_or_ge r y.nR with q | q
      · exact q
      · have : r = y.nR := by omega
        rw [this, ekn] at ho
        exact absurd rfl (opn_n7 ho)
    rw [ek r hlt] at ho
    by_cases c : r = o
    · refine Or.inr ⟨y.nR, hlt, by rw [en]; omega, by rw [c]; exact eso, ekn, by rw [c]; exact esn⟩
    · rcases w3 r hlt ho with ⟨i, i1, i2⟩ | ⟨e, e1, e2, e3, e4, e5⟩
      · refine Or.inl ⟨i, ?_, by rw [eo]; exact i2⟩
        rw [eD]
        have : ¬ i = y.nD - 1 := fun z => c (by rw [← i2, z, hT])
        omega
      · exact Or.inr ⟨e, e1, by rw [en]; omega, by rw [es r hlt c]; exact e3, by rw [ek e e2]; exact e4, by rw [es e e2 (n7 e e4)]; exact e5⟩
  · rw [en] at hr
    by_cases c : r = y.nR
    · rw [c]
      refine ⟨o, t2, esn, by rw [ek o t2]; exact t3, eso, fun i hi => ?_⟩
      rw [eD] at hi
      rw [eo]
      exact Or.inl (top i (by omega) (by omega))
    · have hlt : r < y.nR := by omega
      rw [ek r hlt] at hr7
      obtain ⟨b, b1, b2, b3, b4, b5⟩ := w4 r hlt hr7
      have hbo : ¬ b = o := by
        have := b5 (y.nD - 1) (by omega)
        rw [hT] at this
        omega
      refine ⟨b, b1, by rw [es r hlt (n7 r hr7)]; exact b2, by rw [ek b (by omega)]; exact b3, by rw [es b (by omega) hbo]; exact b4, fun i hi => ?_⟩
      rw [eD] at hi
      rw [eo]
      exact b5 i (by omega)
  · rw [en] at h3 h4
    rw [ek b (by omega)] at o1
    rw [ek b2 (by omega)] at o2
    by_cases c : b = o
    · rw [c, eso] at d1
      have he := nI_ij d1 (by omega) (by omega)
      rw [es b2 (by omega) (by omega)] at d2
      rcases Nat.lt_or_ge e2 y.nR with q | q
      · omega
      · have : e2 = y.nR := by omega
        rw [this] at d2
        exact absurd ⟨by omega, d2⟩ (no b2 (by omega) o2)
    · rw [es b (by omega) c] at d1
      have he : e < y.nR := by
        rcases Nat.lt_or_ge e y.nR with q | q
        · exact q
        · have : e = y.nR := by omega
          rw [this] at d1
          exact absurd ⟨by omega, d1⟩ (no b (by omega) o1)
      by_cases c2 : b2 = o
      · exfalso
        rcases w3 b (by omega) o1 with ⟨i, i1, i2⟩ | ⟨e9, g1, g2, g3, g4, g5⟩
        · have z := (w1 i i1).2.2.2
          rw [i2, d1] at z
          have := nI_ij (b := 0) z (by omega) (by omega)
          omega
        · rw [g3] at d1
          have he9 := nI_ij d1 (by omega) (by omega)
          obtain ⟨b9, k1, k2, k3, k4, k5⟩ := w4 e9 g2 g4
          rw [g5] at k2
          have hb9 := nI_ij k2 (by omega) (by omega)
          have := k5 (y.nD - 1) (by omega)
          rw [hT] at this
          omega
      · rw [es b2 (by omega) c2] at d2
        have he2 : e2 < y.nR := by
          rcases Nat.lt_or_ge e2 y.nR with q | q
          · exact q
          · have : e2 = y.nR := by omega
            rw [this] at d2
            exact absurd ⟨by omega, d2⟩ (no b2 (by omega) o2)
        exact w5 b b2 e e2 h1 h2 he o1 o2 d1 d2 he2
