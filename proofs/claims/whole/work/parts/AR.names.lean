/-! ===== stored names: both sides ===== -/
theorem ncd_pos {B : Nat} {d : Nat → Nat} {k : Nat} (hk : 0 < k) (h : ∀ i, i < k → 0 < d i) : 0 < ncd B d k := by
  obtain ⟨m, rfl⟩ : ∃ m, k = m + 1 := ⟨k - 1, by omega⟩
  have := h m (by omega)
  show 0 < ncd B d m * B + d m
  omega
theorem p256b : 123 * 256 ^ 7 < 2 ^ 63 := by decide
set_option maxRecDepth 100000 in
theorem ncd_63 {d : Nat → Nat} {n : Nat} (hn : n ≤ 8) (hd : ∀ i, i < n → d i < 123) : ncd 256 d n < 2 ^ 63 := by
  rcases Nat.eq_zero_or_pos n with z | z
  · subst z
    show 0 < 2 ^ 63
    omega
  · have a1 := ncd_b (d := d) (n - 1) (fun i hi => hd i (by omega))
    rw [show n - 1 + 1 = n by omega] at a1
    have a2 : 256 ^ (n - 1) ≤ 256 ^ 7 := Nat.pow_le_pow_right (by omega) (by omega)
    have a4 : 123 * 256 ^ (n - 1) ≤ 123 * 256 ^ 7 := Nat.mul_le_mul_left 123 a2
    exact Nat.lt_of_lt_of_le a1 (Nat.le_trans a4 (Nat.le_of_lt p256b))
/-- one and the same name, as the class and as the reference keep it -/
def NR (x y : Int64) : Prop := (x = 0 ∧ y = 0) ∨ ∃ (f : Nat → Int32) (k : Nat), 0 < k ∧ k ≤ 8 ∧ (∀ i, i < k → isLe (f (0 + i))) ∧ x = wcF f 0 k ∧ y = lN64 (ncd 256 (dgB f 0) k)
theorem wc_n0 {f : Nat → Int32} {k : Nat} (h0 : 0 < k) (h8 : k ≤ 8) (h : ∀ i, i < k → isLe (f (0 + i))) : ¬ wcF f 0 k = 0 := by
  intro z
  have e := congrArg Int64.toInt z
  rw [wcF_n k h8 h] at e
  have k0 : (0 : Int64).toInt = 0 := rfl
  have := ncd_pos (B := 32) (d := dgA f 0) h0 (fun i hi => (dg_in (h i hi)).1.1)
  omega
theorem nm_n0 {f : Nat → Int32} {k : Nat} (h0 : 0 < k) (h8 : k ≤ 8) (h : ∀ i, i < k → isLe (f (0 + i))) : ¬ lN64 (ncd 256 (dgB f 0) k) = 0 := by
  intro z
  have e := congrArg Int64.toInt z
  rw [lN_toI (ncd_63 h8 (fun i hi => (dg_in (h i hi)).2.1.2))] at e
  have k0 : (0 : Int64).toInt = 0 := rfl
  have := ncd_pos (B := 256) (d := dgB f 0) h0 (fun i hi => (dg_in (h i hi)).2.1.1)
  omega
theorem NR_eq {x y x2 y2 : Int64} (h : NR x y) (h2 : NR x2 y2) : x = x2 ↔ y = y2 := by
  rcases h with ⟨a1, a2⟩ | ⟨f, k, f0, f8, fl, a1, a2⟩
  · rcases h2 with ⟨b1, b2⟩ | ⟨g, m, g0, g8, gl, b1, b2⟩
    · rw [a1, a2, b1, b2]
    · rw [a1, a2, b1, b2]
      exact ⟨fun z => absurd z.symm (wc_n0 g0 g8 gl), fun z => absurd z.symm (nm_n0 g0 g8 gl)⟩
  · rcases h2 with ⟨b1, b2⟩ | ⟨g, m, g0, g8, gl, b1, b2⟩
    · rw [a1, a2, b1, b2]
      exact ⟨fun z => absurd z (wc_n0 f0 f8 fl), fun z => absurd z (nm_n0 f0 f8 fl)⟩
    · rw [a1, a2, b1, b2, wc_inj f8 g8 fl gl]
      constructor
      · rintro ⟨rfl, e⟩
        rw [ncd_e k (fun i hi => show dgB f 0 i = dgB g 0 i from by unfold dgB; rw [e i hi])]
      · intro z
        have e := congrArg Int64.toInt z
        rw [lN_toI (ncd_63 f8 (fun i hi => (dg_in (fl i hi)).2.1.2)), lN_toI (ncd_63 g8 (fun i hi => (dg_in (gl i hi)).2.1.2))] at e
        obtain ⟨c1, c2⟩ := ncd_inj (B := 256) k m (fun i hi => ⟨(dg_in (fl i hi)).2.1.1, Nat.lt_trans (dg_in (fl i hi)).2.1.2 (by decide)⟩) (fun i hi => ⟨(dg_in (gl i hi)).2.1.1, Nat.lt_trans (dg_in (gl i hi)).2.1.2 (by decide)⟩) (Int.ofNat.inj e)
        refine ⟨c1, fun i hi => ?_⟩
        rw [(dg_in (fl i hi)).2.2.1, (dg_in (gl i (by omega))).2.2.1, c2 i hi]
theorem wcF_s {b : Nat → Int32} {p : Nat} : ∀ k, wcF (fun i => b (p + i)) 0 k = wcF b p k
  | 0 => rfl
  | k + 1 => by
    show (if k < 8 then wiL (wcF (fun i => b (p + i)) 0 k) (b (p + (0 + k))) else wcF (fun i => b (p + i)) 0 k) = (if k < 8 then wiL (wcF b p k) (b (p + k)) else wcF b p k)
    rw [wcF_s k, Nat.zero_add]
theorem rLn_p {b : Nat → Int32} {L j : Nat} (h : (gtF b L j).1 = 2) : psF b L j < L ∧ 0 < rLn b L j ∧ psF b L j + rLn b L j ≤ L ∧ ∀ i, i < rLn b L j → isLe (b (psF b L j + i)) := by
  have h1 := gt_lt (b := b) (L := L) (j := j) (by rw [h]; decide)
  have h2 := g2_end h
  have h3 := ahG_E (b := b) h1
  have h4 := tkN_in (b := b) h1
  have h5 : (gtF b L j).2.2.1 = tkN b L (psF b L j) := h3.2
  refine ⟨h1, by omega, by omega, fun i hi => runL_all (P := isLe) (b := b) _ _ i hi⟩
theorem NR_tok {K : TK} {b : Nat → Int32} {L j : Nat} (hb : ∀ k, k < L → b8 (b k)) (h : TL K b L j) (h2 : K.ki j = 2) : NR (K.va j) (nmF b L (psF b L j) (lnT b L j)) := by
  obtain ⟨g1, g2, g3⟩ := (nm_link h).mp h2
  obtain ⟨r1, r2, r3, r4⟩ := rLn_p g1
  have e := ln_2 g1
  rw [e] at g2 ⊢
  have hv : K.va j = wcF b (psF b L j) (rLn b L j) := by
    rcases h with ⟨w, h1, k2, h3, h4, h5, h6⟩ | ⟨h1, k2, h3, h4, h5⟩ | ⟨h1, k2, h3, h4⟩ | ⟨h1, k2, h3⟩ | ⟨h1, k2, h3⟩ | ⟨h1, k2⟩
    · exact absurd (k2.symm.trans h2) (by decide)
    · exact h5
    · exact absurd (h1.symm.trans h2) (by decide)
    · exact absurd (h1.symm.trans h2) (by decide)
    · exact absurd (h1.symm.trans h2) (by decide)
    · exact absurd (h1.symm.trans h2) (by decide)
  refine Or.inr ⟨fun i => b (psF b L j + i), rLn b L j, r2, g2, fun i hi => ?_, ?_, ?_⟩
  · rw [Nat.zero_add]; exact r4 i hi
  · rw [wcF_s]; exact hv
  · rw [nmF_n hb _ g2 r3 r4]
    rw [ncd_e (rLn b L j) (fun i hi => show dgB b (psF b L j) i = dgB (fun i => b (psF b L j + i)) 0 i from by unfold dgB; rw [Nat.zero_add])]
