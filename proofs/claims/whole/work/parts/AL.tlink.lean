/-! ===== a token of the class and of the reference ===== -/
theorem runL_all {P : Int32 → Prop} [DecidablePred P] {b : Nat → Int32} : ∀ (n i k : Nat), k < runL P b n i → P (b (i + k))
  | 0, _, k, h => absurd h (Nat.not_lt_zero k)
  | n + 1, i, k, h => by
    by_cases c : P (b i)
    · have e := runL_1 (n := n) c
      rcases Nat.eq_zero_or_pos k with z | z
      · rw [z]; exact c
      · have := runL_all (P := P) (b := b) n (i + 1) (k - 1) (by omega)
        rw [show i + 1 + (k - 1) = i + k by omega] at this
        exact this
    · rw [runL_0 c] at h
      exact absurd h (Nat.not_lt_zero k)
theorem di_nI {c : Int32} (h : isDi c) : ∃ x, 48 ≤ x ∧ x ≤ 57 ∧ c = nI x := by
  obtain ⟨h1, h2⟩ := h
  have k1 : (48 : Int32).toInt = 48 := rfl
  have k2 : (57 : Int32).toInt = 57 := rfl
  have h1 := Int32.le_iff_toInt_le.mp h1
  have h2 := Int32.le_iff_toInt_le.mp h2
  refine ⟨c.toInt.toNat, by omega, by omega, ?_⟩
  apply Int32.toInt_inj.mp
  rw [nI_toInt (by omega)]
  omega
theorem u8_d {b : Nat → Int32} {L k : Nat} (h : k < L) (hb : b8 (b k)) (hl : isDi (b k)) : u8 b L k = b k := by
  unfold u8
  rw [if_pos h]
  obtain ⟨j, hj, e⟩ := hb
  rw [e] at hl ⊢
  exact (b8_tab j hj).1.2.2.2.2.2.1 hl
theorem d10 : ∀ k, k < 4 → 10 ^ k ≤ 1000 := by decide
theorem dv_1 {q x : Nat} (hq : q ≤ 1000) (h1 : 48 ≤ x) (h2 : x ≤ 57) : (10 * nI q + nI x - 48).toInt = 10 * q + x - 48 ∧ (nI q * 10 + (nI x - 48)).toInt = 10 * q + x - 48 := by
  have k1 : (10 : Int32).toInt = 10 := rfl
  have k2 : (48 : Int32).toInt = 48 := rfl
  have e1 : (10 * nI q).toInt = 10 * q := by
    rw [Int32.toInt_mul, k1, nI_toInt (by omega)]
    apply Int.bmod_eq_of_le <;> omega
  have e2 : (nI q * 10).toInt = 10 * q := by
    rw [Int32.toInt_mul, k1, nI_toInt (by omega), Int.mul_comm]
    apply Int.bmod_eq_of_le <;> omega
  have e3 : (nI x - 48).toInt = x - 48 := by
    rw [Int32.toInt_sub, k2, nI_toInt (by omega)]
    apply Int.bmod_eq_of_le <;> omega
  have e4 : (10 * nI q + nI x).toInt = 10 * q + x := by
    rw [Int32.toInt_add, e1, nI_toInt (by omega)]
    apply Int.bmod_eq_of_le <;> omega
  constructor
  · rw [Int32.toInt_sub, e4, k2]
    apply Int.bmod_eq_of_le <;> omega
  · rw [Int32.toInt_add, e2, e3]
    rw [show (10 * (q : Int) + ((x : Int) - 48)) = 10 * q + x - 48 by omega]
    apply Int.bmod_eq_of_le <;> omega
theorem vd_n {b : Nat → Int32} {L p : Nat} (hb : ∀ k, k < L → b8 (b k)) : ∀ (k : Nat), k ≤ 4 → p + k ≤ L → (∀ i, i < k → isDi (b (p + i))) → ∃ q, q < 10 ^ k ∧ vdF b L p k = nI q ∧ ncF b p k = nI q
  | 0, _, _, _ => ⟨0, by decide, rfl, rfl⟩
  | k + 1, hk, hp, h => by
    obtain ⟨q, h1, h2, h3⟩ := vd_n hb k (by omega) (by omega) (fun i hi => h i (by omega))
    obtain ⟨x, x1, x2, x3⟩ := di_nI (h k (by omega))
    have h10 := d10 k (by omega)
    obtain ⟨e1, e2⟩ := dv_1 (q := q) (x := x) (by omega) x1 x2
    have a1 : 10 * nI q + nI x - 48 = nI (10 * q + x - 48) := by
      apply Int32.toInt_inj.mp
      rw [e1, nI_toInt (by omega)]
      omega
    have a2 : nI q * 10 + (nI x - 48) = nI (10 * q + x - 48) := by
      apply Int32.toInt_inj.mp
      rw [e2, nI_toInt (by omega)]
      omega
    refine ⟨10 * q + x - 48, by rw [Nat.pow_succ]; omega, ?_, ?_⟩
    · show iMin 100000 (10 * vdF b L p k + u8 b L (p + k) - 48) = _
      rw [h2, u8_d (by omega) (hb _ (by omega)) (h k (by omega)), x3, a1]
      unfold iMin
      rw [if_neg]
      intro z
      have z2 := Int32.le_iff_toInt_le.mp z
      have k3 : (100000 : Int32).toInt = 100000 := rfl
      rw [nI_toInt (by omega), k3] at z2
      omega
    · show (if k < 4 then ncF b p k * 10 + (b (p + k) - 48) else ncF b p k) = _
      rw [if_pos (by omega), h3, x3, a2]
theorem u8_s {b : Nat → Int32} {L k : Nat} (h : k < L) (hb : b8 (b k)) : (u8 b L k = 59 ↔ b k = 59) ∧ (u8 b L k = 60 ↔ b k = 60) ∧ (u8 b L k = 61 ↔ b k = 61) ∧ (u8 b L k = 62 ↔ b k = 62) := by
  unfold u8
  rw [if_pos h]
  obtain ⟨j, hj, e⟩ := hb
  rw [e]
  exact (b8_tab j hj).2
def rLn (b : Nat → Int32) (L j : Nat) : Nat := runL isLe b (L - psF b L j) (psF b L j)
/-- token j is one and the same -/
def TL (K : TK) (b : Nat → Int32) (L j : Nat) : Prop :=
  (∃ w, w < 24 ∧ K.ki j = 1 ∧ K.va j = (nI w).toInt64 ∧ (gtF b L j).1 = 2 ∧ rLn b L j ≤ 8 ∧ inWF b L (psF b L j) (rLn b L j) = nI (pi_ w)) ∨
  (K.ki j = 2 ∧ (gtF b L j).1 = 2 ∧ rLn b L j ≤ 8 ∧ inWF b L (psF b L j) (rLn b L j) = -1 ∧ K.va j = wcF b (psF b L j) (rLn b L j)) ∨
  (K.ki j = 3 ∧ (gtF b L j).1 = 2 ∧ 8 < rLn b L j ∧ inWF b L (psF b L j) (rLn b L j) = -1) ∨
  (K.ki j = 4 ∧ (gtF b L j).1 = 3 ∧ vlT (K.ki j) (K.va j) = (gtF b L j).2.2.2) ∨
  (K.ki j = 5 ∧ (gtF b L j).1 = 4 ∧ vlT (K.ki j) (K.va j) = (gtF b L j).2.2.2) ∨
  (K.ki j = 6 ∧ (gtF b L j).1 = 1)
theorem TL_of {K : TK} {b : Nat → Int32} {L j : Nat} (hb : ∀ k, k < L → b8 (b k)) (T : TKs co0_ b L K) (hj : j + 1 < K.nT) : TL K b L j ∧ K.st j = nI (psF b L j) ∧ (gtF b L j).2.1 = psF b L j := by
  obtain ⟨h1, h2, h3, h4⟩ := T.2.1 j hj
  refine ⟨?_, ?_, (ahG_E h1).1⟩
  · unfold TL
    unfold gtF rLn
    rw [h2, h4]
    generalize psF b L j = p at h1
    unfold tokAt ahG
    rw [if_neg (show ¬ ¬ p < L from fun z => z h1)]
    by_cases c1 : isLe (b p)
    · rw [if_pos c1, if_pos c1]
      have hle := runL_le (P := isLe) (b := b) (L - p) p
      have hall := runL_all (P := isLe) (b := b) (L - p) p
      generalize runL isLe b (L - p) p = R at hle hall
      dsimp only
      unfold wTok
      by_cases c8_ : 8 < R
      · rw [if_pos c8_]
        exact Or.inr (Or.inr (Or.inl ⟨rfl, rfl, c8_, ww_long c8_⟩))
      · rw [if_neg c8_]
        rcases ww_link hb (show p + R ≤ L by omega) (by omega) hall with ⟨g1, g2⟩ | ⟨w, g1, g2, g3⟩
        · rw [if_pos g1]
          exact Or.inr (Or.inl ⟨rfl, rfl, by omega, g2, rfl⟩)
        · rw [if_neg (by rw [g2]; exact fun z => by have := congrArg Int32.toInt z; rw [nI_toInt (by omega)] at this; have k : (-1 : Int32).toInt = -1 := rfl; omega), g2]
          exact Or.inl ⟨w, g1, rfl, rfl, rfl, by omega, g3⟩
    · rw [if_neg c1, if_neg c1]
      by_cases c2 : isDi (b p)
      · rw [if_pos c2, if_pos c2]
        have hle := runL_le (P := isDi) (b := b) (L - p) p
        have hall := runL_all (P := isDi) (b := b) (L - p) p
        generalize runL isDi b (L - p) p = R at hle hall
        dsimp only
        unfold nTok
        by_cases c4 : R ≤ 4
        · obtain ⟨q, q1, q2, q3⟩ := vd_n hb R c4 (by omega) hall
          rw [if_pos c4, if_neg (by omega), q2, q3]
          refine Or.inr (Or.inr (Or.inr (Or.inl ⟨rfl, rfl, ?_⟩)))
          show vlT 4 (nI q).toInt64 = nI q
          unfold vlT
          rw [if_pos (Or.inl rfl), Int32.toInt32_toInt64]
        · rw [if_neg c4, if_pos (by omega)]
          exact Or.inr (Or.inr (Or.inr (Or.inr (Or.inr ⟨rfl, rfl⟩))))
      · rw [if_neg c2, if_neg c2]
        dsimp only
        obtain ⟨s1, s2, s3, s4⟩ := u8_s h1 (hb p h1)
        by_cases cs : isSi (b p)
        · have cu : u8 b L p = b p := by
            rcases cs with z | z | z | z
            · rw [z]; exact s1.mpr z
            · rw [z]; exact s2.mpr z
            · rw [z]; exact s4.mpr z
            · rw [z]; exact s3.mpr z
          have cs2 : u8 b L p = 59 ∨ u8 b L p = 60 ∨ u8 b L p = 62 ∨ u8 b L p = 61 := by rw [cu]; exact cs
          rw [if_pos cs, if_pos cs2, cu]
          refine Or.inr (Or.inr (Or.inr (Or.inr (Or.inl ⟨rfl, rfl, ?_⟩))))
          show vlT 5 (b p).toInt64 = b p
          unfold vlT
          rw [if_pos (Or.inr rfl), Int32.toInt32_toInt64]
        · have cs2 : ¬ (u8 b L p = 59 ∨ u8 b L p = 60 ∨ u8 b L p = 62 ∨ u8 b L p = 61) := by
            intro z
            apply cs
            rcases z with z | z | z | z
            · exact Or.inl (s1.mp z)
            · exact Or.inr (Or.inl (s2.mp z))
            · exact Or.inr (Or.inr (Or.inl (s4.mp z)))
            · exact Or.inr (Or.inr (Or.inr (s3.mp z)))
          rw [if_neg cs, if_neg cs2]
          exact Or.inr (Or.inr (Or.inr (Or.inr (Or.inr ⟨rfl, rfl⟩))))
  · rw [h3]
    unfold tokAt
    split
    · unfold wTok
      split
      · rfl
      · split <;> rfl
    · split <;> rfl
