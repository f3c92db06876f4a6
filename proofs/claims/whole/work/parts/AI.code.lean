/-! ===== words as numbers ===== -/
def ncd (B : Nat) (d : Nat → Nat) : Nat → Nat
  | 0 => 0
  | k + 1 => ncd B d k * B + d k
theorem ncd_inj {B : Nat} {d e : Nat → Nat} : ∀ (k m : Nat), (∀ i, i < k → 0 < d i ∧ d i < B) → (∀ i, i < m → 0 < e i ∧ e i < B) → ncd B d k = ncd B e m → k = m ∧ ∀ i, i < k → d i = e i
  | 0, 0, _, _, _ => ⟨rfl, fun i hi => absurd hi (Nat.not_lt_zero _)⟩
  | 0, m + 1, _, he, h => by
    have h1 := (he m (Nat.lt_succ_self _)).1
    have h2 : 0 = ncd B e m * B + e m := h
    omega
  | k + 1, 0, hd, _, h => by
    have h1 := (hd k (Nat.lt_succ_self _)).1
    have h2 : ncd B d k * B + d k = 0 := h
    omega
  | k + 1, m + 1, hd, he, h => by
    have h1 := hd k (Nat.lt_succ_self _)
    have h2 := he m (Nat.lt_succ_self _)
    have h3 : ncd B d k * B + d k = ncd B e m * B + e m := h
    have hB : 0 < B := by omega
    have a1 : (d k + ncd B d k * B) % B = d k := by rw [Nat.add_mul_mod_self_right]; exact Nat.mod_eq_of_lt h1.2
    have a2 : (e m + ncd B e m * B) % B = e m := by rw [Nat.add_mul_mod_self_right]; exact Nat.mod_eq_of_lt h2.2
    have h4 : d k + ncd B d k * B = e m + ncd B e m * B := by omega
    rw [h4, a2] at a1
    have h5 : ncd B d k * B = ncd B e m * B := by omega
    obtain ⟨i1, i2⟩ := ncd_inj k m (fun i hi => hd i (by omega)) (fun i hi => he i (by omega)) (Nat.eq_of_mul_eq_mul_right hB h5)
    refine ⟨by omega, fun i hi => ?_⟩
    by_cases z : i = k
    · subst z; rw [← a1, i1]
    · exact i2 i (by omega)
theorem ncd_lt {B : Nat} {d : Nat → Nat} : ∀ (k : Nat), (∀ i, i < k → d i < B) → ncd B d k < B ^ k
  | 0, _ => by
    show 0 < B ^ 0
    rw [Nat.pow_zero]; omega
  | k + 1, hd => by
    have h1 := ncd_lt k (fun i hi => hd i (by omega))
    have h2 := hd k (Nat.lt_succ_self _)
    show ncd B d k * B + d k < B ^ (k + 1)
    have h3 : (ncd B d k + 1) * B ≤ B ^ k * B := Nat.mul_le_mul_right B h1
    rw [Nat.add_mul, Nat.one_mul] at h3
    rw [Nat.pow_succ]
    omega
theorem ncd_e {B : Nat} {d e : Nat → Nat} : ∀ (k : Nat), (∀ i, i < k → d i = e i) → ncd B d k = ncd B e k
  | 0, _ => rfl
  | k + 1, h => by
    show ncd B d k * B + d k = ncd B e k * B + e k
    rw [ncd_e k (fun i hi => h i (by omega)), h k (by omega)]
theorem le_nI {c : Int32} (h : isLe c) : ∃ x, 97 ≤ x ∧ x ≤ 122 ∧ c = nI x := by
  obtain ⟨h1, h2⟩ := h
  have k1 : (97 : Int32).toInt = 97 := rfl
  have k2 : (122 : Int32).toInt = 122 := rfl
  have h1 := Int32.le_iff_toInt_le.mp h1
  have h2 := Int32.le_iff_toInt_le.mp h2
  refine ⟨c.toInt.toNat, by omega, by omega, ?_⟩
  apply Int32.toInt_inj.mp
  rw [nI_toInt (by omega)]
  omega
theorem le_d : ∀ x, x < 123 → 97 ≤ x → nI x - 97 + 1 = nI (x - 96) := by decide +kernel
theorem wiL_n {s : Int64} {x v : Nat} (h1 : 97 ≤ x) (h2 : x ≤ 122) (hs : s.toInt = v) (hv : v < 2 ^ 40) : (wiL s (nI x)).toInt = ((v * 32 + (x - 96) : Nat) : Int) := by
  unfold wiL
  have k : (32 : Int64).toInt = 32 := rfl
  have e1 : (s * 32).toInt = ((v * 32 : Nat) : Int) := by
    rw [Int64.toInt_mul, hs, k]
    apply Int.bmod_eq_of_le <;> omega
  rw [le_d x (by omega) h1, Int64.toInt_add, e1, Int32.toInt_toInt64, nI_toInt (by omega)]
  apply Int.bmod_eq_of_le <;> omega
def dgA (b : Nat → Int32) (p i : Nat) : Nat := (b (p + i)).toNatClampNeg - 96
def dgB (b : Nat → Int32) (p i : Nat) : Nat := (b (p + i)).toNatClampNeg
theorem dg_in {b : Nat → Int32} {p i : Nat} (h : isLe (b (p + i))) : (0 < dgA b p i ∧ dgA b p i < 32) ∧ (0 < dgB b p i ∧ dgB b p i < 123) ∧ b (p + i) = nI (dgB b p i) ∧ dgB b p i = dgA b p i + 96 := by
  obtain ⟨x, h1, h2, h3⟩ := le_nI h
  unfold dgA dgB
  rw [h3, nI_clamp (by omega)]
  exact ⟨by omega, by omega, rfl, by omega⟩
theorem p32 : ∀ k, k < 8 → 32 ^ k < 2 ^ 40 := by decide
theorem wcF_n {b : Nat → Int32} {p : Nat} : ∀ (k : Nat), k ≤ 8 → (∀ i, i < k → isLe (b (p + i))) → (wcF b p k).toInt = (ncd 32 (dgA b p) k : Int)
  | 0, _, _ => rfl
  | k + 1, hk, h => by
    have ih := wcF_n k (by omega) (fun i hi => h i (by omega))
    have hl := dg_in (h k (by omega))
    have hb := ncd_lt (B := 32) (d := dgA b p) k (fun i hi => (dg_in (h i (by omega))).1.2)
    have hp := p32 k (by omega)
    obtain ⟨x, h1, h2, h3⟩ := le_nI (h k (by omega))
    show (if k < 8 then wiL (wcF b p k) (b (p + k)) else wcF b p k).toInt = _
    rw [if_pos (by omega), h3, wiL_n h1 h2 ih (by omega)]
    have e : dgA b p k = x - 96 := by unfold dgA; rw [h3, nI_clamp (by omega)]
    show _ = ((ncd 32 (dgA b p) k * 32 + dgA b p k : Nat) : Int)
    rw [e]
/-- the class's words -/
theorem wc_inj {b c : Nat → Int32} {p q k m : Nat} (hk : k ≤ 8) (hm : m ≤ 8) (h1 : ∀ i, i < k → isLe (b (p + i))) (h2 : ∀ i, i < m → isLe (c (q + i))) : wcF b p k = wcF c q m ↔ k = m ∧ ∀ i, i < k → b (p + i) = c (q + i) := by
  constructor
  · intro h
    have e := congrArg Int64.toInt h
    rw [wcF_n k hk h1, wcF_n m hm h2] at e
    obtain ⟨g1, g2⟩ := ncd_inj k m (fun i hi => (dg_in (h1 i hi)).1) (fun i hi => (dg_in (h2 i hi)).1) (by omega)
    refine ⟨g1, fun i hi => ?_⟩
    have a1 := dg_in (h1 i hi)
    have a2 := dg_in (h2 i (by omega))
    rw [a1.2.2.1, a2.2.2.1, a1.2.2.2, a2.2.2.2, g2 i hi]
  · rintro ⟨rfl, h⟩
    apply Int64.toInt_inj.mp
    rw [wcF_n k hk h1, wcF_n k hk h2, ncd_e k (fun i hi => show dgA b p i = dgA c q i from by unfold dgA; rw [h i hi])]
