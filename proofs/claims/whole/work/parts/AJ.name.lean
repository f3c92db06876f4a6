/-! ===== the reference's names as numbers ===== -/
set_option maxRecDepth 100000 in
theorem sh8 {v x : Nat} (hv : v * 256 + 255 < 2 ^ 63) (hx : x < 256) : (lN64 v <<< 8) ||| lN64 x = lN64 (v * 256 + x) := by
  apply Int64.toBitVec_inj.mp
  rw [Int64.toBitVec_or, Int64.toBitVec_shiftLeft]
  rw [show ((8 : Int64).toBitVec.smod 64) = 8#64 from by decide]
  show (BitVec.ofNat 64 v <<< (8#64).toNat) ||| BitVec.ofNat 64 x = BitVec.ofNat 64 (v * 256 + x)
  apply BitVec.eq_of_toNat_eq
  have e := Nat.shiftLeft_add_eq_or_of_lt (b := x) (i := 8) hx v
  rw [Nat.shiftLeft_eq] at e
  rw [show (8#64).toNat = 8 from rfl, BitVec.toNat_or, BitVec.toNat_shiftLeft, BitVec.toNat_ofNat, BitVec.toNat_ofNat, BitVec.toNat_ofNat, Nat.mod_eq_of_lt (a := v) (by omega), Nat.mod_eq_of_lt (a := x) (by omega), Nat.mod_eq_of_lt (a := v * 256 + x) (by omega), Nat.shiftLeft_eq, Nat.mod_eq_of_lt (a := v * 2 ^ 8) (by omega)]
  omega
theorem nI_64 {x : Nat} (h : x < 2 ^ 31) : (nI x).toInt64 = lN64 x := by
  apply Int64.toInt_inj.mp
  rw [Int32.toInt_toInt64, nI_toInt h, lN_toI (by omega)]
theorem ncd_b {d : Nat → Nat} : ∀ (k : Nat), (∀ i, i < k + 1 → d i < 123) → ncd 256 d (k + 1) < 123 * 256 ^ k
  | 0, hd => by
    have := hd 0 (by omega)
    show 0 * 256 + d 0 < 123 * 256 ^ 0
    rw [Nat.pow_zero]; omega
  | k + 1, hd => by
    have h1 := ncd_b k (fun i hi => hd i (by omega))
    have h2 := hd (k + 1) (by omega)
    show ncd 256 d (k + 1) * 256 + d (k + 1) < 123 * 256 ^ (k + 1)
    rw [Nat.pow_succ]
    omega
theorem p256 : ∀ k, k < 7 → 123 * 256 ^ k * 256 < 2 ^ 63 := by decide
theorem u8_e {b : Nat → Int32} {L k : Nat} (h : k < L) (hb : b8 (b k)) (hl : isLe (b k)) : u8 b L k = b k := by
  unfold u8
  rw [if_pos h]
  obtain ⟨j, hj, e⟩ := hb
  rw [e] at hl ⊢
  exact (b8_tab j hj).1.2.2.2.2.1 hl
set_option maxRecDepth 100000 in
theorem nmF_n {b : Nat → Int32} {L p : Nat} (hb : ∀ k, k < L → b8 (b k)) : ∀ (k : Nat), k ≤ 8 → p + k ≤ L → (∀ i, i < k → isLe (b (p + i))) → nmF b L p k = lN64 (ncd 256 (dgB b p) k)
  | 0, _, _, _ => rfl
  | k + 1, hk, hp, h => by
    have ih := nmF_n hb k (by omega) (by omega) (fun i hi => h i (by omega))
    have hl := dg_in (h k (by omega))
    show (nmF b L p k <<< 8) ||| (u8 b L (p + k)).toInt64 = lN64 (ncd 256 (dgB b p) k * 256 + dgB b p k)
    rw [ih, u8_e (by omega) (hb _ (by omega)) (h k (by omega)), hl.2.2.1, nI_64 (by omega)]
    refine sh8 ?_ (by omega)
    rcases Nat.eq_zero_or_pos k with z | z
    · subst z
      show 0 * 256 + 255 < 2 ^ 63
      omega
    · have h1 := ncd_b (d := dgB b p) (k - 1) (fun i hi => (dg_in (h i (by omega))).2.1.2)
      have h2 := p256 (k - 1) (by omega)
      rw [show k - 1 + 1 = k by omega] at h1
      generalize 256 ^ (k - 1) = y at h1 h2
      omega
set_option maxRecDepth 100000 in
theorem nm_inj {b c : Nat → Int32} {L L2 p q k m : Nat} (hb : ∀ k, k < L → b8 (b k)) (hc : ∀ k, k < L2 → b8 (c k)) (hk : k ≤ 8) (hm : m ≤ 8) (hp : p + k ≤ L) (hq : q + m ≤ L2) (h1 : ∀ i, i < k → isLe (b (p + i))) (h2 : ∀ i, i < m → isLe (c (q + i))) : nmF b L p k = nmF c L2 q m ↔ k = m ∧ ∀ i, i < k → b (p + i) = c (q + i) := by
  have bnd : ∀ {d : Nat → Nat} {n : Nat}, n ≤ 8 → (∀ i, i < n → d i < 123) → ncd 256 d n < 2 ^ 63 := by
    intro d n hn hd
    rcases Nat.eq_zero_or_pos n with z | z
    · subst z
      show 0 < 2 ^ 63
      omega
    · have a1 := ncd_b (d := d) (n - 1) (fun i hi => hd i (by omega))
      rw [show n - 1 + 1 = n by omega] at a1
      have a2 : 256 ^ (n - 1) ≤ 256 ^ 7 := Nat.pow_le_pow_right (by omega) (by omega)
      have a3 : 123 * 256 ^ 7 < 2 ^ 63 := by decide
      have a4 : 123 * 256 ^ (n - 1) ≤ 123 * 256 ^ 7 := Nat.mul_le_mul_left 123 a2
      omega
  rw [nmF_n hb k hk hp h1, nmF_n hc m hm hq h2]
  constructor
  · intro h
    have e := congrArg Int64.toInt h
    rw [lN_toI (bnd hk (fun i hi => (dg_in (h1 i hi)).2.1.2)), lN_toI (bnd hm (fun i hi => (dg_in (h2 i hi)).2.1.2))] at e
    obtain ⟨g1, g2⟩ := ncd_inj (B := 256) k m (fun i hi => ⟨(dg_in (h1 i hi)).2.1.1, by have := (dg_in (h1 i hi)).2.1.2; omega⟩) (fun i hi => ⟨(dg_in (h2 i hi)).2.1.1, by have := (dg_in (h2 i hi)).2.1.2; omega⟩) (by omega)
    refine ⟨g1, fun i hi => ?_⟩
    have a1 := dg_in (h1 i hi)
    have a2 := dg_in (h2 i (by omega))
    rw [a1.2.2.1, a2.2.2.1, g2 i hi]
  · rintro ⟨rfl, h⟩
    rw [ncd_e k (fun i hi => show dgB b p i = dgB c q i from by unfold dgB; rw [h i hi])]
