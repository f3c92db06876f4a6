/-! ===== Euclid ends in a hundred rounds ===== -/
theorem rest64 {a b : Int64} (ha : 0 ≤ a.toInt) (hb : 0 < b.toInt) : (a - a / b * b).toInt = a.toInt % b.toInt := by
  have h1 := a.toInt_lt
  have h2 := b.toInt_lt
  have hq0 : 0 ≤ a.toInt / b.toInt := Int.ediv_nonneg ha (Int.le_of_lt hb)
  have hq1 : a.toInt / b.toInt ≤ a.toInt := Int.ediv_le_self _ ha
  have hm := Int.mul_ediv_add_emod a.toInt b.toInt
  have hr0 := Int.emod_nonneg a.toInt (by omega : b.toInt ≠ 0)
  have hr1 := Int.emod_lt_of_pos a.toInt hb
  have e1 : (a / b).toInt = a.toInt / b.toInt := by
    rw [Int64.toInt_div, Int.tdiv_eq_ediv_of_nonneg ha]
    apply Int.bmod_eq_of_le <;> omega
  have e2 : (a / b * b).toInt = b.toInt * (a.toInt / b.toInt) := by
    rw [Int64.toInt_mul, e1, Int.mul_comm]
    have h3 : 0 ≤ b.toInt * (a.toInt / b.toInt) := Int.mul_nonneg (Int.le_of_lt hb) hq0
    apply Int.bmod_eq_of_le <;> omega
  rw [Int64.toInt_sub, e2]
  have h3 : 0 ≤ b.toInt * (a.toInt / b.toInt) := Int.mul_nonneg (Int.le_of_lt hb) hq0
  have e3 : a.toInt - b.toInt * (a.toInt / b.toInt) = a.toInt % b.toInt := by omega
  rw [e3]
  apply Int.bmod_eq_of_le <;> omega
theorem z64 {b : Int64} : b = 0 ↔ b.toInt = 0 := ⟨fun h => by rw [h]; rfl, fun h => Int64.toInt_inj.mp (by rw [h]; rfl)⟩
theorem cdD_up : ∀ (r : Nat) (a b : Int64), cdD r a b → cdD (r + 1) a b
  | 0, _, _, h => Or.inl h
  | r + 1, a, b, h => by
    rcases h with h | h
    · exact Or.inl h
    · exact Or.inr (cdD_up r _ _ h)
theorem cdD_le {r s : Nat} {a b : Int64} (h : cdD r a b) (hrs : r ≤ s) : cdD s a b := by
  induction hrs with
  | refl => exact h
  | step _ ih => exact cdD_up _ _ _ ih
theorem cdD_2k : ∀ (k : Nat) (a b : Int64), 0 ≤ a.toInt → 0 ≤ b.toInt → b.toInt < 2 ^ k → cdD (2 * k) a b
  | 0, a, b, _, hb, h => z64.mpr (by simp at h; omega)
  | k + 1, a, b, ha, hb, h => by
    show cdD (2 * k + 1 + 1) a b
    by_cases e : b = 0
    · exact Or.inl e
    · have hb1 : 0 < b.toInt := by
        have : ¬ b.toInt = 0 := fun z => e (z64.mpr z)
        omega
      have r1 := rest64 ha hb1
      have p0 := Int.emod_nonneg a.toInt (by omega : b.toInt ≠ 0)
      have p1 := Int.emod_lt_of_pos a.toInt hb1
      refine Or.inr ?_
      generalize hc : a - a / b * b = c at r1
      by_cases e2 : c = 0
      · exact Or.inl e2
      · have hc1 : 0 < c.toInt := by
          have : ¬ c.toInt = 0 := fun z => e2 (z64.mpr z)
          omega
        have r2 := rest64 hb hc1
        have q0 := Int.emod_nonneg b.toInt (by omega : c.toInt ≠ 0)
        have q1 := Int.emod_lt_of_pos b.toInt hc1
        have hm := Int.mul_ediv_add_emod b.toInt c.toInt
        have hq : 1 ≤ b.toInt / c.toInt := by
          rw [Int.le_ediv_iff_mul_le hc1]; omega
        have hlow : c.toInt ≤ c.toInt * (b.toInt / c.toInt) := by
          have := Int.mul_le_mul_of_nonneg_left hq (Int.le_of_lt hc1)
          rw [Int.mul_one] at this
          exact this
        have h2k : (2 : Int) ^ (k + 1) = 2 * 2 ^ k := by rw [Int.pow_succ, Int.mul_comm]
        refine Or.inr (cdD_2k k c _ (by omega) (by omega) ?_)
        rw [r2]
        omega
theorem cdI_pos : ∀ (r : Nat) (a b : Int64), 0 ≤ a.toInt → 0 ≤ b.toInt → 0 < a.toInt ∨ 0 < b.toInt → cdD r a b → 0 < (cdI r a b).toInt
  | 0, a, b, _, _, h, hd => by
    have : b.toInt = 0 := z64.mp hd
    show 0 < a.toInt
    omega
  | r + 1, a, b, ha, hb, h, hd => by
    by_cases e : b = 0
    · rw [show cdI (r + 1) a b = a from if_pos e]
      have := z64.mp e
      omega
    · rw [show cdI (r + 1) a b = cdI r b (a - a / b * b) from if_neg e]
      have hb1 : 0 < b.toInt := by
        have : ¬ b.toInt = 0 := fun z => e (z64.mpr z)
        omega
      have r1 := rest64 ha hb1
      have p0 := Int.emod_nonneg a.toInt (by omega : b.toInt ≠ 0)
      exact cdI_pos r b _ hb (by omega) (Or.inl hb1) (hd.resolve_left e)
theorem gcd_ok {a b : Int64} (ha : 0 ≤ a.toInt) (hb : 0 < b.toInt) (h : b.toInt < 2 ^ 49) : cdD 100 a b ∧ 0 < cdF a b := by
  have h1 : cdD 100 a b := cdD_le (cdD_2k 49 a b ha (Int.le_of_lt hb) h) (by omega)
  exact ⟨h1, Int64.lt_iff_toInt_lt.mpr (cdI_pos 100 a b ha (Int.le_of_lt hb) (Or.inr hb) h1)⟩
