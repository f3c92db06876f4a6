/-! ===== the class's words and the reference's ===== -/
def piL : List Nat := [0, 1, 2, 4, 5, 6, 3, 7, 8, 9, 10, 11, 12, 13, 14, 15, 16, 20, 21, 22, 23, 17, 18, 19]
def qiL : List Nat := [0, 1, 2, 6, 3, 4, 5, 7, 8, 9, 10, 11, 12, 13, 14, 15, 16, 21, 22, 23, 17, 18, 19, 20]
def pi_ (j : Nat) : Nat := piL.getD j 0
def qi_ (n : Nat) : Nat := qiL.getD n 0
def co0_ : Nat → Int64 := (iterN txS 135 0 (fun _ => 0, 0, 0)).1
def ln_ (n : Nat) : Nat := we_ n - ws_ n
set_option maxRecDepth 100000 in
theorem pq_t : ∀ j, j < 24 → pi_ j < 24 ∧ qi_ j < 24 ∧ pi_ (qi_ j) = j ∧ qi_ (pi_ j) = j ∧ ln_ j ≤ 8 ∧ 0 < ln_ j ∧ ∀ i, i < ln_ j → isLe (blX 1 (ws_ j + i)) := by decide +kernel
set_option maxRecDepth 100000 in
theorem co_t : ∀ j, j < 24 → co0_ j = wcF (blX 1) (ws_ (pi_ j)) (ln_ (pi_ j)) := by decide +kernel
set_option maxRecDepth 100000 in
theorem wd_t : ∀ n, n < 24 → ∀ m, m < 24 → (ln_ n = ln_ m ∧ ∀ i, i < ln_ n → blX 1 (ws_ n + i) = blX 1 (ws_ m + i)) → n = m := by decide +kernel
theorem ek_w {b : Nat → Int32} {L p K n : Nat} (hb : ∀ k, k < L → b8 (b k)) (hp : p + K ≤ L) (hl : ∀ i, i < K → isLe (b (p + i))) : ekP b L p K n ↔ (ln_ n = K ∧ ∀ i, i < K → blX 1 (ws_ n + i) = b (p + i)) := by
  have e : ∀ i, i < K → u8 b L (p + i) = b (p + i) := fun i hi => u8_e (by omega) (hb _ (by omega)) (hl i hi)
  constructor
  · rintro ⟨h1, h2⟩
    exact ⟨h1, fun i hi => (h2 i hi).trans (e i hi)⟩
  · rintro ⟨h1, h2⟩
    exact ⟨h1, fun i hi => (h2 i hi).trans (e i hi).symm⟩
theorem co_w {b : Nat → Int32} {p K j : Nat} (hj : j < 24) (hK : K ≤ 8) (hl : ∀ i, i < K → isLe (b (p + i))) : co0_ j = wcF b p K ↔ (ln_ (pi_ j) = K ∧ ∀ i, i < K → blX 1 (ws_ (pi_ j) + i) = b (p + i)) := by
  have h1 := pq_t j hj
  have h2 := pq_t (pi_ j) h1.1
  rw [co_t j hj, wc_inj h2.2.2.2.2.1 hK h2.2.2.2.2.2.2 hl]
  constructor
  · rintro ⟨g1, g2⟩
    exact ⟨g1, fun i hi => g2 i (by omega)⟩
  · rintro ⟨g1, g2⟩
    exact ⟨g1, fun i hi => g2 i (by omega)⟩
theorem ek_1 {b : Nat → Int32} {L p K n m : Nat} (hn : n < 24) (hm : m < 24) (h1 : ekP b L p K n) (h2 : ekP b L p K m) : n = m := by
  have a1 : ln_ n = K := h1.1
  have a2 : ln_ m = K := h2.1
  exact wd_t n hn m hm ⟨a1.trans a2.symm, fun i hi => (h1.2 i (by omega)).trans (h2.2 i (by omega)).symm⟩
theorem ww_link {b : Nat → Int32} {L p K : Nat} (hb : ∀ k, k < L → b8 (b k)) (hp : p + K ≤ L) (hK : K ≤ 8) (hl : ∀ i, i < K → isLe (b (p + i))) : (woF co0_ (wcF b p K) = -1 ∧ inWF b L p K = -1) ∨ ∃ j, j < 24 ∧ woF co0_ (wcF b p K) = nI j ∧ inWF b L p K = nI (pi_ j) := by
  have lk : ∀ j, j < 24 → (co0_ j = wcF b p K ↔ ekP b L p K (pi_ j)) := fun j hj => (co_w hj hK hl).trans (ek_w hb hp hl).symm
  by_cases c : ∃ n, n < 24 ∧ ekP b L p K n
  · obtain ⟨n, hn, h⟩ := c
    right
    have hq := pq_t n hn
    refine ⟨qi_ n, hq.2.1, ?_, ?_⟩
    · refine ffind_at (fun j _ hj z => ?_) ?_ (Nat.zero_le _) (by omega)
      · have hj2 : j < 24 := by omega
        have e := ek_1 (pq_t j hj2).1 hn ((lk j hj2).mp z) h
        have e2 := (pq_t j hj2).2.2.2.1
        rw [e] at e2
        omega
      · exact (lk (qi_ n) hq.2.1).mpr (by rw [hq.2.2.1]; exact h)
    · rw [hq.2.2.1]
      refine ffind_at (fun j _ hj z => ?_) h (Nat.zero_le _) (by omega)
      have := ek_1 (by omega) hn z h
      omega
  · left
    refine ⟨ffind_no (fun j _ hj z => c ⟨pi_ j, (pq_t j (by omega)).1, (lk j (by omega)).mp z⟩), ffind_no (fun j _ hj z => c ⟨j, by omega, z⟩)⟩
theorem ww_long {b : Nat → Int32} {L p K : Nat} (hK : 8 < K) : inWF b L p K = -1 := by
  refine ffind_no (fun j _ hj z => ?_)
  have h1 := (pq_t j (by omega)).2.2.2.2.1
  have h2 : ln_ j = K := z.1
  omega
