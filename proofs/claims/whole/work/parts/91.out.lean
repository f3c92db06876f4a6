/-! ===== OUT: the class's one pass is the reference's four ===== -/
theorem upd2 {a : Nat → Int32} {k : Nat} {v w : Int32} : upd (upd a k v) k w = upd a k w := by
  funext j
  unfold upd
  split <;> rfl
theorem upd_self {a : Nat → Int32} {k : Nat} {v : Int32} (h : a k = v) : upd a k v = a := by
  funext j
  unfold upd
  split
  · rename_i e; rw [e]; exact h.symm
  · rfl
theorem hs_z {x : Int32} : x = 0 ↔ ∀ k, k < 32 → ¬ hs x (nI k) := by
  constructor
  · intro h k hk; rw [h]; exact hs_0 hk
  · intro h
    apply Int32.toBitVec_inj.mp
    apply BitVec.eq_of_getLsbD_eq
    intro i hi
    have := h i hi
    rw [hs_bv hi] at this
    rw [Bool.not_eq_true] at this
    rw [this]
    simp
theorem hs_nI {i n k : Nat} (h : i < 2 ^ n) (hn : n ≤ 31) (hk : k < 32) (z : hs (nI i) (nI k)) : k < n := by
  rw [hs_bv hk] at z
  rcases Nat.lt_or_ge k n with y | y
  · exact y
  · exfalso
    have e : (nI i).toBitVec = BitVec.ofNat 32 i := rfl
    rw [e, BitVec.getLsbD_ofNat] at z
    have h2 : i < 2 ^ k := Nat.lt_of_lt_of_le h (Nat.pow_le_pow_right (by omega) y)
    rw [Nat.testBit_lt_two_pow h2] at z
    simp at z
theorem th_or {n : Int32} {sk x : Int32} : lTh n (sk ||| x) = lTh n sk &&& (x ^^^ (-1)) := by
  unfold lTh
  apply Int32.toBitVec_inj.mp
  apply BitVec.eq_of_getLsbD_eq
  intro i hi
  have h1 : ∀ k, k < 32 → (Int32.toBitVec (-1)).getLsbD k = true := by decide +kernel
  simp only [Int32.toBitVec_and, Int32.toBitVec_or, Int32.toBitVec_xor, BitVec.getLsbD_and, BitVec.getLsbD_or, BitVec.getLsbD_xor, h1 i hi]
  cases (Int32.toBitVec (bit n - 1)).getLsbD i <;> cases (Int32.toBitVec sk).getLsbD i <;> cases (Int32.toBitVec x).getLsbD i <;> rfl
theorem sub_th {t : TW} (I : tOK t) {i : Nat} (hi : i < 2 ^ t.nL) : nI i &&& (tTh t ^^^ (-1)) = 0 ↔ nI i &&& t.sk = 0 := by
  have hL := I.hL
  rw [hs_z, hs_z]
  constructor
  · intro h k hk z
    rw [hs_and hk] at z
    have hkn := hs_nI hi (by omega) hk z.1
    apply h k hk
    rw [hs_and hk, hs_not hk]
    exact ⟨z.1, fun y => (hs_th hL hkn).mp y z.2⟩
  · intro h k hk z
    rw [hs_and hk, hs_not hk] at z
    have hkn := hs_nI hi (by omega) hk z.1
    apply h k hk
    rw [hs_and hk]
    exact ⟨z.1, Decidable.of_not_not (fun y => z.2 ((hs_th hL hkn).mpr y))⟩
def bcn (i : Nat) : Nat := (bcR (nI i)).toNatClampNeg
theorem bcn_a : ∀ a, a < 64 → ∀ b, b < 64 → (bcR (nI (64 * a + b)) = nI (bcR (nI (64 * a + b))).toNatClampNeg ∧ (bcR (nI (64 * a + b))).toNatClampNeg ≤ 12) := by decide +kernel
theorem bcn_ok {i : Nat} (hi : i < 4096) : bcR (nI i) = nI (bcn i) ∧ bcn i ≤ 12 := by
  have h := bcn_a (i / 64) (by omega) (i % 64) (by omega)
  rw [show 64 * (i / 64) + i % 64 = i by omega] at h
  exact h
abbrev ouP (t : TW) (i : Nat) : Prop := nI i &&& t.sk = 0 ∧ tClo (tSk t (t.sk ||| nI i))
abbrev obP (t : TW) (m i : Nat) : Prop := ouP t i ∧ bcR (nI i) = nI m
def obF (t : TW) (m : Nat) : Int32 := ffind (obP t m) 0 (2 ^ t.nL)
def ooR (t : TW) : Nat → Nat → Int32
  | 0, _ => -1
  | r + 1, m => if obF t m = -1 then ooR t r (m + 1) else obF t m
theorem foG_P {t : TW} (I : tOK t) {i : Nat} (hi : i < 2 ^ t.nL) (s : Int32 × Int32) : foG (tE_ t) (tN_ t) (tTh t) t.fr t.to_ t.nL t.nP i s = if ouP t i ∧ bcR (nI i) < s.1 then (bcR (nI i), nI i) else s := by
  have e : tClo (tSk t (t.sk ||| nI i)) ↔ cloC (tE_ t) (tN_ t) (tTh t &&& (nI i ^^^ (-1))) t.fr t.to_ t.nL t.nP := by
    show cloC (tE_ t) (tN_ t) (lTh (nI t.nL) (t.sk ||| nI i)) t.fr t.to_ t.nL t.nP ↔ cloC (tE_ t) (tN_ t) (lTh (nI t.nL) t.sk &&& (nI i ^^^ (-1))) t.fr t.to_ t.nL t.nP
    rw [th_or]
  unfold foG
  by_cases h : ouP t i ∧ bcR (nI i) < s.1
  · rw [if_pos h, if_pos ⟨(sub_th I hi).mpr h.1.1, h.2, e.mp h.1.2⟩]
  · rw [if_neg h, if_neg (fun z => h ⟨⟨(sub_th I hi).mp z.1, e.mpr z.2.2⟩, z.2.1⟩)]
/-- what stands when k sets were looked at -/
def foK (t : TW) (k : Nat) (s : Int32 × Int32) : Prop := (s = (4, -1) ∧ ∀ j, j < k → ouP t j → 4 ≤ bcn j) ∨ ∃ j, j < k ∧ ouP t j ∧ s = (nI (bcn j), nI j) ∧ bcn j < 4 ∧ (∀ i, i < k → ouP t i → bcn j ≤ bcn i) ∧ ∀ i, i < j → ouP t i → bcn j < bcn i
theorem foK_step {t : TW} {k : Nat} (hk : k < 4096) {s : Int32 × Int32} (h : foK t k s) : foK t (k + 1) (if ouP t k ∧ bcR (nI k) < s.1 then (bcR (nI k), nI k) else s) := by
  obtain ⟨b1, b2⟩ := bcn_ok hk
  rcases h with ⟨rfl, h⟩ | ⟨j, hj, hp, rfl, h4, hm, hl⟩
  · have h4 : (4 : Int32) = nI 4 := rfl
    by_cases z : ouP t k ∧ bcR (nI k) < 4
    · rw [if_pos z, b1]
      have hlt : bcn k < 4 := (nI_ltI (by omega) (by omega)).mp (by rw [← b1]; exact z.2)
      refine Or.inr ⟨k, by omega, z.1, rfl, hlt, fun i hi hpi => ?_, fun i hi hpi => ?_⟩
      · rcases Nat.lt_or_ge i k with y | y
        · have := h i y hpi; omega
        · rw [show i = k by omega]; omega
      · have := h i hi hpi; omega
    · rw [if_neg z]
      refine Or.inl ⟨rfl, fun i hi hpi => ?_⟩
      rcases Nat.lt_or_ge i k with y | y
      · exact h i y hpi
      · have e : i = k := by omega
        subst e
        rcases Nat.lt_or_ge (bcn i) 4 with w | w
        · exact absurd ⟨hpi, by rw [b1]; exact (nI_ltI (a := bcn i) (b := 4) (by omega) (by omega)).mpr w⟩ z
        · exact w
  · have hbj : bcn j < 2 ^ 31 := by omega
    by_cases z : ouP t k ∧ bcR (nI k) < nI (bcn j)
    · rw [if_pos z, b1]
      have hlt : bcn k < bcn j := (nI_ltI (by omega) hbj).mp (by rw [← b1]; exact z.2)
      refine Or.inr ⟨k, by omega, z.1, rfl, by omega, fun i hi hpi => ?_, fun i hi hpi => ?_⟩
      · rcases Nat.lt_or_ge i k with y | y
        · have := hm i y hpi; omega
        · rw [show i = k by omega]; omega
      · have := hm i hi hpi; omega
    · rw [if_neg z]
      refine Or.inr ⟨j, by omega, hp, rfl, h4, fun i hi hpi => ?_, hl⟩
      rcases Nat.lt_or_ge i k with y | y
      · exact hm i y hpi
      · have e : i = k := by omega
        subst e
        rcases Nat.lt_or_ge (bcn i) (bcn j) with w | w
        · exact absurd ⟨hpi, by rw [b1]; exact (nI_ltI (by omega) hbj).mpr w⟩ z
        · exact w
theorem foK_run {t : TW} (I : tOK t) : ∀ (r i : Nat) (s : Int32 × Int32), i + r = 2 ^ t.nL → foK t i s → foK t (2 ^ t.nL) (iterN (foG (tE_ t) (tN_ t) (tTh t) t.fr t.to_ t.nL t.nP) r i s)
  | 0, i, s, hi, h => by rw [← hi]; exact h
  | r + 1, i, s, hi, h => by
    have hL := I.hL
    have h2 := pow_12 t.nL (by omega)
    simp only [iterN]
    rw [foG_P I (by omega)]
    exact foK_run I r (i + 1) _ (by omega) (foK_step (by omega) h)
theorem ooR_no {t : TW} : ∀ (r m : Nat), (∀ k, m ≤ k → k < m + r → obF t k = -1) → ooR t r m = -1
  | 0, _, _ => rfl
  | r + 1, m, h => by
    unfold ooR
    rw [if_pos (h m (Nat.le_refl _) (by omega))]
    exact ooR_no r (m + 1) (fun k a b => h k (by omega) (by omega))
theorem ooR_at {t : TW} {n : Nat} (hn : ¬ obF t n = -1) : ∀ (r m : Nat), m ≤ n → n < m + r → (∀ k, m ≤ k → k < n → obF t k = -1) → ooR t r m = obF t n
  | 0, m, h1, h2, _ => by omega
  | r + 1, m, h1, h2, h => by
    unfold ooR
    by_cases e : m = n
    · subst e; rw [if_neg hn]
    · rw [if_pos (h m (Nat.le_refl _) (by omega))]
      exact ooR_at hn r (m + 1) (by omega) (by omega) (fun k a b => h k (by omega) b)
theorem oo_eq {t : TW} (I : tOK t) : (tOut t).2 = ooR t 4 0 ∧ (¬ (tOut t).2 = -1 → vp_in (tOut t).2 4096) := by
  have hL := I.hL
  have h2 := pow_12 t.nL (by omega)
  have h := foK_run I (2 ^ t.nL) 0 (4, -1) (by omega) (Or.inl ⟨rfl, fun j hj => absurd hj (Nat.not_lt_zero j)⟩)
  have e : tOut t = iterN (foG (tE_ t) (tN_ t) (tTh t) t.fr t.to_ t.nL t.nP) (2 ^ t.nL) 0 (4, -1) := rfl
  rw [← e] at h
  rcases h with ⟨h0, h⟩ | ⟨j, hj, hp, h0, h4, hm, hl⟩
  · rw [h0]
    refine ⟨(ooR_no 4 0 (fun k _ hk => ffind_no (fun i _ hi z => ?_))).symm, fun z => absurd rfl z⟩
    have := h i (by omega) z.1
    have hb := (bcn_ok (i := i) (by omega)).1
    have := nI_ij (a := bcn i) (b := k) (by rw [← hb]; exact z.2) (by have := (bcn_ok (i := i) (by omega)).2; omega) (by omega)
    omega
  · rw [h0]
    have hbj := (bcn_ok (i := j) (by omega)).1
    have ej : obF t (bcn j) = nI j := by
      refine ffind_at (fun i _ hi z => ?_) ⟨hp, hbj⟩ (by omega) (by omega)
      have := hl i hi z.1
      have hb := (bcn_ok (i := i) (by omega)).1
      have := nI_ij (a := bcn i) (b := bcn j) (by rw [← hb]; exact z.2) (by have := (bcn_ok (i := i) (by omega)).2; omega) (by omega)
      omega
    refine ⟨?_, fun _ => vp_in_nI (by omega) (by omega)⟩
    rw [← ej]
    refine (ooR_at (by rw [ej]; exact nI_ne1 (by omega)) 4 0 (by omega) (by omega) (fun k _ hk => ffind_no (fun i _ hi z => ?_))).symm
    have := hm i (by omega) z.1
    have hb := (bcn_ok (i := i) (by omega)).1
    have := nI_ij (a := bcn i) (b := k) (by rw [← hb]; exact z.2) (by have := (bcn_ok (i := i) (by omega)).2; omega) (by omega)
    omega
