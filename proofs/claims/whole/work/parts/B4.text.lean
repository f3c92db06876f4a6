/-! ===== two tapes that agree have the same tokens; bytes ===== -/
theorem runL_c {P : Int32 → Prop} [DecidablePred P] {b c : Nat → Int32} : ∀ (n i : Nat), (∀ j, i ≤ j → j < i + n → b j = c j) → runL P b n i = runL P c n i
  | 0, _, _ => rfl
  | n + 1, i, h => by
    have ih := runL_c (P := P) (b := b) (c := c) n (i + 1) (fun j h1 h2 => h j (by omega) (by omega))
    show (if P (b i) then 1 + runL P b n (i + 1) else 0) = (if P (c i) then 1 + runL P c n (i + 1) else 0)
    rw [h i (by omega) (by omega), ih]
theorem wcF_c {b c : Nat → Int32} {p : Nat} : ∀ k, (∀ j, p ≤ j → j < p + k → b j = c j) → wcF b p k = wcF c p k
  | 0, _ => rfl
  | k + 1, h => by
    have ih := wcF_c (b := b) (c := c) (p := p) k (fun j h1 h2 => h j h1 (by omega))
    show (if k < 8 then wiL (wcF b p k) (b (p + k)) else wcF b p k) = (if k < 8 then wiL (wcF c p k) (c (p + k)) else wcF c p k)
    rw [h (p + k) (by omega) (by omega), ih]
theorem ncF_c {b c : Nat → Int32} {p : Nat} : ∀ k, (∀ j, p ≤ j → j < p + k → b j = c j) → ncF b p k = ncF c p k
  | 0, _ => rfl
  | k + 1, h => by
    have ih := ncF_c (b := b) (c := c) (p := p) k (fun j h1 h2 => h j h1 (by omega))
    show (if k < 4 then ncF b p k * 10 + (b (p + k) - 48) else ncF b p k) = (if k < 4 then ncF c p k * 10 + (c (p + k) - 48) else ncF c p k)
    rw [h (p + k) (by omega) (by omega), ih]
theorem tokAt_c {co : Nat → Int64} {b c : Nat → Int32} {L p : Nat} (hp : p < L) (h : ∀ j, j < L → b j = c j) : tokAt co b L p = tokAt co c L p := by
  have e1 := runL_c (P := isLe) (b := b) (c := c) (L - p) p (fun j h1 h2 => h j (by omega))
  have e2 := runL_c (P := isDi) (b := b) (c := c) (L - p) p (fun j h1 h2 => h j (by omega))
  have l1 := runL_le (P := isLe) (b := c) (L - p) p
  have l2 := runL_le (P := isDi) (b := c) (L - p) p
  unfold tokAt
  rw [e1, e2, h p hp]
  unfold wTok nTok
  rw [wcF_c (b := b) (c := c) (runL isLe c (L - p) p) (fun j h1 h2 => h j (by omega)), ncF_c (b := b) (c := c) (runL isDi c (L - p) p) (fun j h1 h2 => h j (by omega))]
theorem skF_c {b c : Nat → Int32} {L e : Nat} (h : ∀ j, j < L → b j = c j) : skF b L e = skF c L e := by
  unfold skF
  by_cases he : e ≤ L
  · rw [runL_c (P := isBl) (b := b) (c := c) (L - e) e (fun j h1 h2 => h j (by omega))]
  · rw [show L - e = 0 by omega]
    rfl
theorem tkN_c {b c : Nat → Int32} {L p : Nat} (hp : p < L) (h : ∀ j, j < L → b j = c j) : tkN b L p = tkN c L p := by
  unfold tkN
  rw [runL_c (P := isLe) (b := b) (c := c) (L - p) p (fun j h1 h2 => h j (by omega)), runL_c (P := isDi) (b := b) (c := c) (L - p) p (fun j h1 h2 => h j (by omega)), h p hp]
theorem TKs_c {co : Nat → Int64} {b c : Nat → Int32} {L : Nat} {K : TK} (h : ∀ j, j < L → b j = c j) (T : TKs co b L K) : TKs co c L K := by
  have ep : ∀ j, j < K.nT → psF b L j = psF c L j := by
    intro j
    induction j with
    | zero => intro _; exact skF_c h
    | succ j ih =>
      intro hj
      have hlt := (T.2.1 j hj).1
      have e := ih (by omega)
      show skF b L (tkN b L (psF b L j)) = skF c L (tkN c L (psF c L j))
      rw [← e, ← tkN_c hlt h, skF_c h]
  obtain ⟨t1, t2, t3, t4⟩ := T
  refine ⟨t1, fun j hj => ?_, ?_, t4⟩
  · have hlt := (t2 j hj).1
    rw [← ep j (by omega), ← tokAt_c hlt h]
    exact t2 j hj
  · rw [← ep _ (by omega)]
    exact t3
theorem b8_tabI : ∀ i : Fin 256, Int8.ofBitVec (BitVec.ofFin i) = (nI i.val).toInt8 := by decide +kernel
theorem b8_of (x : Int8) : b8 x.toInt32 := by
  refine ⟨x.toBitVec.toFin.val, x.toBitVec.toFin.isLt, ?_⟩
  unfold c8
  rw [← b8_tabI x.toBitVec.toFin]
  rfl
theorem f4_lt {b : Nat → Int32} {n k : Nat} {v : Int32} (h : k < n) : f4 b n v k = b k := by
  unfold f4
  rw [upd_ne (by omega), upd_ne (by omega), upd_ne (by omega), upd_ne (by omega)]
/-- the tape, both sides -/
def RX (b t : Nat → Int32) (n : Nat) : Prop := ∀ k, k < n → b k = t k ∧ b8 (t k)
theorem RX_f4 {b t : Nat → Int32} {n : Nat} {v : Int32} (h : RX b t n) : RX (f4 b n v) (f4 t n v) (n + 4) := by
  intro k hk
  by_cases c : k < n
  · rw [f4_lt c, f4_lt c]; exact h k c
  · unfold f4
    by_cases c3 : k = n + 3
    · rw [c3, upd_at, upd_at]; exact ⟨rfl, b8_of _⟩
    · rw [upd_ne c3, upd_ne c3]
      by_cases c2 : k = n + 2
      · rw [c2, upd_at, upd_at]; exact ⟨rfl, b8_of _⟩
      · rw [upd_ne c2, upd_ne c2]
        by_cases c1 : k = n + 1
        · rw [c1, upd_at, upd_at]; exact ⟨rfl, b8_of _⟩
        · rw [upd_ne c1, upd_ne c1]
          have c0 : k = n := by omega
          rw [c0, upd_at, upd_at]; exact ⟨rfl, b8_of _⟩
