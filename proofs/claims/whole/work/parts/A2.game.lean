/-! ===== GAME: best play, with the class's table and without ===== -/
theorem hs_ext {x y : Int32} (h : ∀ k, k < 32 → (hs x (nI k) ↔ hs y (nI k))) : x = y := by
  apply Int32.toBitVec_inj.mp
  apply BitVec.eq_of_getLsbD_eq
  intro i hi
  have := h i hi
  rw [hs_bv hi, hs_bv hi] at this
  cases h1 : x.toBitVec.getLsbD i <;> cases h2 : y.toBitVec.getLsbD i
  · rfl
  · rw [h1, h2] at this; exact absurd (this.mpr rfl) (by decide)
  · rw [h1, h2] at this; exact absurd (this.mp rfl) (by decide)
  · rfl
theorem and_e0 {x y : Int32} : x &&& y = 0 ↔ ∀ k, k < 32 → ¬ (hs x (nI k) ∧ hs y (nI k)) := by
  rw [hs_z]
  constructor
  · intro h k hk z; exact h k hk ((hs_and hk).mpr z)
  · intro h k hk z; exact h k hk ((hs_and hk).mp z)
/-- the set of places that lie, by the legs that are there -/
def lyT (t : TW) (th : Int32) : Int32 := liSC th t.fr t.to_ t.nL t.nP
theorem lyT_hs {t : TW} (I : tOK t) {th : Int32} {p : Nat} (hp : p < 32) : hs (lyT t th) (nI p) ↔ p < t.nP ∧ (pOf th t.fr t.to_ t.nL t.nP).1 p = 0 := by
  have hP := I.hP
  exact hs_iorr (p := fun p => (pOf th t.fr t.to_ t.nL t.nP).1 p = 0) (by omega) hp
def cnB (s : Int32) : Nat → Nat
  | 0 => 0
  | n + 1 => cnB s n + if hs s (nI n) then 1 else 0
theorem cnB_le {s : Int32} : ∀ n, cnB s n ≤ n
  | 0 => Nat.le_refl _
  | n + 1 => by
    have := cnB_le (s := s) n
    simp only [cnB]; split <;> omega
theorem cnB_mono {s u : Int32} (h : ∀ k, k < 7 → hs s (nI k) → hs u (nI k)) : ∀ n, n ≤ 7 → cnB s n ≤ cnB u n
  | 0, _ => Nat.le_refl _
  | n + 1, hn => by
    have := cnB_mono h n (by omega)
    simp only [cnB]
    by_cases z : hs s (nI n)
    · rw [if_pos z, if_pos (h n (by omega) z)]; omega
    · rw [if_neg z]; split <;> omega
theorem cnB_lt {s u : Int32} {j : Nat} (h : ∀ k, k < 7 → hs s (nI k) → hs u (nI k)) (h1 : ¬ hs s (nI j)) (h2 : hs u (nI j)) : ∀ n, n ≤ 7 → j < n → cnB s n + 1 ≤ cnB u n
  | 0, _, hj => absurd hj (Nat.not_lt_zero j)
  | n + 1, hn, hj => by
    simp only [cnB]
    by_cases e : j = n
    · subst e
      have := cnB_mono h j (by omega)
      rw [if_neg h1, if_pos h2]; omega
    · have := cnB_lt h h1 h2 n (by omega) (by omega)
      by_cases z : hs s (nI n)
      · rw [if_pos z, if_pos (h n (by omega) z)]; omega
      · rw [if_neg z]; split <;> omega
/-- what a round of spreading keeps: the set grows, only by what hangs on it -/
def enT (t : TW) (en : Nat → Int32) : Prop := ∀ l, l < t.nL → en l = bit (t.fr l) ||| bit (t.to_ l)
theorem en_hs {t : TW} (I : tOK t) (J : tIn t) {en : Nat → Int32} (hE : enT t en) {l : Nat} (hl : l < t.nL) : ∃ a b, a < t.nP ∧ b < t.nP ∧ t.fr l = nI a ∧ t.to_ l = nI b ∧ ∀ k, k < 32 → (hs (en l) (nI k) ↔ k = a ∨ k = b) := by
  obtain ⟨-, h1, h2, -⟩ := J.1 l hl
  have hP := I.hP
  obtain ⟨a, ha, ea⟩ := inR_ex h1 (by omega)
  obtain ⟨b, hb, eb⟩ := inR_ex h2 (by omega)
  refine ⟨a, b, ha, hb, ea, eb, fun k hk => ?_⟩
  rw [hE l hl, hs_or hk, ea, eb, hs_bit (by omega) hk, hs_bit (by omega) hk]
/-- all in a set lie, by the legs th -/
def inS (t : TW) (th s : Int32) : Prop := ∀ k, k < 32 → hs s (nI k) → k < t.nP ∧ (pOf th t.fr t.to_ t.nL t.nP).1 k = 0
def reG (en : Nat → Int32) (th : Int32) (l : Nat) (s : Int32) : Int32 := if hs th (nI l) ∧ ¬ s &&& en l = 0 then s ||| en l else s
theorem reG_up {en : Nat → Int32} {th : Int32} : ∀ (r i : Nat) (s : Int32), ∀ k, k < 32 → hs s (nI k) → hs (iterN (reG en th) r i s) (nI k)
  | 0, _, _, _, _, h => h
  | r + 1, i, s, k, hk, h => by
    simp only [iterN]
    refine reG_up r (i + 1) _ k hk ?_
    unfold reG
    split
    · exact (hs_or hk).mpr (Or.inl h)
    · exact h
theorem reG_in {t : TW} (I : tOK t) (J : tIn t) {en : Nat → Int32} (hE : enT t en) {th : Int32} (hq : ∀ l, l < t.nL → hs th (nI l) → (pOf th t.fr t.to_ t.nL t.nP).1 (t.fr l).toNatClampNeg = (pOf th t.fr t.to_ t.nL t.nP).1 (t.to_ l).toNatClampNeg) : ∀ (r i : Nat) (s : Int32), i + r ≤ t.nL → inS t th s → inS t th (iterN (reG en th) r i s)
  | 0, _, _, _, h => h
  | r + 1, i, s, hi, h => by
    simp only [iterN]
    refine reG_in I J hE hq r (i + 1) _ (by omega) ?_
    have hP := I.hP
    unfold reG
    by_cases c : hs th (nI i) ∧ ¬ s &&& en i = 0
    · rw [if_pos c]
      obtain ⟨a, b, ha, hb, ea, eb, hk⟩ := en_hs I J hE (show i < t.nL by omega)
      have hqi := hq i (by omega) c.1
      rw [ea, eb, nI_clamp (by omega), nI_clamp (by omega)] at hqi
      have hz : (pOf th t.fr t.to_ t.nL t.nP).1 a = 0 := by
        refine Classical.byContradiction (fun z => c.2 ?_)
        rw [and_e0]
        rintro k hk2 ⟨k1, k2⟩
        have k3 := (h k hk2 k1).2
        rcases (hk k hk2).mp k2 with w | w
        · rw [w] at k3; exact z k3
        · rw [w, ← hqi] at k3; exact z k3
      intro k hk2 hs_
      rcases (hs_or hk2).mp hs_ with w | w
      · exact h k hk2 w
      · rcases (hk k hk2).mp w with w | w
        · rw [w]; exact ⟨ha, hz⟩
        · rw [w]; exact ⟨hb, by rw [← hqi]; exact hz⟩
    · rw [if_neg c]; exact h
/-- a set that a round leaves as it is -/
theorem reG_fix {en : Nat → Int32} {th : Int32} : ∀ (r i : Nat) (s : Int32), iterN (reG en th) r i s = s → ∀ l, i ≤ l → l < i + r → hs th (nI l) → ¬ s &&& en l = 0 → ∀ k, k < 32 → hs (en l) (nI k) → hs s (nI k)
  | 0, _, _, _, l, h1, h2, _, _, _, _, _ => absurd h2 (by omega)
  | r + 1, i, s, h, l, h1, h2, h3, h4, k, hk, h5 => by
    have h0 := h
    simp only [iterN] at h
    by_cases e : l = i
    · subst e
      have e2 : reG en th l s = s ||| en l := if_pos ⟨h3, h4⟩
      rw [e2] at h
      have := reG_up (en := en) (th := th) r (l + 1) (s ||| en l) k hk ((hs_or hk).mpr (Or.inr h5))
      rw [h] at this; exact this
    · have e2 : reG en th i s = s := by
        refine hs_ext (fun j hj => ⟨fun z => ?_, fun z => ?_⟩)
        · have := reG_up (en := en) (th := th) r (i + 1) _ j hj z
          rw [h] at this; exact this
        · unfold reG
          split
          · exact (hs_or hj).mpr (Or.inl z)
          · exact z
      rw [e2] at h
      exact reG_fix r (i + 1) s h l (by omega) (by omega) h3 h4 k hk h5
theorem reO_fix {t : TW} (I : tOK t) (J : tIn t) {en : Nat → Int32} (hE : enT t en) {th : Int32} (hq : ∀ l, l < t.nL → hs th (nI l) → (pOf th t.fr t.to_ t.nL t.nP).1 (t.fr l).toNatClampNeg = (pOf th t.fr t.to_ t.nL t.nP).1 (t.to_ l).toNatClampNeg) : ∀ (r : Nat) (s : Int32), inS t th s → 8 ≤ cnB s 7 + r → (inS t th (reO t.nL en th r s) ∧ reIn t.nL en th (reO t.nL en th r s) = reO t.nL en th r s ∧ ∀ k, k < 32 → hs s (nI k) → hs (reO t.nL en th r s) (nI k))
  | 0, s, _, h => by
    have := cnB_le (s := s) 7
    omega
  | r + 1, s, hS, h => by
    have hP := I.hP
    simp only [reO]
    by_cases e : reIn t.nL en th s = s
    · rw [if_pos e]; exact ⟨hS, e, fun k _ h => h⟩
    · rw [if_neg e]
      have hS2 : inS t th (reIn t.nL en th s) := reG_in I J hE hq t.nL 0 s (by omega) hS
      have hup : ∀ k, k < 32 → hs s (nI k) → hs (reIn t.nL en th s) (nI k) := reG_up t.nL 0 s
      have hex : ∃ j, j < 7 ∧ ¬ hs s (nI j) ∧ hs (reIn t.nL en th s) (nI j) := by
        refine Classical.byContradiction (fun z => e (hs_ext (fun k hk => ⟨fun w => ?_, hup k hk⟩)))
        refine Classical.byContradiction (fun y => z ⟨k, ?_, y, w⟩)
        have := (hS2 k hk w).1
        omega
      obtain ⟨j, hj, j1, j2⟩ := hex
      have hc := cnB_lt (fun k hk => hup k (by omega)) j1 j2 7 (Nat.le_refl _) hj
      obtain ⟨a, b, c⟩ := reO_fix I J hE hq r _ hS2 (by omega)
      exact ⟨a, b, fun k hk w => c k hk (hup k hk w)⟩
/-- what the class reaches is what lies -/
theorem re_eq {t : TW} (I : tOK t) (J : tIn t) {en : Nat → Int32} (hE : enT t en) {an : Int32} (ha : an = bP (0 < nI t.nP)) (sk : Int32) : reF t.nL en an (tTh (tSk t sk)) = bcR (lyT t (tTh (tSk t sk))) := by
  have hP := I.hP
  obtain ⟨A, -⟩ := par_M (t := tSk t sk) I J
  obtain ⟨A1, A2, A3⟩ := A
  have A1' : ∀ j, j < t.nP → ∃ q, q < t.nP ∧ (pOf (tTh (tSk t sk)) t.fr t.to_ t.nL t.nP).1 j = nI q ∧ (pOf (tTh (tSk t sk)) t.fr t.to_ t.nL t.nP).1 q = nI q ∧ q ≤ j := A1
  have A2' : ∀ l, l < t.nL → hs (tTh (tSk t sk)) (nI l) → (pOf (tTh (tSk t sk)) t.fr t.to_ t.nL t.nP).1 (t.fr l).toNatClampNeg = (pOf (tTh (tSk t sk)) t.fr t.to_ t.nL t.nP).1 (t.to_ l).toNatClampNeg := A2
  have A3' : ∀ c : Nat → Int32, (∀ l, l < t.nL → hs (tTh (tSk t sk)) (nI l) → c (t.fr l).toNatClampNeg = c (t.to_ l).toNatClampNeg) → ∀ j q, j < t.nP → q < t.nP → (pOf (tTh (tSk t sk)) t.fr t.to_ t.nL t.nP).1 j = nI q → c j = c q := A3
  generalize tTh (tSk t sk) = th at A1' A2' A3' ⊢
  unfold reF
  congr 1
  by_cases h0 : t.nP = 0
  · have e1 : an = 0 := by rw [ha, h0]; rfl
    rw [if_pos e1]
    have e2 : lyT t th = 0 := hs_z.mpr (fun k hk z => by have := ((lyT_hs I hk).mp z).1; omega)
    have e3 : reIn t.nL en th 0 = 0 := by
      refine hs_ext (fun k hk => ⟨fun z => ?_, fun z => absurd z (hs_0 hk)⟩)
      have hS := reG_in I J hE A2' t.nL 0 0 (by omega) (fun k hk z => absurd z (hs_0 hk))
      have := (hS k hk z).1
      omega
    rw [e2]
    show (if reIn t.nL en th 0 = 0 then 0 else _) = _
    rw [if_pos e3]
  · have e1 : ¬ an = 0 := by
      rw [ha, show bP (0 < nI t.nP) = 1 from bP_t (show nI 0 < nI t.nP from (nI_ltI (a := 0) (b := t.nP) (by omega) (by omega)).mpr (by omega))]; decide
    rw [if_neg e1]
    have e0 : (pOf th t.fr t.to_ t.nL t.nP).1 0 = 0 := by
      obtain ⟨q, hq, q1, -, q3⟩ := A1' 0 (by omega)
      rw [show q = 0 by omega] at q1; exact q1
    have hone : ∀ k, k < 32 → (hs 1 (nI k) ↔ k = 0) := by
      intro k hk
      have := hs_bit (l := 0) (k := k) (by omega) hk
      exact this
    have hS : inS t th 1 := fun k hk z => by
      have := (hone k hk).mp z
      rw [this]; exact ⟨by omega, e0⟩
    have hc : 8 ≤ cnB 1 7 + 7 := by decide +kernel
    obtain ⟨a, b, c⟩ := reO_fix I J hE A2' 7 1 hS hc
    generalize reO t.nL en th 7 1 = s at a b c ⊢
    refine hs_ext (fun k hk => ⟨fun z => (lyT_hs I hk).mpr (a k hk z), fun z => ?_⟩)
    obtain ⟨z1, z2⟩ := (lyT_hs I hk).mp z
    have h9 := A3' (fun p => bP (hs s (nI p))) (fun l hl hth => ?_) k 0 z1 (by omega) z2
    · have h0s : hs s (nI 0) := c 0 (by omega) ((hone 0 (by omega)).mpr rfl)
      have h9' : bP (hs s (nI k)) = bP (hs s (nI 0)) := h9
      rw [bP_t h0s] at h9'
      exact Classical.byContradiction (fun y => by rw [bP_f y] at h9'; exact absurd h9' (by decide))
    · obtain ⟨u, v, hu, hv, eu, ev, hk2⟩ := en_hs I J hE hl
      show bP (hs s (nI (t.fr l).toNatClampNeg)) = bP (hs s (nI (t.to_ l).toNatClampNeg))
      rw [eu, ev, nI_clamp (by omega), nI_clamp (by omega)]
      refine bP_iff ?_
      have hfx := reG_fix (en := en) (th := th) t.nL 0 s b l (by omega) (by omega) hth
      constructor
      · intro w
        exact hfx (fun y => (and_e0.mp y) u (by omega) ⟨w, (hk2 u (by omega)).mpr (Or.inl rfl)⟩) v (by omega) ((hk2 v (by omega)).mpr (Or.inr rfl))
      · intro w
        exact hfx (fun y => (and_e0.mp y) v (by omega) ⟨w, (hk2 v (by omega)).mpr (Or.inr rfl)⟩) u (by omega) ((hk2 u (by omega)).mpr (Or.inl rfl))
theorem lyT_7 {t : TW} (I : tOK t) (th : Int32) : vp_in (lyT t th) 4096 ∧ bcR (lyT t th) = nI (bcR (lyT t th)).toNatClampNeg ∧ (bcR (lyT t th)).toNatClampNeg ≤ 7 := by
  have hP := I.hP
  obtain ⟨m, hm, e⟩ := iorr_lt (p := fun p => (pOf th t.fr t.to_ t.nL t.nP).1 p = 0) t.nP (by omega)
  have e2 : lyT t th = nI m := e
  have h7 : (2 : Nat) ^ t.nP ≤ 2 ^ 7 := Nat.pow_le_pow_right (by omega) hP
  have hb : ∀ m, m < 128 → bcR (nI m) = nI (bcR (nI m)).toNatClampNeg ∧ (bcR (nI m)).toNatClampNeg ≤ 7 := by decide +kernel
  rw [e2]
  exact ⟨vp_in_nI (by omega) (by omega), hb m (by omega)⟩
/-! best play, without a table -/
def mmB (k : Nat) (a b : Nat) : Nat := if k % 2 = 0 then min a b else max a b
def mmV (t : TW) : Nat → Nat → Int32 → Nat
  | 0, _, th => (bcR (lyT t th)).toNatClampNeg
  | f + 1, k, th => iterN (fun l v => if (hs th (nI l) ↔ k % 2 = 0) then mmB k v (mmV t f (k + 1) (th ^^^ bit (nI l))) else v) t.nL 0 (mmV t f (k + 1) th)
def mmG (t : TW) (f k : Nat) (th : Int32) (l v : Nat) : Nat := if (hs th (nI l) ↔ k % 2 = 0) then mmB k v (mmV t f (k + 1) (th ^^^ bit (nI l))) else v
theorem mmV_s (t : TW) (f k : Nat) (th : Int32) : mmV t (f + 1) k th = iterN (mmG t f k th) t.nL 0 (mmV t f (k + 1) th) := rfl
theorem mmB_le {k a b : Nat} (ha : a ≤ 7) (hb : b ≤ 7) : mmB k a b ≤ 7 := by
  unfold mmB; split
  · exact Nat.le_trans (Nat.min_le_left _ _) ha
  · exact Nat.max_le.mpr ⟨ha, hb⟩
theorem mmV_le {t : TW} (I : tOK t) : ∀ (f k : Nat) (th : Int32), mmV t f k th ≤ 7
  | 0, k, th => (lyT_7 I th).2.2
  | f + 1, k, th => by
    rw [mmV_s]
    have run : ∀ (r i v : Nat), v ≤ 7 → iterN (mmG t f k th) r i v ≤ 7 := by
      intro r
      induction r with
      | zero => intro i v h; exact h
      | succ r ih =>
        intro i v h
        simp only [iterN]
        refine ih (i + 1) _ ?_
        unfold mmG
        split
        · exact mmB_le h (mmV_le I f (k + 1) _)
        · exact h
    exact run t.nL 0 _ (mmV_le I f (k + 1) th)
/-! the class's table -/
def nib (x : Int32) (t : Nat) : Int32 := (x >>> wShift t) &&& 15
theorem nib_bit {x : Int32} {t i : Nat} (ht : t ≤ 4) (hi : i < 32) : (nib x t).toBitVec.getLsbD i = (decide (i < 4) && x.toBitVec.getLsbD (4 * t + i)) := by
  have h15 : ∀ i, i < 32 → (Int32.toBitVec 15).getLsbD i = decide (i < 4) := by decide +kernel
  have hsm : ∀ t, t ≤ 4 → (wShift t).toBitVec.smod 32 = BitVec.ofNat 32 (4 * t) := by decide +kernel
  unfold nib
  rw [Int32.toBitVec_and, Int32.toBitVec_shiftRight, BitVec.getLsbD_and, h15 i hi, hsm t ht]
  show ((BitVec.sshiftRight' _ _).getLsbD i && _) = _
  rw [BitVec.sshiftRight', BitVec.toNat_ofNat, Nat.mod_eq_of_lt (by omega), BitVec.getLsbD_sshiftRight]
  by_cases h4 : i < 4
  · simp [h4, hi, show 4 * t + i < 32 by omega]
  · simp [h4]
theorem shl_bit {v s t i : Nat} (hv : v < 16) (hs_ : s ≤ 4) (ht : t ≤ 4) (hi : i < 4) : (nI v <<< wShift t).toBitVec.getLsbD (4 * s + i) = (decide (s = t) && v.testBit i) := by
  have : ∀ v, v < 16 → ∀ s, s < 5 → ∀ t, t < 5 → ∀ i, i < 4 → (nI v <<< wShift t).toBitVec.getLsbD (4 * s + i) = (decide (s = t) && v.testBit i) := by decide +kernel
  exact this v hv s (by omega) t (by omega) i hi
theorem nib_or {x : Int32} {v s t : Nat} (hv : v < 16) (hs_ : s ≤ 4) (ht : t ≤ 4) : nib (x ||| (nI v <<< wShift t)) s = if s = t then nib x s ||| nI v else nib x s := by
  apply Int32.toBitVec_inj.mp
  apply BitVec.eq_of_getLsbD_eq
  intro i hi
  rw [nib_bit hs_ hi, Int32.toBitVec_or, BitVec.getLsbD_or]
  have hvb : (nI v).toBitVec.getLsbD i = (decide (i < 4) && v.testBit i) := by
    have : ∀ v, v < 16 → ∀ i, i < 32 → (nI v).toBitVec.getLsbD i = (decide (i < 4) && v.testBit i) := by decide +kernel
    exact this v hv i hi
  by_cases h4 : i < 4
  · rw [shl_bit hv hs_ ht h4]
    by_cases e : s = t
    · rw [if_pos e, Int32.toBitVec_or, BitVec.getLsbD_or, nib_bit hs_ hi, hvb]
      simp [h4, e]
    · rw [if_neg e, nib_bit hs_ hi]
      simp [h4, e]
  · by_cases e : s = t
    · rw [if_pos e, Int32.toBitVec_or, BitVec.getLsbD_or, nib_bit hs_ hi, hvb]
      simp [h4]
    · rw [if_neg e, nib_bit hs_ hi]
      simp [h4]
/-- what stands in the table is right -/
def TBL (t : TW) (n : Nat) (tb : Nat → Int32) : Prop := ∀ i k, i < 4096 → k ≤ n → nib (tb i) k = 0 ∨ nib (tb i) k = nI (mmV t (n - k) k (nI i) + 1)
theorem nib_pos {t : TW} (I : tOK t) {n k i : Nat} {x : Int32} (h : nib x k = 0 ∨ nib x k = nI (mmV t (n - k) k (nI i) + 1)) : (0 < nib x k → nib x k - 1 = nI (mmV t (n - k) k (nI i))) := by
  intro hp
  rcases h with z | z
  · rw [z] at hp; exact absurd hp (by decide)
  · rw [z]; exact nI_pred _
theorem TBL_set {t : TW} (I : tOK t) {n k i : Nat} (hn : n ≤ 4) (hk : k ≤ n) (hi : i < 4096) {tb : Nat → Int32} (T : TBL t n tb) : TBL t n (upd tb i (tb i ||| ((nI (mmV t (n - k) k (nI i)) + 1) <<< wShift k))) := by
  intro j m hj hm
  have hv := mmV_le I (n - k) k (nI i)
  by_cases e : j = i
  · subst e
    rw [show upd tb j (tb j ||| ((nI (mmV t (n - k) k (nI j)) + 1) <<< wShift k)) j = _ from if_pos rfl, nI_1, nib_or (by omega) (by omega) (by omega)]
    by_cases e2 : m = k
    · subst e2
      rw [if_pos rfl]
      rcases T j m hj hm with z | z
      · rw [z]; right; simp
      · rw [z]; right; simp
    · rw [if_neg e2]; exact T j m hj hm
  · rw [show upd tb i _ j = tb j from if_neg e]; exact T j m hj hm
theorem wo_mm {t : TW} (I : tOK t) (J : tIn t) {en : Nat → Int32} (hE : enT t en) {an : Int32} (ha : an = bP (0 < nI t.nP)) {n : Nat} (hn : n ≤ 4) : ∀ (f k : Nat) (th : Int32) (tb : Nat → Int32), k + f = 4 → k ≤ n → vp_in th 4096 → (bit (nI t.nL) - 1) &&& th = th → TBL t n tb → (woR t.nL en an (nI n) f th k tb).1 = nI (mmV t (n - k) k th) ∧ TBL t n (woR t.nL en an (nI n) f th k tb).2 := by
  have hL := I.hL
  intro f
  have base : ∀ (k : Nat) (th : Int32) (tb : Nat → Int32), k = n → vp_in th 4096 → (bit (nI t.nL) - 1) &&& th = th → TBL t n tb → reF t.nL en an th = nI (mmV t (n - k) k th) ∧ TBL t n (upd tb th.toNatClampNeg (tb th.toNatClampNeg ||| ((reF t.nL en an th + 1) <<< wShift k))) := by
    intro k th tb hk hth hlow T
    have e1 : tTh (tSk t (th ^^^ (-1))) = th := by
      show (bit (nI t.nL) - 1) &&& ((th ^^^ (-1)) ^^^ (-1)) = th
      rw [show (th ^^^ (-1)) ^^^ (-1) = th from by rw [Int32.xor_assoc, show (-1 : Int32) ^^^ (-1) = 0 from by decide, Int32.xor_zero]]
      exact hlow
    have e2 := re_eq I J hE ha (th ^^^ (-1))
    rw [e1] at e2
    have e3 : reF t.nL en an th = nI (mmV t (n - k) k th) := by
      rw [e2, hk, Nat.sub_self]
      exact (lyT_7 I th).2.1
    refine ⟨e3, ?_⟩
    obtain ⟨i, hi, rfl⟩ := vp_in_of hth (by omega)
    rw [e3, nI_clamp (by omega)]
    exact TBL_set I hn (by omega) hi T
  induction f with
  | zero =>
    intro k th tb hkf hk hth hlow T
    obtain ⟨i, hi, hei⟩ := vp_in_of hth (by omega)
    have ei : th.toNatClampNeg = i := by rw [hei]; exact nI_clamp (by omega)
    have hT := T i k hi hk
    rw [← hei] at hT
    simp only [woR]
    rw [ei]
    by_cases c : 0 < (tb i >>> wShift k) &&& 15
    · rw [if_pos c]
      exact ⟨by
        rcases hT with z | z
        · exact absurd (by rw [show (tb i >>> wShift k) &&& 15 = 0 from z] at c; exact c) (by decide)
        · show nib (tb i) k - 1 = _
          rw [z]; exact nI_pred _, T⟩
    · rw [if_neg c]
      have h := base k th tb (by omega) hth hlow T
      rw [ei] at h
      exact h
  | succ f ih =>
    intro k th tb hkf hk hth hlow T
    obtain ⟨i, hi, hei⟩ := vp_in_of hth (by omega)
    have ei : th.toNatClampNeg = i := by rw [hei]; exact nI_clamp (by omega)
    have hT := T i k hi hk
    rw [← hei] at hT
    simp only [woR]
    rw [ei]
    by_cases c : 0 < (tb i >>> wShift k) &&& 15
    · rw [if_pos c]
      exact ⟨by
        rcases hT with z | z
        · exact absurd (by rw [show (tb i >>> wShift k) &&& 15 = 0 from z] at c; exact c) (by decide)
        · show nib (tb i) k - 1 = _
          rw [z]; exact nI_pred _, T⟩
    · rw [if_neg c]
      by_cases c2 : nI n ≤ nI k
      · rw [if_pos c2]
        have hnk : n ≤ k := (nI_leI (by omega) (by omega)).mp c2
        have h := base k th tb (by omega) hth hlow T
        rw [ei] at h
        exact h
      · rw [if_neg c2]
        have hnk : k < n := by
          rcases Nat.lt_or_ge k n with z | z
          · exact z
          · exact absurd ((nI_leI (by omega) (by omega)).mpr z) c2
        have ev : mmV t (n - k) k th = iterN (mmG t (n - (k + 1)) k th) t.nL 0 (mmV t (n - (k + 1)) (k + 1) th) := by
          rw [show n - k = (n - (k + 1)) + 1 by omega]; rfl
        obtain ⟨s1, s2⟩ := ih (k + 1) th tb (by omega) (by omega) hth hlow T
        have run : ∀ (r i : Nat) (v : Nat) (s : Int32 × (Nat → Int32)), i + r = t.nL → v ≤ 7 → s.1 = nI v → TBL t n s.2 → (iterN (fun l (s : Int32 × (Nat → Int32)) => if (hs th (nI l) ↔ k % 2 = 0) then (if k % 2 = 0 then iMin s.1 (woR t.nL en an (nI n) f (th ^^^ bit (nI l)) (k + 1) s.2).1 else iMax s.1 (woR t.nL en an (nI n) f (th ^^^ bit (nI l)) (k + 1) s.2).1, (woR t.nL en an (nI n) f (th ^^^ bit (nI l)) (k + 1) s.2).2) else s) r i s).1 = nI (iterN (mmG t (n - (k + 1)) k th) r i v) ∧ TBL t n (iterN (fun l (s : Int32 × (Nat → Int32)) => if (hs th (nI l) ↔ k % 2 = 0) then (if k % 2 = 0 then iMin s.1 (woR t.nL en an (nI n) f (th ^^^ bit (nI l)) (k + 1) s.2).1 else iMax s.1 (woR t.nL en an (nI n) f (th ^^^ bit (nI l)) (k + 1) s.2).1, (woR t.nL en an (nI n) f (th ^^^ bit (nI l)) (k + 1) s.2).2) else s) r i s).2 := by
          intro r
          induction r with
          | zero => intro i v s _ _ h1 h2; exact ⟨h1, h2⟩
          | succ r ihr =>
            intro i v s hi2 hv h1 h2
            simp only [iterN]
            have hlow2 : (bit (nI t.nL) - 1) &&& (th ^^^ bit (nI i)) = th ^^^ bit (nI i) := by
              refine hs_ext (fun j hj => ?_)
              rw [hs_and hj, hs_low hL hj]
              refine ⟨fun z => z.2, fun z => ⟨?_, z⟩⟩
              have hx : hs (th ^^^ bit (nI i)) (nI j) ↔ ¬ (hs th (nI j) ↔ j = i) := by
                rw [hs_bv hj, hs_bv hj, Int32.toBitVec_xor, BitVec.getLsbD_xor, bit_bv (by omega) j hj]
                by_cases e : j = i <;> cases th.toBitVec.getLsbD j <;> simp [e]
              by_cases e : j = i
              · omega
              · have hth_j : hs th (nI j) := Classical.byContradiction (fun w => (hx.mp z) ⟨fun q => absurd q w, fun q => absurd q e⟩)
                rw [← hlow, hs_and hj, hs_low hL hj] at hth_j
                exact hth_j.1
            obtain ⟨q1, q2⟩ := ih (k + 1) (th ^^^ bit (nI i)) s.2 (by omega) (by omega) (xor_in hth (by omega)) hlow2 h2
            have hw := mmV_le I (n - (k + 1)) (k + 1) (th ^^^ bit (nI i))
            by_cases d : (hs th (nI i) ↔ k % 2 = 0)
            · have eg : mmG t (n - (k + 1)) k th i v = mmB k v (mmV t (n - (k + 1)) (k + 1) (th ^^^ bit (nI i))) := if_pos d
              rw [if_pos d, eg]
              refine ihr (i + 1) _ _ (by omega) (mmB_le hv hw) ?_ q2
              show (if k % 2 = 0 then iMin s.1 _ else iMax s.1 _) = _
              rw [h1, q1]
              unfold mmB
              by_cases ke : k % 2 = 0
              · rw [if_pos ke, if_pos ke, iMin_N (by omega) (by omega)]
              · rw [if_neg ke, if_neg ke, iMax_N (by omega) (by omega)]
            · have eg : mmG t (n - (k + 1)) k th i v = v := if_neg d
              rw [if_neg d, eg]
              exact ihr (i + 1) _ _ (by omega) hv h1 h2
        obtain ⟨r1, r2⟩ := run t.nL 0 (mmV t (n - (k + 1)) (k + 1) th) (woR t.nL en an (nI n) f th (k + 1) tb) (by omega) (mmV_le I _ _ _) s1 s2
        rw [← ev] at r1
        refine ⟨r1, ?_⟩
        rw [r1]
        have hset := TBL_set I hn hk hi r2
        rw [← hei] at hset
        exact hset
