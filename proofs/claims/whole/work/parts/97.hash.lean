/-! ===== ASK: the class counts by a table, the reference by pairs ===== -/
/-- how often a key stands among the first m -/
def cN (key : Nat → Int32) (k : Int32) : Nat → Nat
  | 0 => 0
  | m + 1 => cN key k m + if key m = k then 1 else 0
theorem cN_le {key : Nat → Int32} {k : Int32} : ∀ m, cN key k m ≤ m
  | 0 => Nat.le_refl _
  | m + 1 => by
    have := cN_le (key := key) (k := k) m
    simp only [cN]; split <;> omega
theorem cN_mono {key : Nat → Int32} {k : Int32} {a : Nat} : ∀ b, a ≤ b → cN key k a ≤ cN key k b
  | 0, h => by rw [show a = 0 by omega]; exact Nat.le_refl _
  | b + 1, h => by
    by_cases e : a = b + 1
    · rw [e]; exact Nat.le_refl _
    · have := cN_mono (key := key) (k := k) (a := a) b (by omega)
      simp only [cN]; omega
theorem cN_pos {key : Nat → Int32} {k : Int32} : ∀ m, 0 < cN key k m → ∃ i, i < m ∧ key i = k
  | 0, h => absurd h (by simp [cN])
  | m + 1, h => by
    simp only [cN] at h
    by_cases e : key m = k
    · exact ⟨m, by omega, e⟩
    · rw [if_neg e] at h
      obtain ⟨i, hi, e2⟩ := cN_pos m (by omega)
      exact ⟨i, by omega, e2⟩
theorem cN_at {key : Nat → Int32} {i m : Nat} (h : i < m) : 0 < cN key (key i) m := by
  have := cN_mono (key := key) (k := key i) (a := i + 1) m h
  simp only [cN, if_true] at this
  omega
def mx (key : Nat → Int32) : Nat → Nat
  | 0 => 0
  | m + 1 => max (mx key m) (cN key (key m) (m + 1))
def mxF (key : Nat → Int32) (n : Nat) : Nat → Nat
  | 0 => 0
  | k + 1 => max (mxF key n k) (cN key (key k) n - cN key (key k) k)
theorem mx_le {key : Nat → Int32} {B : Nat} : ∀ m, (∀ w, w < m → cN key (key w) (w + 1) ≤ B) → mx key m ≤ B
  | 0, _ => Nat.zero_le _
  | m + 1, h => by
    have h1 := mx_le m (fun w hw => h w (by omega))
    have h2 := h m (by omega)
    simp only [mx]
    exact Nat.max_le.mpr ⟨h1, h2⟩
theorem mx_ge {key : Nat → Int32} {w : Nat} : ∀ m, w < m → cN key (key w) (w + 1) ≤ mx key m
  | 0, h => absurd h (Nat.not_lt_zero w)
  | m + 1, h => by
    simp only [mx]
    by_cases e : w = m
    · subst e; exact Nat.le_max_right _ _
    · exact Nat.le_trans (mx_ge m (by omega)) (Nat.le_max_left _ _)
theorem mxF_le {key : Nat → Int32} {n B : Nat} : ∀ m, (∀ k, k < m → cN key (key k) n - cN key (key k) k ≤ B) → mxF key n m ≤ B
  | 0, _ => Nat.zero_le _
  | m + 1, h => by
    have h1 := mxF_le m (fun w hw => h w (by omega))
    have h2 := h m (by omega)
    simp only [mxF]
    exact Nat.max_le.mpr ⟨h1, h2⟩
theorem mxF_ge {key : Nat → Int32} {n k : Nat} : ∀ m, k < m → cN key (key k) n - cN key (key k) k ≤ mxF key n m
  | 0, h => absurd h (Nat.not_lt_zero k)
  | m + 1, h => by
    simp only [mxF]
    by_cases e : k = m
    · subst e; exact Nat.le_max_right _ _
    · exact Nat.le_trans (mxF_ge m (by omega)) (Nat.le_max_left _ _)
theorem cN_first {key : Nat → Int32} {c : Int32} : ∀ n, 0 < cN key c n → ∃ k, k < n ∧ key k = c ∧ cN key c k = 0
  | 0, h => absurd h (by simp [cN])
  | m + 1, h => by
    by_cases z : 0 < cN key c m
    · obtain ⟨k, hk, h1, h2⟩ := cN_first m z
      exact ⟨k, by omega, h1, h2⟩
    · simp only [cN] at h
      by_cases e : key m = c
      · exact ⟨m, by omega, e, by omega⟩
      · rw [if_neg e] at h; omega
theorem cN_last {key : Nat → Int32} {c : Int32} : ∀ n, 0 < cN key c n → ∃ w, w < n ∧ key w = c ∧ cN key c (w + 1) = cN key c n
  | 0, h => absurd h (by simp [cN])
  | m + 1, h => by
    by_cases e : key m = c
    · exact ⟨m, by omega, e, rfl⟩
    · have e2 : cN key c (m + 1) = cN key c m := by simp only [cN]; rw [if_neg e, Nat.add_zero]
      rw [e2] at h ⊢
      obtain ⟨w, hw, h1, h2⟩ := cN_last m h
      exact ⟨w, by omega, h1, h2⟩
theorem mx_eq {key : Nat → Int32} (n : Nat) : mx key n = mxF key n n := by
  apply Nat.le_antisymm
  · refine mx_le n (fun w hw => ?_)
    obtain ⟨k, hk, h1, h2⟩ := cN_first n (cN_at (key := key) hw)
    have h3 := mxF_ge (key := key) (n := n) n hk
    rw [h1, h2] at h3
    have h4 := cN_mono (key := key) (k := key w) (a := w + 1) n hw
    omega
  · refine mxF_le n (fun k hk => ?_)
    obtain ⟨w, hw, h1, h2⟩ := cN_last n (cN_at (key := key) hk)
    have h3 := mx_ge (key := key) n hw
    rw [h1, h2] at h3
    omega
theorem mx_n {key : Nat → Int32} (n : Nat) : mx key n ≤ n := mx_le n (fun w hw => Nat.le_trans (cN_le _) hw)
/-! the table -/
theorem nxt1023 : ∀ p, p < 1024 → (nI p + 1) &&& 1023 = nI ((p + 1) % 1024) := by decide +kernel
def hm (key : Int32) : Nat := (slH key).toNatClampNeg
theorem hm_lt (key : Int32) : slH key = nI (hm key) ∧ hm key < 1024 := by
  obtain ⟨i, hi, e⟩ := vp_in_of (slH_in key) (by omega)
  have e2 : hm key = i := by unfold hm; rw [e]; exact nI_clamp (by omega)
  rw [e2]; exact ⟨e, hi⟩
def hit (cnt ke : Nat → Int32) (key : Int32) (j : Nat) : Prop := cnt j = 0 ∨ ke j = key
theorem slF_at {cnt : Nat → Int32} {key : Int32} {ke : Nat → Int32} : ∀ (n p d : Nat), p < 1024 → d < n → hit cnt ke key ((p + d) % 1024) → (∀ e, e < d → ¬ hit cnt ke key ((p + e) % 1024)) → slF cnt key n (nI p) ke = (nI ((p + d) % 1024), if cnt ((p + d) % 1024) = 0 then upd ke ((p + d) % 1024) key else ke)
  | 0, p, d, _, h, _, _ => absurd h (Nat.not_lt_zero d)
  | n + 1, p, d, hp, hd, hh, hn => by
    have ec : (nI p).toNatClampNeg = p := nI_clamp (by omega)
    simp only [slF]
    rw [ec]
    cases d with
    | zero =>
      rw [Nat.add_zero, Nat.mod_eq_of_lt hp] at hh ⊢
      by_cases z : cnt p = 0
      · rw [if_pos z, if_pos z]
      · rw [if_neg z, if_neg z, if_pos (hh.resolve_left z)]
    | succ d =>
      have h0 := hn 0 (by omega)
      rw [Nat.add_zero, Nat.mod_eq_of_lt hp] at h0
      rw [if_neg (fun z => h0 (Or.inl z)), if_neg (fun z => h0 (Or.inr z)), nxt1023 p hp]
      have em : ∀ e, ((p + 1) % 1024 + e) % 1024 = (p + (e + 1)) % 1024 := fun e => by omega
      have h := slF_at (cnt := cnt) (key := key) (ke := ke) n ((p + 1) % 1024) d (Nat.mod_lt _ (by omega)) (by omega) (by rw [em]; exact hh) (fun e he => by rw [em]; exact hn (e + 1) (by omega))
      rw [em] at h
      exact h
theorem least {P : Nat → Prop} : ∀ n, (∃ d, d < n ∧ P d) → ∃ d, d < n ∧ P d ∧ ∀ e, e < d → ¬ P e
  | 0, h => by obtain ⟨d, hd, -⟩ := h; exact absurd hd (Nat.not_lt_zero d)
  | n + 1, h => by
    by_cases z : ∃ d, d < n ∧ P d
    · obtain ⟨d, h1, h2, h3⟩ := least n z
      exact ⟨d, by omega, h2, h3⟩
    · obtain ⟨d, hd, hp⟩ := h
      have e : d = n := by
        rcases Nat.lt_or_ge d n with y | y
        · exact absurd ⟨d, y, hp⟩ z
        · omega
      subst e
      exact ⟨d, by omega, hp, fun e he hpe => z ⟨e, he, hpe⟩⟩
def nz (cnt : Nat → Int32) : Nat → Nat
  | 0 => 0
  | n + 1 => nz cnt n + if cnt n = 0 then 0 else 1
theorem nz_all {cnt : Nat → Int32} : ∀ n, (∀ j, j < n → ¬ cnt j = 0) → nz cnt n = n
  | 0, _ => rfl
  | n + 1, h => by
    simp only [nz]
    rw [nz_all n (fun j hj => h j (by omega)), if_neg (h n (by omega))]
theorem nz_upd {cnt : Nat → Int32} {k : Nat} {v : Int32} : ∀ n, nz (upd cnt k v) n ≤ nz cnt n + (if cnt k = 0 then (if k < n then 1 else 0) else 0)
  | 0 => Nat.zero_le _
  | n + 1 => by
    have h := nz_upd (cnt := cnt) (k := k) (v := v) n
    simp only [nz]
    by_cases e : n = k
    · subst e
      rw [show upd cnt n v n = v from if_pos rfl]
      rw [if_neg (by omega : ¬ n < n)] at h
      rw [if_pos (by omega : n < n + 1)]
      by_cases z : cnt n = 0
      · rw [if_pos z] at h ⊢
        rw [if_pos z]
        split <;> omega
      · rw [if_neg z] at h ⊢
        rw [if_neg z]
        split <;> omega
    · rw [show upd cnt k v n = cnt n from if_neg e]
      by_cases z : cnt k = 0
      · rw [if_pos z] at h ⊢
        by_cases w : k < n
        · rw [if_pos w] at h; rw [if_pos (show k < n + 1 by omega)]; omega
        · rw [if_neg w] at h; rw [if_neg (show ¬ k < n + 1 by omega)]; omega
      · rw [if_neg z] at h ⊢
        omega
/-- what holds of the table behind m ways -/
def HT (key : Nat → Int32) (m : Nat) (cnt ke : Nat → Int32) : Prop := (∀ j, j < 1024 → ¬ cnt j = 0 → cnt j = nI (cN key (ke j) m) ∧ 0 < cN key (ke j) m) ∧ (∀ i, i < m → ∃ d, d < 1024 ∧ ¬ cnt ((hm (key i) + d) % 1024) = 0 ∧ ke ((hm (key i) + d) % 1024) = key i ∧ ∀ e, e < d → ¬ hit cnt ke (key i) ((hm (key i) + e) % 1024)) ∧ (∀ j k, j < 1024 → k < 1024 → ¬ cnt j = 0 → ¬ cnt k = 0 → ke j = ke k → j = k) ∧ nz cnt 1024 ≤ m
theorem HT_step {key : Nat → Int32} {m : Nat} {cnt ke : Nat → Int32} (hm9 : m < 1000) (h : HT key m cnt ke) : ∃ q, slF cnt (key m) 1024 (slH (key m)) ke = (nI q, if cnt q = 0 then upd ke q (key m) else ke) ∧ q < 1024 ∧ cnt q + 1 = nI (cN key (key m) (m + 1)) ∧ HT key (m + 1) (upd cnt q (cnt q + 1)) (if cnt q = 0 then upd ke q (key m) else ke) := by
  obtain ⟨h1, h2, h3, h4⟩ := h
  obtain ⟨eh, hh⟩ := hm_lt (key m)
  have hz : ∃ j, j < 1024 ∧ cnt j = 0 := by
    refine Classical.byContradiction (fun z => ?_)
    have := nz_all (cnt := cnt) 1024 (fun j hj y => z ⟨j, hj, y⟩)
    omega
  obtain ⟨z, hz1, hz2⟩ := hz
  obtain ⟨d, hd, hp, hn⟩ := least (P := fun d => hit cnt ke (key m) ((hm (key m) + d) % 1024)) 1024 ⟨(z + 1024 - hm (key m)) % 1024, Nat.mod_lt _ (by omega), by
    have e : (hm (key m) + (z + 1024 - hm (key m)) % 1024) % 1024 = z := by omega
    show hit cnt ke (key m) ((hm (key m) + (z + 1024 - hm (key m)) % 1024) % 1024)
    rw [e]; exact Or.inl hz2⟩
  have hs := slF_at (cnt := cnt) (key := key m) (ke := ke) 1024 (hm (key m)) d hh hd hp hn
  rw [← eh] at hs
  generalize hq : (hm (key m) + d) % 1024 = q at hs hp
  have hq1 : q < 1024 := by rw [← hq]; exact Nat.mod_lt _ (by omega)
  have cm1 : cN key (key m) (m + 1) = cN key (key m) m + 1 := by simp only [cN, if_true]
  have cm2 : ∀ k, ¬ key m = k → cN key k (m + 1) = cN key k m := fun k hk => by simp only [cN]; rw [if_neg hk, Nat.add_zero]
  have cle : ∀ k, cN key k (m + 1) < 2 ^ 31 := fun k => Nat.lt_of_le_of_lt (cN_le (m + 1)) (by omega)
  have cne : ∀ k, 0 < cN key k (m + 1) → ¬ nI (cN key k (m + 1)) = 0 := fun k hk z => by
    have := nI_ij (b := 0) z (cle k) (by omega)
    omega
  refine ⟨q, hs, hq1, ?_⟩
  by_cases c0 : cnt q = 0
  · -- a key that is new
    have hnew : cN key (key m) m = 0 := by
      refine Classical.byContradiction (fun y => ?_)
      obtain ⟨i, hi, ei⟩ := cN_pos m (Nat.pos_of_ne_zero y)
      obtain ⟨d2, hd2, g1, g2, g3⟩ := h2 i hi
      rw [ei] at g1 g2 g3
      rcases Nat.lt_trichotomy d d2 with w | w | w
      · exact g3 d w (by rw [hq]; exact Or.inl c0)
      · rw [← w, hq] at g1; exact g1 c0
      · exact hn d2 w (Or.inr g2)
    have hother : ∀ j, j < 1024 → ¬ cnt j = 0 → ¬ ke j = key m := fun j hj hc e => by
      have := (h1 j hj hc).2
      rw [e] at this; omega
    have hcq : cnt q + 1 = nI (cN key (key m) (m + 1)) := by rw [c0, cm1, hnew]; rfl
    have hcq0 : ¬ cnt q + 1 = 0 := by rw [hcq]; exact cne _ (by rw [cm1]; omega)
    rw [if_pos c0]
    refine ⟨hcq, fun j hj hc => ?_, fun i hi => ?_, fun j k hj hk hc1 hc2 e => ?_, ?_⟩
    · by_cases e : j = q
      · subst e
        rw [show upd cnt j (cnt j + 1) j = cnt j + 1 from if_pos rfl, show upd ke j (key m) j = key m from if_pos rfl]
        exact ⟨hcq, by rw [cm1]; omega⟩
      · rw [show upd cnt q (cnt q + 1) j = cnt j from if_neg e] at hc ⊢
        rw [show upd ke q (key m) j = ke j from if_neg e, cm2 _ (fun y => hother j hj hc y.symm)]
        exact h1 j hj hc
    · rcases Nat.lt_or_ge i m with w | w
      · obtain ⟨d2, hd2, g1, g2, g3⟩ := h2 i w
        have nq : ∀ e, e ≤ d2 → ¬ (hm (key i) + e) % 1024 = q := fun e he y => by
          rcases Nat.lt_or_ge e d2 with x | x
          · exact g3 e x (by rw [y]; exact Or.inl c0)
          · rw [show e = d2 by omega] at y; rw [y] at g1; exact g1 c0
        refine ⟨d2, hd2, ?_, ?_, fun e he => ?_⟩
        · rw [show upd cnt q (cnt q + 1) ((hm (key i) + d2) % 1024) = _ from if_neg (nq d2 (Nat.le_refl _))]; exact g1
        · rw [show upd ke q (key m) ((hm (key i) + d2) % 1024) = _ from if_neg (nq d2 (Nat.le_refl _))]; exact g2
        · unfold hit
          rw [show upd cnt q (cnt q + 1) ((hm (key i) + e) % 1024) = _ from if_neg (nq e (by omega)), show upd ke q (key m) ((hm (key i) + e) % 1024) = _ from if_neg (nq e (by omega))]
          exact g3 e he
      · have e : i = m := by omega
        subst e
        have nq : ∀ e, e < d → ¬ (hm (key i) + e) % 1024 = q := fun e he y => hn e he (by show hit cnt ke (key i) ((hm (key i) + e) % 1024); rw [y]; exact Or.inl c0)
        refine ⟨d, hd, ?_, ?_, fun e he => ?_⟩
        · rw [hq, show upd cnt q (cnt q + 1) q = _ from if_pos rfl]; exact hcq0
        · rw [hq]; exact if_pos rfl
        · unfold hit
          rw [show upd cnt q (cnt q + 1) ((hm (key i) + e) % 1024) = _ from if_neg (nq e he), show upd ke q (key i) ((hm (key i) + e) % 1024) = _ from if_neg (nq e he)]
          exact hn e he
    · by_cases e1 : j = q <;> by_cases e2 : k = q
      · omega
      · rw [show upd cnt q (cnt q + 1) k = cnt k from if_neg e2] at hc2
        rw [e1, show upd ke q (key m) q = key m from if_pos rfl, show upd ke q (key m) k = ke k from if_neg e2] at e
        exact absurd e.symm (hother k hk hc2)
      · rw [show upd cnt q (cnt q + 1) j = cnt j from if_neg e1] at hc1
        rw [e2, show upd ke q (key m) q = key m from if_pos rfl, show upd ke q (key m) j = ke j from if_neg e1] at e
        exact absurd e (hother j hj hc1)
      · rw [show upd cnt q (cnt q + 1) k = cnt k from if_neg e2] at hc2
        rw [show upd cnt q (cnt q + 1) j = cnt j from if_neg e1] at hc1
        rw [show upd ke q (key m) j = ke j from if_neg e1, show upd ke q (key m) k = ke k from if_neg e2] at e
        exact h3 j k hj hk hc1 hc2 e
    · have := nz_upd (cnt := cnt) (k := q) (v := cnt q + 1) 1024
      rw [if_pos c0, if_pos hq1] at this
      omega
  · -- a key that stands there
    have ekq : ke q = key m := hp.resolve_left c0
    obtain ⟨k1, k2⟩ := h1 q hq1 c0
    rw [ekq] at k1 k2
    have hcq : cnt q + 1 = nI (cN key (key m) (m + 1)) := by rw [k1, cm1, nI_1]
    have hcq0 : ¬ cnt q + 1 = 0 := by rw [hcq]; exact cne _ (by rw [cm1]; omega)
    have hsame : ∀ j, upd cnt q (cnt q + 1) j = 0 ↔ cnt j = 0 := fun j => by
      by_cases e : j = q
      · subst e; rw [show upd cnt j (cnt j + 1) j = cnt j + 1 from if_pos rfl]; exact ⟨fun y => absurd y hcq0, fun y => absurd y c0⟩
      · rw [show upd cnt q (cnt q + 1) j = cnt j from if_neg e]
    rw [if_neg c0]
    refine ⟨hcq, fun j hj hc => ?_, fun i hi => ?_, fun j k hj hk hc1 hc2 e => ?_, ?_⟩
    · by_cases e : j = q
      · subst e
        rw [show upd cnt j (cnt j + 1) j = cnt j + 1 from if_pos rfl, ekq]
        exact ⟨hcq, by rw [cm1]; omega⟩
      · rw [show upd cnt q (cnt q + 1) j = cnt j from if_neg e] at hc ⊢
        rw [cm2 _ (fun y => e (h3 j q hj hq1 hc c0 (by rw [ekq]; exact y.symm)))]
        exact h1 j hj hc
    · have lift : ∀ i d2, d2 < 1024 → ¬ cnt ((hm (key i) + d2) % 1024) = 0 → ke ((hm (key i) + d2) % 1024) = key i → (∀ e, e < d2 → ¬ hit cnt ke (key i) ((hm (key i) + e) % 1024)) → ∃ d, d < 1024 ∧ ¬ upd cnt q (cnt q + 1) ((hm (key i) + d) % 1024) = 0 ∧ ke ((hm (key i) + d) % 1024) = key i ∧ ∀ e, e < d → ¬ hit (upd cnt q (cnt q + 1)) ke (key i) ((hm (key i) + e) % 1024) := fun i d2 hd2 g1 g2 g3 => by
        refine ⟨d2, hd2, fun y => g1 ((hsame _).mp y), g2, fun e he => ?_⟩
        unfold hit
        rw [hsame]
        exact g3 e he
      rcases Nat.lt_or_ge i m with w | w
      · obtain ⟨d2, hd2, g1, g2, g3⟩ := h2 i w
        exact lift i d2 hd2 g1 g2 g3
      · have e : i = m := by omega
        subst e
        exact lift i d hd (by rw [hq]; exact c0) (by rw [hq]; exact ekq) hn
    · exact h3 j k hj hk (fun y => hc1 ((hsame j).mpr y)) (fun y => hc2 ((hsame k).mpr y)) e
    · have := nz_upd (cnt := cnt) (k := q) (v := cnt q + 1) 1024
      rw [if_neg c0] at this
      omega
theorem iMax_N {a b : Nat} (ha : a < 2 ^ 31) (hb : b < 2 ^ 31) : iMax (nI a) (nI b) = nI (max a b) := by
  unfold iMax
  by_cases h : b ≤ a
  · rw [if_pos ((nI_leI hb ha).mpr h), Nat.max_eq_left h]
  · rw [if_neg (fun z => h ((nI_leI hb ha).mp z)), Nat.max_eq_right (by omega)]
theorem ma_run {sp : Nat → Int32} {a b : Nat} : ∀ (r m : Nat) (s : MA), m + r ≤ 1000 → HT (fun w => sp (w * 7 + b) - sp (w * 7 + a)) m s.1 s.2.1 → s.2.2 = nI (mx (fun w => sp (w * 7 + b) - sp (w * 7 + a)) m) → (iterN (maStep sp a b) r m s).2.2 = nI (mx (fun w => sp (w * 7 + b) - sp (w * 7 + a)) (m + r))
  | 0, m, s, _, _, h => h
  | r + 1, m, s, hm9, h1, h2 => by
    simp only [iterN]
    obtain ⟨q, e1, hq, e2, h3⟩ := HT_step (by omega) h1
    have ec : (nI q).toNatClampNeg = q := nI_clamp (by omega)
    have es : maStep sp a b m s = (upd s.1 q (s.1 q + 1), if s.1 q = 0 then upd s.2.1 q (sp (m * 7 + b) - sp (m * 7 + a)) else s.2.1, iMax s.2.2 (s.1 q + 1)) := by
      unfold maStep
      simp only [e1, ec]
    rw [es]
    have := ma_run (sp := sp) (a := a) (b := b) r (m + 1) (upd s.1 q (s.1 q + 1), if s.1 q = 0 then upd s.2.1 q (sp (m * 7 + b) - sp (m * 7 + a)) else s.2.1, iMax s.2.2 (s.1 q + 1)) (by omega) h3 (by
      show iMax s.2.2 (s.1 q + 1) = _
      rw [h2, e2, iMax_N (Nat.lt_of_le_of_lt (mx_n m) (by omega)) (Nat.lt_of_le_of_lt (cN_le (m + 1)) (by omega))]
      rfl)
    rw [show m + 1 + r = m + (r + 1) by omega] at this
    exact this
theorem ma_eq {sp co ke : Nat → Int32} {a b n : Nat} (hn : n ≤ 576) : (maF sp a b n co ke).2.2 = nI (mx (fun w => sp (w * 7 + b) - sp (w * 7 + a)) n) := by
  have h := ma_run (sp := sp) (a := a) (b := b) n 0 (fil 1024 0 co, ke, 0) (by omega) ⟨fun j hj hc => absurd (show fil 1024 0 co j = 0 from if_pos hj) hc, fun i hi => absurd hi (Nat.not_lt_zero i), fun j k hj _ hc => absurd (show fil 1024 0 co j = 0 from if_pos hj) hc, ?_⟩ rfl
  · rw [Nat.zero_add] at h
    exact h
  · have hz : ∀ n, n ≤ 1024 → nz (fil 1024 0 co) n = 0 := by
      intro n
      induction n with
      | zero => intro _; rfl
      | succ n ih =>
        intro hn
        simp only [nz]
        rw [ih (by omega), if_pos (show fil 1024 0 co n = 0 from if_pos (by omega))]
    exact Nat.le_of_eq (hz 1024 (Nat.le_refl _))
/-! keys are alike where places lie alike to each other -/
theorem key_eq {a b x y c d e f : Int32} (h1 : bdI 4000 a ∧ bdI 4000 b ∧ bdI 4000 x ∧ bdI 4000 y) (h2 : bdI 4000 c ∧ bdI 4000 d ∧ bdI 4000 e ∧ bdI 4000 f) (n1 : (y.toInt - x.toInt).natAbs ≤ 1782) (n2 : (f.toInt - e.toInt).natAbs ≤ 1782) : ((b * 4096 + y) - (a * 4096 + x) = (d * 4096 + f) - (c * 4096 + e)) ↔ (b - a - d + c = 0 ∧ y - x - f + e = 0) := by
  unfold bdI at h1 h2
  obtain ⟨a1, b1, x1, y1⟩ := h1
  obtain ⟨c1, d1, e1, f1⟩ := h2
  have k : (4096 : Int32).toInt = 4096 := rfl
  have kz : (0 : Int32).toInt = 0 := rfl
  have m1 : ∀ u v : Int32, -4000 ≤ u.toInt ∧ u.toInt ≤ 4000 → -4000 ≤ v.toInt ∧ v.toInt ≤ 4000 → (u * 4096 + v).toInt = u.toInt * 4096 + v.toInt := by
    intro u v hu hv
    rw [Int32.toInt_add, Int32.toInt_mul, k, show (u.toInt * 4096).bmod (2 ^ 32) = u.toInt * 4096 from by apply Int.bmod_eq_of_le <;> omega]
    apply Int.bmod_eq_of_le <;> omega
  have m2 : ((b * 4096 + y) - (a * 4096 + x)).toInt = (b.toInt - a.toInt) * 4096 + (y.toInt - x.toInt) := by
    rw [Int32.toInt_sub, m1 b y b1 y1, m1 a x a1 x1]
    rw [show (b.toInt * 4096 + y.toInt - (a.toInt * 4096 + x.toInt)).bmod (2 ^ 32) = b.toInt * 4096 + y.toInt - (a.toInt * 4096 + x.toInt) from by apply Int.bmod_eq_of_le <;> omega]
    omega
  have m3 : ((d * 4096 + f) - (c * 4096 + e)).toInt = (d.toInt - c.toInt) * 4096 + (f.toInt - e.toInt) := by
    rw [Int32.toInt_sub, m1 d f d1 f1, m1 c e c1 e1]
    rw [show (d.toInt * 4096 + f.toInt - (c.toInt * 4096 + e.toInt)).bmod (2 ^ 32) = d.toInt * 4096 + f.toInt - (c.toInt * 4096 + e.toInt) from by apply Int.bmod_eq_of_le <;> omega]
    omega
  have m4 : ∀ p q r s : Int32, -4000 ≤ p.toInt ∧ p.toInt ≤ 4000 → -4000 ≤ q.toInt ∧ q.toInt ≤ 4000 → -4000 ≤ r.toInt ∧ r.toInt ≤ 4000 → -4000 ≤ s.toInt ∧ s.toInt ≤ 4000 → (p - q - r + s).toInt = p.toInt - q.toInt - r.toInt + s.toInt := by
    intro p q r s hp hq hr hs
    rw [Int32.toInt_add, Int32.toInt_sub, Int32.toInt_sub]
    rw [show (p.toInt - q.toInt).bmod (2 ^ 32) = p.toInt - q.toInt from by apply Int.bmod_eq_of_le <;> omega]
    rw [show (p.toInt - q.toInt - r.toInt).bmod (2 ^ 32) = p.toInt - q.toInt - r.toInt from by apply Int.bmod_eq_of_le <;> omega]
    apply Int.bmod_eq_of_le <;> omega
  rw [← Int32.toInt_inj, ← Int32.toInt_inj (x := b - a - d + c), ← Int32.toInt_inj (x := y - x - f + e), m2, m3, m4 b a d c b1 a1 d1 c1, m4 y x f e y1 x1 f1 e1, kz]
  omega
