/-! ===== the class's chart and the reference's: one after the other the same places are laid ===== -/
theorem nI_ij {a b : Nat} (h : nI a = nI b) (ha : a < 2 ^ 31) (hb : b < 2 ^ 31) : a = b := by
  have h1 := nI_leN (a := a) (b := b) (by rw [h]; exact Int32.le_refl _) ha hb
  have h2 := nI_leN (a := b) (b := a) (by rw [h]; exact Int32.le_refl _) hb ha
  omega
theorem mn1 (a e : Int32) : a + -1 * e = a - e := by rw [Int32.sub_eq_add_neg, Int32.neg_mul, Int32.one_mul]
theorem mp1 (a e : Int32) : a + 1 * e = a + e := by rw [Int32.one_mul]
theorem lyI_snoc {E N la ba fr to_ : Nat → Int32} : ∀ (r i : Nat) (s : (Nat → Int32) × (Nat → Int32)), lyI E N la ba fr to_ (r + 1) i s = lyStep E N la ba fr to_ (i + r) (lyI E N la ba fr to_ r i s)
  | 0, i, s => rfl
  | r + 1, i, s => by
    have h := lyI_snoc (E := E) (N := N) (la := la) (ba := ba) (fr := fr) (to_ := to_) r (i + 1) (lyStep E N la ba fr to_ i s)
    have e : lyI E N la ba fr to_ (r + 1 + 1) i s = lyI E N la ba fr to_ (r + 1) (i + 1) (lyStep E N la ba fr to_ i s) := rfl
    rw [e, h, show i + 1 + r = i + (r + 1) by omega]; rfl
theorem lyI_ext {E N la ba la' ba' fr to_ : Nat → Int32} : ∀ (r i : Nat) (s : (Nat → Int32) × (Nat → Int32)), (∀ j, i ≤ j → j < i + r → la j = la' j ∧ ba j = ba' j) → lyI E N la ba fr to_ r i s = lyI E N la' ba' fr to_ r i s
  | 0, _, _, _ => rfl
  | r + 1, i, s, h => by
    simp only [lyI]
    have h1 := h i (Nat.le_refl _) (by omega)
    have e : lyStep E N la ba fr to_ i s = lyStep E N la' ba' fr to_ i s := by unfold lyStep; rw [h1.1, h1.2]
    rw [e]
    exact lyI_ext r (i + 1) _ (fun j a b => h j (by omega) (by omega))
def posS (t : TW) (S : TrS) : (Nat → Int32) × (Nat → Int32) := lyI (tE_ t) (tN_ t) S.2.1 S.2.2.1 t.fr t.to_ S.2.2.2.1 0 (fun _ => 0, fun _ => 0)
abbrev stS (t : TW) (S : TrS) : TrS := trStep (tTh t) t.fr t.to_ t.nL t.nP S
/-- class's rounds and the reference's chart -/
def RS5 (t : TW) (S : TrS) (s : MS) : Prop := (∀ j, j < 7 → S.1 j = s.1 j) ∧ (∀ j, j < 7 → ¬ s.1 j = -1 → (posS t S).1 j = s.2.1 j ∧ (posS t S).2 j = s.2.2 j) ∧ (∀ j, j < 7 → s.1 j = -1 → (posS t S).1 j = 0 ∧ (posS t S).2 j = 0) ∧ (∀ l, l < t.nL → moP t s.1 l → (un s.1 t.fr l → s.1 (t.to_ l).toNatClampNeg = S.2.2.2.2.2) ∧ (¬ un s.1 t.fr l → s.1 (t.fr l).toNatClampNeg = S.2.2.2.2.2)) ∧ (∀ j, j < 7 → ¬ s.1 j = -1 → j < t.nP)
section SIM
variable {t : TW} {S : TrS} {s : MS}
theorem frP (I : tOK t) (J : tIn t) {l : Nat} (hl : l < t.nL) : (t.fr l).toNatClampNeg < t.nP ∧ (t.to_ l).toNatClampNeg < t.nP := by
  obtain ⟨-, h1, h2, -⟩ := J.1 l hl
  have hP := I.hP
  obtain ⟨a, ha, ea⟩ := inR_ex h1 (by omega)
  obtain ⟨b, hb, eb⟩ := inR_ex h2 (by omega)
  rw [ea, eb, nI_clamp (by omega), nI_clamp (by omega)]
  exact ⟨ha, hb⟩
theorem stS_new (h : trL (tTh t) t.fr t.to_ t.nL S.1 = -1) : stS t S = (upd S.1 (trP t.nP S.1).toNatClampNeg (trP t.nP S.1), S.2.1, S.2.2.1, S.2.2.2.1, S.2.2.2.2.1 + 1, trP t.nP S.1) := if_pos h
theorem sim_lay5 (I : tOK t) (J : tIn t) {l : Nat} (hl : l < t.nL) (h : RS5 t S s) (e : moF t s.1 = nI l) (hp : moP t s.1 l) : RS5 t (stS t S) (moL t l s) := by
  obtain ⟨r1, r2, r3, r4, r5⟩ := h
  have hP := I.hP
  have hL := I.hL
  obtain ⟨f7, t7⟩ := frP I J hl
  have e1 : trL (tTh t) t.fr t.to_ t.nL S.1 = nI l := by rw [trL_congr I.fr I.to_ r1]; exact e
  have e2 : (nI l).toNatClampNeg = l := nI_clamp (by omega)
  have ne : ¬ nI l = -1 := nI_ne1 (by omega)
  have hu : un S.1 t.fr l ↔ un s.1 t.fr l := by unfold un; rw [r1 _ (by omega)]
  obtain ⟨q1, q2⟩ := r4 l hl hp
  have htf : ¬ (t.fr l).toNatClampNeg = (t.to_ l).toNatClampNeg := by
    intro z
    have := hp.2
    unfold un at this
    rw [z] at this
    exact this Iff.rfl
  by_cases hb : un s.1 t.fr l
  · have hv : ¬ un s.1 t.to_ l := fun z => hp.2 ⟨fun _ => z, fun _ => hb⟩
    have eS : stS t S = (upd S.1 (t.fr l).toNatClampNeg S.2.2.2.2.2, upd S.2.1 S.2.2.2.1 (nI l), upd S.2.2.1 S.2.2.2.1 1, S.2.2.2.1 + 1, S.2.2.2.2.1, S.2.2.2.2.2) := by
      unfold stS trStep
      rw [e1, if_neg ne, e2, if_pos (hu.mpr hb)]
    have es : moL t l s = _ := if_pos hb
    have hpos : posS t (stS t S) = (upd (posS t S).1 (t.fr l).toNatClampNeg ((posS t S).1 (t.to_ l).toNatClampNeg - tE_ t l), upd (posS t S).2 (t.fr l).toNatClampNeg ((posS t S).2 (t.to_ l).toNatClampNeg - tN_ t l)) := by
      rw [eS]
      unfold posS
      dsimp only
      rw [lyI_snoc, lyI_ext (la := upd S.2.1 S.2.2.2.1 (nI l)) (ba := upd S.2.2.1 S.2.2.2.1 1) (la' := S.2.1) (ba' := S.2.2.1) S.2.2.2.1 0 _ (fun j _ hj => ⟨if_neg (by omega), if_neg (by omega)⟩)]
      unfold lyStep
      rw [Nat.zero_add, show upd S.2.2.1 S.2.2.2.1 1 S.2.2.2.1 = 1 from if_pos rfl, show upd S.2.1 S.2.2.2.1 (nI l) S.2.2.2.1 = nI l from if_pos rfl, if_neg (by decide), e2]
    have hw := q1 hb
    have w1 := r2 _ (by omega : (t.to_ l).toNatClampNeg < 7) hv
    refine ⟨?_, ?_, ?_, ?_, ?_⟩
    · intro j hj
      rw [eS, es]
      show upd S.1 _ _ j = upd s.1 _ _ j
      unfold upd
      split
      · exact hw.symm
      · exact r1 j hj
    · intro j hj hn
      rw [hpos, es]
      show upd _ _ _ j = upd s.2.1 _ _ j ∧ upd _ _ _ j = upd s.2.2 _ _ j
      rw [es] at hn
      unfold upd
      split
      · rw [w1.1, w1.2, mn1, mn1]; exact ⟨rfl, rfl⟩
      · rename_i hj2
        exact r2 j hj (fun z => hn (by show upd s.1 _ _ j = -1; rw [show upd s.1 (t.fr l).toNatClampNeg (s.1 (t.to_ l).toNatClampNeg) j = s.1 j from if_neg hj2]; exact z))
    · intro j hj hn
      rw [es] at hn
      have hj2 : ¬ j = (t.fr l).toNatClampNeg := by
        intro z
        subst z
        exact hv ((show s.1 (t.to_ l).toNatClampNeg = upd s.1 (t.fr l).toNatClampNeg (s.1 (t.to_ l).toNatClampNeg) (t.fr l).toNatClampNeg from (if_pos rfl).symm).trans hn)
      rw [hpos]
      show upd _ _ _ j = 0 ∧ upd _ _ _ j = 0
      rw [show upd (posS t S).1 (t.fr l).toNatClampNeg ((posS t S).1 (t.to_ l).toNatClampNeg - tE_ t l) j = (posS t S).1 j from if_neg hj2, show upd (posS t S).2 (t.fr l).toNatClampNeg ((posS t S).2 (t.to_ l).toNatClampNeg - tN_ t l) j = (posS t S).2 j from if_neg hj2]
      exact r3 j hj (by rw [show s.1 j = upd s.1 (t.fr l).toNatClampNeg (s.1 (t.to_ l).toNatClampNeg) j from (if_neg hj2).symm]; exact hn)
    · intro k hk hpk
      rw [eS]
      rw [es] at hpk ⊢
      have a1 : ∀ j, ¬ j = (t.fr l).toNatClampNeg → upd s.1 (t.fr l).toNatClampNeg (s.1 (t.to_ l).toNatClampNeg) j = s.1 j := fun j hj => if_neg hj
      have a2 : upd s.1 (t.fr l).toNatClampNeg (s.1 (t.to_ l).toNatClampNeg) (t.fr l).toNatClampNeg = s.1 (t.to_ l).toNatClampNeg := if_pos rfl
      have a3 : ∀ j, upd s.1 (t.fr l).toNatClampNeg (s.1 (t.to_ l).toNatClampNeg) j = -1 → s.1 j = -1 ∧ ¬ j = (t.fr l).toNatClampNeg := by
        intro j z
        by_cases y : j = (t.fr l).toNatClampNeg
        · subst y; rw [a2] at z; exact absurd z hv
        · rw [a1 j y] at z; exact ⟨z, y⟩
      refine ⟨fun hf => ?_, fun hf => ?_⟩
      · obtain ⟨z1, z2⟩ := a3 _ hf
        show upd s.1 _ _ _ = S.2.2.2.2.2
        by_cases y : (t.to_ k).toNatClampNeg = (t.fr l).toNatClampNeg
        · rw [y, a2]; exact hw
        · rw [a1 _ y]
          refine (r4 k hk ⟨hpk.1, fun w => ?_⟩).1 z1
          have w2 : un s.1 t.to_ k := w.mp z1
          exact hpk.2 ⟨fun _ => by show upd s.1 _ _ _ = -1; rw [a1 _ y]; exact w2, fun _ => hf⟩
      · have hq : un (upd s.1 (t.fr l).toNatClampNeg (s.1 (t.to_ l).toNatClampNeg)) t.to_ k := Decidable.of_not_not fun z => hpk.2 ⟨fun w => absurd w hf, fun w => absurd w z⟩
        obtain ⟨z1, z2⟩ := a3 _ hq
        show upd s.1 _ _ _ = S.2.2.2.2.2
        by_cases y : (t.fr k).toNatClampNeg = (t.fr l).toNatClampNeg
        · rw [y, a2]; exact hw
        · rw [a1 _ y]
          have w3 : ¬ un s.1 t.fr k := fun w => hf (by show upd s.1 _ _ _ = -1; rw [a1 _ y]; exact w)
          exact (r4 k hk ⟨hpk.1, fun w => w3 (w.mpr z1)⟩).2 w3
    · intro j hj hn
      rw [es] at hn
      by_cases y : j = (t.fr l).toNatClampNeg
      · rw [y]; exact f7
      · exact r5 j hj (fun z => hn (by show upd s.1 _ _ j = -1; rw [show upd s.1 (t.fr l).toNatClampNeg (s.1 (t.to_ l).toNatClampNeg) j = s.1 j from if_neg y]; exact z))
  · have hv : un s.1 t.to_ l := Decidable.of_not_not fun z => hp.2 ⟨fun y => absurd y hb, fun y => absurd y z⟩
    have eS : stS t S = (upd S.1 (t.to_ l).toNatClampNeg S.2.2.2.2.2, upd S.2.1 S.2.2.2.1 (nI l), upd S.2.2.1 S.2.2.2.1 0, S.2.2.2.1 + 1, S.2.2.2.2.1, S.2.2.2.2.2) := by
      unfold stS trStep
      rw [e1, if_neg ne, e2, if_neg (fun z => hb (hu.mp z))]
    have es : moL t l s = _ := if_neg hb
    have hpos : posS t (stS t S) = (upd (posS t S).1 (t.to_ l).toNatClampNeg ((posS t S).1 (t.fr l).toNatClampNeg + tE_ t l), upd (posS t S).2 (t.to_ l).toNatClampNeg ((posS t S).2 (t.fr l).toNatClampNeg + tN_ t l)) := by
      rw [eS]
      unfold posS
      dsimp only
      rw [lyI_snoc, lyI_ext (la := upd S.2.1 S.2.2.2.1 (nI l)) (ba := upd S.2.2.1 S.2.2.2.1 0) (la' := S.2.1) (ba' := S.2.2.1) S.2.2.2.1 0 _ (fun j _ hj => ⟨if_neg (by omega), if_neg (by omega)⟩)]
      unfold lyStep
      rw [Nat.zero_add, show upd S.2.2.1 S.2.2.2.1 0 S.2.2.2.1 = 0 from if_pos rfl, show upd S.2.1 S.2.2.2.1 (nI l) S.2.2.2.1 = nI l from if_pos rfl, if_pos rfl, e2]
    have hw := q2 hb
    have w1 := r2 _ (by omega : (t.fr l).toNatClampNeg < 7) hb
    refine ⟨?_, ?_, ?_, ?_, ?_⟩
    · intro j hj
      rw [eS, es]
      show upd S.1 _ _ j = upd s.1 _ _ j
      unfold upd
      split
      · exact hw.symm
      · exact r1 j hj
    · intro j hj hn
      rw [hpos, es]
      show upd _ _ _ j = upd s.2.1 _ _ j ∧ upd _ _ _ j = upd s.2.2 _ _ j
      rw [es] at hn
      unfold upd
      split
      · rw [w1.1, w1.2, mp1, mp1]; exact ⟨rfl, rfl⟩
      · rename_i hj2
        exact r2 j hj (fun z => hn (by show upd s.1 _ _ j = -1; rw [show upd s.1 (t.to_ l).toNatClampNeg (s.1 (t.fr l).toNatClampNeg) j = s.1 j from if_neg hj2]; exact z))
    · intro j hj hn
      rw [es] at hn
      have hj2 : ¬ j = (t.to_ l).toNatClampNeg := by
        intro z
        subst z
        exact hb ((show s.1 (t.fr l).toNatClampNeg = upd s.1 (t.to_ l).toNatClampNeg (s.1 (t.fr l).toNatClampNeg) (t.to_ l).toNatClampNeg from (if_pos rfl).symm).trans hn)
      rw [hpos]
      show upd _ _ _ j = 0 ∧ upd _ _ _ j = 0
      rw [show upd (posS t S).1 (t.to_ l).toNatClampNeg ((posS t S).1 (t.fr l).toNatClampNeg + tE_ t l) j = (posS t S).1 j from if_neg hj2, show upd (posS t S).2 (t.to_ l).toNatClampNeg ((posS t S).2 (t.fr l).toNatClampNeg + tN_ t l) j = (posS t S).2 j from if_neg hj2]
      exact r3 j hj (by rw [show s.1 j = upd s.1 (t.to_ l).toNatClampNeg (s.1 (t.fr l).toNatClampNeg) j from (if_neg hj2).symm]; exact hn)
    · intro k hk hpk
      rw [eS]
      rw [es] at hpk ⊢
      have a1 : ∀ j, ¬ j = (t.to_ l).toNatClampNeg → upd s.1 (t.to_ l).toNatClampNeg (s.1 (t.fr l).toNatClampNeg) j = s.1 j := fun j hj => if_neg hj
      have a2 : upd s.1 (t.to_ l).toNatClampNeg (s.1 (t.fr l).toNatClampNeg) (t.to_ l).toNatClampNeg = s.1 (t.fr l).toNatClampNeg := if_pos rfl
      have a3 : ∀ j, upd s.1 (t.to_ l).toNatClampNeg (s.1 (t.fr l).toNatClampNeg) j = -1 → s.1 j = -1 ∧ ¬ j = (t.to_ l).toNatClampNeg := by
        intro j z
        by_cases y : j = (t.to_ l).toNatClampNeg
        · subst y; rw [a2] at z; exact absurd z hb
        · rw [a1 j y] at z; exact ⟨z, y⟩
      refine ⟨fun hf => ?_, fun hf => ?_⟩
      · obtain ⟨z1, z2⟩ := a3 _ hf
        show upd s.1 _ _ _ = S.2.2.2.2.2
        by_cases y : (t.to_ k).toNatClampNeg = (t.to_ l).toNatClampNeg
        · rw [y, a2]; exact hw
        · rw [a1 _ y]
          refine (r4 k hk ⟨hpk.1, fun w => ?_⟩).1 z1
          have w2 : un s.1 t.to_ k := w.mp z1
          exact hpk.2 ⟨fun _ => by show upd s.1 _ _ _ = -1; rw [a1 _ y]; exact w2, fun _ => hf⟩
      · have hq : un (upd s.1 (t.to_ l).toNatClampNeg (s.1 (t.fr l).toNatClampNeg)) t.to_ k := Decidable.of_not_not fun z => hpk.2 ⟨fun w => absurd w hf, fun w => absurd w z⟩
        obtain ⟨z1, z2⟩ := a3 _ hq
        show upd s.1 _ _ _ = S.2.2.2.2.2
        by_cases y : (t.fr k).toNatClampNeg = (t.to_ l).toNatClampNeg
        · rw [y, a2]; exact hw
        · rw [a1 _ y]
          have w3 : ¬ un s.1 t.fr k := fun w => hf (by show upd s.1 _ _ _ = -1; rw [a1 _ y]; exact w)
          exact (r4 k hk ⟨hpk.1, fun w => w3 (w.mpr z1)⟩).2 w3
    · intro j hj hn
      rw [es] at hn
      by_cases y : j = (t.to_ l).toNatClampNeg
      · rw [y]; exact t7
      · exact r5 j hj (fun z => hn (by show upd s.1 _ _ j = -1; rw [show upd s.1 (t.to_ l).toNatClampNeg (s.1 (t.fr l).toNatClampNeg) j = s.1 j from if_neg y]; exact z))
/-- a new part begins at the first place that does not lie -/
def moN (p : Nat) (s : MS) : MS := (upd s.1 p (nI p), upd s.2.1 p 0, upd s.2.2 p 0)
theorem sim_new5 (I : tOK t) {p : Nat} (hpP : p < t.nP) (h : RS5 t S s) (e : moF t s.1 = -1) (hlt : ∀ j, j < p → ¬ s.1 j = -1) (hpu : s.1 p = -1) : RS5 t (stS t S) (moN p s) := by
  obtain ⟨r1, r2, r3, r4, r5⟩ := h
  have hP := I.hP
  have e1 : trL (tTh t) t.fr t.to_ t.nL S.1 = -1 := by rw [trL_congr I.fr I.to_ r1]; exact e
  have e2 : trP t.nP S.1 = nI p := by
    unfold trP
    rcases ffind0_ex (p := fun j => S.1 j = -1) (n := t.nP) (i := 0) with ⟨j, -, h2, h3, h4, h5⟩ | ⟨-, h2⟩
    · rw [h3]
      rcases Nat.lt_trichotomy j p with z | z | z
      · exact absurd (by rw [← r1 j (by omega)]; exact h4) (hlt j z)
      · rw [z]
      · exact absurd (show S.1 p = -1 from by rw [r1 p (by omega)]; exact hpu) (h5 p (by omega) z)
    · exact absurd (show S.1 p = -1 from by rw [r1 p (by omega)]; exact hpu) (h2 p (by omega) (by omega))
  have e3 : (nI p).toNatClampNeg = p := nI_clamp (by omega)
  have hno := fun l (hl : l < t.nL) => ffind_neg (k := 0) (by have := I.hL; omega) e l (by omega) (by omega)
  have ne : ¬ nI p = -1 := nI_ne1 (by omega)
  rw [stS_new e1, e2, e3]
  have a1 : ∀ j, ¬ j = p → upd s.1 p (nI p) j = s.1 j := fun j hj => if_neg hj
  have a2 : upd s.1 p (nI p) p = nI p := if_pos rfl
  have a3 : ∀ j, upd s.1 p (nI p) j = -1 → s.1 j = -1 ∧ ¬ j = p := by
    intro j z
    by_cases y : j = p
    · subst y; rw [a2] at z; exact absurd z ne
    · rw [a1 j y] at z; exact ⟨z, y⟩
  refine ⟨?_, ?_, ?_, ?_, ?_⟩
  · intro j hj
    show upd S.1 p (nI p) j = upd s.1 p (nI p) j
    unfold upd
    split
    · rfl
    · exact r1 j hj
  · intro j hj hn
    show (posS t S).1 j = upd s.2.1 p 0 j ∧ (posS t S).2 j = upd s.2.2 p 0 j
    by_cases y : j = p
    · subst y
      rw [show upd s.2.1 j 0 j = 0 from if_pos rfl, show upd s.2.2 j 0 j = 0 from if_pos rfl]
      exact r3 j hj hpu
    · rw [show upd s.2.1 p 0 j = s.2.1 j from if_neg y, show upd s.2.2 p 0 j = s.2.2 j from if_neg y]
      exact r2 j hj (fun z => hn (by show upd s.1 p (nI p) j = -1; rw [a1 j y]; exact z))
  · intro j hj hn
    exact r3 j hj (a3 j hn).1
  · intro k hk hpk
    refine ⟨fun hf => ?_, fun hf => ?_⟩
    · obtain ⟨z1, z2⟩ := a3 _ hf
      show upd s.1 p (nI p) _ = nI p
      by_cases y : (t.to_ k).toNatClampNeg = p
      · rw [y, a2]
      · refine absurd (⟨hpk.1, fun w => ?_⟩ : moP t s.1 k) (hno k hk)
        have w2 : un s.1 t.to_ k := w.mp z1
        exact hpk.2 ⟨fun _ => by show upd s.1 _ _ _ = -1; rw [a1 _ y]; exact w2, fun _ => hf⟩
    · have hq : un (upd s.1 p (nI p)) t.to_ k := Decidable.of_not_not fun z => hpk.2 ⟨fun w => absurd w hf, fun w => absurd w z⟩
      obtain ⟨z1, z2⟩ := a3 _ hq
      show upd s.1 p (nI p) _ = nI p
      by_cases y : (t.fr k).toNatClampNeg = p
      · rw [y, a2]
      · have w3 : ¬ un s.1 t.fr k := fun w => hf (by show upd s.1 _ _ _ = -1; rw [a1 _ y]; exact w)
        exact absurd (⟨hpk.1, fun w => w3 (w.mpr z1)⟩ : moP t s.1 k) (hno k hk)
  · intro j hj hn
    by_cases y : j = p
    · omega
    · exact r5 j hj (fun z => hn (by show upd s.1 p (nI p) j = -1; rw [a1 j y]; exact z))
/-- how many parts -/
def cnP (pb : Nat → Int32) : Nat → Nat
  | 0 => 0
  | n + 1 => cnP pb n + if pb n = nI n then 1 else 0
theorem cnP_hi {pb : Nat → Int32} {k : Nat} {v : Int32} : ∀ n, n ≤ k → cnP (upd pb k v) n = cnP pb n
  | 0, _ => rfl
  | n + 1, h => by
    simp only [cnP]
    rw [cnP_hi n (by omega), show upd pb k v n = pb n from if_neg (by omega)]
theorem cnP_no {pb : Nat → Int32} {k : Nat} {v : Int32} (h1 : ¬ pb k = nI k) (h2 : ¬ v = nI k) : ∀ n, cnP (upd pb k v) n = cnP pb n
  | 0 => rfl
  | n + 1 => by
    simp only [cnP]
    rw [cnP_no h1 h2 n]
    by_cases e : n = k
    · subst e
      rw [show upd pb n v n = v from if_pos rfl, if_neg h2, if_neg h1]
    · rw [show upd pb k v n = pb n from if_neg e]
theorem cnP_up {pb : Nat → Int32} {k : Nat} (h1 : ¬ pb k = nI k) : ∀ n, k < n → cnP (upd pb k (nI k)) n = cnP pb n + 1
  | 0, h => absurd h (by omega)
  | n + 1, h => by
    simp only [cnP]
    by_cases e : n = k
    · subst e
      rw [cnP_hi n (Nat.le_refl _), show upd pb n (nI n) n = nI n from if_pos rfl, if_pos rfl, if_neg h1]
    · rw [cnP_up h1 n (by omega), show upd pb k (nI k) n = pb n from if_neg e]; omega
/-- a part bears the number of a place that lies in it -/
def KRt (s : MS) : Prop := ∀ j, j < 7 → ¬ s.1 j = -1 → ∃ q, q < 7 ∧ s.1 j = nI q ∧ s.1 q = nI q
def RSs (t : TW) (S : TrS) (s : MS) : Prop := RS5 t S s ∧ KRt s ∧ S.2.2.2.2.1 = cnP s.1 7
theorem K_upd {pb : Nat → Int32} {k e : Nat} (hk : k < 7) (he : e < 7) (hu : pb k = -1) (hv : ¬ pb e = -1) (K : ∀ j, j < 7 → ¬ pb j = -1 → ∃ q, q < 7 ∧ pb j = nI q ∧ pb q = nI q) : (∀ j, j < 7 → ¬ upd pb k (pb e) j = -1 → ∃ q, q < 7 ∧ upd pb k (pb e) j = nI q ∧ upd pb k (pb e) q = nI q) ∧ cnP (upd pb k (pb e)) 7 = cnP pb 7 := by
  have hne : ∀ q, q < 7 → pb q = nI q → ¬ q = k := fun q hq z y => by rw [y, hu] at z; exact nI_ne1 (by omega) z.symm
  refine ⟨fun j hj hn => ?_, ?_⟩
  · by_cases y : j = k
    · subst y
      obtain ⟨q, h1, h2, h3⟩ := K e he hv
      exact ⟨q, h1, by rw [show upd pb j (pb e) j = pb e from if_pos rfl]; exact h2, by rw [show upd pb j (pb e) q = pb q from if_neg (hne q h1 h3)]; exact h3⟩
    · rw [show upd pb k (pb e) j = pb j from if_neg y] at hn ⊢
      obtain ⟨q, h1, h2, h3⟩ := K j hj hn
      exact ⟨q, h1, h2, by rw [show upd pb k (pb e) q = pb q from if_neg (hne q h1 h3)]; exact h3⟩
  · obtain ⟨q, h1, h2, h3⟩ := K e he hv
    exact cnP_no (by rw [hu]; exact fun z => nI_ne1 (by omega) z.symm) (by rw [h2]; exact fun z => hne q h1 h3 (nI_ij z (by omega) (by omega))) 7
theorem sim_lay (I : tOK t) (J : tIn t) {l : Nat} (hl : l < t.nL) (h : RSs t S s) (e : moF t s.1 = nI l) (hp : moP t s.1 l) : RSs t (stS t S) (moL t l s) := by
  obtain ⟨h5, hK, hc⟩ := h
  have f1 : (t.fr l).toNatClampNeg < 7 := Nat.not_le.mp fun q => I.fr l (Or.inr q)
  have t1 : (t.to_ l).toNatClampNeg < 7 := Nat.not_le.mp fun q => I.to_ l (Or.inr q)
  have ept : (stS t S).2.2.2.2.1 = S.2.2.2.2.1 := by
    have e1 : trL (tTh t) t.fr t.to_ t.nL S.1 = nI l := by rw [trL_congr I.fr I.to_ h5.1]; exact e
    unfold stS trStep
    rw [e1, if_neg (nI_ne1 (by have := I.hL; omega))]
    split <;> rfl
  refine ⟨sim_lay5 I J hl h5 e hp, ?_⟩
  rw [ept]
  by_cases hb : un s.1 t.fr l
  · have hv : ¬ un s.1 t.to_ l := fun z => hp.2 ⟨fun _ => z, fun _ => hb⟩
    rw [show moL t l s = _ from if_pos hb]
    have := K_upd f1 t1 hb hv hK
    exact ⟨this.1, hc.trans this.2.symm⟩
  · have hv : un s.1 t.to_ l := Decidable.of_not_not fun z => hp.2 ⟨fun y => absurd y hb, fun y => absurd y z⟩
    rw [show moL t l s = _ from if_neg hb]
    have := K_upd t1 f1 hv hb hK
    exact ⟨this.1, hc.trans this.2.symm⟩
theorem sim_new (I : tOK t) {p : Nat} (hpP : p < t.nP) (h : RSs t S s) (e : moF t s.1 = -1) (hlt : ∀ j, j < p → ¬ s.1 j = -1) (hpu : s.1 p = -1) : RSs t (stS t S) (moN p s) := by
  obtain ⟨h5, hK, hc⟩ := h
  have hP := I.hP
  have e1 : trL (tTh t) t.fr t.to_ t.nL S.1 = -1 := by rw [trL_congr I.fr I.to_ h5.1]; exact e
  refine ⟨sim_new5 I hpP h5 e hlt hpu, ?_, ?_⟩
  · intro j hj hn
    show ∃ q, q < 7 ∧ upd s.1 p (nI p) j = nI q ∧ upd s.1 p (nI p) q = nI q
    by_cases y : j = p
    · subst y
      exact ⟨j, hj, if_pos rfl, if_pos rfl⟩
    · have hn2 : ¬ s.1 j = -1 := fun z => hn (by show upd s.1 p (nI p) j = -1; rw [show upd s.1 p (nI p) j = s.1 j from if_neg y]; exact z)
      obtain ⟨q, h1, h2, h3⟩ := hK j hj hn2
      have hq : ¬ q = p := fun z => by rw [z, hpu] at h3; exact nI_ne1 (by omega) h3.symm
      exact ⟨q, h1, by rw [show upd s.1 p (nI p) j = s.1 j from if_neg y]; exact h2, by rw [show upd s.1 p (nI p) q = s.1 q from if_neg hq]; exact h3⟩
  · rw [stS_new e1]
    show S.2.2.2.2.1 + 1 = cnP (upd s.1 p (nI p)) 7
    rw [cnP_up (by rw [hpu]; exact fun z => nI_ne1 (by omega) z.symm) 7 (by omega), hc]
end SIM
