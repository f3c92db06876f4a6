/-! ===== parts are what the legs join; bridges ===== -/
/-- a function that is the same at both ends of every leg there -/
def eqL (t : TW) (c : Nat → Int32) : Prop := ∀ l, l < t.nL → hs (tTh t) (nI l) → c (t.fr l).toNatClampNeg = c (t.to_ l).toNatClampNeg
def XRt (t : TW) (s : MS) : Prop := (∀ l, l < t.nL → hs (tTh t) (nI l) → ¬ un s.1 t.fr l → ¬ un s.1 t.to_ l → s.1 (t.fr l).toNatClampNeg = s.1 (t.to_ l).toNatClampNeg) ∧ (∀ c, eqL t c → ∀ j q, j < 7 → q < 7 → s.1 j = nI q → c j = c q) ∧ (∀ j q, j < 7 → q < 7 → s.1 j = nI q → q ≤ j) ∧ ∀ j e q, j < 7 → e < 7 → q < 7 → s.1 j = -1 → s.1 e = nI q → q < j
section CONN
variable {t : TW} {S : TrS} {s : MS}
/-- one more place k, joined to e -/
theorem X_upd (I : tOK t) {l k e : Nat} (hl : l < t.nL) (hk : k < 7) (he : e < 7) (hth : hs (tTh t) (nI l)) (hke : (k = (t.fr l).toNatClampNeg ∧ e = (t.to_ l).toNatClampNeg) ∨ (k = (t.to_ l).toNatClampNeg ∧ e = (t.fr l).toNatClampNeg)) (hu : s.1 k = -1) (hv : ¬ s.1 e = -1) (K : KRt s)
    (r4 : ∀ m, m < t.nL → moP t s.1 m → (un s.1 t.fr m → s.1 (t.to_ m).toNatClampNeg = s.1 e) ∧ (¬ un s.1 t.fr m → s.1 (t.fr m).toNatClampNeg = s.1 e)) {s2 : MS} (h2 : s2.1 = upd s.1 k (s.1 e)) (X : XRt t s) : XRt t s2 := by
  obtain ⟨x1, x2, x3, x4⟩ := X
  have a1 : ∀ j, ¬ j = k → s2.1 j = s.1 j := fun j hj => by rw [h2]; exact if_neg hj
  have a2 : s2.1 k = s.1 e := by rw [h2]; exact if_pos rfl
  obtain ⟨r, hr7, hr1, hr2⟩ := K e he hv
  refine ⟨fun m hm hth2 hf ht => ?_, fun c hc j q hj hq hjq => ?_, fun j q hj hq hjq => ?_, fun j e' q hj he' hq hju heq => ?_⟩
  · by_cases yf : (t.fr m).toNatClampNeg = k
    · by_cases yt : (t.to_ m).toNatClampNeg = k
      · rw [yf, yt]
      · rw [yf, a2, a1 _ yt]
        have hu2 : un s.1 t.fr m := by show s.1 _ = -1; rw [yf]; exact hu
        have ht2 : ¬ un s.1 t.to_ m := fun z => ht (by show s2.1 _ = -1; rw [a1 _ yt]; exact z)
        exact ((r4 m hm ⟨hth2, fun w => ht2 (w.mp hu2)⟩).1 hu2).symm
    · by_cases yt : (t.to_ m).toNatClampNeg = k
      · rw [yt, a2, a1 _ yf]
        have hu2 : un s.1 t.to_ m := by show s.1 _ = -1; rw [yt]; exact hu
        have hf2 : ¬ un s.1 t.fr m := fun z => hf (by show s2.1 _ = -1; rw [a1 _ yf]; exact z)
        exact (r4 m hm ⟨hth2, fun w => hf2 (w.mpr hu2)⟩).2 hf2
      · rw [a1 _ yf, a1 _ yt]
        exact x1 m hm hth2 (fun z => hf (by show s2.1 _ = -1; rw [a1 _ yf]; exact z)) (fun z => ht (by show s2.1 _ = -1; rw [a1 _ yt]; exact z))
  · by_cases y : j = k
    · subst y
      rw [a2] at hjq
      have h5 := x2 c hc e q he hq hjq
      have h6 := hc l hl hth
      rcases hke with ⟨z1, z2⟩ | ⟨z1, z2⟩
      · rw [z1, h6, ← z2]; exact h5
      · rw [z1, ← h6, ← z2]; exact h5
    · rw [a1 j y] at hjq
      exact x2 c hc j q hj hq hjq
  · by_cases y : j = k
    · subst y
      rw [a2] at hjq
      exact Nat.le_of_lt (x4 j e q hj he hq hu hjq)
    · rw [a1 j y] at hjq
      exact x3 j q hj hq hjq
  · have yj : ¬ j = k := fun z => by rw [z, a2] at hju; exact hv hju
    rw [a1 j yj] at hju
    by_cases y : e' = k
    · rw [y, a2] at heq
      exact x4 j e q hj he hq hju heq
    · rw [a1 _ y] at heq
      exact x4 j e' q hj he' hq hju heq
theorem X_lay (I : tOK t) {l : Nat} (hl : l < t.nL) (h : RSs t S s) (hp : moP t s.1 l) (X : XRt t s) : XRt t (moL t l s) := by
  obtain ⟨⟨-, -, -, r4, -⟩, K, -⟩ := h
  obtain ⟨f, g⟩ := un7 I l
  have q := r4 l hl hp
  by_cases hb : un s.1 t.fr l
  · have hv : ¬ un s.1 t.to_ l := fun z => hp.2 ⟨fun _ => z, fun _ => hb⟩
    exact X_upd I hl f g hp.1 (Or.inl ⟨rfl, rfl⟩) hb hv K (fun m hm hpm => by rw [q.1 hb]; exact r4 m hm hpm) (by rw [show moL t l s = _ from if_pos hb]) X
  · have hv : un s.1 t.to_ l := Decidable.of_not_not fun z => hp.2 ⟨fun y => absurd y hb, fun y => absurd y z⟩
    exact X_upd I hl g f hp.1 (Or.inr ⟨rfl, rfl⟩) hv hb K (fun m hm hpm => by rw [q.2 hb]; exact r4 m hm hpm) (by rw [show moL t l s = _ from if_neg hb]) X
theorem X_new (I : tOK t) {p : Nat} (hp : p < 7) (e : moF t s.1 = -1) (hlt : ∀ j, j < p → ¬ s.1 j = -1) (hpu : s.1 p = -1) (X : XRt t s) : XRt t (moN p s) := by
  obtain ⟨x1, x2, x3, x4⟩ := X
  have hno := fun l (hl : l < t.nL) => ffind_neg (k := 0) (by have := I.hL; omega) e l (by omega) (by omega)
  have a1 : ∀ j, ¬ j = p → (moN p s).1 j = s.1 j := fun j hj => if_neg hj
  have a2 : (moN p s).1 p = nI p := if_pos rfl
  refine ⟨fun m hm hth2 hf ht => ?_, fun c hc j q hj hq hjq => ?_, fun j q hj hq hjq => ?_, fun j e' q hj he' hq hju heq => ?_⟩
  · by_cases yf : (t.fr m).toNatClampNeg = p
    · by_cases yt : (t.to_ m).toNatClampNeg = p
      · rw [yf, yt]
      · have hu2 : un s.1 t.fr m := by show s.1 _ = -1; rw [yf]; exact hpu
        have ht2 : ¬ un s.1 t.to_ m := fun z => ht (by show (moN p s).1 _ = -1; rw [a1 _ yt]; exact z)
        exact absurd ⟨hth2, fun w => ht2 (w.mp hu2)⟩ (hno m hm)
    · by_cases yt : (t.to_ m).toNatClampNeg = p
      · have hu2 : un s.1 t.to_ m := by show s.1 _ = -1; rw [yt]; exact hpu
        have hf2 : ¬ un s.1 t.fr m := fun z => hf (by show (moN p s).1 _ = -1; rw [a1 _ yf]; exact z)
        exact absurd ⟨hth2, fun w => hf2 (w.mpr hu2)⟩ (hno m hm)
      · rw [a1 _ yf, a1 _ yt]
        exact x1 m hm hth2 (fun z => hf (by show (moN p s).1 _ = -1; rw [a1 _ yf]; exact z)) (fun z => ht (by show (moN p s).1 _ = -1; rw [a1 _ yt]; exact z))
  · by_cases y : j = p
    · subst y
      rw [a2] at hjq
      rw [nI_ij hjq (by omega) (by omega)]
    · rw [a1 j y] at hjq
      exact x2 c hc j q hj hq hjq
  · by_cases y : j = p
    · subst y
      rw [a2] at hjq
      exact Nat.le_of_eq (nI_ij hjq (by omega) (by omega)).symm
    · rw [a1 j y] at hjq
      exact x3 j q hj hq hjq
  · have yj : ¬ j = p := fun z => by rw [z, a2] at hju; exact nI_ne1 (by omega) hju
    rw [a1 j yj] at hju
    have hpj : p < j := Nat.lt_of_not_le fun z => hlt j (by omega) hju
    by_cases y : e' = p
    · rw [y, a2] at heq
      have := nI_ij heq (by omega) (by omega)
      omega
    · rw [a1 _ y] at heq
      exact x4 j e' q hj he' hq hju heq
theorem X_spI (I : tOK t) (J : tIn t) (f : Nat) (h : ∃ S, RSs t S s) (X : XRt t s) : XRt t (spI t f s) := by
  have := spI_inv (P := fun s => (∃ S, RSs t S s) ∧ XRt t s) I (fun l s hl e hp h => by
    obtain ⟨⟨S, hS⟩, hX⟩ := h
    exact ⟨⟨_, sim_lay I J hl hS e hp⟩, X_lay I hl hS hp hX⟩) f s ⟨h, X⟩
  exact this.2
theorem X_lo (I : tOK t) (J : tIn t) : ∀ (r p : Nat) (S : TrS) (s : MS), p + r = t.nP → RLo t p S s → XRt t s → XRt t (iterN (loG t True) r p s)
  | 0, _, _, _, _, _, X => X
  | r + 1, p, S, s, hp, h, X => by
    obtain ⟨k, h1, -⟩ := loG_run I J (by omega : p < t.nP) h
    simp only [iterN]
    refine X_lo I J r (p + 1) _ _ (by omega) h1 ?_
    obtain ⟨g1, g2, g3⟩ := h
    have hP := I.hP
    by_cases hu : s.1 p = -1
    · rw [show loG t True p s = spI t 7 (moN p s) from if_neg (fun z => z.elim (fun y => y hu) (fun y => y.2 trivial))]
      exact X_spI I J 7 ⟨_, sim_new I (by omega) g1 g2 g3 hu⟩ (X_new I (by omega) g2 g3 hu X)
    · rw [show loG t True p s = s from if_pos (Or.inl hu)]; exact X
theorem X_all (I : tOK t) (J : tIn t) (s : MS) : XRt t (lmF t True s) := by
  have hu : ∀ j, j < 7 → fil 7 (-1) s.1 j = -1 := fun j hj => if_pos hj
  refine X_lo I J t.nP 0 _ _ (by omega) (RLo_0 (s := s) I) ⟨fun l _ _ hf _ => absurd (hu _ (un7 I l).1) hf, fun c _ j q hj hq h => ?_, fun j q hj hq h => ?_, fun j e q hj he hq _ h => ?_⟩
  · exact absurd ((hu j hj).symm.trans h).symm (nI_ne1 (by omega))
  · exact absurd ((hu j hj).symm.trans h).symm (nI_ne1 (by omega))
  · exact absurd ((hu e he).symm.trans h).symm (nI_ne1 (by omega))
end CONN
/-- the parts of a town: po, with their roots -/
def PAR (t : TW) (po : Nat → Int32) : Prop := (∀ j, j < t.nP → ∃ q, q < t.nP ∧ po j = nI q ∧ po q = nI q ∧ q ≤ j) ∧ eqL t po ∧ ∀ c, eqL t c → ∀ j q, j < t.nP → q < t.nP → po j = nI q → c j = c q
theorem par_M {t : TW} (I : tOK t) (J : tIn t) : PAR t (tPo t).1 ∧ nI (tPo t).2.2.2.2.1 = nI (cnP (tPo t).1 t.nP) := by
  have hP := I.hP
  have h := lm_all I J (fun _ => 0, fun _ => 0, fun _ => 0)
  have X := X_all I J (fun _ => 0, fun _ => 0, fun _ => 0)
  generalize lmF t True (fun _ => 0, fun _ => 0, fun _ => 0) = s at h X
  obtain ⟨m1, m2, -, K, m5, -⟩ := h
  obtain ⟨x1, x2, x3, -⟩ := X
  have hl : ∀ j, j < t.nP → ¬ s.1 j = -1 := fun j hj z => by have := (m2 j (by omega)).mp z; omega
  refine ⟨⟨fun j hj => ?_, fun l hl2 hth => ?_, fun c hc j q hj hq h => ?_⟩, ?_⟩
  · obtain ⟨q, h1, h2, h3⟩ := K j (by omega) (hl j hj)
    have hq : q < t.nP := Nat.lt_of_not_le fun z => by have := (m2 q h1).mpr z; rw [h3] at this; exact nI_ne1 (by omega) this
    exact ⟨q, hq, by rw [← m1 j (by omega)]; exact h2, by rw [← m1 q h1]; exact h3, x3 j q (by omega) h1 h2⟩
  · obtain ⟨f, g⟩ := frP I J hl2
    rw [← m1 _ (by omega), ← m1 _ (by omega)]
    exact x1 l hl2 hth (hl _ f) (hl _ g)
  · exact x2 c hc j q (by omega) (by omega) (by rw [m1 j (by omega)]; exact h)
  · have e1 : cnP (tPo t).1 t.nP = cnP s.1 t.nP := by
      have : ∀ n, n ≤ 7 → cnP (tPo t).1 n = cnP s.1 n := by
        intro n
        induction n with
        | zero => intro _; rfl
        | succ n ih => intro hn; simp only [cnP]; rw [ih (by omega), m1 n (by omega)]
      exact this t.nP hP
    rw [e1, m5, cnP_lo (pb := s.1) (m := t.nP) 7 hP (fun j a b z => by rw [(m2 j b).mpr a] at z; exact nI_ne1 (by omega) z.symm)]
