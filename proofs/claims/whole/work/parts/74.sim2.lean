/-! ===== the class's chart and the reference's, 2 ===== -/
abbrev tiS (t : TW) (k : Nat) (S : TrS) : TrS := trI (tTh t) t.fr t.to_ t.nL t.nP k S
theorem trI_add {th : Int32} {fr to_ : Nat → Int32} {nL nP : Nat} : ∀ (a b : Nat) (S : TrS), trI th fr to_ nL nP (a + b) S = trI th fr to_ nL nP b (trI th fr to_ nL nP a S)
  | 0, b, S => by rw [Nat.zero_add]; rfl
  | a + 1, b, S => by
    rw [show a + 1 + b = (a + b) + 1 by omega]
    simp only [trI]
    exact trI_add a b _
theorem moL_laid {t : TW} {l : Nat} {s : MS} (hp : moP t s.1 l) {j : Nat} (h : ¬ s.1 j = -1) : (moL t l s).1 j = s.1 j := by
  by_cases hb : un s.1 t.fr l
  · rw [show moL t l s = _ from if_pos hb]
    exact if_neg (fun z => h (by rw [z]; exact hb))
  · have hv : un s.1 t.to_ l := Decidable.of_not_not fun z => hp.2 ⟨fun y => absurd y hb, fun y => absurd y z⟩
    rw [show moL t l s = _ from if_neg hb]
    exact if_neg (fun z => h (by rw [z]; exact hv))
theorem moL_pos {t : TW} {l : Nat} {s : MS} (hp : moP t s.1 l) {j : Nat} (h : ¬ s.1 j = -1) : (moL t l s).2.1 j = s.2.1 j ∧ (moL t l s).2.2 j = s.2.2 j := by
  by_cases hb : un s.1 t.fr l
  · rw [show moL t l s = _ from if_pos hb]
    exact ⟨if_neg (fun z => h (by rw [z]; exact hb)), if_neg (fun z => h (by rw [z]; exact hb))⟩
  · have hv : un s.1 t.to_ l := Decidable.of_not_not fun z => hp.2 ⟨fun y => absurd y hb, fun y => absurd y z⟩
    rw [show moL t l s = _ from if_neg hb]
    exact ⟨if_neg (fun z => h (by rw [z]; exact hv)), if_neg (fun z => h (by rw [z]; exact hv))⟩
/-- a property of charts that every leg keeps is kept by them all -/
theorem spI_inv {t : TW} (I : tOK t) {P : MS → Prop} (hP : ∀ l s, l < t.nL → moF t s.1 = nI l → moP t s.1 l → P s → P (moL t l s)) : ∀ (f : Nat) (s : MS), P s → P (spI t f s)
  | 0, s, h => h
  | f + 1, s, h => by
    by_cases e : moF t s.1 = -1
    · rw [show spI t (f + 1) s = s from if_pos e]; exact h
    · obtain ⟨l, hl, e1, e2, hp⟩ := moF_ex I e
      rw [show spI t (f + 1) s = spI t f (moL t (moF t s.1).toNatClampNeg s) from if_neg e, e2]
      exact spI_inv I hP f _ (hP l s hl e1 hp h)
theorem spI_run {t : TW} (I : tOK t) (J : tIn t) : ∀ (f : Nat) (S : TrS) (s : MS), RSs t S s → ∃ k, RSs t (tiS t k S) (spI t f s) ∧ cnU (spI t f s).1 7 + k = cnU s.1 7
  | 0, S, s, h => ⟨0, h, rfl⟩
  | f + 1, S, s, h => by
    by_cases e : moF t s.1 = -1
    · rw [show spI t (f + 1) s = s from if_pos e]; exact ⟨0, h, rfl⟩
    · obtain ⟨l, hl, e1, e2, hp⟩ := moF_ex I e
      rw [show spI t (f + 1) s = spI t f (moL t (moF t s.1).toNatClampNeg s) from if_neg e, e2]
      obtain ⟨k, h1, h2⟩ := spI_run I J f _ _ (sim_lay I J hl h e1 hp)
      have h3 := moL_cn I hp
      exact ⟨k + 1, h1, by omega⟩
/-- between two places of the reference's loop -/
def RLo (t : TW) (p : Nat) (S : TrS) (s : MS) : Prop := RSs t S s ∧ moF t s.1 = -1 ∧ ∀ j, j < p → ¬ s.1 j = -1
theorem loG_run {t : TW} (I : tOK t) (J : tIn t) {p : Nat} (hp : p < t.nP) {S : TrS} {s : MS} (h : RLo t p S s) : ∃ k, RLo t (p + 1) (tiS t k S) (loG t True p s) ∧ cnU (loG t True p s).1 7 + k = cnU s.1 7 := by
  obtain ⟨h1, h2, h3⟩ := h
  have hP := I.hP
  by_cases hu : s.1 p = -1
  · have e : loG t True p s = spI t 7 (moN p s) := if_neg (fun z => z.elim (fun y => y hu) (fun y => y.2 trivial))
    rw [e]
    have hn := sim_new I hp h1 h2 h3 hu
    obtain ⟨k, k1, k2⟩ := spI_run I J 7 _ _ hn
    have hc : cnU (moN p s).1 7 + 1 = cnU s.1 7 := cnU_upd hu (nI_ne1 (by omega)) 7 (by omega)
    refine ⟨k + 1, ⟨k1, spD_of I 7 _ (cnU_le 7), fun j hj => ?_⟩, by omega⟩
    have hj2 : ¬ (moN p s).1 j = -1 := by
      show ¬ upd s.1 p (nI p) j = -1
      unfold upd
      split
      · exact nI_ne1 (by omega)
      · exact h3 j (by omega)
    exact spI_inv (P := fun s => ¬ s.1 j = -1) I (fun l s _ _ hpl h => by rw [moL_laid hpl h]; exact h) 7 _ hj2
  · have e : loG t True p s = s := if_pos (Or.inl hu)
    rw [e]
    refine ⟨0, ⟨h1, h2, fun j hj => ?_⟩, rfl⟩
    by_cases y : j = p
    · rw [y]; exact hu
    · exact h3 j (by omega)
theorem loI_run {t : TW} (I : tOK t) (J : tIn t) : ∀ (r p : Nat) (S : TrS) (s : MS), p + r = t.nP → RLo t p S s → ∃ k, RLo t t.nP (tiS t k S) (iterN (loG t True) r p s) ∧ cnU (iterN (loG t True) r p s).1 7 + k = cnU s.1 7
  | 0, p, S, s, hp, h => ⟨0, by rw [← hp]; exact h, rfl⟩
  | r + 1, p, S, s, hp, h => by
    obtain ⟨k, h1, h2⟩ := loG_run I J (by omega : p < t.nP) h
    obtain ⟨k', h3, h4⟩ := loI_run I J r (p + 1) _ _ (by omega) h1
    refine ⟨k + k', ?_, ?_⟩
    · show RLo t t.nP (trI _ _ _ _ _ (k + k') S) _
      rw [trI_add]; exact h3
    · simp only [iterN]; omega
theorem cnU_cnt {pb : Nat → Int32} {m : Nat} : ∀ (n : Nat), (∀ j, j < n → (pb j = -1 ↔ m ≤ j)) → cnU pb n = n - m
  | 0, _ => by simp [cnU]
  | n + 1, h => by
    simp only [cnU]
    rw [cnU_cnt n (fun j hj => h j (by omega))]
    have := h n (by omega)
    by_cases y : m ≤ n
    · rw [if_pos (this.mpr y)]; omega
    · rw [if_neg (fun z => y (this.mp z))]; omega
theorem RLo_0 {t : TW} (I : tOK t) {s : MS} : RLo t 0 (tr0 (fun _ => -1) (fun _ => 0) (fun _ => 0)) (fil 7 (-1) s.1, s.2.1, s.2.2) := by
  have hu : ∀ j, j < 7 → fil 7 (-1) s.1 j = -1 := fun j hj => if_pos hj
  have hno : ∀ l, ¬ moP t (fil 7 (-1) s.1) l := by
    intro l z
    have f1 : (t.fr l).toNatClampNeg < 7 := Nat.not_le.mp fun q => I.fr l (Or.inr q)
    have t1 : (t.to_ l).toNatClampNeg < 7 := Nat.not_le.mp fun q => I.to_ l (Or.inr q)
    exact z.2 ⟨fun _ => hu _ t1, fun _ => hu _ f1⟩
  have hc0 : ∀ n, n ≤ 7 → cnP (fil 7 (-1) s.1) n = 0 := by
    intro n
    induction n with
    | zero => intro _; rfl
    | succ n ih =>
      intro h
      simp only [cnP]
      rw [ih (by omega), hu n (by omega), if_neg (fun z => nI_ne1 (n := n) (by omega) z.symm)]
  refine ⟨⟨⟨fun j hj => ?_, fun j hj h => absurd (hu j hj) h, fun j hj _ => ⟨rfl, rfl⟩, fun l _ h => absurd h (hno l), fun j hj h => absurd (hu j hj) h⟩, fun j hj h => absurd (hu j hj) h, (hc0 7 (by omega)).symm⟩, ffind_no (fun j _ _ => hno j), fun j hj => absurd hj (Nat.not_lt_zero j)⟩
  show (if j < 7 then (-1 : Int32) else -1) = fil 7 (-1) s.1 j
  rw [if_pos hj, hu j hj]
/-- all parts laid out: the class's chart -/
def chM (t : TW) (s : MS) : Prop := (∀ j, j < 7 → s.1 j = (tPo t).1 j) ∧ (∀ j, j < 7 → (s.1 j = -1 ↔ t.nP ≤ j)) ∧ (∀ j, j < t.nP → s.2.1 j = tX t j ∧ s.2.2 j = tY t j) ∧ KRt s ∧ (tPo t).2.2.2.2.1 = cnP s.1 7 ∧ moF t s.1 = -1
theorem lm_all {t : TW} (I : tOK t) (J : tIn t) (s : MS) : chM t (lmF t True s) := by
  have hP := I.hP
  obtain ⟨k, ⟨⟨⟨r1, r2, r3, r4, r5⟩, hK, hc7⟩, h2, h3⟩, h4⟩ := loI_run I J t.nP 0 _ _ (by omega) (RLo_0 (s := s) I)
  have hl : ∀ j, j < 7 → ((lmF t True s).1 j = -1 ↔ t.nP ≤ j) := fun j hj => ⟨fun z => Nat.not_lt.mp fun y => h3 j y z, fun z => Decidable.of_not_not fun y => by have := r5 j hj y; omega⟩
  have hc : cnU (fil 7 (-1) s.1) 7 = 7 - 0 := cnU_cnt 7 (fun j hj => ⟨fun _ => Nat.zero_le _, fun _ => if_pos hj⟩)
  have hk : k = t.nP := by
    have e := cnU_cnt (pb := (lmF t True s).1) 7 hl
    have h5 : cnU (lmF t True s).1 7 + k = cnU (fil 7 (-1) s.1) 7 := h4
    omega
  subst hk
  refine ⟨fun j hj => (r1 j hj).symm, hl, fun j hj => ?_, hK, hc7, h2⟩
  have := r2 j (by omega) (h3 j hj)
  exact ⟨this.1.symm, this.2.symm⟩
/-- what hangs on place 0 alone -/
def chO (t : TW) (s : MS) : Prop := (∀ j, j < 7 → s.1 j = if tLp t j then 0 else -1) ∧ (∀ j, j < 7 → tLp t j → j < t.nP ∧ s.2.1 j = tX t j ∧ s.2.2 j = tY t j) ∧ moF t s.1 = -1
theorem skip_F {t : TW} : ∀ (r p : Nat) (s : MS), 0 < p → iterN (loG t False) r p s = s
  | 0, _, _, _ => rfl
  | r + 1, p, s, h => by
    simp only [iterN]
    rw [show loG t False p s = s from if_pos (Or.inr ⟨h, fun z => z⟩)]
    exact skip_F r (p + 1) s (by omega)
/-- later parts leave the first one as it is, and bear other numbers -/
def ZF (t : TW) (a s : MS) : Prop := ∀ j, j < 7 → (¬ a.1 j = -1 → s.1 j = a.1 j ∧ s.2.1 j = a.2.1 j ∧ s.2.2 j = a.2.2 j) ∧ (a.1 j = -1 → ¬ s.1 j = 0)
theorem ZF_lay {t : TW} (I : tOK t) {a s : MS} (ha : moF t a.1 = -1) {l : Nat} (hl : l < t.nL) (hp : moP t s.1 l) (h : ZF t a s) : ZF t a (moL t l s) := by
  have f1 : (t.fr l).toNatClampNeg < 7 := Nat.not_le.mp fun q => I.fr l (Or.inr q)
  have t1 : (t.to_ l).toNatClampNeg < 7 := Nat.not_le.mp fun q => I.to_ l (Or.inr q)
  have hno := ffind_neg (k := 0) (by have := I.hL; omega) ha l (by omega) (by omega)
  have hx : ∀ j, j < 7 → s.1 j = -1 → a.1 j = -1 := fun j hj z => Decidable.of_not_not fun y => y (by rw [← ((h j hj).1 y).1]; exact z)
  intro j hj
  refine ⟨fun y => ?_, fun y => ?_⟩
  · obtain ⟨z1, z2, z3⟩ := (h j hj).1 y
    have hs : ¬ s.1 j = -1 := by rw [z1]; exact y
    obtain ⟨p1, p2⟩ := moL_pos hp hs
    rw [moL_laid hp hs, p1, p2]
    exact ⟨z1, z2, z3⟩
  · by_cases hs : s.1 j = -1
    · by_cases hb : un s.1 t.fr l
      · have hv : ¬ un s.1 t.to_ l := fun z => hp.2 ⟨fun _ => z, fun _ => hb⟩
        rw [show moL t l s = _ from if_pos hb]
        show ¬ upd s.1 _ _ j = 0
        unfold upd
        split
        · have w : a.1 (t.to_ l).toNatClampNeg = -1 := Decidable.of_not_not fun z => hno ⟨hp.1, fun q => z (q.mp (hx _ f1 hb))⟩
          exact (h _ t1).2 w
        · exact (h j hj).2 y
      · have hv : un s.1 t.to_ l := Decidable.of_not_not fun z => hp.2 ⟨fun y => absurd y hb, fun y => absurd y z⟩
        rw [show moL t l s = _ from if_neg hb]
        show ¬ upd s.1 _ _ j = 0
        unfold upd
        split
        · have w : a.1 (t.fr l).toNatClampNeg = -1 := Decidable.of_not_not fun z => hno ⟨hp.1, fun q => z (q.mpr (hx _ t1 hv))⟩
          exact (h _ f1).2 w
        · exact (h j hj).2 y
    · rw [moL_laid hp hs]; exact (h j hj).2 y
theorem ZF_lo {t : TW} (I : tOK t) {a : MS} (ha : moF t a.1 = -1) : ∀ (r p : Nat) (s : MS), 0 < p → p + r = t.nP → ZF t a s → ZF t a (iterN (loG t True) r p s)
  | 0, _, _, _, _, h => h
  | r + 1, p, s, hp, hr, h => by
    have hP := I.hP
    simp only [iterN]
    refine ZF_lo I ha r (p + 1) _ (by omega) (by omega) ?_
    unfold loG
    split
    · exact h
    · rename_i hc
      have hu : s.1 p = -1 := Decidable.of_not_not fun z => hc (Or.inl z)
      refine spI_inv (P := ZF t a) I (fun l s hl _ hpl hz => ZF_lay I ha hl hpl hz) 7 _ ?_
      intro j hj
      by_cases y : j = p
      · subst y
        have w : a.1 j = -1 := Decidable.of_not_not fun z => z (by rw [← ((h j hj).1 z).1]; exact hu)
        refine ⟨fun z => absurd w z, fun _ => ?_⟩
        show ¬ upd s.1 j (nI j) j = 0
        rw [show upd s.1 j (nI j) j = nI j from if_pos rfl]
        intro z
        have := nI_inj0 z (by omega)
        omega
      · show (_ → upd s.1 p _ j = _ ∧ upd s.2.1 p 0 j = _ ∧ upd s.2.2 p 0 j = _) ∧ (_ → ¬ upd s.1 p _ j = 0)
        rw [show upd s.1 p (nI p) j = s.1 j from if_neg y, show upd s.2.1 p 0 j = s.2.1 j from if_neg y, show upd s.2.2 p 0 j = s.2.2 j from if_neg y]
        exact h j hj
theorem lm_0 {t : TW} (I : tOK t) (J : tIn t) (s : MS) : chO t (lmF t False s) := by
  have hP := I.hP
  obtain ⟨m1, m2, m3, -⟩ := lm_all I J s
  by_cases h0 : t.nP = 0
  · have e : lmF t False s = (fil 7 (-1) s.1, s.2.1, s.2.2) := by unfold lmF; rw [h0]; rfl
    have e2 : lmF t True s = (fil 7 (-1) s.1, s.2.1, s.2.2) := by unfold lmF; rw [h0]; rfl
    have hn : ∀ j, j < 7 → ¬ tLp t j := by
      intro j hj z
      have := m1 j hj
      rw [e2, z] at this
      have w : fil 7 (-1) s.1 j = -1 := if_pos hj
      exact absurd (w.symm.trans this) (by decide)
    exact ⟨fun j hj => by rw [if_neg (hn j hj), e]; exact if_pos hj, fun j hj z => absurd z (hn j hj), by rw [e]; exact (RLo_0 (s := s) I).2.1⟩
  · obtain ⟨n, hn⟩ : ∃ n, t.nP = n + 1 := ⟨t.nP - 1, by omega⟩
    have g0 : ∀ (all : Prop) [Decidable all], loG t all 0 (fil 7 (-1) s.1, s.2.1, s.2.2) = spI t 7 (moN 0 (fil 7 (-1) s.1, s.2.1, s.2.2)) := fun all _ => if_neg (fun z => z.elim (fun y => y (show fil 7 (-1) s.1 0 = -1 from if_pos (by omega))) (fun y => absurd y.1 (by omega)))
    have eF : lmF t False s = spI t 7 (moN 0 (fil 7 (-1) s.1, s.2.1, s.2.2)) := by
      unfold lmF; rw [hn]; simp only [iterN]; rw [skip_F n 1 _ (by omega), g0]
    have eT : lmF t True s = iterN (loG t True) n 1 (lmF t False s) := by
      rw [eF]; unfold lmF; rw [hn]; simp only [iterN]; rw [g0]
    obtain ⟨k, ⟨⟨⟨-, -, -, -, r5⟩, -⟩, hsat, -⟩, -⟩ := loG_run I J (p := 0) (by omega) (RLo_0 (s := s) I)
    rw [g0, ← eF] at r5 hsat
    have hz : ∀ j, j < 7 → ((lmF t False s).1 j = -1 ∨ (lmF t False s).1 j = 0) := by
      rw [eF]
      refine spI_inv (P := fun s => ∀ j, j < 7 → (s.1 j = -1 ∨ s.1 j = 0)) I (fun l s hl _ hp h => ?_) 7 _ ?_
      · have f1 : (t.fr l).toNatClampNeg < 7 := Nat.not_le.mp fun q => I.fr l (Or.inr q)
        have t1 : (t.to_ l).toNatClampNeg < 7 := Nat.not_le.mp fun q => I.to_ l (Or.inr q)
        intro j hj
        unfold moL
        split
        · show upd s.1 _ _ j = -1 ∨ upd s.1 _ _ j = 0
          unfold upd
          split
          · exact h _ t1
          · exact h j hj
        · show upd s.1 _ _ j = -1 ∨ upd s.1 _ _ j = 0
          unfold upd
          split
          · exact h _ f1
          · exact h j hj
      · intro j hj
        show upd (fil 7 (-1) s.1) 0 (nI 0) j = -1 ∨ upd (fil 7 (-1) s.1) 0 (nI 0) j = 0
        unfold upd
        split
        · exact Or.inr rfl
        · exact Or.inl (if_pos hj)
    have hZ : ZF t (lmF t False s) (lmF t True s) := by
      rw [eT]
      exact ZF_lo I hsat n 1 _ (by omega) (by omega) (fun j hj => ⟨fun _ => ⟨rfl, rfl, rfl⟩, fun z => by rw [z]; decide⟩)
    have hiff : ∀ j, j < 7 → (tLp t j ↔ ¬ (lmF t False s).1 j = -1) := by
      intro j hj
      constructor
      · intro z y
        exact (hZ j hj).2 y (by rw [m1 j hj]; exact z)
      · intro y
        show (tPo t).1 j = 0
        rw [← m1 j hj, ((hZ j hj).1 y).1]
        exact (hz j hj).resolve_left y
    refine ⟨fun j hj => ?_, fun j hj z => ?_, hsat⟩
    · by_cases y : tLp t j
      · rw [if_pos y]; exact (hz j hj).resolve_left ((hiff j hj).mp y)
      · rw [if_neg y]; exact Decidable.of_not_not fun w => y ((hiff j hj).mpr w)
    · have y := (hiff j hj).mp z
      have hjP := r5 j hj y
      obtain ⟨w1, w2, w3⟩ := (hZ j hj).1 y
      rw [← w2, ← w3]
      exact ⟨hjP, m3 j hjP⟩
