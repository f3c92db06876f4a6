/-! ===== DAYS: what holds of them, their cells, how they are lived ===== -/
def opn (k : Int32) : Prop := k = 6 ∨ k = 8 ∨ k = 9 ∨ k = 10 ∨ k = 11 ∨ k = 12 ∨ k = 13
def legK (f : Int32) : Prop := ∃ l, l < 12 ∧ f = nI l
/-- a row in the reference's cells, from p on -/
def ROW (nW : Nat) (a : Nat → Int32) (p : Nat) (k f s : Int32) : Prop :=
  (k = 0 ∧ a p = 11 ∧ legK f ∧ a (p + 1) = f) ∨ (k = 1 ∧ a p = 12 ∧ legK f ∧ a (p + 1) = f) ∨ (k = 2 ∧ a p = 13 ∧ legK f ∧ a (p + 1) = f) ∨
  (k = 3 ∧ a p = 14 ∧ a (p + 1) = f ∧ a (p + 2) = s ∧ inR f (nI nW) ∧ inR s 24) ∨ (k = 4 ∧ a p = 15) ∨ (k = 5 ∧ a p = 19) ∨
  (k = 6 ∧ a p = 17 ∧ (∃ n, 1 ≤ n ∧ n ≤ 99 ∧ f = nI n) ∧ a (p + 1) = f ∧ a (p + 4) = s) ∨ (k = 7 ∧ a p = 18 ∧ a (p + 4) = s) ∨
  (k = 8 ∧ a p = 1620 ∧ a (p + 1) = f ∧ a (p + 4) = s) ∨ (k = 9 ∧ a p = 1621 ∧ a (p + 4) = s) ∨ (k = 10 ∧ a p = 1622 ∧ legK f ∧ a (p + 1) = f ∧ a (p + 4) = s) ∨
  (k = 11 ∧ a p = 1623 ∧ a (p + 2) = f ∧ a (p + 5) = 60 ∧ a (p + 4) = s) ∨ (k = 12 ∧ a p = 1623 ∧ a (p + 2) = f ∧ a (p + 5) = 62 ∧ a (p + 4) = s) ∨ (k = 13 ∧ a p = 1623 ∧ a (p + 2) = f ∧ a (p + 5) = 61 ∧ a (p + 4) = s)
theorem ROW_fr {nW : Nat} {a b : Nat → Int32} {p : Nat} {k f s : Int32} (e : ∀ j, p ≤ j → j < p + 6 → b j = a j) (h : ROW nW a p k f s) : ROW nW b p k f s := by
  unfold ROW at *
  rw [e p (by omega) (by omega), e (p + 1) (by omega) (by omega), e (p + 2) (by omega) (by omega), e (p + 4) (by omega) (by omega), e (p + 5) (by omega) (by omega)]
  exact h
/-- beginnings and ends -/
def WFD (D : DW) : Prop := (∀ r, r < D.nR → opn (D.dk r) → ∃ e, r < e ∧ e < D.nR ∧ D.ds r = nI e ∧ D.dk e = 7 ∧ D.ds e = nI r) ∧ (∀ r, r < D.nR → D.dk r = 7 → ∃ b, b < r ∧ D.ds r = nI b ∧ opn (D.dk b) ∧ D.ds b = nI r) ∧ ∀ b b2 e e2, b < b2 → b2 < e → e < D.nR → opn (D.dk b) → opn (D.dk b2) → D.ds b = nI e → D.ds b2 = nI e2 → e2 < D.nR → e2 < e
def vD (nW : Nat) (a : Nat → Int32) (D : DW) : Prop := a 7 = (if D.dth = 0 then -1 else nI D.nR) ∧ (¬ D.dth = 0 → D.nR ≤ 60 ∧ (∀ r, r < D.nR → ROW nW a (82 + 6 * r) (D.dk r) (D.df r) (D.ds r)) ∧ WFD D)
theorem vD_fr {nW : Nat} {a b : Nat → Int32} {D : DW} (h : vD nW a D) (e : frA a b) : vD nW b D := by
  refine ⟨by rw [e 7 (Or.inl rfl)]; exact h.1, fun hd => ?_⟩
  obtain ⟨h1, h2, h3⟩ := h.2 hd
  exact ⟨h1, fun r hr => ROW_fr (fun j hj _ => e j (Or.inr (by omega))) (h2 r hr), h3⟩
/-- loops that are open: the class's rounds are one more than the reference's -/
def ACT (D : DW) (p : Nat) (lro lo : Nat → Int32) : Prop := ∀ b e, b < D.nR → D.dk b = 6 → e < D.nR → D.ds b = nI e → b < p → p ≤ e → ∃ m, m ≤ 98 ∧ lo b = nI m ∧ lro b = nI (m + 1)
def bg (D : DW) (p : Nat) : Nat := (D.ds p).toNatClampNeg
/-- behind ends that are come to -/
def er (D : DW) : Nat → Nat → (Nat → Int32) → Nat × (Nat → Int32)
  | 0, p, lo => (p, lo)
  | n + 1, p, lo => if p < D.nR ∧ D.dk p = 7 then (if D.dk (bg D p) = 6 ∧ 0 < lo (bg D p) then er D n (bg D p + 1) (upd lo (bg D p) (lo (bg D p) - 1)) else er D n (p + 1) lo) else (p, lo)
def erD (D : DW) (n p : Nat) (lo : Nat → Int32) : Prop := ¬ ((er D n p lo).1 < D.nR ∧ D.dk (er D n p lo).1 = 7)
def mu (D : DW) (p : Nat) (lo : Nat → Int32) : Nat := (D.nR - p) + if 0 < p ∧ D.dk (p - 1) = 6 ∧ D.dk p = 7 then (lo (p - 1)).toNatClampNeg else 0
def setL (s : LSt) (l : Nat → Int32) : LSt := (s.1, s.2.1, s.2.2.1, s.2.2.2.1, s.2.2.2.2.1, l, s.2.2.2.2.2.2)
abbrev rnT (t : TW) (D : DW) (f : Nat) (row st : Int32) (s : LSt) : Int32 × LSt := rnF t.te t.fr t.to_ t.ea t.no t.nL t.nP t.nW t.od D.dk D.df D.ds D.nR f row st s
abbrev bsT (t : TW) (D : DW) (r : Nat) (s : LSt) : Int32 × LSt := bsF t.te t.fr t.to_ t.ea t.no t.nL t.nP t.nW t.od D.dk D.df D.ds (nI D.nR) r s
theorem er_no {D : DW} {p : Nat} {lo : Nat → Int32} (h : ¬ (p < D.nR ∧ D.dk p = 7)) : ∀ n, er D n p lo = (p, lo)
  | 0 => rfl
  | _ + 1 => if_neg h
theorem opn_n7 {k : Int32} (h : opn k) : ¬ k = 7 := by
  rintro rfl
  unfold opn at h
  revert h
  decide
theorem rn_end {t : TW} {D : DW} {f p : Nat} {st : Int32} {s : LSt} (hp : p < D.nR) (hn : D.nR ≤ 60) (h7 : D.dk p = 7) : rnT t D (f + 1) (nI p) st s = rnT t D f (beF D.dk D.ds p s).1 st (beF D.dk D.ds p s).2 := by
  have ec : (nI p).toNatClampNeg = p := nI_clamp (by omega)
  show (if inR (nI p) (nI D.nR) then _ else _) = _
  rw [if_pos (inR_N hp (by omega)), ec, if_pos h7]
theorem ER {t : TW} {D : DW} (hn : D.nR ≤ 60) (W : WFD D) : ∀ (n p : Nat) (lo lro : Nat → Int32), mu D p lo ≤ n → p ≤ D.nR → ACT D p lro lo → erD D n p lo ∧ (er D n p lo).1 ≤ D.nR ∧ ∃ c lro2, c ≤ n ∧ ACT D (er D n p lo).1 lro2 (er D n p lo).2 ∧ ∀ f st s, rnT t D (f + c) (nI p) st (setL s lro) = rnT t D f (nI (er D n p lo).1) st (setL s lro2) := by
  obtain ⟨W1, W2, W3⟩ := W
  intro n
  have stop : ∀ (n p : Nat) (lo lro : Nat → Int32), ¬ (p < D.nR ∧ D.dk p = 7) → p ≤ D.nR → ACT D p lro lo → erD D n p lo ∧ (er D n p lo).1 ≤ D.nR ∧ ∃ c lro2, c ≤ n ∧ ACT D (er D n p lo).1 lro2 (er D n p lo).2 ∧ ∀ f st s, rnT t D (f + c) (nI p) st (setL s lro) = rnT t D f (nI (er D n p lo).1) st (setL s lro2) := by
    intro n p lo lro h hp hA
    unfold erD
    rw [er_no h n]
    exact ⟨h, hp, 0, lro, Nat.zero_le _, hA, fun f st s => rfl⟩
  induction n with
  | zero =>
    intro p lo lro hm hp hA
    refine stop 0 p lo lro (fun z => ?_) hp hA
    unfold mu at hm
    have := z.1
    omega
  | succ n ih =>
    intro p lo lro hm hp hA
    by_cases c : p < D.nR ∧ D.dk p = 7
    · obtain ⟨b, hb, e1, e2, e3⟩ := W2 p c.1 c.2
      have ebg : bg D p = b := by unfold bg; rw [e1]; exact nI_clamp (by omega)
      have eer : er D (n + 1) p lo = if D.dk b = 6 ∧ 0 < lo b then er D n (b + 1) (upd lo b (lo b - 1)) else er D n (p + 1) lo := by
        show (if p < D.nR ∧ D.dk p = 7 then _ else _) = _
        rw [if_pos c, ebg]
      have hmu : mu D (p + 1) lo ≤ n := by
        have e0 : mu D (p + 1) lo = D.nR - (p + 1) := by
          unfold mu
          rw [if_neg (fun z => by have := z.2.1; rw [show p + 1 - 1 = p by omega, c.2] at this; exact absurd this (by decide)), Nat.add_zero]
        have := c.1
        unfold mu at hm
        omega
      have hcls : ∀ f st s lro, rnT t D (f + 1) (nI p) st (setL s lro) = rnT t D f (if D.dk b = 6 ∧ 0 < lro b - 1 then nI (b + 1) else nI (p + 1)) st (setL s (if D.dk b = 6 then upd lro b (lro b - 1) else lro)) := by
        intro f st s lro
        rw [rn_end c.1 hn c.2]
        have e4 : beF D.dk D.ds p (setL s lro) = (if D.dk b = 6 ∧ 0 < lro b - 1 then nI (b + 1) else nI (p + 1), setL s (if D.dk b = 6 then upd lro b (lro b - 1) else lro)) := by
          unfold beF
          have : (D.ds p).toNatClampNeg = b := ebg
          rw [this, e1, nI_1]
          rfl
        rw [e4]
      have hexit : ∀ lro3 : Nat → Int32, (∀ j, ¬ j = b → lro3 j = lro j) → ACT D (p + 1) lro3 lo := by
        intro lro3 h3 b2 e hb2 hk he hds hlt hle
        have hne : ¬ b2 = p := fun z => by rw [z, c.2] at hk; exact absurd hk (by decide)
        have hne2 : ¬ b2 = b := fun z => by
          rw [z, e3] at hds
          have := nI_ij hds (by omega) (by omega)
          omega
        obtain ⟨m, m1, m2, m3⟩ := hA b2 e hb2 hk he hds (by omega) (by omega)
        exact ⟨m, m1, m2, by rw [h3 b2 hne2]; exact m3⟩
      by_cases k6 : D.dk b = 6
      · obtain ⟨m, m1, m2, m3⟩ := hA b p (by omega) k6 c.1 e3 hb (Nat.le_refl p)
        have ec : lro b - 1 = nI m := by rw [m3]; exact nI_pred m
        by_cases hm0 : 0 < m
        · have g1 : 0 < lo b := by rw [m2]; exact (nI_ltI (a := 0) (by omega) (by omega)).mpr hm0
          have g2 : 0 < lro b - 1 := by rw [ec]; exact (nI_ltI (a := 0) (by omega) (by omega)).mpr hm0
          have el : lo b - 1 = nI (m - 1) := by rw [m2, show nI m = nI (m - 1 + 1) from by congr 1; omega]; exact nI_pred _
          rw [eer, if_pos ⟨k6, g1⟩]
          unfold erD
          rw [eer, if_pos ⟨k6, g1⟩]
          have hA2 : ACT D (b + 1) (upd lro b (lro b - 1)) (upd lo b (lo b - 1)) := by
            intro b2 e hb2 hk he hds hlt hle
            by_cases z : b2 = b
            · rw [z, upd_at, upd_at]
              exact ⟨m - 1, by omega, el, by rw [ec]; congr 1; omega⟩
            · rw [upd_ne z, upd_ne z]
              have hpe := W3 b2 b e p (by omega) (by omega) he (Or.inl hk) (Or.inl k6) hds e3 c.1
              exact hA b2 e hb2 hk he hds (by omega) (by omega)
          have fin : ∀ {q : Nat × (Nat → Int32)} {k : Nat}, (∃ c lro2, c ≤ k ∧ ACT D q.1 lro2 q.2 ∧ ∀ f st s, rnT t D (f + c) (nI (b + 1)) st (setL s (upd lro b (lro b - 1))) = rnT t D f (nI q.1) st (setL s lro2)) → ∃ c lro2, c ≤ k + 1 ∧ ACT D q.1 lro2 q.2 ∧ ∀ f st s, rnT t D (f + c) (nI p) st (setL s lro) = rnT t D f (nI q.1) st (setL s lro2) := by
            rintro q k ⟨c, lro2, h1, h2, h3⟩
            refine ⟨c + 1, lro2, by omega, h2, fun f st s => ?_⟩
            rw [show f + (c + 1) = f + c + 1 by omega, hcls, if_pos ⟨k6, g2⟩, if_pos k6]
            exact h3 f st s
          by_cases hbp : b + 1 = p
          · have hmu2 : mu D (b + 1) (upd lo b (lo b - 1)) ≤ n := by
              unfold mu at hm ⊢
              rw [hbp]
              have hpb : p - 1 = b := by omega
              rw [if_pos ⟨by omega, by rw [hpb]; exact k6, c.2⟩, hpb] at hm ⊢
              rw [upd_at, el, nI_clamp (by omega)]
              rw [m2, nI_clamp (by omega)] at hm
              omega
            obtain ⟨i1, i2, i3⟩ := ih (b + 1) (upd lo b (lo b - 1)) (upd lro b (lro b - 1)) hmu2 (by omega) hA2
            exact ⟨i1, i2, fin i3⟩
          · have hno : ¬ (b + 1 < D.nR ∧ D.dk (b + 1) = 7) := by
              rintro ⟨z1, z2⟩
              obtain ⟨b3, y1, y2, y3, y4⟩ := W2 (b + 1) z1 z2
              have hb3 : ¬ b3 = b := fun q => by
                rw [q, e3] at y4
                have := nI_ij y4 (by omega) (by omega)
                omega
              have := W3 b3 b (b + 1) p (by omega) (by omega) z1 y3 (Or.inl k6) y4 e3 c.1
              omega
            obtain ⟨i1, i2, i3⟩ := stop n (b + 1) (upd lo b (lo b - 1)) (upd lro b (lro b - 1)) hno (by omega) hA2
            exact ⟨i1, i2, fin i3⟩
        · have hm1 : m = 0 := by omega
          subst hm1
          have g1 : ¬ 0 < lo b := by rw [m2]; decide
          have g2 : ¬ 0 < lro b - 1 := by rw [ec]; decide
          rw [eer, if_neg (fun z => g1 z.2)]
          unfold erD
          rw [eer, if_neg (fun z => g1 z.2)]
          obtain ⟨i1, i2, cc, lro2, j1, j2, j3⟩ := ih (p + 1) lo (upd lro b (lro b - 1)) hmu (by have := c.1; omega) (hexit _ (fun j hj => upd_ne hj))
          refine ⟨i1, i2, cc + 1, lro2, by omega, j2, fun f st s => ?_⟩
          rw [show f + (cc + 1) = f + cc + 1 by omega, hcls, if_neg (fun z => g2 z.2), if_pos k6]
          exact j3 f st s
      · rw [eer, if_neg (fun z => k6 z.1)]
        unfold erD
        rw [eer, if_neg (fun z => k6 z.1)]
        obtain ⟨i1, i2, cc, lro2, j1, j2, j3⟩ := ih (p + 1) lo lro hmu (by have := c.1; omega) (hexit lro (fun j hj => rfl))
        refine ⟨i1, i2, cc + 1, lro2, by omega, j2, fun f st s => ?_⟩
        rw [show f + (cc + 1) = f + cc + 1 by omega, hcls, if_neg (fun z => k6 z.1), if_neg k6]
        exact j3 f st s
    · exact stop (n + 1) p lo lro c hp hA
theorem mu_le {D : DW} (hn : D.nR ≤ 60) {p : Nat} {lro lo : Nat → Int32} (hp : p ≤ D.nR) (W : WFD D) (hA : ACT D p lro lo) : mu D p lo ≤ 160 := by
  unfold mu
  by_cases c : 0 < p ∧ D.dk (p - 1) = 6 ∧ D.dk p = 7
  · rw [if_pos c]
    rcases Nat.lt_or_ge p D.nR with z | z
    · obtain ⟨e, h1, h2, h3, h4, h5⟩ := W.1 (p - 1) (by omega) (Or.inl c.2.1)
      obtain ⟨m, m1, m2, -⟩ := hA (p - 1) e (by omega) c.2.1 h2 h3 (by omega) (by omega)
      rw [m2, nI_clamp (by omega)]; omega
    · by_cases y : (lo (p - 1)).toNatClampNeg ≤ 100
      · omega
      · exfalso
        obtain ⟨e, h1, h2, h3, h4, h5⟩ := W.1 (p - 1) (by omega) (Or.inl c.2.1)
        omega
  · rw [if_neg c]; omega
theorem ACT_n {D : DW} {p : Nat} {lro lo : Nat → Int32} (hA : ACT D p lro lo) (h : ¬ D.dk p = 6) : ACT D (p + 1) lro lo := by
  intro b e hb hk he hds hlt hle
  have : ¬ b = p := fun z => h (by rw [← z]; exact hk)
  exact hA b e hb hk he hds (by omega) (by omega)
theorem ACT_l {D : DW} {p n : Nat} {lro lo : Nat → Int32} {f : Int32} (hA : ACT D p lro lo) (h1 : 1 ≤ n) (h2 : n ≤ 99) (hf : f = nI n) : ACT D (p + 1) (upd lro p f) (upd lo p (f - 1)) := by
  intro b e hb hk he hds hlt hle
  by_cases z : b = p
  · rw [z, upd_at, upd_at]
    refine ⟨n - 1, by omega, ?_, ?_⟩
    · rw [hf, show nI n = nI (n - 1 + 1) from by congr 1; omega]; exact nI_pred _
    · rw [hf]; congr 1; omega
  · rw [upd_ne z, upd_ne z]
    exact hA b e hb hk he hds (by omega) (by omega)
theorem ACT_e {D : DW} {p e0 : Nat} {lro lo : Nat → Int32} (hn : D.nR ≤ 60) (W : WFD D) (hA : ACT D p lro lo) (ho : opn (D.dk p)) (hds0 : D.ds p = nI e0) (hp0 : p < e0) (he0 : e0 < D.nR) : ACT D (e0 + 1) lro lo := by
  intro b e hb hk he hds hlt hle
  have hbp : ¬ b = p := fun z => by
    rw [z, hds0] at hds
    have := nI_ij hds (by omega) (by omega)
    omega
  rcases Nat.lt_or_ge b p with z | z
  · exact hA b e hb hk he hds z (by omega)
  · have hbe : ¬ b = e0 := fun y => by
      obtain ⟨e9, g1, g2, g3, g4, g5⟩ := W.1 p (by omega) ho
      have : e9 = e0 := by rw [hds0] at g3; exact (nI_ij g3 (by omega) (by omega)).symm
      rw [y, ← this, g4] at hk
      exact absurd hk (by decide)
    have := W.2.2 p b e0 e (by omega) (by omega) he0 ho (Or.inl hk) hds0 hds he
    omega
/-! steps -/
theorem cnt_1 {ran lco : Nat → Int32} (h : ∀ j, j < 5 → ran j = lco j) {w : Nat} (h1 : 1 ≤ w) (h5 : w < 5) : ∀ j, j < 5 → upd (upd ran w (ran w + 1)) 0 (ran 0 + 0) j = ctS lco (nI w) j := by
  intro j hj
  have ec : (nI w).toNatClampNeg = w := nI_clamp (by omega)
  unfold ctS
  rw [ec]
  by_cases z : j = 0
  · subst z
    rw [upd_at, upd_ne (by omega), Int32.add_zero, h 0 (by omega)]
  · rw [upd_ne z]
    by_cases y : j = w
    · subst y; rw [upd_at, upd_at, h j hj]
    · rw [upd_ne y, upd_ne y, h j hj]
theorem cnt_0 {ran lco : Nat → Int32} (h : ∀ j, j < 5 → ran j = lco j) : ∀ j, j < 5 → upd ran 0 (ran 0 + 1) j = ctS lco 0 j := by
  intro j hj
  unfold ctS
  show upd ran 0 (ran 0 + 1) j = upd lco 0 (lco 0 + 1) j
  by_cases z : j = 0
  · subst z; rw [upd_at, upd_at, h 0 (by omega)]
  · rw [upd_ne z, upd_ne z, h j hj]
theorem cnt_n {ran lco : Nat → Int32} (h : ∀ j, j < 5 → ran j = lco j) : ∀ j, j < 5 → upd ran 0 (ran 0 + 0) j = lco j := by
  intro j hj
  by_cases z : j = 0
  · subst z; rw [upd_at, Int32.add_zero, h 0 (by omega)]
  · rw [upd_ne z, h j hj]
/-- what a step does besides where it leads -/
def stD (t : TW) (k f c : Int32) (s : LSt) : LSt := if k = 0 then stGo t.fr t.to_ t.ea t.no t.te t.nL f s else if k = 1 then stStr t.nL f s else if k = 2 then stRes t.nL f s else if k = 3 then stBel t.nW f c s else if k = 4 then stAny t.fr t.to_ t.ea t.no t.te t.nL t.od s else s
def okDr (s : Int32) : Prop := 0 ≤ s.toInt ∧ s.toInt < 65536
theorem dr_v {s : Int32} (h : okDr s) : (s * 3277 + 11505).toInt = s.toInt * 3277 + 11505 := by
  obtain ⟨a, b⟩ := h
  have k1 : (3277 : Int32).toInt = 3277 := rfl
  have k2 : (11505 : Int32).toInt = 11505 := rfl
  rw [Int32.toInt_add, Int32.toInt_mul, k1, k2, show (s.toInt * 3277).bmod (2 ^ 32) = s.toInt * 3277 from by apply Int.bmod_eq_of_le <;> omega]
  apply Int.bmod_eq_of_le <;> omega
theorem rest32 {a b : Int32} (ha : 0 ≤ a.toInt) (hb : 0 < b.toInt) : (a - a / b * b).toInt = a.toInt % b.toInt := by
  have h1 := a.toInt_lt
  have h2 := b.toInt_lt
  have hq0 : 0 ≤ a.toInt / b.toInt := Int.ediv_nonneg ha (Int.le_of_lt hb)
  have hq1 : a.toInt / b.toInt ≤ a.toInt := Int.ediv_le_self _ ha
  have hm := Int.mul_ediv_add_emod a.toInt b.toInt
  have hr0 := Int.emod_nonneg a.toInt (by omega : b.toInt ≠ 0)
  have hr1 := Int.emod_lt_of_pos a.toInt hb
  have e1 : (a / b).toInt = a.toInt / b.toInt := by
    rw [Int32.toInt_div, Int.tdiv_eq_ediv_of_nonneg ha]
    apply Int.bmod_eq_of_le <;> omega
  have e2 : (a / b * b).toInt = b.toInt * (a.toInt / b.toInt) := by
    rw [Int32.toInt_mul, e1, Int.mul_comm]
    have h3 : 0 ≤ b.toInt * (a.toInt / b.toInt) := Int.mul_nonneg (Int.le_of_lt hb) hq0
    apply Int.bmod_eq_of_le <;> omega
  rw [Int32.toInt_sub, e2]
  have h3 : 0 ≤ b.toInt * (a.toInt / b.toInt) := Int.mul_nonneg (Int.le_of_lt hb) hq0
  have e3 : a.toInt - b.toInt * (a.toInt / b.toInt) = a.toInt % b.toInt := by omega
  rw [e3]
  apply Int.bmod_eq_of_le <;> omega
theorem drS_ok {s : Int32} (h : okDr s) : okDr (drS s) := by
  have k3 : (65536 : Int32).toInt = 65536 := rfl
  have hv := dr_v h
  have h2 := h
  unfold okDr at h2
  have hr := rest32 (a := s * 3277 + 11505) (b := 65536) (by omega) (by rw [k3]; omega)
  unfold drS okDr
  rw [hr, k3]
  exact ⟨Int.emod_nonneg _ (by omega), Int.emod_lt_of_pos _ (by omega)⟩
theorem drV_ok {s : Int32} (h : okDr s) {n : Nat} (h0 : 0 < n) (hn : n ≤ 16) : ∃ l, l < n ∧ drV s (nI n) = nI l := by
  have h1 := drS_ok h
  have k8 : (8 : Int32).toInt = 8 := rfl
  unfold okDr at h1
  have e1 : (drS s / 8).toInt = (drS s).toInt / 8 := by
    rw [Int32.toInt_div, k8, Int.tdiv_eq_ediv_of_nonneg h1.1]
    apply Int.bmod_eq_of_le <;> omega
  have hr := rest32 (a := drS s / 8) (b := nI n) (by rw [e1]; omega) (by rw [nI_toInt (by omega)]; omega)
  rw [e1, nI_toInt (by omega)] at hr
  have hb0 := Int.emod_nonneg ((drS s).toInt / 8) (by omega : (n : Int) ≠ 0)
  have hb1 := Int.emod_lt_of_pos ((drS s).toInt / 8) (show (0 : Int) < n by omega)
  refine ⟨((drS s).toInt / 8 % n).toNat, by omega, ?_⟩
  unfold drV
  rw [if_pos (show (0 : Int32) < nI n from (nI_ltI (a := 0) (by omega) (by omega)).mpr h0)]
  apply Int32.toInt_inj.mp
  rw [hr, nI_toInt (by omega)]
  omega
theorem vT_tCp {a : Nat → Int32} {o t : TW} (V : vT a o) (h2 : tOK t) : vT a (tCp o t) := by
  have hW := V.ok.hW
  have hL := V.ok.hL
  have cp : ∀ {f g : Nat → Int32} {n j : Nat}, j < n → va_cpy f g 0 0 n j = f j := fun {f g n j} hj => by
    unfold va_cpy; rw [if_pos (by omega), Nat.zero_add, Nat.sub_zero]
  have w4 : ∀ l, l < o.nL → (o.te l).toNatClampNeg < 4 := fun l hl => by
    have := inR_lt (V.in_.1 l hl).1 (by omega); omega
  refine ⟨V.1, fun w hw => ?_, fun l hl => ?_, tCp_OK V.ok h2, fun l hl => ?_, fun w hw => ?_, V.in_.2.2.1, V.in_.2.2.2.1, fun l hl => ?_⟩
  · have hw2 : w < o.nW := hw
    show _ = tB (va_cpy o.fa t.fa 0 0 4 w) ∧ _ = lB (va_cpy o.fa t.fa 0 0 4 w) ∧ _ = sB (va_cpy o.fa t.fa 0 0 4 w)
    rw [cp (by omega)]; exact V.wk hw2
  · have hl2 : l < o.nL := hl
    show _ = va_cpy o.te t.te 0 0 12 l ∧ _ = va_cpy o.fr t.fr 0 0 12 l ∧ _ = va_cpy o.to_ t.to_ 0 0 12 l ∧ _ = va_cpy o.ea t.ea 0 0 12 l ∧ _ = va_cpy o.no t.no 0 0 12 l
    rw [cp (by omega), cp (by omega), cp (by omega), cp (by omega), cp (by omega)]; exact V.leg hl2
  · have hl2 : l < o.nL := hl
    show inR (va_cpy o.te t.te 0 0 12 l) _ ∧ inR (va_cpy o.fr t.fr 0 0 12 l) _ ∧ inR (va_cpy o.to_ t.to_ 0 0 12 l) _ ∧ ¬ va_cpy o.fr t.fr 0 0 12 l = va_cpy o.to_ t.to_ 0 0 12 l
    rw [cp (by omega), cp (by omega), cp (by omega)]; exact V.in_.1 l hl2
  · have hw2 : w < o.nW := hw
    show inR (va_cpy o.fa t.fa 0 0 4 w) 24
    rw [cp (by omega)]; exact V.in_.2.1 w hw2
  · have hl2 : l < o.nL := hl
    show isPa (va_cpy o.ea t.ea 0 0 12 l) ∧ isPa (va_cpy o.no t.no 0 0 12 l)
    rw [cp (by omega), cp (by omega)]; exact V.in_.2.2.2.2 l hl2
/-- only legs that there are are struck -/
def SKo (t : TW) : Prop := ∀ k, k < 32 → hs t.sk (nI k) → k < t.nL
