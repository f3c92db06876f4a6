/-! ===== the reference: steps of DAYS ===== -/
theorem sw_o11 {x : Int32} (h0 : ¬ x = 11) (h1 : ¬ x = 12) (h2 : ¬ x = 13) (h3 : ¬ x = 14) (h4 : ¬ x = 15) : x < 11 ∨ 15 < x := by
  by_cases a : x < 11
  · exact Or.inl a
  · by_cases b : 15 < x
    · exact Or.inr b
    · exfalso
      have a2 := Int32.le_iff_toInt_le.mp (Int32.not_lt.mp a)
      have b2 := Int32.le_iff_toInt_le.mp (Int32.not_lt.mp b)
      have k1 : (11 : Int32).toInt = 11 := rfl
      have k2 : (15 : Int32).toInt = 15 := rfl
      have e : x.toInt = 11 ∨ x.toInt = 12 ∨ x.toInt = 13 ∨ x.toInt = 14 ∨ x.toInt = 15 := by omega
      rcases e with e | e | e | e | e
      · exact h0 (Int32.toInt_inj.mp e)
      · exact h1 (Int32.toInt_inj.mp e)
      · exact h2 (Int32.toInt_inj.mp e)
      · exact h3 (Int32.toInt_inj.mp e)
      · exact h4 (Int32.toInt_inj.mp e)
theorem sw_o20 {x : Int32} (h0 : ¬ x = 20) (h1 : ¬ x = 21) (h2 : ¬ x = 22) : x < 20 ∨ 22 < x := by
  by_cases a : x < 20
  · exact Or.inl a
  · by_cases b : 22 < x
    · exact Or.inr b
    · exfalso
      have a2 := Int32.le_iff_toInt_le.mp (Int32.not_lt.mp a)
      have b2 := Int32.le_iff_toInt_le.mp (Int32.not_lt.mp b)
      have k1 : (20 : Int32).toInt = 20 := rfl
      have k2 : (22 : Int32).toInt = 22 := rfl
      have e : x.toInt = 20 ∨ x.toInt = 21 ∨ x.toInt = 22 := by omega
      rcases e with e | e | e
      · exact h0 (Int32.toInt_inj.mp e)
      · exact h1 (Int32.toInt_inj.mp e)
      · exact h2 (Int32.toInt_inj.mp e)
theorem ROW_11 {nW p : Nat} {a : Nat → Int32} {k f s : Int32} (h : ROW nW a p k f s) (e : a p = 11) : k = 0 ∧ legK f ∧ a (p + 1) = f := by
  rcases h with ⟨h0, h1, h2, h3⟩ | ⟨h0, h1, h2, h3⟩ | ⟨h0, h1, h2, h3⟩ | ⟨h0, h1, h2, h3, h4, h5⟩ | ⟨h0, h1⟩ | ⟨h0, h1⟩ | ⟨h0, h1, h2, h3, h4⟩ | ⟨h0, h1, h2⟩ | ⟨h0, h1, h2, h3⟩ | ⟨h0, h1, h2⟩ | ⟨h0, h1, h2, h3, h4⟩ | ⟨h0, h1, h2, h3, h4⟩ | ⟨h0, h1, h2, h3, h4⟩ | ⟨h0, h1, h2, h3, h4⟩
  · exact ⟨h0, h2, h3⟩
  · exact absurd (h1.symm.trans e) (by decide)
  · exact absurd (h1.symm.trans e) (by decide)
  · exact absurd (h1.symm.trans e) (by decide)
  · exact absurd (h1.symm.trans e) (by decide)
  · exact absurd (h1.symm.trans e) (by decide)
  · exact absurd (h1.symm.trans e) (by decide)
  · exact absurd (h1.symm.trans e) (by decide)
  · exact absurd (h1.symm.trans e) (by decide)
  · exact absurd (h1.symm.trans e) (by decide)
  · exact absurd (h1.symm.trans e) (by decide)
  · exact absurd (h1.symm.trans e) (by decide)
  · exact absurd (h1.symm.trans e) (by decide)
  · exact absurd (h1.symm.trans e) (by decide)
theorem ROW_12 {nW p : Nat} {a : Nat → Int32} {k f s : Int32} (h : ROW nW a p k f s) (e : a p = 12) : k = 1 ∧ legK f ∧ a (p + 1) = f := by
  rcases h with ⟨h0, h1, h2, h3⟩ | ⟨h0, h1, h2, h3⟩ | ⟨h0, h1, h2, h3⟩ | ⟨h0, h1, h2, h3, h4, h5⟩ | ⟨h0, h1⟩ | ⟨h0, h1⟩ | ⟨h0, h1, h2, h3, h4⟩ | ⟨h0, h1, h2⟩ | ⟨h0, h1, h2, h3⟩ | ⟨h0, h1, h2⟩ | ⟨h0, h1, h2, h3, h4⟩ | ⟨h0, h1, h2, h3, h4⟩ | ⟨h0, h1, h2, h3, h4⟩ | ⟨h0, h1, h2, h3, h4⟩
  · exact absurd (h1.symm.trans e) (by decide)
  · exact ⟨h0, h2, h3⟩
  · exact absurd (h1.symm.trans e) (by decide)
  · exact absurd (h1.symm.trans e) (by decide)
  · exact absurd (h1.symm.trans e) (by decide)
  · exact absurd (h1.symm.trans e) (by decide)
  · exact absurd (h1.symm.trans e) (by decide)
  · exact absurd (h1.symm.trans e) (by decide)
  · exact absurd (h1.symm.trans e) (by decide)
  · exact absurd (h1.symm.trans e) (by decide)
  · exact absurd (h1.symm.trans e) (by decide)
  · exact absurd (h1.symm.trans e) (by decide)
  · exact absurd (h1.symm.trans e) (by decide)
  · exact absurd (h1.symm.trans e) (by decide)
theorem ROW_13 {nW p : Nat} {a : Nat → Int32} {k f s : Int32} (h : ROW nW a p k f s) (e : a p = 13) : k = 2 ∧ legK f ∧ a (p + 1) = f := by
  rcases h with ⟨h0, h1, h2, h3⟩ | ⟨h0, h1, h2, h3⟩ | ⟨h0, h1, h2, h3⟩ | ⟨h0, h1, h2, h3, h4, h5⟩ | ⟨h0, h1⟩ | ⟨h0, h1⟩ | ⟨h0, h1, h2, h3, h4⟩ | ⟨h0, h1, h2⟩ | ⟨h0, h1, h2, h3⟩ | ⟨h0, h1, h2⟩ | ⟨h0, h1, h2, h3, h4⟩ | ⟨h0, h1, h2, h3, h4⟩ | ⟨h0, h1, h2, h3, h4⟩ | ⟨h0, h1, h2, h3, h4⟩
  · exact absurd (h1.symm.trans e) (by decide)
  · exact absurd (h1.symm.trans e) (by decide)
  · exact ⟨h0, h2, h3⟩
  · exact absurd (h1.symm.trans e) (by decide)
  · exact absurd (h1.symm.trans e) (by decide)
  · exact absurd (h1.symm.trans e) (by decide)
  · exact absurd (h1.symm.trans e) (by decide)
  · exact absurd (h1.symm.trans e) (by decide)
  · exact absurd (h1.symm.trans e) (by decide)
  · exact absurd (h1.symm.trans e) (by decide)
  · exact absurd (h1.symm.trans e) (by decide)
  · exact absurd (h1.symm.trans e) (by decide)
  · exact absurd (h1.symm.trans e) (by decide)
  · exact absurd (h1.symm.trans e) (by decide)
theorem ROW_14 {nW p : Nat} {a : Nat → Int32} {k f s : Int32} (h : ROW nW a p k f s) (e : a p = 14) : k = 3 ∧ a (p + 1) = f ∧ a (p + 2) = s ∧ inR f (nI nW) ∧ inR s 24 := by
  rcases h with ⟨h0, h1, h2, h3⟩ | ⟨h0, h1, h2, h3⟩ | ⟨h0, h1, h2, h3⟩ | ⟨h0, h1, h2, h3, h4, h5⟩ | ⟨h0, h1⟩ | ⟨h0, h1⟩ | ⟨h0, h1, h2, h3, h4⟩ | ⟨h0, h1, h2⟩ | ⟨h0, h1, h2, h3⟩ | ⟨h0, h1, h2⟩ | ⟨h0, h1, h2, h3, h4⟩ | ⟨h0, h1, h2, h3, h4⟩ | ⟨h0, h1, h2, h3, h4⟩ | ⟨h0, h1, h2, h3, h4⟩
  · exact absurd (h1.symm.trans e) (by decide)
  · exact absurd (h1.symm.trans e) (by decide)
  · exact absurd (h1.symm.trans e) (by decide)
  · exact ⟨h0, h2, h3, h4, h5⟩
  · exact absurd (h1.symm.trans e) (by decide)
  · exact absurd (h1.symm.trans e) (by decide)
  · exact absurd (h1.symm.trans e) (by decide)
  · exact absurd (h1.symm.trans e) (by decide)
  · exact absurd (h1.symm.trans e) (by decide)
  · exact absurd (h1.symm.trans e) (by decide)
  · exact absurd (h1.symm.trans e) (by decide)
  · exact absurd (h1.symm.trans e) (by decide)
  · exact absurd (h1.symm.trans e) (by decide)
  · exact absurd (h1.symm.trans e) (by decide)
theorem ROW_15 {nW p : Nat} {a : Nat → Int32} {k f s : Int32} (h : ROW nW a p k f s) (e : a p = 15) : k = 4 := by
  rcases h with ⟨h0, h1, h2, h3⟩ | ⟨h0, h1, h2, h3⟩ | ⟨h0, h1, h2, h3⟩ | ⟨h0, h1, h2, h3, h4, h5⟩ | ⟨h0, h1⟩ | ⟨h0, h1⟩ | ⟨h0, h1, h2, h3, h4⟩ | ⟨h0, h1, h2⟩ | ⟨h0, h1, h2, h3⟩ | ⟨h0, h1, h2⟩ | ⟨h0, h1, h2, h3, h4⟩ | ⟨h0, h1, h2, h3, h4⟩ | ⟨h0, h1, h2, h3, h4⟩ | ⟨h0, h1, h2, h3, h4⟩
  · exact absurd (h1.symm.trans e) (by decide)
  · exact absurd (h1.symm.trans e) (by decide)
  · exact absurd (h1.symm.trans e) (by decide)
  · exact absurd (h1.symm.trans e) (by decide)
  · exact h0
  · exact absurd (h1.symm.trans e) (by decide)
  · exact absurd (h1.symm.trans e) (by decide)
  · exact absurd (h1.symm.trans e) (by decide)
  · exact absurd (h1.symm.trans e) (by decide)
  · exact absurd (h1.symm.trans e) (by decide)
  · exact absurd (h1.symm.trans e) (by decide)
  · exact absurd (h1.symm.trans e) (by decide)
  · exact absurd (h1.symm.trans e) (by decide)
  · exact absurd (h1.symm.trans e) (by decide)
theorem ROW_d {nW p : Nat} {a : Nat → Int32} {k f s : Int32} (h : ROW nW a p k f s) (e1 : ¬ a p = 11) (e2 : ¬ a p = 12) (e3 : ¬ a p = 13) (e4 : ¬ a p = 14) (e5 : ¬ a p = 15) : ¬ k = 0 ∧ ¬ k = 1 ∧ ¬ k = 2 ∧ ¬ k = 3 ∧ ¬ k = 4 := by
  rcases h with ⟨h0, h1, h2, h3⟩ | ⟨h0, h1, h2, h3⟩ | ⟨h0, h1, h2, h3⟩ | ⟨h0, h1, h2, h3, h4, h5⟩ | ⟨h0, h1⟩ | ⟨h0, h1⟩ | ⟨h0, h1, h2, h3, h4⟩ | ⟨h0, h1, h2⟩ | ⟨h0, h1, h2, h3⟩ | ⟨h0, h1, h2⟩ | ⟨h0, h1, h2, h3, h4⟩ | ⟨h0, h1, h2, h3, h4⟩ | ⟨h0, h1, h2, h3, h4⟩ | ⟨h0, h1, h2, h3, h4⟩
  · exact absurd h1 e1
  · exact absurd h1 e2
  · exact absurd h1 e3
  · exact absurd h1 e4
  · exact absurd h1 e5
  · rw [h0]; decide
  · rw [h0]; decide
  · rw [h0]; decide
  · rw [h0]; decide
  · rw [h0]; decide
  · rw [h0]; decide
  · rw [h0]; decide
  · rw [h0]; decide
  · rw [h0]; decide
theorem ROW_19 {nW p : Nat} {a : Nat → Int32} {k f s : Int32} (h : ROW nW a p k f s)  : a p = 19 ↔ k = 5 := by
  rcases h with ⟨h0, h1, h2, h3⟩ | ⟨h0, h1, h2, h3⟩ | ⟨h0, h1, h2, h3⟩ | ⟨h0, h1, h2, h3, h4, h5⟩ | ⟨h0, h1⟩ | ⟨h0, h1⟩ | ⟨h0, h1, h2, h3, h4⟩ | ⟨h0, h1, h2⟩ | ⟨h0, h1, h2, h3⟩ | ⟨h0, h1, h2⟩ | ⟨h0, h1, h2, h3, h4⟩ | ⟨h0, h1, h2, h3, h4⟩ | ⟨h0, h1, h2, h3, h4⟩ | ⟨h0, h1, h2, h3, h4⟩
  · rw [h0, h1]; decide
  · rw [h0, h1]; decide
  · rw [h0, h1]; decide
  · rw [h0, h1]; decide
  · rw [h0, h1]; decide
  · exact ⟨fun _ => h0, fun _ => h1⟩
  · rw [h0, h1]; decide
  · rw [h0, h1]; decide
  · rw [h0, h1]; decide
  · rw [h0, h1]; decide
  · rw [h0, h1]; decide
  · rw [h0, h1]; decide
  · rw [h0, h1]; decide
  · rw [h0, h1]; decide
theorem ROW_18 {nW p : Nat} {a : Nat → Int32} {k f s : Int32} (h : ROW nW a p k f s)  : a p = 18 ↔ k = 7 := by
  rcases h with ⟨h0, h1, h2, h3⟩ | ⟨h0, h1, h2, h3⟩ | ⟨h0, h1, h2, h3⟩ | ⟨h0, h1, h2, h3, h4, h5⟩ | ⟨h0, h1⟩ | ⟨h0, h1⟩ | ⟨h0, h1, h2, h3, h4⟩ | ⟨h0, h1, h2⟩ | ⟨h0, h1, h2, h3⟩ | ⟨h0, h1, h2⟩ | ⟨h0, h1, h2, h3, h4⟩ | ⟨h0, h1, h2, h3, h4⟩ | ⟨h0, h1, h2, h3, h4⟩ | ⟨h0, h1, h2, h3, h4⟩
  · rw [h0, h1]; decide
  · rw [h0, h1]; decide
  · rw [h0, h1]; decide
  · rw [h0, h1]; decide
  · rw [h0, h1]; decide
  · rw [h0, h1]; decide
  · rw [h0, h1]; decide
  · exact ⟨fun _ => h0, fun _ => h1⟩
  · rw [h0, h1]; decide
  · rw [h0, h1]; decide
  · rw [h0, h1]; decide
  · rw [h0, h1]; decide
  · rw [h0, h1]; decide
  · rw [h0, h1]; decide
theorem ROW_17 {nW p : Nat} {a : Nat → Int32} {k f s : Int32} (h : ROW nW a p k f s)  : a p = 17 ↔ k = 6 := by
  rcases h with ⟨h0, h1, h2, h3⟩ | ⟨h0, h1, h2, h3⟩ | ⟨h0, h1, h2, h3⟩ | ⟨h0, h1, h2, h3, h4, h5⟩ | ⟨h0, h1⟩ | ⟨h0, h1⟩ | ⟨h0, h1, h2, h3, h4⟩ | ⟨h0, h1, h2⟩ | ⟨h0, h1, h2, h3⟩ | ⟨h0, h1, h2⟩ | ⟨h0, h1, h2, h3, h4⟩ | ⟨h0, h1, h2, h3, h4⟩ | ⟨h0, h1, h2, h3, h4⟩ | ⟨h0, h1, h2, h3, h4⟩
  · rw [h0, h1]; decide
  · rw [h0, h1]; decide
  · rw [h0, h1]; decide
  · rw [h0, h1]; decide
  · rw [h0, h1]; decide
  · rw [h0, h1]; decide
  · exact ⟨fun _ => h0, fun _ => h1⟩
  · rw [h0, h1]; decide
  · rw [h0, h1]; decide
  · rw [h0, h1]; decide
  · rw [h0, h1]; decide
  · rw [h0, h1]; decide
  · rw [h0, h1]; decide
  · rw [h0, h1]; decide
theorem ROW_w {nW p : Nat} {a : Nat → Int32} {k f s : Int32} (h : ROW nW a p k f s)  : 1600 ≤ a p ↔ (opn k ∧ ¬ k = 6) := by
  rcases h with ⟨h0, h1, h2, h3⟩ | ⟨h0, h1, h2, h3⟩ | ⟨h0, h1, h2, h3⟩ | ⟨h0, h1, h2, h3, h4, h5⟩ | ⟨h0, h1⟩ | ⟨h0, h1⟩ | ⟨h0, h1, h2, h3, h4⟩ | ⟨h0, h1, h2⟩ | ⟨h0, h1, h2, h3⟩ | ⟨h0, h1, h2⟩ | ⟨h0, h1, h2, h3, h4⟩ | ⟨h0, h1, h2, h3, h4⟩ | ⟨h0, h1, h2, h3, h4⟩ | ⟨h0, h1, h2, h3, h4⟩
  · rw [h0, h1]; unfold opn; decide
  · rw [h0, h1]; unfold opn; decide
  · rw [h0, h1]; unfold opn; decide
  · rw [h0, h1]; unfold opn; decide
  · rw [h0, h1]; unfold opn; decide
  · rw [h0, h1]; unfold opn; decide
  · rw [h0, h1]; unfold opn; decide
  · rw [h0, h1]; unfold opn; decide
  · rw [h0, h1]; unfold opn; decide
  · rw [h0, h1]; unfold opn; decide
  · rw [h0, h1]; unfold opn; decide
  · rw [h0, h1]; unfold opn; decide
  · rw [h0, h1]; unfold opn; decide
  · rw [h0, h1]; unfold opn; decide
theorem ROW_17a {nW p : Nat} {a : Nat → Int32} {k f s : Int32} (h : ROW nW a p k f s) (e : k = 6) : (∃ n, 1 ≤ n ∧ n ≤ 99 ∧ f = nI n) ∧ a (p + 1) = f := by
  rcases h with ⟨h0, h1, h2, h3⟩ | ⟨h0, h1, h2, h3⟩ | ⟨h0, h1, h2, h3⟩ | ⟨h0, h1, h2, h3, h4, h5⟩ | ⟨h0, h1⟩ | ⟨h0, h1⟩ | ⟨h0, h1, h2, h3, h4⟩ | ⟨h0, h1, h2⟩ | ⟨h0, h1, h2, h3⟩ | ⟨h0, h1, h2⟩ | ⟨h0, h1, h2, h3, h4⟩ | ⟨h0, h1, h2, h3, h4⟩ | ⟨h0, h1, h2, h3, h4⟩ | ⟨h0, h1, h2, h3, h4⟩
  · exact absurd (h0.symm.trans e) (by decide)
  · exact absurd (h0.symm.trans e) (by decide)
  · exact absurd (h0.symm.trans e) (by decide)
  · exact absurd (h0.symm.trans e) (by decide)
  · exact absurd (h0.symm.trans e) (by decide)
  · exact absurd (h0.symm.trans e) (by decide)
  · exact ⟨h2, h3⟩
  · exact absurd (h0.symm.trans e) (by decide)
  · exact absurd (h0.symm.trans e) (by decide)
  · exact absurd (h0.symm.trans e) (by decide)
  · exact absurd (h0.symm.trans e) (by decide)
  · exact absurd (h0.symm.trans e) (by decide)
  · exact absurd (h0.symm.trans e) (by decide)
  · exact absurd (h0.symm.trans e) (by decide)
theorem ROW_4 {nW p : Nat} {a : Nat → Int32} {k f s : Int32} (h : ROW nW a p k f s) (e : k = 7 ∨ opn k) : a (p + 4) = s := by
  rcases h with ⟨h0, h1, h2, h3⟩ | ⟨h0, h1, h2, h3⟩ | ⟨h0, h1, h2, h3⟩ | ⟨h0, h1, h2, h3, h4, h5⟩ | ⟨h0, h1⟩ | ⟨h0, h1⟩ | ⟨h0, h1, h2, h3, h4⟩ | ⟨h0, h1, h2⟩ | ⟨h0, h1, h2, h3⟩ | ⟨h0, h1, h2⟩ | ⟨h0, h1, h2, h3, h4⟩ | ⟨h0, h1, h2, h3, h4⟩ | ⟨h0, h1, h2, h3, h4⟩ | ⟨h0, h1, h2, h3, h4⟩
  · rw [h0] at e; exact absurd e (by unfold opn; decide)
  · rw [h0] at e; exact absurd e (by unfold opn; decide)
  · rw [h0] at e; exact absurd e (by unfold opn; decide)
  · rw [h0] at e; exact absurd e (by unfold opn; decide)
  · rw [h0] at e; exact absurd e (by unfold opn; decide)
  · rw [h0] at e; exact absurd e (by unfold opn; decide)
  · exact h4
  · exact h2
  · exact h3
  · exact h2
  · exact h4
  · exact h4
  · exact h4
  · exact h4
theorem ROW_h20 {nW p : Nat} {a : Nat → Int32} {k f s : Int32} (h : ROW nW a p k f s) (w : 1600 ≤ a p) (e : a p - 1600 = 20) : k = 8 ∧ a (p + 1) = f := by
  rcases h with ⟨h0, h1, h2, h3⟩ | ⟨h0, h1, h2, h3⟩ | ⟨h0, h1, h2, h3⟩ | ⟨h0, h1, h2, h3, h4, h5⟩ | ⟨h0, h1⟩ | ⟨h0, h1⟩ | ⟨h0, h1, h2, h3, h4⟩ | ⟨h0, h1, h2⟩ | ⟨h0, h1, h2, h3⟩ | ⟨h0, h1, h2⟩ | ⟨h0, h1, h2, h3, h4⟩ | ⟨h0, h1, h2, h3, h4⟩ | ⟨h0, h1, h2, h3, h4⟩ | ⟨h0, h1, h2, h3, h4⟩
  · rw [h1] at w e; first | exact absurd w (by decide) | exact absurd e (by decide)
  · rw [h1] at w e; first | exact absurd w (by decide) | exact absurd e (by decide)
  · rw [h1] at w e; first | exact absurd w (by decide) | exact absurd e (by decide)
  · rw [h1] at w e; first | exact absurd w (by decide) | exact absurd e (by decide)
  · rw [h1] at w e; first | exact absurd w (by decide) | exact absurd e (by decide)
  · rw [h1] at w e; first | exact absurd w (by decide) | exact absurd e (by decide)
  · rw [h1] at w e; first | exact absurd w (by decide) | exact absurd e (by decide)
  · rw [h1] at w e; first | exact absurd w (by decide) | exact absurd e (by decide)
  · exact ⟨h0, h2⟩
  · rw [h1] at w e; first | exact absurd w (by decide) | exact absurd e (by decide)
  · rw [h1] at w e; first | exact absurd w (by decide) | exact absurd e (by decide)
  · rw [h1] at w e; first | exact absurd w (by decide) | exact absurd e (by decide)
  · rw [h1] at w e; first | exact absurd w (by decide) | exact absurd e (by decide)
  · rw [h1] at w e; first | exact absurd w (by decide) | exact absurd e (by decide)
theorem ROW_h21 {nW p : Nat} {a : Nat → Int32} {k f s : Int32} (h : ROW nW a p k f s) (w : 1600 ≤ a p) (e : a p - 1600 = 21) : k = 9 := by
  rcases h with ⟨h0, h1, h2, h3⟩ | ⟨h0, h1, h2, h3⟩ | ⟨h0, h1, h2, h3⟩ | ⟨h0, h1, h2, h3, h4, h5⟩ | ⟨h0, h1⟩ | ⟨h0, h1⟩ | ⟨h0, h1, h2, h3, h4⟩ | ⟨h0, h1, h2⟩ | ⟨h0, h1, h2, h3⟩ | ⟨h0, h1, h2⟩ | ⟨h0, h1, h2, h3, h4⟩ | ⟨h0, h1, h2, h3, h4⟩ | ⟨h0, h1, h2, h3, h4⟩ | ⟨h0, h1, h2, h3, h4⟩
  · rw [h1] at w e; first | exact absurd w (by decide) | exact absurd e (by decide)
  · rw [h1] at w e; first | exact absurd w (by decide) | exact absurd e (by decide)
  · rw [h1] at w e; first | exact absurd w (by decide) | exact absurd e (by decide)
  · rw [h1] at w e; first | exact absurd w (by decide) | exact absurd e (by decide)
  · rw [h1] at w e; first | exact absurd w (by decide) | exact absurd e (by decide)
  · rw [h1] at w e; first | exact absurd w (by decide) | exact absurd e (by decide)
  · rw [h1] at w e; first | exact absurd w (by decide) | exact absurd e (by decide)
  · rw [h1] at w e; first | exact absurd w (by decide) | exact absurd e (by decide)
  · rw [h1] at w e; first | exact absurd w (by decide) | exact absurd e (by decide)
  · exact h0
  · rw [h1] at w e; first | exact absurd w (by decide) | exact absurd e (by decide)
  · rw [h1] at w e; first | exact absurd w (by decide) | exact absurd e (by decide)
  · rw [h1] at w e; first | exact absurd w (by decide) | exact absurd e (by decide)
  · rw [h1] at w e; first | exact absurd w (by decide) | exact absurd e (by decide)
theorem ROW_h22 {nW p : Nat} {a : Nat → Int32} {k f s : Int32} (h : ROW nW a p k f s) (w : 1600 ≤ a p) (e : a p - 1600 = 22) : k = 10 ∧ a (p + 1) = f := by
  rcases h with ⟨h0, h1, h2, h3⟩ | ⟨h0, h1, h2, h3⟩ | ⟨h0, h1, h2, h3⟩ | ⟨h0, h1, h2, h3, h4, h5⟩ | ⟨h0, h1⟩ | ⟨h0, h1⟩ | ⟨h0, h1, h2, h3, h4⟩ | ⟨h0, h1, h2⟩ | ⟨h0, h1, h2, h3⟩ | ⟨h0, h1, h2⟩ | ⟨h0, h1, h2, h3, h4⟩ | ⟨h0, h1, h2, h3, h4⟩ | ⟨h0, h1, h2, h3, h4⟩ | ⟨h0, h1, h2, h3, h4⟩
  · rw [h1] at w e; first | exact absurd w (by decide) | exact absurd e (by decide)
  · rw [h1] at w e; first | exact absurd w (by decide) | exact absurd e (by decide)
  · rw [h1] at w e; first | exact absurd w (by decide) | exact absurd e (by decide)
  · rw [h1] at w e; first | exact absurd w (by decide) | exact absurd e (by decide)
  · rw [h1] at w e; first | exact absurd w (by decide) | exact absurd e (by decide)
  · rw [h1] at w e; first | exact absurd w (by decide) | exact absurd e (by decide)
  · rw [h1] at w e; first | exact absurd w (by decide) | exact absurd e (by decide)
  · rw [h1] at w e; first | exact absurd w (by decide) | exact absurd e (by decide)
  · rw [h1] at w e; first | exact absurd w (by decide) | exact absurd e (by decide)
  · rw [h1] at w e; first | exact absurd w (by decide) | exact absurd e (by decide)
  · exact ⟨h0, h3⟩
  · rw [h1] at w e; first | exact absurd w (by decide) | exact absurd e (by decide)
  · rw [h1] at w e; first | exact absurd w (by decide) | exact absurd e (by decide)
  · rw [h1] at w e; first | exact absurd w (by decide) | exact absurd e (by decide)
theorem ROW_hd {nW p : Nat} {a : Nat → Int32} {k f s : Int32} (h : ROW nW a p k f s) (w : 1600 ≤ a p) (e1 : ¬ a p - 1600 = 20) (e2 : ¬ a p - 1600 = 21) (e3 : ¬ a p - 1600 = 22) : (k = 11 ∧ a (p + 2) = f ∧ a (p + 5) = 60) ∨ (k = 12 ∧ a (p + 2) = f ∧ a (p + 5) = 62) ∨ (k = 13 ∧ a (p + 2) = f ∧ a (p + 5) = 61) := by
  rcases h with ⟨h0, h1, h2, h3⟩ | ⟨h0, h1, h2, h3⟩ | ⟨h0, h1, h2, h3⟩ | ⟨h0, h1, h2, h3, h4, h5⟩ | ⟨h0, h1⟩ | ⟨h0, h1⟩ | ⟨h0, h1, h2, h3, h4⟩ | ⟨h0, h1, h2⟩ | ⟨h0, h1, h2, h3⟩ | ⟨h0, h1, h2⟩ | ⟨h0, h1, h2, h3, h4⟩ | ⟨h0, h1, h2, h3, h4⟩ | ⟨h0, h1, h2, h3, h4⟩ | ⟨h0, h1, h2, h3, h4⟩
  · rw [h1] at w e1 e2 e3; first | exact absurd w (by decide) | exact absurd rfl e1 | exact absurd rfl e2 | exact absurd rfl e3 | exact absurd (by decide) e1 | exact absurd (by decide) e2 | exact absurd (by decide) e3
  · rw [h1] at w e1 e2 e3; first | exact absurd w (by decide) | exact absurd rfl e1 | exact absurd rfl e2 | exact absurd rfl e3 | exact absurd (by decide) e1 | exact absurd (by decide) e2 | exact absurd (by decide) e3
  · rw [h1] at w e1 e2 e3; first | exact absurd w (by decide) | exact absurd rfl e1 | exact absurd rfl e2 | exact absurd rfl e3 | exact absurd (by decide) e1 | exact absurd (by decide) e2 | exact absurd (by decide) e3
  · rw [h1] at w e1 e2 e3; first | exact absurd w (by decide) | exact absurd rfl e1 | exact absurd rfl e2 | exact absurd rfl e3 | exact absurd (by decide) e1 | exact absurd (by decide) e2 | exact absurd (by decide) e3
  · rw [h1] at w e1 e2 e3; first | exact absurd w (by decide) | exact absurd rfl e1 | exact absurd rfl e2 | exact absurd rfl e3 | exact absurd (by decide) e1 | exact absurd (by decide) e2 | exact absurd (by decide) e3
  · rw [h1] at w e1 e2 e3; first | exact absurd w (by decide) | exact absurd rfl e1 | exact absurd rfl e2 | exact absurd rfl e3 | exact absurd (by decide) e1 | exact absurd (by decide) e2 | exact absurd (by decide) e3
  · rw [h1] at w e1 e2 e3; first | exact absurd w (by decide) | exact absurd rfl e1 | exact absurd rfl e2 | exact absurd rfl e3 | exact absurd (by decide) e1 | exact absurd (by decide) e2 | exact absurd (by decide) e3
  · rw [h1] at w e1 e2 e3; first | exact absurd w (by decide) | exact absurd rfl e1 | exact absurd rfl e2 | exact absurd rfl e3 | exact absurd (by decide) e1 | exact absurd (by decide) e2 | exact absurd (by decide) e3
  · rw [h1] at w e1 e2 e3; first | exact absurd w (by decide) | exact absurd rfl e1 | exact absurd rfl e2 | exact absurd rfl e3 | exact absurd (by decide) e1 | exact absurd (by decide) e2 | exact absurd (by decide) e3
  · rw [h1] at w e1 e2 e3; first | exact absurd w (by decide) | exact absurd rfl e1 | exact absurd rfl e2 | exact absurd rfl e3 | exact absurd (by decide) e1 | exact absurd (by decide) e2 | exact absurd (by decide) e3
  · rw [h1] at w e1 e2 e3; first | exact absurd w (by decide) | exact absurd rfl e1 | exact absurd rfl e2 | exact absurd rfl e3 | exact absurd (by decide) e1 | exact absurd (by decide) e2 | exact absurd (by decide) e3
  · exact Or.inl ⟨h0, h2, h3⟩
  · exact Or.inr (Or.inl ⟨h0, h2, h3⟩)
  · exact Or.inr (Or.inr ⟨h0, h2, h3⟩)
def ST_ (t : TW) (a ran : Nat → Int32) (dr : Int32) (s : LSt) : Prop := vT a (tLt t s) ∧ (∀ j, j < 5 → ran j = s.2.2.2.2.1 j) ∧ dr = s.2.2.2.2.2.2 ∧ okDr dr ∧ SKo (tLt t s)
/-- what a step comes to -/
def DP (t : TW) (ma r0 : Nat → Int32) (s s2 : LSt) (a2 r2 : Nat → Int32) (dr2 d : Int32) : Prop := vT a2 (tLt t s2) ∧ frA ma a2 ∧ (∀ j, j < 5 → upd r2 0 (r2 0 + (if d = 0 then 1 else 0)) j = s2.2.2.2.2.1 j) ∧ r2 0 = r0 0 ∧ dr2 = s2.2.2.2.2.2.2 ∧ okDr dr2 ∧ SKo (tLt t s2) ∧ s2.2.2.2.2.2.1 = s.2.2.2.2.2.1 ∧ (d = 0 ∨ d = 1)
theorem stGo_1 {t : TW} {s : LSt} {k : Nat} (hk : k < 12) (h : canGo t.fr t.to_ (nI t.nL) s.2.1 s.2.2.1 (nI k)) : stGo t.fr t.to_ t.ea t.no t.te t.nL (nI k) s = (s.1, s.2.1, goD (tLt t s) (nI k), s.2.2.2.1 + yA t.ea t.no s.1 t.te k, ctS s.2.2.2.2.1 1, s.2.2.2.2.2) := by
  unfold stGo
  rw [if_pos h, if_pos h, bP_t h, if_neg (by decide), nI_clamp (by omega)]
  rfl
theorem stGo_0 {t : TW} {s : LSt} {k : Int32} (h : ¬ canGo t.fr t.to_ (nI t.nL) s.2.1 s.2.2.1 k) : stGo t.fr t.to_ t.ea t.no t.te t.nL k s = (s.1, s.2.1, s.2.2.1, s.2.2.2.1, ctS s.2.2.2.2.1 0, s.2.2.2.2.2) := by
  unfold stGo
  rw [if_neg h, if_neg h, bP_f h, if_pos rfl]
theorem stStr_1 {t : TW} {s : LSt} {k : Int32} (h : inR k (nI t.nL) ∧ ¬ hs s.2.1 k) : stStr t.nL k s = (s.1, s.2.1 ||| bit k, s.2.2.1, s.2.2.2.1, ctS s.2.2.2.2.1 2, s.2.2.2.2.2) := by
  unfold stStr
  rw [if_pos h, bP_t h, if_neg (by decide)]
theorem stStr_0 {t : TW} {s : LSt} {k : Int32} (h : ¬ (inR k (nI t.nL) ∧ ¬ hs s.2.1 k)) : stStr t.nL k s = (s.1, s.2.1, s.2.2.1, s.2.2.2.1, ctS s.2.2.2.2.1 0, s.2.2.2.2.2) := by
  unfold stStr
  rw [if_neg h, bP_f h, if_pos rfl]
theorem stRes_1 {t : TW} {s : LSt} {k : Int32} (h : inR k (nI t.nL) ∧ hs s.2.1 k) : stRes t.nL k s = (s.1, s.2.1 &&& (bit k ^^^ (-1)), s.2.2.1, s.2.2.2.1, ctS s.2.2.2.2.1 3, s.2.2.2.2.2) := by
  unfold stRes
  rw [if_pos h, bP_t h, if_neg (by decide)]
theorem stRes_0 {t : TW} {s : LSt} {k : Int32} (h : ¬ (inR k (nI t.nL) ∧ hs s.2.1 k)) : stRes t.nL k s = (s.1, s.2.1, s.2.2.1, s.2.2.2.1, ctS s.2.2.2.2.1 0, s.2.2.2.2.2) := by
  unfold stRes
  rw [if_neg h, bP_f h, if_pos rfl]
theorem DP_0 {t : TW} {a ran : Nat → Int32} {dr : Int32} {s : LSt} (S : ST_ t a ran dr s) : DP t a ran s (s.1, s.2.1, s.2.2.1, s.2.2.2.1, ctS s.2.2.2.2.1 0, s.2.2.2.2.2) a ran dr 0 :=
  ⟨S.1, frA.rf, cnt_0 S.2.1, rfl, S.2.2.1, S.2.2.2.1, S.2.2.2.2, rfl, Or.inl rfl⟩
theorem DP_n {t : TW} {a ran : Nat → Int32} {dr : Int32} {s : LSt} (S : ST_ t a ran dr s) : DP t a ran s s a ran dr 1 :=
  ⟨S.1, frA.rf, cnt_n S.2.1, rfl, S.2.2.1, S.2.2.2.1, S.2.2.2.2, rfl, Or.inr rfl⟩
theorem goD_in {t : TW} (I : tOK t) (J : tIn t) {k : Nat} (hk : k < 12) (h : canGo t.fr t.to_ (nI t.nL) t.sk t.sd (nI k)) : goD t (nI k) = -1 ∨ inR (goD t (nI k)) (nI t.nP) := by
  have hL := I.hL
  have hkl : k < t.nL := nI_ltN h.1.2 (by omega) (by omega)
  unfold goD
  rw [nI_clamp (by omega)]
  right
  split
  · exact (J.1 k hkl).2.2.1
  · exact (J.1 k hkl).2.1
theorem DP_go {t : TW} {a ran : Nat → Int32} {dr : Int32} {s : LSt} (S : ST_ t a ran dr s) {k : Nat} (hk : k < 12) (h : canGo t.fr t.to_ (nI t.nL) s.2.1 s.2.2.1 (nI k)) : DP t a ran s (stGo t.fr t.to_ t.ea t.no t.te t.nL (nI k) s) (upd (upd a 4 (goD (tLt t s) (nI k))) 5 ((tLt t s).go + yA (tLt t s).ea (tLt t s).no (tLt t s).fa (tLt t s).te k)) (upd ran 1 (ran 1 + 1)) dr 1 := by
  rw [stGo_1 hk h]
  refine ⟨vT_go S.1 (goD_in S.1.ok S.1.in_ hk h), (frA.rf.u (by omega) (by omega)).u (by omega) (by omega), ?_, upd_ne (by omega), S.2.2.1, S.2.2.2.1, S.2.2.2.2, rfl, Or.inr rfl⟩
  intro j hj
  have := cnt_1 S.2.1 (w := 1) (by omega) (by omega) j hj
  rw [show upd ran 1 (ran 1 + 1) 0 = ran 0 from upd_ne (by omega), if_neg (by decide)]
  exact this
theorem SKo_or {t : TW} {s : LSt} {k : Nat} (hk : k < t.nL) (hL : t.nL ≤ 12) (h : SKo (tLt t s)) {x : Nat → Int32} : SKo (tLt t (s.1, s.2.1 ||| bit (nI k), s.2.2.1, s.2.2.2.1, x, s.2.2.2.2.2)) := by
  intro j hj hh
  rcases (hs_or hj).mp hh with z | z
  · exact h j hj z
  · have := (hs_bit (by omega) hj).mp z
    show j < t.nL
    omega
theorem SKo_and {t : TW} {s : LSt} {m : Int32} (h : SKo (tLt t s)) {x : Nat → Int32} : SKo (tLt t (s.1, s.2.1 &&& m, s.2.2.1, s.2.2.2.1, x, s.2.2.2.2.2)) := fun j hj hh => h j hj ((hs_and hj).mp hh).1
theorem DP_st {t : TW} {a ran : Nat → Int32} {dr : Int32} {s : LSt} (S : ST_ t a ran dr s) {k : Nat} (hk : k < 12) (h : nI k < nI t.nL ∧ ¬ hs s.2.1 (nI k)) : DP t a ran s (stStr t.nL (nI k) s) (upd a 6 ((tLt t s).sk ||| bit (nI k))) (upd ran 2 (ran 2 + 1)) dr 1 := by
  have hL := S.1.ok.hL
  have hkl : k < t.nL := nI_ltN h.1 (by omega) (by have : (tLt t s).nL = t.nL := rfl; omega)
  have hL2 : t.nL ≤ 12 := hL
  rw [stStr_1 ⟨inR_N hkl (by omega), h.2⟩]
  refine ⟨vT_sk S.1 _, frA.rf.u (by omega) (by omega), ?_, upd_ne (by omega), S.2.2.1, S.2.2.2.1, SKo_or hkl hL2 S.2.2.2.2, rfl, Or.inr rfl⟩
  intro j hj
  have := cnt_1 S.2.1 (w := 2) (by omega) (by omega) j hj
  rw [show upd ran 2 (ran 2 + 1) 0 = ran 0 from upd_ne (by omega), if_neg (by decide)]
  exact this
theorem DP_re {t : TW} {a ran : Nat → Int32} {dr : Int32} {s : LSt} (S : ST_ t a ran dr s) {k : Nat} (hk : k < 12) (h : hs s.2.1 (nI k)) : DP t a ran s (stRes t.nL (nI k) s) (upd a 6 ((tLt t s).sk &&& (bit (nI k) ^^^ (-1)))) (upd ran 3 (ran 3 + 1)) dr 1 := by
  have hL := S.1.ok.hL
  have hkl : k < t.nL := S.2.2.2.2 k (by omega) h
  have hL2 : t.nL ≤ 12 := hL
  rw [stRes_1 ⟨inR_N hkl (by omega), h⟩]
  refine ⟨vT_sk S.1 _, frA.rf.u (by omega) (by omega), ?_, upd_ne (by omega), S.2.2.1, S.2.2.2.1, SKo_and S.2.2.2.2, rfl, Or.inr rfl⟩
  intro j hj
  have := cnt_1 S.2.1 (w := 3) (by omega) (by omega) j hj
  rw [show upd ran 3 (ran 3 + 1) 0 = ran 0 from upd_ne (by omega), if_neg (by decide)]
  exact this
theorem DP_g0 {t : TW} {a ran : Nat → Int32} {dr : Int32} {s : LSt} (S : ST_ t a ran dr s) {k : Int32} (h : ¬ canGo t.fr t.to_ (nI t.nL) s.2.1 s.2.2.1 k) : DP t a ran s (stGo t.fr t.to_ t.ea t.no t.te t.nL k s) a ran dr 0 := by rw [stGo_0 h]; exact DP_0 S
theorem DP_s0 {t : TW} {a ran : Nat → Int32} {dr : Int32} {s : LSt} (S : ST_ t a ran dr s) {k : Int32} (h : ¬ (k < nI t.nL ∧ ¬ hs s.2.1 k)) : DP t a ran s (stStr t.nL k s) a ran dr 0 := by rw [stStr_0 (fun z => h ⟨z.1.2, z.2⟩)]; exact DP_0 S
theorem DP_r0 {t : TW} {a ran : Nat → Int32} {dr : Int32} {s : LSt} (S : ST_ t a ran dr s) {k : Int32} (h : ¬ hs s.2.1 k) : DP t a ran s (stRes t.nL k s) a ran dr 0 := by rw [stRes_0 (fun z => h z.2)]; exact DP_0 S
theorem DP_b {t : TW} {a ran : Nat → Int32} {dr : Int32} {s : LSt} (S : ST_ t a ran dr s) {w : Nat} (hw : w < t.nW) {f : Int32} (hf : inR f 24) : DP t a ran s (stBel t.nW (nI w) f s) (beU a w f) ran dr (if s.1 w = f then 0 else 1) := by
  have hW := S.1.ok.hW
  have hW2 : t.nW ≤ 4 := hW
  have ec : (nI w).toNatClampNeg = w := nI_clamp (by omega)
  have V2 := vT_be S.1 (w := w) (f := f) hw hf
  have hfr : frA a (beU a w f) := frA_be frA.rf (by omega)
  unfold stBel
  rw [ec]
  by_cases z : s.1 w = f
  · have hn : ¬ (inR (nI w) (nI t.nW) ∧ ¬ s.1 w = f) := fun y => y.2 z
    rw [if_neg hn, if_neg hn, if_pos z]
    refine ⟨?_, hfr, cnt_0 S.2.1, rfl, S.2.2.1, S.2.2.2.1, S.2.2.2.2, rfl, Or.inl rfl⟩
    have e : upd s.1 w f = s.1 := upd_self z
    have V3 : vT (beU a w f) (tLt t (upd s.1 w f, s.2.1, s.2.2.1, s.2.2.2.1, ctS s.2.2.2.2.1 0, s.2.2.2.2.2)) := V2
    rw [e] at V3
    exact V3
  · have hn : inR (nI w) (nI t.nW) ∧ ¬ s.1 w = f := ⟨inR_N hw (by omega), z⟩
    rw [if_pos hn, if_pos hn, if_neg z]
    exact ⟨V2, hfr, cnt_n S.2.1, rfl, S.2.2.1, S.2.2.2.1, S.2.2.2.2, rfl, Or.inr rfl⟩
section TA6
variable {Γ : Gm} {Q : Option Value → LH → Prop} {m_at m_sort m_trayMany m_tape m_text m_opened m_eastBy m_northBy m_partBy m_wayFaults m_wayEast m_wayNorth m_olds m_farBy m_rowBy m_triedBy m_doneAt m_gotAt m_struckAt m_bestDeed m_loops m_ran m_told1 : Nat → Int32} {m_names m_trays m_misBy : Nat → Int64} {m_status m_taped m_size m_token m_from m_end m_value m_faultKind m_faultPlace m_faults m_seen m_areOdds m_depth m_counted m_wayMany m_oneOfSet m_twoOfSet m_rowMany m_drawn m_ranSteps m_isTold m_marks : Int32} {m_top m_bottom : Int64} {t : TW} {s : LSt}
set_option maxRecDepth 100000 in
set_option maxHeartbeats 4000000 in
theorem c_ranIf1 (w : Nat) {v : Int32} (hv : v = nI w) (hw : w < 5) (hq : Q (some (.int 1)) (hM m_at m_names m_status m_top m_bottom m_sort m_trayMany m_trays m_tape m_text m_taped m_size m_token m_from m_end m_value m_faultKind m_faultPlace m_faults m_seen m_areOdds m_opened m_depth m_counted m_eastBy m_northBy m_partBy m_wayFaults m_wayEast m_wayNorth m_olds m_wayMany m_oneOfSet m_twoOfSet m_farBy m_rowBy m_triedBy m_rowMany m_doneAt m_gotAt m_struckAt m_bestDeed m_misBy m_drawn m_ranSteps m_loops (upd m_ran w (m_ran w + 1)) m_told1 m_isTold m_marks)) : Call Γ M_Mo_ranIf 1 0 0 [.ref 0, .int v, .int 1] (hM m_at m_names m_status m_top m_bottom m_sort m_trayMany m_trays m_tape m_text m_taped m_size m_token m_from m_end m_value m_faultKind m_faultPlace m_faults m_seen m_areOdds m_opened m_depth m_counted m_eastBy m_northBy m_partBy m_wayFaults m_wayEast m_wayNorth m_olds m_wayMany m_oneOfSet m_twoOfSet m_farBy m_rowBy m_triedBy m_rowMany m_doneAt m_gotAt m_struckAt m_bestDeed m_misBy m_drawn m_ranSteps m_loops m_ran m_told1 m_isTold m_marks) Q := by
  subst hv
  refine call_intro (ls := [some (.ref 0), some (.int (nI w)), some (.int 1)]) rfl rfl rfl ?_
  refine wp_iload_n 1 d_Mo_ranIf_0 rfl rfl ?_
  refine wp_if_eq 14 4 d_Mo_ranIf_1 rfl (by decide) (fun h1 => ?_) (fun h1 => ?_)
  · exact absurd h1 (by decide)
  · refine wp_aload_n 5 d_Mo_ranIf_4 rfl rfl ?_
    refine wp_getfield 8 12 46 d_Mo_ranIf_5 rfl fl_Mo_95 rfl rfl ?_
    refine wp_iload_n 9 d_Mo_ranIf_8 rfl rfl ?_
    refine wp_dup2 10 d_Mo_ranIf_9 rfl rfl rfl ?_
    refine wp_ialoadN 11 d_Mo_ranIf_10 rfl rfl rfl (by omega) ?_
    refine wp_iconst 12 1 d_Mo_ranIf_11 rfl (by decide) ?_
    refine wp_iadd 13 d_Mo_ranIf_12 rfl ?_
    refine wp_iastoreN 14 d_Mo_ranIf_13 rfl rfl rfl (by omega) ?_
    refine hEq (hM m_at m_names m_status m_top m_bottom m_sort m_trayMany m_trays m_tape m_text m_taped m_size m_token m_from m_end m_value m_faultKind m_faultPlace m_faults m_seen m_areOdds m_opened m_depth m_counted m_eastBy m_northBy m_partBy m_wayFaults m_wayEast m_wayNorth m_olds m_wayMany m_oneOfSet m_twoOfSet m_farBy m_rowBy m_triedBy m_rowMany m_doneAt m_gotAt m_struckAt m_bestDeed m_misBy m_drawn m_ranSteps m_loops (upd m_ran w (m_ran w + 1)) m_told1 m_isTold m_marks) rfl ?_
    refine wp_iload_n 15 d_Mo_ranIf_14 rfl rfl ?_
    refine wp_zreturn d_Mo_ranIf_15 rfl (by first | rfl | exact nbP _) ?_
    exact hq

set_option maxRecDepth 100000 in
set_option maxHeartbeats 4000000 in
theorem c_ranIf0 {v : Int32} (hq : Q (some (.int 0)) (hM m_at m_names m_status m_top m_bottom m_sort m_trayMany m_trays m_tape m_text m_taped m_size m_token m_from m_end m_value m_faultKind m_faultPlace m_faults m_seen m_areOdds m_opened m_depth m_counted m_eastBy m_northBy m_partBy m_wayFaults m_wayEast m_wayNorth m_olds m_wayMany m_oneOfSet m_twoOfSet m_farBy m_rowBy m_triedBy m_rowMany m_doneAt m_gotAt m_struckAt m_bestDeed m_misBy m_drawn m_ranSteps m_loops m_ran m_told1 m_isTold m_marks)) : Call Γ M_Mo_ranIf 1 0 0 [.ref 0, .int v, .int 0] (hM m_at m_names m_status m_top m_bottom m_sort m_trayMany m_trays m_tape m_text m_taped m_size m_token m_from m_end m_value m_faultKind m_faultPlace m_faults m_seen m_areOdds m_opened m_depth m_counted m_eastBy m_northBy m_partBy m_wayFaults m_wayEast m_wayNorth m_olds m_wayMany m_oneOfSet m_twoOfSet m_farBy m_rowBy m_triedBy m_rowMany m_doneAt m_gotAt m_struckAt m_bestDeed m_misBy m_drawn m_ranSteps m_loops m_ran m_told1 m_isTold m_marks) Q := by
  refine call_intro (ls := [some (.ref 0), some (.int v), some (.int 0)]) rfl rfl rfl ?_
  refine wp_iload_n 1 d_Mo_ranIf_0 rfl rfl ?_
  refine wp_if_eq 14 4 d_Mo_ranIf_1 rfl (by decide) (fun h1 => ?_) (fun h1 => ?_)
  · refine wp_iload_n 15 d_Mo_ranIf_14 rfl rfl ?_
    refine wp_zreturn d_Mo_ranIf_15 rfl (by first | rfl | exact nbP _) ?_
    exact hq
  · exact absurd rfl h1

set_option maxRecDepth 100000 in
set_option maxHeartbeats 4000000 in
theorem c_Mo_draw {n : Nat} (h0n : 0 < n) (hn : n ≤ 16) (hq : Q (some (.int (drV m_drawn (nI n)))) (hM m_at m_names m_status m_top m_bottom m_sort m_trayMany m_trays m_tape m_text m_taped m_size m_token m_from m_end m_value m_faultKind m_faultPlace m_faults m_seen m_areOdds m_opened m_depth m_counted m_eastBy m_northBy m_partBy m_wayFaults m_wayEast m_wayNorth m_olds m_wayMany m_oneOfSet m_twoOfSet m_farBy m_rowBy m_triedBy m_rowMany m_doneAt m_gotAt m_struckAt m_bestDeed m_misBy (drS m_drawn) m_ranSteps m_loops m_ran m_told1 m_isTold m_marks)) : Call Γ M_Mo_draw 1 0 0 [.ref 0, .int (nI n)] (hM m_at m_names m_status m_top m_bottom m_sort m_trayMany m_trays m_tape m_text m_taped m_size m_token m_from m_end m_value m_faultKind m_faultPlace m_faults m_seen m_areOdds m_opened m_depth m_counted m_eastBy m_northBy m_partBy m_wayFaults m_wayEast m_wayNorth m_olds m_wayMany m_oneOfSet m_twoOfSet m_farBy m_rowBy m_triedBy m_rowMany m_doneAt m_gotAt m_struckAt m_bestDeed m_misBy m_drawn m_ranSteps m_loops m_ran m_told1 m_isTold m_marks) Q := by
  refine call_intro (ls := [some (.ref 0), some (.int (nI n))]) rfl rfl rfl ?_
  refine wp_aload_n 1 d_Mo_draw_0 rfl rfl ?_
  refine wp_aload_n 2 d_Mo_draw_1 rfl rfl ?_
  refine wp_getfield 5 12 43 d_Mo_draw_2 rfl fl_Mo_456 rfl rfl ?_
  refine wp_sipush 8 3277 d_Mo_draw_5 rfl (by decide) ?_
  refine wp_imul 9 d_Mo_draw_8 rfl ?_
  refine wp_sipush 12 11505 d_Mo_draw_9 rfl (by decide) ?_
  refine wp_iadd 13 d_Mo_draw_12 rfl ?_
  refine wp_ldcw 16 (65536 : Int32) d_Mo_draw_13 rfl ct_Mo_459 ?_
  refine wp_irem 17 d_Mo_draw_16 rfl (by decide) ?_
  refine wp_putfield 20 12 43 _ d_Mo_draw_17 rfl fp_Mo_456 rfl rfl (okP_int _) ?_
  refine hEq (hM m_at m_names m_status m_top m_bottom m_sort m_trayMany m_trays m_tape m_text m_taped m_size m_token m_from m_end m_value m_faultKind m_faultPlace m_faults m_seen m_areOdds m_opened m_depth m_counted m_eastBy m_northBy m_partBy m_wayFaults m_wayEast m_wayNorth m_olds m_wayMany m_oneOfSet m_twoOfSet m_farBy m_rowBy m_triedBy m_rowMany m_doneAt m_gotAt m_struckAt m_bestDeed m_misBy (drS m_drawn) m_ranSteps m_loops m_ran m_told1 m_isTold m_marks) rfl ?_
  refine wp_aload_n 21 d_Mo_draw_20 rfl rfl ?_
  refine wp_getfield 24 12 43 d_Mo_draw_21 rfl fl_Mo_456 rfl rfl ?_
  refine wp_bipush 26 8 d_Mo_draw_24 rfl (by decide) ?_
  refine wp_idiv 27 d_Mo_draw_26 rfl (by decide) ?_
  refine wp_iload_n 28 d_Mo_draw_27 rfl rfl ?_
  refine wp_irem 29 d_Mo_draw_28 rfl (nI_ne0 h0n (by omega)) ?_
  refine wp_ireturn d_Mo_draw_29 rfl ?_
  refine qI hq ?_
  unfold drV
  rw [if_pos (show (0 : Int32) < nI n from (nI_ltI (a := 0) (by omega) (by omega)).mpr h0n)]

set_option maxRecDepth 100000 in
set_option maxHeartbeats 4000000 in
theorem c_Mo_doesAny (S : ST_ t m_at m_ran m_drawn s) (hq : ∀ a2 r2 d2 d, DP t m_at m_ran s (stAny t.fr t.to_ t.ea t.no t.te t.nL t.od s) a2 r2 d2 d → Q (some (.int d)) (hM (a2) m_names m_status m_top m_bottom m_sort m_trayMany m_trays m_tape m_text m_taped m_size m_token m_from m_end m_value m_faultKind m_faultPlace m_faults m_seen m_areOdds m_opened m_depth m_counted m_eastBy m_northBy m_partBy m_wayFaults m_wayEast m_wayNorth m_olds m_wayMany m_oneOfSet m_twoOfSet m_farBy m_rowBy m_triedBy m_rowMany m_doneAt m_gotAt m_struckAt m_bestDeed m_misBy (d2) m_ranSteps m_loops (r2) m_told1 m_isTold m_marks)) : Call Γ M_Mo_doesAny 6 0 0 [.ref 0] (hM m_at m_names m_status m_top m_bottom m_sort m_trayMany m_trays m_tape m_text m_taped m_size m_token m_from m_end m_value m_faultKind m_faultPlace m_faults m_seen m_areOdds m_opened m_depth m_counted m_eastBy m_northBy m_partBy m_wayFaults m_wayEast m_wayNorth m_olds m_wayMany m_oneOfSet m_twoOfSet m_farBy m_rowBy m_triedBy m_rowMany m_doneAt m_gotAt m_struckAt m_bestDeed m_misBy m_drawn m_ranSteps m_loops m_ran m_told1 m_isTold m_marks) Q := by
  have V := S.1
  have hL12 : t.nL ≤ 12 := S.1.ok.hL
  have hdr0 : m_drawn = s.2.2.2.2.2.2 := S.2.2.1
  refine call_intro (ls := [some (.ref 0), none]) rfl rfl rfl ?_
  refine wp_aload_n 1 d_Mo_doesAny_0 rfl rfl ?_
  refine wp_getfield 4 12 0 d_Mo_doesAny_1 rfl fl_Mo_7 rfl rfl ?_
  refine wp_iconst 5 2 d_Mo_doesAny_4 rfl (by decide) ?_
  refine wp_iaload 6 d_Mo_doesAny_5 rfl rfl (vp_in_nI (n := 2) (N := 2332) (by omega) (by omega)) ?_
  rw [show m_at (2 : Int32).toNatClampNeg = nI t.nL from V.L]
  refine wp_if_ne 11 9 d_Mo_doesAny_6 rfl (by decide) (fun h6 => ?_) (fun h6 => ?_)
  · have hnl0 : 0 < t.nL := Nat.pos_of_ne_zero (fun z => h6 (by rw [z]; rfl))
    refine wp_aload_n 12 d_Mo_doesAny_11 rfl rfl ?_
    refine wp_aload_n 13 d_Mo_doesAny_12 rfl rfl ?_
    refine wp_getfield 16 12 0 d_Mo_doesAny_13 rfl fl_Mo_7 rfl rfl ?_
    refine wp_iconst 17 2 d_Mo_doesAny_16 rfl (by decide) ?_
    refine wp_iaload 18 d_Mo_doesAny_17 rfl rfl (vp_in_nI (n := 2) (N := 2332) (by omega) (by omega)) ?_
    rw [show m_at (2 : Int32).toNatClampNeg = nI t.nL from V.L]
    refine wp_V1 21 M_Mo_draw 1 d_Mo_doesAny_18 rfl mv_Mo_draw lk_Mo_460 rfl rfl rfl rfl rfl ?_
    refine c_Mo_draw hnl0 (by omega) ?_
    refine kI ?_
    obtain ⟨k, hk, ek⟩ := drV_ok S.2.2.2.1 (n := t.nL) (by omega) (by have := hL12; omega)
    rw [ek]
    refine wp_istore_1 22 d_Mo_doesAny_21 rfl rfl rfl ?_
    refine wp_aload_n 23 d_Mo_doesAny_22 rfl rfl ?_
    refine wp_bipush 25 16 d_Mo_doesAny_23 rfl (by decide) ?_
    refine wp_V1 28 M_Mo_draw 1 d_Mo_doesAny_25 rfl mv_Mo_draw lk_Mo_460 rfl rfl rfl rfl rfl ?_
    refine c_Mo_draw (n := 16) (by omega) (by omega) ?_
    refine kI ?_
    refine wp_aload_n 29 d_Mo_doesAny_28 rfl rfl ?_
    refine wp_getfield 32 12 0 d_Mo_doesAny_29 rfl fl_Mo_7 rfl rfl ?_
    refine wp_iconst 33 3 d_Mo_doesAny_32 rfl (by decide) ?_
    refine wp_iaload 34 d_Mo_doesAny_33 rfl rfl (vp_in_nI (n := 3) (N := 2332) (by omega) (by omega)) ?_
    rw [show m_at (3 : Int32).toNatClampNeg = t.od from V.od]
    refine wp_icmp_lt 48 37 d_Mo_doesAny_34 rfl (by decide) (fun h34 => ?_) (fun h34 => ?_)
    · have h34_ : drV (drS s.2.2.2.2.2.2) 16 < t.od := by rw [← hdr0]; exact h34
      have S2 : ST_ t m_at m_ran (drS (drS m_drawn)) (stDr2 s) := ⟨S.1, S.2.1, by rw [hdr0]; rfl, drS_ok (drS_ok S.2.2.2.1), S.2.2.2.2⟩
      refine wp_aload_n 49 d_Mo_doesAny_48 rfl rfl ?_
      refine wp_aload_n 50 d_Mo_doesAny_49 rfl rfl ?_
      refine wp_getfield 53 12 0 d_Mo_doesAny_50 rfl fl_Mo_7 rfl rfl ?_
      refine wp_bipush 55 6 d_Mo_doesAny_53 rfl (by decide) ?_
      refine wp_iaload 56 d_Mo_doesAny_55 rfl rfl (vp_in_nI (n := 6) (N := 2332) (by omega) (by omega)) ?_
      rw [show m_at (6 : Int32).toNatClampNeg = s.2.1 from V.sk]
      refine wp_iload_n 57 d_Mo_doesAny_56 rfl rfl ?_
      refine wp_V2 60 M_Mo_isIn 1 d_Mo_doesAny_57 rfl mv_Mo_isIn lk_Mo_281 rfl rfl rfl rfl rfl ?_
      refine c_Mo_isIn ?_
      refine kI ?_
      (first | refine wp_ifP_eq 76 63 d_Mo_doesAny_60 rfl (by decide) (fun h60 => ?_) (fun h60 => ?_) | refine wp_if_eq 76 63 d_Mo_doesAny_60 rfl (by decide) (fun h60 => ?_) (fun h60 => ?_))
      · refine wp_aload_n 77 d_Mo_doesAny_76 rfl rfl ?_
        refine wp_iconst 78 2 d_Mo_doesAny_77 rfl (by decide) ?_
        refine wp_aload_n 79 d_Mo_doesAny_78 rfl rfl ?_
        refine wp_iload_n 80 d_Mo_doesAny_79 rfl rfl ?_
        refine wp_V1 83 M_Mo_strikes 3 d_Mo_doesAny_80 rfl mv_Mo_strikes lk_Mo_360 rfl rfl rfl rfl rfl ?_
        refine c_Mo_strikes V (fun h9 => ?_) (fun h9 => ?_)
        · refine kI ?_
          refine wp_V2 86 M_Mo_ranIf 1 d_Mo_doesAny_83 rfl mv_Mo_ranIf lk_Mo_463 rfl rfl rfl rfl rfl ?_
          refine c_ranIf0 ?_
          refine kI ?_
          refine wp_zreturn d_Mo_doesAny_86 rfl (by first | rfl | exact nbP _) ?_
          have hek : drV s.2.2.2.2.2.2 (nI t.nL) = nI k := by rw [← hdr0]; exact ek
          have e : stAny t.fr t.to_ t.ea t.no t.te t.nL t.od s = stStr t.nL (nI k) (stDr2 s) := (if_neg h6).trans ((if_pos h34_).trans ((if_neg (by rw [hek]; exact h60)).trans (by rw [hek])))
          have hd := DP_s0 S2 h9
          rw [← e] at hd
          exact hq _ _ _ 0 hd
        · refine kI ?_
          refine wp_V2 86 M_Mo_ranIf 1 d_Mo_doesAny_83 rfl mv_Mo_ranIf lk_Mo_463 rfl rfl rfl rfl rfl ?_
          refine c_ranIf1 2 rfl (by omega) ?_
          refine kI ?_
          refine wp_zreturn d_Mo_doesAny_86 rfl (by first | rfl | exact nbP _) ?_
          have hek : drV s.2.2.2.2.2.2 (nI t.nL) = nI k := by rw [← hdr0]; exact ek
          have e : stAny t.fr t.to_ t.ea t.no t.te t.nL t.od s = stStr t.nL (nI k) (stDr2 s) := (if_neg h6).trans ((if_pos h34_).trans ((if_neg (by rw [hek]; exact h60)).trans (by rw [hek])))
          have hd := DP_st S2 (by omega) h9
          rw [← e] at hd
          exact hq _ _ _ 1 hd
      · refine wp_aload_n 64 d_Mo_doesAny_63 rfl rfl ?_
        refine wp_iconst 65 3 d_Mo_doesAny_64 rfl (by decide) ?_
        refine wp_aload_n 66 d_Mo_doesAny_65 rfl rfl ?_
        refine wp_iload_n 67 d_Mo_doesAny_66 rfl rfl ?_
        refine wp_V1 70 M_Mo_restores1 2 d_Mo_doesAny_67 rfl mv_Mo_restores1 lk_Mo_366 rfl rfl rfl rfl rfl ?_
        refine c_Mo_restores1 V (fun h9 => ?_) (fun h9 => ?_)
        · refine kI ?_
          refine wp_V2 73 M_Mo_ranIf 1 d_Mo_doesAny_70 rfl mv_Mo_ranIf lk_Mo_463 rfl rfl rfl rfl rfl ?_
          refine c_ranIf0 ?_
          refine kI ?_
          refine wp_goto 86 d_Mo_doesAny_73 (by decide) ?_
          refine wp_zreturn d_Mo_doesAny_86 rfl (by first | rfl | exact nbP _) ?_
          have hek : drV s.2.2.2.2.2.2 (nI t.nL) = nI k := by rw [← hdr0]; exact ek
          have e : stAny t.fr t.to_ t.ea t.no t.te t.nL t.od s = stRes t.nL (nI k) (stDr2 s) := (if_neg h6).trans ((if_pos h34_).trans ((if_pos (by rw [hek]; exact h60)).trans (by rw [hek])))
          have hd := DP_r0 S2 h9
          rw [← e] at hd
          exact hq _ _ _ 0 hd
        · refine kI ?_
          refine wp_V2 73 M_Mo_ranIf 1 d_Mo_doesAny_70 rfl mv_Mo_ranIf lk_Mo_463 rfl rfl rfl rfl rfl ?_
          refine c_ranIf1 3 rfl (by omega) ?_
          refine kI ?_
          refine wp_goto 86 d_Mo_doesAny_73 (by decide) ?_
          refine wp_zreturn d_Mo_doesAny_86 rfl (by first | rfl | exact nbP _) ?_
          have hek : drV s.2.2.2.2.2.2 (nI t.nL) = nI k := by rw [← hdr0]; exact ek
          have e : stAny t.fr t.to_ t.ea t.no t.te t.nL t.od s = stRes t.nL (nI k) (stDr2 s) := (if_neg h6).trans ((if_pos h34_).trans ((if_pos (by rw [hek]; exact h60)).trans (by rw [hek])))
          have hd := DP_re S2 (by omega) h9
          rw [← e] at hd
          exact hq _ _ _ 1 hd
    · have h34_ : ¬ drV (drS s.2.2.2.2.2.2) 16 < t.od := by rw [← hdr0]; exact h34
      have S2 : ST_ t m_at m_ran (drS (drS m_drawn)) (stDr2 s) := ⟨S.1, S.2.1, by rw [hdr0]; rfl, drS_ok (drS_ok S.2.2.2.1), S.2.2.2.2⟩
      refine wp_aload_n 38 d_Mo_doesAny_37 rfl rfl ?_
      refine wp_iconst 39 1 d_Mo_doesAny_38 rfl (by decide) ?_
      refine wp_aload_n 40 d_Mo_doesAny_39 rfl rfl ?_
      refine wp_iload_n 41 d_Mo_doesAny_40 rfl rfl ?_
      refine wp_V1 44 M_Mo_goesAlong 5 d_Mo_doesAny_41 rfl mv_Mo_goesAlong lk_Mo_378 rfl rfl rfl rfl rfl ?_
      refine c_Mo_goesAlong V (by omega) (fun h9 => ?_) (fun h9 => ?_)
      · refine kI ?_
        refine wp_V2 47 M_Mo_ranIf 1 d_Mo_doesAny_44 rfl mv_Mo_ranIf lk_Mo_463 rfl rfl rfl rfl rfl ?_
        refine c_ranIf0 ?_
        refine kI ?_
        refine wp_zreturn d_Mo_doesAny_47 rfl (by first | rfl | exact nbP _) ?_
        have hek : drV s.2.2.2.2.2.2 (nI t.nL) = nI k := by rw [← hdr0]; exact ek
        have e : stAny t.fr t.to_ t.ea t.no t.te t.nL t.od s = stGo t.fr t.to_ t.ea t.no t.te t.nL (nI k) (stDr2 s) := (if_neg h6).trans ((if_neg h34_).trans (by rw [hek]))
        have hd := DP_g0 S2 h9
        rw [← e] at hd
        exact hq _ _ _ 0 hd
      · refine kI ?_
        refine wp_V2 47 M_Mo_ranIf 1 d_Mo_doesAny_44 rfl mv_Mo_ranIf lk_Mo_463 rfl rfl rfl rfl rfl ?_
        refine c_ranIf1 1 rfl (by omega) ?_
        refine kI ?_
        refine wp_zreturn d_Mo_doesAny_47 rfl (by first | rfl | exact nbP _) ?_
        have hek : drV s.2.2.2.2.2.2 (nI t.nL) = nI k := by rw [← hdr0]; exact ek
        have e : stAny t.fr t.to_ t.ea t.no t.te t.nL t.od s = stGo t.fr t.to_ t.ea t.no t.te t.nL (nI k) (stDr2 s) := (if_neg h6).trans ((if_neg h34_).trans (by rw [hek]))
        have hd := DP_go S2 (by omega) h9
        rw [← e] at hd
        exact hq _ _ _ 1 hd
  · refine wp_iconst 10 0 d_Mo_doesAny_9 rfl (by decide) ?_
    refine wp_zreturn d_Mo_doesAny_10 rfl (by first | rfl | exact nbP _) ?_
    have e : stAny t.fr t.to_ t.ea t.no t.te t.nL t.od s = (s.1, s.2.1, s.2.2.1, s.2.2.2.1, ctS s.2.2.2.2.1 0, s.2.2.2.2.2) := if_pos h6
    have hd := DP_0 S
    rw [← e] at hd
    exact hq _ _ _ 0 hd

set_option maxRecDepth 100000 in
set_option maxHeartbeats 4000000 in
theorem c_Mo_believesBy {w : Nat} {f : Int32} (V : vT m_at t) (hw : w < t.nW) (hq1 : ¬ t.fa w = f → Q (some (.int 1)) (hM (beU m_at w f) m_names m_status m_top m_bottom m_sort m_trayMany m_trays m_tape m_text m_taped m_size m_token m_from m_end m_value m_faultKind m_faultPlace m_faults m_seen m_areOdds m_opened m_depth m_counted m_eastBy m_northBy m_partBy m_wayFaults m_wayEast m_wayNorth m_olds m_wayMany m_oneOfSet m_twoOfSet m_farBy m_rowBy m_triedBy m_rowMany m_doneAt m_gotAt m_struckAt m_bestDeed m_misBy m_drawn m_ranSteps m_loops m_ran m_told1 m_isTold m_marks)) (hq0 : t.fa w = f → Q (some (.int 0)) (hM (beU m_at w f) m_names m_status m_top m_bottom m_sort m_trayMany m_trays m_tape m_text m_taped m_size m_token m_from m_end m_value m_faultKind m_faultPlace m_faults m_seen m_areOdds m_opened m_depth m_counted m_eastBy m_northBy m_partBy m_wayFaults m_wayEast m_wayNorth m_olds m_wayMany m_oneOfSet m_twoOfSet m_farBy m_rowBy m_triedBy m_rowMany m_doneAt m_gotAt m_struckAt m_bestDeed m_misBy m_drawn m_ranSteps m_loops m_ran m_told1 m_isTold m_marks)) : Call Γ M_Mo_believesBy 4 0 0 [.ref 0, .int (nI w), .int f] (hM m_at m_names m_status m_top m_bottom m_sort m_trayMany m_trays m_tape m_text m_taped m_size m_token m_from m_end m_value m_faultKind m_faultPlace m_faults m_seen m_areOdds m_opened m_depth m_counted m_eastBy m_northBy m_partBy m_wayFaults m_wayEast m_wayNorth m_olds m_wayMany m_oneOfSet m_twoOfSet m_farBy m_rowBy m_triedBy m_rowMany m_doneAt m_gotAt m_struckAt m_bestDeed m_misBy m_drawn m_ranSteps m_loops m_ran m_told1 m_isTold m_marks) Q := by
  have hW4 := V.ok.hW
  refine call_intro (ls := [some (.ref 0), some (.int (nI w)), some (.int f), none]) rfl rfl rfl ?_
  refine wp_aload_n 1 d_Mo_believesBy_0 rfl rfl ?_
  refine wp_iload_n 2 d_Mo_believesBy_1 rfl rfl ?_
  refine wp_V1 5 M_Mo_faultOf 3 d_Mo_believesBy_2 rfl mv_Mo_faultOf lk_Mo_343 rfl rfl rfl rfl rfl ?_
  refine c_Mo_faultOf V (inR_N hw (by omega)) ?_
  rw [nI_clamp (by omega : w < 2 ^ 31)]
  refine kI ?_
  refine wp_iload_n 6 d_Mo_believesBy_5 rfl rfl ?_
  refine wp_icmp_eq 13 9 d_Mo_believesBy_6 rfl (by decide) (fun h6 => ?_) (fun h6 => ?_)
  · refine wp_iconst 14 0 d_Mo_believesBy_13 rfl (by decide) ?_
    refine wp_istore_3 15 d_Mo_believesBy_14 rfl rfl rfl ?_
    refine wp_aload_n 16 d_Mo_believesBy_15 rfl rfl ?_
    refine wp_iload_n 17 d_Mo_believesBy_16 rfl rfl ?_
    refine wp_iload_n 18 d_Mo_believesBy_17 rfl rfl ?_
    refine wp_V2 21 M_Mo_believes 2 d_Mo_believesBy_18 rfl mv_Mo_believes lk_Mo_371 rfl rfl rfl rfl rfl ?_
    refine c_Mo_believes (by omega) ?_
    refine kV ?_
    refine wp_iload_n 22 d_Mo_believesBy_21 rfl rfl ?_
    refine wp_zreturn d_Mo_believesBy_22 rfl (by first | rfl | exact nbP _) ?_
    exact hq0 h6
  · refine wp_iconst 10 1 d_Mo_believesBy_9 rfl (by decide) ?_
    refine wp_goto 14 d_Mo_believesBy_10 (by decide) ?_
    refine wp_istore_3 15 d_Mo_believesBy_14 rfl rfl rfl ?_
    refine wp_aload_n 16 d_Mo_believesBy_15 rfl rfl ?_
    refine wp_iload_n 17 d_Mo_believesBy_16 rfl rfl ?_
    refine wp_iload_n 18 d_Mo_believesBy_17 rfl rfl ?_
    refine wp_V2 21 M_Mo_believes 2 d_Mo_believesBy_18 rfl mv_Mo_believes lk_Mo_371 rfl rfl rfl rfl rfl ?_
    refine c_Mo_believes (by omega) ?_
    refine kV ?_
    refine wp_iload_n 22 d_Mo_believesBy_21 rfl rfl ?_
    refine wp_zreturn d_Mo_believesBy_22 rfl (by first | rfl | exact nbP _) ?_
    exact hq1 h6

set_option maxRecDepth 100000 in
set_option maxHeartbeats 4000000 in
theorem c_Mo_does {p : Nat} {k f c : Int32} (S : ST_ t m_at m_ran m_drawn s) (hR : ROW t.nW m_at p k f c) (hp : p + 6 ≤ 2332) (hq : ∀ a2 r2 d2 d, DP t m_at m_ran s (stD t k f c s) a2 r2 d2 d → Q (some (.int d)) (hM (a2) m_names m_status m_top m_bottom m_sort m_trayMany m_trays m_tape m_text m_taped m_size m_token m_from m_end m_value m_faultKind m_faultPlace m_faults m_seen m_areOdds m_opened m_depth m_counted m_eastBy m_northBy m_partBy m_wayFaults m_wayEast m_wayNorth m_olds m_wayMany m_oneOfSet m_twoOfSet m_farBy m_rowBy m_triedBy m_rowMany m_doneAt m_gotAt m_struckAt m_bestDeed m_misBy (d2) m_ranSteps m_loops (r2) m_told1 m_isTold m_marks)) : Call Γ M_Mo_does 7 0 0 [.ref 0, .int (nI p)] (hM m_at m_names m_status m_top m_bottom m_sort m_trayMany m_trays m_tape m_text m_taped m_size m_token m_from m_end m_value m_faultKind m_faultPlace m_faults m_seen m_areOdds m_opened m_depth m_counted m_eastBy m_northBy m_partBy m_wayFaults m_wayEast m_wayNorth m_olds m_wayMany m_oneOfSet m_twoOfSet m_farBy m_rowBy m_triedBy m_rowMany m_doneAt m_gotAt m_struckAt m_bestDeed m_misBy m_drawn m_ranSteps m_loops m_ran m_told1 m_isTold m_marks) Q := by
  have V := S.1
  have hL12 : t.nL ≤ 12 := S.1.ok.hL
  have hW4 : t.nW ≤ 4 := S.1.ok.hW
  refine call_intro (ls := [some (.ref 0), some (.int (nI p)), none]) rfl rfl rfl ?_
  refine wp_aload_n 1 d_Mo_does_0 rfl rfl ?_
  refine wp_getfield 4 12 0 d_Mo_does_1 rfl fl_Mo_7 rfl rfl ?_
  refine wp_iload_n 5 d_Mo_does_4 rfl rfl ?_
  refine wp_iconst 6 1 d_Mo_does_5 rfl (by decide) ?_
  refine wp_iadd 7 d_Mo_does_6 rfl ?_
  rw [nI_1]
  refine wp_ialoadN 8 d_Mo_does_7 rfl rfl rfl (by omega) ?_
  refine wp_istore_2 9 d_Mo_does_8 rfl rfl rfl ?_
  refine wp_aload_n 10 d_Mo_does_9 rfl rfl ?_
  refine wp_getfield 13 12 0 d_Mo_does_10 rfl fl_Mo_7 rfl rfl ?_
  refine wp_iload_n 14 d_Mo_does_13 rfl rfl ?_
  refine wp_ialoadN 15 d_Mo_does_14 rfl rfl rfl (by omega) ?_
  by_cases h15_0 : m_at p = 11
  · refine wp_tabIn (off := 33) 48 11 d_Mo_does_15 h15_0 (by decide) (by decide) (by decide) (by decide) ?_
    obtain ⟨rfl, ⟨l, hl, rfl⟩, hr3⟩ := ROW_11 hR h15_0
    rw [show m_at (p + 1) = nI l from hr3]
    refine wp_aload_n 49 d_Mo_does_48 rfl rfl ?_
    refine wp_iconst 50 1 d_Mo_does_49 rfl (by decide) ?_
    refine wp_aload_n 51 d_Mo_does_50 rfl rfl ?_
    refine wp_iload_n 52 d_Mo_does_51 rfl rfl ?_
    refine wp_V1 55 M_Mo_goesAlong 5 d_Mo_does_52 rfl mv_Mo_goesAlong lk_Mo_378 rfl rfl rfl rfl rfl ?_
    refine c_Mo_goesAlong V hl (fun h9 => ?_) (fun h9 => ?_)
    · refine kI ?_
      refine wp_V2 58 M_Mo_ranIf 1 d_Mo_does_55 rfl mv_Mo_ranIf lk_Mo_463 rfl rfl rfl rfl rfl ?_
      refine c_ranIf0 ?_
      refine kI ?_
      refine wp_zreturn d_Mo_does_58 rfl (by first | rfl | exact nbP _) ?_
      have e : stD t 0 (nI l) c s = stGo t.fr t.to_ t.ea t.no t.te t.nL (nI l) s := (if_pos rfl)
      have hd := DP_g0 S h9
      rw [← e] at hd
      exact hq _ _ _ 0 hd
    · refine kI ?_
      refine wp_V2 58 M_Mo_ranIf 1 d_Mo_does_55 rfl mv_Mo_ranIf lk_Mo_463 rfl rfl rfl rfl rfl ?_
      refine c_ranIf1 1 rfl (by omega) ?_
      refine kI ?_
      refine wp_zreturn d_Mo_does_58 rfl (by first | rfl | exact nbP _) ?_
      have e : stD t 0 (nI l) c s = stGo t.fr t.to_ t.ea t.no t.te t.nL (nI l) s := (if_pos rfl)
      have hd := DP_go S hl h9
      rw [← e] at hd
      exact hq _ _ _ 1 hd
  by_cases h15_1 : m_at p = 12
  · refine wp_tabIn (off := 44) 59 12 d_Mo_does_15 h15_1 (by decide) (by decide) (by decide) (by decide) ?_
    obtain ⟨rfl, ⟨l, hl, rfl⟩, hr3⟩ := ROW_12 hR h15_1
    rw [show m_at (p + 1) = nI l from hr3]
    refine wp_aload_n 60 d_Mo_does_59 rfl rfl ?_
    refine wp_iconst 61 2 d_Mo_does_60 rfl (by decide) ?_
    refine wp_aload_n 62 d_Mo_does_61 rfl rfl ?_
    refine wp_iload_n 63 d_Mo_does_62 rfl rfl ?_
    refine wp_V1 66 M_Mo_strikes 3 d_Mo_does_63 rfl mv_Mo_strikes lk_Mo_360 rfl rfl rfl rfl rfl ?_
    refine c_Mo_strikes V (fun h9 => ?_) (fun h9 => ?_)
    · refine kI ?_
      refine wp_V2 69 M_Mo_ranIf 1 d_Mo_does_66 rfl mv_Mo_ranIf lk_Mo_463 rfl rfl rfl rfl rfl ?_
      refine c_ranIf0 ?_
      refine kI ?_
      refine wp_zreturn d_Mo_does_69 rfl (by first | rfl | exact nbP _) ?_
      have e : stD t 1 (nI l) c s = stStr t.nL (nI l) s := (if_neg (by decide)).trans ((if_pos rfl))
      have hd := DP_s0 S h9
      rw [← e] at hd
      exact hq _ _ _ 0 hd
    · refine kI ?_
      refine wp_V2 69 M_Mo_ranIf 1 d_Mo_does_66 rfl mv_Mo_ranIf lk_Mo_463 rfl rfl rfl rfl rfl ?_
      refine c_ranIf1 2 rfl (by omega) ?_
      refine kI ?_
      refine wp_zreturn d_Mo_does_69 rfl (by first | rfl | exact nbP _) ?_
      have e : stD t 1 (nI l) c s = stStr t.nL (nI l) s := (if_neg (by decide)).trans ((if_pos rfl))
      have hd := DP_st S hl h9
      rw [← e] at hd
      exact hq _ _ _ 1 hd
  by_cases h15_2 : m_at p = 13
  · refine wp_tabIn (off := 55) 70 13 d_Mo_does_15 h15_2 (by decide) (by decide) (by decide) (by decide) ?_
    obtain ⟨rfl, ⟨l, hl, rfl⟩, hr3⟩ := ROW_13 hR h15_2
    rw [show m_at (p + 1) = nI l from hr3]
    refine wp_aload_n 71 d_Mo_does_70 rfl rfl ?_
    refine wp_iconst 72 3 d_Mo_does_71 rfl (by decide) ?_
    refine wp_aload_n 73 d_Mo_does_72 rfl rfl ?_
    refine wp_iload_n 74 d_Mo_does_73 rfl rfl ?_
    refine wp_V1 77 M_Mo_restores1 2 d_Mo_does_74 rfl mv_Mo_restores1 lk_Mo_366 rfl rfl rfl rfl rfl ?_
    refine c_Mo_restores1 V (fun h9 => ?_) (fun h9 => ?_)
    · refine kI ?_
      refine wp_V2 80 M_Mo_ranIf 1 d_Mo_does_77 rfl mv_Mo_ranIf lk_Mo_463 rfl rfl rfl rfl rfl ?_
      refine c_ranIf0 ?_
      refine kI ?_
      refine wp_zreturn d_Mo_does_80 rfl (by first | rfl | exact nbP _) ?_
      have e : stD t 2 (nI l) c s = stRes t.nL (nI l) s := (if_neg (by decide)).trans ((if_neg (by decide)).trans ((if_pos rfl)))
      have hd := DP_r0 S h9
      rw [← e] at hd
      exact hq _ _ _ 0 hd
    · refine kI ?_
      refine wp_V2 80 M_Mo_ranIf 1 d_Mo_does_77 rfl mv_Mo_ranIf lk_Mo_463 rfl rfl rfl rfl rfl ?_
      refine c_ranIf1 3 rfl (by omega) ?_
      refine kI ?_
      refine wp_zreturn d_Mo_does_80 rfl (by first | rfl | exact nbP _) ?_
      have e : stD t 2 (nI l) c s = stRes t.nL (nI l) s := (if_neg (by decide)).trans ((if_neg (by decide)).trans ((if_pos rfl)))
      have hd := DP_re S hl h9
      rw [← e] at hd
      exact hq _ _ _ 1 hd
  by_cases h15_3 : m_at p = 14
  · refine wp_tabIn (off := 66) 81 14 d_Mo_does_15 h15_3 (by decide) (by decide) (by decide) (by decide) ?_
    obtain ⟨rfl, hr3, hr4, hr5, hr6⟩ := ROW_14 hR h15_3
    obtain ⟨l, hl, rfl⟩ := inR_ex hr5 (by omega)
    rw [show m_at (p + 1) = nI l from hr3]
    refine wp_aload_n 82 d_Mo_does_81 rfl rfl ?_
    refine wp_iload_n 83 d_Mo_does_82 rfl rfl ?_
    refine wp_aload_n 84 d_Mo_does_83 rfl rfl ?_
    refine wp_getfield 87 12 0 d_Mo_does_84 rfl fl_Mo_7 rfl rfl ?_
    refine wp_iload_n 88 d_Mo_does_87 rfl rfl ?_
    refine wp_iconst 89 2 d_Mo_does_88 rfl (by decide) ?_
    refine wp_iadd 90 d_Mo_does_89 rfl ?_
    rw [show nI p + 2 = nI (p + 2) from nI_add p 2]
    refine wp_ialoadN 91 d_Mo_does_90 rfl rfl rfl (by omega) ?_
    rw [hr4]
    refine wp_V2 94 M_Mo_believesBy 4 d_Mo_does_91 rfl mv_Mo_believesBy lk_Mo_467 rfl rfl rfl rfl rfl ?_
    refine c_Mo_believesBy V hl (fun h9 => ?_) (fun h9 => ?_)
    · refine kI ?_
      refine wp_zreturn d_Mo_does_94 rfl (by first | rfl | exact nbP _) ?_
      have e : stD t 3 (nI l) c s = stBel t.nW (nI l) c s := (if_neg (by decide)).trans ((if_neg (by decide)).trans ((if_neg (by decide)).trans ((if_pos rfl))))
      have hd := DP_b S hl hr6
      rw [← e, if_neg h9] at hd
      exact hq _ _ _ 1 hd
    · refine kI ?_
      refine wp_zreturn d_Mo_does_94 rfl (by first | rfl | exact nbP _) ?_
      have e : stD t 3 (nI l) c s = stBel t.nW (nI l) c s := (if_neg (by decide)).trans ((if_neg (by decide)).trans ((if_neg (by decide)).trans ((if_pos rfl))))
      have hd := DP_b S hl hr6
      rw [← e, if_pos h9] at hd
      exact hq _ _ _ 0 hd
  by_cases h15_4 : m_at p = 15
  · refine wp_tabIn (off := 80) 95 15 d_Mo_does_15 h15_4 (by decide) (by decide) (by decide) (by decide) ?_
    obtain rfl := ROW_15 hR h15_4
    refine wp_aload_n 96 d_Mo_does_95 rfl rfl ?_
    refine wp_V0 99 M_Mo_doesAny 6 d_Mo_does_96 rfl mv_Mo_doesAny lk_Mo_470 rfl rfl rfl rfl rfl ?_
    refine c_Mo_doesAny S (fun a2 r2 d2 d hd => ?_)
    refine kI ?_
    refine wp_zreturn d_Mo_does_99 rfl (by rcases hd.2.2.2.2.2.2.2.2 with z | z <;> rw [z] <;> rfl) ?_
    have e : stD t 4 f c s = stAny t.fr t.to_ t.ea t.no t.te t.nL t.od s := (if_neg (by decide)).trans ((if_neg (by decide)).trans ((if_neg (by decide)).trans ((if_neg (by decide)).trans ((if_pos rfl)))))
    exact hq _ _ _ d (by rw [e]; exact hd)
  refine wp_tabOut 100 d_Mo_does_15 (sw_o11 h15_0 h15_1 h15_2 h15_3 h15_4) (by decide) ?_
  have hk9 := ROW_d hR h15_0 h15_1 h15_2 h15_3 h15_4
  refine wp_iconst 101 1 d_Mo_does_100 rfl (by decide) ?_
  refine wp_zreturn d_Mo_does_101 rfl (by first | rfl | exact nbP _) ?_
  have e : stD t k f c s = s := (if_neg hk9.1).trans ((if_neg hk9.2.1).trans ((if_neg hk9.2.2.1).trans ((if_neg hk9.2.2.2.1).trans (if_neg hk9.2.2.2.2))))
  have hd := DP_n S
  rw [← e] at hd
  exact hq _ _ _ 1 (by rw [e] at hd ⊢; exact hd)

set_option maxRecDepth 100000 in
set_option maxHeartbeats 4000000 in
theorem c_Mo_holds {p : Nat} {k f c : Int32} (V : vT m_at (tLt t s)) (hR : ROW t.nW m_at p k f c) (hp : p + 6 ≤ 2332) (hw : 1600 ≤ m_at p) (hq : ∀ sc : MS, Q (some (.int (hoV t.te t.fr t.to_ t.ea t.no t.nL t.nP s k f))) (hM m_at m_names m_status m_top m_bottom m_sort m_trayMany m_trays m_tape m_text m_taped m_size m_token m_from m_end m_value m_faultKind m_faultPlace m_faults m_seen m_areOdds m_opened m_depth m_counted (sc.2.1) (sc.2.2) (sc.1) m_wayFaults m_wayEast m_wayNorth m_olds m_wayMany m_oneOfSet m_twoOfSet m_farBy m_rowBy m_triedBy m_rowMany m_doneAt m_gotAt m_struckAt m_bestDeed m_misBy m_drawn m_ranSteps m_loops m_ran m_told1 m_isTold m_marks)) : Call Γ M_Mo_holds 8 0 0 [.ref 0, .int (nI p)] (hM m_at m_names m_status m_top m_bottom m_sort m_trayMany m_trays m_tape m_text m_taped m_size m_token m_from m_end m_value m_faultKind m_faultPlace m_faults m_seen m_areOdds m_opened m_depth m_counted m_eastBy m_northBy m_partBy m_wayFaults m_wayEast m_wayNorth m_olds m_wayMany m_oneOfSet m_twoOfSet m_farBy m_rowBy m_triedBy m_rowMany m_doneAt m_gotAt m_struckAt m_bestDeed m_misBy m_drawn m_ranSteps m_loops m_ran m_told1 m_isTold m_marks) Q := by
  refine call_intro (ls := [some (.ref 0), some (.int (nI p)), none, none]) rfl rfl rfl ?_
  refine wp_aload_n 1 d_Mo_holds_0 rfl rfl ?_
  refine wp_getfield 4 12 0 d_Mo_holds_1 rfl fl_Mo_7 rfl rfl ?_
  refine wp_iload_n 5 d_Mo_holds_4 rfl rfl ?_
  refine wp_iconst 6 1 d_Mo_holds_5 rfl (by decide) ?_
  refine wp_iadd 7 d_Mo_holds_6 rfl ?_
  rw [nI_1]
  refine wp_ialoadN 8 d_Mo_holds_7 rfl rfl rfl (by omega) ?_
  refine wp_istore_2 9 d_Mo_holds_8 rfl rfl rfl ?_
  refine wp_aload_n 10 d_Mo_holds_9 rfl rfl ?_
  refine wp_getfield 13 12 0 d_Mo_holds_10 rfl fl_Mo_7 rfl rfl ?_
  refine wp_iload_n 14 d_Mo_holds_13 rfl rfl ?_
  refine wp_ialoadN 15 d_Mo_holds_14 rfl rfl rfl (by omega) ?_
  refine wp_sipush 18 1600 d_Mo_holds_15 rfl (by decide) ?_
  refine wp_isub 19 d_Mo_holds_18 rfl ?_
  by_cases h19_0 : m_at p - 1600 = 20
  · refine wp_tabIn (off := 25) 44 20 d_Mo_holds_19 h19_0 (by decide) (by decide) (by decide) (by decide) ?_
    obtain ⟨rfl, hr2⟩ := ROW_h20 hR hw h19_0
    rw [show m_at (p + 1) = f from hr2]
    refine wp_aload_n 45 d_Mo_holds_44 rfl rfl ?_
    refine wp_getfield 48 12 0 d_Mo_holds_45 rfl fl_Mo_7 rfl rfl ?_
    refine wp_iconst 49 4 d_Mo_holds_48 rfl (by decide) ?_
    refine wp_iaload 50 d_Mo_holds_49 rfl rfl (vp_in_nI (n := 4) (N := 2332) (by omega) (by omega)) ?_
    rw [show m_at (4 : Int32).toNatClampNeg = s.2.2.1 from V.sd]
    refine wp_iload_n 51 d_Mo_holds_50 rfl rfl ?_
    refine wp_icmp_ne 58 54 d_Mo_holds_51 rfl (by decide) (fun h51 => ?_) (fun h51 => ?_)
    · refine wp_iconst 59 0 d_Mo_holds_58 rfl (by decide) ?_
      refine wp_zreturn d_Mo_holds_59 rfl (by first | rfl | exact nbP _) ?_
      have e : hoV t.te t.fr t.to_ t.ea t.no t.nL t.nP s 8 f = 0 := (if_pos rfl).trans (bP_f h51)
      have h9_ := hq (m_partBy, m_eastBy, m_northBy)
      rw [e] at h9_
      exact h9_
    · refine wp_iconst 55 1 d_Mo_holds_54 rfl (by decide) ?_
      refine wp_goto 59 d_Mo_holds_55 (by decide) ?_
      refine wp_zreturn d_Mo_holds_59 rfl (by first | rfl | exact nbP _) ?_
      have e : hoV t.te t.fr t.to_ t.ea t.no t.nL t.nP s 8 f = 1 := (if_pos rfl).trans (bP_t h51)
      have h9_ := hq (m_partBy, m_eastBy, m_northBy)
      rw [e] at h9_
      exact h9_
  by_cases h19_1 : m_at p - 1600 = 21
  · refine wp_tabIn (off := 41) 60 21 d_Mo_holds_19 h19_1 (by decide) (by decide) (by decide) (by decide) ?_
    obtain rfl := ROW_h21 hR hw h19_1
    refine wp_aload_n 61 d_Mo_holds_60 rfl rfl ?_
    refine wp_V0 64 M_Mo_isClosed 7 d_Mo_holds_61 rfl mv_Mo_isClosed lk_Mo_337 rfl rfl rfl rfl rfl ?_
    refine c_Mo_isClosed V (fun s2 h2 => ?_)
    refine kI ?_
    refine wp_zreturn d_Mo_holds_64 rfl (by first | rfl | exact nbP _) ?_
    have e : hoV t.te t.fr t.to_ t.ea t.no t.nL t.nP s 9 f = bP (tClo (tLt t s)) := (if_neg (by decide)).trans ((if_pos rfl).trans (rfl))
    have h9_ := hq s2
    rw [e] at h9_
    exact h9_
  by_cases h19_2 : m_at p - 1600 = 22
  · refine wp_tabIn (off := 46) 65 22 d_Mo_holds_19 h19_2 (by decide) (by decide) (by decide) (by decide) ?_
    obtain ⟨rfl, hr2⟩ := ROW_h22 hR hw h19_2
    rw [show m_at (p + 1) = f from hr2]
    refine wp_aload_n 66 d_Mo_holds_65 rfl rfl ?_
    refine wp_iconst 67 0 d_Mo_holds_66 rfl (by decide) ?_
    refine wp_V1 70 M_Mo_laysOut 6 d_Mo_holds_67 rfl mv_Mo_laysOut lk_Mo_315 rfl rfl rfl rfl rfl ?_
    refine c_lo0 V ?_
    refine kV ?_
    have hch := lm_0 V.ok V.in_ (m_partBy, m_eastBy, m_northBy)
    generalize lmF (tLt t s) False (m_partBy, m_eastBy, m_northBy) = s9 at hch ⊢
    refine wp_aload_n 71 d_Mo_holds_70 rfl rfl ?_
    refine wp_aload_n 72 d_Mo_holds_71 rfl rfl ?_
    refine wp_V0 75 M_Mo_missing 5 d_Mo_holds_72 rfl mv_Mo_missing lk_Mo_319 rfl rfl rfl rfl rfl ?_
    refine c_Mo_missing V ?_
    refine kI ?_
    refine wp_iload_n 76 d_Mo_holds_75 rfl rfl ?_
    refine wp_V2 79 M_Mo_isIn 1 d_Mo_holds_76 rfl mv_Mo_isIn lk_Mo_281 rfl rfl rfl rfl rfl ?_
    refine c_Mo_isIn ?_
    refine kI ?_
    refine wp_zreturn d_Mo_holds_79 rfl (by first | rfl | exact nbP _) ?_
    rw [mi_O V.ok hch]
    have e : hoV t.te t.fr t.to_ t.ea t.no t.nL t.nP s 10 f = bP (hs (tMi (tLt t s)) f) := (if_neg (by decide)).trans ((if_neg (by decide)).trans ((if_pos rfl).trans (rfl)))
    have h9_ := hq s9
    rw [e] at h9_
    exact h9_
  refine wp_tabOut 80 d_Mo_holds_19 (sw_o20 h19_0 h19_1 h19_2) (by decide) ?_
  refine wp_aload_n 81 d_Mo_holds_80 rfl rfl ?_
  refine wp_getfield 84 12 0 d_Mo_holds_81 rfl fl_Mo_7 rfl rfl ?_
  refine wp_iconst 85 5 d_Mo_holds_84 rfl (by decide) ?_
  refine wp_iaload 86 d_Mo_holds_85 rfl rfl (vp_in_nI (n := 5) (N := 2332) (by omega) (by omega)) ?_
  rw [show m_at (5 : Int32).toNatClampNeg = s.2.2.2.1 from V.go]
  refine wp_istore_3 87 d_Mo_holds_86 rfl rfl rfl ?_
  refine wp_aload_n 88 d_Mo_holds_87 rfl rfl ?_
  refine wp_getfield 91 12 0 d_Mo_holds_88 rfl fl_Mo_7 rfl rfl ?_
  refine wp_iload_n 92 d_Mo_holds_91 rfl rfl ?_
  refine wp_iconst 93 5 d_Mo_holds_92 rfl (by decide) ?_
  refine wp_iadd 94 d_Mo_holds_93 rfl ?_
  rw [show nI p + 5 = nI (p + 5) from nI_add p 5]
  refine wp_ialoadN 95 d_Mo_holds_94 rfl rfl rfl (by omega) ?_
  refine wp_bipush 97 60 d_Mo_holds_95 rfl (by decide) ?_
  refine wp_icmp_ne 120 100 d_Mo_holds_97 rfl (by decide) (fun h97 => ?_) (fun h97 => ?_)
  · refine wp_aload_n 121 d_Mo_holds_120 rfl rfl ?_
    refine wp_getfield 124 12 0 d_Mo_holds_121 rfl fl_Mo_7 rfl rfl ?_
    refine wp_iload_n 125 d_Mo_holds_124 rfl rfl ?_
    refine wp_iconst 126 5 d_Mo_holds_125 rfl (by decide) ?_
    refine wp_iadd 127 d_Mo_holds_126 rfl ?_
    rw [show nI p + 5 = nI (p + 5) from nI_add p 5]
    refine wp_ialoadN 128 d_Mo_holds_127 rfl rfl rfl (by omega) ?_
    refine wp_bipush 130 62 d_Mo_holds_128 rfl (by decide) ?_
    refine wp_icmp_ne 153 133 d_Mo_holds_130 rfl (by decide) (fun h130 => ?_) (fun h130 => ?_)
    · obtain ⟨rfl, hr2⟩ : k = 13 ∧ m_at (p + 2) = f := by
        rcases ROW_hd hR hw h19_0 h19_1 h19_2 with ⟨y1, y2, y3⟩ | ⟨y1, y2, y3⟩ | ⟨y1, y2, y3⟩
        · exact absurd y3 h97
        · exact absurd y3 h130
        · exact ⟨y1, y2⟩
      refine wp_iload_n 154 d_Mo_holds_153 rfl rfl ?_
      refine wp_aload_n 155 d_Mo_holds_154 rfl rfl ?_
      refine wp_getfield 158 12 0 d_Mo_holds_155 rfl fl_Mo_7 rfl rfl ?_
      refine wp_iload_n 159 d_Mo_holds_158 rfl rfl ?_
      refine wp_iconst 160 2 d_Mo_holds_159 rfl (by decide) ?_
      refine wp_iadd 161 d_Mo_holds_160 rfl ?_
      rw [show nI p + 2 = nI (p + 2) from nI_add p 2]
      refine wp_ialoadN 162 d_Mo_holds_161 rfl rfl rfl (by omega) ?_
      rw [hr2]
      refine wp_icmp_ne 169 165 d_Mo_holds_162 rfl (by decide) (fun h162 => ?_) (fun h162 => ?_)
      · refine wp_iconst 170 0 d_Mo_holds_169 rfl (by decide) ?_
        refine wp_zreturn d_Mo_holds_170 rfl (by first | rfl | exact nbP _) ?_
        have e : hoV t.te t.fr t.to_ t.ea t.no t.nL t.nP s 13 f = 0 := (if_neg (by decide)).trans ((if_neg (by decide)).trans ((if_neg (by decide)).trans ((if_neg (by decide)).trans ((if_neg (by decide)).trans (bP_f h162)))))
        have h9_ := hq (m_partBy, m_eastBy, m_northBy)
        rw [e] at h9_
        exact h9_
      · refine wp_iconst 166 1 d_Mo_holds_165 rfl (by decide) ?_
        refine wp_goto 170 d_Mo_holds_166 (by decide) ?_
        refine wp_zreturn d_Mo_holds_170 rfl (by first | rfl | exact nbP _) ?_
        have e : hoV t.te t.fr t.to_ t.ea t.no t.nL t.nP s 13 f = 1 := (if_neg (by decide)).trans ((if_neg (by decide)).trans ((if_neg (by decide)).trans ((if_neg (by decide)).trans ((if_neg (by decide)).trans (bP_t h162)))))
        have h9_ := hq (m_partBy, m_eastBy, m_northBy)
        rw [e] at h9_
        exact h9_
    · obtain ⟨rfl, hr2⟩ : k = 12 ∧ m_at (p + 2) = f := by
        rcases ROW_hd hR hw h19_0 h19_1 h19_2 with ⟨y1, y2, y3⟩ | ⟨y1, y2, y3⟩ | ⟨y1, y2, y3⟩
        · exact absurd y3 h97
        · exact ⟨y1, y2⟩
        · rw [y3] at h130; exact absurd h130 (by decide)
      refine wp_iload_n 134 d_Mo_holds_133 rfl rfl ?_
      refine wp_aload_n 135 d_Mo_holds_134 rfl rfl ?_
      refine wp_getfield 138 12 0 d_Mo_holds_135 rfl fl_Mo_7 rfl rfl ?_
      refine wp_iload_n 139 d_Mo_holds_138 rfl rfl ?_
      refine wp_iconst 140 2 d_Mo_holds_139 rfl (by decide) ?_
      refine wp_iadd 141 d_Mo_holds_140 rfl ?_
      rw [show nI p + 2 = nI (p + 2) from nI_add p 2]
      refine wp_ialoadN 142 d_Mo_holds_141 rfl rfl rfl (by omega) ?_
      rw [hr2]
      refine wp_icmp_le 149 145 d_Mo_holds_142 rfl (by decide) (fun h142 => ?_) (fun h142 => ?_)
      · refine wp_iconst 150 0 d_Mo_holds_149 rfl (by decide) ?_
        refine wp_goto 170 d_Mo_holds_150 (by decide) ?_
        refine wp_zreturn d_Mo_holds_170 rfl (by first | rfl | exact nbP _) ?_
        have e : hoV t.te t.fr t.to_ t.ea t.no t.nL t.nP s 12 f = 0 := (if_neg (by decide)).trans ((if_neg (by decide)).trans ((if_neg (by decide)).trans ((if_neg (by decide)).trans ((if_pos rfl).trans (bP_f (fun y => absurd h142 (Int32.not_le.mpr y)))))))
        have h9_ := hq (m_partBy, m_eastBy, m_northBy)
        rw [e] at h9_
        exact h9_
      · refine wp_iconst 146 1 d_Mo_holds_145 rfl (by decide) ?_
        refine wp_goto 170 d_Mo_holds_146 (by decide) ?_
        refine wp_zreturn d_Mo_holds_170 rfl (by first | rfl | exact nbP _) ?_
        have e : hoV t.te t.fr t.to_ t.ea t.no t.nL t.nP s 12 f = 1 := (if_neg (by decide)).trans ((if_neg (by decide)).trans ((if_neg (by decide)).trans ((if_neg (by decide)).trans ((if_pos rfl).trans (bP_t (Int32.not_le.mp h142))))))
        have h9_ := hq (m_partBy, m_eastBy, m_northBy)
        rw [e] at h9_
        exact h9_
  · obtain ⟨rfl, hr2⟩ : k = 11 ∧ m_at (p + 2) = f := by
      rcases ROW_hd hR hw h19_0 h19_1 h19_2 with ⟨y1, y2, y3⟩ | ⟨y1, y2, y3⟩ | ⟨y1, y2, y3⟩
      · exact ⟨y1, y2⟩
      · rw [y3] at h97; exact absurd h97 (by decide)
      · rw [y3] at h97; exact absurd h97 (by decide)
    refine wp_iload_n 101 d_Mo_holds_100 rfl rfl ?_
    refine wp_aload_n 102 d_Mo_holds_101 rfl rfl ?_
    refine wp_getfield 105 12 0 d_Mo_holds_102 rfl fl_Mo_7 rfl rfl ?_
    refine wp_iload_n 106 d_Mo_holds_105 rfl rfl ?_
    refine wp_iconst 107 2 d_Mo_holds_106 rfl (by decide) ?_
    refine wp_iadd 108 d_Mo_holds_107 rfl ?_
    rw [show nI p + 2 = nI (p + 2) from nI_add p 2]
    refine wp_ialoadN 109 d_Mo_holds_108 rfl rfl rfl (by omega) ?_
    rw [hr2]
    refine wp_icmp_ge 116 112 d_Mo_holds_109 rfl (by decide) (fun h109 => ?_) (fun h109 => ?_)
    · refine wp_iconst 117 0 d_Mo_holds_116 rfl (by decide) ?_
      refine wp_goto 170 d_Mo_holds_117 (by decide) ?_
      refine wp_zreturn d_Mo_holds_170 rfl (by first | rfl | exact nbP _) ?_
      have e : hoV t.te t.fr t.to_ t.ea t.no t.nL t.nP s 11 f = 0 := (if_neg (by decide)).trans ((if_neg (by decide)).trans ((if_neg (by decide)).trans ((if_pos rfl).trans (bP_f (fun y => absurd h109 (Int32.not_le.mpr y))))))
      have h9_ := hq (m_partBy, m_eastBy, m_northBy)
      rw [e] at h9_
      exact h9_
    · refine wp_iconst 113 1 d_Mo_holds_112 rfl (by decide) ?_
      refine wp_goto 170 d_Mo_holds_113 (by decide) ?_
      refine wp_zreturn d_Mo_holds_170 rfl (by first | rfl | exact nbP _) ?_
      have e : hoV t.te t.fr t.to_ t.ea t.no t.nL t.nP s 11 f = 1 := (if_neg (by decide)).trans ((if_neg (by decide)).trans ((if_neg (by decide)).trans ((if_pos rfl).trans (bP_t (Int32.not_le.mp h109)))))
      have h9_ := hq (m_partBy, m_eastBy, m_northBy)
      rw [e] at h9_
      exact h9_

set_option maxRecDepth 100000 in
set_option maxHeartbeats 4000000 in
theorem l_Mo_behindEnds_2 {D : DW} {nW : Nat} {w1 : Option Value} (hat7 : m_at 7 = nI D.nR) (hn : D.nR ≤ 60) (hrow : ∀ r, r < D.nR → ROW nW m_at (82 + 6 * r) (D.dk r) (D.df r) (D.ds r)) (W : WFD D) : ∀ (n p : Nat) (lo : Nat → Int32) (w3 w4 : Option Value), p ≤ 60 → erD D n p lo → Q (some (.int (nI (er D n p lo).1))) (hM m_at m_names m_status m_top m_bottom m_sort m_trayMany m_trays m_tape m_text m_taped m_size m_token m_from m_end m_value m_faultKind m_faultPlace m_faults m_seen m_areOdds m_opened m_depth m_counted m_eastBy m_northBy m_partBy m_wayFaults m_wayEast m_wayNorth m_olds m_wayMany m_oneOfSet m_twoOfSet m_farBy m_rowBy m_triedBy m_rowMany m_doneAt m_gotAt m_struckAt m_bestDeed m_misBy m_drawn m_ranSteps ((er D n p lo).2) m_ran m_told1 m_isTold m_marks) → WP Γ M_Mo_behindEnds 1 0 0 (hM m_at m_names m_status m_top m_bottom m_sort m_trayMany m_trays m_tape m_text m_taped m_size m_token m_from m_end m_value m_faultKind m_faultPlace m_faults m_seen m_areOdds m_opened m_depth m_counted m_eastBy m_northBy m_partBy m_wayFaults m_wayEast m_wayNorth m_olds m_wayMany m_oneOfSet m_twoOfSet m_farBy m_rowBy m_triedBy m_rowMany m_doneAt m_gotAt m_struckAt m_bestDeed m_misBy m_drawn m_ranSteps (lo) m_ran m_told1 m_isTold m_marks) 2 [some (.ref 0), w1, some (.int (nI p)), w3, w4] [] Q := by
  intro n
  induction n with
  | zero =>
    intro p lo w3 w4 hp60 hd hq
    refine wp_iload_n 3 d_Mo_behindEnds_2 rfl rfl ?_
    refine wp_aload_n 4 d_Mo_behindEnds_3 rfl rfl ?_
    refine wp_getfield 7 12 0 d_Mo_behindEnds_4 rfl fl_Mo_7 rfl rfl ?_
    refine wp_bipush 9 7 d_Mo_behindEnds_7 rfl (by decide) ?_
    refine wp_iaload 10 d_Mo_behindEnds_9 rfl rfl (vp_in_nI (n := 7) (N := 2332) (by omega) (by omega)) ?_
    rw [show m_at (7 : Int32).toNatClampNeg = nI D.nR from hat7]
    refine wp_icmp_ge 115 13 d_Mo_behindEnds_10 rfl (by decide) (fun h10 => ?_) (fun h10 => ?_)
    · refine wp_iload_n 116 d_Mo_behindEnds_115 rfl rfl ?_
      refine wp_ireturn d_Mo_behindEnds_116 rfl ?_
      rw [er_no (fun y => absurd (nI_leN (b := D.nR) h10 (by omega) (by omega)) (by have := y.1; omega))] at hq
      exact hq
    · have hp9 : p < D.nR := nI_nleN h10 (by omega) (by omega)
      have hRp := hrow p hp9
      refine wp_aload_n 14 d_Mo_behindEnds_13 rfl rfl ?_
      refine wp_getfield 17 12 0 d_Mo_behindEnds_14 rfl fl_Mo_7 rfl rfl ?_
      refine wp_bipush 19 82 d_Mo_behindEnds_17 rfl (by decide) ?_
      refine wp_bipush 21 6 d_Mo_behindEnds_19 rfl (by decide) ?_
      refine wp_iload_n 22 d_Mo_behindEnds_21 rfl rfl ?_
      refine wp_imul 23 d_Mo_behindEnds_22 rfl ?_
      rw [show (6 : Int32) * nI p = nI (6 * p) from mulK 6 p]
      refine wp_iadd 24 d_Mo_behindEnds_23 rfl ?_
      rw [show (82 : Int32) + nI (6 * p) = nI (82 + 6 * p) from nI_add 82 _]
      refine wp_ialoadN 25 d_Mo_behindEnds_24 rfl rfl rfl (by omega) ?_
      refine wp_bipush 27 18 d_Mo_behindEnds_25 rfl (by decide) ?_
      refine wp_icmp_ne 115 30 d_Mo_behindEnds_27 rfl (by decide) (fun h27 => ?_) (fun h27 => ?_)
      · refine wp_iload_n 116 d_Mo_behindEnds_115 rfl rfl ?_
        refine wp_ireturn d_Mo_behindEnds_116 rfl ?_
        rw [er_no (fun y => h27 ((ROW_18 hRp).mpr y.2))] at hq
        exact hq
      · have hk7 := (ROW_18 hRp).mp h27
        exact absurd ⟨hp9, hk7⟩ hd
  | succ n ih =>
    intro p lo w3 w4 hp60 hd hq
    refine wp_iload_n 3 d_Mo_behindEnds_2 rfl rfl ?_
    refine wp_aload_n 4 d_Mo_behindEnds_3 rfl rfl ?_
    refine wp_getfield 7 12 0 d_Mo_behindEnds_4 rfl fl_Mo_7 rfl rfl ?_
    refine wp_bipush 9 7 d_Mo_behindEnds_7 rfl (by decide) ?_
    refine wp_iaload 10 d_Mo_behindEnds_9 rfl rfl (vp_in_nI (n := 7) (N := 2332) (by omega) (by omega)) ?_
    rw [show m_at (7 : Int32).toNatClampNeg = nI D.nR from hat7]
    refine wp_icmp_ge 115 13 d_Mo_behindEnds_10 rfl (by decide) (fun h10 => ?_) (fun h10 => ?_)
    · refine wp_iload_n 116 d_Mo_behindEnds_115 rfl rfl ?_
      refine wp_ireturn d_Mo_behindEnds_116 rfl ?_
      rw [er_no (fun y => absurd (nI_leN (b := D.nR) h10 (by omega) (by omega)) (by have := y.1; omega))] at hq
      exact hq
    · have hp9 : p < D.nR := nI_nleN h10 (by omega) (by omega)
      have hRp := hrow p hp9
      refine wp_aload_n 14 d_Mo_behindEnds_13 rfl rfl ?_
      refine wp_getfield 17 12 0 d_Mo_behindEnds_14 rfl fl_Mo_7 rfl rfl ?_
      refine wp_bipush 19 82 d_Mo_behindEnds_17 rfl (by decide) ?_
      refine wp_bipush 21 6 d_Mo_behindEnds_19 rfl (by decide) ?_
      refine wp_iload_n 22 d_Mo_behindEnds_21 rfl rfl ?_
      refine wp_imul 23 d_Mo_behindEnds_22 rfl ?_
      rw [show (6 : Int32) * nI p = nI (6 * p) from mulK 6 p]
      refine wp_iadd 24 d_Mo_behindEnds_23 rfl ?_
      rw [show (82 : Int32) + nI (6 * p) = nI (82 + 6 * p) from nI_add 82 _]
      refine wp_ialoadN 25 d_Mo_behindEnds_24 rfl rfl rfl (by omega) ?_
      refine wp_bipush 27 18 d_Mo_behindEnds_25 rfl (by decide) ?_
      refine wp_icmp_ne 115 30 d_Mo_behindEnds_27 rfl (by decide) (fun h27 => ?_) (fun h27 => ?_)
      · refine wp_iload_n 116 d_Mo_behindEnds_115 rfl rfl ?_
        refine wp_ireturn d_Mo_behindEnds_116 rfl ?_
        rw [er_no (fun y => h27 ((ROW_18 hRp).mpr y.2))] at hq
        exact hq
      · have hk7 := (ROW_18 hRp).mp h27
        obtain ⟨b, hb, hb1, hb2, hb3⟩ := W.2.1 p hp9 hk7
        have ha4 := ROW_4 hRp (Or.inl hk7)
        have hRb := hrow b (by omega)
        have ebg : bg D p = b := by unfold bg; rw [hb1]; exact nI_clamp (by omega)
        refine wp_aload_n 31 d_Mo_behindEnds_30 rfl rfl ?_
        refine wp_getfield 34 12 0 d_Mo_behindEnds_31 rfl fl_Mo_7 rfl rfl ?_
        refine wp_bipush 36 82 d_Mo_behindEnds_34 rfl (by decide) ?_
        refine wp_bipush 38 6 d_Mo_behindEnds_36 rfl (by decide) ?_
        refine wp_iload_n 39 d_Mo_behindEnds_38 rfl rfl ?_
        refine wp_imul 40 d_Mo_behindEnds_39 rfl ?_
        rw [show (6 : Int32) * nI p = nI (6 * p) from mulK 6 p]
        refine wp_iadd 41 d_Mo_behindEnds_40 rfl ?_
        rw [show (82 : Int32) + nI (6 * p) = nI (82 + 6 * p) from nI_add 82 _]
        refine wp_iconst 42 4 d_Mo_behindEnds_41 rfl (by decide) ?_
        refine wp_iadd 43 d_Mo_behindEnds_42 rfl ?_
        rw [show nI (82 + 6 * p) + 4 = nI (82 + 6 * p + 4) from nI_add _ 4]
        refine wp_ialoadN 44 d_Mo_behindEnds_43 rfl rfl rfl (by omega) ?_
        rw [ha4, hb1]
        refine wp_istore_3 45 d_Mo_behindEnds_44 rfl rfl rfl ?_
        refine wp_aload_n 46 d_Mo_behindEnds_45 rfl rfl ?_
        refine wp_getfield 49 12 0 d_Mo_behindEnds_46 rfl fl_Mo_7 rfl rfl ?_
        refine wp_bipush 51 82 d_Mo_behindEnds_49 rfl (by decide) ?_
        refine wp_bipush 53 6 d_Mo_behindEnds_51 rfl (by decide) ?_
        refine wp_iload_n 54 d_Mo_behindEnds_53 rfl rfl ?_
        refine wp_imul 55 d_Mo_behindEnds_54 rfl ?_
        rw [show (6 : Int32) * nI b = nI (6 * b) from mulK 6 b]
        refine wp_iadd 56 d_Mo_behindEnds_55 rfl ?_
        rw [show (82 : Int32) + nI (6 * b) = nI (82 + 6 * b) from nI_add 82 _]
        refine wp_ialoadN 57 d_Mo_behindEnds_56 rfl rfl rfl (by omega) ?_
        refine wp_bipush 59 17 d_Mo_behindEnds_57 rfl (by decide) ?_
        refine wp_icmp_ne 75 62 d_Mo_behindEnds_59 rfl (by decide) (fun h59 => ?_) (fun h59 => ?_)
        · refine wp_iconst 76 0 d_Mo_behindEnds_75 rfl (by decide) ?_
          refine wp_istore_4 78 d_Mo_behindEnds_76 rfl rfl rfl ?_
          refine wp_aload_n 79 d_Mo_behindEnds_78 rfl rfl ?_
          refine wp_getfield 82 12 45 d_Mo_behindEnds_79 rfl fl_Mo_92 rfl rfl ?_
          refine wp_iload_n 83 d_Mo_behindEnds_82 rfl rfl ?_
          refine wp_dup2 84 d_Mo_behindEnds_83 rfl rfl rfl ?_
          refine wp_ialoadN 85 d_Mo_behindEnds_84 rfl rfl rfl (by omega) ?_
          refine wp_iload 87 d_Mo_behindEnds_85 rfl rfl ?_
          refine wp_if_eq 94 90 d_Mo_behindEnds_87 rfl (by decide) (fun h87 => ?_) (fun h87 => ?_)
          · refine wp_iconst 95 0 d_Mo_behindEnds_94 rfl (by decide) ?_
            refine wp_isub 96 d_Mo_behindEnds_95 rfl ?_
            refine wp_iastoreN 97 d_Mo_behindEnds_96 rfl rfl rfl (by omega) ?_
            refine hEq (hM m_at m_names m_status m_top m_bottom m_sort m_trayMany m_trays m_tape m_text m_taped m_size m_token m_from m_end m_value m_faultKind m_faultPlace m_faults m_seen m_areOdds m_opened m_depth m_counted m_eastBy m_northBy m_partBy m_wayFaults m_wayEast m_wayNorth m_olds m_wayMany m_oneOfSet m_twoOfSet m_farBy m_rowBy m_triedBy m_rowMany m_doneAt m_gotAt m_struckAt m_bestDeed m_misBy m_drawn m_ranSteps (lo) m_ran m_told1 m_isTold m_marks) (congrArg (fun a => (hM m_at m_names m_status m_top m_bottom m_sort m_trayMany m_trays m_tape m_text m_taped m_size m_token m_from m_end m_value m_faultKind m_faultPlace m_faults m_seen m_areOdds m_opened m_depth m_counted m_eastBy m_northBy m_partBy m_wayFaults m_wayEast m_wayNorth m_olds m_wayMany m_oneOfSet m_twoOfSet m_farBy m_rowBy m_triedBy m_rowMany m_doneAt m_gotAt m_struckAt m_bestDeed m_misBy m_drawn m_ranSteps (a) m_ran m_told1 m_isTold m_marks)) (show upd lo b (lo b - 0) = lo from upd_self (Int32.sub_zero _).symm)) ?_
            refine wp_iload 99 d_Mo_behindEnds_97 rfl rfl ?_
            refine wp_if_eq 108 102 d_Mo_behindEnds_99 rfl (by decide) (fun h99 => ?_) (fun h99 => ?_)
            · refine wp_iload_n 109 d_Mo_behindEnds_108 rfl rfl ?_
              refine wp_iconst 110 1 d_Mo_behindEnds_109 rfl (by decide) ?_
              refine wp_iadd 111 d_Mo_behindEnds_110 rfl ?_
              rw [nI_1]
              refine wp_istore_2 112 d_Mo_behindEnds_111 rfl rfl rfl ?_
              refine wp_goto 2 d_Mo_behindEnds_112 (by decide) ?_
              have e : er D (n + 1) p lo = er D n (p + 1) lo := (if_pos ⟨hp9, hk7⟩).trans (by rw [ebg]; exact if_neg (fun y => h59 ((ROW_17 hRb).mpr y.1)))
              unfold erD at hd
              rw [e] at hd hq
              exact ih (p + 1) _ _ _ (by omega) hd hq
            · exact absurd rfl h99
          · exact absurd rfl h87
        · refine wp_aload_n 63 d_Mo_behindEnds_62 rfl rfl ?_
          refine wp_getfield 66 12 45 d_Mo_behindEnds_63 rfl fl_Mo_92 rfl rfl ?_
          refine wp_iload_n 67 d_Mo_behindEnds_66 rfl rfl ?_
          refine wp_ialoadN 68 d_Mo_behindEnds_67 rfl rfl rfl (by omega) ?_
          refine wp_if_le 75 71 d_Mo_behindEnds_68 rfl (by decide) (fun h68 => ?_) (fun h68 => ?_)
          · refine wp_iconst 76 0 d_Mo_behindEnds_75 rfl (by decide) ?_
            refine wp_istore_4 78 d_Mo_behindEnds_76 rfl rfl rfl ?_
            refine wp_aload_n 79 d_Mo_behindEnds_78 rfl rfl ?_
            refine wp_getfield 82 12 45 d_Mo_behindEnds_79 rfl fl_Mo_92 rfl rfl ?_
            refine wp_iload_n 83 d_Mo_behindEnds_82 rfl rfl ?_
            refine wp_dup2 84 d_Mo_behindEnds_83 rfl rfl rfl ?_
            refine wp_ialoadN 85 d_Mo_behindEnds_84 rfl rfl rfl (by omega) ?_
            refine wp_iload 87 d_Mo_behindEnds_85 rfl rfl ?_
            refine wp_if_eq 94 90 d_Mo_behindEnds_87 rfl (by decide) (fun h87 => ?_) (fun h87 => ?_)
            · refine wp_iconst 95 0 d_Mo_behindEnds_94 rfl (by decide) ?_
              refine wp_isub 96 d_Mo_behindEnds_95 rfl ?_
              refine wp_iastoreN 97 d_Mo_behindEnds_96 rfl rfl rfl (by omega) ?_
              refine hEq (hM m_at m_names m_status m_top m_bottom m_sort m_trayMany m_trays m_tape m_text m_taped m_size m_token m_from m_end m_value m_faultKind m_faultPlace m_faults m_seen m_areOdds m_opened m_depth m_counted m_eastBy m_northBy m_partBy m_wayFaults m_wayEast m_wayNorth m_olds m_wayMany m_oneOfSet m_twoOfSet m_farBy m_rowBy m_triedBy m_rowMany m_doneAt m_gotAt m_struckAt m_bestDeed m_misBy m_drawn m_ranSteps (lo) m_ran m_told1 m_isTold m_marks) (congrArg (fun a => (hM m_at m_names m_status m_top m_bottom m_sort m_trayMany m_trays m_tape m_text m_taped m_size m_token m_from m_end m_value m_faultKind m_faultPlace m_faults m_seen m_areOdds m_opened m_depth m_counted m_eastBy m_northBy m_partBy m_wayFaults m_wayEast m_wayNorth m_olds m_wayMany m_oneOfSet m_twoOfSet m_farBy m_rowBy m_triedBy m_rowMany m_doneAt m_gotAt m_struckAt m_bestDeed m_misBy m_drawn m_ranSteps (a) m_ran m_told1 m_isTold m_marks)) (show upd lo b (lo b - 0) = lo from upd_self (Int32.sub_zero _).symm)) ?_
              refine wp_iload 99 d_Mo_behindEnds_97 rfl rfl ?_
              refine wp_if_eq 108 102 d_Mo_behindEnds_99 rfl (by decide) (fun h99 => ?_) (fun h99 => ?_)
              · refine wp_iload_n 109 d_Mo_behindEnds_108 rfl rfl ?_
                refine wp_iconst 110 1 d_Mo_behindEnds_109 rfl (by decide) ?_
                refine wp_iadd 111 d_Mo_behindEnds_110 rfl ?_
                rw [nI_1]
                refine wp_istore_2 112 d_Mo_behindEnds_111 rfl rfl rfl ?_
                refine wp_goto 2 d_Mo_behindEnds_112 (by decide) ?_
                have hc6 : D.dk b = 6 := (ROW_17 hRb).mp h59
                have e : er D (n + 1) p lo = er D n (p + 1) lo := (if_pos ⟨hp9, hk7⟩).trans (by rw [ebg]; exact if_neg (fun y => absurd h68 (Int32.not_le.mpr y.2)))
                unfold erD at hd
                rw [e] at hd hq
                exact ih (p + 1) _ _ _ (by omega) hd hq
              · exact absurd rfl h99
            · exact absurd rfl h87
          · refine wp_iconst 72 1 d_Mo_behindEnds_71 rfl (by decide) ?_
            refine wp_goto 76 d_Mo_behindEnds_72 (by decide) ?_
            refine wp_istore_4 78 d_Mo_behindEnds_76 rfl rfl rfl ?_
            refine wp_aload_n 79 d_Mo_behindEnds_78 rfl rfl ?_
            refine wp_getfield 82 12 45 d_Mo_behindEnds_79 rfl fl_Mo_92 rfl rfl ?_
            refine wp_iload_n 83 d_Mo_behindEnds_82 rfl rfl ?_
            refine wp_dup2 84 d_Mo_behindEnds_83 rfl rfl rfl ?_
            refine wp_ialoadN 85 d_Mo_behindEnds_84 rfl rfl rfl (by omega) ?_
            refine wp_iload 87 d_Mo_behindEnds_85 rfl rfl ?_
            refine wp_if_eq 94 90 d_Mo_behindEnds_87 rfl (by decide) (fun h87 => ?_) (fun h87 => ?_)
            · exact absurd h87 (by decide)
            · refine wp_iconst 91 1 d_Mo_behindEnds_90 rfl (by decide) ?_
              refine wp_goto 95 d_Mo_behindEnds_91 (by decide) ?_
              refine wp_isub 96 d_Mo_behindEnds_95 rfl ?_
              refine wp_iastoreN 97 d_Mo_behindEnds_96 rfl rfl rfl (by omega) ?_
              refine hEq (hM m_at m_names m_status m_top m_bottom m_sort m_trayMany m_trays m_tape m_text m_taped m_size m_token m_from m_end m_value m_faultKind m_faultPlace m_faults m_seen m_areOdds m_opened m_depth m_counted m_eastBy m_northBy m_partBy m_wayFaults m_wayEast m_wayNorth m_olds m_wayMany m_oneOfSet m_twoOfSet m_farBy m_rowBy m_triedBy m_rowMany m_doneAt m_gotAt m_struckAt m_bestDeed m_misBy m_drawn m_ranSteps (upd lo b (lo b - 1)) m_ran m_told1 m_isTold m_marks) rfl ?_
              refine wp_iload 99 d_Mo_behindEnds_97 rfl rfl ?_
              refine wp_if_eq 108 102 d_Mo_behindEnds_99 rfl (by decide) (fun h99 => ?_) (fun h99 => ?_)
              · exact absurd h99 (by decide)
              · refine wp_iload_n 103 d_Mo_behindEnds_102 rfl rfl ?_
                refine wp_iconst 104 1 d_Mo_behindEnds_103 rfl (by decide) ?_
                refine wp_iadd 105 d_Mo_behindEnds_104 rfl ?_
                rw [nI_1]
                refine wp_goto 111 d_Mo_behindEnds_105 (by decide) ?_
                refine wp_istore_2 112 d_Mo_behindEnds_111 rfl rfl rfl ?_
                refine wp_goto 2 d_Mo_behindEnds_112 (by decide) ?_
                have hc6 : D.dk b = 6 := (ROW_17 hRb).mp h59
                have e : er D (n + 1) p lo = er D n (b + 1) (upd lo b (lo b - 1)) := (if_pos ⟨hp9, hk7⟩).trans (by rw [ebg]; exact if_pos ⟨hc6, Int32.not_le.mp h68⟩)
                unfold erD at hd
                rw [e] at hd hq
                exact ih (b + 1) _ _ _ (by omega) hd hq
set_option maxRecDepth 100000 in
set_option maxHeartbeats 4000000 in
theorem c_Mo_behindEnds {D : DW} {nW n p : Nat} (hat7 : m_at 7 = nI D.nR) (hn : D.nR ≤ 60) (hrow : ∀ r, r < D.nR → ROW nW m_at (82 + 6 * r) (D.dk r) (D.df r) (D.ds r)) (W : WFD D) (hp : p ≤ 60) (hd : erD D n p m_loops) (hq : Q (some (.int (nI (er D n p m_loops).1))) (hM m_at m_names m_status m_top m_bottom m_sort m_trayMany m_trays m_tape m_text m_taped m_size m_token m_from m_end m_value m_faultKind m_faultPlace m_faults m_seen m_areOdds m_opened m_depth m_counted m_eastBy m_northBy m_partBy m_wayFaults m_wayEast m_wayNorth m_olds m_wayMany m_oneOfSet m_twoOfSet m_farBy m_rowBy m_triedBy m_rowMany m_doneAt m_gotAt m_struckAt m_bestDeed m_misBy m_drawn m_ranSteps ((er D n p m_loops).2) m_ran m_told1 m_isTold m_marks)) : Call Γ M_Mo_behindEnds 1 0 0 [.ref 0, .int (nI p)] (hM m_at m_names m_status m_top m_bottom m_sort m_trayMany m_trays m_tape m_text m_taped m_size m_token m_from m_end m_value m_faultKind m_faultPlace m_faults m_seen m_areOdds m_opened m_depth m_counted m_eastBy m_northBy m_partBy m_wayFaults m_wayEast m_wayNorth m_olds m_wayMany m_oneOfSet m_twoOfSet m_farBy m_rowBy m_triedBy m_rowMany m_doneAt m_gotAt m_struckAt m_bestDeed m_misBy m_drawn m_ranSteps m_loops m_ran m_told1 m_isTold m_marks) Q := by
  refine call_intro (ls := [some (.ref 0), some (.int (nI p)), none, none, none]) rfl rfl rfl ?_
  refine wp_iload_n 1 d_Mo_behindEnds_0 rfl rfl ?_
  refine wp_istore_2 2 d_Mo_behindEnds_1 rfl rfl rfl ?_
  exact l_Mo_behindEnds_2 hat7 hn hrow W n p m_loops none none hp hd hq

end TA6
