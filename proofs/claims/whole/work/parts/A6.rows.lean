/-! ===== the reference: steps of DAYS ===== -/
theorem sw_o11 {x : Int32} (h0 : ¬ x = 11) (h1 : ¬ x = 12) (h2 : ¬ x = 13) (h3 : ¬ x = 14) (h4 : ¬ x = 15) : x.toInt < 11 ∨ 15 < x.toInt := by
  have k : ∀ y : Int32, x.toInt = y.toInt → x = y := fun y e => Int32.toInt_inj.mp e
  by_cases a : x.toInt < 11
  · exact Or.inl a
  · by_cases b : 15 < x.toInt
    · exact Or.inr b
    · exfalso
      have e : x.toInt = 11 ∨ x.toInt = 12 ∨ x.toInt = 13 ∨ x.toInt = 14 ∨ x.toInt = 15 := by omega
      rcases e with e | e | e | e | e
      · exact h0 (k 11 e)
      · exact h1 (k 12 e)
      · exact h2 (k 13 e)
      · exact h3 (k 14 e)
      · exact h4 (k 15 e)
theorem sw_o20 {x : Int32} (h0 : ¬ x = 20) (h1 : ¬ x = 21) (h2 : ¬ x = 22) : x.toInt < 20 ∨ 22 < x.toInt := by
  have k : ∀ y : Int32, x.toInt = y.toInt → x = y := fun y e => Int32.toInt_inj.mp e
  by_cases a : x.toInt < 20
  · exact Or.inl a
  · by_cases b : 22 < x.toInt
    · exact Or.inr b
    · exfalso
      have e : x.toInt = 20 ∨ x.toInt = 21 ∨ x.toInt = 22 := by omega
      rcases e with e | e | e
      · exact h0 (k 20 e)
      · exact h1 (k 21 e)
      · exact h2 (k 22 e)
theorem ROW_11 {nW p : Nat} {a : Nat → Int32} {k f s : Int32} (h : ROW nW a p k f s) (e : a p = 11) : k = 0 ∧ legK f ∧ a (p + 1) = f := by
  rcases h with ⟨h0, h1, h2, h3⟩ | ⟨h0, h1, h2, h3⟩ | ⟨h0, h1, h2, h3⟩ | ⟨h0, h1, h2, h3, h4, h5⟩ | ⟨h0, h1⟩ | ⟨h0, h1⟩ | ⟨h0, h1, h2, h3, h4⟩ | ⟨h0, h1, h2⟩ | ⟨h0, h1, h2, h3⟩ | ⟨h0, h1, h2⟩ | ⟨h0, h1, h2, h3, h4⟩ | ⟨h0, h1, h2, h3, h4⟩ | ⟨h0, h1, h2, h3, h4⟩ | ⟨h0, h1, h2, h3, h4⟩
  · exact ⟨h0, h2, h3⟩
  · exact absurd (h1.symm.trans e) (by decide)
  · exact absurd (h1.symm.trans e) (by decide)
  · exact absurd (h1.symm.trans e) (by decide)
  · exact absurd (h1.symm.trans e) (by decide)
  · exact absurd (h1.symm.trans e) (by decide)
  · exact absurd (h1.symm.trans e) (by decide)
  · exact absurd (h1.symm.trans e) (by decide)
  · exact absurd (h1.symm.trans e) (by decide)
  · exact absurd (h1.symm.trans e) (by decide)
  · exact absurd (h1.symm.trans e) (by decide)
  · exact absurd (h1.symm.trans e) (by decide)
  · exact absurd (h1.symm.trans e) (by decide)
  · exact absurd (h1.symm.trans e) (by decide)
theorem ROW_12 {nW p : Nat} {a : Nat → Int32} {k f s : Int32} (h : ROW nW a p k f s) (e : a p = 12) : k = 1 ∧ legK f ∧ a (p + 1) = f := by
  rcases h with ⟨h0, h1, h2, h3⟩ | ⟨h0, h1, h2, h3⟩ | ⟨h0, h1, h2, h3⟩ | ⟨h0, h1, h2, h3, h4, h5⟩ | ⟨h0, h1⟩ | ⟨h0, h1⟩ | ⟨h0, h1, h2, h3, h4⟩ | ⟨h0, h1, h2⟩ | ⟨h0, h1, h2, h3⟩ | ⟨h0, h1, h2⟩ | ⟨h0, h1, h2, h3, h4⟩ | ⟨h0, h1, h2, h3, h4⟩ | ⟨h0, h1, h2, h3, h4⟩ | ⟨h0, h1, h2, h3, h4⟩
  · exact absurd (h1.symm.trans e) (by decide)
  · exact ⟨h0, h2, h3⟩
  · exact absurd (h1.symm.trans e) (by decide)
  · exact absurd (h1.symm.trans e) (by decide)
  · exact absurd (h1.symm.trans e) (by decide)
  · exact absurd (h1.symm.trans e) (by decide)
  · exact absurd (h1.symm.trans e) (by decide)
  · exact absurd (h1.symm.trans e) (by decide)
  · exact absurd (h1.symm.trans e) (by decide)
  · exact absurd (h1.symm.trans e) (by decide)
  · exact absurd (h1.symm.trans e) (by decide)
  · exact absurd (h1.symm.trans e) (by decide)
  · exact absurd (h1.symm.trans e) (by decide)
  · exact absurd (h1.symm.trans e) (by decide)
theorem ROW_13 {nW p : Nat} {a : Nat → Int32} {k f s : Int32} (h : ROW nW a p k f s) (e : a p = 13) : k = 2 ∧ legK f ∧ a (p + 1) = f := by
  rcases h with ⟨h0, h1, h2, h3⟩ | ⟨h0, h1, h2, h3⟩ | ⟨h0, h1, h2, h3⟩ | ⟨h0, h1, h2, h3, h4, h5⟩ | ⟨h0, h1⟩ | ⟨h0, h1⟩ | ⟨h0, h1, h2, h3, h4⟩ | ⟨h0, h1, h2⟩ | ⟨h0, h1, h2, h3⟩ | ⟨h0, h1, h2⟩ | ⟨h0, h1, h2, h3, h4⟩ | ⟨h0, h1, h2, h3, h4⟩ | ⟨h0, h1, h2, h3, h4⟩ | ⟨h0, h1, h2, h3, h4⟩
  · exact absurd (h1.symm.trans e) (by decide)
  · exact absurd (h1.symm.trans e) (by decide)
  · exact ⟨h0, h2, h3⟩
  · exact absurd (h1.symm.trans e) (by decide)
  · exact absurd (h1.symm.trans e) (by decide)
  · exact absurd (h1.symm.trans e) (by decide)
  · exact absurd (h1.symm.trans e) (by decide)
  · exact absurd (h1.symm.trans e) (by decide)
  · exact absurd (h1.symm.trans e) (by decide)
  · exact absurd (h1.symm.trans e) (by decide)
  · exact absurd (h1.symm.trans e) (by decide)
  · exact absurd (h1.symm.trans e) (by decide)
  · exact absurd (h1.symm.trans e) (by decide)
  · exact absurd (h1.symm.trans e) (by decide)
theorem ROW_14 {nW p : Nat} {a : Nat → Int32} {k f s : Int32} (h : ROW nW a p k f s) (e : a p = 14) : k = 3 ∧ a (p + 1) = f ∧ a (p + 2) = s ∧ inR f (nI nW) ∧ inR s 24 := by
  rcases h with ⟨h0, h1, h2, h3⟩ | ⟨h0, h1, h2, h3⟩ | ⟨h0, h1, h2, h3⟩ | ⟨h0, h1, h2, h3, h4, h5⟩ | ⟨h0, h1⟩ | ⟨h0, h1⟩ | ⟨h0, h1, h2, h3, h4⟩ | ⟨h0, h1, h2⟩ | ⟨h0, h1, h2, h3⟩ | ⟨h0, h1, h2⟩ | ⟨h0, h1, h2, h3, h4⟩ | ⟨h0, h1, h2, h3, h4⟩ | ⟨h0, h1, h2, h3, h4⟩ | ⟨h0, h1, h2, h3, h4⟩
  · exact absurd (h1.symm.trans e) (by decide)
  · exact absurd (h1.symm.trans e) (by decide)
  · exact absurd (h1.symm.trans e) (by decide)
  · exact ⟨h0, h2, h3, h4, h5⟩
  · exact absurd (h1.symm.trans e) (by decide)
  · exact absurd (h1.symm.trans e) (by decide)
  · exact absurd (h1.symm.trans e) (by decide)
  · exact absurd (h1.symm.trans e) (by decide)
  · exact absurd (h1.symm.trans e) (by decide)
  · exact absurd (h1.symm.trans e) (by decide)
  · exact absurd (h1.symm.trans e) (by decide)
  · exact absurd (h1.symm.trans e) (by decide)
  · exact absurd (h1.symm.trans e) (by decide)
  · exact absurd (h1.symm.trans e) (by decide)
theorem ROW_15 {nW p : Nat} {a : Nat → Int32} {k f s : Int32} (h : ROW nW a p k f s) (e : a p = 15) : k = 4 := by
  rcases h with ⟨h0, h1, h2, h3⟩ | ⟨h0, h1, h2, h3⟩ | ⟨h0, h1, h2, h3⟩ | ⟨h0, h1, h2, h3, h4, h5⟩ | ⟨h0, h1⟩ | ⟨h0, h1⟩ | ⟨h0, h1, h2, h3, h4⟩ | ⟨h0, h1, h2⟩ | ⟨h0, h1, h2, h3⟩ | ⟨h0, h1, h2⟩ | ⟨h0, h1, h2, h3, h4⟩ | ⟨h0, h1, h2, h3, h4⟩ | ⟨h0, h1, h2, h3, h4⟩ | ⟨h0, h1, h2, h3, h4⟩
  · exact absurd (h1.symm.trans e) (by decide)
  · exact absurd (h1.symm.trans e) (by decide)
  · exact absurd (h1.symm.trans e) (by decide)
  · exact absurd (h1.symm.trans e) (by decide)
  · exact h0
  · exact absurd (h1.symm.trans e) (by decide)
  · exact absurd (h1.symm.trans e) (by decide)
  · exact absurd (h1.symm.trans e) (by decide)
  · exact absurd (h1.symm.trans e) (by decide)
  · exact absurd (h1.symm.trans e) (by decide)
  · exact absurd (h1.symm.trans e) (by decide)
  · exact absurd (h1.symm.trans e) (by decide)
  · exact absurd (h1.symm.trans e) (by decide)
  · exact absurd (h1.symm.trans e) (by decide)
theorem ROW_d {nW p : Nat} {a : Nat → Int32} {k f s : Int32} (h : ROW nW a p k f s) (e1 : ¬ a p = 11) (e2 : ¬ a p = 12) (e3 : ¬ a p = 13) (e4 : ¬ a p = 14) (e5 : ¬ a p = 15) : ¬ k = 0 ∧ ¬ k = 1 ∧ ¬ k = 2 ∧ ¬ k = 3 ∧ ¬ k = 4 := by
  rcases h with ⟨h0, h1, h2, h3⟩ | ⟨h0, h1, h2, h3⟩ | ⟨h0, h1, h2, h3⟩ | ⟨h0, h1, h2, h3, h4, h5⟩ | ⟨h0, h1⟩ | ⟨h0, h1⟩ | ⟨h0, h1, h2, h3, h4⟩ | ⟨h0, h1, h2⟩ | ⟨h0, h1, h2, h3⟩ | ⟨h0, h1, h2⟩ | ⟨h0, h1, h2, h3, h4⟩ | ⟨h0, h1, h2, h3, h4⟩ | ⟨h0, h1, h2, h3, h4⟩ | ⟨h0, h1, h2, h3, h4⟩
  · exact absurd h1 e1
  · exact absurd h1 e2
  · exact absurd h1 e3
  · exact absurd h1 e4
  · exact absurd h1 e5
  · rw [h0]; decide
  · rw [h0]; decide
  · rw [h0]; decide
  · rw [h0]; decide
  · rw [h0]; decide
  · rw [h0]; decide
  · rw [h0]; decide
  · rw [h0]; decide
  · rw [h0]; decide
theorem ROW_19 {nW p : Nat} {a : Nat → Int32} {k f s : Int32} (h : ROW nW a p k f s)  : a p = 19 ↔ k = 5 := by
  rcases h with ⟨h0, h1, h2, h3⟩ | ⟨h0, h1, h2, h3⟩ | ⟨h0, h1, h2, h3⟩ | ⟨h0, h1, h2, h3, h4, h5⟩ | ⟨h0, h1⟩ | ⟨h0, h1⟩ | ⟨h0, h1, h2, h3, h4⟩ | ⟨h0, h1, h2⟩ | ⟨h0, h1, h2, h3⟩ | ⟨h0, h1, h2⟩ | ⟨h0, h1, h2, h3, h4⟩ | ⟨h0, h1, h2, h3, h4⟩ | ⟨h0, h1, h2, h3, h4⟩ | ⟨h0, h1, h2, h3, h4⟩
  · rw [h0, h1]; decide
  · rw [h0, h1]; decide
  · rw [h0, h1]; decide
  · rw [h0, h1]; decide
  · rw [h0, h1]; decide
  · exact ⟨fun _ => h0, fun _ => h1⟩
  · rw [h0, h1]; decide
  · rw [h0, h1]; decide
  · rw [h0, h1]; decide
  · rw [h0, h1]; decide
  · rw [h0, h1]; decide
  · rw [h0, h1]; decide
  · rw [h0, h1]; decide
  · rw [h0, h1]; decide
theorem ROW_18 {nW p : Nat} {a : Nat → Int32} {k f s : Int32} (h : ROW nW a p k f s)  : a p = 18 ↔ k = 7 := by
  rcases h with ⟨h0, h1, h2, h3⟩ | ⟨h0, h1, h2, h3⟩ | ⟨h0, h1, h2, h3⟩ | ⟨h0, h1, h2, h3, h4, h5⟩ | ⟨h0, h1⟩ | ⟨h0, h1⟩ | ⟨h0, h1, h2, h3, h4⟩ | ⟨h0, h1, h2⟩ | ⟨h0, h1, h2, h3⟩ | ⟨h0, h1, h2⟩ | ⟨h0, h1, h2, h3, h4⟩ | ⟨h0, h1, h2, h3, h4⟩ | ⟨h0, h1, h2, h3, h4⟩ | ⟨h0, h1, h2, h3, h4⟩
  · rw [h0, h1]; decide
  · rw [h0, h1]; decide
  · rw [h0, h1]; decide
  · rw [h0, h1]; decide
  · rw [h0, h1]; decide
  · rw [h0, h1]; decide
  · rw [h0, h1]; decide
  · exact ⟨fun _ => h0, fun _ => h1⟩
  · rw [h0, h1]; decide
  · rw [h0, h1]; decide
  · rw [h0, h1]; decide
  · rw [h0, h1]; decide
  · rw [h0, h1]; decide
  · rw [h0, h1]; decide
theorem ROW_17 {nW p : Nat} {a : Nat → Int32} {k f s : Int32} (h : ROW nW a p k f s)  : a p = 17 ↔ k = 6 := by
  rcases h with ⟨h0, h1, h2, h3⟩ | ⟨h0, h1, h2, h3⟩ | ⟨h0, h1, h2, h3⟩ | ⟨h0, h1, h2, h3, h4, h5⟩ | ⟨h0, h1⟩ | ⟨h0, h1⟩ | ⟨h0, h1, h2, h3, h4⟩ | ⟨h0, h1, h2⟩ | ⟨h0, h1, h2, h3⟩ | ⟨h0, h1, h2⟩ | ⟨h0, h1, h2, h3, h4⟩ | ⟨h0, h1, h2, h3, h4⟩ | ⟨h0, h1, h2, h3, h4⟩ | ⟨h0, h1, h2, h3, h4⟩
  · rw [h0, h1]; decide
  · rw [h0, h1]; decide
  · rw [h0, h1]; decide
  · rw [h0, h1]; decide
  · rw [h0, h1]; decide
  · rw [h0, h1]; decide
  · exact ⟨fun _ => h0, fun _ => h1⟩
  · rw [h0, h1]; decide
  · rw [h0, h1]; decide
  · rw [h0, h1]; decide
  · rw [h0, h1]; decide
  · rw [h0, h1]; decide
  · rw [h0, h1]; decide
  · rw [h0, h1]; decide
theorem ROW_w {nW p : Nat} {a : Nat → Int32} {k f s : Int32} (h : ROW nW a p k f s)  : 1600 ≤ a p ↔ (opn k ∧ ¬ k = 6) := by
  rcases h with ⟨h0, h1, h2, h3⟩ | ⟨h0, h1, h2, h3⟩ | ⟨h0, h1, h2, h3⟩ | ⟨h0, h1, h2, h3, h4, h5⟩ | ⟨h0, h1⟩ | ⟨h0, h1⟩ | ⟨h0, h1, h2, h3, h4⟩ | ⟨h0, h1, h2⟩ | ⟨h0, h1, h2, h3⟩ | ⟨h0, h1, h2⟩ | ⟨h0, h1, h2, h3, h4⟩ | ⟨h0, h1, h2, h3, h4⟩ | ⟨h0, h1, h2, h3, h4⟩ | ⟨h0, h1, h2, h3, h4⟩
  · rw [h0, h1]; unfold opn; decide
  · rw [h0, h1]; unfold opn; decide
  · rw [h0, h1]; unfold opn; decide
  · rw [h0, h1]; unfold opn; decide
  · rw [h0, h1]; unfold opn; decide
  · rw [h0, h1]; unfold opn; decide
  · rw [h0, h1]; unfold opn; decide
  · rw [h0, h1]; unfold opn; decide
  · rw [h0, h1]; unfold opn; decide
  · rw [h0, h1]; unfold opn; decide
  · rw [h0, h1]; unfold opn; decide
  · rw [h0, h1]; unfold opn; decide
  · rw [h0, h1]; unfold opn; decide
  · rw [h0, h1]; unfold opn; decide
theorem ROW_17a {nW p : Nat} {a : Nat → Int32} {k f s : Int32} (h : ROW nW a p k f s) (e : k = 6) : (∃ n, 1 ≤ n ∧ n ≤ 99 ∧ f = nI n) ∧ a (p + 1) = f := by
  rcases h with ⟨h0, h1, h2, h3⟩ | ⟨h0, h1, h2, h3⟩ | ⟨h0, h1, h2, h3⟩ | ⟨h0, h1, h2, h3, h4, h5⟩ | ⟨h0, h1⟩ | ⟨h0, h1⟩ | ⟨h0, h1, h2, h3, h4⟩ | ⟨h0, h1, h2⟩ | ⟨h0, h1, h2, h3⟩ | ⟨h0, h1, h2⟩ | ⟨h0, h1, h2, h3, h4⟩ | ⟨h0, h1, h2, h3, h4⟩ | ⟨h0, h1, h2, h3, h4⟩ | ⟨h0, h1, h2, h3, h4⟩
  · exact absurd (h0.symm.trans e) (by decide)
  · exact absurd (h0.symm.trans e) (by decide)
  · exact absurd (h0.symm.trans e) (by decide)
  · exact absurd (h0.symm.trans e) (by decide)
  · exact absurd (h0.symm.trans e) (by decide)
  · exact absurd (h0.symm.trans e) (by decide)
  · exact ⟨h2, h3⟩
  · exact absurd (h0.symm.trans e) (by decide)
  · exact absurd (h0.symm.trans e) (by decide)
  · exact absurd (h0.symm.trans e) (by decide)
  · exact absurd (h0.symm.trans e) (by decide)
  · exact absurd (h0.symm.trans e) (by decide)
  · exact absurd (h0.symm.trans e) (by decide)
  · exact absurd (h0.symm.trans e) (by decide)
theorem ROW_4 {nW p : Nat} {a : Nat → Int32} {k f s : Int32} (h : ROW nW a p k f s) (e : k = 7 ∨ opn k) : a (p + 4) = s := by
  rcases h with ⟨h0, h1, h2, h3⟩ | ⟨h0, h1, h2, h3⟩ | ⟨h0, h1, h2, h3⟩ | ⟨h0, h1, h2, h3, h4, h5⟩ | ⟨h0, h1⟩ | ⟨h0, h1⟩ | ⟨h0, h1, h2, h3, h4⟩ | ⟨h0, h1, h2⟩ | ⟨h0, h1, h2, h3⟩ | ⟨h0, h1, h2⟩ | ⟨h0, h1, h2, h3, h4⟩ | ⟨h0, h1, h2, h3, h4⟩ | ⟨h0, h1, h2, h3, h4⟩ | ⟨h0, h1, h2, h3, h4⟩
  · rw [h0] at e; exact absurd e (by unfold opn; decide)
  · rw [h0] at e; exact absurd e (by unfold opn; decide)
  · rw [h0] at e; exact absurd e (by unfold opn; decide)
  · rw [h0] at e; exact absurd e (by unfold opn; decide)
  · rw [h0] at e; exact absurd e (by unfold opn; decide)
  · rw [h0] at e; exact absurd e (by unfold opn; decide)
  · exact h4
  · exact h2
  · exact h3
  · exact h2
  · exact h4
  · exact h4
  · exact h4
  · exact h4
theorem ROW_h20 {nW p : Nat} {a : Nat → Int32} {k f s : Int32} (h : ROW nW a p k f s) (w : 1600 ≤ a p) (e : a p - 1600 = 20) : k = 8 ∧ a (p + 1) = f := by
  rcases h with ⟨h0, h1, h2, h3⟩ | ⟨h0, h1, h2, h3⟩ | ⟨h0, h1, h2, h3⟩ | ⟨h0, h1, h2, h3, h4, h5⟩ | ⟨h0, h1⟩ | ⟨h0, h1⟩ | ⟨h0, h1, h2, h3, h4⟩ | ⟨h0, h1, h2⟩ | ⟨h0, h1, h2, h3⟩ | ⟨h0, h1, h2⟩ | ⟨h0, h1, h2, h3, h4⟩ | ⟨h0, h1, h2, h3, h4⟩ | ⟨h0, h1, h2, h3, h4⟩ | ⟨h0, h1, h2, h3, h4⟩
  · rw [h1] at w e; first | exact absurd w (by decide) | exact absurd e (by decide)
  · rw [h1] at w e; first | exact absurd w (by decide) | exact absurd e (by decide)
  · rw [h1] at w e; first | exact absurd w (by decide) | exact absurd e (by decide)
  · rw [h1] at w e; first | exact absurd w (by decide) | exact absurd e (by decide)
  · rw [h1] at w e; first | exact absurd w (by decide) | exact absurd e (by decide)
  · rw [h1] at w e; first | exact absurd w (by decide) | exact absurd e (by decide)
  · rw [h1] at w e; first | exact absurd w (by decide) | exact absurd e (by decide)
  · rw [h1] at w e; first | exact absurd w (by decide) | exact absurd e (by decide)
  · exact ⟨h0, h2⟩
  · rw [h1] at w e; first | exact absurd w (by decide) | exact absurd e (by decide)
  · rw [h1] at w e; first | exact absurd w (by decide) | exact absurd e (by decide)
  · rw [h1] at w e; first | exact absurd w (by decide) | exact absurd e (by decide)
  · rw [h1] at w e; first | exact absurd w (by decide) | exact absurd e (by decide)
  · rw [h1] at w e; first | exact absurd w (by decide) | exact absurd e (by decide)
theorem ROW_h21 {nW p : Nat} {a : Nat → Int32} {k f s : Int32} (h : ROW nW a p k f s) (w : 1600 ≤ a p) (e : a p - 1600 = 21) : k = 9 := by
  rcases h with ⟨h0, h1, h2, h3⟩ | ⟨h0, h1, h2, h3⟩ | ⟨h0, h1, h2, h3⟩ | ⟨h0, h1, h2, h3, h4, h5⟩ | ⟨h0, h1⟩ | ⟨h0, h1⟩ | ⟨h0, h1, h2, h3, h4⟩ | ⟨h0, h1, h2⟩ | ⟨h0, h1, h2, h3⟩ | ⟨h0, h1, h2⟩ | ⟨h0, h1, h2, h3, h4⟩ | ⟨h0, h1, h2, h3, h4⟩ | ⟨h0, h1, h2, h3, h4⟩ | ⟨h0, h1, h2, h3, h4⟩
  · rw [h1] at w e; first | exact absurd w (by decide) | exact absurd e (by decide)
  · rw [h1] at w e; first | exact absurd w (by decide) | exact absurd e (by decide)
  · rw [h1] at w e; first | exact absurd w (by decide) | exact absurd e (by decide)
  · rw [h1] at w e; first | exact absurd w (by decide) | exact absurd e (by decide)
  · rw [h1] at w e; first | exact absurd w (by decide) | exact absurd e (by decide)
  · rw [h1] at w e; first | exact absurd w (by decide) | exact absurd e (by decide)
  · rw [h1] at w e; first | exact absurd w (by decide) | exact absurd e (by decide)
  · rw [h1] at w e; first | exact absurd w (by decide) | exact absurd e (by decide)
  · rw [h1] at w e; first | exact absurd w (by decide) | exact absurd e (by decide)
  · exact h0
  · rw [h1] at w e; first | exact absurd w (by decide) | exact absurd e (by decide)
  · rw [h1] at w e; first | exact absurd w (by decide) | exact absurd e (by decide)
  · rw [h1] at w e; first | exact absurd w (by decide) | exact absurd e (by decide)
  · rw [h1] at w e; first | exact absurd w (by decide) | exact absurd e (by decide)
theorem ROW_h22 {nW p : Nat} {a : Nat → Int32} {k f s : Int32} (h : ROW nW a p k f s) (w : 1600 ≤ a p) (e : a p - 1600 = 22) : k = 10 ∧ a (p + 1) = f := by
  rcases h with ⟨h0, h1, h2, h3⟩ | ⟨h0, h1, h2, h3⟩ | ⟨h0, h1, h2, h3⟩ | ⟨h0, h1, h2, h3, h4, h5⟩ | ⟨h0, h1⟩ | ⟨h0, h1⟩ | ⟨h0, h1, h2, h3, h4⟩ | ⟨h0, h1, h2⟩ | ⟨h0, h1, h2, h3⟩ | ⟨h0, h1, h2⟩ | ⟨h0, h1, h2, h3, h4⟩ | ⟨h0, h1, h2, h3, h4⟩ | ⟨h0, h1, h2, h3, h4⟩ | ⟨h0, h1, h2, h3, h4⟩
  · rw [h1] at w e; first | exact absurd w (by decide) | exact absurd e (by decide)
  · rw [h1] at w e; first | exact absurd w (by decide) | exact absurd e (by decide)
  · rw [h1] at w e; first | exact absurd w (by decide) | exact absurd e (by decide)
  · rw [h1] at w e; first | exact absurd w (by decide) | exact absurd e (by decide)
  · rw [h1] at w e; first | exact absurd w (by decide) | exact absurd e (by decide)
  · rw [h1] at w e; first | exact absurd w (by decide) | exact absurd e (by decide)
  · rw [h1] at w e; first | exact absurd w (by decide) | exact absurd e (by decide)
  · rw [h1] at w e; first | exact absurd w (by decide) | exact absurd e (by decide)
  · rw [h1] at w e; first | exact absurd w (by decide) | exact absurd e (by decide)
  · rw [h1] at w e; first | exact absurd w (by decide) | exact absurd e (by decide)
  · exact ⟨h0, h3⟩
  · rw [h1] at w e; first | exact absurd w (by decide) | exact absurd e (by decide)
  · rw [h1] at w e; first | exact absurd w (by decide) | exact absurd e (by decide)
  · rw [h1] at w e; first | exact absurd w (by decide) | exact absurd e (by decide)
theorem ROW_hd {nW p : Nat} {a : Nat → Int32} {k f s : Int32} (h : ROW nW a p k f s) (w : 1600 ≤ a p) (e1 : ¬ a p - 1600 = 20) (e2 : ¬ a p - 1600 = 21) (e3 : ¬ a p - 1600 = 22) : (k = 11 ∧ a (p + 2) = f ∧ a (p + 5) = 60) ∨ (k = 12 ∧ a (p + 2) = f ∧ a (p + 5) = 62) ∨ (k = 13 ∧ a (p + 2) = f ∧ a (p + 5) = 61) := by
  rcases h with ⟨h0, h1, h2, h3⟩ | ⟨h0, h1, h2, h3⟩ | ⟨h0, h1, h2, h3⟩ | ⟨h0, h1, h2, h3, h4, h5⟩ | ⟨h0, h1⟩ | ⟨h0, h1⟩ | ⟨h0, h1, h2, h3, h4⟩ | ⟨h0, h1, h2⟩ | ⟨h0, h1, h2, h3⟩ | ⟨h0, h1, h2⟩ | ⟨h0, h1, h2, h3, h4⟩ | ⟨h0, h1, h2, h3, h4⟩ | ⟨h0, h1, h2, h3, h4⟩ | ⟨h0, h1, h2, h3, h4⟩
  · rw [h1] at w e1 e2 e3; first | exact absurd w (by decide) | exact absurd rfl e1 | exact absurd rfl e2 | exact absurd rfl e3 | exact absurd (by decide) e1 | exact absurd (by decide) e2 | exact absurd (by decide) e3
  · rw [h1] at w e1 e2 e3; first | exact absurd w (by decide) | exact absurd rfl e1 | exact absurd rfl e2 | exact absurd rfl e3 | exact absurd (by decide) e1 | exact absurd (by decide) e2 | exact absurd (by decide) e3
  · rw [h1] at w e1 e2 e3; first | exact absurd w (by decide) | exact absurd rfl e1 | exact absurd rfl e2 | exact absurd rfl e3 | exact absurd (by decide) e1 | exact absurd (by decide) e2 | exact absurd (by decide) e3
  · rw [h1] at w e1 e2 e3; first | exact absurd w (by decide) | exact absurd rfl e1 | exact absurd rfl e2 | exact absurd rfl e3 | exact absurd (by decide) e1 | exact absurd (by decide) e2 | exact absurd (by decide) e3
  · rw [h1] at w e1 e2 e3; first | exact absurd w (by decide) | exact absurd rfl e1 | exact absurd rfl e2 | exact absurd rfl e3 | exact absurd (by decide) e1 | exact absurd (by decide) e2 | exact absurd (by decide) e3
  · rw [h1] at w e1 e2 e3; first | exact absurd w (by decide) | exact absurd rfl e1 | exact absurd rfl e2 | exact absurd rfl e3 | exact absurd (by decide) e1 | exact absurd (by decide) e2 | exact absurd (by decide) e3
  · rw [h1] at w e1 e2 e3; first | exact absurd w (by decide) | exact absurd rfl e1 | exact absurd rfl e2 | exact absurd rfl e3 | exact absurd (by decide) e1 | exact absurd (by decide) e2 | exact absurd (by decide) e3
  · rw [h1] at w e1 e2 e3; first | exact absurd w (by decide) | exact absurd rfl e1 | exact absurd rfl e2 | exact absurd rfl e3 | exact absurd (by decide) e1 | exact absurd (by decide) e2 | exact absurd (by decide) e3
  · rw [h1] at w e1 e2 e3; first | exact absurd w (by decide) | exact absurd rfl e1 | exact absurd rfl e2 | exact absurd rfl e3 | exact absurd (by decide) e1 | exact absurd (by decide) e2 | exact absurd (by decide) e3
  · rw [h1] at w e1 e2 e3; first | exact absurd w (by decide) | exact absurd rfl e1 | exact absurd rfl e2 | exact absurd rfl e3 | exact absurd (by decide) e1 | exact absurd (by decide) e2 | exact absurd (by decide) e3
  · rw [h1] at w e1 e2 e3; first | exact absurd w (by decide) | exact absurd rfl e1 | exact absurd rfl e2 | exact absurd rfl e3 | exact absurd (by decide) e1 | exact absurd (by decide) e2 | exact absurd (by decide) e3
  · exact Or.inl ⟨h0, h2, h3⟩
  · exact Or.inr (Or.inl ⟨h0, h2, h3⟩)
  · exact Or.inr (Or.inr ⟨h0, h2, h3⟩)
def ST_ (t : TW) (a ran : Nat → Int32) (dr : Int32) (s : LSt) : Prop := vT a (tLt t s) ∧ (∀ j, j < 5 → ran j = s.2.2.2.2.1 j) ∧ dr = s.2.2.2.2.2.2 ∧ okDr dr ∧ SKo (tLt t s)
/-- what a step comes to -/
def DP (t : TW) (ma r0 : Nat → Int32) (s s2 : LSt) (a2 r2 : Nat → Int32) (dr2 d : Int32) : Prop := vT a2 (tLt t s2) ∧ frA ma a2 ∧ (∀ j, j < 5 → upd r2 0 (r2 0 + (if d = 0 then 1 else 0)) j = s2.2.2.2.2.1 j) ∧ r2 0 = r0 0 ∧ dr2 = s2.2.2.2.2.2.2 ∧ okDr dr2 ∧ SKo (tLt t s2) ∧ s2.2.2.2.2.2.1 = s.2.2.2.2.2.1 ∧ (d = 0 ∨ d = 1)
theorem stGo_1 {t : TW} {s : LSt} {k : Nat} (hk : k < 12) (h : canGo t.fr t.to_ (nI t.nL) s.2.1 s.2.2.1 (nI k)) : stGo t.fr t.to_ t.ea t.no t.te t.nL (nI k) s = (s.1, s.2.1, goD (tLt t s) (nI k), s.2.2.2.1 + yA t.ea t.no s.1 t.te k, ctS s.2.2.2.2.1 1, s.2.2.2.2.2) := by
  unfold stGo goD
  rw [if_pos h, if_pos h, bP_t h, if_neg (show ¬ (1 : Int32) = 0 by decide), nI_clamp (by omega)]
  rfl
theorem stGo_0 {t : TW} {s : LSt} {k : Int32} (h : ¬ canGo t.fr t.to_ (nI t.nL) s.2.1 s.2.2.1 k) : stGo t.fr t.to_ t.ea t.no t.te t.nL k s = (s.1, s.2.1, s.2.2.1, s.2.2.2.1, ctS s.2.2.2.2.1 0, s.2.2.2.2.2) := by
  unfold stGo
  rw [if_neg h, if_neg h, bP_f h, if_pos rfl]
theorem stStr_1 {t : TW} {s : LSt} {k : Int32} (h : inR k (nI t.nL) ∧ ¬ hs s.2.1 k) : stStr t.nL k s = (s.1, s.2.1 ||| bit k, s.2.2.1, s.2.2.2.1, ctS s.2.2.2.2.1 2, s.2.2.2.2.2) := by
  unfold stStr
  rw [if_pos h, bP_t h, if_neg (by decide)]
theorem stStr_0 {t : TW} {s : LSt} {k : Int32} (h : ¬ (inR k (nI t.nL) ∧ ¬ hs s.2.1 k)) : stStr t.nL k s = (s.1, s.2.1, s.2.2.1, s.2.2.2.1, ctS s.2.2.2.2.1 0, s.2.2.2.2.2) := by
  unfold stStr
  rw [if_neg h, bP_f h, if_pos rfl]
theorem stRes_1 {t : TW} {s : LSt} {k : Int32} (h : inR k (nI t.nL) ∧ hs s.2.1 k) : stRes t.nL k s = (s.1, s.2.1 &&& (bit k ^^^ (-1)), s.2.2.1, s.2.2.2.1, ctS s.2.2.2.2.1 3, s.2.2.2.2.2) := by
  unfold stRes
  rw [if_pos h, bP_t h, if_neg (by decide)]
theorem stRes_0 {t : TW} {s : LSt} {k : Int32} (h : ¬ (inR k (nI t.nL) ∧ hs s.2.1 k)) : stRes t.nL k s = (s.1, s.2.1, s.2.2.1, s.2.2.2.1, ctS s.2.2.2.2.1 0, s.2.2.2.2.2) := by
  unfold stRes
  rw [if_neg h, bP_f h, if_pos rfl]
theorem DP_0 {t : TW} {a ran : Nat → Int32} {dr : Int32} {s : LSt} (S : ST_ t a ran dr s) : DP t a ran s (s.1, s.2.1, s.2.2.1, s.2.2.2.1, ctS s.2.2.2.2.1 0, s.2.2.2.2.2) a ran dr 0 :=
  ⟨S.1, frA.rf, cnt_0 S.2.1, rfl, S.2.2.1, S.2.2.2.1, S.2.2.2.2, rfl, Or.inl rfl⟩
theorem DP_n {t : TW} {a ran : Nat → Int32} {dr : Int32} {s : LSt} (S : ST_ t a ran dr s) : DP t a ran s s a ran dr 1 :=
  ⟨S.1, frA.rf, cnt_n S.2.1, rfl, S.2.2.1, S.2.2.2.1, S.2.2.2.2, rfl, Or.inr rfl⟩
theorem goD_in {t : TW} (I : tOK t) (J : tIn t) {k : Nat} (hk : k < 12) (h : canGo t.fr t.to_ (nI t.nL) t.sk t.sd (nI k)) : goD t (nI k) = -1 ∨ inR (goD t (nI k)) (nI t.nP) := by
  have hL := I.hL
  have hkl : k < t.nL := nI_ltN h.1.2 (by omega) (by omega)
  unfold goD
  rw [nI_clamp (by omega)]
  right
  split
  · exact (J.1 k hkl).2.2.1
  · exact (J.1 k hkl).2.1
theorem SKo_t {t : TW} {s : LSt} (h : SKo (tLt t s)) {f c l : Nat → Int32} {d g r : Int32} : SKo (tLt t (f, s.2.1, d, g, c, l, r)) := by
  intro j hj hh
  have h2 : hs s.2.1 (nI j) := hh
  exact h j hj h2
theorem ct_u {a b : Nat → Int32} (h : ∀ j, j < 5 → a j = b j) {w : Nat} (hw : 0 < w) (h5 : w < 5) : ∀ j, j < 5 → upd (upd a w (a w + 1)) 0 (upd a w (a w + 1) 0 + (if (1 : Int32) = 0 then 1 else 0)) j = ctS b (nI w) j := by
  intro j hj
  have := cnt_1 h (w := w) hw h5 j hj
  rw [show upd a w (a w + 1) 0 = a 0 from upd_ne (by omega), if_neg (show ¬ (1 : Int32) = 0 by decide)]
  exact this
theorem DP_go {t : TW} {a ran : Nat → Int32} {dr : Int32} {s : LSt} (S : ST_ t a ran dr s) {k : Nat} (hk : k < 12) (h : canGo t.fr t.to_ (nI t.nL) s.2.1 s.2.2.1 (nI k)) : DP t a ran s (stGo t.fr t.to_ t.ea t.no t.te t.nL (nI k) s) (upd (upd a 4 (goD (tLt t s) (nI k))) 5 ((tLt t s).go + yA (tLt t s).ea (tLt t s).no (tLt t s).fa (tLt t s).te k)) (upd ran 1 (ran 1 + 1)) dr 1 := by
  rw [stGo_1 hk h]
  have V2 : vT (upd (upd a 4 (goD (tLt t s) (nI k))) 5 ((tLt t s).go + yA (tLt t s).ea (tLt t s).no (tLt t s).fa (tLt t s).te k)) (tSg (tLt t s) (goD (tLt t s) (nI k)) ((tLt t s).go + yA (tLt t s).ea (tLt t s).no (tLt t s).fa (tLt t s).te k)) := vT_go S.1 (goD_in S.1.ok S.1.in_ hk h)
  have F : frA a (upd (upd a 4 (goD (tLt t s) (nI k))) 5 ((tLt t s).go + yA (tLt t s).ea (tLt t s).no (tLt t s).fa (tLt t s).te k)) := (frA.rf.u (by omega) (by omega)).u (by omega) (by omega)
  have C := ct_u S.2.1 (w := 1) (by omega) (by omega)
  have K := SKo_t S.2.2.2.2 (f := s.1) (d := goD (tLt t s) (nI k)) (g := s.2.2.2.1 + yA t.ea t.no s.1 t.te k) (c := ctS s.2.2.2.2.1 1) (l := s.2.2.2.2.2.1) (r := s.2.2.2.2.2.2)
  exact ⟨V2, F, C, upd_ne (by omega), S.2.2.1, S.2.2.2.1, K, rfl, Or.inr rfl⟩
theorem SKo_k {t : TW} {f c l : Nat → Int32} {d g r m : Int32} (h : ∀ j, j < 32 → hs m (nI j) → j < t.nL) : SKo (tLt t (f, m, d, g, c, l, r)) := by
  intro j hj hh
  have h2 : hs m (nI j) := hh
  exact h j hj h2
theorem SKo_g {t : TW} {s : LSt} (h : SKo (tLt t s)) : ∀ j, j < 32 → hs s.2.1 (nI j) → j < t.nL := by
  intro j hj hh
  have h2 : hs (tLt t s).sk (nI j) := hh
  exact h j hj h2
theorem SKo_or {t : TW} {s : LSt} {k : Nat} (hk : k < t.nL) (hL : t.nL ≤ 12) (h : SKo (tLt t s)) {f c l : Nat → Int32} {d g r : Int32} : SKo (tLt t (f, s.2.1 ||| bit (nI k), d, g, c, l, r)) := by
  refine SKo_k (fun j hj hh => ?_)
  rcases (hs_or hj).mp hh with z | z
  · exact SKo_g h j hj z
  · have := (hs_bit (by omega) hj).mp z
    omega
theorem SKo_and {t : TW} {s : LSt} {m : Int32} (h : SKo (tLt t s)) {f c l : Nat → Int32} {d g r : Int32} : SKo (tLt t (f, s.2.1 &&& m, d, g, c, l, r)) := SKo_k (fun j hj hh => SKo_g h j hj ((hs_and hj).mp hh).1)
theorem DP_st {t : TW} {a ran : Nat → Int32} {dr : Int32} {s : LSt} (S : ST_ t a ran dr s) {k : Nat} (hk : k < 12) (h : nI k < nI t.nL ∧ ¬ hs s.2.1 (nI k)) : DP t a ran s (stStr t.nL (nI k) s) (upd a 6 ((tLt t s).sk ||| bit (nI k))) (upd ran 2 (ran 2 + 1)) dr 1 := by
  have hL := S.1.ok.hL
  have hkl : k < t.nL := nI_ltN h.1 (by omega) (by have : (tLt t s).nL = t.nL := rfl; omega)
  have hL2 : t.nL ≤ 12 := hL
  rw [stStr_1 ⟨inR_N hkl (by omega), h.2⟩]
  have F : frA a (upd a 6 ((tLt t s).sk ||| bit (nI k))) := frA.rf.u (by omega) (by omega)
  have C := ct_u S.2.1 (w := 2) (by omega) (by omega)
  have K := SKo_or hkl hL2 S.2.2.2.2 (f := s.1) (d := s.2.2.1) (g := s.2.2.2.1) (c := ctS s.2.2.2.2.1 2) (l := s.2.2.2.2.2.1) (r := s.2.2.2.2.2.2)
  have V2 : vT (upd a 6 ((tLt t s).sk ||| bit (nI k))) (tSk (tLt t s) ((tLt t s).sk ||| bit (nI k))) := vT_sk S.1 _
  exact ⟨V2, F, C, upd_ne (by omega), S.2.2.1, S.2.2.2.1, K, rfl, Or.inr rfl⟩
theorem DP_re {t : TW} {a ran : Nat → Int32} {dr : Int32} {s : LSt} (S : ST_ t a ran dr s) {k : Nat} (hk : k < 12) (h : hs s.2.1 (nI k)) : DP t a ran s (stRes t.nL (nI k) s) (upd a 6 ((tLt t s).sk &&& (bit (nI k) ^^^ (-1)))) (upd ran 3 (ran 3 + 1)) dr 1 := by
  have hL := S.1.ok.hL
  have hkl : k < t.nL := S.2.2.2.2 k (by omega) h
  have hL2 : t.nL ≤ 12 := hL
  rw [stRes_1 ⟨inR_N hkl (by omega), h⟩]
  have F : frA a (upd a 6 ((tLt t s).sk &&& (bit (nI k) ^^^ (-1)))) := frA.rf.u (by omega) (by omega)
  have C := ct_u S.2.1 (w := 3) (by omega) (by omega)
  have K := SKo_and S.2.2.2.2 (m := bit (nI k) ^^^ (-1)) (f := s.1) (d := s.2.2.1) (g := s.2.2.2.1) (c := ctS s.2.2.2.2.1 3) (l := s.2.2.2.2.2.1) (r := s.2.2.2.2.2.2)
  have V2 : vT (upd a 6 ((tLt t s).sk &&& (bit (nI k) ^^^ (-1)))) (tSk (tLt t s) ((tLt t s).sk &&& (bit (nI k) ^^^ (-1)))) := vT_sk S.1 _
  exact ⟨V2, F, C, upd_ne (by omega), S.2.2.1, S.2.2.2.1, K, rfl, Or.inr rfl⟩
theorem DP_g0 {t : TW} {a ran : Nat → Int32} {dr : Int32} {s : LSt} (S : ST_ t a ran dr s) {k : Int32} (h : ¬ canGo t.fr t.to_ (nI t.nL) s.2.1 s.2.2.1 k) : DP t a ran s (stGo t.fr t.to_ t.ea t.no t.te t.nL k s) a ran dr 0 := by rw [stGo_0 h]; exact DP_0 S
theorem DP_s0 {t : TW} {a ran : Nat → Int32} {dr : Int32} {s : LSt} (S : ST_ t a ran dr s) {k : Int32} (h : ¬ (k < nI t.nL ∧ ¬ hs s.2.1 k)) : DP t a ran s (stStr t.nL k s) a ran dr 0 := by rw [stStr_0 (fun z => h ⟨z.1.2, z.2⟩)]; exact DP_0 S
theorem DP_r0 {t : TW} {a ran : Nat → Int32} {dr : Int32} {s : LSt} (S : ST_ t a ran dr s) {k : Int32} (h : ¬ hs s.2.1 k) : DP t a ran s (stRes t.nL k s) a ran dr 0 := by rw [stRes_0 (fun z => h z.2)]; exact DP_0 S
theorem DP_2 {t : TW} {ma r0 : Nat → Int32} {s s2 : LSt} {a2 r2 : Nat → Int32} {dr2 d : Int32} (h : DP t ma r0 (stDr2 s) s2 a2 r2 dr2 d) : DP t ma r0 s s2 a2 r2 dr2 d := by
  obtain ⟨h1, h2, h3, h4, h5, h6, h7, h8, h9⟩ := h
  refine ⟨h1, h2, h3, h4, h5, h6, h7, h8.trans ?_, h9⟩
  unfold stDr2
  dsimp only
theorem DP_b {t : TW} {a ran : Nat → Int32} {dr : Int32} {s : LSt} (S : ST_ t a ran dr s) {w : Nat} (hw : w < t.nW) {f : Int32} (hf : inR f 24) : DP t a ran s (stBel t.nW (nI w) f s) (beU a w f) ran dr (if s.1 w = f then 0 else 1) := by
  have hW := S.1.ok.hW
  have hW2 : t.nW ≤ 4 := hW
  have ec : (nI w).toNatClampNeg = w := nI_clamp (by omega)
  have V2 := vT_be S.1 (w := w) (f := f) hw hf
  have hfr : frA a (beU a w f) := frA_be frA.rf (by omega)
  unfold stBel
  rw [ec]
  by_cases z : s.1 w = f
  · have hn : ¬ (inR (nI w) (nI t.nW) ∧ ¬ s.1 w = f) := fun y => y.2 z
    rw [if_neg hn, if_neg hn, if_pos z]
    refine ⟨?_, hfr, cnt_0 S.2.1, rfl, S.2.2.1, S.2.2.2.1, S.2.2.2.2, rfl, Or.inl rfl⟩
    have e : upd s.1 w f = s.1 := upd_self z
    have V3 : vT (beU a w f) (tLt t (upd s.1 w f, s.2.1, s.2.2.1, s.2.2.2.1, ctS s.2.2.2.2.1 0, s.2.2.2.2.2)) := V2
    rw [e] at V3
    exact V3
  · have hn : inR (nI w) (nI t.nW) ∧ ¬ s.1 w = f := ⟨inR_N hw (by omega), z⟩
    rw [if_pos hn, if_pos hn, if_neg z]
    exact ⟨V2, hfr, cnt_n S.2.1, rfl, S.2.2.1, S.2.2.2.1, S.2.2.2.2, rfl, Or.inr rfl⟩

theorem stDr2_sk (s : LSt) : (stDr2 s).2.1 = s.2.1 := by
  unfold stDr2
  dsimp only
theorem stDr2_sd (s : LSt) : (stDr2 s).2.2.1 = s.2.2.1 := by
  unfold stDr2
  dsimp only
theorem tLt_2 (t : TW) (s : LSt) : tLt t (stDr2 s) = tLt t s := by
  unfold tLt stDr2
  dsimp only
theorem ST_2 {t : TW} {a ran : Nat → Int32} {dr : Int32} {s : LSt} (S : ST_ t a ran dr s) : ST_ t a ran (drS (drS dr)) (stDr2 s) := by
  obtain ⟨h1, h2, h3, h4, h5⟩ := S
  unfold ST_
  rw [tLt_2]
  refine ⟨h1, ?_, ?_, drS_ok (drS_ok h4), h5⟩
  · unfold stDr2
    dsimp only
    exact h2
  · unfold stDr2
    dsimp only
    rw [h3]
theorem DA_go {t : TW} {a ran : Nat → Int32} {dr : Int32} {s : LSt} (S : ST_ t a ran dr s) {k : Nat} (hk : k < 12) (h : canGo t.fr t.to_ (nI t.nL) s.2.1 s.2.2.1 (nI k)) : DP t a ran s (stGo t.fr t.to_ t.ea t.no t.te t.nL (nI k) (stDr2 s)) (upd (upd a 4 (goD (tLt t s) (nI k))) 5 ((tLt t s).go + yA (tLt t s).ea (tLt t s).no (tLt t s).fa (tLt t s).te k)) (upd ran 1 (ran 1 + 1)) (drS (drS dr)) 1 := by
  have S2 := ST_2 S
  rw [← stDr2_sk, ← stDr2_sd] at h
  have hd := DP_2 (DP_go S2 hk h)
  rw [tLt_2] at hd
  exact hd
theorem DA_st {t : TW} {a ran : Nat → Int32} {dr : Int32} {s : LSt} (S : ST_ t a ran dr s) {k : Nat} (hk : k < 12) (h : nI k < nI t.nL ∧ ¬ hs s.2.1 (nI k)) : DP t a ran s (stStr t.nL (nI k) (stDr2 s)) (upd a 6 ((tLt t s).sk ||| bit (nI k))) (upd ran 2 (ran 2 + 1)) (drS (drS dr)) 1 := by
  have S2 := ST_2 S
  rw [← stDr2_sk] at h
  have hd := DP_2 (DP_st S2 hk h)
  rw [tLt_2] at hd
  exact hd
theorem DA_re {t : TW} {a ran : Nat → Int32} {dr : Int32} {s : LSt} (S : ST_ t a ran dr s) {k : Nat} (hk : k < 12) (h : hs s.2.1 (nI k)) : DP t a ran s (stRes t.nL (nI k) (stDr2 s)) (upd a 6 ((tLt t s).sk &&& (bit (nI k) ^^^ (-1)))) (upd ran 3 (ran 3 + 1)) (drS (drS dr)) 1 := by
  have S2 := ST_2 S
  rw [← stDr2_sk] at h
  have hd := DP_2 (DP_re S2 hk h)
  rw [tLt_2] at hd
  exact hd
theorem DA_g0 {t : TW} {a ran : Nat → Int32} {dr : Int32} {s : LSt} (S : ST_ t a ran dr s) {k : Int32} (h : ¬ canGo t.fr t.to_ (nI t.nL) s.2.1 s.2.2.1 k) : DP t a ran s (stGo t.fr t.to_ t.ea t.no t.te t.nL k (stDr2 s)) a ran (drS (drS dr)) 0 := by
  have S2 := ST_2 S
  rw [← stDr2_sk, ← stDr2_sd] at h
  have hd := DP_2 (DP_g0 S2 h)
  exact hd
theorem DA_s0 {t : TW} {a ran : Nat → Int32} {dr : Int32} {s : LSt} (S : ST_ t a ran dr s) {k : Int32} (h : ¬ (k < nI t.nL ∧ ¬ hs s.2.1 k)) : DP t a ran s (stStr t.nL k (stDr2 s)) a ran (drS (drS dr)) 0 := by
  have S2 := ST_2 S
  rw [← stDr2_sk] at h
  have hd := DP_2 (DP_s0 S2 h)
  exact hd
theorem DA_r0 {t : TW} {a ran : Nat → Int32} {dr : Int32} {s : LSt} (S : ST_ t a ran dr s) {k : Int32} (h : ¬ hs s.2.1 k) : DP t a ran s (stRes t.nL k (stDr2 s)) a ran (drS (drS dr)) 0 := by
  have S2 := ST_2 S
  rw [← stDr2_sk] at h
  have hd := DP_2 (DP_r0 S2 h)
  exact hd
