/-! ===== the class's reader of DAYS: steps taken, faults told, rows kept sound ===== -/
theorem dNR_fk {K : TK} {k x z : Int32} {s : CS} {y : DY} (h : ¬ (dNR K k x z s y).1 = true) : 0 < (dNR K k x z s y).2.1.fk := by
  revert h
  unfold dNR
  split
  · intro z; exact absurd rfl z
  · rename_i h2; intro _; exact cNu_fk h2
theorem dBe_fk {K : TK} {t : TW} {s : CS} {y : DY} (h : ¬ (dBe K t s y).1 = true) : 0 < (dBe K t s y).2.1.fk := by
  revert h
  unfold dBe
  split
  · split
    · intro _; exact (show (0 : Int32) < 3 by decide)
    · split
      · intro z; exact absurd rfl z
      · rename_i h2; intro _; exact cNu_fk h2
  · rename_i h2; intro _; exact cNm_fk h2
theorem dAt_fk {K : TK} {t : TW} {s : CS} {y : DY} (h : ¬ (dAt K t s y).1 = true) : 0 < (dAt K t s y).2.1.fk := by
  revert h
  unfold dAt
  split
  · split
    · intro _; exact (show (0 : Int32) < 3 by decide)
    · intro z; exact absurd rfl z
  · rename_i h2; intro _; exact cNm_fk h2
theorem dTe_fk {K : TK} {t : TW} {s : CS} {y : DY} (h : ¬ (dTe K t s y).1 = true) : 0 < (dTe K t s y).2.1.fk := by
  revert h
  unfold dTe
  split
  · exact dAt_fk
  · split
    · intro z; exact absurd rfl z
    · split
      · exact dNR_fk
      · split
        · split
          · intro _; exact csK_p
          · exact dNR_fk
        · intro _; exact csK_p
theorem dSt_fk {K : TK} {t : TW} {s : CS} {y : DY} (h : ¬ (dSt K t s y).1 = true) : 0 < (dSt K t s y).2.1.fk := by
  revert h
  unfold dSt
  split
  · split
    · split
      · intro _; exact (show (0 : Int32) < 7 by decide)
      · unfold dS2
        split
        · exact dNR_fk
        · split
          · exact dNR_fk
          · split
            · exact dNR_fk
            · split
              · exact dBe_fk
              · split
                · intro z; exact absurd rfl z
                · split
                  · exact dTe_fk
                  · split
                    · exact dNR_fk
                    · intro z; exact absurd rfl z
    · intro _; exact (show (0 : Int32) < 6 by decide)
  · intro _; exact csK_p
theorem dTu_fk {K : TK} {t : TW} {s : CS} {y : DY} (h : ¬ (dTu K t s y).1 = true) : 0 < (dTu K t s y).2.1.fk := by
  revert h
  unfold dTu
  split
  · unfold dEn
    split
    · intro z; exact absurd rfl z
    · intro _; exact csK_p
  · exact dSt_fk
theorem dNR_mo {K : TK} {k x z : Int32} {s : CS} {y : DY} (h : (dNR K k x z s y).1 = true) : cMo s (dNR K k x z s y).2.1 := by
  revert h
  unfold dNR
  split
  · rename_i h2; intro _; exact cNu_mo h2
  · intro z; exact absurd z Bool.false_ne_true
theorem dBe_mo {K : TK} {t : TW} {s : CS} {y : DY} (h : (dBe K t s y).1 = true) : cMo s (dBe K t s y).2.1 := by
  revert h
  unfold dBe
  split
  · rename_i h1
    split
    · intro z; exact absurd z Bool.false_ne_true
    · split
      · rename_i h2; intro _; exact ((cNm_mo h1).tr cNx_mo).tr (cNu_mo h2)
      · intro z; exact absurd z Bool.false_ne_true
  · intro z; exact absurd z Bool.false_ne_true
theorem dAt_mo {K : TK} {t : TW} {s : CS} {y : DY} (h : (dAt K t s y).1 = true) : cMo s (dAt K t s y).2.1 := by
  revert h
  unfold dAt
  split
  · rename_i h1
    split
    · intro z; exact absurd z Bool.false_ne_true
    · intro _; exact (cNm_mo h1).tr cNx_mo
  · intro z; exact absurd z Bool.false_ne_true
theorem dTe_mo {K : TK} {t : TW} {s : CS} {y : DY} (h : (dTe K t s y).1 = true) : cMo s (dTe K t s y).2.1 := by
  revert h
  unfold dTe
  split
  · intro z; exact cNx_mo.tr (dAt_mo z)
  · split
    · intro _; exact cNx_mo
    · split
      · intro z; exact cNx_mo.tr (dNR_mo z)
      · split
        · split
          · intro z; exact absurd z Bool.false_ne_true
          · intro z; exact (cNx_mo.tr cNx_mo).tr (dNR_mo z)
        · intro z; exact absurd z Bool.false_ne_true
theorem dSt_mo {K : TK} {t : TW} {s : CS} {y : DY} (h : (dSt K t s y).1 = true) : cMo s (dSt K t s y).2.1 := by
  revert h
  unfold dSt
  split
  · split
    · split
      · intro z; exact absurd z Bool.false_ne_true
      · unfold dS2
        split
        · intro z; exact cNx_mo.tr (dNR_mo z)
        · split
          · intro z; exact cNx_mo.tr (dNR_mo z)
          · split
            · intro z; exact cNx_mo.tr (dNR_mo z)
            · split
              · intro z; exact cNx_mo.tr (dBe_mo z)
              · split
                · intro _; exact cNx_mo
                · split
                  · intro z; exact cNx_mo.tr (dTe_mo z)
                  · split
                    · intro z; exact cNx_mo.tr (dNR_mo z)
                    · intro _; exact cNx_mo
    · intro z; exact absurd z Bool.false_ne_true
  · intro z; exact absurd z Bool.false_ne_true
theorem dTu_mo {K : TK} {t : TW} {s : CS} {y : DY} (h : (dTu K t s y).1 = true) : cMo s (dTu K t s y).2.1 := by
  revert h
  unfold dTu
  split
  · unfold dEn
    split
    · intro _; exact cNx_mo
    · intro z; exact absurd z Bool.false_ne_true
  · exact dSt_mo
/-- the rows' second numbers -/
def dsK (y : DY) : Prop := ∀ j, vp_in (y.ds j) 60
theorem v60 {n : Nat} (h : n < 60) : vp_in (nI n) 60 := vp_in_nI h (by omega)
theorem dAdd_ds {y : DY} {k f z : Int32} (h : dsK y) (hz : vp_in z 60) : dsK (dAdd y k f z) := upd_all (P := fun v => vp_in v 60) h hz
theorem dNR_ds {K : TK} {k x z : Int32} {s : CS} {y : DY} (h : dsK y) : dsK (dNR K k x z s y).2.2 := by
  unfold dNR
  split
  · exact dAdd_ds h (v60 (n := 0) (by omega))
  · exact h
theorem dBe_ds {K : TK} {t : TW} {s : CS} {y : DY} (h : dsK y) : dsK (dBe K t s y).2.2 := by
  unfold dBe
  split
  · split
    · exact h
    · split
      · rename_i h2
        obtain ⟨v0, v1⟩ := cNu_in h2
        obtain ⟨k, k1, k2, k3⟩ := i32_in (m := 0) (n := 23) (by omega) (by omega) v0 v1
        exact dAdd_ds h (by rw [k3]; exact v60 (by omega))
      · exact h
  · exact h
theorem dAt_ds {K : TK} {t : TW} {s : CS} {y : DY} (h : dsK y) : dsK (dAt K t s y).2.2 := by
  unfold dAt
  split
  · split
    · exact h
    · exact dAdd_ds h (v60 (n := 0) (by omega))
  · exact h
theorem dTe_ds {K : TK} {t : TW} {s : CS} {y : DY} (h : dsK y) : dsK (dTe K t s y).2.2 := by
  unfold dTe
  split
  · exact dAt_ds h
  · split
    · exact dAdd_ds h (v60 (n := 0) (by omega))
    · split
      · exact dNR_ds h
      · split
        · split
          · exact h
          · exact dNR_ds h
        · exact h
theorem dSt_ds {K : TK} {t : TW} {s : CS} {y : DY} (h : dsK y) : dsK (dSt K t s y).2.2 := by
  unfold dSt
  split
  · split
    · split
      · exact h
      · unfold dS2
        split
        · exact dNR_ds (y := dSp y) h
        · split
          · exact dNR_ds (y := dSp y) h
          · split
            · exact dNR_ds (y := dSp y) h
            · split
              · exact dBe_ds (y := dSp y) h
              · split
                · exact dAdd_ds (y := dSp y) h (v60 (n := 0) (by omega))
                · split
                  · exact dTe_ds (y := dOp (dSp y)) h
                  · split
                    · exact dNR_ds (y := dOp (dSp y)) h
                    · exact dAdd_ds (y := dSp y) h (v60 (n := 0) (by omega))
    · exact h
  · exact h
theorem dTu_ds {K : TK} {t : TW} {s : CS} {y : DY} (h : dsK y) (ok : DOk K s y) : dsK (dTu K t s y).2.2 := by
  unfold dTu
  split
  · unfold dEn
    split
    · have h1 := ok.2.1
      have h2 := ok.2.2.1
      exact dAdd_ds (y := dBk y) (upd_all (P := fun v => vp_in v 60) h (v60 (by omega))) (ok.2.2.2.2 _)
    · exact h
  · exact dSt_ds h
theorem dUt_ok {K : TK} {t : TW} {s : CS} {y : DY} (h : DOk K s y) : DOk K (dUt K t s y).2.1 (dUt K t s y).2.2 := by
  have h2 := dTu_ok (t := t) h
  unfold dUt
  split
  · exact ⟨cSg_lt h2.1, h2.2⟩
  · exact h2
theorem dUt_1 {K : TK} {t : TW} {s : CS} {y : DY} (h : (dUt K t s y).1 = true) : (dTu K t s y).1 = true ∧ (cSg K 59 (dTu K t s y).2.1).1 = true := by
  by_cases c : (dTu K t s y).1 = true
  · rw [dUt_y rfl c] at h
    exact ⟨c, h⟩
  · rw [dUt_f rfl c] at h
    exact absurd h Bool.false_ne_true
theorem dpI_s {K : TK} {t : TW} {r : Nat} {s : CS} {y : DY} (h0 : ¬ K.ki s.a = 0) : dpI K t (r + 1) s y = if (dUt K t s y).1 = true then dpI K t r (dUt K t s y).2.1 (dUt K t s y).2.2 else dUt K t s y := by
  have e : dpI K t (r + 1) s y = _ := if_neg h0
  rw [e]
  unfold dUt
  by_cases c : (dTu K t s y).1 = true
  · rw [if_pos c, if_pos c]
    by_cases c2 : (cSg K 59 (dTu K t s y).2.1).1 = true
    · rw [if_pos c2, if_pos c2]
    · rw [if_neg c2, if_neg c2]
      generalize cSg K 59 (dTu K t s y).2.1 = r9 at c2
      obtain ⟨b9, s9⟩ := r9
      cases b9
      · rfl
      · exact absurd rfl c2
  · rw [if_neg c, if_neg c, if_neg Bool.false_ne_true]
theorem dpI_fk {K : TK} {t : TW} : ∀ (r : Nat) (s : CS) (y : DY), ¬ (dpI K t r s y).1 = true → 0 < (dpI K t r s y).2.1.fk
  | 0, _, _, _ => csK_p
  | r + 1, s, y, h => by
    by_cases c : K.ki s.a = 0
    · have e : dpI K t (r + 1) s y = if y.nD = 0 then (true, s, y) else (false, cCs K s, y) := if_pos c
      rw [e] at h ⊢
      by_cases c2 : y.nD = 0
      · rw [if_pos c2] at h
        exact absurd rfl h
      · rw [if_neg c2]
        exact csK_p
    · rw [dpI_s c] at h ⊢
      by_cases c2 : (dUt K t s y).1 = true
      · rw [if_pos c2] at h ⊢
        exact dpI_fk r _ _ h
      · rw [if_neg c2]
        by_cases c3 : (dTu K t s y).1 = true
        · have e := dUt_y (K := K) (t := t) (s := s) (y := y) rfl c3
          rw [e] at c2 ⊢
          exact cSg_fk c2
        · have e := dUt_f (K := K) (t := t) (s := s) (y := y) rfl c3
          rw [e]
          exact dTu_fk c3
theorem dpI_mo {K : TK} {t : TW} : ∀ (r : Nat) (s : CS) (y : DY), (dpI K t r s y).1 = true → cMo s (dpI K t r s y).2.1
  | 0, _, _, h => absurd h (show ¬ false = true by decide)
  | r + 1, s, y, h => by
    by_cases c : K.ki s.a = 0
    · have e : dpI K t (r + 1) s y = if y.nD = 0 then (true, s, y) else (false, cCs K s, y) := if_pos c
      rw [e] at h ⊢
      by_cases c2 : y.nD = 0
      · rw [if_pos c2]
        exact cMo.rf
      · rw [if_neg c2] at h
        exact absurd h Bool.false_ne_true
    · rw [dpI_s c] at h ⊢
      by_cases c2 : (dUt K t s y).1 = true
      · rw [if_pos c2] at h ⊢
        obtain ⟨h1, h2⟩ := dUt_1 c2
        have m1 := dTu_mo h1
        have m2 := cSg_mo h2
        have e := dUt_y (K := K) (t := t) (s := s) (y := y) rfl h1
        refine cMo.tr ?_ (dpI_mo r _ _ h)
        rw [e]
        exact m1.tr m2
      · rw [if_neg c2] at h
        exact absurd h c2
theorem dpI_ok {K : TK} {t : TW} : ∀ (r : Nat) (s : CS) (y : DY), DOk K s y → dsK y → DOk K (dpI K t r s y).2.1 (dpI K t r s y).2.2 ∧ dsK (dpI K t r s y).2.2
  | 0, _, _, h, k => ⟨h, k⟩
  | r + 1, s, y, h, k => by
    by_cases c : K.ki s.a = 0
    · have e : dpI K t (r + 1) s y = if y.nD = 0 then (true, s, y) else (false, cCs K s, y) := if_pos c
      rw [e]
      split
      · exact ⟨h, k⟩
      · exact ⟨h, k⟩
    · rw [dpI_s c]
      have u1 := dUt_ok (t := t) h
      have u2 : dsK (dUt K t s y).2.2 := by
        have := dTu_ds (t := t) k h
        unfold dUt
        split <;> exact this
      split
      · exact dpI_ok r _ _ u1 u2
      · exact ⟨u1, u2⟩
theorem ROW_mv {nW : Nat} {a b : Nat → Int32} {p q : Nat} {k f s : Int32} (e : ∀ j, j < 6 → b (q + j) = a (p + j)) (h : ROW nW a p k f s) : ROW nW b q k f s := by
  have e0 : b q = a p := e 0 (by omega)
  unfold ROW at *
  rw [e0, e 1 (by omega), e 2 (by omega), e 4 (by omega), e 5 (by omega)]
  exact h
