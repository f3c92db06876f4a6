/-! ===== the class's parser: steps taken, faults told, the town kept sound ===== -/
theorem csK_p {k : Int32} : 0 < csK k := by
  unfold csK
  split <;> decide
theorem cSg_fk {K : TK} {c : Int32} {s : CS} (h : ¬ (cSg K c s).1 = true) : 0 < (cSg K c s).2.fk := by
  revert h
  unfold cSg
  split
  · intro z; exact absurd rfl z
  · intro _; exact csK_p
theorem cNu_fk {K : TK} {x y : Int32} {s : CS} (h : ¬ (cNu K x y s).1 = true) : 0 < (cNu K x y s).2.fk := by
  revert h
  unfold cNu
  split
  · split
    · intro z; exact absurd rfl z
    · intro _; exact (show (0 : Int32) < 4 by decide)
  · intro _; exact csK_p
theorem cNm_fk {K : TK} {s : CS} (h : ¬ (cNm K s).1 = true) : 0 < (cNm K s).2.fk := by
  revert h
  unfold cNm
  split
  · intro z; exact absurd rfl z
  · intro _; exact csK_p
theorem tNew_fk {K : TK} {t : TW} {s : CS} (h : ¬ (tNew K t s).1 = true) : 0 < (tNew K t s).2.fk := by
  revert h
  unfold tNew
  split
  · split
    · intro z; exact absurd rfl z
    · intro _; exact (show (0 : Int32) < 3 by decide)
  · rename_i h; intro _; exact cNm_fk h
theorem tKW_fk {K : TK} {t : TW} {s : CS} (h : (tKW K t s).1 = -1) : 0 < (tKW K t s).2.fk := by
  revert h
  unfold tKW
  split
  · split
    · intro _; exact (show (0 : Int32) < 3 by decide)
    · rename_i h; intro z; exact absurd z h
  · rename_i h; intro _; exact cNm_fk h
theorem tKP_fk {K : TK} {t : TW} {n : Int32} {s : CS} (h : (tKP K t n s).1 = -1) : 0 < (tKP K t n s).2.fk := by
  revert h
  unfold tKP
  split
  · split
    · intro _; exact (show (0 : Int32) < 3 by decide)
    · rename_i h
      split
      · intro _; exact (show (0 : Int32) < 5 by decide)
      · intro z; exact absurd z h
  · rename_i h; intro _; exact cNm_fk h
theorem tNB_fk {K : TK} {w x y d : Int32} {s : CS} (hx : 0 ≤ x) (hd : ¬ d = -1) (h : (tNB K w x y d s).1 = -1) : 0 < (tNB K w x y d s).2.fk := by
  revert h
  unfold tNB
  split
  · split
    · rename_i h2
      intro z
      have h3 := Int32.le_iff_toInt_le.mp (cNu_in h2).1
      have hx := Int32.le_iff_toInt_le.mp hx
      have z2 : (cNu K x y (cNx K s)).2.tk = -1 := z
      have k0 : (0 : Int32).toInt = 0 := rfl
      have k1 : (-1 : Int32).toInt = -1 := rfl
      rw [z2] at h3
      omega
    · rename_i h2
      intro _; exact cNu_fk h2
  · intro z; exact absurd z hd
theorem tPa_fk {K : TK} {ab be : Int32} {s : CS} (h : ¬ (tPa K ab be s).1 = true) : 0 < (tPa K ab be s).2.2.fk := by
  revert h
  unfold tPa
  split
  · split
    · intro z; exact absurd rfl z
    · rename_i h2; intro _; exact cNu_fk h2
  · intro _; exact csK_p
theorem tOd_fk {K : TK} {s : CS} {t : TW} {x : Int32} (h : ¬ (tOd K s t x).1 = true) : 0 < (tOd K s t x).2.1.fk := by
  revert h
  unfold tOd
  split
  · split
    · intro z; exact absurd rfl z
    · rename_i h2; intro _; exact cNu_fk h2
  · intro _; exact (show (0 : Int32) < 5 by decide)
theorem tPl_fk {K : TK} {s : CS} {t : TW} (h : ¬ (tPl K s t).1 = true) : 0 < (tPl K s t).2.1.fk := by
  revert h
  unfold tPl
  split
  · split
    · intro z; exact absurd rfl z
    · rename_i h2; intro _; exact tNew_fk h2
  · intro _; exact (show (0 : Int32) < 6 by decide)
theorem tW3_fk {K : TK} {t : TW} {n : Int64} {u l : Int32} {s : CS} (h : ¬ (tW3 K t n u l s).1 = true) : 0 < (tW3 K t n u l s).2.1.fk := by
  revert h
  unfold tW3
  split
  · rename_i h2; intro _; exact tNB_fk (by decide) (by decide) h2
  · intro z; exact absurd rfl z
theorem tW2_fk {K : TK} {t : TW} {n : Int64} {s : CS} (h : ¬ (tW2 K t n s).1 = true) : 0 < (tW2 K t n s).2.1.fk := by
  revert h
  unfold tW2
  split
  · rename_i h2; intro _; exact tNB_fk (by decide) (by decide) h2
  · split
    · exact tW3_fk
    · exact tW3_fk
theorem tWk_fk {K : TK} {s : CS} {t : TW} (h : ¬ (tWk K s t).1 = true) : 0 < (tWk K s t).2.1.fk := by
  revert h
  unfold tWk
  split
  · split
    · exact tW2_fk
    · rename_i h2; intro _; exact tNew_fk h2
  · intro _; exact (show (0 : Int32) < 6 by decide)
theorem tL4_fk {K : TK} {t : TW} {l : Nat} {s : CS} (h : ¬ (tL4 K t l s).1 = true) : 0 < (tL4 K t l s).2.1.fk := by
  revert h
  unfold tL4
  split
  · intro z; exact tPa_fk z
  · rename_i h2; intro _; exact tPa_fk h2
theorem tLg_fk {K : TK} {s : CS} {t : TW} (h : ¬ (tLg K s t).1 = true) : 0 < (tLg K s t).2.1.fk := by
  revert h
  unfold tLg
  split
  · unfold tL1
    split
    · rename_i h2; intro _; exact tKW_fk h2
    · unfold tL2
      split
      · rename_i h2; intro _; exact tKP_fk h2
      · unfold tL3
        split
        · rename_i h2; intro _; exact tKP_fk h2
        · exact tL4_fk
  · intro _; exact (show (0 : Int32) < 6 by decide)
theorem tPt_fk {K : TK} {s : CS} {t : TW} {x : Int32} (h : ¬ (tPt K s t x).1 = true) : 0 < (tPt K s t x).2.1.fk := by
  revert h
  unfold tPt
  split
  · exact tOd_fk
  · split
    · exact tPl_fk
    · split
      · exact tWk_fk
      · split
        · exact tLg_fk
        · intro _; exact csK_p
theorem tOd_mo {K : TK} {s : CS} {t : TW} {x : Int32} (h : (tOd K s t x).1 = true) : cMo s (tOd K s t x).2.1 := by
  revert h
  unfold tOd
  split
  · split
    · rename_i h2; intro _; exact cNx_mo.tr (cNu_mo h2)
    · intro z; exact absurd z Bool.false_ne_true
  · intro z; exact absurd z Bool.false_ne_true
theorem tPl_mo {K : TK} {s : CS} {t : TW} (h : (tPl K s t).1 = true) : cMo s (tPl K s t).2.1 := by
  revert h
  unfold tPl
  split
  · split
    · rename_i h2; intro _; exact cNx_mo.tr (tNew_mo h2)
    · intro z; exact absurd z Bool.false_ne_true
  · intro z; exact absurd z Bool.false_ne_true
theorem tW3_mo {K : TK} {t : TW} {n : Int64} {u l : Int32} {s : CS} (h : (tW3 K t n u l s).1 = true) : cMo s (tW3 K t n u l s).2.1 := by
  revert h
  unfold tW3
  split
  · intro z; exact absurd z Bool.false_ne_true
  · rename_i h2; intro _; exact tNB_mo h2
theorem tW2_mo {K : TK} {t : TW} {n : Int64} {s : CS} (h : (tW2 K t n s).1 = true) : cMo s (tW2 K t n s).2.1 := by
  revert h
  unfold tW2
  split
  · intro z; exact absurd z Bool.false_ne_true
  · rename_i h2
    split
    · intro z; exact ((tNB_mo h2).tr cNx_mo).tr (tW3_mo z)
    · intro z; exact (tNB_mo h2).tr (tW3_mo z)
theorem tWk_mo {K : TK} {s : CS} {t : TW} (h : (tWk K s t).1 = true) : cMo s (tWk K s t).2.1 := by
  revert h
  unfold tWk
  split
  · split
    · rename_i h2; intro z; exact (cNx_mo.tr (tNew_mo h2)).tr (tW2_mo z)
    · intro z; exact absurd z Bool.false_ne_true
  · intro z; exact absurd z Bool.false_ne_true
theorem tL4_mo {K : TK} {t : TW} {l : Nat} {s : CS} (h : (tL4 K t l s).1 = true) : cMo s (tL4 K t l s).2.1 := by
  revert h
  unfold tL4
  split
  · rename_i h2; intro z; exact (tPa_mo h2).tr (tPa_mo z)
  · intro z; exact absurd z Bool.false_ne_true
theorem tLg_mo {K : TK} {s : CS} {t : TW} (hP : t.nP ≤ 7) (hW : t.nW ≤ 4) (h : (tLg K s t).1 = true) : cMo s (tLg K s t).2.1 := by
  revert h
  unfold tLg
  split
  · unfold tL1
    split
    · intro z; exact absurd z Bool.false_ne_true
    · rename_i h1
      have m1 := (tKW_in h1 hW).2
      unfold tL2
      split
      · intro z; exact absurd z Bool.false_ne_true
      · rename_i h2
        have m2 := (tKP_in h2 hP).2.2
        unfold tL3
        split
        · intro z; exact absurd z Bool.false_ne_true
        · rename_i h3
          have m3 := (tKP_in h3 hP).2.2
          intro z
          exact (((cNx_mo.tr m1).tr m2).tr m3).tr (tL4_mo z)
  · intro z; exact absurd z Bool.false_ne_true
theorem tPt_mo {K : TK} {s : CS} {t : TW} {x : Int32} (hP : t.nP ≤ 7) (hW : t.nW ≤ 4) (h : (tPt K s t x).1 = true) : cMo s (tPt K s t x).2.1 := by
  revert h
  unfold tPt
  split
  · exact tOd_mo
  · split
    · exact tPl_mo
    · split
      · exact tWk_mo
      · split
        · exact tLg_mo hP hW
        · intro z; exact absurd z Bool.false_ne_true
theorem tOd_tok {K : TK} {s : CS} {t : TW} {x : Int32} (h : tOK t) : tOK (tOd K s t x).2.2.1 := by
  unfold tOd
  split
  · split <;> exact h
  · exact h
theorem tPl_tok {K : TK} {s : CS} {t : TW} (h : tOK t) : tOK (tPl K s t).2.2 := by
  unfold tPl
  split
  · rename_i h7
    split
    · exact ⟨h7, h.hW, h.hL, h.te, h.fr, h.to_⟩
    · exact h
  · exact h
theorem tW3_tok {K : TK} {t : TW} {n : Int64} {u l : Int32} {s : CS} (h : tOK t) (h4 : t.nW < 4) : tOK (tW3 K t n u l s).2.2 := by
  unfold tW3
  split
  · exact h
  · exact ⟨h.hP, h4, h.hL, h.te, h.fr, h.to_⟩
theorem tWk_tok {K : TK} {s : CS} {t : TW} (h : tOK t) : tOK (tWk K s t).2.2 := by
  unfold tWk
  split
  · rename_i h4
    split
    · unfold tW2
      split
      · exact h
      · split
        · exact tW3_tok h h4
        · exact tW3_tok h h4
    · exact h
  · exact h
theorem tE_tok {t : TW} {l : Nat} {r : Bool × Int32 × CS} (h : tOK t) : tOK (tE t l r) := by
  unfold tE; split <;> exact h
theorem tN_tok {t : TW} {l : Nat} {r : Bool × Int32 × CS} (h : tOK t) : tOK (tN t l r) := by
  unfold tN; split <;> exact h
theorem tL4_tok {K : TK} {t : TW} {l : Nat} {s : CS} (h : tOK t) : tOK (tL4 K t l s).2.2 := by
  unfold tL4
  split
  · exact tN_tok (tE_tok h)
  · exact tE_tok h
theorem tLg_tok {K : TK} {s : CS} {t : TW} (h : tOK t) : tOK (tLg K s t).2.2 := by
  have hP := h.hP
  have hW := h.hW
  unfold tLg
  split
  · rename_i h12
    unfold tL1
    split
    · exact h
    · rename_i h1
      have m1 := (tKW_in h1 hW).1
      unfold tL2
      split
      · exact h
      · rename_i h2
        have m2 := (tKP_in h2 hP).1
        unfold tL3
        split
        · exact h
        · rename_i h3
          have m3 := (tKP_in h3 hP).1
          exact tL4_tok ⟨hP, hW, h12, upd_all (P := fun v => vp_in v 4) h.te (inR_in m1 hW (by omega)), upd_all (P := fun v => vp_in v 7) h.fr (inR_in m2 hP (by omega)), upd_all (P := fun v => vp_in v 7) h.to_ (inR_in m3 hP (by omega))⟩
  · exact h
theorem tPt_tok {K : TK} {s : CS} {t : TW} {x : Int32} (h : tOK t) : tOK (tPt K s t x).2.2.1 := by
  unfold tPt
  split
  · exact tOd_tok h
  · split
    · exact tPl_tok h
    · split
      · exact tWk_tok h
      · split
        · exact tLg_tok h
        · exact h
theorem prI_tok {K : TK} : ∀ (r : Nat) (s : CS) (t : TW) (x : Int32), tOK t → tOK (prI K r s t x).2.2.1
  | 0, _, _, _, h => h
  | r + 1, s, t, x, h => by
    unfold prI
    split
    · exact h
    · split
      · split
        · exact prI_tok r _ _ _ (tPt_tok h)
        · exact tPt_tok h
      · exact tPt_tok h
theorem prI_fk {K : TK} : ∀ (r : Nat) (s : CS) (t : TW) (x : Int32), ¬ (prI K r s t x).1 = true → 0 < (prI K r s t x).2.1.fk
  | 0, _, _, _, _ => csK_p
  | r + 1, s, t, x, h => by
    revert h
    unfold prI
    split
    · intro z; exact absurd rfl z
    · split
      · split
        · exact prI_fk r _ _ _
        · rename_i h2; intro _; exact cSg_fk h2
      · rename_i h2; intro _; exact tPt_fk h2
theorem prI_mo {K : TK} : ∀ (r : Nat) (s : CS) (t : TW) (x : Int32), tOK t → (prI K r s t x).1 = true → cMo s (prI K r s t x).2.1
  | 0, _, _, _, _, h => absurd h (show ¬ false = true by decide)
  | r + 1, s, t, x, ok, h => by
    revert h
    unfold prI
    split
    · intro _; exact cMo.rf
    · split
      · rename_i h1
        have m1 := tPt_mo ok.hP ok.hW h1
        split
        · rename_i h2
          intro z
          exact (m1.tr (cSg_mo h2)).tr (prI_mo r _ _ _ (tPt_tok ok) z)
        · intro z; exact absurd z Bool.false_ne_true
      · intro z; exact absurd z Bool.false_ne_true
theorem tClr_tok {t : TW} (h : tOK t) : tOK (tClr t) := ⟨Nat.zero_le _, Nat.zero_le _, Nat.zero_le _, h.te, h.fr, h.to_⟩
/-- one part and its sign -/
def tSt (K : TK) (s : CS) (t : TW) (x : Int32) : Bool × CS × TW × Int32 := if (tPt K s t x).1 = true then ((cSg K 59 (tPt K s t x).2.1).1, (cSg K 59 (tPt K s t x).2.1).2, (tPt K s t x).2.2.1, (tPt K s t x).2.2.2) else (false, (tPt K s t x).2.1, (tPt K s t x).2.2.1, (tPt K s t x).2.2.2)
theorem prI_s {K : TK} {r : Nat} {s : CS} {t : TW} {x : Int32} (h0 : ¬ K.ki s.a = 0) : prI K (r + 1) s t x = if (tSt K s t x).1 = true then prI K r (tSt K s t x).2.1 (tSt K s t x).2.2.1 (tSt K s t x).2.2.2 else tSt K s t x := by
  have e : prI K (r + 1) s t x = _ := if_neg h0
  rw [e]
  unfold tSt
  by_cases c : (tPt K s t x).1 = true
  · rw [if_pos c, if_pos c]
    by_cases c2 : (cSg K 59 (tPt K s t x).2.1).1 = true
    · rw [if_pos c2, if_pos c2]
    · rw [if_neg c2, if_neg c2]
      generalize cSg K 59 (tPt K s t x).2.1 = r9 at c2
      obtain ⟨b9, s9⟩ := r9
      cases b9
      · rfl
      · exact absurd rfl c2
  · rw [if_neg c, if_neg c, if_neg Bool.false_ne_true]
theorem tSt_ok {K : TK} {s : CS} {t : TW} {x : Int32} (h : POk K s t) : POk K (tSt K s t x).2.1 (tSt K s t x).2.2.1 := by
  have h2 := tPt_ok (x := x) h
  unfold tSt
  split
  · exact ⟨cSg_lt h2.1, h2.2⟩
  · exact h2
