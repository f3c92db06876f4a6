/-! ===== the relation between the class's towns and the reference's cells ===== -/
def RS (a : Nat → Int32) (n : Nat → Int64) (t : TW) (D : DW) : Prop := vT a t ∧ SKo t ∧ NS n 0 t ∧ vD t.nW a D ∧ dOK D
theorem vT_n7 {a b : Nat → Int32} {t : TW} (V : vT a t) (e : ∀ j, j < 82 → ¬ j = 7 → b j = a j) : vT b t := by
  have hW := V.ok.hW
  have hL := V.ok.hL
  refine ⟨⟨?_, ?_, ?_, ?_, ?_, ?_, ?_⟩, fun w hw => ?_, fun l hl => ?_, V.ok, V.in_⟩
  · rw [e 0 (by omega) (by omega)]; exact V.P
  · rw [e 1 (by omega) (by omega)]; exact V.W
  · rw [e 2 (by omega) (by omega)]; exact V.L
  · rw [e 3 (by omega) (by omega)]; exact V.od
  · rw [e 4 (by omega) (by omega)]; exact V.sd
  · rw [e 5 (by omega) (by omega)]; exact V.go
  · rw [e 6 (by omega) (by omega)]; exact V.sk
  · rw [e _ (by omega) (by omega), e _ (by omega) (by omega), e _ (by omega) (by omega)]; exact V.wk hw
  · rw [e _ (by omega) (by omega), e _ (by omega) (by omega), e _ (by omega) (by omega), e _ (by omega) (by omega), e _ (by omega) (by omega)]; exact V.leg hl
theorem vD_c {nW : Nat} {a b : Nat → Int32} {D : DW} (h : vD nW a D) (e : ∀ j, j < 450 → b j = a j) : vD nW b D := by
  refine ⟨by rw [e 7 (by omega)]; exact h.1, fun hd => ?_⟩
  obtain ⟨h1, h2, h3⟩ := h.2 hd
  exact ⟨h1, fun r hr => ROW_fr (fun j hj hj2 => e j (by omega)) (h2 r hr), h3⟩
theorem NS_c {n m : Nat → Int64} {t : TW} (N : NS n 0 t) (hP : t.nP ≤ 7) (hW : t.nW ≤ 4) (e : ∀ j, j < 11 → m j = n j) : NS m 0 t :=
  ⟨fun k hk => by rw [e _ (by omega)]; exact N.1 k hk, fun k hk => by rw [e _ (by omega)]; exact N.2 k hk⟩
theorem RS_c {a b : Nat → Int32} {n m : Nat → Int64} {t : TW} {D : DW} (h : RS a n t D) (e : ∀ j, j < 450 → b j = a j) (e2 : ∀ j, j < 11 → m j = n j) : RS b m t D :=
  ⟨vT_82 h.1 (fun j hj => e j (by omega)), h.2.1, NS_c h.2.2.1 h.1.ok.hP h.1.ok.hW e2, vD_c h.2.2.2.1 e, h.2.2.2.2⟩
theorem cpy_at {α : Type} {f g : Nat → α} {n j : Nat} (h : j < n) : va_cpy f g 0 0 n j = f j := by
  unfold va_cpy
  rw [if_pos (by omega), Nat.zero_add, Nat.sub_zero]
theorem NS_cp {n : Nat → Int64} {u : Nat} {t o : TW} (N : NS n u t) (hP : t.nP ≤ 7) (hW : t.nW ≤ 4) : NS n u (tCp t o) := by
  refine ⟨fun k hk => ?_, fun k hk => ?_⟩
  · have hk2 : k < t.nP := hk
    show NR (va_cpy t.pn o.pn 0 0 7 k) _
    rw [cpy_at (by omega)]; exact N.1 k hk2
  · have hk2 : k < t.nW := hk
    show NR (va_cpy t.wn o.wn 0 0 4 k) _
    rw [cpy_at (by omega)]; exact N.2 k hk2
theorem WFD_c {D F : DW} (W : WFD D) (h : F.nR = D.nR) (e1 : ∀ r, r < D.nR → F.dk r = D.dk r) (e2 : ∀ r, r < D.nR → F.ds r = D.ds r) : WFD F := by
  obtain ⟨w1, w2, w3⟩ := W
  refine ⟨fun r hr ho => ?_, fun r hr h7 => ?_, fun b b2 e e9 h1 h2 h3 o1 o2 d1 d2 h4 => ?_⟩
  · rw [h] at hr
    rw [e1 r hr] at ho
    obtain ⟨e, g1, g2, g3, g4, g5⟩ := w1 r hr ho
    exact ⟨e, g1, by rw [h]; exact g2, by rw [e2 r hr]; exact g3, by rw [e1 e g2]; exact g4, by rw [e2 e g2]; exact g5⟩
  · rw [h] at hr
    rw [e1 r hr] at h7
    obtain ⟨b, g1, g2, g3, g4⟩ := w2 r hr h7
    exact ⟨b, g1, by rw [e2 r hr]; exact g2, by rw [e1 b (by omega)]; exact g3, by rw [e2 b (by omega)]; exact g4⟩
  · rw [h] at h3 h4
    rw [e1 b (by omega)] at o1
    rw [e1 b2 (by omega)] at o2
    rw [e2 b (by omega)] at d1
    rw [e2 b2 (by omega)] at d2
    exact w3 b b2 e e9 h1 h2 h3 o1 o2 d1 d2 h4
theorem vD_cp {nW : Nat} {a : Nat → Int32} {D F : DW} (h : vD nW a D) : vD nW a (dCp D F) := by
  refine ⟨h.1, fun hd => ?_⟩
  obtain ⟨h1, h2, h3⟩ := h.2 hd
  refine ⟨h1, fun r hr => ?_, WFD_c h3 rfl (fun r hr => ?_) (fun r hr => ?_)⟩
  · have hr2 : r < D.nR := hr
    show ROW nW a (82 + 6 * r) (va_cpy D.dk F.dk 0 0 60 r) (va_cpy D.df F.df 0 0 60 r) (va_cpy D.ds F.ds 0 0 60 r)
    rw [cpy_at (by omega), cpy_at (by omega), cpy_at (by omega)]
    exact h2 r hr2
  · show va_cpy D.dk F.dk 0 0 60 r = D.dk r
    exact cpy_at (by omega)
  · show va_cpy D.ds F.ds 0 0 60 r = D.ds r
    exact cpy_at (by omega)
theorem dOK_cp {D F : DW} (h : dOK D) (k : dOK F) : dOK (dCp D F) := ⟨h.1, va_cpy_in h.2.1 k.2.1, h.2.2⟩
theorem RS_cp {a : Nat → Int32} {n : Nat → Int64} {t o : TW} {D F : DW} (h : RS a n t D) (ho : tOK o) (hF : dOK F) : RS a n (tCp t o) (dCp D F) :=
  ⟨vT_tCp h.1 ho, h.2.1, NS_cp h.2.2.1 h.1.ok.hP h.1.ok.hW, vD_cp h.2.2.2.1, dOK_cp h.2.2.2.2 hF⟩
theorem vD_no {nW : Nat} {a : Nat → Int32} {D : DW} (h : a 7 = -1) : vD nW a (dNo D) := ⟨h, fun z => absurd rfl z⟩
theorem okP0 : okP .boolean (.int 0) := fun _ => ⟨rfl, rfl⟩
theorem okP1 : okP .boolean (.int 1) := fun _ => ⟨rfl, rfl⟩
theorem dOK_no {D : DW} (h : dOK D) : dOK (dNo D) := ⟨Nat.zero_le _, h.2.1, okP0⟩
/-- what a deed leaves of a town -/
def KEEP (t t2 : TW) : Prop := t2.nW = t.nW ∧ t2.wn = t.wn ∧ (SKo t → SKo t2)
theorem KEEP.rf {t : TW} : KEEP t t := ⟨rfl, rfl, fun h => h⟩
/-- and of its places -/
def KEP (t t2 : TW) : Prop := KEEP t t2 ∧ t2.nP = t.nP ∧ t2.pn = t.pn
theorem KEP.rf {t : TW} : KEP t t := ⟨KEEP.rf, rfl, rfl⟩
theorem RS_keep {a b : Nat → Int32} {n m : Nat → Int64} {t t2 : TW} {D : DW} (h : RS a n t D) (V : vT b t2) (f : frA a b) (k : KEEP t t2) (N : NS m 0 t2) : RS b m t2 D :=
  ⟨V, k.2.2 h.2.1, N, by rw [k.1]; exact vD_fr h.2.2.2.1 f, h.2.2.2.2⟩
theorem RS_kep {a b : Nat → Int32} {n : Nat → Int64} {t t2 : TW} {D : DW} (h : RS a n t D) (V : vT b t2) (f : frA a b) (k : KEP t t2) : RS b n t2 D :=
  RS_keep h V f k.1 (NS_e h.2.2.1 k.2.1 k.1.1 k.2.2 k.1.2.1)
theorem tSk_kep {t : TW} {v : Int32} (h : SKo t → SKo (tSk t v)) : KEP t (tSk t v) := ⟨⟨rfl, rfl, h⟩, rfl, rfl⟩
theorem stF_kep {t : TW} {l : Int32} (I : tOK t) : KEP t (stF t l).2.2 := by
  unfold stF
  split
  · rename_i h
    split
    · exact KEP.rf
    · refine tSk_kep (fun K k hk hh => ?_)
      have hL := I.hL
      obtain ⟨i, i1, i2⟩ := inR_ex h (by omega)
      have hh2 : hs (t.sk ||| bit l) (nI k) := hh
      rw [i2, hs_or hk] at hh2
      rcases hh2 with z | z
      · exact K k hk z
      · have e := (hs_bit (by omega) hk).mp z
        show k < t.nL
        omega
  · exact KEP.rf
theorem rsF_kep {t : TW} {l : Int32} : KEP t (rsF t l).2.2 := by
  unfold rsF
  split
  · split
    · refine tSk_kep (fun K k hk hh => ?_)
      have hh2 : hs (t.sk &&& (bit l ^^^ (-1))) (nI k) := hh
      rw [hs_and hk] at hh2
      exact K k hk hh2.1
    · exact KEP.rf
  · exact KEP.rf
theorem blF_kep {t : TW} {w f : Int32} : KEP t (blF t w f).2.2 := by
  unfold blF
  split
  · exact ⟨⟨rfl, rfl, fun h => h⟩, rfl, rfl⟩
  · exact KEP.rf
theorem goF_kep {t : TW} {l : Int32} : KEP t (goF t l).2.2 := by
  unfold goF
  split
  · split
    · exact ⟨⟨rfl, rfl, fun h => h⟩, rfl, rfl⟩
    · exact KEP.rf
  · exact KEP.rf
theorem ruF_kep {t : TW} {a : Int32} : KEP t (ruF t a).2.2 := by
  unfold ruF
  split
  · exact ⟨⟨rfl, rfl, fun h => h⟩, rfl, rfl⟩
  · exact KEP.rf
theorem teF_kep {t : TW} {l e n : Int32} : KEP t (teF t l e n).2.2 := by
  unfold teF
  split
  · exact ⟨⟨rfl, rfl, fun h => h⟩, rfl, rfl⟩
  · exact KEP.rf
theorem paF_kep {t : TW} {w p q e n : Int32} : KEP t (paF t w p q e n).2.2 := by
  unfold paF
  split
  · split
    · exact ⟨⟨rfl, rfl, fun h k hk hh => Nat.lt_succ_of_lt (h k hk hh)⟩, rfl, rfl⟩
    · exact KEP.rf
  · exact KEP.rf
theorem seF_keep {t : TW} : KEEP t (seF t).2.2 := by
  unfold seF
  split
  · exact ⟨rfl, rfl, fun h => h⟩
  · exact KEEP.rf
theorem seF_NS {n : Nat → Int64} {t : TW} (N : NS n 0 t) : NS (if t.nP < 7 then vp_updL n t.nP 0 else n) 0 (seF t).2.2 := by
  unfold seF
  by_cases c : t.nP < 7
  · rw [if_pos c, if_pos c]
    refine ⟨fun k hk => ?_, fun k hk => ?_⟩
    · have hk2 : k < t.nP + 1 := hk
      show NR (vp_updL t.pn t.nP 0 k) (vp_updL n t.nP 0 (0 + k))
      rw [Nat.zero_add]
      by_cases z : k = t.nP
      · rw [z, vLq_at, vLq_at]
        exact Or.inl ⟨rfl, rfl⟩
      · rw [vLq_ne z, vLq_ne z]
        have := N.1 k (by omega)
        rw [Nat.zero_add] at this
        exact this
    · show NR (t.wn k) (vp_updL n t.nP 0 (0 + 7 + k))
      rw [vLq_ne (by omega)]
      exact N.2 k hk
  · rw [if_neg c, if_neg c]
    exact N
theorem sk_in {x : Int32} (h : ∀ k, k < 32 → hs x (nI k) → k < 12) : vp_in x 4096 := by
  have e : x = nI (x.toBitVec.toNat) := by
    apply Int32.toBitVec_inj.mp
    show x.toBitVec = BitVec.ofNat 32 x.toBitVec.toNat
    simp
  have hlt : x.toBitVec.toNat < 4096 := by
    have h2 : x.toBitVec.toNat < 2 ^ 12 := by
      apply Nat.lt_pow_two_of_testBit
      intro i hi
      by_cases c : i < 32
      · have hf : ¬ hs x (nI i) := fun z => by have := h i c z; omega
        rw [hs_bv c] at hf
        rw [← BitVec.getLsbD] 
        simpa using hf
      · exact Nat.testBit_lt_two_pow (Nat.lt_of_lt_of_le x.toBitVec.isLt (Nat.pow_le_pow_right (by omega) (by omega)))
    exact h2
  rw [e]
  exact vp_in_nI hlt (by omega)
theorem SKo_4 {t : TW} (K : SKo t) (I : tOK t) : vp_in t.sk 4096 := sk_in (fun k hk hh => by have := K k hk hh; have := I.hL; omega)
/-- towns, spare ones, DAYS, MARKS -/
def REL (T S : TW) (D E : DW) (M : Nat → TW) (N : Nat → DW) (nK : Nat) (a : Nat → Int32) (n : Nat → Int64) : Prop :=
  RS a n T D ∧ tOK S ∧ (∀ j, vp_in (E.ds j) 60) ∧ nK ≤ 3 ∧ (∀ k, tOK (M k)) ∧ (∀ k, dOK (N k)) ∧ ∀ k, k < nK → RS (fun j => a (450 * (k + 1) + j)) (fun j => n (11 * (k + 1) + j)) (M k) (N k)
theorem REL_go {T S T2 S2 : TW} {D E D2 E2 : DW} {M : Nat → TW} {N : Nat → DW} {nK : Nat} {a b : Nat → Int32} {n m : Nat → Int64} (h : REL T S D E M N nK a n) (R : RS b m T2 D2) (hS : tOK S2) (hE : ∀ j, vp_in (E2.ds j) 60) (e : ∀ j, 450 ≤ j → j < 1800 → b j = a j) (e2 : ∀ j, 11 ≤ j → j < 44 → m j = n j) : REL T2 S2 D2 E2 M N nK b m := by
  obtain ⟨h1, h2, h3, h4, h5, h6, h7⟩ := h
  refine ⟨R, hS, hE, h4, h5, h6, fun k hk => RS_c (h7 k hk) (fun j hj => e _ (by omega) (by omega)) (fun j hj => e2 _ (by omega) (by omega))⟩
theorem updY_at {α : Type} {Y : Nat → α} {k : Nat} {y : α} : updY Y k y k = y := if_pos rfl
theorem updY_ne {α : Type} {Y : Nat → α} {k j : Nat} {y : α} (h : ¬ j = k) : updY Y k y j = Y j := if_neg h
theorem REL_mark {T S : TW} {D E : DW} {M : Nat → TW} {N : Nat → DW} {nK : Nat} {a b : Nat → Int32} {n m : Nat → Int64} (h : REL T S D E M N nK a n) (hk : nK < 3) (g1 : ∀ j, j < 450 → b (450 * (nK + 1) + j) = a (450 * 0 + j)) (g2 : ∀ j, ¬ (450 * (nK + 1) ≤ j ∧ j < 450 * (nK + 1) + 450) → b j = a j) (g3 : ∀ j, j < 11 → m (11 * (nK + 1) + j) = n (11 * 0 + j)) (g4 : ∀ j, ¬ (11 * (nK + 1) ≤ j ∧ j < 11 * (nK + 1) + 11) → m j = n j) : REL T S D E (updY M nK (tCp T (M nK))) (updY N nK (dCp D (N nK))) (nK + 1) b m := by
  obtain ⟨h1, h2, h3, h4, h5, h6, h7⟩ := h
  refine ⟨RS_c h1 (fun j hj => g2 j (by omega)) (fun j hj => g4 j (by omega)), h2, h3, by omega, fun k => ?_, fun k => ?_, fun k hk2 => ?_⟩
  · by_cases c : k = nK
    · rw [c, updY_at]; exact tCp_OK h1.1.ok (h5 nK)
    · rw [updY_ne c]; exact h5 k
  · by_cases c : k = nK
    · rw [c, updY_at]; exact dOK_cp h1.2.2.2.2 (h6 nK)
    · rw [updY_ne c]; exact h6 k
  · by_cases c : k = nK
    · rw [c, updY_at, updY_at]
      refine RS_c (RS_cp h1 (h5 nK) (h6 nK)) (fun j hj => ?_) (fun j hj => ?_)
      · exact (g1 j hj).trans (by rw [show 450 * 0 + j = j by omega])
      · exact (g3 j hj).trans (by rw [show 11 * 0 + j = j by omega])
    · rw [updY_ne c, updY_ne c]
      exact RS_c (h7 k (by omega)) (fun j hj => g2 _ (by omega)) (fun j hj => g4 _ (by omega))
theorem REL_undo {T S : TW} {D E : DW} {M : Nat → TW} {N : Nat → DW} {nK : Nat} {a b : Nat → Int32} {n m : Nat → Int64} (h : REL T S D E M N nK a n) (hk : 0 < nK) (g1 : ∀ j, j < 450 → b (450 * 0 + j) = a (450 * nK + j)) (g2 : ∀ j, ¬ (450 * 0 ≤ j ∧ j < 450 * 0 + 450) → b j = a j) (g3 : ∀ j, j < 11 → m (11 * 0 + j) = n (11 * nK + j)) (g4 : ∀ j, ¬ (11 * 0 ≤ j ∧ j < 11 * 0 + 11) → m j = n j) : REL (tCp (M (nK - 1)) T) S (dCp (N (nK - 1)) D) E M N (nK - 1) b m := by
  obtain ⟨h1, h2, h3, h4, h5, h6, h7⟩ := h
  have h8 := h7 (nK - 1) (by omega)
  refine ⟨RS_c (RS_cp h8 h1.1.ok h1.2.2.2.2) (fun j hj => ?_) (fun j hj => ?_), h2, h3, by omega, h5, h6, fun k hk2 => RS_c (h7 k (by omega)) (fun j hj => g2 _ (by omega)) (fun j hj => g4 _ (by omega))⟩
  · have e := g1 j hj
    rw [show 450 * 0 + j = j by omega] at e
    rw [e, show nK - 1 + 1 = nK by omega]
  · have e := g3 j hj
    rw [show 11 * 0 + j = j by omega] at e
    rw [e, show nK - 1 + 1 = nK by omega]
theorem tE_sk {t : TW} {l : Nat} {r : Bool × Int32 × CS} : (tE t l r).sk = t.sk := by
  unfold tE; split <;> rfl
theorem tN_sk {t : TW} {l : Nat} {r : Bool × Int32 × CS} : (tN t l r).sk = t.sk := by
  unfold tN; split <;> rfl
theorem tPt_sk {K : TK} {s : CS} {t : TW} {x : Int32} : (tPt K s t x).2.2.1.sk = t.sk := by
  unfold tPt
  split
  · unfold tOd
    split
    · split <;> rfl
    · rfl
  · split
    · show (tPl K s t).2.2.sk = t.sk
      unfold tPl
      split
      · split <;> rfl
      · rfl
    · split
      · show (tWk K s t).2.2.sk = t.sk
        unfold tWk
        split
        · split
          · unfold tW2
            split
            · rfl
            · split
              · unfold tW3
                split <;> rfl
              · unfold tW3
                split <;> rfl
          · rfl
        · rfl
      · split
        · show (tLg K s t).2.2.sk = t.sk
          unfold tLg
          split
          · unfold tL1
            split
            · rfl
            · unfold tL2
              split
              · rfl
              · unfold tL3
                split
                · rfl
                · unfold tL4
                  split
                  · exact tN_sk.trans (tE_sk.trans rfl)
                  · exact tE_sk.trans rfl
          · rfl
        · rfl
theorem prI_sk {K : TK} : ∀ (r : Nat) (s : CS) (t : TW) (x : Int32), (prI K r s t x).2.2.1.sk = t.sk
  | 0, _, _, _ => rfl
  | r + 1, s, t, x => by
    by_cases c : K.ki s.a = 0
    · have e : prI K (r + 1) s t x = _ := if_pos c
      rw [e]
    · rw [prI_s c]
      have e1 : (tSt K s t x).2.2.1.sk = t.sk := by
        unfold tSt
        split <;> exact tPt_sk
      split
      · rw [prI_sk r]; exact e1
      · exact e1
theorem SKo_0 {t : TW} (h : t.sk = 0) : SKo t := by
  intro k hk hh
  rw [h] at hh
  have : ∀ k, k < 32 → ¬ hs 0 (nI k) := by decide +kernel
  exact absurd hh (this k hk)
