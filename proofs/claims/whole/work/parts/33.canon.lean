/-! ===== Chart by what counts of it ===== -/
/-- the legs that lay are legs -/
def trN (nL : Nat) (S : TrS) : Prop := ∀ j, j < S.2.2.2.1 → ∃ l, l < nL ∧ S.2.1 j = nI l
theorem trN_step {there : Int32} {fr to_ : Nat → Int32} {nL nP : Nat} {S : TrS} (h : trN nL S) : trN nL (trStep there fr to_ nL nP S) := by
  unfold trStep
  split
  · exact h
  · rename_i hne
    obtain ⟨l, -, hl, e, -⟩ := ffind_ex (p := layP there S.1 fr to_) (n := nL) (i := 0) hne
    have hx : ∀ j, j < S.2.2.2.1 + 1 → ∃ l, l < nL ∧ upd S.2.1 S.2.2.2.1 (trL there fr to_ nL S.1) j = nI l := by
      intro j hj
      unfold upd
      split
      · exact ⟨l, by omega, e⟩
      · exact h j (by omega)
    split <;> exact hx
theorem trN_I {there : Int32} {fr to_ : Nat → Int32} {nL nP : Nat} : ∀ (r : Nat) {S : TrS}, trN nL S → trN nL (trI there fr to_ nL nP r S)
  | 0, _, h => h
  | r + 1, _, h => trN_I r (trN_step h)
theorem lyI_congr {E N E' N' la ba la' ba' fr to_ : Nat → Int32} {nL m : Nat} (hE : ∀ j, j < nL → E j = E' j ∧ N j = N' j) (hfr : ∀ j, vp_in (fr j) 7) (hto : ∀ j, vp_in (to_ j) 7) (hl : ∀ j, j < m → ∃ l, l < nL ∧ la j = nI l) (hn : nL ≤ 12) (ha : ∀ j, j < m → la j = la' j ∧ ba j = ba' j) : ∀ (r i : Nat) (s s' : (Nat → Int32) × (Nat → Int32)), i + r = m → (∀ j, j < 7 → s.1 j = s'.1 j ∧ s.2 j = s'.2 j) → ∀ j, j < 7 → (lyI E N la ba fr to_ r i s).1 j = (lyI E' N' la' ba' fr to_ r i s').1 j ∧ (lyI E N la ba fr to_ r i s).2 j = (lyI E' N' la' ba' fr to_ r i s').2 j
  | 0, i, s, s', _, h => h
  | r + 1, i, s, s', hi, h => by
    simp only [lyI]
    refine lyI_congr hE hfr hto hl hn ha r (i + 1) _ _ (by omega) ?_
    obtain ⟨l, hl1, hl2⟩ := hl i (by omega)
    obtain ⟨a1, a2⟩ := ha i (by omega)
    have e1 : (la' i).toNatClampNeg = l := by rw [← a1, hl2]; exact nI_clamp (by omega)
    have e2 : (la i).toNatClampNeg = l := by rw [hl2]; exact nI_clamp (by omega)
    obtain ⟨b1, b2⟩ := hE l hl1
    have f1 : (fr l).toNatClampNeg < 7 := Nat.not_le.mp fun q => hfr l (Or.inr q)
    have t1 : (to_ l).toNatClampNeg < 7 := Nat.not_le.mp fun q => hto l (Or.inr q)
    intro j hj
    simp only [lyStep, e1, e2, a2, b1, b2]
    split
    · simp only [upd, (h _ f1).1, (h _ f1).2]
      constructor
      · split
        · rfl
        · exact (h j hj).1
      · split
        · rfl
        · exact (h j hj).2
    · simp only [upd, (h _ t1).1, (h _ t1).2]
      constructor
      · split
        · rfl
        · exact (h j hj).1
      · split
        · rfl
        · exact (h j hj).2
/-- where all lies, by yards E, N, with the legs th -/
def cXY (E N : Nat → Int32) (th : Int32) (fr to_ : Nat → Int32) (nL nP : Nat) : (Nat → Int32) × (Nat → Int32) := lyI E N (pOf th fr to_ nL nP).2.1 (pOf th fr to_ nL nP).2.2.1 fr to_ (pOf th fr to_ nL nP).2.2.2.1 0 (fun _ => 0, fun _ => 0)
def misC (E N : Nat → Int32) (th : Int32) (fr to_ : Nat → Int32) (nL nP : Nat) (l : Nat) : Int32 := misV (cXY E N th fr to_ nL nP).1 (cXY E N th fr to_ nL nP).2 E N fr to_ l
abbrev cloC (E N : Nat → Int32) (th : Int32) (fr to_ : Nat → Int32) (nL nP : Nat) : Prop := ∀ l, l < nL → ¬ (hs th (nI l) ∧ 0 < misC E N th fr to_ nL nP l)
/-- a chart that is drawn so -/
def chA (E N : Nat → Int32) (th : Int32) (fr to_ : Nat → Int32) (nL nP : Nat) (cea cno cx cy cpo : Nat → Int32) : Prop := (∀ j, j < nL → cea j = E j ∧ cno j = N j) ∧ (∀ j, j < 7 → cpo j = (pOf th fr to_ nL nP).1 j) ∧ ∀ j, j < 7 → cx j = (cXY E N th fr to_ nL nP).1 j ∧ cy j = (cXY E N th fr to_ nL nP).2 j
theorem chA_mis {E N : Nat → Int32} {th : Int32} {fr to_ : Nat → Int32} {nL nP : Nat} {cea cno cx cy cpo : Nat → Int32} (h : chA E N th fr to_ nL nP cea cno cx cy cpo) (hfr : ∀ j, vp_in (fr j) 7) (hto : ∀ j, vp_in (to_ j) 7) {l : Nat} (hl : l < nL) : misV cx cy cea cno fr to_ l = misC E N th fr to_ nL nP l := by
  have f1 : (fr l).toNatClampNeg < 7 := Nat.not_le.mp fun q => hfr l (Or.inr q)
  have t1 : (to_ l).toNatClampNeg < 7 := Nat.not_le.mp fun q => hto l (Or.inr q)
  simp only [misC, misV, (h.2.2 _ f1).1, (h.2.2 _ f1).2, (h.2.2 _ t1).1, (h.2.2 _ t1).2, (h.1 l hl).1, (h.1 l hl).2]
theorem lay_chA {E N : Nat → Int32} {th : Int32} {fr to_ : Nat → Int32} {nL nP : Nat} (hn : nL ≤ 12) (hP : nP ≤ 7) (hfr : ∀ j, vp_in (fr j) 7) (hto : ∀ j, vp_in (to_ j) 7) {cea cno cx cy : Nat → Int32} {S : TrS} (hS : trE S (pOf th fr to_ nL nP)) (hN : trN nL S) (hE : ∀ j, j < nL → cea j = E j ∧ cno j = N j) :
    chA E N th fr to_ nL nP cea cno (lyI cea cno S.2.1 S.2.2.1 fr to_ S.2.2.2.1 0 (fil 7 0 cx, fil 7 0 cy)).1 (lyI cea cno S.2.1 S.2.2.1 fr to_ S.2.2.2.1 0 (fil 7 0 cx, fil 7 0 cy)).2 S.1 := by
  have e : S.2.2.2.1 = (pOf th fr to_ nL nP).2.2.2.1 := by rw [hS.2.2]
  refine ⟨hE, hS.1, ?_⟩
  unfold cXY
  rw [← e]
  exact lyI_congr hE hfr hto hN hn hS.2.1 S.2.2.2.1 0 _ _ (by omega) (fun j hj => by simp [fil, hj])
theorem iorr_congr {f g : Nat → Int32} : ∀ {n : Nat}, (∀ l, l < n → f l = g l) → iorr f n = iorr g n
  | 0, _ => rfl
  | n + 1, h => by simp only [iorr]; rw [iorr_congr (fun l hl => h l (by omega)), h n (by omega)]
theorem isum_congr {f g : Nat → Int32} : ∀ {n : Nat}, (∀ l, l < n → f l = g l) → isum f n = isum g n
  | 0, _ => rfl
  | n + 1, h => by simp only [isum]; rw [isum_congr (fun l hl => h l (by omega)), h n (by omega)]
def misSC (E N : Nat → Int32) (th : Int32) (fr to_ : Nat → Int32) (nL nP : Nat) : Int32 := iorr (fun l => if canM (pOf th fr to_ nL nP).1 fr to_ th l ∧ 0 < misC E N th fr to_ nL nP l then bit (nI l) else 0) nL
def liSC (th : Int32) (fr to_ : Nat → Int32) (nL nP : Nat) : Int32 := iorr (fun p => if (pOf th fr to_ nL nP).1 p = 0 then bit (nI p) else 0) nP
theorem liP_congr {po po' : Nat → Int32} (h : ∀ j, j < 7 → po j = po' j) (p : Int32) : liP po p ↔ liP po' p := by
  constructor
  · rintro ⟨h1, h2⟩
    have : p.toNatClampNeg < 7 := Nat.not_le.mp fun q => inR_in (n := 7) (N := 7) h1 (Nat.le_refl _) (by omega) (Or.inr q)
    exact ⟨h1, by rw [← h _ this]; exact h2⟩
  · rintro ⟨h1, h2⟩
    have : p.toNatClampNeg < 7 := Nat.not_le.mp fun q => inR_in (n := 7) (N := 7) h1 (Nat.le_refl _) (by omega) (Or.inr q)
    exact ⟨h1, by rw [h _ this]; exact h2⟩
section T33
variable {Γ : Gm} {Q : Option Value → LH → Prop}
theorem c_Chart_drawC {cea cno cx cy cpo cla cba fa te fr to_ ea no : Nat → Int32} {cly cpt wa od sk sd go : Int32} {pn wn : Nat → Int64} {nL nP : Nat} (hn : nL ≤ 12) (hP : nP ≤ 7) (hte : ∀ j, vp_in (te j) 4) (hfr : ∀ j, vp_in (fr j) 7) (hto : ∀ j, vp_in (to_ j) 7) (hla : ∀ j, vp_in (cla j) 12) (hq : ∀ (cea cno cx cy cpo cla cba : Nat → Int32) (cly : Int32), chA (mE ea no fa te) (mN ea no fa te) (lTh (nI nL) sk) fr to_ nL nP cea cno cx cy cpo → (∀ j, vp_in (cla j) 12) → Q none (hCT cea cno cx cy cpo cla cba cly (nI (pOf (lTh (nI nL) sk) fr to_ nL nP).2.2.2.2.1) pn wn fa te fr to_ ea no (nI nP) wa (nI nL) od sk sd go)) : Call Γ M_Chart_draw 4 0 0 [.ref 0, .ref 8] (hCT cea cno cx cy cpo cla cba cly cpt pn wn fa te fr to_ ea no (nI nP) wa (nI nL) od sk sd go) Q := by
  refine c_Chart_draw hn hP hte hfr hto hla ?_
  have hS := pOf_eq (there := (lTh (nI nL) sk)) (nL := nL) hP hfr hto cpo cla cba
  have e : (trI (lTh (nI nL) sk) fr to_ nL nP nP (tr0 cpo cla cba)).2.2.2.2.1 = (pOf (lTh (nI nL) sk) fr to_ nL nP).2.2.2.2.1 := by rw [hS.2.2]
  rw [e]
  exact hq _ _ _ _ _ _ _ _ (lay_chA hn hP hfr hto hS (trN_I nP (fun j hj => absurd hj (by simp [tr0]))) (fun j hj => by simp [mEf, mNf, hj])) (trI_la hn _ _ hla)
theorem c_Chart_closesC {cea cno cx cy cpo cla cba fa te fr to_ ea no : Nat → Int32} {cly cpt pl wa od sk sd go : Int32} {pn wn : Nat → Int64} {E N : Nat → Int32} {nL nP : Nat} {th : Int32} (hn : nL ≤ 12) (hfr : ∀ j, vp_in (fr j) 7) (hto : ∀ j, vp_in (to_ j) 7) (hA : chA E N th fr to_ nL nP cea cno cx cy cpo) (hq : Q (some (.int (bP (cloC E N th fr to_ nL nP)))) (hCT cea cno cx cy cpo cla cba cly cpt pn wn fa te fr to_ ea no pl wa (nI nL) od sk sd go)) : Call Γ M_Chart_closes 3 0 0 [.ref 0, .ref 8, .int th] (hCT cea cno cx cy cpo cla cba cly cpt pn wn fa te fr to_ ea no pl wa (nI nL) od sk sd go) Q := by
  refine c_Chart_closes hn hfr hto ?_
  have e : (∀ l, l < nL → ¬ (hs th (nI l) ∧ 0 < misV cx cy cea cno fr to_ l)) ↔ cloC E N th fr to_ nL nP := by
    constructor
    · intro h l hl; rw [← chA_mis hA hfr hto hl]; exact h l hl
    · intro h l hl; rw [chA_mis hA hfr hto hl]; exact h l hl
  have e2 : bP (∀ l, l < nL → ¬ (hs th (nI l) ∧ 0 < misV cx cy cea cno fr to_ l)) = bP (cloC E N th fr to_ nL nP) := by
    by_cases c : cloC E N th fr to_ nL nP
    · rw [bP_t c, bP_t (e.mpr c)]
    · rw [bP_f c, bP_f (fun z => c (e.mp z))]
  rw [e2]; exact hq
theorem c_Chart_missSetC {cea cno cx cy cpo cla cba fa te fr to_ ea no : Nat → Int32} {cly cpt pl wa od sk sd go : Int32} {pn wn : Nat → Int64} {E N : Nat → Int32} {nL nP : Nat} (hn : nL ≤ 12) (hfr : ∀ j, vp_in (fr j) 7) (hto : ∀ j, vp_in (to_ j) 7) (hA : chA E N (lTh (nI nL) sk) fr to_ nL nP cea cno cx cy cpo) (hq : Q (some (.int (misSC E N (lTh (nI nL) sk) fr to_ nL nP))) (hCT cea cno cx cy cpo cla cba cly cpt pn wn fa te fr to_ ea no pl wa (nI nL) od sk sd go)) : Call Γ M_Chart_missSet 4 0 0 [.ref 0, .ref 8] (hCT cea cno cx cy cpo cla cba cly cpt pn wn fa te fr to_ ea no pl wa (nI nL) od sk sd go) Q := by
  refine c_Chart_missSet hn hfr hto ?_
  rw [show iorr _ nL = misSC E N (lTh (nI nL) sk) fr to_ nL nP from iorr_congr (fun l hl => ?_)]
  · exact hq
  · have e : (canM cpo fr to_ (lTh (nI nL) sk) l ∧ 0 < misV cx cy cea cno fr to_ l) ↔ (canM (pOf (lTh (nI nL) sk) fr to_ nL nP).1 fr to_ (lTh (nI nL) sk) l ∧ 0 < misC E N (lTh (nI nL) sk) fr to_ nL nP l) := by
      rw [chA_mis hA hfr hto hl]
      simp only [canM, liP_congr hA.2.1]
    simp only [e]
theorem c_Chart_liesSetC {cea cno cx cy cpo cla cba fa te fr to_ ea no : Nat → Int32} {cly cpt wa le od sk sd go : Int32} {pn wn : Nat → Int64} {th : Int32} {nL nP : Nat} (hP : nP ≤ 7) (hA : ∀ j, j < 7 → cpo j = (pOf th fr to_ nL nP).1 j) (hq : Q (some (.int (liSC th fr to_ nL nP))) (hCT cea cno cx cy cpo cla cba cly cpt pn wn fa te fr to_ ea no (nI nP) wa le od sk sd go)) : Call Γ M_Chart_liesSet 3 0 0 [.ref 0, .ref 8] (hCT cea cno cx cy cpo cla cba cly cpt pn wn fa te fr to_ ea no (nI nP) wa le od sk sd go) Q := by
  refine c_Chart_liesSet hP ?_
  rw [show iorr _ nP = liSC th fr to_ nL nP from iorr_congr (fun p hp => by rw [hA p (by omega)])]
  exact hq
end T33
