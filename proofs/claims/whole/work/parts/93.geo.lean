/-! ===== how far places lie: 1782 yards at most ===== -/
def bdI (d : Nat) (x : Int32) : Prop := -(d : Int) ≤ x.toInt ∧ x.toInt ≤ d
def bdX (d : Nat) (X : Nat → Int32) : Prop := (∀ p, bdI d (X p)) ∧ ∀ p q, (X p).toInt - (X q).toInt ≤ d
theorem st_bd : ∀ i, i < 199 → ∀ s, s < 3 → (-297 ≤ (nI (s + 1) * (nI i - 99)).toInt ∧ (nI (s + 1) * (nI i - 99)).toInt ≤ 297) ∧ (-297 ≤ (nI (s + 1) * -(nI i - 99)).toInt ∧ (nI (s + 1) * -(nI i - 99)).toInt ≤ 297) := by decide +kernel
theorem sp_bd {e f : Int32} (he : isPa e) (hf : inR f 24) : bdI 297 (sB f * e) ∧ bdI 297 (sB f * -e) := by
  obtain ⟨i, hi, rfl⟩ := paE he
  obtain ⟨s, hs, es⟩ := sB_fin hf
  rw [es]
  exact st_bd i hi s hs
theorem neg_neg32 (e : Int32) : - -e = e := by simp
theorem rE_bd {e n f : Int32} (he : isPa e) (hn : isPa n) (hf : inR f 24) : bdI 297 (rE e n f) ∧ bdI 297 (rN e n f) := by
  have a := sp_bd he hf
  have b := sp_bd hn hf
  unfold rE rN
  by_cases h0 : tB f = 0
  · rw [if_pos h0, if_pos h0]
    by_cases hl : lB f = 1
    · rw [if_pos hl]; exact ⟨a.2, b.1⟩
    · rw [if_neg hl]; exact ⟨a.1, b.1⟩
  · rw [if_neg h0, if_neg h0]
    by_cases h1 : tB f = 1
    · rw [if_pos h1, if_pos h1]
      by_cases hl : lB f = 1
      · rw [if_pos hl, neg_neg32]; exact ⟨b.1, a.1⟩
      · rw [if_neg hl]; exact ⟨b.1, a.2⟩
    · rw [if_neg h1, if_neg h1]
      by_cases h2 : tB f = 2
      · rw [if_pos h2, if_pos h2]
        by_cases hl : lB f = 1
        · rw [if_pos hl, neg_neg32]; exact ⟨a.1, b.2⟩
        · rw [if_neg hl]; exact ⟨a.2, b.2⟩
      · rw [if_neg h2, if_neg h2]
        by_cases hl : lB f = 1
        · rw [if_pos hl]; exact ⟨b.2, a.2⟩
        · rw [if_neg hl]; exact ⟨b.2, a.1⟩
theorem bd_add {d : Nat} {x e : Int32} (hd : d ≤ 3000) (hx : bdI d x) (he : bdI 297 e) : (x + e).toInt = x.toInt + e.toInt ∧ (x - e).toInt = x.toInt - e.toInt := by
  obtain ⟨a, b⟩ := hx
  obtain ⟨c, c2⟩ := he
  rw [Int32.toInt_add, Int32.toInt_sub]
  constructor <;> (apply Int.bmod_eq_of_le <;> omega)
theorem bdX_upd {d k e : Nat} {X : Nat → Int32} {v : Int32} (h : bdX d X) (hv : (X e).toInt - 297 ≤ v.toInt ∧ v.toInt ≤ (X e).toInt + 297) : bdX (d + 297) (upd X k v) := by
  have he := h.1 e
  unfold bdI at he
  constructor
  · intro p
    have hp := h.1 p
    unfold bdI at hp ⊢
    by_cases z : p = k
    · rw [show upd X k v p = v from if_pos z]; omega
    · rw [show upd X k v p = X p from if_neg z]; omega
  · intro p q
    have h1 := h.2 p q
    have h2 := h.2 p e
    have h3 := h.2 e q
    have h4 := h.2 e e
    by_cases z : p = k <;> by_cases w : q = k
    · rw [show upd X k v p = v from if_pos z, show upd X k v q = v from if_pos w]; omega
    · rw [show upd X k v p = v from if_pos z, show upd X k v q = X q from if_neg w]; omega
    · rw [show upd X k v p = X p from if_neg z, show upd X k v q = v from if_pos w]; omega
    · rw [show upd X k v p = X p from if_neg z, show upd X k v q = X q from if_neg w]; omega
theorem lyS_bd {E N la ba fr to_ : Nat → Int32} {nL i d : Nat} {s : (Nat → Int32) × (Nat → Int32)} (hn : nL ≤ 12) (hd : d ≤ 3000) (hE : ∀ l, l < nL → bdI 297 (E l) ∧ bdI 297 (N l)) (hl : ∃ l, l < nL ∧ la i = nI l) (h : bdX d s.1 ∧ bdX d s.2) : bdX (d + 297) (lyStep E N la ba fr to_ i s).1 ∧ bdX (d + 297) (lyStep E N la ba fr to_ i s).2 := by
  obtain ⟨l, hl, el⟩ := hl
  obtain ⟨e1, e2⟩ := hE l hl
  have ec : (nI l).toNatClampNeg = l := nI_clamp (by omega)
  unfold lyStep
  rw [el, ec]
  have b1 := e1; have b2 := e2
  unfold bdI at b1 b2
  split
  · have a1 := (bd_add hd (h.1.1 (fr l).toNatClampNeg) e1).1
    have a2 := (bd_add hd (h.2.1 (fr l).toNatClampNeg) e2).1
    exact ⟨bdX_upd (e := (fr l).toNatClampNeg) h.1 (by rw [a1]; omega), bdX_upd (e := (fr l).toNatClampNeg) h.2 (by rw [a2]; omega)⟩
  · have a1 := (bd_add hd (h.1.1 (to_ l).toNatClampNeg) e1).2
    have a2 := (bd_add hd (h.2.1 (to_ l).toNatClampNeg) e2).2
    exact ⟨bdX_upd (e := (to_ l).toNatClampNeg) h.1 (by rw [a1]; omega), bdX_upd (e := (to_ l).toNatClampNeg) h.2 (by rw [a2]; omega)⟩
theorem lyI_bd {E N la ba fr to_ : Nat → Int32} {nL : Nat} (hn : nL ≤ 12) (hE : ∀ l, l < nL → bdI 297 (E l) ∧ bdI 297 (N l)) : ∀ (r i d : Nat) (s : (Nat → Int32) × (Nat → Int32)), r ≤ 6 → d + 297 * r ≤ 1782 → (∀ j, i ≤ j → j < i + r → ∃ l, l < nL ∧ la j = nI l) → bdX d s.1 ∧ bdX d s.2 → bdX (d + 297 * r) (lyI E N la ba fr to_ r i s).1 ∧ bdX (d + 297 * r) (lyI E N la ba fr to_ r i s).2
  | 0, i, d, s, _, _, _, h => h
  | r + 1, i, d, s, hr, hd, hl, h => by
    have h1 := lyS_bd (ba := ba) (fr := fr) (to_ := to_) hn (by omega) hE (hl i (Nat.le_refl _) (by omega)) h
    have h2 := lyI_bd (ba := ba) (fr := fr) (to_ := to_) hn hE r (i + 1) (d + 297) _ (by omega) (by omega) (fun j a b => hl j (by omega) (by omega)) h1
    rw [show d + 297 + 297 * r = d + 297 * (r + 1) by omega] at h2
    exact h2
theorem bdX_le {d e : Nat} {X : Nat → Int32} (h : bdX d X) (hd : d ≤ e) : bdX e X := by
  refine ⟨fun p => ?_, fun p q => ?_⟩
  · have := h.1 p
    unfold bdI at this ⊢; omega
  · have := h.2 p q; omega
theorem trS_pa {th : Int32} {fr to_ : Nat → Int32} {nL nP : Nat} {S : TrS} : S.2.2.2.2.1 ≤ (trStep th fr to_ nL nP S).2.2.2.2.1 := by
  unfold trStep
  split
  · exact Nat.le_succ _
  · split <;> exact Nat.le_refl _
theorem trI_pa {th : Int32} {fr to_ : Nat → Int32} {nL nP : Nat} : ∀ (r : Nat) (S : TrS), S.2.2.2.2.1 ≤ (trI th fr to_ nL nP r S).2.2.2.2.1
  | 0, _ => Nat.le_refl _
  | r + 1, S => Nat.le_trans trS_pa (trI_pa r _)
theorem pOf_ly {th : Int32} {fr to_ : Nat → Int32} {nL nP : Nat} (hP : nP ≤ 7) : (pOf th fr to_ nL nP).2.2.2.1 ≤ 6 := by
  cases nP with
  | zero => exact Nat.zero_le _
  | succ n =>
    have e : trL th fr to_ nL (tr0 (fun _ => -1) (fun _ => 0) (fun _ => 0)).1 = -1 := by
      refine ffind_no (fun j _ _ z => z.2 ?_)
      unfold un tr0
      simp
    have e1 : trStep th fr to_ nL (n + 1) (tr0 (fun _ => -1) (fun _ => 0) (fun _ => 0)) = (upd (tr0 (fun _ => -1) (fun _ => 0) (fun _ => 0)).1 (trP (n + 1) (tr0 (fun _ => -1) (fun _ => 0) (fun _ => 0)).1).toNatClampNeg (trP (n + 1) (tr0 (fun _ => -1) (fun _ => 0) (fun _ => 0)).1), fun _ => 0, fun _ => 0, 0, 1, trP (n + 1) (tr0 (fun _ => -1) (fun _ => 0) (fun _ => 0)).1) := if_pos e
    have e2 : pOf th fr to_ nL (n + 1) = trI th fr to_ nL (n + 1) n (trStep th fr to_ nL (n + 1) (tr0 (fun _ => -1) (fun _ => 0) (fun _ => 0))) := rfl
    have h1 := trI_sum th fr to_ nL (n + 1) n (trStep th fr to_ nL (n + 1) (tr0 (fun _ => -1) (fun _ => 0) (fun _ => 0)))
    have h2 := trI_pa (th := th) (fr := fr) (to_ := to_) (nL := nL) (nP := n + 1) n (trStep th fr to_ nL (n + 1) (tr0 (fun _ => -1) (fun _ => 0) (fun _ => 0)))
    rw [← e2] at h1 h2
    rw [e1] at h1 h2
    have h3 : (pOf th fr to_ nL (n + 1)).2.2.2.1 + (pOf th fr to_ nL (n + 1)).2.2.2.2.1 = 0 + 1 + n := h1
    have h4 : 1 ≤ (pOf th fr to_ nL (n + 1)).2.2.2.2.1 := h2
    omega
theorem cXY_bd {E N : Nat → Int32} {th : Int32} {fr to_ : Nat → Int32} {nL nP : Nat} (hn : nL ≤ 12) (hP : nP ≤ 7) (hE : ∀ l, l < nL → bdI 297 (E l) ∧ bdI 297 (N l)) : bdX 1782 (cXY E N th fr to_ nL nP).1 ∧ bdX 1782 (cXY E N th fr to_ nL nP).2 := by
  have h6 := pOf_ly (th := th) (fr := fr) (to_ := to_) (nL := nL) hP
  have hz : bdX 0 (fun _ => 0) := ⟨fun p => by show -((0 : Nat) : Int) ≤ (0 : Int32).toInt ∧ (0 : Int32).toInt ≤ ((0 : Nat) : Int); decide, fun p q => by show (0 : Int32).toInt - (0 : Int32).toInt ≤ ((0 : Nat) : Int); decide⟩
  have hly : trN nL (pOf th fr to_ nL nP) := trI_ly
  have h := lyI_bd (la := (pOf th fr to_ nL nP).2.1) (ba := (pOf th fr to_ nL nP).2.2.1) (fr := fr) (to_ := to_) hn hE (pOf th fr to_ nL nP).2.2.2.1 0 0 (fun _ => 0, fun _ => 0) h6 (by omega) (fun j _ hj => hly j (by omega)) ⟨hz, hz⟩
  exact ⟨bdX_le h.1 (by omega), bdX_le h.2 (by omega)⟩
theorem tEN_bd {t : TW} (J : tIn t) (I : tOK t) {l : Nat} (hl : l < t.nL) : bdI 297 (tE_ t l) ∧ bdI 297 (tN_ t l) := by
  obtain ⟨p1, p2⟩ := J.2.2.2.2 l hl
  have hf := J.2.1 _ (inR_lt (J.1 l hl).1 (by have := I.hW; omega))
  exact rE_bd p1 p2 hf
theorem tXY_bd {t : TW} (J : tIn t) (I : tOK t) : bdX 1782 (tX t) ∧ bdX 1782 (tY t) := cXY_bd I.hL I.hP (fun _ hl => tEN_bd J I hl)
