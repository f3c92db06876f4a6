/-! ===== FITS: the reference's ways and the class's ===== -/
def tFa (t : TW) (fa : Nat → Int32) : TW := TW.mk t.pn t.wn fa t.te t.fr t.to_ t.ea t.no t.nP t.nW t.nL t.od t.sk t.sd t.go
theorem cXY_cg {E N E' N' : Nat → Int32} {th : Int32} {fr to_ : Nat → Int32} {nL nP : Nat} (hn : nL ≤ 12) (hfr : ∀ j, vp_in (fr j) 7) (hto : ∀ j, vp_in (to_ j) 7) (hE : ∀ j, j < nL → E j = E' j ∧ N j = N' j) : ∀ j, j < 7 → (cXY E N th fr to_ nL nP).1 j = (cXY E' N' th fr to_ nL nP).1 j ∧ (cXY E N th fr to_ nL nP).2 j = (cXY E' N' th fr to_ nL nP).2 j := by
  have hly : trN nL (pOf th fr to_ nL nP) := trI_ly
  exact lyI_congr hE hfr hto hly hn (fun _ _ => ⟨rfl, rfl⟩) (pOf th fr to_ nL nP).2.2.2.1 0 (fun _ => 0, fun _ => 0) (fun _ => 0, fun _ => 0) (by omega) (fun _ _ => ⟨rfl, rfl⟩)
theorem cloC_cg {E N E' N' : Nat → Int32} {th : Int32} {fr to_ : Nat → Int32} {nL nP : Nat} (hn : nL ≤ 12) (hfr : ∀ j, vp_in (fr j) 7) (hto : ∀ j, vp_in (to_ j) 7) (hE : ∀ j, j < nL → E j = E' j ∧ N j = N' j) : cloC E N th fr to_ nL nP ↔ cloC E' N' th fr to_ nL nP := by
  have hx := cXY_cg (th := th) (nP := nP) hn hfr hto hE
  refine forall_congr' fun l => forall_congr' fun hl => ?_
  have f1 : (fr l).toNatClampNeg < 7 := Nat.not_le.mp fun q => hfr l (Or.inr q)
  have t1 : (to_ l).toNatClampNeg < 7 := Nat.not_le.mp fun q => hto l (Or.inr q)
  have e : misC E N th fr to_ nL nP l = misC E' N' th fr to_ nL nP l := by
    unfold misC misV
    rw [(hx _ f1).1, (hx _ f1).2, (hx _ t1).1, (hx _ t1).2, (hE l hl).1, (hE l hl).2]
  rw [e]
def fE (t : TW) (on ot : Int32) (f g : Nat) : Nat → Int32 := e2F rE (mE t.ea t.no t.fa t.te) t.ea t.no t.te on ot (nI f) (nI g)
def fN (t : TW) (on ot : Int32) (f g : Nat) : Nat → Int32 := e2F rN (mN t.ea t.no t.fa t.te) t.ea t.no t.te on ot (nI f) (nI g)
abbrev fClo (t : TW) (on ot : Int32) (f g : Nat) : Prop := cloC (fE t on ot f g) (fN t on ot f g) (tTh t) t.fr t.to_ t.nL t.nP
def fX (t : TW) (on ot : Int32) (f g : Nat) : Nat → Int32 := (cXY (fE t on ot f g) (fN t on ot f g) (tTh t) t.fr t.to_ t.nL t.nP).1
def fY (t : TW) (on ot : Int32) (f g : Nat) : Nat → Int32 := (cXY (fE t on ot f g) (fN t on ot f g) (tTh t) t.fr t.to_ t.nL t.nP).2
/-- the faults that a way tries -/
def FIT (t : TW) (on ot : Int32) (f g : Nat) (fa : Nat → Int32) : Prop := ∀ w, w < t.nW → fa w = if nI w = ot then nI g else if nI w = on then nI f else t.fa w
theorem fit_E {t : TW} (I : tOK t) (J : tIn t) {on ot : Int32} {f g : Nat} {fa : Nat → Int32} (h : FIT t on ot f g fa) : ∀ l, l < t.nL → tE_ (tFa t fa) l = fE t on ot f g l ∧ tN_ (tFa t fa) l = fN t on ot f g l := by
  intro l hl
  have hW := I.hW
  obtain ⟨w, hw, ew⟩ := inR_ex (J.1 l hl).1 (by omega)
  have ec : (t.te l).toNatClampNeg = w := by rw [ew]; exact nI_clamp (by omega)
  show rE (t.ea l) (t.no l) (fa (t.te l).toNatClampNeg) = (if t.te l = ot then rE (t.ea l) (t.no l) (nI g) else if t.te l = on then rE (t.ea l) (t.no l) (nI f) else rE (t.ea l) (t.no l) (t.fa (t.te l).toNatClampNeg)) ∧ rN (t.ea l) (t.no l) (fa (t.te l).toNatClampNeg) = (if t.te l = ot then rN (t.ea l) (t.no l) (nI g) else if t.te l = on then rN (t.ea l) (t.no l) (nI f) else rN (t.ea l) (t.no l) (t.fa (t.te l).toNatClampNeg))
  rw [ec, ew, h w hw]
  by_cases z : nI w = ot
  · rw [if_pos z, if_pos z, if_pos z]; exact ⟨rfl, rfl⟩
  · rw [if_neg z, if_neg z, if_neg z]
    by_cases y : nI w = on
    · rw [if_pos y, if_pos y, if_pos y]; exact ⟨rfl, rfl⟩
    · rw [if_neg y, if_neg y, if_neg y]; exact ⟨rfl, rfl⟩
theorem fit_C {t : TW} (I : tOK t) (J : tIn t) {on ot : Int32} {f g : Nat} {fa : Nat → Int32} (h : FIT t on ot f g fa) : (tClo (tFa t fa) ↔ fClo t on ot f g) ∧ ∀ p, p < 7 → tX (tFa t fa) p = fX t on ot f g p ∧ tY (tFa t fa) p = fY t on ot f g p :=
  ⟨cloC_cg I.hL I.fr I.to_ (fit_E I J h), cXY_cg I.hL I.fr I.to_ (fit_E I J h)⟩
theorem fEN_bd {t : TW} (I : tOK t) (J : tIn t) {on ot : Int32} {f g : Nat} (hf : f < 24) (hg : g < 24) {l : Nat} (hl : l < t.nL) : bdI 297 (fE t on ot f g l) ∧ bdI 297 (fN t on ot f g l) := by
  obtain ⟨p1, p2⟩ := J.2.2.2.2 l hl
  have hfa := J.2.1 _ (inR_lt (J.1 l hl).1 (by have := I.hW; omega))
  have h0 := rE_bd p1 p2 hfa
  have h1 := rE_bd p1 p2 (inR_N (n := 24) hf (by omega))
  have h2 := rE_bd p1 p2 (inR_N (n := 24) hg (by omega))
  show bdI 297 (if t.te l = ot then rE (t.ea l) (t.no l) (nI g) else if t.te l = on then rE (t.ea l) (t.no l) (nI f) else rE (t.ea l) (t.no l) (t.fa (t.te l).toNatClampNeg)) ∧ bdI 297 (if t.te l = ot then rN (t.ea l) (t.no l) (nI g) else if t.te l = on then rN (t.ea l) (t.no l) (nI f) else rN (t.ea l) (t.no l) (t.fa (t.te l).toNatClampNeg))
  by_cases z : t.te l = ot
  · rw [if_pos z, if_pos z]; exact h2
  · rw [if_neg z, if_neg z]
    by_cases y : t.te l = on
    · rw [if_pos y, if_pos y]; exact h1
    · rw [if_neg y, if_neg y]; exact h0
theorem fXY_bd {t : TW} (I : tOK t) (J : tIn t) {on ot : Int32} {f g : Nat} (hf : f < 24) (hg : g < 24) : bdX 1782 (fX t on ot f g) ∧ bdX 1782 (fY t on ot f g) := cXY_bd I.hL I.hP (fun _ hl => fEN_bd I J hf hg hl)
/-! who is of a set -/
def PKI (set : Int32) (i : Nat) (s : Int32 × Int32) : Prop := (s.1 = -1 ∧ s.2 = -1 ∧ ∀ w, w < i → ¬ hs set (nI w)) ∨ ∃ a, a < i ∧ s.1 = nI a ∧ hs set (nI a) ∧ ((s.2 = -1 ∧ ∀ w, w < i → hs set (nI w) → w = a) ∨ ∃ b, b < i ∧ s.2 = nI b ∧ ¬ a = b ∧ hs set (nI b))
def pkG (set : Int32) (w : Nat) (s : Int32 × Int32) : Int32 × Int32 := if hs set (nI w) then (if s.1 = -1 then (nI w, s.2) else (s.1, nI w)) else s
theorem pkG_I {set : Int32} {i : Nat} (hi : i < 32) {s : Int32 × Int32} (h : PKI set i s) : PKI set (i + 1) (pkG set i s) := by
  unfold pkG
  by_cases z : hs set (nI i)
  · rw [if_pos z]
    rcases h with ⟨h1, h2, h3⟩ | ⟨a, ha, h1, h2, h3⟩
    · rw [if_pos h1]
      refine Or.inr ⟨i, by omega, rfl, z, Or.inl ⟨h2, fun w hw hs_ => ?_⟩⟩
      rcases Nat.lt_or_ge w i with y | y
      · exact absurd hs_ (h3 w y)
      · omega
    · rw [if_neg (by rw [h1]; exact nI_ne1 (by omega))]
      exact Or.inr ⟨a, by omega, h1, h2, Or.inr ⟨i, by omega, rfl, by omega, z⟩⟩
  · rw [if_neg z]
    rcases h with ⟨h1, h2, h3⟩ | ⟨a, ha, h1, h2, h3⟩
    · refine Or.inl ⟨h1, h2, fun w hw => ?_⟩
      rcases Nat.lt_or_ge w i with y | y
      · exact h3 w y
      · rw [show w = i by omega]; exact z
    · refine Or.inr ⟨a, by omega, h1, h2, ?_⟩
      rcases h3 with ⟨h3, h4⟩ | ⟨b, hb, h3⟩
      · refine Or.inl ⟨h3, fun w hw hs_ => ?_⟩
        rcases Nat.lt_or_ge w i with y | y
        · exact h4 w y hs_
        · rw [show w = i by omega] at hs_; exact absurd hs_ z
      · exact Or.inr ⟨b, by omega, h3⟩
theorem pk_run {set : Int32} : ∀ (r i : Nat) (s : Int32 × Int32), i + r ≤ 32 → PKI set i s → PKI set (i + r) (iterN (pkG set) r i s)
  | 0, i, s, _, h => h
  | r + 1, i, s, hi, h => by
    simp only [iterN]
    have := pk_run r (i + 1) _ (by omega) (pkG_I (by omega) h)
    rw [show i + 1 + r = i + (r + 1) by omega] at this
    exact this
theorem tPk_G (t : TW) (set : Int32) : tPk t set = iterN (pkG set) t.nW 0 (-1, -1) := rfl
theorem tPk_I {t : TW} (I : tOK t) (set : Int32) : PKI set t.nW (tPk t set) := by
  have hW := I.hW
  have h := pk_run (set := set) t.nW 0 (-1, -1) (by omega) (Or.inl ⟨rfl, rfl, fun w hw => absurd hw (Nat.not_lt_zero w)⟩)
  rw [Nat.zero_add] at h
  exact h
/-! two loops are one -/
theorem iterN_row {σ : Type} {G : Nat → Nat → σ → σ} {m : Nat} (f : Nat) : ∀ (r j : Nat) (s : σ), j + r ≤ m → iterN (fun k s => G (k / m) (k % m) s) r (f * m + j) s = iterN (G f) r j s
  | 0, _, _, _ => rfl
  | r + 1, j, s, h => by
    simp only [iterN]
    have hm : 0 < m := by omega
    have e1 : (f * m + j) / m = f := by
      rw [Nat.mul_comm, Nat.mul_add_div hm, Nat.div_eq_of_lt (by omega)]; omega
    have e2 : (f * m + j) % m = j := by
      rw [Nat.mul_comm, Nat.mul_add_mod, Nat.mod_eq_of_lt (by omega)]
    rw [e1, e2, show f * m + j + 1 = f * m + (j + 1) by omega]
    exact iterN_row f r (j + 1) _ (by omega)
theorem iterN_add {σ : Type} {g : Nat → σ → σ} : ∀ (a b i : Nat) (s : σ), iterN g (a + b) i s = iterN g b (i + a) (iterN g a i s)
  | 0, b, i, s => by rw [Nat.zero_add]; rfl
  | a + 1, b, i, s => by
    rw [show a + 1 + b = (a + b) + 1 by omega]
    simp only [iterN]
    rw [iterN_add a b (i + 1), show i + 1 + a = i + (a + 1) by omega]
theorem iterN_nest {σ : Type} {G : Nat → Nat → σ → σ} {m : Nat} : ∀ (r i : Nat) (s : σ), iterN (fun f s => iterN (G f) m 0 s) r i s = iterN (fun k s => G (k / m) (k % m) s) (r * m) (i * m) s
  | 0, i, s => by rw [Nat.zero_mul]; rfl
  | r + 1, i, s => by
    simp only [iterN]
    rw [iterN_nest r (i + 1), Nat.succ_mul i m, Nat.succ_mul r m, Nat.add_comm (r * m) m, iterN_add m (r * m) (i * m)]
    have h := iterN_row (G := G) (m := m) i m 0 s (by omega)
    rw [Nat.add_zero] at h
    rw [h]
/-! the ways -/
abbrev WS : Type := (Nat → Int32) × (Nat → Int32) × (Nat → Int32) × Nat
def cpW (n : Nat) (X : Nat → Int32) (i : Nat) (f : Nat → Int32) : Nat → Int32 := upd f (7 * n + i) (X i)
theorem cpW_at {n : Nat} {X : Nat → Int32} {m : Nat} : ∀ (r i : Nat) (f : Nat → Int32), i + r = m → ∀ j, iterN (cpW n X) r i f j = if 7 * n + i ≤ j ∧ j < 7 * n + m then X (j - 7 * n) else f j
  | 0, i, f, hi, j => by
    simp only [iterN]; rw [if_neg (by omega)]
  | r + 1, i, f, hi, j => by
    simp only [iterN]
    rw [cpW_at (m := m) r (i + 1) _ (by omega) j]
    by_cases e : j = 7 * n + i
    · rw [if_neg (by omega), if_pos (by omega), e, show cpW n X i f (7 * n + i) = X i from if_pos rfl]
      congr 1; omega
    · rw [show cpW n X i f j = f j from if_neg e]
      by_cases z : 7 * n + (i + 1) ≤ j ∧ j < 7 * n + m
      · rw [if_pos z, if_pos (by omega)]
      · rw [if_neg z, if_neg (by omega)]
theorem spW_at {n : Nat} {X Y : Nat → Int32} {m : Nat} : ∀ (r i : Nat) (f : Nat → Int32), i + r = m → ∀ j, iterN (fun p sp => upd sp (n * 7 + p) (X p * 4096 + Y p)) r i f j = if n * 7 + i ≤ j ∧ j < n * 7 + m then X (j - n * 7) * 4096 + Y (j - n * 7) else f j
  | 0, i, f, hi, j => by
    simp only [iterN]; rw [if_neg (by omega)]
  | r + 1, i, f, hi, j => by
    simp only [iterN]
    rw [spW_at (m := m) r (i + 1) _ (by omega) j]
    by_cases e : j = n * 7 + i
    · rw [if_neg (by omega), if_pos (by omega), e, show upd f (n * 7 + i) (X i * 4096 + Y i) (n * 7 + i) = X i * 4096 + Y i from if_pos rfl]
      rw [show n * 7 + i - n * 7 = i by omega]
    · rw [show upd f (n * 7 + i) (X i * 4096 + Y i) j = f j from if_neg e]
      by_cases z : n * 7 + (i + 1) ≤ j ∧ j < n * 7 + m
      · rw [if_pos z, if_pos (by omega)]
      · rw [if_neg z, if_neg (by omega)]
def wsG (t : TW) (on ot : Int32) (nG : Nat) (i : Nat) (w : WS) : WS := if fClo t on ot (i / nG) (i % nG) then (upd w.1 w.2.2.2 (nI i), iterN (cpW w.2.2.2 (fX t on ot (i / nG) (i % nG))) t.nP 0 w.2.1, iterN (cpW w.2.2.2 (fY t on ot (i / nG) (i % nG))) t.nP 0 w.2.2.1, w.2.2.2 + 1) else w
def ixW (w : WS) (k : Nat) : Nat := (w.1 k).toNatClampNeg
def RW (t : TW) (on ot : Int32) (nG i : Nat) (w : WS) (s : FS) : Prop := (w.2.2.2 = s.2.2.1 ∧ w.2.2.2 ≤ i) ∧ (∀ k, k < w.2.2.2 → ixW w k < 576 ∧ w.1 k = nI (ixW w k) ∧ ixW w k / nG < 24 ∧ ixW w k % nG < 24 ∧ ∀ p, p < t.nP → w.2.1 (7 * k + p) = fX t on ot (ixW w k / nG) (ixW w k % nG) p ∧ w.2.2.1 (7 * k + p) = fY t on ot (ixW w k / nG) (ixW w k % nG) p ∧ s.2.2.2.1 (k * 7 + p) = fX t on ot (ixW w k / nG) (ixW w k % nG) p * 4096 + fY t on ot (ixW w k / nG) (ixW w k % nG) p) ∧ (∀ f, f < 24 → s.1 f = isum (fun k => if ixW w k / nG = f then 1 else 0) w.2.2.2 ∧ s.2.1 f = isum (fun k => if ixW w k % nG = f then 1 else 0) w.2.2.2) ∧ (0 < w.2.2.2 → s.2.2.2.2.1 = nI (ixW w 0 / nG) ∧ s.2.2.2.2.2 = nI (ixW w 0 % nG))
theorem RW_step {t : TW} (I : tOK t) {on ot : Int32} {nG i : Nat} {w : WS} {s : FS} (hi : i < 576) (hG : i / nG < 24 ∧ i % nG < 24) (h : RW t on ot nG i w s) : RW t on ot nG (i + 1) (wsG t on ot nG i w) (fiG t.fa t.te t.fr t.to_ t.ea t.no t.nL t.nP (tTh t) on ot (i / nG) (i % nG) s) := by
  have hP := I.hP
  obtain ⟨⟨h1, h1b⟩, h2, h3, h4⟩ := h
  have eG : fiG t.fa t.te t.fr t.to_ t.ea t.no t.nL t.nP (tTh t) on ot (i / nG) (i % nG) s = if fClo t on ot (i / nG) (i % nG) then kwF (fX t on ot (i / nG) (i % nG)) (fY t on ot (i / nG) (i % nG)) (i / nG) (i % nG) s else s := rfl
  rw [eG]
  unfold wsG
  by_cases c : fClo t on ot (i / nG) (i % nG)
  · rw [if_pos c, if_pos c]
    generalize hw : ((upd w.1 w.2.2.2 (nI i), iterN (cpW w.2.2.2 (fX t on ot (i / nG) (i % nG))) t.nP 0 w.2.1, iterN (cpW w.2.2.2 (fY t on ot (i / nG) (i % nG))) t.nP 0 w.2.2.1, w.2.2.2 + 1) : WS) = w'
    have w1 : ∀ j, w'.1 j = upd w.1 w.2.2.2 (nI i) j := fun j => by rw [← hw]
    have w2 : ∀ j, w'.2.1 j = if 7 * w.2.2.2 + 0 ≤ j ∧ j < 7 * w.2.2.2 + t.nP then fX t on ot (i / nG) (i % nG) (j - 7 * w.2.2.2) else w.2.1 j := fun j => by rw [← hw]; exact cpW_at t.nP 0 _ (by omega) j
    have w3 : ∀ j, w'.2.2.1 j = if 7 * w.2.2.2 + 0 ≤ j ∧ j < 7 * w.2.2.2 + t.nP then fY t on ot (i / nG) (i % nG) (j - 7 * w.2.2.2) else w.2.2.1 j := fun j => by rw [← hw]; exact cpW_at t.nP 0 _ (by omega) j
    have w4 : w'.2.2.2 = w.2.2.2 + 1 := by rw [← hw]
    have x1 : ∀ k, k < w.2.2.2 → ixW w' k = ixW w k := fun k hk => by unfold ixW; rw [w1, show upd w.1 w.2.2.2 (nI i) k = w.1 k from if_neg (by omega)]
    have x2 : ixW w' w.2.2.2 = i := by unfold ixW; rw [w1, show upd w.1 w.2.2.2 (nI i) w.2.2.2 = nI i from if_pos rfl]; exact nI_clamp (by omega)
    have s1 : (kwF (fX t on ot (i / nG) (i % nG)) (fY t on ot (i / nG) (i % nG)) (i / nG) (i % nG) s).2.2.1 = s.2.2.1 + 1 := rfl
    have s4 : ∀ j, (kwF (fX t on ot (i / nG) (i % nG)) (fY t on ot (i / nG) (i % nG)) (i / nG) (i % nG) s).2.2.2.1 j = if s.2.2.1 * 7 + 0 ≤ j ∧ j < s.2.2.1 * 7 + 7 then fX t on ot (i / nG) (i % nG) (j - s.2.2.1 * 7) * 4096 + fY t on ot (i / nG) (i % nG) (j - s.2.2.1 * 7) else s.2.2.2.1 j := fun j => spW_at 7 0 _ (by omega) j
    refine ⟨⟨by rw [w4, s1, h1], by omega⟩, fun k hk => ?_, fun f hf => ?_, fun _ => ?_⟩
    · rcases Nat.lt_or_ge k w.2.2.2 with z | z
      · obtain ⟨a1, a2, a3, a4, a5⟩ := h2 k z
        rw [x1 k z]
        refine ⟨a1, ?_, a3, a4, fun p hp => ?_⟩
        · rw [w1, show upd w.1 w.2.2.2 (nI i) k = w.1 k from if_neg (by omega)]; exact a2
        · rw [w2, w3, s4, if_neg (by omega), if_neg (by omega), if_neg (by omega)]
          exact a5 p hp
      · have e : k = w.2.2.2 := by omega
        subst e
        rw [x2]
        refine ⟨hi, ?_, hG.1, hG.2, fun p hp => ?_⟩
        · rw [w1]; exact if_pos rfl
        · rw [w2, w3, s4, if_pos (by omega), if_pos (by omega), if_pos (by omega), show 7 * w.2.2.2 + p - 7 * w.2.2.2 = p by omega, show w.2.2.2 * 7 + p - s.2.2.1 * 7 = p by omega]
          exact ⟨rfl, rfl, rfl⟩
    · rw [w4]
      obtain ⟨b1, b2⟩ := h3 f hf
      simp only [isum]
      rw [x2]
      rw [isum_congr (f := fun k => if ixW w' k / nG = f then 1 else 0) (g := fun k => if ixW w k / nG = f then 1 else 0) (fun k hk => by simp only [x1 k hk]), isum_congr (f := fun k => if ixW w' k % nG = f then 1 else 0) (g := fun k => if ixW w k % nG = f then 1 else 0) (fun k hk => by simp only [x1 k hk])]
      show upd s.1 (i / nG) (s.1 (i / nG) + 1) f = _ ∧ upd s.2.1 (i % nG) (s.2.1 (i % nG) + 1) f = _
      rw [← b1, ← b2]
      constructor
      · by_cases z : i / nG = f
        · rw [if_pos z, ← z]; exact if_pos rfl
        · rw [if_neg z, add_0]; exact if_neg (fun y => z y.symm)
      · by_cases z : i % nG = f
        · rw [if_pos z, ← z]; exact if_pos rfl
        · rw [if_neg z, add_0]; exact if_neg (fun y => z y.symm)
    · show (if s.2.2.1 = 0 then nI (i / nG) else s.2.2.2.2.1) = _ ∧ (if s.2.2.1 = 0 then nI (i % nG) else s.2.2.2.2.2) = _
      by_cases z : s.2.2.1 = 0
      · rw [if_pos z, if_pos z]
        rw [show (0 : Nat) = w.2.2.2 by omega, x2]
        exact ⟨rfl, rfl⟩
      · rw [if_neg z, if_neg z, x1 0 (by omega)]
        exact h4 (by omega)
  · rw [if_neg c, if_neg c]
    exact ⟨⟨h1, by omega⟩, h2, h3, h4⟩
theorem RW_run {t : TW} (I : tOK t) {on ot : Int32} {nF nG : Nat} (hF : nF ≤ 24) (hG : nG ≤ 24) (hG0 : 0 < nG) : ∀ (r i : Nat) (w : WS) (s : FS), i + r = nF * nG → RW t on ot nG i w s → RW t on ot nG (nF * nG) (iterN (wsG t on ot nG) r i w) (iterN (fun k s => fiG t.fa t.te t.fr t.to_ t.ea t.no t.nL t.nP (tTh t) on ot (k / nG) (k % nG) s) r i s)
  | 0, i, w, s, hi, h => by rw [← hi]; exact h
  | r + 1, i, w, s, hi, h => by
    simp only [iterN]
    have hm := Nat.mul_le_mul hF hG
    have hd : i / nG < nF := by rw [Nat.div_lt_iff_lt_mul hG0]; omega
    have hr : i % nG < nG := Nat.mod_lt _ hG0
    exact RW_run I hF hG hG0 r (i + 1) _ _ (by omega) (RW_step I (by omega) ⟨by omega, by omega⟩ h)
/-- all ways, against the class's -/
def wsN (x : Int32) : Nat := if x = -1 then 1 else 24
def wsA (t : TW) (set : Int32) (w : WS) : WS := iterN (wsG t (tPk t set).1 (tPk t set).2 (wsN (tPk t set).2)) (wsN (tPk t set).1 * wsN (tPk t set).2) 0 (w.1, w.2.1, w.2.2.1, 0)
theorem RW_all {t : TW} (I : tOK t) (set : Int32) (w : WS) (U : UT) : RW t (tPk t set).1 (tPk t set).2 (wsN (tPk t set).2) (wsN (tPk t set).1 * wsN (tPk t set).2) (wsA t set w) (tWs t U set) := by
  have b : ∀ x : Int32, wsN x ≤ 24 ∧ 0 < wsN x := fun x => by unfold wsN; split <;> omega
  have e : tWs t U set = iterN (fun k s => fiG t.fa t.te t.fr t.to_ t.ea t.no t.nL t.nP (tTh t) (tPk t set).1 (tPk t set).2 (k / wsN (tPk t set).2) (k % wsN (tPk t set).2) s) (wsN (tPk t set).1 * wsN (tPk t set).2) 0 (uFs U) := by
    have := iterN_nest (G := fiG t.fa t.te t.fr t.to_ t.ea t.no t.nL t.nP (tTh t) (tPk t set).1 (tPk t set).2) (m := wsN (tPk t set).2) (wsN (tPk t set).1) 0 (uFs U)
    rw [Nat.zero_mul] at this
    exact this
  rw [e]
  refine RW_run I (b _).1 (b _).1 (b _).2 _ 0 _ _ (by omega) ?_
  refine ⟨⟨rfl, Nat.le_refl _⟩, fun k hk => absurd hk (Nat.not_lt_zero k), fun f hf => ⟨?_, ?_⟩, fun z => absurd z (Nat.not_lt_zero 0)⟩
  · show (if f < 24 then 0 else _) = _
    rw [if_pos hf]; rfl
  · show (if f < 24 then 0 else _) = _
    rw [if_pos hf]; rfl
