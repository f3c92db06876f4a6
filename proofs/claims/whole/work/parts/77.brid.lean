/-! ===== bridges: without the leg there is a part more ===== -/
theorem cnP_cg {f g : Nat → Int32} : ∀ n, (∀ j, j < n → (f j = nI j ↔ g j = nI j)) → cnP f n = cnP g n
  | 0, _ => rfl
  | n + 1, h => by
    simp only [cnP]
    rw [cnP_cg n (fun j hj => h j (by omega))]
    by_cases z : f n = nI n
    · rw [if_pos z, if_pos ((h n (by omega)).mp z)]
    · rw [if_neg z, if_neg (fun y => z ((h n (by omega)).mpr y))]
theorem cnP_one {f g : Nat → Int32} {k : Nat} (h1 : f k = nI k) (h2 : ¬ g k = nI k) : ∀ n, k < n → (∀ j, j < n → ¬ j = k → (f j = nI j ↔ g j = nI j)) → cnP f n = cnP g n + 1
  | 0, h, _ => absurd h (by omega)
  | n + 1, h, hh => by
    simp only [cnP]
    by_cases e : n = k
    · subst e
      rw [cnP_cg (f := f) (g := g) n (fun j hj => hh j (by omega) (by omega)), if_pos h1, if_neg h2]
    · rw [cnP_one h1 h2 n (by omega) (fun j hj => hh j (by omega))]
      by_cases z : f n = nI n
      · rw [if_pos z, if_pos ((hh n (by omega) e).mp z)]
      · rw [if_neg z, if_neg (fun y => z ((hh n (by omega) e).mpr y))]
/-- partitions of t, and of t2 (which has fewer legs), if t's is constant along what t2's sets equal -/
theorem par_eq {t t2 : TW} {po po2 g : Nat → Int32} (hn : t.nP ≤ 7) (hnn : t2.nP = t.nP) (A : PAR t po) (B : PAR t2 po2) (hsub : eqL t2 po) (hg : eqL t g) (hroot : ∀ q, q < t.nP → po q = nI q → po2 q = nI q → g q = nI q) : ∀ j, j < t.nP → po j = g j := by
  intro j hj
  obtain ⟨q, hq, e1, e2, -⟩ := A.1 j hj
  obtain ⟨r, hr, f1, -, f3⟩ := B.1 q (by omega)
  have h1 := B.2.2 po hsub q r (by omega) hr f1
  obtain ⟨q2, hq2, g1, -, g3⟩ := A.1 r (by omega)
  have h2 : q2 = q := nI_ij (by rw [← g1, ← h1, e2]) (by omega) (by omega)
  have h3 : r = q := by omega
  rw [h3] at f1
  rw [e1, A.2.2 g hg j q hj hq e1, hroot q hq e2 f1]
theorem bridge {t t2 : TW} {po po2 : Nat → Int32} {l : Nat} (I : tOK t) (J : tIn t) (hl : l < t.nL) (hnn : t2.nP = t.nP) (hL : t2.nL = t.nL) (hf : t2.fr = t.fr) (ht : t2.to_ = t.to_) (hth : ∀ m, m < t.nL → (hs (tTh t2) (nI m) ↔ hs (tTh t) (nI m) ∧ ¬ m = l)) (hll : hs (tTh t) (nI l)) (A : PAR t po) (B : PAR t2 po2) : cnP po t.nP < cnP po2 t.nP ↔ ¬ po2 (t.fr l).toNatClampNeg = po2 (t.to_ l).toNatClampNeg := by
  have hP := I.hP
  obtain ⟨f7, g7⟩ := frP I J hl
  have hsub : eqL t2 po := fun m hm h => by
    rw [hL] at hm
    rw [hf, ht]
    exact A.2.1 m hm ((hth m hm).mp h).1
  have hB : ∀ m, m < t.nL → hs (tTh t) (nI m) → ¬ m = l → po2 (t.fr m).toNatClampNeg = po2 (t.to_ m).toNatClampNeg := fun m hm h1 h2 => by
    have := B.2.1 m (by rw [hL]; exact hm) ((hth m hm).mpr ⟨h1, h2⟩)
    rw [hf, ht] at this
    exact this
  by_cases hc : po2 (t.fr l).toNatClampNeg = po2 (t.to_ l).toNatClampNeg
  · have hg : eqL t po2 := fun m hm h => by
      by_cases y : m = l
      · rw [y]; exact hc
      · exact hB m hm h y
    have e := par_eq hP hnn A B hsub hg (fun q _ _ h => h)
    have e2 : cnP po t.nP = cnP po2 t.nP := cnP_cg t.nP (fun j hj => by rw [e j hj])
    exact ⟨fun z => absurd z (by omega), fun z => absurd hc z⟩
  · refine ⟨fun _ => hc, fun _ => ?_⟩
    obtain ⟨ra, ha, a1, a2, -⟩ := B.1 _ (show (t.fr l).toNatClampNeg < t2.nP by omega)
    obtain ⟨rb, hb, b1, b2, -⟩ := B.1 _ (show (t.to_ l).toNatClampNeg < t2.nP by omega)
    rw [hnn] at ha hb
    have hne : ¬ ra = rb := fun z => hc (by rw [a1, b1, z])
    obtain ⟨lo, hi, hlo, hhi, hlt, hlr, hhr, hpair⟩ : ∃ lo hi, lo < t.nP ∧ hi < t.nP ∧ lo < hi ∧ po2 lo = nI lo ∧ po2 hi = nI hi ∧ ((ra = lo ∧ rb = hi) ∨ (ra = hi ∧ rb = lo)) := by
      rcases Nat.lt_or_ge ra rb with z | z
      · exact ⟨ra, rb, ha, hb, z, a2, b2, Or.inl ⟨rfl, rfl⟩⟩
      · exact ⟨rb, ra, hb, ha, by omega, b2, a2, Or.inr ⟨rfl, rfl⟩⟩
    let g : Nat → Int32 := fun j => if po2 j = nI hi then nI lo else po2 j
    have hg : eqL t g := fun m hm h => by
      show (if po2 _ = nI hi then nI lo else po2 _) = (if po2 _ = nI hi then nI lo else po2 _)
      by_cases y : m = l
      · subst y
        rw [a1, b1]
        rcases hpair with ⟨z1, z2⟩ | ⟨z1, z2⟩
        · rw [z1, z2, if_pos rfl, if_neg (fun w => by have := nI_ij w (by omega) (by omega); omega)]
        · rw [z1, z2, if_pos rfl, if_neg (fun w => by have := nI_ij w (by omega) (by omega); omega)]
      · rw [hB m hm h y]
    have hAll : po lo = po hi := by
      have h1 := A.2.1 l hl hll
      have h2 := B.2.2 po hsub _ ra (by omega) (by omega) a1
      have h3 := B.2.2 po hsub _ rb (by omega) (by omega) b1
      rcases hpair with ⟨z1, z2⟩ | ⟨z1, z2⟩
      · rw [← z1, ← z2, ← h2, ← h3]; exact h1
      · rw [← z1, ← z2, ← h2, ← h3]; exact h1.symm
    have hroot : ∀ q, q < t.nP → po q = nI q → po2 q = nI q → g q = nI q := by
      intro q hq e1 e2
      show (if po2 q = nI hi then nI lo else po2 q) = nI q
      by_cases y : po2 q = nI hi
      · have yq : q = hi := nI_ij (by rw [← e2, y]) (by omega) (by omega)
        obtain ⟨r, hr, r1, -, r3⟩ := A.1 lo hlo
        rw [hAll, ← yq, e1] at r1
        have := nI_ij r1 (by omega) (by omega)
        omega
      · rw [if_neg y]; exact e2
    have e := par_eq hP hnn A B hsub hg hroot
    have e2 : cnP po t.nP = cnP g t.nP := cnP_cg t.nP (fun j hj => by rw [e j hj])
    have e3 : cnP po2 t.nP = cnP g t.nP + 1 := by
      refine cnP_one (k := hi) hhr ?_ t.nP hhi (fun j hj hjk => ?_)
      · show ¬ (if po2 hi = nI hi then nI lo else po2 hi) = nI hi
        rw [if_pos hhr]
        intro w
        have := nI_ij w (by omega) (by omega)
        omega
      · show po2 j = nI j ↔ (if po2 j = nI hi then nI lo else po2 j) = nI j
        by_cases y : po2 j = nI hi
        · rw [if_pos y]
          constructor
          · intro w
            exact absurd (nI_ij (by rw [← w, y]) (by omega) (by omega)) hjk
          · intro w
            have := nI_ij w (by omega) (by omega)
            rw [← this, hlr] at y
            have := nI_ij y (by omega) (by omega)
            omega
        · rw [if_neg y]
    omega
theorem th_strike {t : TW} (I : tOK t) {l : Nat} (hl : l < t.nL) : tTh (tSk t (t.sk ||| bit (nI l))) = tTh t &&& (bit (nI l) ^^^ (-1)) := by
  show lTh (nI t.nL) (t.sk ||| bit (nI l)) = lTh (nI t.nL) t.sk &&& (bit (nI l) ^^^ (-1))
  unfold lTh
  apply Int32.toBitVec_inj.mp
  apply BitVec.eq_of_getLsbD_eq
  intro i hi
  have h1 : ∀ k, k < 32 → (Int32.toBitVec (-1)).getLsbD k = true := by decide +kernel
  simp only [Int32.toBitVec_and, Int32.toBitVec_or, Int32.toBitVec_xor, BitVec.getLsbD_and, BitVec.getLsbD_or, BitVec.getLsbD_xor, h1 i hi]
  cases (Int32.toBitVec (bit (nI t.nL) - 1)).getLsbD i <;> cases (Int32.toBitVec t.sk).getLsbD i <;> cases (Int32.toBitVec (bit (nI l))).getLsbD i <;> rfl
