/-! ===== WAY: rows of places, the fewest yards, the first row ===== -/
def INF : Nat := 100000000
def wtN (t : TW) (l : Nat) : Nat := (yA t.ea t.no t.fa t.te l).toNatClampNeg
abbrev jnP (t : TW) (l p q : Nat) : Prop := hs (tTh t) (nI l) ∧ ((t.fr l = nI p ∧ t.to_ l = nI q) ∨ (t.fr l = nI q ∧ t.to_ l = nI p))
def btR (t : TW) (p q : Nat) : Nat → Nat
  | 0 => INF
  | n + 1 => if jnP t n p q then min (btR t p q n) (wtN t n) else btR t p q n
def bt (t : TW) (p q : Nat) : Nat := btR t p q t.nL
theorem wtN_ok {t : TW} (I : tOK t) (J : tIn t) {l : Nat} (hl : l < t.nL) : yA t.ea t.no t.fa t.te l = nI (wtN t l) ∧ wtN t l ≤ 594 := by
  obtain ⟨m, hm, e⟩ := yA_nn I J hl
  have e2 : wtN t l = m := by unfold wtN; rw [e]; exact nI_clamp (by omega)
  rw [e2]; exact ⟨e, hm⟩
theorem btR_c {t : TW} (I : tOK t) (J : tIn t) {p q : Nat} : ∀ n, n ≤ t.nL → btR t p q n = INF ∨ btR t p q n ≤ 594
  | 0, _ => Or.inl rfl
  | n + 1, h => by
    have h1 := btR_c I J (p := p) (q := q) n (by omega)
    have h2 := (wtN_ok I J (l := n) (by omega)).2
    simp only [btR]
    split
    · exact Or.inr (Nat.le_trans (Nat.min_le_right _ _) h2)
    · exact h1
theorem bt_c {t : TW} (I : tOK t) (J : tIn t) (p q : Nat) : bt t p q = INF ∨ bt t p q ≤ 594 := btR_c I J t.nL (Nat.le_refl _)
theorem bt_INF {t : TW} (I : tOK t) (J : tIn t) (p q : Nat) : bt t p q ≤ INF := by
  rcases bt_c I J p q with h | h
  · rw [h]; exact Nat.le_refl _
  · unfold INF; omega
theorem btR_le {t : TW} {p q l : Nat} (h : jnP t l p q) : ∀ n, l < n → btR t p q n ≤ wtN t l
  | 0, hl => absurd hl (Nat.not_lt_zero l)
  | n + 1, hl => by
    simp only [btR]
    by_cases e : l = n
    · subst e; rw [if_pos h]; exact Nat.min_le_right _ _
    · have := btR_le h n (by omega)
      split
      · exact Nat.le_trans (Nat.min_le_left _ _) this
      · exact this
theorem btR_ex {t : TW} {p q : Nat} : ∀ n, btR t p q n < INF → ∃ l, l < n ∧ jnP t l p q ∧ btR t p q n = wtN t l
  | 0, h => absurd h (Nat.lt_irrefl _)
  | n + 1, h => by
    simp only [btR] at h ⊢
    by_cases c : jnP t n p q
    · rw [if_pos c] at h ⊢
      by_cases z : btR t p q n ≤ wtN t n
      · rw [Nat.min_eq_left z] at h ⊢
        obtain ⟨l, hl, h1, h2⟩ := btR_ex n h
        exact ⟨l, by omega, h1, h2⟩
      · rw [Nat.min_eq_right (by omega)]
        exact ⟨n, by omega, c, rfl⟩
    · rw [if_neg c] at h ⊢
      obtain ⟨l, hl, h1, h2⟩ := btR_ex n h
      exact ⟨l, by omega, h1, h2⟩
/-! rows of places -/
def tot (t : TW) : Nat → List Nat → Nat
  | _, [] => 0
  | x, y :: r => bt t x y + tot t y r
def lst : Nat → List Nat → Nat
  | x, [] => x
  | _, y :: r => lst y r
theorem cut {t : TW} {x : Nat} : ∀ (r : List Nat) (y : Nat), x ∈ y :: r → (y :: r).Nodup → ∃ r', (x :: r').Nodup ∧ lst x r' = lst y r ∧ tot t x r' ≤ tot t y r ∧ ∀ z, z ∈ r' → z ∈ r
  | [], y, h, hn => by
    have e : x = y := by simpa using h
    subst e
    exact ⟨[], hn, rfl, Nat.le_refl _, fun z hz => hz⟩
  | w :: r, y, h, hn => by
    by_cases e : x = y
    · subst e
      exact ⟨w :: r, hn, rfl, Nat.le_refl _, fun z hz => hz⟩
    · have h2 : x ∈ w :: r := by
        rcases List.mem_cons.mp h with z | z
        · exact absurd z e
        · exact z
      obtain ⟨r', a, b, c, d⟩ := cut (t := t) r w h2 (List.nodup_cons.mp hn).2
      refine ⟨r', a, b, ?_, fun z hz => List.mem_cons_of_mem _ (d z hz)⟩
      have : tot t y (w :: r) = bt t y w + tot t w r := rfl
      omega
theorem simple {t : TW} : ∀ (r : List Nat) (x : Nat), ∃ r', (x :: r').Nodup ∧ lst x r' = lst x r ∧ tot t x r' ≤ tot t x r ∧ ∀ z, z ∈ r' → z ∈ r
  | [], x => ⟨[], by simp, rfl, Nat.le_refl _, fun z hz => hz⟩
  | y :: r, x => by
    obtain ⟨r1, a, b, c, d⟩ := simple (t := t) r y
    by_cases h : x ∈ y :: r1
    · obtain ⟨r', a', b', c', d'⟩ := cut (t := t) r1 y h a
      refine ⟨r', a', ?_, ?_, fun z hz => List.mem_cons_of_mem _ (d z (d' z hz))⟩
      · rw [b', b]; rfl
      · have : tot t x (y :: r) = bt t x y + tot t y r := rfl
        omega
    · refine ⟨y :: r1, List.nodup_cons.mpr ⟨h, a⟩, b, ?_, fun z hz => ?_⟩
      · have e1 : tot t x (y :: r) = bt t x y + tot t y r := rfl
        have e2 : tot t x (y :: r1) = bt t x y + tot t y r1 := rfl
        omega
      · rcases List.mem_cons.mp hz with w | w
        · rw [w]; exact List.mem_cons_self
        · exact List.mem_cons_of_mem _ (d z w)
theorem len_filter {n : Nat} : ∀ (l : List Nat), l.Nodup → l.length ≤ (l.filter (fun x => decide (x ≠ n))).length + 1
  | [], _ => Nat.zero_le _
  | x :: l, h => by
    obtain ⟨h1, h2⟩ := List.nodup_cons.mp h
    by_cases e : x = n
    · subst e
      have e2 : l.filter (fun y => decide (y ≠ x)) = l := List.filter_eq_self.mpr (fun y hy => by
        have : ¬ y = x := fun z => h1 (by rw [← z]; exact hy)
        simp [this])
      rw [List.filter_cons_of_neg (by simp), e2]
      simp
    · rw [List.filter_cons_of_pos (by simp [e])]
      have := len_filter (n := n) l h2
      simp only [List.length_cons]
      omega
theorem pigeon : ∀ (n : Nat) (l : List Nat), l.Nodup → (∀ x, x ∈ l → x < n) → l.length ≤ n
  | 0, l, _, h => by
    cases l with
    | nil => exact Nat.zero_le _
    | cons x l => exact absurd (h x List.mem_cons_self) (Nat.not_lt_zero x)
  | n + 1, l, hn, h => by
    have h1 := len_filter (n := n) l hn
    have h2 := pigeon n (l.filter (fun x => decide (x ≠ n))) (hn.filter _) (fun x hx => by
      obtain ⟨a, b⟩ := List.mem_filter.mp hx
      have := h x a
      have : x ≠ n := by simpa using b
      omega)
    omega
/-! the class's search, without its cuts -/
abbrev OP : Type := Option (Nat × List Nat)
def acS (b n : Nat) (c acc : OP) : OP := match c with
  | none => acc
  | some (v, r) => match acc with
    | none => some (b + v, n :: r)
    | some (u, q) => if b + v < u then some (b + v, n :: r) else some (u, q)
def BP (t : TW) (g : Nat) : Nat → Nat → List Nat → OP
  | 0, x, _ => if x = g then some (0, []) else none
  | f + 1, x, L => if x = g then some (0, []) else iterN (fun n acc => if bt t x n = INF ∨ n ∈ L then acc else acS (bt t x n) n (BP t g f n (L ++ [n])) acc) t.nP 0 none
def bpS (t : TW) (g f x : Nat) (L : List Nat) (n : Nat) (acc : OP) : OP := if bt t x n = INF ∨ n ∈ L then acc else acS (bt t x n) n (BP t g f n (L ++ [n])) acc
theorem BP_goal {t : TW} {g f x : Nat} {L : List Nat} (h : x = g) : BP t g f x L = some (0, []) := by
  cases f with
  | zero => exact if_pos h
  | succ f => exact if_pos h
theorem BP_0 {t : TW} {g x : Nat} {L : List Nat} (h : ¬ x = g) : BP t g 0 x L = none := if_neg h
theorem BP_s {t : TW} {g f x : Nat} {L : List Nat} (h : ¬ x = g) : BP t g (f + 1) x L = iterN (bpS t g f x L) t.nP 0 none := if_neg h
/-- what a row is that was found -/
def okB (t : TW) (g f x : Nat) (c : OP) : Prop := ∀ v r, c = some (v, r) → lst x r = g ∧ tot t x r = v ∧ (∀ y, y ∈ r → y < t.nP) ∧ v ≤ 594 * f ∧ r.length ≤ f
theorem acS_ok {t : TW} {g f x n : Nat} {c acc : OP} (hn : n < t.nP) (hb : bt t x n ≤ 594) (hc : okB t g f n c) (ha : okB t g (f + 1) x acc) : okB t g (f + 1) x (acS (bt t x n) n c acc) := by
  have new : ∀ v r, c = some (v, r) → lst x (n :: r) = g ∧ tot t x (n :: r) = bt t x n + v ∧ (∀ y, y ∈ n :: r → y < t.nP) ∧ bt t x n + v ≤ 594 * (f + 1) ∧ (n :: r).length ≤ f + 1 := by
    intro v r e
    obtain ⟨a1, a2, a3, a4, a5⟩ := hc v r e
    refine ⟨a1, ?_, fun y hy => ?_, by omega, by simp only [List.length_cons]; omega⟩
    · show bt t x n + tot t n r = _
      rw [a2]
    · rcases List.mem_cons.mp hy with z | z
      · rw [z]; exact hn
      · exact a3 y z
  intro v r e
  unfold acS at e
  cases c with
  | none => exact ha v r e
  | some cc =>
    obtain ⟨v0, r0⟩ := cc
    have hnew := new v0 r0 rfl
    cases acc with
    | none =>
      simp only [Option.some.injEq, Prod.mk.injEq] at e
      obtain ⟨e1, e2⟩ := e
      subst e1; subst e2
      exact hnew
    | some aa =>
      obtain ⟨u, q⟩ := aa
      simp only at e
      split at e
      · simp only [Option.some.injEq, Prod.mk.injEq] at e
        obtain ⟨e1, e2⟩ := e
        subst e1; subst e2
        exact hnew
      · exact ha v r e
theorem BP_ok {t : TW} (I : tOK t) (J : tIn t) {g : Nat} : ∀ (f x : Nat) (L : List Nat), okB t g f x (BP t g f x L)
  | 0, x, L => by
    intro v r e
    by_cases h : x = g
    · rw [BP_goal h] at e
      simp only [Option.some.injEq, Prod.mk.injEq] at e
      obtain ⟨e1, e2⟩ := e
      subst e1; subst e2
      exact ⟨h, rfl, fun y hy => absurd hy (by simp), Nat.zero_le _, Nat.zero_le _⟩
    · rw [BP_0 h] at e; cases e
  | f + 1, x, L => by
    by_cases h : x = g
    · intro v r e
      rw [BP_goal h] at e
      simp only [Option.some.injEq, Prod.mk.injEq] at e
      obtain ⟨e1, e2⟩ := e
      subst e1; subst e2
      exact ⟨h, rfl, fun y hy => absurd hy (by simp), Nat.zero_le _, Nat.zero_le _⟩
    · rw [BP_s h]
      have run : ∀ (r i : Nat) (acc : OP), i + r = t.nP → okB t g (f + 1) x acc → okB t g (f + 1) x (iterN (bpS t g f x L) r i acc) := by
        intro r
        induction r with
        | zero => intro i acc _ ha; exact ha
        | succ r ih =>
          intro i acc hi ha
          simp only [iterN]
          refine ih (i + 1) _ (by omega) ?_
          unfold bpS
          split
          · exact ha
          · rename_i hne
            refine acS_ok (by omega) ?_ (BP_ok I J f i (L ++ [i])) ha
            rcases bt_c I J x i with z | z
            · exact absurd (Or.inl z) hne
            · exact z
      exact run t.nP 0 none (by omega) (fun v r e => by cases e)
/-- a row that was found is no longer than another one -/
def leO (c : OP) (m : Nat) : Prop := ∃ v r, c = some (v, r) ∧ v ≤ m
theorem acS_le {b n m : Nat} {c acc : OP} (h : leO acc m) : leO (acS b n c acc) m := by
  obtain ⟨v, r, e, hv⟩ := h
  subst e
  unfold acS
  cases c with
  | none => exact ⟨v, r, rfl, hv⟩
  | some cc =>
    obtain ⟨v0, r0⟩ := cc
    simp only
    split
    · exact ⟨_, _, rfl, by omega⟩
    · exact ⟨v, r, rfl, hv⟩
theorem acS_new {b n m : Nat} {c acc : OP} (h : leO c m) : leO (acS b n c acc) (b + m) := by
  obtain ⟨v, r, e, hv⟩ := h
  subst e
  unfold acS
  cases acc with
  | none => exact ⟨_, _, rfl, by omega⟩
  | some aa =>
    obtain ⟨u, q⟩ := aa
    simp only
    split
    · exact ⟨_, _, rfl, by omega⟩
    · exact ⟨u, q, rfl, by omega⟩
theorem bpI_le {t : TW} {g f x : Nat} {L : List Nat} {m : Nat} : ∀ (r i : Nat) (acc : OP), leO acc m → leO (iterN (bpS t g f x L) r i acc) m
  | 0, _, _, h => h
  | r + 1, i, acc, h => by
    simp only [iterN]
    refine bpI_le r (i + 1) _ ?_
    unfold bpS
    split
    · exact h
    · exact acS_le h
theorem BP_le {t : TW} {g : Nat} : ∀ (f : Nat) (x : Nat) (L r : List Nat), r.length ≤ f → lst x r = g → r.Nodup → (∀ y, y ∈ r → y < t.nP ∧ ¬ y ∈ L) → tot t x r < INF → leO (BP t g f x L) (tot t x r)
  | 0, x, L, r, h1, h2, h3, h4, h5 => by
    have : r = [] := List.eq_nil_of_length_eq_zero (by omega)
    subst this
    rw [BP_goal (show x = g from h2)]
    exact ⟨0, [], rfl, Nat.le_refl _⟩
  | f + 1, x, L, r, h1, h2, h3, h4, h5 => by
    by_cases h : x = g
    · rw [BP_goal h]; exact ⟨0, [], rfl, Nat.zero_le _⟩
    · cases r with
      | nil => exact absurd h2 h
      | cons y r =>
        rw [BP_s h]
        obtain ⟨n1, n2⟩ := List.nodup_cons.mp h3
        obtain ⟨hy, hyL⟩ := h4 y List.mem_cons_self
        have e : tot t x (y :: r) = bt t x y + tot t y r := rfl
        have ih := BP_le (t := t) (g := g) f y (L ++ [y]) r (by simp only [List.length_cons] at h1; omega) h2 n2 (fun z hz => ⟨(h4 z (List.mem_cons_of_mem _ hz)).1, fun q => by
          rcases List.mem_append.mp q with w | w
          · exact (h4 z (List.mem_cons_of_mem _ hz)).2 w
          · have : z = y := by simpa using w
            rw [this] at hz; exact n1 hz⟩) (by omega)
        rw [show t.nP = y + (1 + (t.nP - y - 1)) by omega, iterN_add y _ 0, iterN_add 1 _ (0 + y)]
        refine bpI_le _ _ _ ?_
        simp only [iterN]
        rw [Nat.zero_add]
        unfold bpS
        rw [if_neg (fun z => z.elim (fun w => by rw [w] at e; omega) hyL), e]
        exact acS_new ih
/-! the reference's search -/
def tpI (c : Nat → Option (List Nat)) : Nat → Nat → Option (List Nat)
  | 0, _ => none
  | r + 1, i => match c i with
    | some q => some (i :: q)
    | none => tpI c r (i + 1)
def TP (t : TW) (g : Nat) (far : Nat → Nat) : Nat → Nat → List Nat → Option (List Nat)
  | 0, x, _ => if x = g then some [] else none
  | f + 1, x, L => if x = g then some [] else tpI (fun n => if ¬ n ∈ L ∧ far n < INF ∧ bt t x n + far n = far x then TP t g far f n (L ++ [n]) else none) t.nP 0
def tpC (t : TW) (g : Nat) (far : Nat → Nat) (f x : Nat) (L : List Nat) (n : Nat) : Option (List Nat) := if ¬ n ∈ L ∧ far n < INF ∧ bt t x n + far n = far x then TP t g far f n (L ++ [n]) else none
theorem TP_goal {t : TW} {g f x : Nat} {far : Nat → Nat} {L : List Nat} (h : x = g) : TP t g far f x L = some [] := by
  cases f with
  | zero => exact if_pos h
  | succ f => exact if_pos h
theorem TP_0 {t : TW} {g x : Nat} {far : Nat → Nat} {L : List Nat} (h : ¬ x = g) : TP t g far 0 x L = none := if_neg h
theorem TP_s {t : TW} {g f x : Nat} {far : Nat → Nat} {L : List Nat} (h : ¬ x = g) : TP t g far (f + 1) x L = tpI (tpC t g far f x L) t.nP 0 := if_neg h
/-- what holds of the fewest yards to a place -/
def FPr (t : TW) (g : Nat) (far : Nat → Nat) : Prop := far g = 0 ∧ (∀ (r : List Nat) (x : Nat), x < 7 → (∀ y, y ∈ r → y < 7) → lst x r = g → far x ≤ tot t x r) ∧ ∀ x, x < 7 → far x < INF → ∃ r : List Nat, (∀ y, y ∈ r → y < t.nP) ∧ lst x r = g ∧ tot t x r ≤ far x
theorem keep_acc {t : TW} (I : tOK t) (J : tIn t) {g f x : Nat} {far : Nat → Nat} {L : List Nat} (F : FPr t g far) (hx : x < 7) {q : List Nat} : ∀ (r i : Nat), i + r = t.nP → iterN (bpS t g f x L) r i (some (far x, q)) = some (far x, q)
  | 0, _, _ => rfl
  | r + 1, i, hi => by
    have hP := I.hP
    simp only [iterN]
    have e : bpS t g f x L i (some (far x, q)) = some (far x, q) := by
      unfold bpS
      split
      · rfl
      · unfold acS
        cases hc : BP t g f i (L ++ [i]) with
        | none => rfl
        | some cc =>
          obtain ⟨v, w⟩ := cc
          obtain ⟨a1, a2, a3, -, -⟩ := BP_ok I J f i (L ++ [i]) v w hc
          have h := F.2.1 (i :: w) x hx (fun y hy => by
            rcases List.mem_cons.mp hy with z | z
            · rw [z]; omega
            · have := a3 y z; omega) a1
          have e2 : tot t x (i :: w) = bt t x i + tot t i w := rfl
          simp only
          rw [if_neg (by omega)]
    rw [e]
    exact keep_acc I J F hx r (i + 1) (by omega)
theorem TB {t : TW} (I : tOK t) (J : tIn t) {g : Nat} {far : Nat → Nat} (F : FPr t g far) : ∀ (f x : Nat) (L : List Nat), x < 7 → far x < INF → ∀ r, (TP t g far f x L = some r ↔ BP t g f x L = some (far x, r))
  | 0, x, L, hx, hf, r => by
    by_cases h : x = g
    · rw [TP_goal h, BP_goal h, h, F.1]
      simp
    · rw [TP_0 h, BP_0 h]; simp
  | f + 1, x, L, hx, hf, r => by
    have hP := I.hP
    by_cases h : x = g
    · rw [TP_goal h, BP_goal h, h, F.1]
      simp
    · rw [TP_s h, BP_s h]
      have run : ∀ (m i : Nat) (acc : OP), i + m = t.nP → (∀ v q, acc = some (v, q) → far x < v) → (tpI (tpC t g far f x L) m i = some r ↔ iterN (bpS t g f x L) m i acc = some (far x, r)) := by
        intro m
        induction m with
        | zero =>
          intro i acc _ ha
          simp only [tpI, iterN]
          constructor
          · intro z; cases z
          · intro z; have := ha _ _ z; omega
        | succ m ih =>
          intro i acc hi ha
          simp only [tpI, iterN]
          have hi7 : i < 7 := by omega
          by_cases hs_ : bt t x i = INF ∨ i ∈ L
          · have e1 : bpS t g f x L i acc = acc := if_pos hs_
            have e2 : tpC t g far f x L i = none := by
              unfold tpC
              rw [if_neg]
              rintro ⟨a, b, c⟩
              rcases hs_ with z | z
              · omega
              · exact a z
            rw [e1, e2]
            exact ih (i + 1) acc (by omega) ha
          · have e1 : bpS t g f x L i acc = acS (bt t x i) i (BP t g f i (L ++ [i])) acc := if_neg hs_
            have hL : ¬ i ∈ L := fun z => hs_ (Or.inr z)
            rw [e1]
            cases hc : BP t g f i (L ++ [i]) with
            | none =>
              have e2 : tpC t g far f x L i = none := by
                unfold tpC
                split
                · rename_i hh
                  cases hq : TP t g far f i (L ++ [i]) with
                  | none => rfl
                  | some q =>
                    have := (TB I J F f i (L ++ [i]) hi7 hh.2.1 q).mp hq
                    rw [hc] at this; cases this
                · rfl
              rw [e2]
              exact ih (i + 1) acc (by omega) ha
            | some cc =>
              obtain ⟨v, w⟩ := cc
              obtain ⟨a1, a2, a3, -, -⟩ := BP_ok I J f i (L ++ [i]) v w hc
              have hv := F.2.1 w i hi7 (fun y hy => by have := a3 y hy; omega) a1
              have hall : ∀ y, y ∈ i :: w → y < 7 := fun y hy => by
                rcases List.mem_cons.mp hy with z | z
                · rw [z]; omega
                · have := a3 y z; omega
              have hge := F.2.1 (i :: w) x hx hall a1
              have et : tot t x (i :: w) = bt t x i + tot t i w := rfl
              by_cases heq : bt t x i + v = far x
              · have hfi : far i < INF := by omega
                obtain ⟨r2, b1, b2, b3⟩ := F.2.2 i hi7 hfi
                have hge2 := F.2.1 (i :: r2) x hx (fun y hy => by
                  rcases List.mem_cons.mp hy with z | z
                  · rw [z]; omega
                  · have := b1 y z; omega) b2
                have et2 : tot t x (i :: r2) = bt t x i + tot t i r2 := rfl
                have hvi : v = far i := by omega
                have e2 : tpC t g far f x L i = some w := by
                  unfold tpC
                  rw [if_pos ⟨hL, hfi, by omega⟩]
                  exact (TB I J F f i (L ++ [i]) hi7 hfi w).mpr (by rw [hc, hvi])
                have e3 : acS (bt t x i) i (some (v, w)) acc = some (far x, i :: w) := by
                  unfold acS
                  cases acc with
                  | none => simp only; rw [heq]
                  | some aa =>
                    obtain ⟨u, q⟩ := aa
                    have := ha u q rfl
                    simp only
                    rw [if_pos (by omega), heq]
                rw [e2, e3, keep_acc I J F hx m (i + 1) (by omega)]
                simp
              · have e2 : tpC t g far f x L i = none := by
                  unfold tpC
                  split
                  · rename_i hh
                    cases hq : TP t g far f i (L ++ [i]) with
                    | none => rfl
                    | some q =>
                      have := (TB I J F f i (L ++ [i]) hi7 hh.2.1 q).mp hq
                      rw [hc] at this
                      simp only [Option.some.injEq, Prod.mk.injEq] at this
                      exact absurd (by omega) heq
                  · rfl
                rw [e2]
                refine ih (i + 1) _ (by omega) ?_
                intro u q e
                unfold acS at e
                cases acc with
                | none =>
                  simp only [Option.some.injEq, Prod.mk.injEq] at e
                  omega
                | some aa =>
                  obtain ⟨u0, q0⟩ := aa
                  have := ha u0 q0 rfl
                  simp only at e
                  split at e
                  · simp only [Option.some.injEq, Prod.mk.injEq] at e
                    omega
                  · simp only [Option.some.injEq, Prod.mk.injEq] at e
                    omega
      exact run t.nP 0 none (by omega) (fun v q e => by cases e)
/-- the first of the shortest rows is what both find -/
theorem way_both {t : TW} (I : tOK t) (J : tIn t) {g a : Nat} {far : Nat → Nat} (F : FPr t g far) (ha : a < t.nP) : (far a < INF → ∃ r, BP t g 6 a [a] = some (far a, r) ∧ TP t g far 6 a [a] = some r) ∧ (¬ far a < INF → BP t g 6 a [a] = none) := by
  have hP := I.hP
  constructor
  · intro hf
    obtain ⟨r0, b1, b2, b3⟩ := F.2.2 a (by omega) hf
    obtain ⟨r, c1, c2, c3, c4⟩ := simple (t := t) r0 a
    have hall : ∀ y, y ∈ a :: r → y < 7 := fun y hy => by
      rcases List.mem_cons.mp hy with z | z
      · rw [z]; omega
      · have := b1 y (c4 y z); omega
    have hlen := pigeon 7 (a :: r) c1 hall
    obtain ⟨n1, n2⟩ := List.nodup_cons.mp c1
    have hle := BP_le (t := t) (g := g) 6 a [a] r (by simp only [List.length_cons] at hlen; omega) (c2.trans b2) n2 (fun y hy => ⟨b1 y (c4 y hy), fun q => by
      have : y = a := by simpa using q
      rw [this] at hy; exact n1 hy⟩) (by omega)
    obtain ⟨v, q, e, hv⟩ := hle
    obtain ⟨a1, a2, a3, -, -⟩ := BP_ok I J 6 a [a] v q e
    have hge := F.2.1 q a (by omega) (fun y hy => by have := a3 y hy; omega) a1
    have : v = far a := by omega
    subst this
    exact ⟨q, e, (TB I J F 6 a [a] (by omega) hf q).mpr e⟩
  · intro hf
    cases hc : BP t g 6 a [a] with
    | none => rfl
    | some cc =>
      obtain ⟨v, q⟩ := cc
      obtain ⟨a1, a2, a3, a4, -⟩ := BP_ok I J 6 a [a] v q hc
      have hge := F.2.1 q a (by omega) (fun y hy => by have := a3 y hy; omega) a1
      unfold INF at hf
      omega
/-! the fewest yards, round by round -/
def rx (t : TW) (l : Nat) (far : Nat → Nat) : Nat → Nat := if hs (tTh t) (nI l) then updY (updY far (t.fr l).toNatClampNeg (min (far (t.fr l).toNatClampNeg) (far (t.to_ l).toNatClampNeg + wtN t l))) (t.to_ l).toNatClampNeg (min (updY far (t.fr l).toNatClampNeg (min (far (t.fr l).toNatClampNeg) (far (t.to_ l).toNatClampNeg + wtN t l)) (t.to_ l).toNatClampNeg) (updY far (t.fr l).toNatClampNeg (min (far (t.fr l).toNatClampNeg) (far (t.to_ l).toNatClampNeg + wtN t l)) (t.fr l).toNatClampNeg + wtN t l)) else far
def far0 (g : Nat) : Nat → Nat := fun p => if p = g then 0 else INF
def farF (t : TW) (g : Nat) : Nat → Nat := iterN (fun _ far => iterN (rx t) t.nL 0 far) 7 0 (far0 g)
theorem rx_c {t : TW} (I : tOK t) (J : tIn t) {l : Nat} (hl : l < t.nL) {far : Nat → Nat} (h : hs (tTh t) (nI l)) : ∃ a b, a < t.nP ∧ b < t.nP ∧ ¬ a = b ∧ t.fr l = nI a ∧ t.to_ l = nI b ∧ rx t l far = updY (updY far a (min (far a) (far b + wtN t l))) b (min (far b) (min (far a) (far b + wtN t l) + wtN t l)) := by
  obtain ⟨-, h1, h2, h3⟩ := J.1 l hl
  have hP := I.hP
  obtain ⟨a, ha, ea⟩ := inR_ex h1 (by omega)
  obtain ⟨b, hb, eb⟩ := inR_ex h2 (by omega)
  have hab : ¬ a = b := fun z => h3 (by rw [ea, eb, z])
  refine ⟨a, b, ha, hb, hab, ea, eb, ?_⟩
  unfold rx
  rw [if_pos h, ea, eb, nI_clamp (by omega : a < 2 ^ 31), nI_clamp (by omega : b < 2 ^ 31), show updY far a (min (far a) (far b + wtN t l)) b = far b from if_neg (fun z => hab z.symm), show updY far a (min (far a) (far b + wtN t l)) a = min (far a) (far b + wtN t l) from if_pos rfl]
theorem rx_le {t : TW} (I : tOK t) (J : tIn t) {l : Nat} (hl : l < t.nL) {far : Nat → Nat} (p : Nat) : rx t l far p ≤ far p := by
  by_cases h : hs (tTh t) (nI l)
  · obtain ⟨a, b, -, -, hab, -, -, e⟩ := rx_c I J hl (far := far) h
    rw [e]
    unfold updY
    by_cases h1 : p = b
    · rw [if_pos h1, h1]; exact Nat.min_le_left _ _
    · rw [if_neg h1]
      by_cases h2 : p = a
      · rw [if_pos h2, h2]; exact Nat.min_le_left _ _
      · rw [if_neg h2]; exact Nat.le_refl _
  · unfold rx; rw [if_neg h]; exact Nat.le_refl _
theorem rxI_le {t : TW} (I : tOK t) (J : tIn t) (p : Nat) : ∀ (r i : Nat) (far : Nat → Nat), i + r ≤ t.nL → iterN (rx t) r i far p ≤ far p
  | 0, _, _, _ => Nat.le_refl _
  | r + 1, i, far, h => by
    simp only [iterN]
    exact Nat.le_trans (rxI_le I J p r (i + 1) _ (by omega)) (rx_le I J (by omega) p)
theorem rnd {t : TW} (I : tOK t) (J : tIn t) {far : Nat → Nat} (hc : ∀ p, far p ≤ INF) {x y : Nat} (hx : x < 7) (hy7 : y < 7) : iterN (rx t) t.nL 0 far x ≤ bt t x y + far y := by
  have hP := I.hP
  rcases Nat.lt_or_ge (bt t x y) INF with z | z
  · obtain ⟨l, hl, hj, e⟩ := btR_ex t.nL z
    have e2 : bt t x y = wtN t l := e
    rw [e2]
    have hsplit : iterN (rx t) t.nL 0 far = iterN (rx t) (t.nL - l - 1) (l + 1) (rx t l (iterN (rx t) l 0 far)) := by
      have h1 := iterN_add (g := rx t) l (1 + (t.nL - l - 1)) 0 far
      have h2 := iterN_add (g := rx t) 1 (t.nL - l - 1) (0 + l) (iterN (rx t) l 0 far)
      rw [show l + (1 + (t.nL - l - 1)) = t.nL by omega] at h1
      rw [h1, h2]
      simp only [iterN]
      rw [Nat.zero_add]
    rw [hsplit]
    refine Nat.le_trans (rxI_le I J x _ _ _ (by omega)) ?_
    have hy := rxI_le I J y l 0 far (by omega)
    generalize iterN (rx t) l 0 far = far1 at hy ⊢
    obtain ⟨a, b, ha, hb, hab, ea, eb, er⟩ := rx_c I J hl (far := far1) hj.1
    have conv : (x = a ∧ y = b) ∨ (x = b ∧ y = a) := by
      rcases hj.2 with ⟨q1, q2⟩ | ⟨q1, q2⟩
      · exact Or.inl ⟨nI_ij (q1.symm.trans ea) (by omega) (by omega), nI_ij (q2.symm.trans eb) (by omega) (by omega)⟩
      · exact Or.inr ⟨nI_ij (q2.symm.trans eb) (by omega) (by omega), nI_ij (q1.symm.trans ea) (by omega) (by omega)⟩
    rw [er]
    rcases conv with ⟨u, v⟩ | ⟨u, v⟩
    · subst u; subst v
      have e3 : updY (updY far1 x (min (far1 x) (far1 y + wtN t l))) y (min (far1 y) (min (far1 x) (far1 y + wtN t l) + wtN t l)) x = min (far1 x) (far1 y + wtN t l) := (if_neg hab).trans (if_pos rfl)
      rw [e3]
      have := Nat.min_le_right (far1 x) (far1 y + wtN t l)
      omega
    · subst u; subst v
      have e3 : updY (updY far1 y (min (far1 y) (far1 x + wtN t l))) x (min (far1 x) (min (far1 y) (far1 x + wtN t l) + wtN t l)) x = min (far1 x) (min (far1 y) (far1 x + wtN t l) + wtN t l) := if_pos rfl
      rw [e3]
      have h1 := Nat.min_le_right (far1 x) (min (far1 y) (far1 x + wtN t l) + wtN t l)
      have h2 := Nat.min_le_left (far1 y) (far1 x + wtN t l)
      omega
  · have h1 := rxI_le I J x t.nL 0 far (by omega)
    have h2 := hc x
    omega
def farK (t : TW) (g k : Nat) : Nat → Nat := iterN (fun _ far => iterN (rx t) t.nL 0 far) k 0 (far0 g)
theorem farK_s (t : TW) (g k : Nat) : farK t g (k + 1) = iterN (rx t) t.nL 0 (farK t g k) := by
  have h := iterN_add (g := fun _ far => iterN (rx t) t.nL 0 far) k 1 0 (far0 g)
  exact h
theorem farK_le {t : TW} (I : tOK t) (J : tIn t) (g p : Nat) : ∀ k, farK t g k p ≤ far0 g p
  | 0 => Nat.le_refl _
  | k + 1 => by
    rw [farK_s]
    exact Nat.le_trans (rxI_le I J p t.nL 0 _ (by omega)) (farK_le I J g p k)
theorem far0_c (g p : Nat) : far0 g p ≤ INF := by
  unfold far0; split
  · exact Nat.zero_le _
  · exact Nat.le_refl _
theorem farK_g {t : TW} (I : tOK t) (J : tIn t) (g k : Nat) : farK t g k g = 0 := by
  have h := farK_le I J g g k
  have e : far0 g g = 0 := if_pos rfl
  omega
theorem farK_lb {t : TW} (I : tOK t) (J : tIn t) {g : Nat} : ∀ (k : Nat) (r : List Nat) (x : Nat), r.length ≤ k → x < 7 → (∀ y, y ∈ r → y < 7) → lst x r = g → farK t g k x ≤ tot t x r
  | k, [], x, _, _, _, h => by
    have : x = g := h
    rw [this, farK_g I J]; exact Nat.zero_le _
  | 0, y :: r, x, hk, _, _, _ => absurd hk (by simp)
  | k + 1, y :: r, x, hk, hx, hy, h => by
    rw [farK_s]
    have h1 := rnd I J (far := farK t g k) (fun p => Nat.le_trans (farK_le I J g p k) (far0_c g p)) hx (hy y List.mem_cons_self)
    have h2 := farK_lb I J (g := g) k r y (by simp only [List.length_cons] at hk; omega) (hy y List.mem_cons_self) (fun z hz => hy z (List.mem_cons_of_mem _ hz)) h
    have e : tot t x (y :: r) = bt t x y + tot t y r := rfl
    omega
def UBd (t : TW) (g : Nat) (far : Nat → Nat) : Prop := ∀ x, far x < INF → ∃ r : List Nat, (∀ y, y ∈ r → y < t.nP) ∧ lst x r = g ∧ tot t x r ≤ far x
theorem UB_0 {t : TW} {g : Nat} : UBd t g (far0 g) := by
  intro x hx
  by_cases h : x = g
  · exact ⟨[], fun y hy => absurd hy (by simp), h, Nat.zero_le _⟩
  · rw [show far0 g x = INF from if_neg h] at hx; exact absurd hx (Nat.lt_irrefl _)
theorem UB_e {t : TW} {g a b w : Nat} {far : Nat → Nat} (hb : b < t.nP) (hw : bt t a b ≤ w) (U : UBd t g far) : UBd t g (updY far a (min (far a) (far b + w))) := by
  intro x hx
  by_cases h : x = a
  · subst h
    have e : updY far x (min (far x) (far b + w)) x = min (far x) (far b + w) := if_pos rfl
    rw [e] at hx ⊢
    by_cases z : far x ≤ far b + w
    · rw [Nat.min_eq_left z] at hx ⊢; exact U x hx
    · rw [Nat.min_eq_right (by omega)] at hx ⊢
      obtain ⟨r, h1, h2, h3⟩ := U b (by omega)
      refine ⟨b :: r, fun y hy => ?_, h2, ?_⟩
      · rcases List.mem_cons.mp hy with q | q
        · rw [q]; exact hb
        · exact h1 y q
      · have : tot t x (b :: r) = bt t x b + tot t b r := rfl
        omega
  · have e : updY far a (min (far a) (far b + w)) x = far x := if_neg h
    rw [e] at hx ⊢; exact U x hx
theorem UB_rx {t : TW} (I : tOK t) (J : tIn t) {g l : Nat} (hl : l < t.nL) {far : Nat → Nat} (U : UBd t g far) : UBd t g (rx t l far) := by
  by_cases h : hs (tTh t) (nI l)
  · obtain ⟨a, b, ha, hb, hab, ea, eb, e⟩ := rx_c I J hl (far := far) h
    rw [e]
    have h1 := UB_e (a := a) hb (btR_le (p := a) (q := b) ⟨h, Or.inl ⟨ea, eb⟩⟩ t.nL hl) U
    have h2 := UB_e (a := b) ha (btR_le (p := b) (q := a) ⟨h, Or.inr ⟨ea, eb⟩⟩ t.nL hl) h1
    rw [show updY far a (min (far a) (far b + wtN t l)) b = far b from if_neg (fun z => hab z.symm), show updY far a (min (far a) (far b + wtN t l)) a = min (far a) (far b + wtN t l) from if_pos rfl] at h2
    exact h2
  · unfold rx; rw [if_neg h]; exact U
theorem UB_I {t : TW} (I : tOK t) (J : tIn t) {g : Nat} : ∀ (r i : Nat) (far : Nat → Nat), i + r ≤ t.nL → UBd t g far → UBd t g (iterN (rx t) r i far)
  | 0, _, _, _, h => h
  | r + 1, i, far, hi, h => by
    simp only [iterN]
    exact UB_I I J r (i + 1) _ (by omega) (UB_rx I J (by omega) h)
theorem UB_K {t : TW} (I : tOK t) (J : tIn t) {g : Nat} : ∀ k, UBd t g (farK t g k)
  | 0 => UB_0
  | k + 1 => by rw [farK_s]; exact UB_I I J t.nL 0 _ (by omega) (UB_K I J k)
theorem FP_F {t : TW} (I : tOK t) (J : tIn t) (g : Nat) : FPr t g (farF t g) := by
  have e : farF t g = farK t g 7 := rfl
  rw [e]
  refine ⟨farK_g I J g 7, fun r x hx hr h => ?_, fun x _ hf => UB_K I J 7 x hf⟩
  obtain ⟨r', h1, h2, h3, h4⟩ := simple (t := t) r x
  have hall : ∀ y, y ∈ x :: r' → y < 7 := fun y hy => by
    rcases List.mem_cons.mp hy with z | z
    · rw [z]; exact hx
    · exact hr y (h4 y z)
  have hlen := pigeon 7 (x :: r') h1 hall
  have := farK_lb I J (g := g) 7 r' x (by simp only [List.length_cons] at hlen; omega) hx (fun y hy => hr y (h4 y hy)) (h2.trans h)
  omega
theorem farF_c {t : TW} (I : tOK t) (J : tIn t) (g p : Nat) : farF t g p ≤ INF := Nat.le_trans (farK_le I J g p 7) (far0_c g p)
/-! the class's table of legs, and its search with cuts -/
def enc (u : Nat) : Int32 := if u = INF then -1 else nI u
theorem ix7M (a b : Nat) : ix7 (nI a) (nI b) = nI (a * 7 + b) := by
  show nI a * nI 7 + nI b = _
  rw [pk_mul, nI_add]
theorem shS_at {f : Nat → Int32} {K u m : Nat} {j : Nat} (hK : K < 100) (hm : m ≤ 594) (hu : u = INF ∨ u ≤ 594) (hf : f j = enc u) : shS f (nI K) (nI m) j = if j = K then enc (min u m) else enc u := by
  have ec : (nI K).toNatClampNeg = K := nI_clamp (by omega)
  unfold shS
  rw [ec]
  by_cases e : j = K
  · subst e
    rw [if_pos rfl, hf]
    have hINF : INF = 100000000 := rfl
    by_cases z : u = INF
    · have e1 : enc u = -1 := if_pos z
      rw [e1, if_pos (Or.inl rfl), show upd f j (nI m) j = nI m from if_pos rfl, Nat.min_eq_right (by omega)]
      exact (if_neg (by omega)).symm
    · have e1 : enc u = nI u := if_neg z
      have hu2 : u ≤ 594 := hu.resolve_left z
      rw [e1]
      by_cases y : m < u
      · rw [if_pos (Or.inr ((nI_ltI (by omega) (by omega)).mpr y)), show upd f j (nI m) j = nI m from if_pos rfl, Nat.min_eq_right (by omega)]
        exact (if_neg (by omega)).symm
      · rw [if_neg (fun q => q.elim (nI_ne1 (by omega)) (fun q => y ((nI_ltI (by omega) (by omega)).mp q))), Nat.min_eq_left (by omega), hf, e1]
  · rw [if_neg e]
    split
    · rw [show upd f K (nI m) j = f j from if_neg e]; exact hf
    · exact hf
theorem len_run {t : TW} (I : tOK t) (J : tIn t) : ∀ (r i : Nat) (f : Nat → Int32), i + r = t.nL → (∀ p q, p < 7 → q < 7 → f (p * 7 + q) = enc (btR t p q i)) → ∀ p q, p < 7 → q < 7 → iterN (fun l f => if hs (tTh t) (nI l) then shS (shS f (ix7 (t.fr l) (t.to_ l)) (yA t.ea t.no t.fa t.te l)) (ix7 (t.to_ l) (t.fr l)) (yA t.ea t.no t.fa t.te l) else f) r i f (p * 7 + q) = enc (btR t p q t.nL)
  | 0, i, f, hi, h, p, q, hp, hq => by
    rw [show t.nL = i by omega]; exact h p q hp hq
  | r + 1, i, f, hi, h, p, q, hp, hq => by
    simp only [iterN]
    refine len_run I J r (i + 1) _ (by omega) (fun p q hp hq => ?_) p q hp hq
    by_cases c : hs (tTh t) (nI i)
    · rw [if_pos c]
      obtain ⟨a, b, ha, hb, hab, ea, eb, -⟩ := rx_c I J (show i < t.nL by omega) (far := fun _ => 0) c
      have hP := I.hP
      obtain ⟨ey, hy⟩ := wtN_ok I J (show i < t.nL by omega)
      rw [ea, eb, ix7M, ix7M, ey]
      have h1 := fun (p q : Nat) (hp : p < 7) (hq : q < 7) => shS_at (K := a * 7 + b) (j := p * 7 + q) (by omega) hy (btR_c I J (p := p) (q := q) i (by omega)) (h p q hp hq)
      have hkey : ∀ {u v x y : Nat}, u < 7 → v < 7 → x < 7 → y < 7 → (u * 7 + v = x * 7 + y ↔ u = x ∧ v = y) := fun {u v x y} _ _ _ _ => by omega
      have hj : jnP t i p q ↔ (p = a ∧ q = b) ∨ (p = b ∧ q = a) := by
        constructor
        · rintro ⟨-, ⟨q1, q2⟩ | ⟨q1, q2⟩⟩
          · exact Or.inl ⟨nI_ij (q1.symm.trans ea) (by omega) (by omega), nI_ij (q2.symm.trans eb) (by omega) (by omega)⟩
          · exact Or.inr ⟨nI_ij (q2.symm.trans eb) (by omega) (by omega), nI_ij (q1.symm.trans ea) (by omega) (by omega)⟩
        · rintro (⟨q1, q2⟩ | ⟨q1, q2⟩)
          · exact ⟨c, Or.inl ⟨by rw [q1]; exact ea, by rw [q2]; exact eb⟩⟩
          · exact ⟨c, Or.inr ⟨by rw [q2]; exact ea, by rw [q1]; exact eb⟩⟩
      simp only [btR]
      by_cases k1 : p = a ∧ q = b
      · rw [if_pos (hj.mpr (Or.inl k1))]
        have h2 := shS_at (f := shS f (nI (a * 7 + b)) (nI (wtN t i))) (K := b * 7 + a) (u := min (btR t p q i) (wtN t i)) (j := p * 7 + q) (by omega) hy (Or.inr (Nat.le_trans (Nat.min_le_right _ _) hy)) (by rw [h1 p q hp hq, if_pos (by omega)])
        rw [h2, if_neg (by omega)]
      · by_cases k2 : p = b ∧ q = a
        · rw [if_pos (hj.mpr (Or.inr k2))]
          have h2 := shS_at (f := shS f (nI (a * 7 + b)) (nI (wtN t i))) (K := b * 7 + a) (u := btR t p q i) (j := p * 7 + q) (by omega) hy (btR_c I J i (by omega)) (by rw [h1 p q hp hq, if_neg (by omega)])
          rw [h2, if_pos (by omega)]
        · rw [if_neg (fun z => (hj.mp z).elim k1 k2)]
          have h2 := shS_at (f := shS f (nI (a * 7 + b)) (nI (wtN t i))) (K := b * 7 + a) (u := btR t p q i) (j := p * 7 + q) (by omega) hy (btR_c I J i (by omega)) (by rw [h1 p q hp hq, if_neg (by omega)])
          rw [h2, if_neg (by omega)]
    · rw [if_neg c]
      simp only [btR]
      rw [if_neg (fun z => c z.1)]
      exact h p q hp hq
theorem len_eq {t : TW} (I : tOK t) (J : tIn t) (f : Nat → Int32) {p q : Nat} (hp : p < 7) (hq : q < 7) : tLen t f (p * 7 + q) = enc (bt t p q) := by
  refine len_run I J t.nL 0 (fil 49 (-1) f) (by omega) (fun p q hp hq => ?_) p q hp hq
  show (if p * 7 + q < 49 then -1 else f (p * 7 + q)) = enc INF
  rw [if_pos (by omega)]
  exact (if_pos rfl).symm
def rowP (row : Nat → Int32) (pr : List Nat) : Prop := ∀ k, k < pr.length → row k = nI (pr.getD k 0)
theorem rowP_app {row : Nat → Int32} {pr : List Nat} {n : Nat} (h : rowP row pr) : rowP (upd row pr.length (nI n)) (pr ++ [n]) := by
  intro k hk
  rw [List.length_append, List.length_singleton] at hk
  by_cases e : k = pr.length
  · subst e
    rw [show upd row pr.length (nI n) pr.length = nI n from if_pos rfl, List.getD_eq_getElem?_getD, List.getElem?_append_right (Nat.le_refl _), Nat.sub_self]
    rfl
  · rw [show upd row pr.length (nI n) k = row k from if_neg e, h k (by omega), List.getD_eq_getElem?_getD, List.getD_eq_getElem?_getD, List.getElem?_append_left (by omega)]
theorem rowP_pre {row : Nat → Int32} {pr q : List Nat} (h : rowP row (pr ++ q)) : rowP row pr := by
  intro k hk
  rw [h k (by rw [List.length_append]; omega), List.getD_eq_getElem?_getD, List.getD_eq_getElem?_getD, List.getElem?_append_left hk]
theorem rowP_cg {row row2 : Nat → Int32} {pr : List Nat} (h : rowP row pr) (e : ∀ k, k < pr.length → row2 k = row k) : rowP row2 pr := fun k hk => by rw [e k hk]; exact h k hk
/-- what the cut search makes of what it had -/
def nwS (ya : Int32) (w : Nat) : OP → Prop
  | none => False
  | some (v, _) => ya = -1 ∨ ∃ y, ya = nI y ∧ y < 1000000 ∧ w + v < y
def aft (pr : List Nat) (w : Nat) (B : OP) (s s2 : PS) : Prop := (∀ k, k < pr.length → s2.1 k = s.1 k) ∧ (nwS s.2.2.1 w B → ∃ v r, B = some (v, r) ∧ rowP s2.2.1 (pr ++ r) ∧ s2.2.2.1 = nI (w + v) ∧ s2.2.2.2 = nI (pr.length + r.length)) ∧ (¬ nwS s.2.2.1 w B → s2.2 = s.2)
def okY (ya : Int32) : Prop := ya = -1 ∨ ∃ y, ya = nI y ∧ y < 1000000
theorem nw_N {y w v : Nat} {r : List Nat} (hy : y < 1000000) : nwS (nI y) w (some (v, r)) ↔ w + v < y := by
  constructor
  · rintro (h | ⟨y2, e, h2, h3⟩)
    · exact absurd h (nI_ne1 (by omega))
    · have := nI_ij e (by omega) (by omega); omega
  · intro h; exact Or.inr ⟨y, rfl, hy, h⟩
theorem getD_last {pr : List Nat} {x : Nat} (h : pr.getLast? = some x) : pr.getD (pr.length - 1) 0 = x ∧ 0 < pr.length := by
  cases pr with
  | nil => cases h
  | cons a l =>
    rw [List.getLast?_eq_getElem?] at h
    rw [List.getD_eq_getElem?_getD, h]
    exact ⟨rfl, by simp⟩
theorem aft_ok {t : TW} (I : tOK t) (J : tIn t) {g f x w : Nat} {L pr : List Nat} {s s2 : PS} (hw : w ≤ 594 * 6) (hf : f ≤ 6) (h : aft pr w (BP t g f x L) s s2) (ho : okY s.2.2.1) : okY s2.2.2.1 := by
  by_cases n : nwS s.2.2.1 w (BP t g f x L)
  · obtain ⟨v, r, e, -, e2, -⟩ := h.2.1 n
    have := (BP_ok I J f x L v r e).2.2.2.1
    have hm := Nat.mul_le_mul_left 594 hf
    exact Or.inr ⟨w + v, e2, by omega⟩
  · rw [h.2.2 n]; exact ho
