/-! ===== WAY: the class's search with cuts ===== -/
theorem enc_n {u : Nat} (h : u = INF ∨ u ≤ 594) : enc u = -1 ↔ u = INF := by
  unfold enc
  by_cases z : u = INF
  · rw [if_pos z]; exact ⟨fun _ => z, fun _ => rfl⟩
  · rw [if_neg z]
    have := h.resolve_left z
    exact ⟨fun y => absurd y (nI_ne1 (by omega)), fun y => absurd y z⟩
theorem aft_new {pr : List Nat} {w b i : Nat} {C acc : OP} {s s1 s3 : PS} {row2 : Nat → Int32} {t : TW} {g f x : Nat} (hb : b ≤ 594) (hC : ∀ v r, C = some (v, r) → v ≤ 594 * 6) (hA : ∀ v r, acc = some (v, r) → v ≤ 594 * 7) (hw : w ≤ 594 * 6) (ho : okY s.2.2.1) (h0 : aft pr w acc s s1) (hr : ∀ k, k < pr.length → row2 k = s1.1 k) (h1 : aft (pr ++ [i]) (w + b) C (row2, s1.2) s3) : aft pr w (acS b i C acc) s s3 := by
  obtain ⟨a1, a2, a3⟩ := h0
  obtain ⟨b1, b2, b3⟩ := h1
  refine ⟨fun k hk => ?_, ?_⟩
  · rw [b1 k (by rw [List.length_append]; omega)]
    exact (hr k hk).trans (a1 k hk)
  · have hnew : ∀ v r, C = some (v, r) → nwS s1.2.2.1 (w + b) C → rowP s3.2.1 (pr ++ i :: r) ∧ s3.2.2.1 = nI (w + (b + v)) ∧ s3.2.2.2 = nI (pr.length + (i :: r).length) := by
      intro v r e n
      obtain ⟨v2, r2, e2, c1, c2, c3⟩ := b2 n
      rw [e] at e2
      simp only [Option.some.injEq, Prod.mk.injEq] at e2
      obtain ⟨e3, e4⟩ := e2
      subst e3; subst e4
      refine ⟨?_, ?_, ?_⟩
      · rw [List.append_assoc] at c1; exact c1
      · rw [c2, Nat.add_assoc]
      · rw [c3]
        congr 1
        simp only [List.length_append, List.length_cons, List.length_nil]
        omega
    have hold : ¬ nwS s1.2.2.1 (w + b) C → s3.2 = s1.2 := fun n => b3 n
    cases hc : C with
    | none =>
      have e : acS b i none acc = acc := rfl
      rw [e]
      have h3 := hold (by rw [hc]; exact fun z => z)
      rw [h3]
      exact ⟨a2, a3⟩
    | some cc =>
      obtain ⟨v, r⟩ := cc
      have hv := hC v r hc
      cases hac : acc with
      | none =>
        have e : acS b i (some (v, r)) none = some (b + v, i :: r) := rfl
        rw [e]
        have es := a3 (by rw [hac]; exact fun z => z)
        have iff1 : nwS s1.2.2.1 (w + b) C ↔ nwS s.2.2.1 w (some (b + v, i :: r)) := by
          rw [es, hc]
          unfold nwS
          simp only [Nat.add_assoc]
        constructor
        · intro n
          obtain ⟨c1, c2, c3⟩ := hnew v r hc (iff1.mpr n)
          exact ⟨_, _, rfl, c1, c2, c3⟩
        · intro n
          rw [hold (fun z => n (iff1.mp z)), es]
      | some aa =>
        obtain ⟨u, q⟩ := aa
        have hu := hA u q hac
        by_cases lt : b + v < u
        · have e : acS b i (some (v, r)) (some (u, q)) = some (b + v, i :: r) := if_pos lt
          rw [e]
          by_cases N0 : nwS s.2.2.1 w acc
          · obtain ⟨u2, q2, e2, d1, d2, d3⟩ := a2 N0
            rw [hac] at e2
            simp only [Option.some.injEq, Prod.mk.injEq] at e2
            obtain ⟨e3, e4⟩ := e2
            subst e3; subst e4
            have n1 : nwS s1.2.2.1 (w + b) C := by
              rw [d2, hc]; exact (nw_N (by omega)).mpr (by omega)
            have n2 : nwS s.2.2.1 w (some (b + v, i :: r)) := by
              rw [hac] at N0
              rcases N0 with z | ⟨y, z1, z2, z3⟩
              · exact Or.inl z
              · exact Or.inr ⟨y, z1, z2, by omega⟩
            obtain ⟨c1, c2, c3⟩ := hnew v r hc n1
            exact ⟨fun _ => ⟨_, _, rfl, c1, c2, c3⟩, fun n => absurd n2 n⟩
          · have es := a3 N0
            have iff1 : nwS s1.2.2.1 (w + b) C ↔ nwS s.2.2.1 w (some (b + v, i :: r)) := by
              rw [es, hc]
              unfold nwS
              simp only [Nat.add_assoc]
            constructor
            · intro n
              obtain ⟨c1, c2, c3⟩ := hnew v r hc (iff1.mpr n)
              exact ⟨_, _, rfl, c1, c2, c3⟩
            · intro n
              rw [hold (fun z => n (iff1.mp z)), es]
        · have e : acS b i (some (v, r)) (some (u, q)) = some (u, q) := if_neg lt
          rw [e]
          by_cases N0 : nwS s.2.2.1 w acc
          · obtain ⟨u2, q2, e2, d1, d2, d3⟩ := a2 N0
            rw [hac] at e2
            simp only [Option.some.injEq, Prod.mk.injEq] at e2
            obtain ⟨e3, e4⟩ := e2
            subst e3; subst e4
            have n1 : ¬ nwS s1.2.2.1 (w + b) C := by
              rw [d2, hc]; exact fun z => by have := (nw_N (by omega)).mp z; omega
            rw [hold n1]
            rw [← hac]
            exact ⟨a2, a3⟩
          · have es := a3 N0
            have n1 : ¬ nwS s1.2.2.1 (w + b) C := by
              rw [es, hc]
              rw [hac] at N0
              rcases ho with z | ⟨y, z1, z2⟩
              · exact absurd (Or.inl z) N0
              · rw [z1] at N0 ⊢
                exact fun z => N0 ((nw_N z2).mpr (by have := (nw_N z2).mp z; omega))
            rw [hold n1, es]
            rw [hac] at N0
            exact ⟨fun n => absurd n N0, fun _ => rfl⟩
theorem wOn_B {t : TW} (I : tOK t) (J : tIn t) {len : Nat → Int32} (hlen : ∀ p q, p < 7 → q < 7 → len (p * 7 + q) = enc (bt t p q)) {g : Nat} (hg : g < 7) : ∀ (f : Nat) (pr : List Nat) (x w : Nat) (sn : Int32) (s : PS), pr.length + f = 7 → pr.getD (pr.length - 1) 0 = x → 0 < pr.length → rowP s.1 pr → (∀ y, y ∈ pr → y < t.nP) → x < t.nP → (∀ n, n < 7 → (hs sn (nI n) ↔ n ∈ pr)) → w ≤ 594 * (pr.length - 1) → okY s.2.2.1 → aft pr w (BP t g f x pr) s (wOn len (nI g) t.nP f (pr.length - 1) (nI w) sn s) := by
  have hP := I.hP
  intro f
  induction f with
  | zero =>
    intro pr x w sn s hl hx h0 hrow hin hxP hsn hw ho
    have hd : s.1 (pr.length - 1) = nI x := by rw [hrow _ (by omega), hx]
    simp only [wOn]
    by_cases c1 : s.2.2.1 ≠ -1 ∧ ¬ nI w < s.2.2.1
    · rw [if_pos c1]
      refine ⟨fun _ _ => rfl, fun n => ?_, fun _ => rfl⟩
      exfalso
      rcases ho with z | ⟨y, z1, z2⟩
      · exact c1.1 z
      · rw [z1] at c1 n
        cases hB : BP t g 0 x pr with
        | none => rw [hB] at n; exact n
        | some vv =>
          obtain ⟨v, r⟩ := vv
          rw [hB] at n
          have := (nw_N z2).mp n
          exact c1.2 ((nI_ltI (by omega) (by omega)).mpr (by omega))
    · rw [if_neg c1]
      by_cases c2 : x = g
      · rw [if_pos (by rw [hd, c2]), BP_goal c2]
        have n0 : nwS s.2.2.1 w (some (0, [])) := by
          rcases ho with z | ⟨y, z1, z2⟩
          · exact Or.inl z
          · rw [z1]
            refine (nw_N z2).mpr ?_
            rcases Nat.lt_or_ge w y with q | q
            · omega
            · exact absurd ⟨by rw [z1]; exact nI_ne1 (by omega), by rw [z1]; exact fun z => by have := (nI_ltI (by omega) (by omega)).mp z; omega⟩ c1
        refine ⟨fun _ _ => rfl, fun _ => ⟨0, [], rfl, ?_, rfl, ?_⟩, fun n => absurd n0 n⟩
        · rw [List.append_nil]
          intro k hk
          show va_cpy s.1 s.2.1 0 0 (pr.length - 1 + 1) k = _
          unfold va_cpy
          rw [if_pos (by omega), Nat.zero_add, Nat.sub_zero]
          exact hrow k hk
        · show nI (pr.length - 1 + 1) = nI (pr.length + 0)
          congr 1; omega
      · rw [if_neg (by rw [hd]; exact fun z => c2 (nI_ij z (by omega) (by omega))), BP_0 c2]
        exact ⟨fun _ _ => rfl, fun n => absurd n (fun z => z), fun _ => rfl⟩
  | succ f ih =>
    intro pr x w sn s hl hx h0 hrow hin hxP hsn hw ho
    have hd : s.1 (pr.length - 1) = nI x := by rw [hrow _ (by omega), hx]
    simp only [wOn]
    by_cases c1 : s.2.2.1 ≠ -1 ∧ ¬ nI w < s.2.2.1
    · rw [if_pos c1]
      refine ⟨fun _ _ => rfl, fun n => ?_, fun _ => rfl⟩
      exfalso
      rcases ho with z | ⟨y, z1, z2⟩
      · exact c1.1 z
      · rw [z1] at c1 n
        cases hB : BP t g (f + 1) x pr with
        | none => rw [hB] at n; exact n
        | some vv =>
          obtain ⟨v, r⟩ := vv
          rw [hB] at n
          have := (nw_N z2).mp n
          exact c1.2 ((nI_ltI (by omega) (by omega)).mpr (by omega))
    · rw [if_neg c1]
      by_cases c2 : x = g
      · rw [if_pos (by rw [hd, c2]), BP_goal c2]
        have n0 : nwS s.2.2.1 w (some (0, [])) := by
          rcases ho with z | ⟨y, z1, z2⟩
          · exact Or.inl z
          · rw [z1]
            refine (nw_N z2).mpr ?_
            rcases Nat.lt_or_ge w y with q | q
            · omega
            · exact absurd ⟨by rw [z1]; exact nI_ne1 (by omega), by rw [z1]; exact fun z => by have := (nI_ltI (by omega) (by omega)).mp z; omega⟩ c1
        refine ⟨fun _ _ => rfl, fun _ => ⟨0, [], rfl, ?_, rfl, ?_⟩, fun n => absurd n0 n⟩
        · rw [List.append_nil]
          intro k hk
          show va_cpy s.1 s.2.1 0 0 (pr.length - 1 + 1) k = _
          unfold va_cpy
          rw [if_pos (by omega), Nat.zero_add, Nat.sub_zero]
          exact hrow k hk
        · show nI (pr.length - 1 + 1) = nI (pr.length + 0)
          congr 1; omega
      · rw [if_neg (by rw [hd]; exact fun z => c2 (nI_ij z (by omega) (by omega))), BP_s c2]
        have run : ∀ (r i : Nat) (acc : OP) (s1 : PS), i + r = t.nP → okB t g (f + 1) x acc → aft pr w acc s s1 → aft pr w (iterN (bpS t g f x pr) r i acc) s (iterN (fun n s' => if len (ix7 (s.1 (pr.length - 1)) (nI n)).toNatClampNeg = -1 ∨ hs sn (nI n) then s' else wOn len (nI g) t.nP f (pr.length - 1 + 1) (nI w + len (ix7 (s.1 (pr.length - 1)) (nI n)).toNatClampNeg) (sn ||| bit (nI n)) (upd s'.1 (pr.length - 1 + 1) (nI n), s'.2)) r i s1) := by
          intro r
          induction r with
          | zero => intro i acc s1 _ _ h; exact h
          | succ r ihr =>
            intro i acc s1 hi hB h
            simp only [iterN]
            have el : len (ix7 (s.1 (pr.length - 1)) (nI i)).toNatClampNeg = enc (bt t x i) := by
              rw [hd, ix7M, nI_clamp (by omega)]
              exact hlen x i (by omega) (by omega)
            rw [el, show pr.length - 1 + 1 = pr.length by omega]
            by_cases sk : bt t x i = INF ∨ i ∈ pr
            · have e1 : bpS t g f x pr i acc = acc := if_pos sk
              rw [if_pos (sk.imp (enc_n (bt_c I J x i)).mpr (hsn i (by omega)).mpr), e1]
              have := ihr (i + 1) acc s1 (by omega) hB h
              rw [show pr.length - 1 + 1 = pr.length by omega] at this
              exact this
            · have e1 : bpS t g f x pr i acc = acS (bt t x i) i (BP t g f i (pr ++ [i])) acc := if_neg sk
              have hb : bt t x i ≤ 594 := (bt_c I J x i).resolve_left (fun z => sk (Or.inl z))
              have eb : enc (bt t x i) = nI (bt t x i) := if_neg (fun z => sk (Or.inl z))
              rw [if_neg (fun z => sk (z.imp (enc_n (bt_c I J x i)).mp (hsn i (by omega)).mp)), e1, eb, nI_add]
              have hoB : okB t g f i (BP t g f i (pr ++ [i])) := BP_ok I J f i (pr ++ [i])
              have ho1 : okY s1.2.2.1 := by
                by_cases n : nwS s.2.2.1 w acc
                · obtain ⟨v, q, e, -, e2, -⟩ := h.2.1 n
                  have := (hB v q e).2.2.2.1
                  exact Or.inr ⟨w + v, e2, by omega⟩
                · rw [h.2.2 n]; exact ho
              have hrow1 : rowP s1.1 pr := rowP_cg hrow h.1
              have hc := ih (pr ++ [i]) i (w + bt t x i) (sn ||| bit (nI i)) (upd s1.1 pr.length (nI i), s1.2) (by rw [List.length_append, List.length_singleton]; omega) (by
                rw [List.length_append, List.length_singleton, Nat.add_sub_cancel, List.getD_eq_getElem?_getD, List.getElem?_append_right (Nat.le_refl _), Nat.sub_self]; rfl) (by rw [List.length_append, List.length_singleton]; omega) (rowP_app hrow1) (fun y hy => by
                rcases List.mem_append.mp hy with z | z
                · exact hin y z
                · rw [show y = i by simpa using z]; omega) (by omega) (fun n hn => by
                rw [hs_or (by omega), hs_bit (by omega) (by omega), hsn n hn, List.mem_append]
                simp) (by rw [List.length_append, List.length_singleton]; omega) ho1
              rw [List.length_append, List.length_singleton, Nat.add_sub_cancel] at hc
              have h2 := aft_new (i := i) (t := t) (g := g) (f := f) (x := x) hb (fun v q e => by have := (hoB v q e).2.2.2.1; omega) (fun v q e => by have := (hB v q e).2.2.2.1; omega) (by omega) ho h (fun k hk => if_neg (by omega)) hc
              have := ihr (i + 1) _ _ (by omega) (acS_ok (by omega) hb hoB hB) h2
              rw [show pr.length - 1 + 1 = pr.length by omega] at this
              exact this
        exact run t.nP 0 none s (by omega) (fun v q e => by cases e) ⟨fun _ _ => rfl, fun n => absurd n (fun z => z), fun _ => rfl⟩
/-- the class's way -/
theorem wy_B {t : TW} (I : tOK t) (J : tIn t) {a b : Nat} (ha : a < t.nP) (hb : b < 7) (w : WT) : (BP t b 6 a [a] = none → (tWy t (nI a) (nI b) w).2.2.1 = -1) ∧ ∀ v r, BP t b 6 a [a] = some (v, r) → rowP (tWy t (nI a) (nI b) w).2.1 (a :: r) ∧ (tWy t (nI a) (nI b) w).2.2.1 = nI v ∧ (tWy t (nI a) (nI b) w).2.2.2 = nI (1 + r.length) := by
  have hP := I.hP
  have h := wOn_B I J (len := tLen t w.wle) (fun p q hp hq => len_eq I J w.wle hp hq) hb 6 [a] a 0 (bit (nI a)) (upd w.wro 0 (nI a), w.wbe, -1, 0) rfl rfl (by simp) (fun k hk => by
    have : k = 0 := by simpa using hk
    subst this; exact (show upd w.wro 0 (nI a) 0 = nI a from if_pos rfl)) (fun y hy => by rw [show y = a by simpa using hy]; exact ha) ha (fun n hn => by
    rw [hs_bit (by omega) (by omega)]; simp) (by simp) (Or.inl rfl)
  have e : wOn (tLen t w.wle) (nI b) t.nP 6 ([a].length - 1) (nI 0) (bit (nI a)) (upd w.wro 0 (nI a), w.wbe, -1, 0) = tWy t (nI a) (nI b) w := rfl
  rw [e] at h
  obtain ⟨h1, h2, h3⟩ := h
  constructor
  · intro hB
    rw [hB] at h3
    rw [h3 (fun z => z)]
  · intro v r hB
    rw [hB] at h2
    obtain ⟨v2, r2, e2, c1, c2, c3⟩ := h2 (Or.inl rfl)
    simp only [Option.some.injEq, Prod.mk.injEq] at e2
    obtain ⟨e3, e4⟩ := e2
    subst e3; subst e4
    rw [Nat.zero_add] at c2
    exact ⟨c1, c2, c3⟩
