/-! ===== ENGINE 7: arraycopy; calls of constructors ===== -/
section R8
variable {Γ : Gm} {μ : MI} {d cb sb : Nat} {h : LH} {pc : Nat} {ls : Lo} {st : List Value} {Q : Option Value → LH → Prop}
theorem wp_acopyI (q : Nat) {idx a0 a1 n0 n1 i j n : Nat} {f g : Nat → Int32} (hd : decode μ.2.1 pc = .ok (.invokestatic idx, 3)) (hp : pc + 3 = q) (hk : Cond.methodLink μ.1.cls idx arraycopyName ∈ TbL) (ha0 : h[a0]? = some (cI n0 f)) (ha1 : h[a1]? = some (cI n1 g)) (hb : Nat.ble n0 100000 = true ∧ Nat.ble n1 100000 = true) (h4 : i + n ≤ n0) (h5 : j + n ≤ n1) (hdd : 0 < d) (hst : Nat.ble (st.map Value.category).sum 8 = true) (k : WP Γ μ d cb sb (h.set a1 (cI n1 (va_cpy f g i j n))) q ls st Q) : WP Γ μ d cb sb h pc ls (.int (nI n) :: .int (nI j) :: .ref a1 :: .int (nI i) :: .ref a0 :: st) Q := by
  subst hp
  have b0 := Nat.le_of_ble_eq_true hb.1
  have b1 := Nat.le_of_ble_eq_true hb.2
  have hst8 : (st.map Value.category).sum ≤ 8 := Nat.le_of_ble_eq_true hst
  intro p l e R s m args below meth c H locs cells slots A ρ ρ0 n0' mc ms lsr F D
  have hts := F.2.2.2.2.2.2.2.1.all
  have hlo := D.2.2.2.2.2.2.2.2.2.2.2.2.2.2
  have hfr := D.2.2.2.2.2.2.2.2.2.2.2.2.2.1
  have en : (nI n).toNatClampNeg = n := nI_clamp (by omega)
  have ei : (nI i).toNatClampNeg = i := nI_clamp (by omega)
  have ej : (nI j).toNatClampNeg = j := nI_clamp (by omega)
  refine va_copyi (D := Γ.1) (cl := clX) F.1 F.2.1 (by rw [F.2.2.1]; exact D.2.2.2.1.1.symm) F.2.2.2.2.2.2.1 (hts _ hk) (hts _ acp_n) (hts _ acp_s) (hts _ acp_i) F.2.2.2.2.2.2.2.2.1 D.1 D.2.1 D.2.2.1 a0 a1 0 0 (eH_at ha0) (eH_at ha1) rfl rfl rfl (nI_pos (by omega)) (nI_pos (by omega)) (nI_pos (by omega)) (by rw [en, ei]; exact h4) (by rw [en, ej]; exact h5) (fun _ _ => rfl) (by omega) (by rw [sumCat]; simp [nativeFrameWords]; omega) hd (fun H1 locs1 hP hD hS => ?_)
  rw [en, ei, ej] at hP hD
  exact k _ _ _ _ _ _ _ _ _ _ _ _ _ _ _ _ _ _ _ _ _ F (D.upd (x := cI n1 (va_cpy f g i j n)) hP hD hS)
theorem wp_acopyJ (q : Nat) {idx a0 a1 n0 n1 i j n : Nat} {f g : Nat → Int64} (hd : decode μ.2.1 pc = .ok (.invokestatic idx, 3)) (hp : pc + 3 = q) (hk : Cond.methodLink μ.1.cls idx arraycopyName ∈ TbL) (ha0 : h[a0]? = some (cL n0 f)) (ha1 : h[a1]? = some (cL n1 g)) (hb : Nat.ble n0 100000 = true ∧ Nat.ble n1 100000 = true) (h4 : i + n ≤ n0) (h5 : j + n ≤ n1) (hdd : 0 < d) (hst : Nat.ble (st.map Value.category).sum 8 = true) (k : WP Γ μ d cb sb (h.set a1 (cL n1 (va_cpy f g i j n))) q ls st Q) : WP Γ μ d cb sb h pc ls (.int (nI n) :: .int (nI j) :: .ref a1 :: .int (nI i) :: .ref a0 :: st) Q := by
  subst hp
  have b0 := Nat.le_of_ble_eq_true hb.1
  have b1 := Nat.le_of_ble_eq_true hb.2
  have hst8 : (st.map Value.category).sum ≤ 8 := Nat.le_of_ble_eq_true hst
  intro p l e R s m args below meth c H locs cells slots A ρ ρ0 n0' mc ms lsr F D
  have hts := F.2.2.2.2.2.2.2.1.all
  have hlo := D.2.2.2.2.2.2.2.2.2.2.2.2.2.2
  have hfr := D.2.2.2.2.2.2.2.2.2.2.2.2.2.1
  have en : (nI n).toNatClampNeg = n := nI_clamp (by omega)
  have ei : (nI i).toNatClampNeg = i := nI_clamp (by omega)
  have ej : (nI j).toNatClampNeg = j := nI_clamp (by omega)
  refine va_copyl (D := Γ.1) (cl := clX) F.1 F.2.1 (by rw [F.2.2.1]; exact D.2.2.2.1.1.symm) F.2.2.2.2.2.2.1 (hts _ hk) (hts _ acp_n) (hts _ acp_s) (hts _ acp_i) F.2.2.2.2.2.2.2.2.1 D.1 D.2.1 D.2.2.1 a0 a1 1 1 (eH_at ha0) (eH_at ha1) rfl rfl rfl (nI_pos (by omega)) (nI_pos (by omega)) (nI_pos (by omega)) (by rw [en, ei]; exact h4) (by rw [en, ej]; exact h5) (fun _ _ => rfl) (by omega) (by rw [sumCat]; simp [nativeFrameWords]; omega) hd (fun H1 locs1 hP hD hS => ?_)
  rw [en, ei, ej] at hP hD
  exact k _ _ _ _ _ _ _ _ _ _ _ _ _ _ _ _ _ _ _ _ _ F (D.upd (x := cL n1 (va_cpy f g i j n)) hP hD hS)
/-- places of the callee in the caller, those that it has made behind the caller's -/
def sgx (sl : List Nat) (n : Nat) (k : Nat) : Nat := if k < sl.length then sl.getD k 0 else if XB ≤ k then k else n + (k - sl.length)
def putX (sl : List Nat) (h hl' : LH) : LH := putH (sgx sl h.length) h 0 (hl'.take sl.length) ++ (hl'.drop sl.length).map (rC (sgx sl h.length))
def Kx2 (Γ : Gm) (μ : MI) (d cb sb q : Nat) (h : LH) (sl : List Nat) (ls : Lo) (st : List Value) (Q : Option Value → LH → Prop) : Option Value → LH → Prop := fun v hl' => v = none ∧ Nat.blt sl.length hl'.length = true ∧ hl'.all (okC hl'.length) = true ∧ Nat.blt (h.length + hl'.length) XB = true ∧ WP Γ μ d cb sb (putX sl h hl') q ls st Q
theorem sg_sgx {sl : List Nat} {n k : Nat} (hk : k < sl.length) : sgx sl n k = sg sl k := by simp [sg, sgx, hk]
theorem rC_ok {σ σ' : Nat → Nat} {n : Nat} {c : LC} (h : okC n c = true) (e : ∀ k, k < n ∨ XB ≤ k → σ' k = σ k) : rC σ' c = rC σ c := by
  rcases c with ⟨ty, m, f | f⟩ | ⟨ci, fs⟩ | ⟨C, rs⟩
  · rfl
  · rfl
  · simp only [rC]
    congr 3
    apply List.map_congr_left
    intro v hv
    exact eV_ok (List.all_eq_true.mp h v hv) e
  · simp only [rC]
    congr 3
    apply List.map_congr_left
    intro r hr
    cases r with
    | none => rfl
    | some k =>
      have := List.all_eq_true.mp h (some k) hr
      simp only [Bool.or_eq_true, Nat.blt_eq, Nat.ble_eq] at this
      simp only [Option.map_some, e k this]
theorem cont_x {p : Program} {l : Launch} {e : Env} {R : Room} {s : State} {m : MethodId} {args : Array Value} {below : List Frame} {meth : Method} {c : Code} {H : Heap} {locs : List Loc} {cells slots : Nat} {A : Nat → Prop} {ρ ρ0 : Nat → Nat} {n0 mc ms : Nat} {lsr : Array Slot} {q cb' sb' : Nat} {sl : List Nat} {hl : LH} {st0 : List Value} {a : Array Value} (F : Fix Γ μ A p s m args meth c) (D : Dyn Γ μ A d (cb + cb') (sb + sb') h ls R s H locs cells slots ρ ρ0 n0 mc ms lsr) (hp : pc + 3 = q) (S : Sub sl h hl) (hcl : clB h ls st = true)
    (hr : va_Run p l e R s m args below meth c H locs cells slots cb' sb' (F0 m pc lsr st0) (st.map (eV ρ)) (Qx Γ (va_A (eH (fun k => ρ (sg sl k)) Γ.2.1 hl) H.size) hl.length cb' (fun k => ρ (sg sl k)) (Kx2 Γ μ d cb sb q h sl ls st Q) a) (va_A (eH (fun k => ρ (sg sl k)) Γ.2.1 hl) H.size)) : W p l e R s m args below meth c H locs cells slots (MQ below (Qx Γ A n0 mc ρ0 Q) args s mc ms A) (F0 m pc lsr st0) := by
  subst hp
  obtain ⟨c1, c2, c3, c4⟩ := clB_spec hcl
  have hf := free_of (S.D D.2.1) D.2.2.1 F.2.2.2.2.2.2.2.2.2.2
  refine va_cont hr D.2.2.1 (fun q _ z => hf q z) hf (fun v h' ρ' H1 locs1 hq q1 q2 q3 q4 hP1 hD1 hz1 hk1 hS1 => ?_)
  obtain ⟨rfl, k0, k1, k2, hk⟩ := hq
  have k0 : sl.length < h'.length := Nat.le_of_ble_eq_true k0
  have k2 : h.length + h'.length < XB := Nat.le_of_ble_eq_true k2
  have hsl : sl.length = hl.length := S.2.1
  have hltS : ∀ k, k < sl.length → sg sl k < h.length := by
    intro k hk
    obtain ⟨x, hx⟩ : ∃ x, hl[k]? = some x := ⟨hl[k]'(by omega), List.getElem?_eq_getElem _⟩
    exact (List.getElem?_eq_some_iff.mp (S.2.2 k x hx)).1
  -- the new places of the caller
  let ρ2 : Nat → Nat := fun j => if j < h.length ∨ XB ≤ j then ρ j else ρ' (hl.length + (j - h.length))
  have e1 : ∀ j, j < h.length ∨ XB ≤ j → ρ2 j = ρ j := fun j hj => if_pos hj
  have e2 : ∀ k, k < h'.length ∨ XB ≤ k → ρ2 (sgx sl h.length k) = ρ' k := by
    intro k hk
    by_cases h1 : k < sl.length
    · rw [sg_sgx h1, e1 _ (Or.inl (hltS k h1)), q1 k (Or.inl (by omega))]
    · by_cases h2 : XB ≤ k
      · have : sgx sl h.length k = k := by simp [sgx, h1, h2]
        have h3 : sg sl k = k := by simp [sg, h1]
        rw [this, e1 k (Or.inr h2), q1 k (Or.inr h2), h3]
      · have h4 : sgx sl h.length k = h.length + (k - sl.length) := by simp [sgx, h1, h2]
        rw [h4]
        show (if _ then _ else _) = _
        rw [if_neg (by omega)]
        congr 1; omega
  have hcell : ∀ (x : LC), okC h'.length x = true → eC ρ2 Γ.2.1 (rC (sgx sl h.length) x) = eC ρ' Γ.2.1 x := by
    intro x hx
    rw [eC_ren]
    exact eC_ok hx e2
  have hall : ∀ (k : Nat) (x : LC), h'[k]? = some x → okC h'.length x = true := fun k x hx => List.all_eq_true.mp k1 x (List.mem_of_getElem? hx)
  have htk : (h'.take sl.length).length = sl.length := by rw [List.length_take]; omega
  have hinj : ∀ i j, i < (h'.take sl.length).length → j < (h'.take sl.length).length → sgx sl h.length (0 + i) = sgx sl h.length (0 + j) → i = j := by
    intro i j hi hj ee
    rw [Nat.zero_add, Nat.zero_add, sg_sgx (by omega), sg_sgx (by omega)] at ee
    exact sg_inj S.1 (by omega) (by omega) ee
  have hlt2 : ∀ i, i < (h'.take sl.length).length → sgx sl h.length (0 + i) < h.length := by
    intro i hi
    rw [Nat.zero_add, sg_sgx (by omega)]
    exact hltS i (by omega)
  have hon := putH_on (sgx sl h.length) (h'.take sl.length) h 0 hinj hlt2
  have hplen : (putH (sgx sl h.length) h 0 (h'.take sl.length)).length = h.length := putH_len _ _ _ _
  -- each cell of the new heap
  have hcase : ∀ (j : Nat) (x : LC), (putX sl h h')[j]? = some x → (∃ k y, h'[k]? = some y ∧ sgx sl h.length k = j ∧ x = rC (sgx sl h.length) y) ∨ (j < h.length ∧ h[j]? = some x ∧ ∀ k, k < sl.length → sg sl k ≠ j) := by
    intro j x hx
    unfold putX at hx
    by_cases hj : j < h.length
    · rw [List.getElem?_append_left (by omega)] at hx
      by_cases hex : ∃ i, i < sl.length ∧ sg sl i = j
      · obtain ⟨i, hi, rfl⟩ := hex
        have := hon i (by omega)
        rw [Nat.zero_add, sg_sgx hi] at this
        rw [this, List.getElem?_take, if_pos hi] at hx
        cases hy : h'[i]? with
        | none => simp [hy] at hx
        | some y =>
          rw [hy] at hx
          simp only [Option.map_some, Option.some.injEq] at hx
          exact Or.inl ⟨i, y, hy, sg_sgx hi, hx.symm⟩
      · have hoff := putH_off (sgx sl h.length) (h'.take sl.length) h 0 j (fun i hi ee => hex ⟨i, by omega, by rw [← sg_sgx (n := h.length) (by omega : i < sl.length)]; rw [Nat.zero_add] at ee; exact ee⟩)
        rw [hoff] at hx
        exact Or.inr ⟨hj, hx, fun k hk ee => hex ⟨k, hk, ee⟩⟩
    · rw [List.getElem?_append_right (by omega), List.getElem?_map, List.getElem?_drop, hplen] at hx
      cases hy : h'[sl.length + (j - h.length)]? with
      | none => simp [hy] at hx
      | some y =>
        rw [hy] at hx
        simp only [Option.map_some, Option.some.injEq] at hx
        have hlt := (List.getElem?_eq_some_iff.mp hy).1
        refine Or.inl ⟨_, y, hy, ?_, hx.symm⟩
        have h1 : ¬ sl.length + (j - h.length) < sl.length := by omega
        have h2 : ¬ XB ≤ sl.length + (j - h.length) := by omega
        simp only [sgx, h1, h2, if_false]; omega
  have hlenX : (putX sl h h').length = h.length + (h'.length - hl.length) := by
    unfold putX
    rw [List.length_append, hplen, List.length_map, List.length_drop]; omega
  have jP : va_P Γ.1 clX (eH ρ2 Γ.2.1 (putX sl h h')) H1 := by
    intro j w hw
    rw [eH_get] at hw
    cases hj : (putX sl h h')[j]? with
    | none => simp [hj] at hw
    | some x =>
      rw [hj] at hw
      simp only [Option.map_some, Option.some.injEq] at hw
      subst hw
      rcases hcase j x hj with ⟨k, y, hy, rfl, rfl⟩ | ⟨hjl, hx, hno⟩
      · have hlt := (List.getElem?_eq_some_iff.mp hy).1
        rw [hcell y (hall k y hy), e2 k (Or.inl hlt)]
        exact hP1 k _ (eH_at hy)
      · have hat := D.1 j _ (eH_at hx)
        rw [e1 j (Or.inl hjl), eC_ok (List.all_eq_true.mp c1 x (List.mem_of_getElem? hx)) e1]
        refine hat.kept (hk1 _ hat.lt ?_)
        rintro (⟨k, ee, z⟩ | z)
        · obtain ⟨i1, i2, ee1, i3⟩ := S.at z
          exact hno k i1 (D.2.1.1 _ _ _ _ (eH_at hx) i3 (by show ρ j = ρ _; exact i2)).symm
        · exact absurd hat.lt (by show ¬ ρ j < H.size; omega)
  have jD : va_D A (eH ρ2 Γ.2.1 (putX sl h h')) := by
    have hidx : ∀ (j : Nat) (w : Nat × va_E), (eH ρ2 Γ.2.1 (putX sl h h'))[j]? = some w → w.1 = ρ2 j ∧ ((∃ k y, h'[k]? = some y ∧ sgx sl h.length k = j ∧ w.1 = ρ' k) ∨ (∃ x, j < h.length ∧ h[j]? = some x ∧ (∀ k, k < sl.length → sg sl k ≠ j) ∧ w.1 = ρ j)) := by
      intro j w hw
      rw [eH_get] at hw
      cases hj : (putX sl h h')[j]? with
      | none => simp [hj] at hw
      | some x =>
        rw [hj] at hw
        simp only [Option.map_some, Option.some.injEq] at hw
        subst hw
        refine ⟨rfl, ?_⟩
        rcases hcase j x hj with ⟨k, y, hy, rfl, rfl⟩ | ⟨hjl, hx, hno⟩
        · exact Or.inl ⟨k, y, hy, rfl, e2 k (Or.inl (List.getElem?_eq_some_iff.mp hy).1)⟩
        · exact Or.inr ⟨x, hjl, hx, hno, e1 j (Or.inl hjl)⟩
    have hcross : ∀ (k : Nat) (y : LC) (j : Nat) (x : LC), h'[k]? = some y → h[j]? = some x → (∀ k, k < sl.length → sg sl k ≠ j) → ρ' k ≠ ρ j := by
      intro k y j x hy hx hno ee
      rcases hD1.2 k _ (eH_at hy) with ⟨i, z, hz⟩ | hz
      · obtain ⟨i1, i2, ee1, i3⟩ := S.at hz
        have h9 : ρ' k = ρ (sg sl i) := i2
        exact hno i i1 (D.2.1.1 _ _ _ _ i3 (eH_at hx) (by show ρ _ = ρ j; rw [← h9]; exact ee))
      · have hlt := (D.1 j _ (eH_at hx)).lt
        have h9 : H.size ≤ ρ' k := hz
        rw [ee] at h9
        exact absurd hlt (by show ¬ ρ j < H.size; omega)
    refine ⟨fun i j w z hw hz ee => ?_, fun j w hw => ?_⟩
    · obtain ⟨-, hi⟩ := hidx i w hw
      obtain ⟨-, hj⟩ := hidx j z hz
      rcases hi with ⟨k, y, hy, rfl, r1⟩ | ⟨x, hil, hx, hno, r1⟩ <;> rcases hj with ⟨k', y', hy', rfl, r2⟩ | ⟨x', hjl, hx', hno', r2⟩
      · have := hD1.1 _ _ _ _ (eH_at hy) (eH_at hy') (by show ρ' k = ρ' k'; rw [← r1, ← r2]; exact ee)
        rw [this]
      · exact absurd (by rw [← r1, ← r2]; exact ee) (hcross k y j x' hy hx' hno')
      · exact absurd (by rw [← r1, ← r2]; exact ee.symm) (hcross k' y' i x hy' hx hno)
      · exact D.2.1.1 _ _ _ _ (eH_at hx) (eH_at hx') (by show ρ i = ρ j; rw [← r1, ← r2]; exact ee)
    · obtain ⟨-, hj⟩ := hidx j w hw
      rcases hj with ⟨k, y, hy, rfl, r1⟩ | ⟨x, hjl, hx, hno, r1⟩
      · rw [r1]; exact hf _ (hD1.2 k _ (eH_at hy))
      · rw [r1]; exact D.2.1.2 _ _ (eH_at hx)
  obtain ⟨-, -, -, d4, d5, d6, d7, d8, d9, d10, d11, d12⟩ := D
  have hst2 : st.map (eV ρ2) = st.map (eV ρ) := st_ok c3 e1
  have hk' := hk p l e R s m args below meth c H1 locs1 (cells + cb') (slots + sb') A ρ2 ρ0 n0 mc ms lsr F ⟨jP, jD, hS1, by rw [loL_ok e1 c2]; exact d4, fun k hkk => by rw [e1 k (by omega)]; exact d5 k hkk, by omega, by omega, fun z => absurd z (by omega), fun k => by rw [e1 _ (Or.inr (Nat.le_add_right _ _))]; exact d9 k, by omega, by omega, d12⟩
  rw [hst2] at hk'; exact hk'
theorem wi0 (q : Nat) (μ' : MI) (d' : Nat) (sl : List Nat) (hl : LH) {b b' : Nat} {idx : Nat} (hd : decode μ.2.1 pc = .ok (.invokespecial idx, 3)) (hp : pc + 3 = q) (hm : MLi μ' 0) (hk : LK μ.1.cls idx μ') (hdd : Nat.blt d' d = true) (hs1 : subB sl = true) (hs2 : sl.map (fun a => h[a]?) = hl.map (fun c => some (rC (sg sl) c))) (eb : sg sl b' = b) (hst : Nat.ble (st.map Value.category).sum 8 = true) (k : Call Γ μ' d' 0 0 (.ref b' :: []) hl (Ksub Γ μ d cb sb q h sl ls st Q)) : WP Γ μ d cb sb h pc ls (.ref b :: st) Q := by
  have S := Sub.of hs1 hs2
  subst eb
  have hd3 : d' < d := Nat.le_of_ble_eq_true hdd
  have hst8 : (st.map Value.category).sum ≤ 8 := Nat.le_of_ble_eq_true hst
  intro p l e R s m args below meth c H locs cells slots A ρ ρ0 n0 mc ms lsr F D
  have hfr := D.2.2.2.2.2.2.2.2.2.2.2.2.2.1
  have hlo := D.2.2.2.2.2.2.2.2.2.2.2.2.2.2
  have hM := (k l (fun k => ρ (sg sl k)) H.size (rmx R 0 0) (by show _ ≤ R.frames - 1; omega) (by show _ ≤ R.locals - 64; omega) rfl rfl)
  have hpre := pre_of (al := (.ref b' :: [])) F D (S.P D.1) (S.D D.2.1) (fun k => by rw [sg_xb hs1]; exact D.2.2.2.2.2.2.2.2.1 k)
  have hret := hm.2.2.2
  have hcn := callB_x (cb' := 0) (sb' := 0) F.2.2.2.2.2.2.2.1 hm.1 hk hd3 hfr hlo
  rw [hret] at hcn hM
  exact cont_sub F D hp S (va_runI (As := ([].map (eV fun k => ρ (sg sl k)))) (rest := st.map (eV ρ)) (b := ρ (sg sl b')) ⟨F.1, F.2.1, F.2.2.1, F.2.2.2.2.2.2.1, F.2.2.2.2.2.2.2.1.all⟩ hM ⟨hcn, hm.2.2.1, F.2.2.2.2.2.2.2.1.all _ hm.2.1⟩ ⟨Pcx.blind, hpre⟩ rfl (by simp) D.2.2.2.1.1 (by simp only [List.map_cons, List.map_nil, List.reverse_cons, List.reverse_nil, List.nil_append, List.cons_append, List.append_assoc, eV_ref, eV_ren]) (by rw [sumCat]; show 2 * 0 + _ ≤ 8; omega) hd ⟨by have := D.2.2.2.2.2.2.2.2.2; omega, by have := D.2.2.2.2.2.2.2.2.2; omega⟩)
theorem wiN0 (q : Nat) (μ' : MI) (d' : Nat) (sl : List Nat) (hl : LH) {b b' : Nat} {idx : Nat} (hd : decode μ.2.1 pc = .ok (.invokespecial idx, 3)) (hp : pc + 3 = q) (hm : MLi μ' 0) (hk : LN μ.1.cls idx μ') (hdd : Nat.blt d' d = true) (hs1 : subB sl = true) (hs2 : sl.map (fun a => h[a]?) = hl.map (fun c => some (rC (sg sl) c))) (eb : sg sl b' = b) (hst : Nat.ble (st.map Value.category).sum 8 = true) (k : Call Γ μ' d' 0 0 (.ref b' :: []) hl (Ksub Γ μ d cb sb q h sl ls st Q)) : WP Γ μ d cb sb h pc ls (.ref b :: st) Q := by
  have S := Sub.of hs1 hs2
  subst eb
  have hd3 : d' < d := Nat.le_of_ble_eq_true hdd
  have hst8 : (st.map Value.category).sum ≤ 8 := Nat.le_of_ble_eq_true hst
  intro p l e R s m args below meth c H locs cells slots A ρ ρ0 n0 mc ms lsr F D
  have hfr := D.2.2.2.2.2.2.2.2.2.2.2.2.2.1
  have hlo := D.2.2.2.2.2.2.2.2.2.2.2.2.2.2
  have hM := (k l (fun k => ρ (sg sl k)) H.size (rmx R 0 0) (by show _ ≤ R.frames - 1; omega) (by show _ ≤ R.locals - 64; omega) rfl rfl)
  have hpre := pre_of (al := (.ref b' :: [])) F D (S.P D.1) (S.D D.2.1) (fun k => by rw [sg_xb hs1]; exact D.2.2.2.2.2.2.2.2.1 k)
  have hret := hm.2.2.2
  obtain ⟨host, hcn⟩ := callN_x (cb' := 0) (sb' := 0) F.2.2.2.2.2.2.2.1 hm.1 hk hd3 hfr hlo
  rw [hret] at hcn hM
  exact cont_sub F D hp S (va_runIN (As := ([].map (eV fun k => ρ (sg sl k)))) (rest := st.map (eV ρ)) (b := ρ (sg sl b')) ⟨F.1, F.2.1, F.2.2.1, F.2.2.2.2.2.2.1, F.2.2.2.2.2.2.2.1.all⟩ hM ⟨hcn, hm.2.2.1, F.2.2.2.2.2.2.2.1.all _ hm.2.1⟩ ⟨Pcx.blind, hpre⟩ rfl (by simp) D.2.2.2.1.1 (by simp only [List.map_cons, List.map_nil, List.reverse_cons, List.reverse_nil, List.nil_append, List.cons_append, List.append_assoc, eV_ref, eV_ren]) (by rw [sumCat]; show 2 * 0 + _ ≤ 8; omega) hd ⟨by have := D.2.2.2.2.2.2.2.2.2; omega, by have := D.2.2.2.2.2.2.2.2.2; omega⟩)
theorem wx0 (q : Nat) (μ' : MI) (d' : Nat) (cb' sb' : Nat) (sl : List Nat) (hl : LH) {b b' : Nat} {idx : Nat} (hd : decode μ.2.1 pc = .ok (.invokespecial idx, 3)) (hp : pc + 3 = q) (hm : MLi μ' 0) (hk : LK μ.1.cls idx μ') (hdd : Nat.blt d' d = true) (hs1 : subB sl = true) (hs2 : sl.map (fun a => h[a]?) = hl.map (fun c => some (rC (sg sl) c))) (eb : sg sl b' = b) (hcl : clB h ls st = true) (hst : Nat.ble (st.map Value.category).sum 8 = true) (k : Call Γ μ' d' cb' sb' (.ref b' :: []) hl (Kx2 Γ μ d cb sb q h sl ls st Q)) : WP Γ μ d (cb + cb') (sb + sb') h pc ls (.ref b :: st) Q := by
  have S := Sub.of hs1 hs2
  subst eb
  have hd3 : d' < d := Nat.le_of_ble_eq_true hdd
  have hst8 : (st.map Value.category).sum ≤ 8 := Nat.le_of_ble_eq_true hst
  intro p l e R s m args below meth c H locs cells slots A ρ ρ0 n0 mc ms lsr F D
  have hfr := D.2.2.2.2.2.2.2.2.2.2.2.2.2.1
  have hlo := D.2.2.2.2.2.2.2.2.2.2.2.2.2.2
  have hM := (k l (fun k => ρ (sg sl k)) H.size (rmx R cb' sb') (by show _ ≤ R.frames - 1; omega) (by show _ ≤ R.locals - 64; omega) rfl rfl)
  have hpre := pre_of (al := (.ref b' :: [])) F D (S.P D.1) (S.D D.2.1) (fun k => by rw [sg_xb hs1]; exact D.2.2.2.2.2.2.2.2.1 k)
  have hret := hm.2.2.2
  have hcn := callB_x (cb' := cb') (sb' := sb') F.2.2.2.2.2.2.2.1 hm.1 hk hd3 hfr hlo
  rw [hret] at hcn hM
  exact cont_x F D hp S hcl (va_runI (As := ([].map (eV fun k => ρ (sg sl k)))) (rest := st.map (eV ρ)) (b := ρ (sg sl b')) ⟨F.1, F.2.1, F.2.2.1, F.2.2.2.2.2.2.1, F.2.2.2.2.2.2.2.1.all⟩ hM ⟨hcn, hm.2.2.1, F.2.2.2.2.2.2.2.1.all _ hm.2.1⟩ ⟨Pcx.blind, hpre⟩ rfl (by simp) D.2.2.2.1.1 (by simp only [List.map_cons, List.map_nil, List.reverse_cons, List.reverse_nil, List.nil_append, List.cons_append, List.append_assoc, eV_ref, eV_ren]) (by rw [sumCat]; show 2 * 0 + _ ≤ 8; omega) hd ⟨by have := D.2.2.2.2.2.2.2.2.2; omega, by have := D.2.2.2.2.2.2.2.2.2; omega⟩)
theorem wxN0 (q : Nat) (μ' : MI) (d' : Nat) (cb' sb' : Nat) (sl : List Nat) (hl : LH) {b b' : Nat} {idx : Nat} (hd : decode μ.2.1 pc = .ok (.invokespecial idx, 3)) (hp : pc + 3 = q) (hm : MLi μ' 0) (hk : LN μ.1.cls idx μ') (hdd : Nat.blt d' d = true) (hs1 : subB sl = true) (hs2 : sl.map (fun a => h[a]?) = hl.map (fun c => some (rC (sg sl) c))) (eb : sg sl b' = b) (hcl : clB h ls st = true) (hst : Nat.ble (st.map Value.category).sum 8 = true) (k : Call Γ μ' d' cb' sb' (.ref b' :: []) hl (Kx2 Γ μ d cb sb q h sl ls st Q)) : WP Γ μ d (cb + cb') (sb + sb') h pc ls (.ref b :: st) Q := by
  have S := Sub.of hs1 hs2
  subst eb
  have hd3 : d' < d := Nat.le_of_ble_eq_true hdd
  have hst8 : (st.map Value.category).sum ≤ 8 := Nat.le_of_ble_eq_true hst
  intro p l e R s m args below meth c H locs cells slots A ρ ρ0 n0 mc ms lsr F D
  have hfr := D.2.2.2.2.2.2.2.2.2.2.2.2.2.1
  have hlo := D.2.2.2.2.2.2.2.2.2.2.2.2.2.2
  have hM := (k l (fun k => ρ (sg sl k)) H.size (rmx R cb' sb') (by show _ ≤ R.frames - 1; omega) (by show _ ≤ R.locals - 64; omega) rfl rfl)
  have hpre := pre_of (al := (.ref b' :: [])) F D (S.P D.1) (S.D D.2.1) (fun k => by rw [sg_xb hs1]; exact D.2.2.2.2.2.2.2.2.1 k)
  have hret := hm.2.2.2
  obtain ⟨host, hcn⟩ := callN_x (cb' := cb') (sb' := sb') F.2.2.2.2.2.2.2.1 hm.1 hk hd3 hfr hlo
  rw [hret] at hcn hM
  exact cont_x F D hp S hcl (va_runIN (As := ([].map (eV fun k => ρ (sg sl k)))) (rest := st.map (eV ρ)) (b := ρ (sg sl b')) ⟨F.1, F.2.1, F.2.2.1, F.2.2.2.2.2.2.1, F.2.2.2.2.2.2.2.1.all⟩ hM ⟨hcn, hm.2.2.1, F.2.2.2.2.2.2.2.1.all _ hm.2.1⟩ ⟨Pcx.blind, hpre⟩ rfl (by simp) D.2.2.2.1.1 (by simp only [List.map_cons, List.map_nil, List.reverse_cons, List.reverse_nil, List.nil_append, List.cons_append, List.append_assoc, eV_ref, eV_ren]) (by rw [sumCat]; show 2 * 0 + _ ≤ 8; omega) hd ⟨by have := D.2.2.2.2.2.2.2.2.2; omega, by have := D.2.2.2.2.2.2.2.2.2; omega⟩)
theorem wi1 (q : Nat) (μ' : MI) (d' : Nat) (sl : List Nat) (hl : LH) {b b' : Nat} {v1 v1' : Value} {idx : Nat} (hd : decode μ.2.1 pc = .ok (.invokespecial idx, 3)) (hp : pc + 3 = q) (hm : MLi μ' 1) (hk : LK μ.1.cls idx μ') (hdd : Nat.blt d' d = true) (hs1 : subB sl = true) (hs2 : sl.map (fun a => h[a]?) = hl.map (fun c => some (rC (sg sl) c))) (eb : sg sl b' = b) (ev1 : eV (sg sl) v1' = v1) (hst : Nat.ble (st.map Value.category).sum 8 = true) (k : Call Γ μ' d' 0 0 (.ref b' :: [v1']) hl (Ksub Γ μ d cb sb q h sl ls st Q)) : WP Γ μ d cb sb h pc ls (v1 :: .ref b :: st) Q := by
  have S := Sub.of hs1 hs2
  subst ev1
  subst eb
  have hd3 : d' < d := Nat.le_of_ble_eq_true hdd
  have hst8 : (st.map Value.category).sum ≤ 8 := Nat.le_of_ble_eq_true hst
  intro p l e R s m args below meth c H locs cells slots A ρ ρ0 n0 mc ms lsr F D
  have hfr := D.2.2.2.2.2.2.2.2.2.2.2.2.2.1
  have hlo := D.2.2.2.2.2.2.2.2.2.2.2.2.2.2
  have hM := (k l (fun k => ρ (sg sl k)) H.size (rmx R 0 0) (by show _ ≤ R.frames - 1; omega) (by show _ ≤ R.locals - 64; omega) rfl rfl)
  have hpre := pre_of (al := (.ref b' :: [v1'])) F D (S.P D.1) (S.D D.2.1) (fun k => by rw [sg_xb hs1]; exact D.2.2.2.2.2.2.2.2.1 k)
  have hret := hm.2.2.2
  have hcn := callB_x (cb' := 0) (sb' := 0) F.2.2.2.2.2.2.2.1 hm.1 hk hd3 hfr hlo
  rw [hret] at hcn hM
  exact cont_sub F D hp S (va_runI (As := ([v1'].map (eV fun k => ρ (sg sl k)))) (rest := st.map (eV ρ)) (b := ρ (sg sl b')) ⟨F.1, F.2.1, F.2.2.1, F.2.2.2.2.2.2.1, F.2.2.2.2.2.2.2.1.all⟩ hM ⟨hcn, hm.2.2.1, F.2.2.2.2.2.2.2.1.all _ hm.2.1⟩ ⟨Pcx.blind, hpre⟩ rfl (by simp) D.2.2.2.1.1 (by simp only [List.map_cons, List.map_nil, List.reverse_cons, List.reverse_nil, List.nil_append, List.cons_append, List.append_assoc, eV_ref, eV_ren]) (by rw [sumCat]; show 2 * 0 + _ ≤ 8; omega) hd ⟨by have := D.2.2.2.2.2.2.2.2.2; omega, by have := D.2.2.2.2.2.2.2.2.2; omega⟩)
theorem wiN1 (q : Nat) (μ' : MI) (d' : Nat) (sl : List Nat) (hl : LH) {b b' : Nat} {v1 v1' : Value} {idx : Nat} (hd : decode μ.2.1 pc = .ok (.invokespecial idx, 3)) (hp : pc + 3 = q) (hm : MLi μ' 1) (hk : LN μ.1.cls idx μ') (hdd : Nat.blt d' d = true) (hs1 : subB sl = true) (hs2 : sl.map (fun a => h[a]?) = hl.map (fun c => some (rC (sg sl) c))) (eb : sg sl b' = b) (ev1 : eV (sg sl) v1' = v1) (hst : Nat.ble (st.map Value.category).sum 8 = true) (k : Call Γ μ' d' 0 0 (.ref b' :: [v1']) hl (Ksub Γ μ d cb sb q h sl ls st Q)) : WP Γ μ d cb sb h pc ls (v1 :: .ref b :: st) Q := by
  have S := Sub.of hs1 hs2
  subst ev1
  subst eb
  have hd3 : d' < d := Nat.le_of_ble_eq_true hdd
  have hst8 : (st.map Value.category).sum ≤ 8 := Nat.le_of_ble_eq_true hst
  intro p l e R s m args below meth c H locs cells slots A ρ ρ0 n0 mc ms lsr F D
  have hfr := D.2.2.2.2.2.2.2.2.2.2.2.2.2.1
  have hlo := D.2.2.2.2.2.2.2.2.2.2.2.2.2.2
  have hM := (k l (fun k => ρ (sg sl k)) H.size (rmx R 0 0) (by show _ ≤ R.frames - 1; omega) (by show _ ≤ R.locals - 64; omega) rfl rfl)
  have hpre := pre_of (al := (.ref b' :: [v1'])) F D (S.P D.1) (S.D D.2.1) (fun k => by rw [sg_xb hs1]; exact D.2.2.2.2.2.2.2.2.1 k)
  have hret := hm.2.2.2
  obtain ⟨host, hcn⟩ := callN_x (cb' := 0) (sb' := 0) F.2.2.2.2.2.2.2.1 hm.1 hk hd3 hfr hlo
  rw [hret] at hcn hM
  exact cont_sub F D hp S (va_runIN (As := ([v1'].map (eV fun k => ρ (sg sl k)))) (rest := st.map (eV ρ)) (b := ρ (sg sl b')) ⟨F.1, F.2.1, F.2.2.1, F.2.2.2.2.2.2.1, F.2.2.2.2.2.2.2.1.all⟩ hM ⟨hcn, hm.2.2.1, F.2.2.2.2.2.2.2.1.all _ hm.2.1⟩ ⟨Pcx.blind, hpre⟩ rfl (by simp) D.2.2.2.1.1 (by simp only [List.map_cons, List.map_nil, List.reverse_cons, List.reverse_nil, List.nil_append, List.cons_append, List.append_assoc, eV_ref, eV_ren]) (by rw [sumCat]; show 2 * 0 + _ ≤ 8; omega) hd ⟨by have := D.2.2.2.2.2.2.2.2.2; omega, by have := D.2.2.2.2.2.2.2.2.2; omega⟩)
theorem wx1 (q : Nat) (μ' : MI) (d' : Nat) (cb' sb' : Nat) (sl : List Nat) (hl : LH) {b b' : Nat} {v1 v1' : Value} {idx : Nat} (hd : decode μ.2.1 pc = .ok (.invokespecial idx, 3)) (hp : pc + 3 = q) (hm : MLi μ' 1) (hk : LK μ.1.cls idx μ') (hdd : Nat.blt d' d = true) (hs1 : subB sl = true) (hs2 : sl.map (fun a => h[a]?) = hl.map (fun c => some (rC (sg sl) c))) (eb : sg sl b' = b) (ev1 : eV (sg sl) v1' = v1) (hcl : clB h ls st = true) (hst : Nat.ble (st.map Value.category).sum 8 = true) (k : Call Γ μ' d' cb' sb' (.ref b' :: [v1']) hl (Kx2 Γ μ d cb sb q h sl ls st Q)) : WP Γ μ d (cb + cb') (sb + sb') h pc ls (v1 :: .ref b :: st) Q := by
  have S := Sub.of hs1 hs2
  subst ev1
  subst eb
  have hd3 : d' < d := Nat.le_of_ble_eq_true hdd
  have hst8 : (st.map Value.category).sum ≤ 8 := Nat.le_of_ble_eq_true hst
  intro p l e R s m args below meth c H locs cells slots A ρ ρ0 n0 mc ms lsr F D
  have hfr := D.2.2.2.2.2.2.2.2.2.2.2.2.2.1
  have hlo := D.2.2.2.2.2.2.2.2.2.2.2.2.2.2
  have hM := (k l (fun k => ρ (sg sl k)) H.size (rmx R cb' sb') (by show _ ≤ R.frames - 1; omega) (by show _ ≤ R.locals - 64; omega) rfl rfl)
  have hpre := pre_of (al := (.ref b' :: [v1'])) F D (S.P D.1) (S.D D.2.1) (fun k => by rw [sg_xb hs1]; exact D.2.2.2.2.2.2.2.2.1 k)
  have hret := hm.2.2.2
  have hcn := callB_x (cb' := cb') (sb' := sb') F.2.2.2.2.2.2.2.1 hm.1 hk hd3 hfr hlo
  rw [hret] at hcn hM
  exact cont_x F D hp S hcl (va_runI (As := ([v1'].map (eV fun k => ρ (sg sl k)))) (rest := st.map (eV ρ)) (b := ρ (sg sl b')) ⟨F.1, F.2.1, F.2.2.1, F.2.2.2.2.2.2.1, F.2.2.2.2.2.2.2.1.all⟩ hM ⟨hcn, hm.2.2.1, F.2.2.2.2.2.2.2.1.all _ hm.2.1⟩ ⟨Pcx.blind, hpre⟩ rfl (by simp) D.2.2.2.1.1 (by simp only [List.map_cons, List.map_nil, List.reverse_cons, List.reverse_nil, List.nil_append, List.cons_append, List.append_assoc, eV_ref, eV_ren]) (by rw [sumCat]; show 2 * 0 + _ ≤ 8; omega) hd ⟨by have := D.2.2.2.2.2.2.2.2.2; omega, by have := D.2.2.2.2.2.2.2.2.2; omega⟩)
theorem wxN1 (q : Nat) (μ' : MI) (d' : Nat) (cb' sb' : Nat) (sl : List Nat) (hl : LH) {b b' : Nat} {v1 v1' : Value} {idx : Nat} (hd : decode μ.2.1 pc = .ok (.invokespecial idx, 3)) (hp : pc + 3 = q) (hm : MLi μ' 1) (hk : LN μ.1.cls idx μ') (hdd : Nat.blt d' d = true) (hs1 : subB sl = true) (hs2 : sl.map (fun a => h[a]?) = hl.map (fun c => some (rC (sg sl) c))) (eb : sg sl b' = b) (ev1 : eV (sg sl) v1' = v1) (hcl : clB h ls st = true) (hst : Nat.ble (st.map Value.category).sum 8 = true) (k : Call Γ μ' d' cb' sb' (.ref b' :: [v1']) hl (Kx2 Γ μ d cb sb q h sl ls st Q)) : WP Γ μ d (cb + cb') (sb + sb') h pc ls (v1 :: .ref b :: st) Q := by
  have S := Sub.of hs1 hs2
  subst ev1
  subst eb
  have hd3 : d' < d := Nat.le_of_ble_eq_true hdd
  have hst8 : (st.map Value.category).sum ≤ 8 := Nat.le_of_ble_eq_true hst
  intro p l e R s m args below meth c H locs cells slots A ρ ρ0 n0 mc ms lsr F D
  have hfr := D.2.2.2.2.2.2.2.2.2.2.2.2.2.1
  have hlo := D.2.2.2.2.2.2.2.2.2.2.2.2.2.2
  have hM := (k l (fun k => ρ (sg sl k)) H.size (rmx R cb' sb') (by show _ ≤ R.frames - 1; omega) (by show _ ≤ R.locals - 64; omega) rfl rfl)
  have hpre := pre_of (al := (.ref b' :: [v1'])) F D (S.P D.1) (S.D D.2.1) (fun k => by rw [sg_xb hs1]; exact D.2.2.2.2.2.2.2.2.1 k)
  have hret := hm.2.2.2
  obtain ⟨host, hcn⟩ := callN_x (cb' := cb') (sb' := sb') F.2.2.2.2.2.2.2.1 hm.1 hk hd3 hfr hlo
  rw [hret] at hcn hM
  exact cont_x F D hp S hcl (va_runIN (As := ([v1'].map (eV fun k => ρ (sg sl k)))) (rest := st.map (eV ρ)) (b := ρ (sg sl b')) ⟨F.1, F.2.1, F.2.2.1, F.2.2.2.2.2.2.1, F.2.2.2.2.2.2.2.1.all⟩ hM ⟨hcn, hm.2.2.1, F.2.2.2.2.2.2.2.1.all _ hm.2.1⟩ ⟨Pcx.blind, hpre⟩ rfl (by simp) D.2.2.2.1.1 (by simp only [List.map_cons, List.map_nil, List.reverse_cons, List.reverse_nil, List.nil_append, List.cons_append, List.append_assoc, eV_ref, eV_ren]) (by rw [sumCat]; show 2 * 0 + _ ≤ 8; omega) hd ⟨by have := D.2.2.2.2.2.2.2.2.2; omega, by have := D.2.2.2.2.2.2.2.2.2; omega⟩)
theorem wi2 (q : Nat) (μ' : MI) (d' : Nat) (sl : List Nat) (hl : LH) {b b' : Nat} {v1 v2 v1' v2' : Value} {idx : Nat} (hd : decode μ.2.1 pc = .ok (.invokespecial idx, 3)) (hp : pc + 3 = q) (hm : MLi μ' 2) (hk : LK μ.1.cls idx μ') (hdd : Nat.blt d' d = true) (hs1 : subB sl = true) (hs2 : sl.map (fun a => h[a]?) = hl.map (fun c => some (rC (sg sl) c))) (eb : sg sl b' = b) (ev1 : eV (sg sl) v1' = v1) (ev2 : eV (sg sl) v2' = v2) (hst : Nat.ble (st.map Value.category).sum 8 = true) (k : Call Γ μ' d' 0 0 (.ref b' :: [v1', v2']) hl (Ksub Γ μ d cb sb q h sl ls st Q)) : WP Γ μ d cb sb h pc ls (v2 :: v1 :: .ref b :: st) Q := by
  have S := Sub.of hs1 hs2
  subst ev1
  subst ev2
  subst eb
  have hd3 : d' < d := Nat.le_of_ble_eq_true hdd
  have hst8 : (st.map Value.category).sum ≤ 8 := Nat.le_of_ble_eq_true hst
  intro p l e R s m args below meth c H locs cells slots A ρ ρ0 n0 mc ms lsr F D
  have hfr := D.2.2.2.2.2.2.2.2.2.2.2.2.2.1
  have hlo := D.2.2.2.2.2.2.2.2.2.2.2.2.2.2
  have hM := (k l (fun k => ρ (sg sl k)) H.size (rmx R 0 0) (by show _ ≤ R.frames - 1; omega) (by show _ ≤ R.locals - 64; omega) rfl rfl)
  have hpre := pre_of (al := (.ref b' :: [v1', v2'])) F D (S.P D.1) (S.D D.2.1) (fun k => by rw [sg_xb hs1]; exact D.2.2.2.2.2.2.2.2.1 k)
  have hret := hm.2.2.2
  have hcn := callB_x (cb' := 0) (sb' := 0) F.2.2.2.2.2.2.2.1 hm.1 hk hd3 hfr hlo
  rw [hret] at hcn hM
  exact cont_sub F D hp S (va_runI (As := ([v1', v2'].map (eV fun k => ρ (sg sl k)))) (rest := st.map (eV ρ)) (b := ρ (sg sl b')) ⟨F.1, F.2.1, F.2.2.1, F.2.2.2.2.2.2.1, F.2.2.2.2.2.2.2.1.all⟩ hM ⟨hcn, hm.2.2.1, F.2.2.2.2.2.2.2.1.all _ hm.2.1⟩ ⟨Pcx.blind, hpre⟩ rfl (by simp) D.2.2.2.1.1 (by simp only [List.map_cons, List.map_nil, List.reverse_cons, List.reverse_nil, List.nil_append, List.cons_append, List.append_assoc, eV_ref, eV_ren]) (by rw [sumCat]; show 2 * 0 + _ ≤ 8; omega) hd ⟨by have := D.2.2.2.2.2.2.2.2.2; omega, by have := D.2.2.2.2.2.2.2.2.2; omega⟩)
theorem wiN2 (q : Nat) (μ' : MI) (d' : Nat) (sl : List Nat) (hl : LH) {b b' : Nat} {v1 v2 v1' v2' : Value} {idx : Nat} (hd : decode μ.2.1 pc = .ok (.invokespecial idx, 3)) (hp : pc + 3 = q) (hm : MLi μ' 2) (hk : LN μ.1.cls idx μ') (hdd : Nat.blt d' d = true) (hs1 : subB sl = true) (hs2 : sl.map (fun a => h[a]?) = hl.map (fun c => some (rC (sg sl) c))) (eb : sg sl b' = b) (ev1 : eV (sg sl) v1' = v1) (ev2 : eV (sg sl) v2' = v2) (hst : Nat.ble (st.map Value.category).sum 8 = true) (k : Call Γ μ' d' 0 0 (.ref b' :: [v1', v2']) hl (Ksub Γ μ d cb sb q h sl ls st Q)) : WP Γ μ d cb sb h pc ls (v2 :: v1 :: .ref b :: st) Q := by
  have S := Sub.of hs1 hs2
  subst ev1
  subst ev2
  subst eb
  have hd3 : d' < d := Nat.le_of_ble_eq_true hdd
  have hst8 : (st.map Value.category).sum ≤ 8 := Nat.le_of_ble_eq_true hst
  intro p l e R s m args below meth c H locs cells slots A ρ ρ0 n0 mc ms lsr F D
  have hfr := D.2.2.2.2.2.2.2.2.2.2.2.2.2.1
  have hlo := D.2.2.2.2.2.2.2.2.2.2.2.2.2.2
  have hM := (k l (fun k => ρ (sg sl k)) H.size (rmx R 0 0) (by show _ ≤ R.frames - 1; omega) (by show _ ≤ R.locals - 64; omega) rfl rfl)
  have hpre := pre_of (al := (.ref b' :: [v1', v2'])) F D (S.P D.1) (S.D D.2.1) (fun k => by rw [sg_xb hs1]; exact D.2.2.2.2.2.2.2.2.1 k)
  have hret := hm.2.2.2
  obtain ⟨host, hcn⟩ := callN_x (cb' := 0) (sb' := 0) F.2.2.2.2.2.2.2.1 hm.1 hk hd3 hfr hlo
  rw [hret] at hcn hM
  exact cont_sub F D hp S (va_runIN (As := ([v1', v2'].map (eV fun k => ρ (sg sl k)))) (rest := st.map (eV ρ)) (b := ρ (sg sl b')) ⟨F.1, F.2.1, F.2.2.1, F.2.2.2.2.2.2.1, F.2.2.2.2.2.2.2.1.all⟩ hM ⟨hcn, hm.2.2.1, F.2.2.2.2.2.2.2.1.all _ hm.2.1⟩ ⟨Pcx.blind, hpre⟩ rfl (by simp) D.2.2.2.1.1 (by simp only [List.map_cons, List.map_nil, List.reverse_cons, List.reverse_nil, List.nil_append, List.cons_append, List.append_assoc, eV_ref, eV_ren]) (by rw [sumCat]; show 2 * 0 + _ ≤ 8; omega) hd ⟨by have := D.2.2.2.2.2.2.2.2.2; omega, by have := D.2.2.2.2.2.2.2.2.2; omega⟩)
theorem wx2 (q : Nat) (μ' : MI) (d' : Nat) (cb' sb' : Nat) (sl : List Nat) (hl : LH) {b b' : Nat} {v1 v2 v1' v2' : Value} {idx : Nat} (hd : decode μ.2.1 pc = .ok (.invokespecial idx, 3)) (hp : pc + 3 = q) (hm : MLi μ' 2) (hk : LK μ.1.cls idx μ') (hdd : Nat.blt d' d = true) (hs1 : subB sl = true) (hs2 : sl.map (fun a => h[a]?) = hl.map (fun c => some (rC (sg sl) c))) (eb : sg sl b' = b) (ev1 : eV (sg sl) v1' = v1) (ev2 : eV (sg sl) v2' = v2) (hcl : clB h ls st = true) (hst : Nat.ble (st.map Value.category).sum 8 = true) (k : Call Γ μ' d' cb' sb' (.ref b' :: [v1', v2']) hl (Kx2 Γ μ d cb sb q h sl ls st Q)) : WP Γ μ d (cb + cb') (sb + sb') h pc ls (v2 :: v1 :: .ref b :: st) Q := by
  have S := Sub.of hs1 hs2
  subst ev1
  subst ev2
  subst eb
  have hd3 : d' < d := Nat.le_of_ble_eq_true hdd
  have hst8 : (st.map Value.category).sum ≤ 8 := Nat.le_of_ble_eq_true hst
  intro p l e R s m args below meth c H locs cells slots A ρ ρ0 n0 mc ms lsr F D
  have hfr := D.2.2.2.2.2.2.2.2.2.2.2.2.2.1
  have hlo := D.2.2.2.2.2.2.2.2.2.2.2.2.2.2
  have hM := (k l (fun k => ρ (sg sl k)) H.size (rmx R cb' sb') (by show _ ≤ R.frames - 1; omega) (by show _ ≤ R.locals - 64; omega) rfl rfl)
  have hpre := pre_of (al := (.ref b' :: [v1', v2'])) F D (S.P D.1) (S.D D.2.1) (fun k => by rw [sg_xb hs1]; exact D.2.2.2.2.2.2.2.2.1 k)
  have hret := hm.2.2.2
  have hcn := callB_x (cb' := cb') (sb' := sb') F.2.2.2.2.2.2.2.1 hm.1 hk hd3 hfr hlo
  rw [hret] at hcn hM
  exact cont_x F D hp S hcl (va_runI (As := ([v1', v2'].map (eV fun k => ρ (sg sl k)))) (rest := st.map (eV ρ)) (b := ρ (sg sl b')) ⟨F.1, F.2.1, F.2.2.1, F.2.2.2.2.2.2.1, F.2.2.2.2.2.2.2.1.all⟩ hM ⟨hcn, hm.2.2.1, F.2.2.2.2.2.2.2.1.all _ hm.2.1⟩ ⟨Pcx.blind, hpre⟩ rfl (by simp) D.2.2.2.1.1 (by simp only [List.map_cons, List.map_nil, List.reverse_cons, List.reverse_nil, List.nil_append, List.cons_append, List.append_assoc, eV_ref, eV_ren]) (by rw [sumCat]; show 2 * 0 + _ ≤ 8; omega) hd ⟨by have := D.2.2.2.2.2.2.2.2.2; omega, by have := D.2.2.2.2.2.2.2.2.2; omega⟩)
theorem wxN2 (q : Nat) (μ' : MI) (d' : Nat) (cb' sb' : Nat) (sl : List Nat) (hl : LH) {b b' : Nat} {v1 v2 v1' v2' : Value} {idx : Nat} (hd : decode μ.2.1 pc = .ok (.invokespecial idx, 3)) (hp : pc + 3 = q) (hm : MLi μ' 2) (hk : LN μ.1.cls idx μ') (hdd : Nat.blt d' d = true) (hs1 : subB sl = true) (hs2 : sl.map (fun a => h[a]?) = hl.map (fun c => some (rC (sg sl) c))) (eb : sg sl b' = b) (ev1 : eV (sg sl) v1' = v1) (ev2 : eV (sg sl) v2' = v2) (hcl : clB h ls st = true) (hst : Nat.ble (st.map Value.category).sum 8 = true) (k : Call Γ μ' d' cb' sb' (.ref b' :: [v1', v2']) hl (Kx2 Γ μ d cb sb q h sl ls st Q)) : WP Γ μ d (cb + cb') (sb + sb') h pc ls (v2 :: v1 :: .ref b :: st) Q := by
  have S := Sub.of hs1 hs2
  subst ev1
  subst ev2
  subst eb
  have hd3 : d' < d := Nat.le_of_ble_eq_true hdd
  have hst8 : (st.map Value.category).sum ≤ 8 := Nat.le_of_ble_eq_true hst
  intro p l e R s m args below meth c H locs cells slots A ρ ρ0 n0 mc ms lsr F D
  have hfr := D.2.2.2.2.2.2.2.2.2.2.2.2.2.1
  have hlo := D.2.2.2.2.2.2.2.2.2.2.2.2.2.2
  have hM := (k l (fun k => ρ (sg sl k)) H.size (rmx R cb' sb') (by show _ ≤ R.frames - 1; omega) (by show _ ≤ R.locals - 64; omega) rfl rfl)
  have hpre := pre_of (al := (.ref b' :: [v1', v2'])) F D (S.P D.1) (S.D D.2.1) (fun k => by rw [sg_xb hs1]; exact D.2.2.2.2.2.2.2.2.1 k)
  have hret := hm.2.2.2
  obtain ⟨host, hcn⟩ := callN_x (cb' := cb') (sb' := sb') F.2.2.2.2.2.2.2.1 hm.1 hk hd3 hfr hlo
  rw [hret] at hcn hM
  exact cont_x F D hp S hcl (va_runIN (As := ([v1', v2'].map (eV fun k => ρ (sg sl k)))) (rest := st.map (eV ρ)) (b := ρ (sg sl b')) ⟨F.1, F.2.1, F.2.2.1, F.2.2.2.2.2.2.1, F.2.2.2.2.2.2.2.1.all⟩ hM ⟨hcn, hm.2.2.1, F.2.2.2.2.2.2.2.1.all _ hm.2.1⟩ ⟨Pcx.blind, hpre⟩ rfl (by simp) D.2.2.2.1.1 (by simp only [List.map_cons, List.map_nil, List.reverse_cons, List.reverse_nil, List.nil_append, List.cons_append, List.append_assoc, eV_ref, eV_ren]) (by rw [sumCat]; show 2 * 0 + _ ≤ 8; omega) hd ⟨by have := D.2.2.2.2.2.2.2.2.2; omega, by have := D.2.2.2.2.2.2.2.2.2; omega⟩)
theorem wi3 (q : Nat) (μ' : MI) (d' : Nat) (sl : List Nat) (hl : LH) {b b' : Nat} {v1 v2 v3 v1' v2' v3' : Value} {idx : Nat} (hd : decode μ.2.1 pc = .ok (.invokespecial idx, 3)) (hp : pc + 3 = q) (hm : MLi μ' 3) (hk : LK μ.1.cls idx μ') (hdd : Nat.blt d' d = true) (hs1 : subB sl = true) (hs2 : sl.map (fun a => h[a]?) = hl.map (fun c => some (rC (sg sl) c))) (eb : sg sl b' = b) (ev1 : eV (sg sl) v1' = v1) (ev2 : eV (sg sl) v2' = v2) (ev3 : eV (sg sl) v3' = v3) (hst : Nat.ble (st.map Value.category).sum 8 = true) (k : Call Γ μ' d' 0 0 (.ref b' :: [v1', v2', v3']) hl (Ksub Γ μ d cb sb q h sl ls st Q)) : WP Γ μ d cb sb h pc ls (v3 :: v2 :: v1 :: .ref b :: st) Q := by
  have S := Sub.of hs1 hs2
  subst ev1
  subst ev2
  subst ev3
  subst eb
  have hd3 : d' < d := Nat.le_of_ble_eq_true hdd
  have hst8 : (st.map Value.category).sum ≤ 8 := Nat.le_of_ble_eq_true hst
  intro p l e R s m args below meth c H locs cells slots A ρ ρ0 n0 mc ms lsr F D
  have hfr := D.2.2.2.2.2.2.2.2.2.2.2.2.2.1
  have hlo := D.2.2.2.2.2.2.2.2.2.2.2.2.2.2
  have hM := (k l (fun k => ρ (sg sl k)) H.size (rmx R 0 0) (by show _ ≤ R.frames - 1; omega) (by show _ ≤ R.locals - 64; omega) rfl rfl)
  have hpre := pre_of (al := (.ref b' :: [v1', v2', v3'])) F D (S.P D.1) (S.D D.2.1) (fun k => by rw [sg_xb hs1]; exact D.2.2.2.2.2.2.2.2.1 k)
  have hret := hm.2.2.2
  have hcn := callB_x (cb' := 0) (sb' := 0) F.2.2.2.2.2.2.2.1 hm.1 hk hd3 hfr hlo
  rw [hret] at hcn hM
  exact cont_sub F D hp S (va_runI (As := ([v1', v2', v3'].map (eV fun k => ρ (sg sl k)))) (rest := st.map (eV ρ)) (b := ρ (sg sl b')) ⟨F.1, F.2.1, F.2.2.1, F.2.2.2.2.2.2.1, F.2.2.2.2.2.2.2.1.all⟩ hM ⟨hcn, hm.2.2.1, F.2.2.2.2.2.2.2.1.all _ hm.2.1⟩ ⟨Pcx.blind, hpre⟩ rfl (by simp) D.2.2.2.1.1 (by simp only [List.map_cons, List.map_nil, List.reverse_cons, List.reverse_nil, List.nil_append, List.cons_append, List.append_assoc, eV_ref, eV_ren]) (by rw [sumCat]; show 2 * 0 + _ ≤ 8; omega) hd ⟨by have := D.2.2.2.2.2.2.2.2.2; omega, by have := D.2.2.2.2.2.2.2.2.2; omega⟩)
theorem wiN3 (q : Nat) (μ' : MI) (d' : Nat) (sl : List Nat) (hl : LH) {b b' : Nat} {v1 v2 v3 v1' v2' v3' : Value} {idx : Nat} (hd : decode μ.2.1 pc = .ok (.invokespecial idx, 3)) (hp : pc + 3 = q) (hm : MLi μ' 3) (hk : LN μ.1.cls idx μ') (hdd : Nat.blt d' d = true) (hs1 : subB sl = true) (hs2 : sl.map (fun a => h[a]?) = hl.map (fun c => some (rC (sg sl) c))) (eb : sg sl b' = b) (ev1 : eV (sg sl) v1' = v1) (ev2 : eV (sg sl) v2' = v2) (ev3 : eV (sg sl) v3' = v3) (hst : Nat.ble (st.map Value.category).sum 8 = true) (k : Call Γ μ' d' 0 0 (.ref b' :: [v1', v2', v3']) hl (Ksub Γ μ d cb sb q h sl ls st Q)) : WP Γ μ d cb sb h pc ls (v3 :: v2 :: v1 :: .ref b :: st) Q := by
  have S := Sub.of hs1 hs2
  subst ev1
  subst ev2
  subst ev3
  subst eb
  have hd3 : d' < d := Nat.le_of_ble_eq_true hdd
  have hst8 : (st.map Value.category).sum ≤ 8 := Nat.le_of_ble_eq_true hst
  intro p l e R s m args below meth c H locs cells slots A ρ ρ0 n0 mc ms lsr F D
  have hfr := D.2.2.2.2.2.2.2.2.2.2.2.2.2.1
  have hlo := D.2.2.2.2.2.2.2.2.2.2.2.2.2.2
  have hM := (k l (fun k => ρ (sg sl k)) H.size (rmx R 0 0) (by show _ ≤ R.frames - 1; omega) (by show _ ≤ R.locals - 64; omega) rfl rfl)
  have hpre := pre_of (al := (.ref b' :: [v1', v2', v3'])) F D (S.P D.1) (S.D D.2.1) (fun k => by rw [sg_xb hs1]; exact D.2.2.2.2.2.2.2.2.1 k)
  have hret := hm.2.2.2
  obtain ⟨host, hcn⟩ := callN_x (cb' := 0) (sb' := 0) F.2.2.2.2.2.2.2.1 hm.1 hk hd3 hfr hlo
  rw [hret] at hcn hM
  exact cont_sub F D hp S (va_runIN (As := ([v1', v2', v3'].map (eV fun k => ρ (sg sl k)))) (rest := st.map (eV ρ)) (b := ρ (sg sl b')) ⟨F.1, F.2.1, F.2.2.1, F.2.2.2.2.2.2.1, F.2.2.2.2.2.2.2.1.all⟩ hM ⟨hcn, hm.2.2.1, F.2.2.2.2.2.2.2.1.all _ hm.2.1⟩ ⟨Pcx.blind, hpre⟩ rfl (by simp) D.2.2.2.1.1 (by simp only [List.map_cons, List.map_nil, List.reverse_cons, List.reverse_nil, List.nil_append, List.cons_append, List.append_assoc, eV_ref, eV_ren]) (by rw [sumCat]; show 2 * 0 + _ ≤ 8; omega) hd ⟨by have := D.2.2.2.2.2.2.2.2.2; omega, by have := D.2.2.2.2.2.2.2.2.2; omega⟩)
theorem wx3 (q : Nat) (μ' : MI) (d' : Nat) (cb' sb' : Nat) (sl : List Nat) (hl : LH) {b b' : Nat} {v1 v2 v3 v1' v2' v3' : Value} {idx : Nat} (hd : decode μ.2.1 pc = .ok (.invokespecial idx, 3)) (hp : pc + 3 = q) (hm : MLi μ' 3) (hk : LK μ.1.cls idx μ') (hdd : Nat.blt d' d = true) (hs1 : subB sl = true) (hs2 : sl.map (fun a => h[a]?) = hl.map (fun c => some (rC (sg sl) c))) (eb : sg sl b' = b) (ev1 : eV (sg sl) v1' = v1) (ev2 : eV (sg sl) v2' = v2) (ev3 : eV (sg sl) v3' = v3) (hcl : clB h ls st = true) (hst : Nat.ble (st.map Value.category).sum 8 = true) (k : Call Γ μ' d' cb' sb' (.ref b' :: [v1', v2', v3']) hl (Kx2 Γ μ d cb sb q h sl ls st Q)) : WP Γ μ d (cb + cb') (sb + sb') h pc ls (v3 :: v2 :: v1 :: .ref b :: st) Q := by
  have S := Sub.of hs1 hs2
  subst ev1
  subst ev2
  subst ev3
  subst eb
  have hd3 : d' < d := Nat.le_of_ble_eq_true hdd
  have hst8 : (st.map Value.category).sum ≤ 8 := Nat.le_of_ble_eq_true hst
  intro p l e R s m args below meth c H locs cells slots A ρ ρ0 n0 mc ms lsr F D
  have hfr := D.2.2.2.2.2.2.2.2.2.2.2.2.2.1
  have hlo := D.2.2.2.2.2.2.2.2.2.2.2.2.2.2
  have hM := (k l (fun k => ρ (sg sl k)) H.size (rmx R cb' sb') (by show _ ≤ R.frames - 1; omega) (by show _ ≤ R.locals - 64; omega) rfl rfl)
  have hpre := pre_of (al := (.ref b' :: [v1', v2', v3'])) F D (S.P D.1) (S.D D.2.1) (fun k => by rw [sg_xb hs1]; exact D.2.2.2.2.2.2.2.2.1 k)
  have hret := hm.2.2.2
  have hcn := callB_x (cb' := cb') (sb' := sb') F.2.2.2.2.2.2.2.1 hm.1 hk hd3 hfr hlo
  rw [hret] at hcn hM
  exact cont_x F D hp S hcl (va_runI (As := ([v1', v2', v3'].map (eV fun k => ρ (sg sl k)))) (rest := st.map (eV ρ)) (b := ρ (sg sl b')) ⟨F.1, F.2.1, F.2.2.1, F.2.2.2.2.2.2.1, F.2.2.2.2.2.2.2.1.all⟩ hM ⟨hcn, hm.2.2.1, F.2.2.2.2.2.2.2.1.all _ hm.2.1⟩ ⟨Pcx.blind, hpre⟩ rfl (by simp) D.2.2.2.1.1 (by simp only [List.map_cons, List.map_nil, List.reverse_cons, List.reverse_nil, List.nil_append, List.cons_append, List.append_assoc, eV_ref, eV_ren]) (by rw [sumCat]; show 2 * 0 + _ ≤ 8; omega) hd ⟨by have := D.2.2.2.2.2.2.2.2.2; omega, by have := D.2.2.2.2.2.2.2.2.2; omega⟩)
theorem wxN3 (q : Nat) (μ' : MI) (d' : Nat) (cb' sb' : Nat) (sl : List Nat) (hl : LH) {b b' : Nat} {v1 v2 v3 v1' v2' v3' : Value} {idx : Nat} (hd : decode μ.2.1 pc = .ok (.invokespecial idx, 3)) (hp : pc + 3 = q) (hm : MLi μ' 3) (hk : LN μ.1.cls idx μ') (hdd : Nat.blt d' d = true) (hs1 : subB sl = true) (hs2 : sl.map (fun a => h[a]?) = hl.map (fun c => some (rC (sg sl) c))) (eb : sg sl b' = b) (ev1 : eV (sg sl) v1' = v1) (ev2 : eV (sg sl) v2' = v2) (ev3 : eV (sg sl) v3' = v3) (hcl : clB h ls st = true) (hst : Nat.ble (st.map Value.category).sum 8 = true) (k : Call Γ μ' d' cb' sb' (.ref b' :: [v1', v2', v3']) hl (Kx2 Γ μ d cb sb q h sl ls st Q)) : WP Γ μ d (cb + cb') (sb + sb') h pc ls (v3 :: v2 :: v1 :: .ref b :: st) Q := by
  have S := Sub.of hs1 hs2
  subst ev1
  subst ev2
  subst ev3
  subst eb
  have hd3 : d' < d := Nat.le_of_ble_eq_true hdd
  have hst8 : (st.map Value.category).sum ≤ 8 := Nat.le_of_ble_eq_true hst
  intro p l e R s m args below meth c H locs cells slots A ρ ρ0 n0 mc ms lsr F D
  have hfr := D.2.2.2.2.2.2.2.2.2.2.2.2.2.1
  have hlo := D.2.2.2.2.2.2.2.2.2.2.2.2.2.2
  have hM := (k l (fun k => ρ (sg sl k)) H.size (rmx R cb' sb') (by show _ ≤ R.frames - 1; omega) (by show _ ≤ R.locals - 64; omega) rfl rfl)
  have hpre := pre_of (al := (.ref b' :: [v1', v2', v3'])) F D (S.P D.1) (S.D D.2.1) (fun k => by rw [sg_xb hs1]; exact D.2.2.2.2.2.2.2.2.1 k)
  have hret := hm.2.2.2
  obtain ⟨host, hcn⟩ := callN_x (cb' := cb') (sb' := sb') F.2.2.2.2.2.2.2.1 hm.1 hk hd3 hfr hlo
  rw [hret] at hcn hM
  exact cont_x F D hp S hcl (va_runIN (As := ([v1', v2', v3'].map (eV fun k => ρ (sg sl k)))) (rest := st.map (eV ρ)) (b := ρ (sg sl b')) ⟨F.1, F.2.1, F.2.2.1, F.2.2.2.2.2.2.1, F.2.2.2.2.2.2.2.1.all⟩ hM ⟨hcn, hm.2.2.1, F.2.2.2.2.2.2.2.1.all _ hm.2.1⟩ ⟨Pcx.blind, hpre⟩ rfl (by simp) D.2.2.2.1.1 (by simp only [List.map_cons, List.map_nil, List.reverse_cons, List.reverse_nil, List.nil_append, List.cons_append, List.append_assoc, eV_ref, eV_ren]) (by rw [sumCat]; show 2 * 0 + _ ≤ 8; omega) hd ⟨by have := D.2.2.2.2.2.2.2.2.2; omega, by have := D.2.2.2.2.2.2.2.2.2; omega⟩)
theorem kX {Γ : Gm} {μ : MI} {d cb sb q : Nat} {h hl' : LH} {sl : List Nat} {ls : Lo} {st : List Value} {Q : Option Value → LH → Prop} (h1 : Nat.blt sl.length hl'.length = true) (h2 : hl'.all (okC hl'.length) = true) (h3 : Nat.blt (h.length + hl'.length) XB = true) (k : WP Γ μ d cb sb (putX sl h hl') q ls st Q) : Kx2 Γ μ d cb sb q h sl ls st Q none hl' := ⟨rfl, h1, h2, h3, k⟩
end R8
