/-! ===== ENGINE 5: making cells ===== -/
/-- what 'new' needs: entry idx of own's pool is class ci, whose N fields begin as fs -/
def NW (own : String) (idx ci N : Nat) (fs : List Value) : Prop := ∃ (C : String) (T : u_T) (ty : Nat → FieldType), clX[ci]? = some (C, T, N) ∧ (∀ w ∈ u_ws C T N, w ∈ TbL) ∧ (∀ k, k < N → parseFieldDescriptor (T k).2.2.1 = some (ty k)) ∧ Cond.classLink own idx C ∈ TbL ∧ Cond.instantiable C N ∈ TbL ∧ Cond.initialized C ∈ TbL ∧ (∀ j, j < N → defaultValue (ty j) = vp_V fs j) ∧ ∀ ρ, fs.map (eV ρ) = fs
section R5
variable {Γ : Gm} {μ : MI} {d cb sb : Nat} {h : LH} {pc : Nat} {ls : Lo} {st : List Value} {Q : Option Value → LH → Prop}
theorem clB_spec (hc : clB h ls st = true) : h.all (okC h.length) = true ∧ okL h.length ls = true ∧ st.all (okV h.length) = true ∧ h.length < XB := by
  simp only [clB, Bool.and_eq_true, Nat.blt_eq] at hc
  exact ⟨hc.1.1.1, hc.1.1.2, hc.1.2, hc.2⟩
theorem st_ok {ρ ρ' : Nat → Nat} {n : Nat} (hc : st.all (okV n) = true) (e : ∀ k, k < n ∨ XB ≤ k → ρ' k = ρ k) : st.map (eV ρ') = st.map (eV ρ) := by
  apply List.map_congr_left
  intro v hv
  exact eV_ok (List.all_eq_true.mp hc v hv) e
theorem Dyn.push {A : Nat → Prop} {R : Room} {s : State} {H H1 : Heap} {locs locs1 : List Loc} {cells slots N : Nat} {ρ ρ0 : Nat → Nat} {n0 mc ms : Nat} {lsr : Array Slot} {q : Nat} {x : va_E} {c : LC} (D : Dyn Γ μ A d (cb + 1) (sb + N) h ls R s H locs cells slots ρ ρ0 n0 mc ms lsr) (hcl : clB h ls st = true) (hc : ∀ ρ', eC ρ' Γ.2.1 c = x)
    (hP : va_P Γ.1 clX (eH ρ Γ.2.1 h ++ [(q, x)]) H1) (hD : va_D A (eH ρ Γ.2.1 h ++ [(q, x)])) (hS : va_S A s.heap H1 locs1) :
    ∃ ρ' : Nat → Nat, ρ' h.length = q ∧ st.map (eV ρ') = st.map (eV ρ) ∧ Dyn Γ μ A d cb sb (h ++ [c]) ls R s H1 locs1 (cells + 1) (slots + N) ρ' ρ0 n0 mc ms lsr := by
  obtain ⟨-, -, -, d4, d5, d6, d7, d8, d9, d10, d11, d12, d13, d14⟩ := D
  obtain ⟨c1, c2, c3, c4⟩ := clB_spec hcl
  have e : ∀ k, k < h.length ∨ XB ≤ k → (fun k => if k = h.length then q else ρ k) k = ρ k := by
    intro k hk
    have : k ≠ h.length := by omega
    simp [this]
  refine ⟨fun k => if k = h.length then q else ρ k, by simp, st_ok c3 e, ?_, ?_, hS, ?_, ?_, ?_, ?_, ?_, ?_, by omega, by omega, d12, d13, d14⟩
  · rw [eH_push, eH_ok c1 e, hc]; simpa using hP
  · rw [eH_push, eH_ok c1 e, hc]; simpa using hD
  · rw [loL_ok e c2]; exact d4
  · intro k hk
    rw [e k (by omega)]; exact d5 k hk
  · simp only [List.length_append, List.length_cons, List.length_nil]; omega
  · simp only [List.length_append, List.length_cons, List.length_nil]; omega
  · intro z
    simp only [List.length_append, List.length_cons, List.length_nil] at z; omega
  · intro k
    rw [e _ (Or.inr (Nat.le_add_right _ _))]; exact d9 k
theorem wp_new (q : Nat) (ci N a : Nat) (fs : List Value) {idx : Nat} (hd : decode μ.2.1 pc = .ok (.new idx, 3)) (hp : pc + 3 = q) (hw : NW μ.1.cls idx ci N fs) (hcl : clB h ls st = true) (ha : h.length = a) (k : WP Γ μ d cb sb (h ++ [cO ci fs]) q ls (.ref a :: st) Q) : WP Γ μ d (cb + 1) (sb + N) h pc ls st Q := by
  subst hp; subst ha
  intro p l e R s m args below meth c H locs cells slots A ρ ρ0 n0 mc ms lsr F D
  obtain ⟨C, T, ty, w1, w2, w3, w4, w5, w6, w7, w8⟩ := hw
  have hts := F.2.2.2.2.2.2.2.1.all
  have hb := D.2.2.2.2.2.2.2.2.2
  refine va_new (D := Γ.1) (cl := clX) F.1 F.2.1 hts w2 ty w3 F.2.2.2.2.2.2.1 (hts _ w4) (hts _ w5) (hts _ w6) F.2.2.2.2.2.2.2.2.1 D.1 D.2.1 D.2.2.1 F.2.2.2.2.2.2.2.2.2.2 w1 w7 (by omega) (by omega) hd (fun q H1 hP hD hS => ?_)
  obtain ⟨ρ', r1, r2, D'⟩ := D.push (c := cO ci fs) (x := .inr (ci, fs)) hcl (fun ρ' => by simp only [eC, w8]) hP hD hS
  have hk := k p l e R s m args below meth c H1 locs (cells + 1) (slots + N) A ρ' ρ0 n0 mc ms lsr F D'
  simp only [List.map_cons, eV_ref, r1, r2] at hk
  exact hk
theorem ra_same {Γ : Gm} {s : State} {ty : FieldType} {cA : ClassId} (t0 : Nat) (hty : ∀ C, ty ≠ .object C) (ht : (tysX Γ.2.1)[t0]? = some (Γ.2.1 ty, ty)) (hK : Kx Γ s) (hK' : va_K Γ.1 clX (tysX Γ.2.1 ++ [(cA, ty)]) s) : cA = Γ.2.1 ty := by
  have h1 := (hK.2 t0 _ ht).2
  have h2 := (hK'.2 7 (cA, ty) rfl).2
  cases ty with
  | object C => exact absurd rfl (hty C)
  | _ =>
    simp only [va_RA] at h1 h2
    exact Option.some.inj (h2.symm.trans h1)
theorem wp_newarray_int (q : Nat) (N a : Nat) {n : Int32} (hd : decode μ.2.1 pc = .ok (.newarray .int, 2)) (hp : pc + 2 = q) (hw : Cond.arrayClass .int ∈ TbL) (hn : ¬ n < 0) (hN : n.toNatClampNeg = N) (hbig : N * 4 ≤ 536870912) (hcl : clB h ls st = true) (ha : h.length = a) (k : WP Γ μ d cb sb (h ++ [cI N (fun _ => 0)]) q ls (.ref a :: st) Q) : WP Γ μ d (cb + 1) (sb + N) h pc ls (.int n :: st) Q := by
  subst hp; subst ha
  intro p l e R s m args below meth c H locs cells slots A ρ ρ0 n0 mc ms lsr F D
  have hts := F.2.2.2.2.2.2.2.1.all
  have hb := D.2.2.2.2.2.2.2.2.2
  refine va_newa (atype := .int) (ty := .int) (a0 := (N, .inl (fun _ => 0))) (D := Γ.1) (cl := clX) F.1 F.2.1 (hts _ hw) rfl F.2.2.2.2.2.2.2.2.1 D.1 D.2.1 D.2.2.1 F.2.2.2.2.2.2.2.2.2.2 (fun _ => rfl) hn hN hbig (by omega) (by omega) hd (fun q cA H1 hK' hP hD hS => ?_)
  have ec := ra_same 0 (fun C z => by cases z) rfl F.2.2.2.2.2.2.2.2.1 hK'
  subst ec
  obtain ⟨ρ', r1, r2, D'⟩ := D.push (st := st) (c := cI N (fun _ => 0)) (x := .inl (Γ.2.1 .int, N, .inl (fun _ => 0))) hcl (fun ρ' => rfl) hP hD hS
  have hk := k p l e R s m args below meth c H1 locs (cells + 1) (slots + N) A ρ' ρ0 n0 mc ms lsr F D'
  simp only [List.map_cons, eV_ref, r1, r2] at hk
  exact hk
theorem wp_newarray_long (q : Nat) (N a : Nat) {n : Int32} (hd : decode μ.2.1 pc = .ok (.newarray .long, 2)) (hp : pc + 2 = q) (hw : Cond.arrayClass .long ∈ TbL) (hn : ¬ n < 0) (hN : n.toNatClampNeg = N) (hbig : N * 8 ≤ 536870912) (hcl : clB h ls st = true) (ha : h.length = a) (k : WP Γ μ d cb sb (h ++ [cL N (fun _ => 0)]) q ls (.ref a :: st) Q) : WP Γ μ d (cb + 1) (sb + N) h pc ls (.int n :: st) Q := by
  subst hp; subst ha
  intro p l e R s m args below meth c H locs cells slots A ρ ρ0 n0 mc ms lsr F D
  have hts := F.2.2.2.2.2.2.2.1.all
  have hb := D.2.2.2.2.2.2.2.2.2
  refine va_newa (atype := .long) (ty := .long) (a0 := (N, .inr (.inl (fun _ => 0)))) (D := Γ.1) (cl := clX) F.1 F.2.1 (hts _ hw) rfl F.2.2.2.2.2.2.2.2.1 D.1 D.2.1 D.2.2.1 F.2.2.2.2.2.2.2.2.2.2 (fun _ => rfl) hn hN hbig (by omega) (by omega) hd (fun q cA H1 hK' hP hD hS => ?_)
  have ec := ra_same 1 (fun C z => by cases z) rfl F.2.2.2.2.2.2.2.2.1 hK'
  subst ec
  obtain ⟨ρ', r1, r2, D'⟩ := D.push (st := st) (c := cL N (fun _ => 0)) (x := .inl (Γ.2.1 .long, N, .inr (.inl (fun _ => 0)))) hcl (fun ρ' => rfl) hP hD hS
  have hk := k p l e R s m args below meth c H1 locs (cells + 1) (slots + N) A ρ' ρ0 n0 mc ms lsr F D'
  simp only [List.map_cons, eV_ref, r1, r2] at hk
  exact hk
theorem wp_newarray_byte (q : Nat) (N a : Nat) {n : Int32} (hd : decode μ.2.1 pc = .ok (.newarray .byte, 2)) (hp : pc + 2 = q) (hw : Cond.arrayClass .byte ∈ TbL) (hn : ¬ n < 0) (hN : n.toNatClampNeg = N) (hbig : N * 1 ≤ 536870912) (hcl : clB h ls st = true) (ha : h.length = a) (k : WP Γ μ d cb sb (h ++ [cB N (fun _ => 0)]) q ls (.ref a :: st) Q) : WP Γ μ d (cb + 1) (sb + N) h pc ls (.int n :: st) Q := by
  subst hp; subst ha
  intro p l e R s m args below meth c H locs cells slots A ρ ρ0 n0 mc ms lsr F D
  have hts := F.2.2.2.2.2.2.2.1.all
  have hb := D.2.2.2.2.2.2.2.2.2
  refine va_newa (atype := .byte) (ty := .byte) (a0 := (N, .inl (fun _ => 0))) (D := Γ.1) (cl := clX) F.1 F.2.1 (hts _ hw) rfl F.2.2.2.2.2.2.2.2.1 D.1 D.2.1 D.2.2.1 F.2.2.2.2.2.2.2.2.2.2 (fun _ => rfl) hn hN hbig (by omega) (by omega) hd (fun q cA H1 hK' hP hD hS => ?_)
  have ec := ra_same 2 (fun C z => by cases z) rfl F.2.2.2.2.2.2.2.2.1 hK'
  subst ec
  obtain ⟨ρ', r1, r2, D'⟩ := D.push (st := st) (c := cB N (fun _ => 0)) (x := .inl (Γ.2.1 .byte, N, .inl (fun _ => 0))) hcl (fun ρ' => rfl) hP hD hS
  have hk := k p l e R s m args below meth c H1 locs (cells + 1) (slots + N) A ρ' ρ0 n0 mc ms lsr F D'
  simp only [List.map_cons, eV_ref, r1, r2] at hk
  exact hk
theorem wp_newarray_boolean (q : Nat) (N a : Nat) {n : Int32} (hd : decode μ.2.1 pc = .ok (.newarray .boolean, 2)) (hp : pc + 2 = q) (hw : Cond.arrayClass .boolean ∈ TbL) (hn : ¬ n < 0) (hN : n.toNatClampNeg = N) (hbig : N * 1 ≤ 536870912) (hcl : clB h ls st = true) (ha : h.length = a) (k : WP Γ μ d cb sb (h ++ [cZ N (fun _ => 0)]) q ls (.ref a :: st) Q) : WP Γ μ d (cb + 1) (sb + N) h pc ls (.int n :: st) Q := by
  subst hp; subst ha
  intro p l e R s m args below meth c H locs cells slots A ρ ρ0 n0 mc ms lsr F D
  have hts := F.2.2.2.2.2.2.2.1.all
  have hb := D.2.2.2.2.2.2.2.2.2
  refine va_newa (atype := .boolean) (ty := .boolean) (a0 := (N, .inl (fun _ => 0))) (D := Γ.1) (cl := clX) F.1 F.2.1 (hts _ hw) rfl F.2.2.2.2.2.2.2.2.1 D.1 D.2.1 D.2.2.1 F.2.2.2.2.2.2.2.2.2.2 (fun _ => rfl) hn hN hbig (by omega) (by omega) hd (fun q cA H1 hK' hP hD hS => ?_)
  have ec := ra_same 3 (fun C z => by cases z) rfl F.2.2.2.2.2.2.2.2.1 hK'
  subst ec
  obtain ⟨ρ', r1, r2, D'⟩ := D.push (st := st) (c := cZ N (fun _ => 0)) (x := .inl (Γ.2.1 .boolean, N, .inl (fun _ => 0))) hcl (fun ρ' => rfl) hP hD hS
  have hk := k p l e R s m args below meth c H1 locs (cells + 1) (slots + N) A ρ' ρ0 n0 mc ms lsr F D'
  simp only [List.map_cons, eV_ref, r1, r2] at hk
  exact hk
theorem ra_sameO {Γ : Gm} {s : State} {C : String} {cA : ClassId} (t0 : Nat) (ht : (tysX Γ.2.1)[t0]? = some (Γ.2.1 (.object C), .object C)) (hK : Kx Γ s) (hK' : va_K Γ.1 clX (tysX Γ.2.1 ++ [(cA, .object C)]) s) : cA = Γ.2.1 (.object C) := by
  obtain ⟨_, _, -, -, -, h1⟩ := (hK.2 t0 _ ht).2
  obtain ⟨_, _, -, -, -, h2⟩ := (hK'.2 7 (cA, .object C) rfl).2
  exact Option.some.inj (h2.symm.trans h1)
theorem wp_anewarray (q : Nat) (C : String) (t0 N a : Nat) (rs : List (Option Nat)) {idx : Nat} {n : Int32} (hd : decode μ.2.1 pc = .ok (.anewarray idx, 3)) (hp : pc + 3 = q) (hw : Cond.classLink μ.1.cls idx C ∈ TbL) (hw2 : Cond.arrayOver (.object C) ∈ TbL) (ht : ∀ κ, (tysX κ)[t0]? = some (κ (.object C), .object C)) (hn : ¬ n < 0) (hN : n.toNatClampNeg = N) (hbig : N * 4 ≤ 536870912) (hrs : rs = List.replicate N none) (hcl : clB h ls st = true) (ha : h.length = a) (k : WP Γ μ d cb sb (h ++ [cR C rs]) q ls (.ref a :: st) Q) : WP Γ μ d (cb + 1) (sb + N) h pc ls (.int n :: st) Q := by
  subst hp; subst ha; subst hrs
  intro p l e R s m args below meth c H locs cells slots A ρ ρ0 n0 mc ms lsr F D
  have hts := F.2.2.2.2.2.2.2.1.all
  have hb := D.2.2.2.2.2.2.2.2.2
  refine va_newq (D := Γ.1) (cl := clX) F.1 F.2.1 F.2.2.2.2.2.2.1 (hts _ hw) (va_AO.of (hts _ hw2)) F.2.2.2.2.2.2.2.2.1 D.1 D.2.1 D.2.2.1 F.2.2.2.2.2.2.2.2.2.2 hn hN hbig (by omega) (by omega) hd (fun q cA H1 hK' hP hD hS => ?_)
  have ec := ra_sameO t0 (ht _) F.2.2.2.2.2.2.2.2.1 hK'
  subst ec
  have e9 : ∀ ρ' : Nat → Nat, (fun j => ((List.replicate N (none : Option Nat)).getD j none).map ρ') = (fun _ => none) := by
    intro ρ'; funext j
    rw [List.getD_eq_getElem?_getD, List.getElem?_replicate]
    split <;> rfl
  obtain ⟨ρ', r1, r2, D'⟩ := D.push (st := st) (c := cR C (List.replicate N none)) (x := .inl (Γ.2.1 (.object C), N, .inr (.inr (.inr (.inr (fun _ => none)))))) hcl (fun ρ' => by simp only [eC, e9, List.length_replicate]) hP hD hS
  have hk := k p l e R s m args below meth c H1 locs (cells + 1) (slots + N) A ρ' ρ0 n0 mc ms lsr F D'
  simp only [List.map_cons, eV_ref, r1, r2] at hk
  exact hk
theorem wp_mono {cb' sb' d' : Nat} (h1 : cb ≤ cb') (h2 : sb ≤ sb') (h3 : d ≤ d') (k : WP Γ μ d cb sb h pc ls st Q) : WP Γ μ d' cb' sb' h pc ls st Q := by
  intro p l e R s m args below meth c H locs cells slots A ρ ρ0 n0 mc ms lsr F D
  obtain ⟨d1, d2, d3, d4, d5, d6, d7, d8, d9, d10, d11, d12, d13, d14, d15⟩ := D
  exact k p l e R s m args below meth c H locs cells slots A ρ ρ0 n0 mc ms lsr F ⟨d1, d2, d3, d4, d5, d6, by omega, d8, d9, by omega, by omega, d12, d13, by omega, by omega⟩
theorem wp_post {Q' : Option Value → LH → Prop} (hq : ∀ v h', Q v h' → Q' v h') (k : WP Γ μ d cb sb h pc ls st Q) : WP Γ μ d cb sb h pc ls st Q' := by
  intro p l e R s m args below meth c H locs cells slots A ρ ρ0 n0 mc ms lsr F D T hT X
  obtain ⟨t, a1, o, b1, b2, ⟨⟨v, h', ρ', c1, c2, c3⟩, b4⟩, b5⟩ := k p l e R s m args below meth c H locs cells slots A ρ ρ0 n0 mc ms lsr F D T hT X
  exact ⟨t, a1, o, b1, b2, ⟨⟨v, h', ρ', c1, hq v h' c2, c3⟩, b4⟩, b5⟩
/-- fewer locals are known -/
theorem wp_forget {ls' : Lo} (hl : ∀ (i : Nat) (v : Value), ls'[i]? = some (some v) → ls[i]? = some (some v)) (k : WP Γ μ d cb sb h pc ls' st Q) : WP Γ μ d cb sb h pc ls st Q := by
  intro p l e R s m args below meth c H locs cells slots A ρ ρ0 n0 mc ms lsr F D
  obtain ⟨d1, d2, d3, d4, d5⟩ := D
  refine k p l e R s m args below meth c H locs cells slots A ρ ρ0 n0 mc ms lsr F ⟨d1, d2, d3, lv_mem d4 (fun q hq => ?_), d5⟩
  obtain ⟨i, v, h1, h2⟩ := loL_mem.mp hq
  exact loL_mem.mpr ⟨i, v, hl i v h1, h2⟩
end R5
