/-! ===== ENGINE 1: local heaps (addresses are places in a list), and where they lie in the machine's heap ===== -/
abbrev LC : Type := (FieldType × Nat × ((Nat → Int32) ⊕ (Nat → Int64))) ⊕ ((Nat × List Value) ⊕ (String × List (Option Nat)))
abbrev LH : Type := List LC
abbrev Lo : Type := List (Option Value)
abbrev cI (n : Nat) (f : Nat → Int32) : LC := .inl (.int, n, .inl f)
abbrev cB (n : Nat) (f : Nat → Int32) : LC := .inl (.byte, n, .inl f)
abbrev cZ (n : Nat) (f : Nat → Int32) : LC := .inl (.boolean, n, .inl f)
abbrev cL (n : Nat) (f : Nat → Int64) : LC := .inl (.long, n, .inr f)
abbrev cO (ci : Nat) (fs : List Value) : LC := .inr (.inl (ci, fs))
abbrev cR (C : String) (rs : List (Option Nat)) : LC := .inr (.inr (C, rs))
/-- the classes' numbers, the array classes, the places of what lies outside (two Strings, their bytes, the script), the script -/
abbrev Gm : Type := va_G × (FieldType → ClassId) × (Nat → Nat) × Nat × (Nat → Int32)
def eV (ρ : Nat → Nat) : Value → Value
  | .ref k => .ref (ρ k)
  | v => v
def eC (ρ : Nat → Nat) (κ : FieldType → ClassId) : LC → va_E
  | .inl (ty, n, .inl f) => .inl (κ ty, n, .inl f)
  | .inl (ty, n, .inr f) => .inl (κ ty, n, .inr (.inl f))
  | .inr (.inl (ci, fs)) => .inr (ci, fs.map (eV ρ))
  | .inr (.inr (C, rs)) => .inl (κ (.object C), rs.length, .inr (.inr (.inr (.inr (fun j => (rs.getD j none).map ρ)))))
def eH (ρ : Nat → Nat) (κ : FieldType → ClassId) (h : LH) : va_W := h.mapIdx (fun i c => (ρ i, eC ρ κ c))
theorem eV_int (ρ : Nat → Nat) (x : Int32) : eV ρ (.int x) = .int x := rfl
theorem eV_long (ρ : Nat → Nat) (x : Int64) : eV ρ (.long x) = .long x := rfl
theorem eV_ref (ρ : Nat → Nat) (k : Nat) : eV ρ (.ref k) = .ref (ρ k) := rfl
theorem eV_null (ρ : Nat → Nat) : eV ρ .null = .null := rfl
theorem eV_cat (ρ : Nat → Nat) (v : Value) : (eV ρ v).category = v.category := by cases v <;> rfl
theorem eH_get (ρ : Nat → Nat) (κ : FieldType → ClassId) (h : LH) (k : Nat) : (eH ρ κ h)[k]? = (h[k]?).map (fun c => (ρ k, eC ρ κ c)) := by
  simp [eH, List.getElem?_mapIdx]
theorem eH_at {ρ : Nat → Nat} {κ : FieldType → ClassId} {h : LH} {k : Nat} {c : LC} (hk : h[k]? = some c) : (eH ρ κ h)[k]? = some (ρ k, eC ρ κ c) := by
  rw [eH_get, hk]; rfl
theorem eH_len (ρ : Nat → Nat) (κ : FieldType → ClassId) (h : LH) : (eH ρ κ h).length = h.length := by simp [eH]
theorem eH_set (ρ : Nat → Nat) (κ : FieldType → ClassId) (h : LH) (k : Nat) (c : LC) : (eH ρ κ h).set k (ρ k, eC ρ κ c) = eH ρ κ (h.set k c) := by
  simp [eH, List.mapIdx_set]
theorem eH_push (ρ : Nat → Nat) (κ : FieldType → ClassId) (h : LH) (c : LC) : eH ρ κ (h ++ [c]) = eH ρ κ h ++ [(ρ h.length, eC ρ κ c)] := by
  simp [eH, List.mapIdx_concat]
/-- a value, a cell that names no place from n on, up to the outer ones -/
def XB : Nat := 1000000
def okV (n : Nat) : Value → Bool
  | .ref k => Nat.blt k n || Nat.ble XB k
  | _ => true
def okC (n : Nat) : LC → Bool
  | .inl _ => true
  | .inr (.inl (_, fs)) => fs.all (okV n)
  | .inr (.inr (_, rs)) => rs.all (fun r => match r with | none => true | some k => Nat.blt k n || Nat.ble XB k)
def okL (n : Nat) (ls : Lo) : Bool := ls.all (fun o => match o with | none => true | some v => okV n v)
def clB (h : LH) (ls : Lo) (st : List Value) : Bool := h.all (okC h.length) && okL h.length ls && st.all (okV h.length) && Nat.blt h.length XB
theorem eV_ok {ρ ρ' : Nat → Nat} {n : Nat} {v : Value} (h : okV n v = true) (e : ∀ k, k < n ∨ XB ≤ k → ρ' k = ρ k) : eV ρ' v = eV ρ v := by
  cases v with
  | ref k =>
    simp only [okV, Bool.or_eq_true, Nat.blt_eq, Nat.ble_eq] at h
    simp only [eV, e k h]
  | _ => rfl
theorem eC_ok {ρ ρ' : Nat → Nat} {κ : FieldType → ClassId} {n : Nat} {c : LC} (h : okC n c = true) (e : ∀ k, k < n ∨ XB ≤ k → ρ' k = ρ k) : eC ρ' κ c = eC ρ κ c := by
  rcases c with ⟨ty, m, f | f⟩ | ⟨ci, fs⟩ | ⟨C, rs⟩
  · rfl
  · rfl
  · simp only [eC]
    congr 2
    apply List.map_congr_left
    intro v hv
    exact eV_ok (List.all_eq_true.mp h v hv) e
  · have e9 : (fun j => Option.map ρ' (rs.getD j none)) = fun j => Option.map ρ (rs.getD j none) := by
      funext j
      rw [List.getD_eq_getElem?_getD]
      cases hj : rs[j]? with
      | none => rfl
      | some r =>
        cases r with
        | none => rfl
        | some k =>
          have := List.all_eq_true.mp h (some k) (List.mem_of_getElem? hj)
          simp only [Bool.or_eq_true, Nat.blt_eq, Nat.ble_eq] at this
          simp only [Option.getD_some, Option.map_some, e k this]
    simp only [eC, e9]
theorem eH_ok {ρ ρ' : Nat → Nat} {κ : FieldType → ClassId} {h : LH} (hc : h.all (okC h.length) = true) (e : ∀ k, k < h.length ∨ XB ≤ k → ρ' k = ρ k) : eH ρ' κ h = eH ρ κ h := by
  apply List.ext_getElem?
  intro k
  rw [eH_get, eH_get]
  cases hk : h[k]? with
  | none => rfl
  | some c =>
    have hlt : k < h.length := (List.getElem?_eq_some_iff.mp hk).1
    simp only [Option.map_some, e k (Or.inl hlt), eC_ok (List.all_eq_true.mp hc c (List.mem_of_getElem? hk)) e]
/-- the locals, by their places -/
def loL (ρ : Nat → Nat) : Nat → Lo → List (Nat × Value)
  | _, [] => []
  | i, none :: t => loL ρ (i + 1) t
  | i, some v :: t => (i, eV ρ v) :: loL ρ (i + 1) t
theorem loL_mem {ρ : Nat → Nat} {q : Nat × Value} : ∀ {ls : Lo} {i : Nat}, q ∈ loL ρ i ls ↔ ∃ (k : Nat) (v : Value), ls[k]? = some (some v) ∧ q = (i + k, eV ρ v)
  | [], i => by simp [loL]
  | none :: t, i => by
    simp only [loL]
    rw [loL_mem (ls := t) (i := i + 1)]
    constructor
    · rintro ⟨k, v, h1, h2⟩
      exact ⟨k + 1, v, by simpa using h1, by rw [h2]; congr 1; omega⟩
    · rintro ⟨k, v, h1, h2⟩
      cases k with
      | zero => simp at h1
      | succ k => exact ⟨k, v, by simpa using h1, by rw [h2]; congr 1; omega⟩
  | some w :: t, i => by
    simp only [loL, List.mem_cons]
    rw [loL_mem (ls := t) (i := i + 1)]
    constructor
    · rintro (h | ⟨k, v, h1, h2⟩)
      · exact ⟨0, w, by simp, by rw [h]; rfl⟩
      · exact ⟨k + 1, v, by simpa using h1, by rw [h2]; congr 1; omega⟩
    · rintro ⟨k, v, h1, h2⟩
      cases k with
      | zero => simp at h1; subst h1; exact Or.inl (by rw [h2]; rfl)
      | succ k => exact Or.inr ⟨k, v, by simpa using h1, by rw [h2]; congr 1; omega⟩
theorem loL_ok {ρ ρ' : Nat → Nat} {n : Nat} (e : ∀ k, k < n ∨ XB ≤ k → ρ' k = ρ k) : ∀ {ls : Lo} {i : Nat}, okL n ls = true → loL ρ' i ls = loL ρ i ls
  | [], i, _ => rfl
  | none :: t, i, h => by
    simp only [okL, List.all_cons, Bool.true_and] at h
    simp only [loL]; exact loL_ok e h
  | some v :: t, i, h => by
    simp only [okL, List.all_cons, Bool.and_eq_true] at h
    simp only [loL]; rw [eV_ok h.1 e, loL_ok e h.2]
theorem lv_mem {ls : Array Slot} {nL : Nat} {l l' : List (Nat × Value)} (h : lv_has ls nL l) (hl : ∀ q ∈ l', q ∈ l) : lv_has ls nL l' := ⟨h.1, h.2.1, fun q hq => h.2.2 q (hl q hq)⟩
theorem lo_at {ρ : Nat → Nat} {lsr : Array Slot} {nL i : Nat} {ls : Lo} {v : Value} (h : lv_has lsr nL (loL ρ 0 ls)) (hi : ls[i]? = some (some v)) : lsr[i]? = some (.val (eV ρ v)) :=
  h.2.2 (i, eV ρ v) (loL_mem.mpr ⟨i, v, hi, by simp⟩)
/-- a slot that may be written: no long stands right before it -/
def okSt (ls : Lo) (i : Nat) : Bool := match i with
  | 0 => true
  | j + 1 => match ls[j]? with
    | some (some w) => w.category == 1
    | _ => true
theorem lo_set {ρ : Nat → Nat} {ls : Lo} {i : Nat} {v : Value} (ho : okSt ls i = true) : ∀ q ∈ loL ρ 0 (ls.set i (some v)), q ∈ (i, eV ρ v) :: (loL ρ 0 ls).filter (fun q => !(q.1 == i) && !(q.1 + 1 == i && q.2.category == 2)) := by
  intro q hq
  obtain ⟨k, w, h1, h2⟩ := loL_mem.mp hq
  rw [List.getElem?_set] at h1
  by_cases hk : i = k
  · subst hk
    rw [if_pos rfl] at h1
    by_cases hl : i < ls.length
    · rw [if_pos hl] at h1
      cases h1
      rw [h2]; simp
    · rw [if_neg hl] at h1; cases h1
  · rw [if_neg hk] at h1
    refine List.mem_cons_of_mem _ (List.mem_filter.mpr ⟨loL_mem.mpr ⟨k, w, h1, h2⟩, ?_⟩)
    rw [h2]
    simp only [Nat.zero_add, eV_cat]
    cases i with
    | zero => simp; omega
    | succ j =>
      by_cases hj : k = j
      · subst hj
        simp only [okSt, h1, beq_iff_eq] at ho
        simp [ho]
      · simp; omega
theorem lo_set2 {ρ : Nat → Nat} {ls : Lo} {i : Nat} {v : Value} (ho : okSt ls i = true) : ∀ q ∈ loL ρ 0 ((ls.set i (some v)).set (i + 1) none), q ∈ (i, eV ρ v) :: (loL ρ 0 ls).filter (fun q => !(q.1 == i) && (!(q.1 == i + 1) && !(q.1 + 1 == i && q.2.category == 2))) := by
  intro q hq
  obtain ⟨k, w, h1, h2⟩ := loL_mem.mp hq
  rw [List.getElem?_set] at h1
  by_cases hk1 : i + 1 = k
  · rw [if_pos hk1] at h1
    split at h1 <;> cases h1
  · rw [if_neg hk1, List.getElem?_set] at h1
    by_cases hk : i = k
    · subst hk
      rw [if_pos rfl] at h1
      by_cases hl : i < ls.length
      · rw [if_pos hl] at h1
        cases h1
        rw [h2]; simp
      · rw [if_neg hl] at h1; cases h1
    · rw [if_neg hk] at h1
      refine List.mem_cons_of_mem _ (List.mem_filter.mpr ⟨loL_mem.mpr ⟨k, w, h1, h2⟩, ?_⟩)
      rw [h2]
      simp only [Nat.zero_add, eV_cat]
      cases i with
      | zero => simp; omega
      | succ j =>
        by_cases hj : k = j
        · subst hj
          simp only [okSt, h1, beq_iff_eq] at ho
          simp [ho]; omega
        · simp; omega
/-- the locals at a method's entry -/
def enL : List Value → Lo
  | [] => []
  | v :: t => if v.category = 2 then some v :: none :: enL t else some v :: enL t
theorem enL_args {ρ : Nat → Nat} : ∀ (vs : List Value) (i : Nat), loL ρ i (enL vs) = lv_args i (vs.map (eV ρ))
  | [], i => rfl
  | v :: t, i => by
    simp only [enL, List.map_cons, lv_args, eV_cat]
    by_cases h : v.category = 2
    · simp only [h, if_true, loL]; rw [enL_args t]
    · simp only [h, if_false, loL]; rw [enL_args t]
theorem loL_app {ρ : Nat → Nat} : ∀ (a b : Lo) (i : Nat), loL ρ i (a ++ b) = loL ρ i a ++ loL ρ (i + a.length) b
  | [], b, i => rfl
  | none :: t, b, i => by simp only [List.cons_append, loL, List.length_cons]; rw [loL_app t b]; congr 2; omega
  | some v :: t, b, i => by simp only [List.cons_append, loL, List.length_cons]; rw [loL_app t b]; congr 3; omega
theorem loL_none {ρ : Nat → Nat} : ∀ (n i : Nat), loL ρ i (List.replicate n none) = []
  | 0, _ => rfl
  | n + 1, i => by simp only [List.replicate_succ, loL]; exact loL_none n _
theorem enL_len : ∀ (vs : List Value), (lg_sl vs).length = (enL vs).length
  | [] => rfl
  | v :: t => by
    have := enL_len t
    simp only [lg_sl, enL, List.flatMap_cons] at this ⊢
    by_cases h : v.category = 2 <;> simp [h, this]
theorem eV_sl_len (ρ : Nat → Nat) : ∀ (vs : List Value), (enL (vs.map (eV ρ))).length = (enL vs).length
  | [] => rfl
  | v :: t => by
    have := eV_sl_len ρ t
    simp only [List.map_cons, enL, eV_cat]
    by_cases h : v.category = 2 <;> simp [h, this]
