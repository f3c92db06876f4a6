/-! ===== ENGINE 6: calls ===== -/
/-- what a call needs of the callee -/
def MLb (μ' : MI) (n : Nat) : Prop := Cond.code μ'.1 μ'.2.1 μ'.2.2.1 μ'.2.2.2 ∈ TbL ∧ Cond.initialized μ'.1.cls ∈ TbL ∧ (μ'.1.cls ≠ "java/lang/invoke/MethodHandle" ∧ μ'.1.cls ≠ "java/lang/invoke/VarHandle") ∧ (parseMethodDescriptor μ'.1.desc).map (fun s => s.parameters.length) = some n ∧ μ'.2.2.1 ≤ 45
def MLv (μ' : MI) (n : Nat) : Prop := MLb μ' n ∧ Cond.instanceMethod μ'.1 ∈ TbL ∧ Cond.selects μ'.1.cls μ'.1 μ'.1 ∈ TbL
def MLs (μ' : MI) (n : Nat) : Prop := MLb μ' n ∧ Cond.static μ'.1 ∈ TbL
def MLi (μ' : MI) (n : Nat) : Prop := MLb μ' n ∧ Cond.instanceMethod μ'.1 ∈ TbL ∧ μ'.1.name = "<init>" ∧ μ'.2.2.2 = none
def LK (own : String) (idx : Nat) (μ' : MI) : Prop := Cond.methodLink own idx μ'.1 ∈ TbL
def LN (own : String) (idx : Nat) (μ' : MI) : Prop := ∃ host : String, Cond.methodLinkNest own idx μ'.1 host ∈ TbL
/-- renaming of a cell -/
def rC (σ : Nat → Nat) : LC → LC
  | .inl x => .inl x
  | .inr (.inl (ci, fs)) => .inr (.inl (ci, fs.map (eV σ)))
  | .inr (.inr (C, rs)) => .inr (.inr (C, rs.map (Option.map σ)))
theorem eV_ren (ρ σ : Nat → Nat) (v : Value) : eV ρ (eV σ v) = eV (fun k => ρ (σ k)) v := by cases v <;> rfl
theorem eC_ren (ρ σ : Nat → Nat) (κ : FieldType → ClassId) (c : LC) : eC ρ κ (rC σ c) = eC (fun k => ρ (σ k)) κ c := by
  rcases c with ⟨ty, m, f | f⟩ | ⟨ci, fs⟩ | ⟨C, rs⟩
  · rfl
  · rfl
  · simp only [rC, eC, List.map_map]
    congr 2
    apply List.map_congr_left
    intro v _
    exact eV_ren ρ σ v
  · have e9 : (fun j => Option.map ρ ((rs.map (Option.map σ)).getD j none)) = fun j => Option.map (fun k => ρ (σ k)) (rs.getD j none) := by
      funext j
      rw [List.getD_eq_getElem?_getD, List.getD_eq_getElem?_getD, List.getElem?_map]
      cases rs[j]? with
      | none => rfl
      | some r => cases r <;> rfl
    simp only [rC, eC, e9, List.length_map]
/-- places by a list: beyond it a place is itself -/
def sg (sl : List Nat) (k : Nat) : Nat := if k < sl.length then sl.getD k 0 else k
def putH (σ : Nat → Nat) (h : LH) : Nat → LH → LH
  | _, [] => h
  | k, c :: t => putH σ (h.set (σ k) (rC σ c)) (k + 1) t
theorem putH_len (σ : Nat → Nat) : ∀ (l h : LH) (k : Nat), (putH σ h k l).length = h.length
  | [], h, k => rfl
  | c :: t, h, k => by simp only [putH]; rw [putH_len σ t]; simp
theorem putH_off (σ : Nat → Nat) : ∀ (l h : LH) (k j : Nat), (∀ i, i < l.length → σ (k + i) ≠ j) → (putH σ h k l)[j]? = h[j]?
  | [], h, k, j, _ => rfl
  | c :: t, h, k, j, hj => by
    simp only [putH]
    rw [putH_off σ t _ (k + 1) j (fun i hi => by have := hj (i + 1) (by simp; omega); rwa [show k + 1 + i = k + (i + 1) by omega])]
    have := hj 0 (by simp)
    rw [List.getElem?_set_ne (by simpa using this)]
theorem putH_on (σ : Nat → Nat) : ∀ (l h : LH) (k : Nat), (∀ i j, i < l.length → j < l.length → σ (k + i) = σ (k + j) → i = j) → (∀ i, i < l.length → σ (k + i) < h.length) → ∀ i, i < l.length → (putH σ h k l)[σ (k + i)]? = (l[i]?).map (rC σ)
  | [], h, k, _, _, i, hi => by simp at hi
  | c :: t, h, k, inj, lt, i, hi => by
    simp only [putH]
    cases i with
    | zero =>
      rw [putH_off σ t _ (k + 1) (σ (k + 0)) (fun i2 hi2 e => by
        have := inj (i2 + 1) 0 (by simp; omega) (by simp) (by rw [← e]; congr 1; omega)
        omega)]
      have := lt 0 (by simp)
      simp only [Nat.add_zero] at this ⊢
      simp [this]
    | succ i =>
      have e : k + (i + 1) = k + 1 + i := by omega
      rw [e, putH_on σ t _ (k + 1) (fun a b ha hb hab => by
        have := inj (a + 1) (b + 1) (by simp; omega) (by simp; omega) (by rw [show k + (a + 1) = k + 1 + a by omega, show k + (b + 1) = k + 1 + b by omega]; exact hab)
        omega) (fun a ha => by rw [List.length_set, show k + 1 + a = k + (a + 1) by omega]; exact lt (a + 1) (by simp; omega)) i (by simpa using hi)]
      simp
/-- the callee's heap is part of the caller's -/
def subB (sl : List Nat) : Bool := va_nd sl && sl.all (fun k => Nat.blt k XB) && Nat.blt sl.length XB
theorem sg_xb {sl : List Nat} (hs : subB sl = true) (k : Nat) : sg sl (XB + k) = XB + k := by
  simp only [subB, Bool.and_eq_true, Nat.blt_eq] at hs
  have := hs.2
  simp only [sg]
  rw [if_neg (by omega)]
theorem sg_inj {sl : List Nat} (hs : subB sl = true) {i j : Nat} (hi : i < sl.length) (hj : j < sl.length) (e : sg sl i = sg sl j) : i = j := by
  simp only [subB, Bool.and_eq_true] at hs
  simp only [sg, hi, hj, if_true, List.getD_eq_getElem?_getD, List.getElem?_eq_getElem, Option.getD_some] at e
  exact va_nd_inj sl hs.1.1 i j _ (List.getElem?_eq_getElem hi) (by rw [List.getElem?_eq_getElem hj, e])
section R6
variable {Γ : Gm} {μ : MI} {d cb sb : Nat} {h : LH} {pc : Nat} {ls : Lo} {st : List Value} {Q : Option Value → LH → Prop}
theorem va_cont {p : Program} {l : Launch} {e : Env} {R : Room} {s : State} {m : MethodId} {args : Array Value} {below : List Frame} {meth : Method} {c : Code} {H : Heap} {locs : List Loc} {cells slots mc ms pc : Nat} {lsr : Array Slot} {rest st0 : List Value} {a : Array Value} {A0 A1 : Nat → Prop} {H0 : Heap} {free : Addr → Prop} {Qw : State → Prop} {n1 mcc : Nat} {ρ1 : Nat → Nat} {Qc : Option Value → LH → Prop}
    (hr : va_Run p l e R s m args below meth c H locs cells slots mc ms (F0 m pc lsr st0) rest (Qx Γ A1 n1 mcc ρ1 Qc a) free) (hS : va_S A0 H0 H locs) (hA : ∀ q, q < H.size → A1 q → A0 q) (hf : ∀ q, free q → A0 q)
    (kk : ∀ (v : Option Value) (h' : LH) (ρ' : Nat → Nat) (H1 : Heap) (locs1 : List Loc), Qc v h' → (∀ k, k < n1 ∨ XB ≤ k → ρ' k = ρ1 k) → n1 ≤ h'.length → h'.length ≤ n1 + mcc → (h'.length = n1 → ρ' = ρ1) → va_P Γ.1 clX (eH ρ' Γ.2.1 h') H1 → va_D A1 (eH ρ' Γ.2.1 h') → H.size ≤ H1.size → (∀ q : Nat, q < H.size → ¬ A1 q → H1[q]? = H[q]?) → va_S A0 H0 H1 locs1 → W p l e R s m args below meth c H1 locs1 (cells + mc) (slots + ms) Qw (F0 m (pc + 3) lsr ((v.map (eV ρ')).toList ++ rest))) : W p l e R s m args below meth c H locs cells slots Qw (F0 m pc lsr st0) := by
  intro T hT X
  obtain ⟨v0, st₀, t, T', L, h0, X', hL, e1, e2, ⟨⟨v, h', ρ', hv, hp, q1, q2, q3, q4, hP, hD⟩, hz, hk⟩, st⟩ := hr T hT X
  rw [h0] at hz hk
  have hv' : v0 = v.map (eV ρ') := by injection hv
  subst hv'
  obtain ⟨t2, a1, b1⟩ := kk v h' ρ' T'.heap (locs ++ L) hp q1 q2 q3 q4 (by rw [e1]; exact hP) hD (by rw [e1]; exact hz) (fun q h1 h2 => by rw [e1]; exact hk q h1 h2)
    ⟨Nat.le_trans hS.1 (by rw [e1]; exact hz), fun q h1 h2 => by rw [e1, hk q (Nat.lt_of_lt_of_le h1 hS.1) (fun z => h2 (hA q (Nat.lt_of_lt_of_le h1 hS.1) z))]; exact hS.2.1 q h1 h2, fun q hq => by
      rcases List.mem_append.mp hq with h | h
      · exact hS.2.2 q h
      · exact hf _ (hL q h)⟩ T' rfl X'
  exact ⟨t2, st t2 a1, b1⟩
/-- the callee's heap hl lies in h by sl -/
def Sub (sl : List Nat) (h hl : LH) : Prop := subB sl = true ∧ sl.length = hl.length ∧ ∀ (k : Nat) (c : LC), hl[k]? = some c → h[sg sl k]? = some (rC (sg sl) c)
theorem Sub.of {sl : List Nat} {h hl : LH} (h1 : subB sl = true) (h2 : sl.map (fun a => h[a]?) = hl.map (fun c => some (rC (sg sl) c))) : Sub sl h hl := by
  have hlen : sl.length = hl.length := by have := congrArg List.length h2; simpa using this
  refine ⟨h1, hlen, fun k c hk => ?_⟩
  have hlt : k < hl.length := (List.getElem?_eq_some_iff.mp hk).1
  have h3 := congrArg (fun l => l[k]?) h2
  simp only [List.getElem?_map, hk, Option.map_some] at h3
  have h4 : k < sl.length := by omega
  rw [List.getElem?_eq_getElem h4] at h3
  simp only [Option.map_some, Option.some.injEq] at h3
  have h5 : sg sl k = sl[k] := by simp [sg, h4, List.getD_eq_getElem?_getD]
  rw [h5]; exact h3
theorem Sub.P {sl : List Nat} {h hl : LH} {ρ : Nat → Nat} {H : Heap} (S : Sub sl h hl) (hP : va_P Γ.1 clX (eH ρ Γ.2.1 h) H) : va_P Γ.1 clX (eH (fun k => ρ (sg sl k)) Γ.2.1 hl) H := by
  intro k q hq
  rw [eH_get] at hq
  cases hk : hl[k]? with
  | none => simp [hk] at hq
  | some c =>
    rw [hk] at hq
    simp only [Option.map_some, Option.some.injEq] at hq
    subst hq
    have := hP (sg sl k) _ (eH_at (S.2.2 k c hk))
    rw [eC_ren] at this
    exact this
theorem Sub.at {sl : List Nat} {h hl : LH} {ρ : Nat → Nat} {κ : FieldType → ClassId} {k : Nat} {q : Nat × va_E} (S : Sub sl h hl) (hq : (eH (fun k => ρ (sg sl k)) κ hl)[k]? = some q) : k < sl.length ∧ q.1 = ρ (sg sl k) ∧ ∃ e, (eH ρ κ h)[sg sl k]? = some (ρ (sg sl k), e) := by
  rw [eH_get] at hq
  cases hk : hl[k]? with
  | none => simp [hk] at hq
  | some c =>
    rw [hk] at hq
    simp only [Option.map_some, Option.some.injEq] at hq
    subst hq
    exact ⟨by rw [S.2.1]; exact (List.getElem?_eq_some_iff.mp hk).1, rfl, _, eH_at (S.2.2 k c hk)⟩
theorem Sub.D {sl : List Nat} {h hl : LH} {ρ : Nat → Nat} {A : Nat → Prop} {κ : FieldType → ClassId} (S : Sub sl h hl) (hD : va_D A (eH ρ κ h)) : va_D A (eH (fun k => ρ (sg sl k)) κ hl) := by
  refine ⟨fun i j p q hp hq e => ?_, fun k q hq => ?_⟩
  · obtain ⟨i1, i2, e1, i3⟩ := S.at hp
    obtain ⟨j1, j2, e2, j3⟩ := S.at hq
    exact sg_inj S.1 i1 j1 (hD.1 _ _ _ _ i3 j3 (by show ρ _ = ρ _; rw [← i2, ← j2]; exact e))
  · obtain ⟨i1, i2, e1, i3⟩ := S.at hq
    rw [i2]
    exact hD.2 _ _ i3
theorem free_of {hl : LH} {ρ : Nat → Nat} {A : Nat → Prop} {κ : FieldType → ClassId} {H0 H : Heap} {locs : List Loc} (hD : va_D A (eH ρ κ hl)) (hS : va_S A H0 H locs) (hA : ∀ q : Nat, H0.size ≤ q → A q) : ∀ q, va_A (eH ρ κ hl) H.size q → A q := by
  intro q z
  rcases z with ⟨k, e, z⟩ | z
  · exact hD.2 k _ z
  · exact hA q (Nat.le_trans hS.1 z)
/-- the new heap of a caller when the callee has made nothing -/
theorem Sub.join {sl : List Nat} {h hl hl' : LH} {ρ : Nat → Nat} {A : Nat → Prop} {H H1 : Heap} (S : Sub sl h hl) (hP : va_P Γ.1 clX (eH ρ Γ.2.1 h) H) (hD : va_D A (eH ρ Γ.2.1 h)) (hlen : hl'.length = hl.length) (hP1 : va_P Γ.1 clX (eH (fun k => ρ (sg sl k)) Γ.2.1 hl') H1)
    (hk : ∀ q : Nat, q < H.size → ¬ va_A (eH (fun k => ρ (sg sl k)) Γ.2.1 hl) H.size q → H1[q]? = H[q]?) : va_P Γ.1 clX (eH ρ Γ.2.1 (putH (sg sl) h 0 hl')) H1 ∧ va_D A (eH ρ Γ.2.1 (putH (sg sl) h 0 hl')) := by
  have hlt : ∀ i, i < hl'.length → sg sl (0 + i) < h.length := by
    intro i hi
    rw [Nat.zero_add]
    obtain ⟨c, hc⟩ : ∃ c, hl[i]? = some c := ⟨hl[i]'(by omega), List.getElem?_eq_getElem _⟩
    exact (List.getElem?_eq_some_iff.mp (S.2.2 i c hc)).1
  have hinj : ∀ i j, i < hl'.length → j < hl'.length → sg sl (0 + i) = sg sl (0 + j) → i = j := by
    intro i j hi hj e
    rw [Nat.zero_add, Nat.zero_add] at e
    exact sg_inj S.1 (by rw [S.2.1]; omega) (by rw [S.2.1]; omega) e
  have hon := putH_on (sg sl) hl' h 0 hinj hlt
  constructor
  · intro j q hq
    rw [eH_get] at hq
    cases hj : (putH (sg sl) h 0 hl')[j]? with
    | none => simp [hj] at hq
    | some c =>
      rw [hj] at hq
      simp only [Option.map_some, Option.some.injEq] at hq
      subst hq
      by_cases hex : ∃ i, i < hl'.length ∧ sg sl (0 + i) = j
      · obtain ⟨i, hi, rfl⟩ := hex
        rw [hon i hi] at hj
        cases hi2 : hl'[i]? with
        | none => simp [hi2] at hj
        | some c' =>
          rw [hi2] at hj
          simp only [Option.map_some, Option.some.injEq] at hj
          subst hj
          have := hP1 i _ (eH_at hi2)
          rw [eC_ren, Nat.zero_add]
          exact this
      · have hoff := putH_off (sg sl) hl' h 0 j (fun i hi e => hex ⟨i, hi, e⟩)
        rw [hoff] at hj
        have hat := hP j _ (eH_at hj)
        refine hat.kept (hk _ hat.lt ?_)
        rintro (⟨k, e, z⟩ | z)
        · obtain ⟨i1, i2, e1, i3⟩ := S.at z
          have := hD.1 _ _ _ _ (eH_at hj) i3 (by show ρ j = ρ _; exact i2)
          exact hex ⟨k, by rw [hlen, ← S.2.1]; exact i1, by rw [Nat.zero_add]; exact this.symm⟩
        · exact absurd hat.lt (by show ¬ ρ j < H.size; omega)
  · have hidx : ∀ (k : Nat) (q : Nat × va_E), (eH ρ Γ.2.1 (putH (sg sl) h 0 hl'))[k]? = some q → q.1 = ρ k ∧ ∃ e, (eH ρ Γ.2.1 h)[k]? = some (ρ k, e) := by
      intro k q hq
      rw [eH_get] at hq
      cases hj : (putH (sg sl) h 0 hl')[k]? with
      | none => simp [hj] at hq
      | some c =>
        rw [hj] at hq
        simp only [Option.map_some, Option.some.injEq] at hq
        subst hq
        have hkl : k < h.length := by
          have := (List.getElem?_eq_some_iff.mp hj).1
          rwa [putH_len] at this
        exact ⟨rfl, _, eH_at (List.getElem?_eq_getElem hkl)⟩
    refine ⟨fun i j p q hp hq e => ?_, fun k q hq => ?_⟩
    · obtain ⟨i2, e1, i3⟩ := hidx i p hp
      obtain ⟨j2, e2, j3⟩ := hidx j q hq
      exact hD.1 _ _ _ _ i3 j3 (by show ρ _ = ρ _; rw [← i2, ← j2]; exact e)
    · obtain ⟨i2, e1, i3⟩ := hidx k q hq
      rw [i2]
      exact hD.2 _ _ i3
theorem pre_of {p : Program} {R : Room} {s : State} {m : MethodId} {args : Array Value} {meth : Method} {c : Code} {H : Heap} {locs : List Loc} {cells slots : Nat} {A : Nat → Prop} {ρ ρ0 ρc : Nat → Nat} {n0 mc ms : Nat} {lsr : Array Slot} {al : List Value} {hl : LH} (F : Fix Γ μ A p s m args meth c) (D : Dyn Γ μ A d cb sb h ls R s H locs cells slots ρ ρ0 n0 mc ms lsr) (hP : va_P Γ.1 clX (eH ρc Γ.2.1 hl) H) (hD : va_D A (eH ρc Γ.2.1 hl)) (hρ : ∀ k, ρc (XB + k) = Γ.2.2.1 k) :
    ∀ U : State, U.heap = H → s.WarmedH U.vm → Pcx Γ ρc al hl H.size (al.map (eV ρc)).toArray U := by
  intro U hU hW
  refine ⟨rfl, by rw [hU], by rw [hU]; exact hP, va_K.moved hW.alike F.2.2.2.2.2.2.2.2.1, hD.weaken (fun _ _ _ _ => trivial), F.2.2.2.2.2.2.2.1.warm hW, ?_, hρ⟩
  have hS := D.2.2.1
  exact exX.go (H := U.heap) F.2.2.2.2.2.2.2.2.2.1 hW (by rw [hU]; exact hS.1) (fun a h1 h2 => by rw [hU]; exact hS.2.1 a h1 h2) (free_of hD hS F.2.2.2.2.2.2.2.2.2.2)
theorem sumCat (ρ : Nat → Nat) (st : List Value) : ((st.map (eV ρ)).map fun v => v.category).sum = (st.map Value.category).sum := by
  rw [List.map_map]; congr 1; apply List.map_congr_left; intro v _; exact eV_cat ρ v
def rmx (R : Room) (cb sb : Nat) : Room := { frames := R.frames - 1, cells := cb, slots := sb, locals := R.locals - 64 }
theorem callB_x {μ' : MI} {n idx d' cb' sb' : Nat} {own : String} {R : Room} {s : State} {args : Array Value} (hT : Tb args s) (hb : MLb μ' n) (hl : LK own idx μ') (hd : d' < d) (h1 : d ≤ R.frames) (h2 : 64 * d ≤ R.locals) : CallB R s args own idx μ'.1 μ'.2.1 μ'.2.2.1 μ'.2.2.2 [.code μ'.1 μ'.2.1 μ'.2.2.1 μ'.2.2.2] (rmx R cb' sb') cb' sb' n := by
  obtain ⟨b1, b2, b3, b4, b5⟩ := hb
  refine ⟨rfl, rfl, by show R.frames - 1 + 1 ≤ _; omega, by show 8 + (_ + 11) + (R.locals - 64) ≤ _; omega, fun w hw a' U hW => ?_, List.mem_singleton.mpr rfl, hT.all _ b1, hT.all _ b2, b3, fun sig hs => ?_, hT.all _ hl⟩
  · rw [List.mem_singleton.mp hw]; exact word_at hW (Or.inl rfl) (hT.all _ b1)
  · rw [hs] at b4; exact (Option.some.inj b4).symm
theorem callN_x {μ' : MI} {n idx d' cb' sb' : Nat} {own : String} {R : Room} {s : State} {args : Array Value} (hT : Tb args s) (hb : MLb μ' n) (hl : LN own idx μ') (hd : d' < d) (h1 : d ≤ R.frames) (h2 : 64 * d ≤ R.locals) : ∃ host, va_CN R s args own idx μ'.1 host μ'.2.1 μ'.2.2.1 μ'.2.2.2 [.code μ'.1 μ'.2.1 μ'.2.2.1 μ'.2.2.2] (rmx R cb' sb') cb' sb' n := by
  obtain ⟨b1, b2, b3, b4, b5⟩ := hb
  obtain ⟨host, hl⟩ := hl
  refine ⟨host, ⟨rfl, rfl, by show R.frames - 1 + 1 ≤ _; omega, by show 8 + (_ + 11) + (R.locals - 64) ≤ _; omega, fun w hw a' U hW => ?_, List.mem_singleton.mpr rfl⟩, hT.all _ b1, hT.all _ b2, b3, fun sig hs => ?_, hT.all _ hl⟩
  · rw [List.mem_singleton.mp hw]; exact word_at hW (Or.inl rfl) (hT.all _ b1)
  · rw [hs] at b4; exact (Option.some.inj b4).symm
/-- behind a call -/
def retS (σ : Nat → Nat) (v : Option Value) (st : List Value) : List Value := match v with
  | none => st
  | some x => eV σ x :: st
def ret0 (v : Option Value) (st : List Value) : List Value := match v with
  | none => st
  | some x => x :: st
/-- the rest of the caller, over the same heap -/
def Kid (Γ : Gm) (μ : MI) (d cb sb q : Nat) (ls : Lo) (st : List Value) (Q : Option Value → LH → Prop) : Option Value → LH → Prop := fun v h' => WP Γ μ d cb sb h' q ls (ret0 v st) Q
/-- the rest of the caller, the callee's heap put back -/
def Ksub (Γ : Gm) (μ : MI) (d cb sb q : Nat) (h : LH) (sl : List Nat) (ls : Lo) (st : List Value) (Q : Option Value → LH → Prop) : Option Value → LH → Prop := fun v hl' => WP Γ μ d cb sb (putH (sg sl) h 0 hl') q ls (retS (sg sl) v st) Q
theorem kI {h' : LH} {q : Nat} {x : Int32} (k : WP Γ μ d cb sb h' q ls (.int x :: st) Q) : Kid Γ μ d cb sb q ls st Q (some (.int x)) h' := k
theorem kL {h' : LH} {q : Nat} {x : Int64} (k : WP Γ μ d cb sb h' q ls (.long x :: st) Q) : Kid Γ μ d cb sb q ls st Q (some (.long x)) h' := k
theorem kV {h' : LH} {q : Nat} (k : WP Γ μ d cb sb h' q ls st Q) : Kid Γ μ d cb sb q ls st Q none h' := k
theorem sI {h hl' : LH} {sl : List Nat} {q : Nat} {x : Int32} (k : WP Γ μ d cb sb (putH (sg sl) h 0 hl') q ls (.int x :: st) Q) : Ksub Γ μ d cb sb q h sl ls st Q (some (.int x)) hl' := k
theorem sL {h hl' : LH} {sl : List Nat} {q : Nat} {x : Int64} (k : WP Γ μ d cb sb (putH (sg sl) h 0 hl') q ls (.long x :: st) Q) : Ksub Γ μ d cb sb q h sl ls st Q (some (.long x)) hl' := k
theorem sV {h hl' : LH} {sl : List Nat} {q : Nat} (k : WP Γ μ d cb sb (putH (sg sl) h 0 hl') q ls st Q) : Ksub Γ μ d cb sb q h sl ls st Q none hl' := k
theorem cont_id {p : Program} {l : Launch} {e : Env} {R : Room} {s : State} {m : MethodId} {args : Array Value} {below : List Frame} {meth : Method} {c : Code} {H : Heap} {locs : List Loc} {cells slots : Nat} {A : Nat → Prop} {ρ ρ0 : Nat → Nat} {n0 mc ms : Nat} {lsr : Array Slot} {q : Nat} {st0 : List Value} {a : Array Value} (F : Fix Γ μ A p s m args meth c) (D : Dyn Γ μ A d cb sb h ls R s H locs cells slots ρ ρ0 n0 mc ms lsr) (hp : pc + 3 = q)
    (hr : va_Run p l e R s m args below meth c H locs cells slots 0 0 (F0 m pc lsr st0) (st.map (eV ρ)) (Qx Γ (va_A (eH ρ Γ.2.1 h) H.size) h.length 0 ρ (Kid Γ μ d cb sb q ls st Q) a) (va_A (eH ρ Γ.2.1 h) H.size)) : W p l e R s m args below meth c H locs cells slots (MQ below (Qx Γ A n0 mc ρ0 Q) args s mc ms A) (F0 m pc lsr st0) := by
  subst hp
  have hf := free_of D.2.1 D.2.2.1 F.2.2.2.2.2.2.2.2.2.2
  refine va_cont hr D.2.2.1 (fun q _ z => hf q z) hf (fun v h' ρ' H1 locs1 hq _ q2 q3 q4 hP1 hD1 _ _ hS1 => ?_)
  have hlen : h'.length = h.length := by omega
  have hρ := q4 hlen
  subst hρ
  obtain ⟨-, -, -, d4, d5, d6, d7, d8, d9⟩ := D
  have hk := hq p l e R s m args below meth c H1 locs1 (cells + 0) (slots + 0) A ρ' ρ0 n0 mc ms lsr F ⟨hP1, hD1.weaken (fun k q _ z => hf q.1 z), hS1, d4, d5, by omega, by omega, fun z => d8 (by omega), d9⟩
  cases v <;> exact hk
theorem cont_sub {p : Program} {l : Launch} {e : Env} {R : Room} {s : State} {m : MethodId} {args : Array Value} {below : List Frame} {meth : Method} {c : Code} {H : Heap} {locs : List Loc} {cells slots : Nat} {A : Nat → Prop} {ρ ρ0 : Nat → Nat} {n0 mc ms : Nat} {lsr : Array Slot} {q : Nat} {sl : List Nat} {hl : LH} {st0 : List Value} {a : Array Value} (F : Fix Γ μ A p s m args meth c) (D : Dyn Γ μ A d cb sb h ls R s H locs cells slots ρ ρ0 n0 mc ms lsr) (hp : pc + 3 = q) (S : Sub sl h hl)
    (hr : va_Run p l e R s m args below meth c H locs cells slots 0 0 (F0 m pc lsr st0) (st.map (eV ρ)) (Qx Γ (va_A (eH (fun k => ρ (sg sl k)) Γ.2.1 hl) H.size) hl.length 0 (fun k => ρ (sg sl k)) (Ksub Γ μ d cb sb q h sl ls st Q) a) (va_A (eH (fun k => ρ (sg sl k)) Γ.2.1 hl) H.size)) : W p l e R s m args below meth c H locs cells slots (MQ below (Qx Γ A n0 mc ρ0 Q) args s mc ms A) (F0 m pc lsr st0) := by
  subst hp
  have hf := free_of (S.D D.2.1) D.2.2.1 F.2.2.2.2.2.2.2.2.2.2
  refine va_cont hr D.2.2.1 (fun q _ z => hf q z) hf (fun v h' ρ' H1 locs1 hq _ q2 q3 q4 hP1 hD1 _ hk1 hS1 => ?_)
  have hlen : h'.length = hl.length := by omega
  have hρ := q4 hlen
  subst hρ
  obtain ⟨jP, jD⟩ := S.join D.1 D.2.1 hlen hP1 hk1
  obtain ⟨-, -, -, d4, d5, d6, d7, d8, d9⟩ := D
  have hk := hq p l e R s m args below meth c H1 locs1 (cells + 0) (slots + 0) A ρ ρ0 n0 mc ms lsr F ⟨jP, jD, hS1, d4, d5, by rw [putH_len]; exact d6, by rw [putH_len]; exact d7, by rw [putH_len]; exact d8, d9⟩
  cases v with
  | none => exact hk
  | some x =>
    simp only [retS, List.map_cons, eV_ren] at hk
    exact hk
theorem wp_V0 (q : Nat) (μ' : MI) (d' : Nat) {b ci : Nat} {fs : List Value} {r : vw_C} {idx : Nat} (hd : decode μ.2.1 pc = .ok (.invokevirtual idx, 3)) (hp : pc + 3 = q) (hm : MLv μ' 0) (hk : LK μ.1.cls idx μ') (hdd : Nat.blt d' d = true) (hb : h[b]? = some (cO ci fs)) (hc : clX[ci]? = some r) (hC : r.1 = μ'.1.cls) (hst : Nat.ble (st.map Value.category).sum 8 = true) (k : Call Γ μ' d' 0 0 (.ref b :: []) h (Kid Γ μ d cb sb q ls st Q)) : WP Γ μ d cb sb h pc ls (.ref b :: st) Q := by
  have hd3 : d' < d := Nat.le_of_ble_eq_true hdd
  have hst8 : (st.map Value.category).sum ≤ 8 := Nat.le_of_ble_eq_true hst
  intro p l e R s m args below meth c H locs cells slots A ρ ρ0 n0 mc ms lsr F D
  have hfr := D.2.2.2.2.2.2.2.2.2.2.2.2.2.1
  have hlo := D.2.2.2.2.2.2.2.2.2.2.2.2.2.2
  have hM := (k l ρ H.size (rmx R 0 0) (by show _ ≤ R.frames - 1; omega) (by show _ ≤ R.locals - 64; omega) rfl rfl)
  have hpre := pre_of (al := (.ref b :: [])) F D D.1 D.2.1 D.2.2.2.2.2.2.2.2.1
  have hrv := va_recv F.2.2.2.2.2.2.2.2.1 D.1 hc (eH_at hb)
  rw [hC] at hrv
  exact cont_id F D hp (va_runV (As := ([].map (eV ρ))) (rest := st.map (eV ρ)) (b := ρ b) ⟨F.1, F.2.1, F.2.2.1, F.2.2.2.2.2.2.1, F.2.2.2.2.2.2.2.1.all⟩ hM ⟨callB_x F.2.2.2.2.2.2.2.1 hm.1 hk hd3 hfr hlo, F.2.2.2.2.2.2.2.1.all _ hm.2.1, F.2.2.2.2.2.2.2.1.all _ hm.2.2⟩ ⟨Pcx.blind, hrv, hpre⟩ rfl (by simp) D.2.2.2.1.1 (by simp only [List.map_cons, List.map_nil, List.reverse_cons, List.reverse_nil, List.nil_append, List.cons_append, List.append_assoc, eV_ref]) (by rw [sumCat]; show 2 * 0 + _ ≤ 8; omega) hd ⟨by have := D.2.2.2.2.2.2.2.2.2; omega, by have := D.2.2.2.2.2.2.2.2.2; omega⟩)
theorem ws_V0 (q : Nat) (μ' : MI) (d' : Nat) (sl : List Nat) (hl : LH) {b b' ci : Nat} {fs : List Value} {r : vw_C} {idx : Nat} (hd : decode μ.2.1 pc = .ok (.invokevirtual idx, 3)) (hp : pc + 3 = q) (hm : MLv μ' 0) (hk : LK μ.1.cls idx μ') (hdd : Nat.blt d' d = true) (hs1 : subB sl = true) (hs2 : sl.map (fun a => h[a]?) = hl.map (fun c => some (rC (sg sl) c))) (hb : h[b]? = some (cO ci fs)) (hc : clX[ci]? = some r) (hC : r.1 = μ'.1.cls) (eb : sg sl b' = b) (hst : Nat.ble (st.map Value.category).sum 8 = true) (k : Call Γ μ' d' 0 0 (.ref b' :: []) hl (Ksub Γ μ d cb sb q h sl ls st Q)) : WP Γ μ d cb sb h pc ls (.ref b :: st) Q := by
  have S := Sub.of hs1 hs2
  subst eb
  have hd3 : d' < d := Nat.le_of_ble_eq_true hdd
  have hst8 : (st.map Value.category).sum ≤ 8 := Nat.le_of_ble_eq_true hst
  intro p l e R s m args below meth c H locs cells slots A ρ ρ0 n0 mc ms lsr F D
  have hfr := D.2.2.2.2.2.2.2.2.2.2.2.2.2.1
  have hlo := D.2.2.2.2.2.2.2.2.2.2.2.2.2.2
  have hM := (k l (fun k => ρ (sg sl k)) H.size (rmx R 0 0) (by show _ ≤ R.frames - 1; omega) (by show _ ≤ R.locals - 64; omega) rfl rfl)
  have hpre := pre_of (al := (.ref b' :: [])) F D (S.P D.1) (S.D D.2.1) (fun k => by rw [sg_xb hs1]; exact D.2.2.2.2.2.2.2.2.1 k)
  have hrv := va_recv F.2.2.2.2.2.2.2.2.1 D.1 hc (eH_at hb)
  rw [hC] at hrv
  exact cont_sub F D hp S (va_runV (As := ([].map (eV fun k => ρ (sg sl k)))) (rest := st.map (eV ρ)) (b := ρ (sg sl b')) ⟨F.1, F.2.1, F.2.2.1, F.2.2.2.2.2.2.1, F.2.2.2.2.2.2.2.1.all⟩ hM ⟨callB_x F.2.2.2.2.2.2.2.1 hm.1 hk hd3 hfr hlo, F.2.2.2.2.2.2.2.1.all _ hm.2.1, F.2.2.2.2.2.2.2.1.all _ hm.2.2⟩ ⟨Pcx.blind, hrv, hpre⟩ rfl (by simp) D.2.2.2.1.1 (by simp only [List.map_cons, List.map_nil, List.reverse_cons, List.reverse_nil, List.nil_append, List.cons_append, List.append_assoc, eV_ref, eV_ren]) (by rw [sumCat]; show 2 * 0 + _ ≤ 8; omega) hd ⟨by have := D.2.2.2.2.2.2.2.2.2; omega, by have := D.2.2.2.2.2.2.2.2.2; omega⟩)
theorem wp_V1 (q : Nat) (μ' : MI) (d' : Nat) {b ci : Nat} {fs : List Value} {r : vw_C} {v1 : Value} {idx : Nat} (hd : decode μ.2.1 pc = .ok (.invokevirtual idx, 3)) (hp : pc + 3 = q) (hm : MLv μ' 1) (hk : LK μ.1.cls idx μ') (hdd : Nat.blt d' d = true) (hb : h[b]? = some (cO ci fs)) (hc : clX[ci]? = some r) (hC : r.1 = μ'.1.cls) (hst : Nat.ble (st.map Value.category).sum 8 = true) (k : Call Γ μ' d' 0 0 (.ref b :: [v1]) h (Kid Γ μ d cb sb q ls st Q)) : WP Γ μ d cb sb h pc ls (v1 :: .ref b :: st) Q := by
  have hd3 : d' < d := Nat.le_of_ble_eq_true hdd
  have hst8 : (st.map Value.category).sum ≤ 8 := Nat.le_of_ble_eq_true hst
  intro p l e R s m args below meth c H locs cells slots A ρ ρ0 n0 mc ms lsr F D
  have hfr := D.2.2.2.2.2.2.2.2.2.2.2.2.2.1
  have hlo := D.2.2.2.2.2.2.2.2.2.2.2.2.2.2
  have hM := (k l ρ H.size (rmx R 0 0) (by show _ ≤ R.frames - 1; omega) (by show _ ≤ R.locals - 64; omega) rfl rfl)
  have hpre := pre_of (al := (.ref b :: [v1])) F D D.1 D.2.1 D.2.2.2.2.2.2.2.2.1
  have hrv := va_recv F.2.2.2.2.2.2.2.2.1 D.1 hc (eH_at hb)
  rw [hC] at hrv
  exact cont_id F D hp (va_runV (As := ([v1].map (eV ρ))) (rest := st.map (eV ρ)) (b := ρ b) ⟨F.1, F.2.1, F.2.2.1, F.2.2.2.2.2.2.1, F.2.2.2.2.2.2.2.1.all⟩ hM ⟨callB_x F.2.2.2.2.2.2.2.1 hm.1 hk hd3 hfr hlo, F.2.2.2.2.2.2.2.1.all _ hm.2.1, F.2.2.2.2.2.2.2.1.all _ hm.2.2⟩ ⟨Pcx.blind, hrv, hpre⟩ rfl (by simp) D.2.2.2.1.1 (by simp only [List.map_cons, List.map_nil, List.reverse_cons, List.reverse_nil, List.nil_append, List.cons_append, List.append_assoc, eV_ref]) (by rw [sumCat]; show 2 * 0 + _ ≤ 8; omega) hd ⟨by have := D.2.2.2.2.2.2.2.2.2; omega, by have := D.2.2.2.2.2.2.2.2.2; omega⟩)
theorem ws_V1 (q : Nat) (μ' : MI) (d' : Nat) (sl : List Nat) (hl : LH) {b b' ci : Nat} {fs : List Value} {r : vw_C} {v1 v1' : Value} {idx : Nat} (hd : decode μ.2.1 pc = .ok (.invokevirtual idx, 3)) (hp : pc + 3 = q) (hm : MLv μ' 1) (hk : LK μ.1.cls idx μ') (hdd : Nat.blt d' d = true) (hs1 : subB sl = true) (hs2 : sl.map (fun a => h[a]?) = hl.map (fun c => some (rC (sg sl) c))) (hb : h[b]? = some (cO ci fs)) (hc : clX[ci]? = some r) (hC : r.1 = μ'.1.cls) (eb : sg sl b' = b) (ev1 : eV (sg sl) v1' = v1) (hst : Nat.ble (st.map Value.category).sum 8 = true) (k : Call Γ μ' d' 0 0 (.ref b' :: [v1']) hl (Ksub Γ μ d cb sb q h sl ls st Q)) : WP Γ μ d cb sb h pc ls (v1 :: .ref b :: st) Q := by
  have S := Sub.of hs1 hs2
  subst ev1
  subst eb
  have hd3 : d' < d := Nat.le_of_ble_eq_true hdd
  have hst8 : (st.map Value.category).sum ≤ 8 := Nat.le_of_ble_eq_true hst
  intro p l e R s m args below meth c H locs cells slots A ρ ρ0 n0 mc ms lsr F D
  have hfr := D.2.2.2.2.2.2.2.2.2.2.2.2.2.1
  have hlo := D.2.2.2.2.2.2.2.2.2.2.2.2.2.2
  have hM := (k l (fun k => ρ (sg sl k)) H.size (rmx R 0 0) (by show _ ≤ R.frames - 1; omega) (by show _ ≤ R.locals - 64; omega) rfl rfl)
  have hpre := pre_of (al := (.ref b' :: [v1'])) F D (S.P D.1) (S.D D.2.1) (fun k => by rw [sg_xb hs1]; exact D.2.2.2.2.2.2.2.2.1 k)
  have hrv := va_recv F.2.2.2.2.2.2.2.2.1 D.1 hc (eH_at hb)
  rw [hC] at hrv
  exact cont_sub F D hp S (va_runV (As := ([v1'].map (eV fun k => ρ (sg sl k)))) (rest := st.map (eV ρ)) (b := ρ (sg sl b')) ⟨F.1, F.2.1, F.2.2.1, F.2.2.2.2.2.2.1, F.2.2.2.2.2.2.2.1.all⟩ hM ⟨callB_x F.2.2.2.2.2.2.2.1 hm.1 hk hd3 hfr hlo, F.2.2.2.2.2.2.2.1.all _ hm.2.1, F.2.2.2.2.2.2.2.1.all _ hm.2.2⟩ ⟨Pcx.blind, hrv, hpre⟩ rfl (by simp) D.2.2.2.1.1 (by simp only [List.map_cons, List.map_nil, List.reverse_cons, List.reverse_nil, List.nil_append, List.cons_append, List.append_assoc, eV_ref, eV_ren]) (by rw [sumCat]; show 2 * 0 + _ ≤ 8; omega) hd ⟨by have := D.2.2.2.2.2.2.2.2.2; omega, by have := D.2.2.2.2.2.2.2.2.2; omega⟩)
theorem wp_V2 (q : Nat) (μ' : MI) (d' : Nat) {b ci : Nat} {fs : List Value} {r : vw_C} {v1 v2 : Value} {idx : Nat} (hd : decode μ.2.1 pc = .ok (.invokevirtual idx, 3)) (hp : pc + 3 = q) (hm : MLv μ' 2) (hk : LK μ.1.cls idx μ') (hdd : Nat.blt d' d = true) (hb : h[b]? = some (cO ci fs)) (hc : clX[ci]? = some r) (hC : r.1 = μ'.1.cls) (hst : Nat.ble (st.map Value.category).sum 8 = true) (k : Call Γ μ' d' 0 0 (.ref b :: [v1, v2]) h (Kid Γ μ d cb sb q ls st Q)) : WP Γ μ d cb sb h pc ls (v2 :: v1 :: .ref b :: st) Q := by
  have hd3 : d' < d := Nat.le_of_ble_eq_true hdd
  have hst8 : (st.map Value.category).sum ≤ 8 := Nat.le_of_ble_eq_true hst
  intro p l e R s m args below meth c H locs cells slots A ρ ρ0 n0 mc ms lsr F D
  have hfr := D.2.2.2.2.2.2.2.2.2.2.2.2.2.1
  have hlo := D.2.2.2.2.2.2.2.2.2.2.2.2.2.2
  have hM := (k l ρ H.size (rmx R 0 0) (by show _ ≤ R.frames - 1; omega) (by show _ ≤ R.locals - 64; omega) rfl rfl)
  have hpre := pre_of (al := (.ref b :: [v1, v2])) F D D.1 D.2.1 D.2.2.2.2.2.2.2.2.1
  have hrv := va_recv F.2.2.2.2.2.2.2.2.1 D.1 hc (eH_at hb)
  rw [hC] at hrv
  exact cont_id F D hp (va_runV (As := ([v1, v2].map (eV ρ))) (rest := st.map (eV ρ)) (b := ρ b) ⟨F.1, F.2.1, F.2.2.1, F.2.2.2.2.2.2.1, F.2.2.2.2.2.2.2.1.all⟩ hM ⟨callB_x F.2.2.2.2.2.2.2.1 hm.1 hk hd3 hfr hlo, F.2.2.2.2.2.2.2.1.all _ hm.2.1, F.2.2.2.2.2.2.2.1.all _ hm.2.2⟩ ⟨Pcx.blind, hrv, hpre⟩ rfl (by simp) D.2.2.2.1.1 (by simp only [List.map_cons, List.map_nil, List.reverse_cons, List.reverse_nil, List.nil_append, List.cons_append, List.append_assoc, eV_ref]) (by rw [sumCat]; show 2 * 0 + _ ≤ 8; omega) hd ⟨by have := D.2.2.2.2.2.2.2.2.2; omega, by have := D.2.2.2.2.2.2.2.2.2; omega⟩)
theorem ws_V2 (q : Nat) (μ' : MI) (d' : Nat) (sl : List Nat) (hl : LH) {b b' ci : Nat} {fs : List Value} {r : vw_C} {v1 v2 v1' v2' : Value} {idx : Nat} (hd : decode μ.2.1 pc = .ok (.invokevirtual idx, 3)) (hp : pc + 3 = q) (hm : MLv μ' 2) (hk : LK μ.1.cls idx μ') (hdd : Nat.blt d' d = true) (hs1 : subB sl = true) (hs2 : sl.map (fun a => h[a]?) = hl.map (fun c => some (rC (sg sl) c))) (hb : h[b]? = some (cO ci fs)) (hc : clX[ci]? = some r) (hC : r.1 = μ'.1.cls) (eb : sg sl b' = b) (ev1 : eV (sg sl) v1' = v1) (ev2 : eV (sg sl) v2' = v2) (hst : Nat.ble (st.map Value.category).sum 8 = true) (k : Call Γ μ' d' 0 0 (.ref b' :: [v1', v2']) hl (Ksub Γ μ d cb sb q h sl ls st Q)) : WP Γ μ d cb sb h pc ls (v2 :: v1 :: .ref b :: st) Q := by
  have S := Sub.of hs1 hs2
  subst ev1
  subst ev2
  subst eb
  have hd3 : d' < d := Nat.le_of_ble_eq_true hdd
  have hst8 : (st.map Value.category).sum ≤ 8 := Nat.le_of_ble_eq_true hst
  intro p l e R s m args below meth c H locs cells slots A ρ ρ0 n0 mc ms lsr F D
  have hfr := D.2.2.2.2.2.2.2.2.2.2.2.2.2.1
  have hlo := D.2.2.2.2.2.2.2.2.2.2.2.2.2.2
  have hM := (k l (fun k => ρ (sg sl k)) H.size (rmx R 0 0) (by show _ ≤ R.frames - 1; omega) (by show _ ≤ R.locals - 64; omega) rfl rfl)
  have hpre := pre_of (al := (.ref b' :: [v1', v2'])) F D (S.P D.1) (S.D D.2.1) (fun k => by rw [sg_xb hs1]; exact D.2.2.2.2.2.2.2.2.1 k)
  have hrv := va_recv F.2.2.2.2.2.2.2.2.1 D.1 hc (eH_at hb)
  rw [hC] at hrv
  exact cont_sub F D hp S (va_runV (As := ([v1', v2'].map (eV fun k => ρ (sg sl k)))) (rest := st.map (eV ρ)) (b := ρ (sg sl b')) ⟨F.1, F.2.1, F.2.2.1, F.2.2.2.2.2.2.1, F.2.2.2.2.2.2.2.1.all⟩ hM ⟨callB_x F.2.2.2.2.2.2.2.1 hm.1 hk hd3 hfr hlo, F.2.2.2.2.2.2.2.1.all _ hm.2.1, F.2.2.2.2.2.2.2.1.all _ hm.2.2⟩ ⟨Pcx.blind, hrv, hpre⟩ rfl (by simp) D.2.2.2.1.1 (by simp only [List.map_cons, List.map_nil, List.reverse_cons, List.reverse_nil, List.nil_append, List.cons_append, List.append_assoc, eV_ref, eV_ren]) (by rw [sumCat]; show 2 * 0 + _ ≤ 8; omega) hd ⟨by have := D.2.2.2.2.2.2.2.2.2; omega, by have := D.2.2.2.2.2.2.2.2.2; omega⟩)
theorem wp_V3 (q : Nat) (μ' : MI) (d' : Nat) {b ci : Nat} {fs : List Value} {r : vw_C} {v1 v2 v3 : Value} {idx : Nat} (hd : decode μ.2.1 pc = .ok (.invokevirtual idx, 3)) (hp : pc + 3 = q) (hm : MLv μ' 3) (hk : LK μ.1.cls idx μ') (hdd : Nat.blt d' d = true) (hb : h[b]? = some (cO ci fs)) (hc : clX[ci]? = some r) (hC : r.1 = μ'.1.cls) (hst : Nat.ble (st.map Value.category).sum 8 = true) (k : Call Γ μ' d' 0 0 (.ref b :: [v1, v2, v3]) h (Kid Γ μ d cb sb q ls st Q)) : WP Γ μ d cb sb h pc ls (v3 :: v2 :: v1 :: .ref b :: st) Q := by
  have hd3 : d' < d := Nat.le_of_ble_eq_true hdd
  have hst8 : (st.map Value.category).sum ≤ 8 := Nat.le_of_ble_eq_true hst
  intro p l e R s m args below meth c H locs cells slots A ρ ρ0 n0 mc ms lsr F D
  have hfr := D.2.2.2.2.2.2.2.2.2.2.2.2.2.1
  have hlo := D.2.2.2.2.2.2.2.2.2.2.2.2.2.2
  have hM := (k l ρ H.size (rmx R 0 0) (by show _ ≤ R.frames - 1; omega) (by show _ ≤ R.locals - 64; omega) rfl rfl)
  have hpre := pre_of (al := (.ref b :: [v1, v2, v3])) F D D.1 D.2.1 D.2.2.2.2.2.2.2.2.1
  have hrv := va_recv F.2.2.2.2.2.2.2.2.1 D.1 hc (eH_at hb)
  rw [hC] at hrv
  exact cont_id F D hp (va_runV (As := ([v1, v2, v3].map (eV ρ))) (rest := st.map (eV ρ)) (b := ρ b) ⟨F.1, F.2.1, F.2.2.1, F.2.2.2.2.2.2.1, F.2.2.2.2.2.2.2.1.all⟩ hM ⟨callB_x F.2.2.2.2.2.2.2.1 hm.1 hk hd3 hfr hlo, F.2.2.2.2.2.2.2.1.all _ hm.2.1, F.2.2.2.2.2.2.2.1.all _ hm.2.2⟩ ⟨Pcx.blind, hrv, hpre⟩ rfl (by simp) D.2.2.2.1.1 (by simp only [List.map_cons, List.map_nil, List.reverse_cons, List.reverse_nil, List.nil_append, List.cons_append, List.append_assoc, eV_ref]) (by rw [sumCat]; show 2 * 0 + _ ≤ 8; omega) hd ⟨by have := D.2.2.2.2.2.2.2.2.2; omega, by have := D.2.2.2.2.2.2.2.2.2; omega⟩)
theorem ws_V3 (q : Nat) (μ' : MI) (d' : Nat) (sl : List Nat) (hl : LH) {b b' ci : Nat} {fs : List Value} {r : vw_C} {v1 v2 v3 v1' v2' v3' : Value} {idx : Nat} (hd : decode μ.2.1 pc = .ok (.invokevirtual idx, 3)) (hp : pc + 3 = q) (hm : MLv μ' 3) (hk : LK μ.1.cls idx μ') (hdd : Nat.blt d' d = true) (hs1 : subB sl = true) (hs2 : sl.map (fun a => h[a]?) = hl.map (fun c => some (rC (sg sl) c))) (hb : h[b]? = some (cO ci fs)) (hc : clX[ci]? = some r) (hC : r.1 = μ'.1.cls) (eb : sg sl b' = b) (ev1 : eV (sg sl) v1' = v1) (ev2 : eV (sg sl) v2' = v2) (ev3 : eV (sg sl) v3' = v3) (hst : Nat.ble (st.map Value.category).sum 8 = true) (k : Call Γ μ' d' 0 0 (.ref b' :: [v1', v2', v3']) hl (Ksub Γ μ d cb sb q h sl ls st Q)) : WP Γ μ d cb sb h pc ls (v3 :: v2 :: v1 :: .ref b :: st) Q := by
  have S := Sub.of hs1 hs2
  subst ev1
  subst ev2
  subst ev3
  subst eb
  have hd3 : d' < d := Nat.le_of_ble_eq_true hdd
  have hst8 : (st.map Value.category).sum ≤ 8 := Nat.le_of_ble_eq_true hst
  intro p l e R s m args below meth c H locs cells slots A ρ ρ0 n0 mc ms lsr F D
  have hfr := D.2.2.2.2.2.2.2.2.2.2.2.2.2.1
  have hlo := D.2.2.2.2.2.2.2.2.2.2.2.2.2.2
  have hM := (k l (fun k => ρ (sg sl k)) H.size (rmx R 0 0) (by show _ ≤ R.frames - 1; omega) (by show _ ≤ R.locals - 64; omega) rfl rfl)
  have hpre := pre_of (al := (.ref b' :: [v1', v2', v3'])) F D (S.P D.1) (S.D D.2.1) (fun k => by rw [sg_xb hs1]; exact D.2.2.2.2.2.2.2.2.1 k)
  have hrv := va_recv F.2.2.2.2.2.2.2.2.1 D.1 hc (eH_at hb)
  rw [hC] at hrv
  exact cont_sub F D hp S (va_runV (As := ([v1', v2', v3'].map (eV fun k => ρ (sg sl k)))) (rest := st.map (eV ρ)) (b := ρ (sg sl b')) ⟨F.1, F.2.1, F.2.2.1, F.2.2.2.2.2.2.1, F.2.2.2.2.2.2.2.1.all⟩ hM ⟨callB_x F.2.2.2.2.2.2.2.1 hm.1 hk hd3 hfr hlo, F.2.2.2.2.2.2.2.1.all _ hm.2.1, F.2.2.2.2.2.2.2.1.all _ hm.2.2⟩ ⟨Pcx.blind, hrv, hpre⟩ rfl (by simp) D.2.2.2.1.1 (by simp only [List.map_cons, List.map_nil, List.reverse_cons, List.reverse_nil, List.nil_append, List.cons_append, List.append_assoc, eV_ref, eV_ren]) (by rw [sumCat]; show 2 * 0 + _ ≤ 8; omega) hd ⟨by have := D.2.2.2.2.2.2.2.2.2; omega, by have := D.2.2.2.2.2.2.2.2.2; omega⟩)
theorem wp_V4 (q : Nat) (μ' : MI) (d' : Nat) {b ci : Nat} {fs : List Value} {r : vw_C} {v1 v2 v3 v4 : Value} {idx : Nat} (hd : decode μ.2.1 pc = .ok (.invokevirtual idx, 3)) (hp : pc + 3 = q) (hm : MLv μ' 4) (hk : LK μ.1.cls idx μ') (hdd : Nat.blt d' d = true) (hb : h[b]? = some (cO ci fs)) (hc : clX[ci]? = some r) (hC : r.1 = μ'.1.cls) (hst : Nat.ble (st.map Value.category).sum 8 = true) (k : Call Γ μ' d' 0 0 (.ref b :: [v1, v2, v3, v4]) h (Kid Γ μ d cb sb q ls st Q)) : WP Γ μ d cb sb h pc ls (v4 :: v3 :: v2 :: v1 :: .ref b :: st) Q := by
  have hd3 : d' < d := Nat.le_of_ble_eq_true hdd
  have hst8 : (st.map Value.category).sum ≤ 8 := Nat.le_of_ble_eq_true hst
  intro p l e R s m args below meth c H locs cells slots A ρ ρ0 n0 mc ms lsr F D
  have hfr := D.2.2.2.2.2.2.2.2.2.2.2.2.2.1
  have hlo := D.2.2.2.2.2.2.2.2.2.2.2.2.2.2
  have hM := (k l ρ H.size (rmx R 0 0) (by show _ ≤ R.frames - 1; omega) (by show _ ≤ R.locals - 64; omega) rfl rfl)
  have hpre := pre_of (al := (.ref b :: [v1, v2, v3, v4])) F D D.1 D.2.1 D.2.2.2.2.2.2.2.2.1
  have hrv := va_recv F.2.2.2.2.2.2.2.2.1 D.1 hc (eH_at hb)
  rw [hC] at hrv
  exact cont_id F D hp (va_runV (As := ([v1, v2, v3, v4].map (eV ρ))) (rest := st.map (eV ρ)) (b := ρ b) ⟨F.1, F.2.1, F.2.2.1, F.2.2.2.2.2.2.1, F.2.2.2.2.2.2.2.1.all⟩ hM ⟨callB_x F.2.2.2.2.2.2.2.1 hm.1 hk hd3 hfr hlo, F.2.2.2.2.2.2.2.1.all _ hm.2.1, F.2.2.2.2.2.2.2.1.all _ hm.2.2⟩ ⟨Pcx.blind, hrv, hpre⟩ rfl (by simp) D.2.2.2.1.1 (by simp only [List.map_cons, List.map_nil, List.reverse_cons, List.reverse_nil, List.nil_append, List.cons_append, List.append_assoc, eV_ref]) (by rw [sumCat]; show 2 * 0 + _ ≤ 8; omega) hd ⟨by have := D.2.2.2.2.2.2.2.2.2; omega, by have := D.2.2.2.2.2.2.2.2.2; omega⟩)
theorem ws_V4 (q : Nat) (μ' : MI) (d' : Nat) (sl : List Nat) (hl : LH) {b b' ci : Nat} {fs : List Value} {r : vw_C} {v1 v2 v3 v4 v1' v2' v3' v4' : Value} {idx : Nat} (hd : decode μ.2.1 pc = .ok (.invokevirtual idx, 3)) (hp : pc + 3 = q) (hm : MLv μ' 4) (hk : LK μ.1.cls idx μ') (hdd : Nat.blt d' d = true) (hs1 : subB sl = true) (hs2 : sl.map (fun a => h[a]?) = hl.map (fun c => some (rC (sg sl) c))) (hb : h[b]? = some (cO ci fs)) (hc : clX[ci]? = some r) (hC : r.1 = μ'.1.cls) (eb : sg sl b' = b) (ev1 : eV (sg sl) v1' = v1) (ev2 : eV (sg sl) v2' = v2) (ev3 : eV (sg sl) v3' = v3) (ev4 : eV (sg sl) v4' = v4) (hst : Nat.ble (st.map Value.category).sum 8 = true) (k : Call Γ μ' d' 0 0 (.ref b' :: [v1', v2', v3', v4']) hl (Ksub Γ μ d cb sb q h sl ls st Q)) : WP Γ μ d cb sb h pc ls (v4 :: v3 :: v2 :: v1 :: .ref b :: st) Q := by
  have S := Sub.of hs1 hs2
  subst ev1
  subst ev2
  subst ev3
  subst ev4
  subst eb
  have hd3 : d' < d := Nat.le_of_ble_eq_true hdd
  have hst8 : (st.map Value.category).sum ≤ 8 := Nat.le_of_ble_eq_true hst
  intro p l e R s m args below meth c H locs cells slots A ρ ρ0 n0 mc ms lsr F D
  have hfr := D.2.2.2.2.2.2.2.2.2.2.2.2.2.1
  have hlo := D.2.2.2.2.2.2.2.2.2.2.2.2.2.2
  have hM := (k l (fun k => ρ (sg sl k)) H.size (rmx R 0 0) (by show _ ≤ R.frames - 1; omega) (by show _ ≤ R.locals - 64; omega) rfl rfl)
  have hpre := pre_of (al := (.ref b' :: [v1', v2', v3', v4'])) F D (S.P D.1) (S.D D.2.1) (fun k => by rw [sg_xb hs1]; exact D.2.2.2.2.2.2.2.2.1 k)
  have hrv := va_recv F.2.2.2.2.2.2.2.2.1 D.1 hc (eH_at hb)
  rw [hC] at hrv
  exact cont_sub F D hp S (va_runV (As := ([v1', v2', v3', v4'].map (eV fun k => ρ (sg sl k)))) (rest := st.map (eV ρ)) (b := ρ (sg sl b')) ⟨F.1, F.2.1, F.2.2.1, F.2.2.2.2.2.2.1, F.2.2.2.2.2.2.2.1.all⟩ hM ⟨callB_x F.2.2.2.2.2.2.2.1 hm.1 hk hd3 hfr hlo, F.2.2.2.2.2.2.2.1.all _ hm.2.1, F.2.2.2.2.2.2.2.1.all _ hm.2.2⟩ ⟨Pcx.blind, hrv, hpre⟩ rfl (by simp) D.2.2.2.1.1 (by simp only [List.map_cons, List.map_nil, List.reverse_cons, List.reverse_nil, List.nil_append, List.cons_append, List.append_assoc, eV_ref, eV_ren]) (by rw [sumCat]; show 2 * 0 + _ ≤ 8; omega) hd ⟨by have := D.2.2.2.2.2.2.2.2.2; omega, by have := D.2.2.2.2.2.2.2.2.2; omega⟩)
theorem wp_V5 (q : Nat) (μ' : MI) (d' : Nat) {b ci : Nat} {fs : List Value} {r : vw_C} {v1 v2 v3 v4 v5 : Value} {idx : Nat} (hd : decode μ.2.1 pc = .ok (.invokevirtual idx, 3)) (hp : pc + 3 = q) (hm : MLv μ' 5) (hk : LK μ.1.cls idx μ') (hdd : Nat.blt d' d = true) (hb : h[b]? = some (cO ci fs)) (hc : clX[ci]? = some r) (hC : r.1 = μ'.1.cls) (hst : Nat.ble (st.map Value.category).sum 8 = true) (k : Call Γ μ' d' 0 0 (.ref b :: [v1, v2, v3, v4, v5]) h (Kid Γ μ d cb sb q ls st Q)) : WP Γ μ d cb sb h pc ls (v5 :: v4 :: v3 :: v2 :: v1 :: .ref b :: st) Q := by
  have hd3 : d' < d := Nat.le_of_ble_eq_true hdd
  have hst8 : (st.map Value.category).sum ≤ 8 := Nat.le_of_ble_eq_true hst
  intro p l e R s m args below meth c H locs cells slots A ρ ρ0 n0 mc ms lsr F D
  have hfr := D.2.2.2.2.2.2.2.2.2.2.2.2.2.1
  have hlo := D.2.2.2.2.2.2.2.2.2.2.2.2.2.2
  have hM := (k l ρ H.size (rmx R 0 0) (by show _ ≤ R.frames - 1; omega) (by show _ ≤ R.locals - 64; omega) rfl rfl)
  have hpre := pre_of (al := (.ref b :: [v1, v2, v3, v4, v5])) F D D.1 D.2.1 D.2.2.2.2.2.2.2.2.1
  have hrv := va_recv F.2.2.2.2.2.2.2.2.1 D.1 hc (eH_at hb)
  rw [hC] at hrv
  exact cont_id F D hp (va_runV (As := ([v1, v2, v3, v4, v5].map (eV ρ))) (rest := st.map (eV ρ)) (b := ρ b) ⟨F.1, F.2.1, F.2.2.1, F.2.2.2.2.2.2.1, F.2.2.2.2.2.2.2.1.all⟩ hM ⟨callB_x F.2.2.2.2.2.2.2.1 hm.1 hk hd3 hfr hlo, F.2.2.2.2.2.2.2.1.all _ hm.2.1, F.2.2.2.2.2.2.2.1.all _ hm.2.2⟩ ⟨Pcx.blind, hrv, hpre⟩ rfl (by simp) D.2.2.2.1.1 (by simp only [List.map_cons, List.map_nil, List.reverse_cons, List.reverse_nil, List.nil_append, List.cons_append, List.append_assoc, eV_ref]) (by rw [sumCat]; show 2 * 0 + _ ≤ 8; omega) hd ⟨by have := D.2.2.2.2.2.2.2.2.2; omega, by have := D.2.2.2.2.2.2.2.2.2; omega⟩)
theorem ws_V5 (q : Nat) (μ' : MI) (d' : Nat) (sl : List Nat) (hl : LH) {b b' ci : Nat} {fs : List Value} {r : vw_C} {v1 v2 v3 v4 v5 v1' v2' v3' v4' v5' : Value} {idx : Nat} (hd : decode μ.2.1 pc = .ok (.invokevirtual idx, 3)) (hp : pc + 3 = q) (hm : MLv μ' 5) (hk : LK μ.1.cls idx μ') (hdd : Nat.blt d' d = true) (hs1 : subB sl = true) (hs2 : sl.map (fun a => h[a]?) = hl.map (fun c => some (rC (sg sl) c))) (hb : h[b]? = some (cO ci fs)) (hc : clX[ci]? = some r) (hC : r.1 = μ'.1.cls) (eb : sg sl b' = b) (ev1 : eV (sg sl) v1' = v1) (ev2 : eV (sg sl) v2' = v2) (ev3 : eV (sg sl) v3' = v3) (ev4 : eV (sg sl) v4' = v4) (ev5 : eV (sg sl) v5' = v5) (hst : Nat.ble (st.map Value.category).sum 8 = true) (k : Call Γ μ' d' 0 0 (.ref b' :: [v1', v2', v3', v4', v5']) hl (Ksub Γ μ d cb sb q h sl ls st Q)) : WP Γ μ d cb sb h pc ls (v5 :: v4 :: v3 :: v2 :: v1 :: .ref b :: st) Q := by
  have S := Sub.of hs1 hs2
  subst ev1
  subst ev2
  subst ev3
  subst ev4
  subst ev5
  subst eb
  have hd3 : d' < d := Nat.le_of_ble_eq_true hdd
  have hst8 : (st.map Value.category).sum ≤ 8 := Nat.le_of_ble_eq_true hst
  intro p l e R s m args below meth c H locs cells slots A ρ ρ0 n0 mc ms lsr F D
  have hfr := D.2.2.2.2.2.2.2.2.2.2.2.2.2.1
  have hlo := D.2.2.2.2.2.2.2.2.2.2.2.2.2.2
  have hM := (k l (fun k => ρ (sg sl k)) H.size (rmx R 0 0) (by show _ ≤ R.frames - 1; omega) (by show _ ≤ R.locals - 64; omega) rfl rfl)
  have hpre := pre_of (al := (.ref b' :: [v1', v2', v3', v4', v5'])) F D (S.P D.1) (S.D D.2.1) (fun k => by rw [sg_xb hs1]; exact D.2.2.2.2.2.2.2.2.1 k)
  have hrv := va_recv F.2.2.2.2.2.2.2.2.1 D.1 hc (eH_at hb)
  rw [hC] at hrv
  exact cont_sub F D hp S (va_runV (As := ([v1', v2', v3', v4', v5'].map (eV fun k => ρ (sg sl k)))) (rest := st.map (eV ρ)) (b := ρ (sg sl b')) ⟨F.1, F.2.1, F.2.2.1, F.2.2.2.2.2.2.1, F.2.2.2.2.2.2.2.1.all⟩ hM ⟨callB_x F.2.2.2.2.2.2.2.1 hm.1 hk hd3 hfr hlo, F.2.2.2.2.2.2.2.1.all _ hm.2.1, F.2.2.2.2.2.2.2.1.all _ hm.2.2⟩ ⟨Pcx.blind, hrv, hpre⟩ rfl (by simp) D.2.2.2.1.1 (by simp only [List.map_cons, List.map_nil, List.reverse_cons, List.reverse_nil, List.nil_append, List.cons_append, List.append_assoc, eV_ref, eV_ren]) (by rw [sumCat]; show 2 * 0 + _ ≤ 8; omega) hd ⟨by have := D.2.2.2.2.2.2.2.2.2; omega, by have := D.2.2.2.2.2.2.2.2.2; omega⟩)
theorem wp_S1 (q : Nat) (μ' : MI) (d' : Nat) {v1 : Value} {idx : Nat} (hd : decode μ.2.1 pc = .ok (.invokestatic idx, 3)) (hp : pc + 3 = q) (hm : MLs μ' 1) (hk : LK μ.1.cls idx μ') (hdd : Nat.blt d' d = true) (hst : Nat.ble (st.map Value.category).sum 8 = true) (k : Call Γ μ' d' 0 0 [v1] h (Kid Γ μ d cb sb q ls st Q)) : WP Γ μ d cb sb h pc ls (v1 :: st) Q := by
  have hd3 : d' < d := Nat.le_of_ble_eq_true hdd
  have hst8 : (st.map Value.category).sum ≤ 8 := Nat.le_of_ble_eq_true hst
  intro p l e R s m args below meth c H locs cells slots A ρ ρ0 n0 mc ms lsr F D
  have hfr := D.2.2.2.2.2.2.2.2.2.2.2.2.2.1
  have hlo := D.2.2.2.2.2.2.2.2.2.2.2.2.2.2
  have hM := (k l ρ H.size (rmx R 0 0) (by show _ ≤ R.frames - 1; omega) (by show _ ≤ R.locals - 64; omega) rfl rfl)
  have hpre := pre_of (al := [v1]) F D D.1 D.2.1 D.2.2.2.2.2.2.2.2.1
  exact cont_id F D hp (va_runS (As := ([v1].map (eV ρ))) (rest := st.map (eV ρ)) ⟨F.1, F.2.1, F.2.2.1, F.2.2.2.2.2.2.1, F.2.2.2.2.2.2.2.1.all⟩ hM ⟨callB_x F.2.2.2.2.2.2.2.1 hm.1 hk hd3 hfr hlo, F.2.2.2.2.2.2.2.1.all _ hm.2⟩ ⟨Pcx.blind, hpre⟩ rfl (by simp) D.2.2.2.1.1 (by simp only [List.map_cons, List.map_nil, List.reverse_cons, List.reverse_nil, List.nil_append, List.cons_append, List.append_assoc, eV_ref]) (by rw [sumCat]; show 2 * 0 + _ ≤ 8; omega) hd ⟨by have := D.2.2.2.2.2.2.2.2.2; omega, by have := D.2.2.2.2.2.2.2.2.2; omega⟩)
theorem ws_S1 (q : Nat) (μ' : MI) (d' : Nat) (sl : List Nat) (hl : LH) {v1 v1' : Value} {idx : Nat} (hd : decode μ.2.1 pc = .ok (.invokestatic idx, 3)) (hp : pc + 3 = q) (hm : MLs μ' 1) (hk : LK μ.1.cls idx μ') (hdd : Nat.blt d' d = true) (hs1 : subB sl = true) (hs2 : sl.map (fun a => h[a]?) = hl.map (fun c => some (rC (sg sl) c))) (ev1 : eV (sg sl) v1' = v1) (hst : Nat.ble (st.map Value.category).sum 8 = true) (k : Call Γ μ' d' 0 0 [v1'] hl (Ksub Γ μ d cb sb q h sl ls st Q)) : WP Γ μ d cb sb h pc ls (v1 :: st) Q := by
  have S := Sub.of hs1 hs2
  subst ev1
  have hd3 : d' < d := Nat.le_of_ble_eq_true hdd
  have hst8 : (st.map Value.category).sum ≤ 8 := Nat.le_of_ble_eq_true hst
  intro p l e R s m args below meth c H locs cells slots A ρ ρ0 n0 mc ms lsr F D
  have hfr := D.2.2.2.2.2.2.2.2.2.2.2.2.2.1
  have hlo := D.2.2.2.2.2.2.2.2.2.2.2.2.2.2
  have hM := (k l (fun k => ρ (sg sl k)) H.size (rmx R 0 0) (by show _ ≤ R.frames - 1; omega) (by show _ ≤ R.locals - 64; omega) rfl rfl)
  have hpre := pre_of (al := [v1']) F D (S.P D.1) (S.D D.2.1) (fun k => by rw [sg_xb hs1]; exact D.2.2.2.2.2.2.2.2.1 k)
  exact cont_sub F D hp S (va_runS (As := ([v1'].map (eV fun k => ρ (sg sl k)))) (rest := st.map (eV ρ)) ⟨F.1, F.2.1, F.2.2.1, F.2.2.2.2.2.2.1, F.2.2.2.2.2.2.2.1.all⟩ hM ⟨callB_x F.2.2.2.2.2.2.2.1 hm.1 hk hd3 hfr hlo, F.2.2.2.2.2.2.2.1.all _ hm.2⟩ ⟨Pcx.blind, hpre⟩ rfl (by simp) D.2.2.2.1.1 (by simp only [List.map_cons, List.map_nil, List.reverse_cons, List.reverse_nil, List.nil_append, List.cons_append, List.append_assoc, eV_ref, eV_ren]) (by rw [sumCat]; show 2 * 0 + _ ≤ 8; omega) hd ⟨by have := D.2.2.2.2.2.2.2.2.2; omega, by have := D.2.2.2.2.2.2.2.2.2; omega⟩)
theorem wp_S2 (q : Nat) (μ' : MI) (d' : Nat) {v1 v2 : Value} {idx : Nat} (hd : decode μ.2.1 pc = .ok (.invokestatic idx, 3)) (hp : pc + 3 = q) (hm : MLs μ' 2) (hk : LK μ.1.cls idx μ') (hdd : Nat.blt d' d = true) (hst : Nat.ble (st.map Value.category).sum 8 = true) (k : Call Γ μ' d' 0 0 [v1, v2] h (Kid Γ μ d cb sb q ls st Q)) : WP Γ μ d cb sb h pc ls (v2 :: v1 :: st) Q := by
  have hd3 : d' < d := Nat.le_of_ble_eq_true hdd
  have hst8 : (st.map Value.category).sum ≤ 8 := Nat.le_of_ble_eq_true hst
  intro p l e R s m args below meth c H locs cells slots A ρ ρ0 n0 mc ms lsr F D
  have hfr := D.2.2.2.2.2.2.2.2.2.2.2.2.2.1
  have hlo := D.2.2.2.2.2.2.2.2.2.2.2.2.2.2
  have hM := (k l ρ H.size (rmx R 0 0) (by show _ ≤ R.frames - 1; omega) (by show _ ≤ R.locals - 64; omega) rfl rfl)
  have hpre := pre_of (al := [v1, v2]) F D D.1 D.2.1 D.2.2.2.2.2.2.2.2.1
  exact cont_id F D hp (va_runS (As := ([v1, v2].map (eV ρ))) (rest := st.map (eV ρ)) ⟨F.1, F.2.1, F.2.2.1, F.2.2.2.2.2.2.1, F.2.2.2.2.2.2.2.1.all⟩ hM ⟨callB_x F.2.2.2.2.2.2.2.1 hm.1 hk hd3 hfr hlo, F.2.2.2.2.2.2.2.1.all _ hm.2⟩ ⟨Pcx.blind, hpre⟩ rfl (by simp) D.2.2.2.1.1 (by simp only [List.map_cons, List.map_nil, List.reverse_cons, List.reverse_nil, List.nil_append, List.cons_append, List.append_assoc, eV_ref]) (by rw [sumCat]; show 2 * 0 + _ ≤ 8; omega) hd ⟨by have := D.2.2.2.2.2.2.2.2.2; omega, by have := D.2.2.2.2.2.2.2.2.2; omega⟩)
theorem ws_S2 (q : Nat) (μ' : MI) (d' : Nat) (sl : List Nat) (hl : LH) {v1 v2 v1' v2' : Value} {idx : Nat} (hd : decode μ.2.1 pc = .ok (.invokestatic idx, 3)) (hp : pc + 3 = q) (hm : MLs μ' 2) (hk : LK μ.1.cls idx μ') (hdd : Nat.blt d' d = true) (hs1 : subB sl = true) (hs2 : sl.map (fun a => h[a]?) = hl.map (fun c => some (rC (sg sl) c))) (ev1 : eV (sg sl) v1' = v1) (ev2 : eV (sg sl) v2' = v2) (hst : Nat.ble (st.map Value.category).sum 8 = true) (k : Call Γ μ' d' 0 0 [v1', v2'] hl (Ksub Γ μ d cb sb q h sl ls st Q)) : WP Γ μ d cb sb h pc ls (v2 :: v1 :: st) Q := by
  have S := Sub.of hs1 hs2
  subst ev1
  subst ev2
  have hd3 : d' < d := Nat.le_of_ble_eq_true hdd
  have hst8 : (st.map Value.category).sum ≤ 8 := Nat.le_of_ble_eq_true hst
  intro p l e R s m args below meth c H locs cells slots A ρ ρ0 n0 mc ms lsr F D
  have hfr := D.2.2.2.2.2.2.2.2.2.2.2.2.2.1
  have hlo := D.2.2.2.2.2.2.2.2.2.2.2.2.2.2
  have hM := (k l (fun k => ρ (sg sl k)) H.size (rmx R 0 0) (by show _ ≤ R.frames - 1; omega) (by show _ ≤ R.locals - 64; omega) rfl rfl)
  have hpre := pre_of (al := [v1', v2']) F D (S.P D.1) (S.D D.2.1) (fun k => by rw [sg_xb hs1]; exact D.2.2.2.2.2.2.2.2.1 k)
  exact cont_sub F D hp S (va_runS (As := ([v1', v2'].map (eV fun k => ρ (sg sl k)))) (rest := st.map (eV ρ)) ⟨F.1, F.2.1, F.2.2.1, F.2.2.2.2.2.2.1, F.2.2.2.2.2.2.2.1.all⟩ hM ⟨callB_x F.2.2.2.2.2.2.2.1 hm.1 hk hd3 hfr hlo, F.2.2.2.2.2.2.2.1.all _ hm.2⟩ ⟨Pcx.blind, hpre⟩ rfl (by simp) D.2.2.2.1.1 (by simp only [List.map_cons, List.map_nil, List.reverse_cons, List.reverse_nil, List.nil_append, List.cons_append, List.append_assoc, eV_ref, eV_ren]) (by rw [sumCat]; show 2 * 0 + _ ≤ 8; omega) hd ⟨by have := D.2.2.2.2.2.2.2.2.2; omega, by have := D.2.2.2.2.2.2.2.2.2; omega⟩)
theorem wp_S3 (q : Nat) (μ' : MI) (d' : Nat) {v1 v2 v3 : Value} {idx : Nat} (hd : decode μ.2.1 pc = .ok (.invokestatic idx, 3)) (hp : pc + 3 = q) (hm : MLs μ' 3) (hk : LK μ.1.cls idx μ') (hdd : Nat.blt d' d = true) (hst : Nat.ble (st.map Value.category).sum 8 = true) (k : Call Γ μ' d' 0 0 [v1, v2, v3] h (Kid Γ μ d cb sb q ls st Q)) : WP Γ μ d cb sb h pc ls (v3 :: v2 :: v1 :: st) Q := by
  have hd3 : d' < d := Nat.le_of_ble_eq_true hdd
  have hst8 : (st.map Value.category).sum ≤ 8 := Nat.le_of_ble_eq_true hst
  intro p l e R s m args below meth c H locs cells slots A ρ ρ0 n0 mc ms lsr F D
  have hfr := D.2.2.2.2.2.2.2.2.2.2.2.2.2.1
  have hlo := D.2.2.2.2.2.2.2.2.2.2.2.2.2.2
  have hM := (k l ρ H.size (rmx R 0 0) (by show _ ≤ R.frames - 1; omega) (by show _ ≤ R.locals - 64; omega) rfl rfl)
  have hpre := pre_of (al := [v1, v2, v3]) F D D.1 D.2.1 D.2.2.2.2.2.2.2.2.1
  exact cont_id F D hp (va_runS (As := ([v1, v2, v3].map (eV ρ))) (rest := st.map (eV ρ)) ⟨F.1, F.2.1, F.2.2.1, F.2.2.2.2.2.2.1, F.2.2.2.2.2.2.2.1.all⟩ hM ⟨callB_x F.2.2.2.2.2.2.2.1 hm.1 hk hd3 hfr hlo, F.2.2.2.2.2.2.2.1.all _ hm.2⟩ ⟨Pcx.blind, hpre⟩ rfl (by simp) D.2.2.2.1.1 (by simp only [List.map_cons, List.map_nil, List.reverse_cons, List.reverse_nil, List.nil_append, List.cons_append, List.append_assoc, eV_ref]) (by rw [sumCat]; show 2 * 0 + _ ≤ 8; omega) hd ⟨by have := D.2.2.2.2.2.2.2.2.2; omega, by have := D.2.2.2.2.2.2.2.2.2; omega⟩)
theorem ws_S3 (q : Nat) (μ' : MI) (d' : Nat) (sl : List Nat) (hl : LH) {v1 v2 v3 v1' v2' v3' : Value} {idx : Nat} (hd : decode μ.2.1 pc = .ok (.invokestatic idx, 3)) (hp : pc + 3 = q) (hm : MLs μ' 3) (hk : LK μ.1.cls idx μ') (hdd : Nat.blt d' d = true) (hs1 : subB sl = true) (hs2 : sl.map (fun a => h[a]?) = hl.map (fun c => some (rC (sg sl) c))) (ev1 : eV (sg sl) v1' = v1) (ev2 : eV (sg sl) v2' = v2) (ev3 : eV (sg sl) v3' = v3) (hst : Nat.ble (st.map Value.category).sum 8 = true) (k : Call Γ μ' d' 0 0 [v1', v2', v3'] hl (Ksub Γ μ d cb sb q h sl ls st Q)) : WP Γ μ d cb sb h pc ls (v3 :: v2 :: v1 :: st) Q := by
  have S := Sub.of hs1 hs2
  subst ev1
  subst ev2
  subst ev3
  have hd3 : d' < d := Nat.le_of_ble_eq_true hdd
  have hst8 : (st.map Value.category).sum ≤ 8 := Nat.le_of_ble_eq_true hst
  intro p l e R s m args below meth c H locs cells slots A ρ ρ0 n0 mc ms lsr F D
  have hfr := D.2.2.2.2.2.2.2.2.2.2.2.2.2.1
  have hlo := D.2.2.2.2.2.2.2.2.2.2.2.2.2.2
  have hM := (k l (fun k => ρ (sg sl k)) H.size (rmx R 0 0) (by show _ ≤ R.frames - 1; omega) (by show _ ≤ R.locals - 64; omega) rfl rfl)
  have hpre := pre_of (al := [v1', v2', v3']) F D (S.P D.1) (S.D D.2.1) (fun k => by rw [sg_xb hs1]; exact D.2.2.2.2.2.2.2.2.1 k)
  exact cont_sub F D hp S (va_runS (As := ([v1', v2', v3'].map (eV fun k => ρ (sg sl k)))) (rest := st.map (eV ρ)) ⟨F.1, F.2.1, F.2.2.1, F.2.2.2.2.2.2.1, F.2.2.2.2.2.2.2.1.all⟩ hM ⟨callB_x F.2.2.2.2.2.2.2.1 hm.1 hk hd3 hfr hlo, F.2.2.2.2.2.2.2.1.all _ hm.2⟩ ⟨Pcx.blind, hpre⟩ rfl (by simp) D.2.2.2.1.1 (by simp only [List.map_cons, List.map_nil, List.reverse_cons, List.reverse_nil, List.nil_append, List.cons_append, List.append_assoc, eV_ref, eV_ren]) (by rw [sumCat]; show 2 * 0 + _ ≤ 8; omega) hd ⟨by have := D.2.2.2.2.2.2.2.2.2; omega, by have := D.2.2.2.2.2.2.2.2.2; omega⟩)
theorem wp_N2 (q : Nat) (μ' : MI) (d' : Nat) {v1 v2 : Value} {idx : Nat} (hd : decode μ.2.1 pc = .ok (.invokestatic idx, 3)) (hp : pc + 3 = q) (hm : MLs μ' 2) (hk : LN μ.1.cls idx μ') (hdd : Nat.blt d' d = true) (hst : Nat.ble (st.map Value.category).sum 8 = true) (k : Call Γ μ' d' 0 0 [v1, v2] h (Kid Γ μ d cb sb q ls st Q)) : WP Γ μ d cb sb h pc ls (v2 :: v1 :: st) Q := by
  have hd3 : d' < d := Nat.le_of_ble_eq_true hdd
  have hst8 : (st.map Value.category).sum ≤ 8 := Nat.le_of_ble_eq_true hst
  intro p l e R s m args below meth c H locs cells slots A ρ ρ0 n0 mc ms lsr F D
  have hfr := D.2.2.2.2.2.2.2.2.2.2.2.2.2.1
  have hlo := D.2.2.2.2.2.2.2.2.2.2.2.2.2.2
  have hM := (k l ρ H.size (rmx R 0 0) (by show _ ≤ R.frames - 1; omega) (by show _ ≤ R.locals - 64; omega) rfl rfl)
  have hpre := pre_of (al := [v1, v2]) F D D.1 D.2.1 D.2.2.2.2.2.2.2.2.1
  obtain ⟨host, hcn⟩ := callN_x (cb' := 0) (sb' := 0) F.2.2.2.2.2.2.2.1 hm.1 hk hd3 hfr hlo
  exact cont_id F D hp (va_runSN (As := ([v1, v2].map (eV ρ))) (rest := st.map (eV ρ)) ⟨F.1, F.2.1, F.2.2.1, F.2.2.2.2.2.2.1, F.2.2.2.2.2.2.2.1.all⟩ hM ⟨hcn, F.2.2.2.2.2.2.2.1.all _ hm.2, trivial⟩ ⟨Pcx.blind, hpre⟩ rfl (by simp) D.2.2.2.1.1 (by simp only [List.map_cons, List.map_nil, List.reverse_cons, List.reverse_nil, List.nil_append, List.cons_append, List.append_assoc, eV_ref]) (by rw [sumCat]; show 2 * 0 + _ ≤ 8; omega) hd ⟨by have := D.2.2.2.2.2.2.2.2.2; omega, by have := D.2.2.2.2.2.2.2.2.2; omega⟩)
end R6
