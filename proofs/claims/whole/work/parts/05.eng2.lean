/-! ===== ENGINE 2: the judgement ===== -/
def isMLN : Cond → Bool
  | .methodLinkNest _ _ _ _ => true
  | _ => false
def isAO : Cond → Bool
  | .arrayOver (.object _) => true
  | _ => false
def okW (w : Cond) : Bool := goodWord w || isMLN w || isAO w
def Tb (a : Array Value) (U : State) : Prop := ∀ w ∈ lw_tbl, okW w = true → w.before a U = true
theorem Tb.warm {a a' : Array Value} {s U : State} (hW : s.WarmedH U.vm) (h : Tb a s) : Tb a' U := by
  intro w hw ho
  have hb := h w hw ho
  simp only [okW, Bool.or_eq_true] at ho
  rcases ho with (ho | ho) | ho
  · exact word_at hW (good_of_word ho) hb
  · cases w with
    | methodLinkNest a b c d => exact va_Nw.use rfl (va_Nw.warmM hW (va_Nw.of rfl hb))
    | _ => cases ho
  · cases w with
    | arrayOver ty =>
      cases ty with
      | object C => exact va_AO.use (va_AO.moved hW.alike (va_AO.of hb))
      | _ => cases ho
    | _ => cases ho
def tysX (κ : FieldType → ClassId) : List (ClassId × FieldType) := [(κ .int, .int), (κ .long, .long), (κ .byte, .byte), (κ .boolean, .boolean), (κ (.object "PacedMap$Tray"), .object "PacedMap$Tray"), (κ (.object "PacedMap$Town"), .object "PacedMap$Town"), (κ (.object "PacedMap$Days"), .object "PacedMap$Days")]
def tx1 : String := "odds place walker turned left stride leg east west north south go strike restore believe any when at closed misses paces loop end stop "
def tx2 : String := " odds place walker leg turned left stride east west north south go strike restore believe any when loop end stop at closed misses paces "
def lenX : List Nat := [135, 136]
def bytX : List (List Int32) := [tx1.toList.map (fun ch => Int32.ofNat ch.toNat), tx2.toList.map (fun ch => Int32.ofNat ch.toNat)]
/-- what lies outside: the two String constants, a static, the script -/
def exX (Γ : Gm) (A : Nat → Prop) (U : State) (H : Heap) : Prop :=
  vk_S 2 lenX bytX Γ.2.2.1 (fun k => Γ.2.2.1 (2 + k)) A U H ∧ va_Z "java/lang/String" "COMPACT_STRINGS" "Z" (.int 1) A U H ∧ vk_R "PacedMap$Text" 64 tx1 (Γ.2.2.1 0) U ∧ vk_R "PacedMapModel" 204 tx2 (Γ.2.2.1 1) U ∧ va_X (Γ.2.2.1 4) Γ.2.2.2.1 Γ.2.2.2.2 U H ∧ ¬ A (Γ.2.2.1 4) ∧ Γ.2.2.1 4 < H.size ∧ (va_Z "jdk/internal/util/Preconditions" "SIOOBE_FORMATTER" "Ljava/util/function/BiFunction;" .null A U H ∨ va_Z "jdk/internal/util/Preconditions" "SIOOBE_FORMATTER" "Ljava/util/function/BiFunction;" (.ref (Γ.2.2.1 5)) A U H)
theorem exX.go {Γ : Gm} {A B : Nat → Prop} {u U : State} {H : Heap} (h : exX Γ A u u.heap) (hW : u.WarmedH U.vm) (hz : u.heap.size ≤ H.size) (hq : ∀ a : Nat, a < u.heap.size → ¬ A a → H[a]? = u.heap[a]?) (hAB : ∀ q, B q → A q) : exX Γ B U H := by
  obtain ⟨h1, h2, h3, h4, h5, h6, h7, h8⟩ := h
  exact ⟨((h1.moved hW.alike).kept hq).narrow hAB, ((h2.moved hW.alike).kept hq).narrow hAB, h3.warm hW, h4.warm hW, (h5.moved hW.alike).kept (hq _ h7 h6), fun z => h6 (hAB _ z), Nat.lt_of_lt_of_le h7 hz, h8.imp (fun z => ((z.moved hW.alike).kept hq).narrow hAB) (fun z => ((z.moved hW.alike).kept hq).narrow hAB)⟩
abbrev Kx (Γ : Gm) (U : State) : Prop := va_K Γ.1 clX (tysX Γ.2.1) U
/-- a method's own fixed things -/
def Fix (Γ : Gm) (μ : MI) (A : Nat → Prop) (p : Program) (s : State) (m : MethodId) (args : Array Value) (meth : Method) (c : Code) : Prop :=
  p.tables.exec = Jvm.exec ∧ c.code = μ.2.1 ∧ c.maxLocals = μ.2.2.1 ∧ meth.sig.returnType = μ.2.2.2 ∧ meth.locks = false ∧ meth.name = μ.1.name ∧ s.vm.findClass μ.1.cls = some m.cls ∧ Tb args s ∧ Kx Γ s ∧ exX Γ A s s.heap ∧ (∀ q : Nat, s.heap.size ≤ q → A q)
/-- what a method comes to -/
def Qx (Γ : Gm) (A : Nat → Prop) (n0 mc : Nat) (ρ0 : Nat → Nat) (Q : Option Value → LH → Prop) : Array Value → State → Outcome → State → Prop := fun _ st o t =>
  (∃ (v : Option Value) (h' : LH) (ρ' : Nat → Nat), o = .returned (v.map (eV ρ')) ∧ Q v h' ∧ (∀ k, k < n0 ∨ XB ≤ k → ρ' k = ρ0 k) ∧ n0 ≤ h'.length ∧ h'.length ≤ n0 + mc ∧ (h'.length = n0 → ρ' = ρ0) ∧ va_P Γ.1 clX (eH ρ' Γ.2.1 h') t.heap ∧ va_D A (eH ρ' Γ.2.1 h')) ∧ va_F A st t
/-- the moving things: cells, slots left are cb, sb -/
def Dyn (Γ : Gm) (μ : MI) (A : Nat → Prop) (d cb sb : Nat) (h : LH) (ls : Lo) (R : Room) (s : State) (H : Heap) (locs : List Loc) (cells slots : Nat) (ρ ρ0 : Nat → Nat) (n0 mc ms : Nat) (lsr : Array Slot) : Prop :=
  va_P Γ.1 clX (eH ρ Γ.2.1 h) H ∧ va_D A (eH ρ Γ.2.1 h) ∧ va_S A s.heap H locs ∧ lv_has lsr μ.2.2.1 (loL ρ 0 ls) ∧ (∀ k, k < n0 ∨ XB ≤ k → ρ k = ρ0 k) ∧ n0 ≤ h.length ∧ h.length + cb ≤ n0 + mc ∧ (h.length = n0 → ρ = ρ0) ∧ (∀ k, ρ (XB + k) = Γ.2.2.1 k) ∧ cells + cb ≤ mc ∧ slots + sb ≤ ms ∧ mc ≤ R.cells ∧ ms ≤ R.slots ∧ d ≤ R.frames ∧ 64 * d ≤ R.locals
/-- from here the method comes to its end, with Q of its answer and its heap -/
def WP (Γ : Gm) (μ : MI) (d cb sb : Nat) (h : LH) (pc : Nat) (ls : Lo) (st : List Value) (Q : Option Value → LH → Prop) : Prop :=
  ∀ (p : Program) (l : Launch) (e : Env) (R : Room) (s : State) (m : MethodId) (args : Array Value) (below : List Frame) (meth : Method) (c : Code) (H : Heap) (locs : List Loc) (cells slots : Nat) (A : Nat → Prop) (ρ ρ0 : Nat → Nat) (n0 mc ms : Nat) (lsr : Array Slot),
    Fix Γ μ A p s m args meth c → Dyn Γ μ A d cb sb h ls R s H locs cells slots ρ ρ0 n0 mc ms lsr →
    W p l e R s m args below meth c H locs cells slots (MQ below (Qx Γ A n0 mc ρ0 Q) args s mc ms A) (F0 m pc lsr (st.map (eV ρ)))
/-- a call of a method with these arguments over this heap -/
def Pcx (Γ : Gm) (ρ : Nat → Nat) (args : List Value) (h : LH) (sz : Nat) : Array Value → State → Prop := va_Pc (args.map (eV ρ)) (fun U => U.heap.size = sz ∧ va_P Γ.1 clX (eH ρ Γ.2.1 h) U.heap ∧ Kx Γ U ∧ va_D (fun _ => True) (eH ρ Γ.2.1 h) ∧ Tb #[] U ∧ exX Γ (va_A (eH ρ Γ.2.1 h) sz) U U.heap ∧ ∀ k, ρ (XB + k) = Γ.2.2.1 k)
def Call (Γ : Gm) (μ : MI) (d cb sb : Nat) (args : List Value) (h : LH) (Q : Option Value → LH → Prop) : Prop :=
  ∀ (l : Launch) (ρ : Nat → Nat) (sz : Nat) (rm : Room), d ≤ rm.frames → 64 * d ≤ rm.locals → rm.cells = cb → rm.slots = sb →
    Met l μ.1 [.code μ.1 μ.2.1 μ.2.2.1 μ.2.2.2] rm (Pcx Γ ρ args h sz) (Qx Γ (va_A (eH ρ Γ.2.1 h) sz) h.length cb ρ Q) cb sb (va_A (eH ρ Γ.2.1 h) sz)
theorem Pcx.blind {Γ : Gm} {ρ : Nat → Nat} {args : List Value} {h : LH} {sz : Nat} : FrameBlind (Pcx Γ ρ args h sz) := by
  intro a U g mk q
  obtain ⟨q0, q1, qP, qK, qD, qT, qX, qr⟩ := q
  have hW : U.WarmedH (U.calling g mk a).vm := State.WarmedH.refl U
  exact ⟨q0, q1, qP, va_K.moved (u := U) (U := U.calling g mk a) (Vm.Alike.refl U.vm) qK, qD, Tb.warm hW qT, exX.go (H := (U.calling g mk a).heap) qX hW (Nat.le_refl _) (fun _ _ _ => rfl) (fun _ z => z), qr⟩
theorem call_intro {Γ : Gm} {μ : MI} {d cb sb : Nat} {args : List Value} {h : LH} {Q : Option Value → LH → Prop} {ls : Lo} (hy : plainName μ.1.cls = true) (hls : enL args ++ List.replicate (μ.2.2.1 - (enL args).length) none = ls) (hn : Nat.ble (enL args).length μ.2.2.1 = true) (k : WP Γ μ d cb sb h 0 ls [] Q) : Call Γ μ d cb sb args h Q := by
  intro l ρ sz rm hd hdl hrc hrs
  refine Met.ofW (cc := μ.2.1) (maxL := μ.2.2.1) (ret := μ.2.2.2) hy rfl ?_
  intro p e s m as below meth c s₁ B hml hv
  obtain ⟨rfl, hsz, hP, hK, hD0, hT, hX, hr⟩ := hv
  subst hsz
  have hD := hD0.self (sz := s.heap.size)
  have hle : (lg_sl (args.map (eV ρ))).length ≤ μ.2.2.1 := by
    rw [enL_len, eV_sl_len]; exact Nat.le_of_ble_eq_true hn
  have hl := lv_entry (args.map (eV ρ)) (n := μ.2.2.1) hle
  rw [lg_entry_eq]
  generalize (lg_sl (args.map (eV ρ)) ++ List.replicate (μ.2.2.1 - (lg_sl (args.map (eV ρ))).length) Slot.unset).toArray = lsr at hl ⊢
  have hl2 : lv_has lsr μ.2.2.1 (loL ρ 0 ls) := by
    rw [← hls, loL_app, loL_none, List.append_nil, enL_args]; exact hl
  refine k p l e _ s m _ below meth c s.heap [] 0 0 _ ρ ρ h.length cb sb lsr ?_ ?_
  · exact ⟨B.exec, B.bytes, hml, B.returns, B.notSynchronized, (name_of_methodNamed B.named B.method).1, findClass_of_methodNamed B.named, Tb.warm (State.WarmedH.refl s) hT, hK, hX, fun q hq => Or.inr hq⟩
  · exact ⟨hP, hD, va_S.rf, hl2, fun _ _ => rfl, Nat.le_refl _, Nat.le_refl _, fun _ => rfl, hr, Nat.le_of_eq (Nat.zero_add _), Nat.le_of_eq (Nat.zero_add _), Nat.le_of_eq hrc.symm, Nat.le_of_eq hrs.symm, hd, hdl⟩
