/-! THE CLAIM OUT OF ONE WALK OF THE LAW'S BODY. Your part is whole_start (and what it stands on); all else here is the same for every law, but numbers. -/
def R_law : String := "PacedMapLaw"
def lw_P (b : Addr) (xs : List Int32) (args : Array Value) (s : State) : Prop := args = #[.ref b] ∧ s.IntsAt b xs ∧ xs.length ≤ 3072 ∧ (Jvm.Cond.and given_1 narrow_1).before args s = true
def lw_Q (_ : Array Value) (s : State) (o : Outcome) (t : State) : Prop := o = .returned (some (.int 1)) ∧ Framed s o t [] 600000 7302249
def lw_Z (below : List Frame) (a : Array Value) (s : State) : State → Prop := fun t => ∃ o, t.status = .running ∧ Ended t below o ∧ lw_Q a s o t
/-- the law's own end, with 1 on the stack, nothing written that was there before, its room as the claim has it -/
theorem lw_ret {p : Program} {l : Launch} {e : Env} {s : State} {m : MethodId} {below : List Frame} {meth : Method} {c : Code} {b : Nat} (hx : p.tables.exec = Jvm.exec) (hb : c.code = code) (hr : meth.sig.returnType = ret) (hlocks : meth.locks = false) {pc : Nat} {H : Heap} {ls : Array Slot} (hdg : decode code pc = .ok (.ireturn, 1)) : W p l e room_1 s m #[Value.ref b] below meth c H [] 600000 7302249 (lw_Z below #[Value.ref b] s) (F0 m pc ls [.int 1]) := by
  intro T hT X
  obtain ⟨fs, hret, hrun, hended, hW, hframe⟩ := X.leave (v := some (.int 1)) (hlocks := hlocks) (fun h => by rw [hr] at h; cases h)
  have hmeth' : T.vm.method? m = some meth := X.method'
  refine ⟨T.setFrames fs, ?_, .returned (some (.int 1)), hrun, hended, rfl, ⟨_, rfl⟩, hW, hframe⟩
  jvm_step X.here [X.here.top, hx, hb, hdg, hmeth', hr, ret, narrow_b1]
  (try refine ⟨rfl, ?_⟩); (try refine ⟨rfl, ?_⟩)
  first | (intro acts; rw [hret _ acts rfl rfl rfl]) | rw [hret _ _ rfl rfl rfl]
  exact Steps.refl _
/-- what holds at the law's entry: the machine, the code, the tables' words (any of lw_tbl by 'hts w (by decide +kernel)'), the script of L ints xs at the cell b, what the Statement gives of the start (any of its parts by flat_of_before) -/
def lw_At (p : Program) (s : State) (m : MethodId) (meth : Method) (c : Code) (b L : Nat) (xs : Nat → Int32) : Prop :=
  p.tables.exec = Jvm.exec ∧ c.code = code ∧ meth.sig.returnType = ret ∧ c.maxLocals = 4 ∧ meth.name = x.name ∧ s.vm.findClass R_law = some m.cls ∧ (∀ w ∈ lw_tbl, w.before #[Value.ref b] s = true) ∧ va_X b L xs s s.heap ∧ b < s.heap.size ∧ meth.locks = false ∧ (Jvm.Cond.and given_1 narrow_1).before #[Value.ref b] s = true
/-! the start: what the words give of the world outside -/
def plX (a0 a1 v0 v1 b t : Nat) : Nat → Nat
  | 0 => a0
  | 1 => a1
  | 2 => v0
  | 3 => v1
  | 4 => b
  | _ => t
def tmX : Nat → Term
  | 0 => Term.string "PacedMap$Text" 64
  | _ => Term.string "PacedMapModel" 204
def FLN : List Cond := flatC (Cond.and given_1 narrow_1)
theorem sx_ct : Cond.eq (.static "java/lang/String" "COMPACT_STRINGS" "Z") (.int 1) ∈ FLN := List.mem_of_getElem? (i := 4) (by decide +kernel)
theorem sx_fm : Cond.isRef (.static "jdk/internal/util/Preconditions" "SIOOBE_FORMATTER" "Ljava/util/function/BiFunction;") ∈ FLN := List.mem_of_getElem? (i := 5) (by decide +kernel)
theorem sx_ex0 : Cond.exactly (tmX 0) "java/lang/String" ∈ FLN := List.mem_of_getElem? (i := 48) (by decide +kernel)
theorem sx_co0 : Cond.eq (.field (tmX 0) "java/lang/String" "coder" "B") (.int 0) ∈ FLN := List.mem_of_getElem? (i := 49) (by decide +kernel)
theorem sx_ar0 : Cond.arrayOf (.field (tmX 0) "java/lang/String" "value" "[B") .byte ∈ FLN := List.mem_of_getElem? (i := 50) (by decide +kernel)
theorem sx_le0 : Cond.eq (.length (.field (tmX 0) "java/lang/String" "value" "[B")) (.int (Int32.ofNat 135)) ∈ FLN := List.mem_of_getElem? (i := 51) (by decide +kernel)
theorem sx_ex1 : Cond.exactly (tmX 1) "java/lang/String" ∈ FLN := List.mem_of_getElem? (i := 187) (by decide +kernel)
theorem sx_co1 : Cond.eq (.field (tmX 1) "java/lang/String" "coder" "B") (.int 0) ∈ FLN := List.mem_of_getElem? (i := 188) (by decide +kernel)
theorem sx_ar1 : Cond.arrayOf (.field (tmX 1) "java/lang/String" "value" "[B") .byte ∈ FLN := List.mem_of_getElem? (i := 189) (by decide +kernel)
theorem sx_le1 : Cond.eq (.length (.field (tmX 1) "java/lang/String" "value" "[B")) (.int (Int32.ofNat 136)) ∈ FLN := List.mem_of_getElem? (i := 190) (by decide +kernel)
theorem sx_ne : Cond.not (Cond.eq (tmX 0) (tmX 1)) ∈ FLN := List.mem_of_getElem? (i := 327) (by decide +kernel)
set_option maxRecDepth 100000 in
theorem sx_l0 : (FLN.drop 52).take 135 = (List.range 135).map (fun j => Cond.eq (.elem (.field (tmX 0) "java/lang/String" "value" "[B") (.int (Int32.ofNat j))) (.int (bl1.getD j 0))) := by decide +kernel
set_option maxRecDepth 100000 in
theorem sx_l1 : (FLN.drop 191).take 136 = (List.range 136).map (fun j => Cond.eq (.elem (.field (tmX 1) "java/lang/String" "value" "[B") (.int (Int32.ofNat j))) (.int (bl2.getD j 0))) := by decide +kernel
theorem sx_el0 {j : Nat} (hj : j < 135) : Cond.eq (.elem (.field (tmX 0) "java/lang/String" "value" "[B") (.int (Int32.ofNat j))) (.int (bl1.getD j 0)) ∈ FLN := by
  have h : Cond.eq (.elem (.field (tmX 0) "java/lang/String" "value" "[B") (.int (Int32.ofNat j))) (.int (bl1.getD j 0)) ∈ (FLN.drop 52).take 135 := by
    rw [sx_l0]; exact List.mem_map.mpr ⟨j, List.mem_range.mpr hj, rfl⟩
  exact List.mem_of_mem_drop (List.mem_of_mem_take h)
theorem sx_el1 {j : Nat} (hj : j < 136) : Cond.eq (.elem (.field (tmX 1) "java/lang/String" "value" "[B") (.int (Int32.ofNat j))) (.int (bl2.getD j 0)) ∈ FLN := by
  have h : Cond.eq (.elem (.field (tmX 1) "java/lang/String" "value" "[B") (.int (Int32.ofNat j))) (.int (bl2.getD j 0)) ∈ (FLN.drop 191).take 136 := by
    rw [sx_l1]; exact List.mem_map.mpr ⟨j, List.mem_range.mpr hj, rfl⟩
  exact List.mem_of_mem_drop (List.mem_of_mem_take h)
theorem lt2_cases {i : Nat} (h : i < 2) : i = 0 ∨ i = 1 := by omega
theorem sx_S {args : Array Value} {s : State} {A : Nat → Prop} (hs : ∀ c ∈ FLN, c.before args s = true) (hA : ∀ a : Nat, a < s.heap.size → ¬ A a) :
    ∃ adK adV : Nat → Nat, vk_S 2 lenX bytX adK adV A s s.heap ∧ ∀ i : Nat, i < 2 → (tmX i).eval args s none [] s = some (.ref (adK i)) := by
  refine vk_Sof (tm := tmX) (len := lenX) (byt := bytX) (fun i hi => ?_) (fun i hi => ?_) (fun i hi => ?_) (fun i hi => ?_) (fun i hi => ?_) (fun i hi j hj => ?_) (fun i j hi hj hij => ?_) hA
  · rcases lt2_cases hi with rfl | rfl
    · show 135 < 2 ^ 31; decide
    · show 136 < 2 ^ 31; decide
  · rcases lt2_cases hi with rfl | rfl
    · exact hs _ sx_ex0
    · exact hs _ sx_ex1
  · rcases lt2_cases hi with rfl | rfl
    · exact hs _ sx_co0
    · exact hs _ sx_co1
  · rcases lt2_cases hi with rfl | rfl
    · exact hs _ sx_ar0
    · exact hs _ sx_ar1
  · rcases lt2_cases hi with rfl | rfl
    · exact hs _ sx_le0
    · exact hs _ sx_le1
  · rcases lt2_cases hi with rfl | rfl
    · rw [bl1_e]; exact hs _ (sx_el0 hj)
    · rw [bl2_e]; exact hs _ (sx_el1 hj)
  · rcases lt2_cases hi with rfl | rfl
    · rcases lt2_cases hj with rfl | rfl
      · exact absurd rfl hij
      · exact Or.inl (hs _ sx_ne)
    · rcases lt2_cases hj with rfl | rfl
      · exact Or.inr (hs _ sx_ne)
      · exact absurd rfl hij
theorem vk_S.pl {adK adV pl : Nat → Nat} {A : Nat → Prop} {U : State} {H : Heap} (h : vk_S 2 lenX bytX adK adV A U H) (e0 : pl 0 = adK 0) (e1 : pl 1 = adK 1) (e2 : pl 2 = adV 0) (e3 : pl 3 = adV 1) : vk_S 2 lenX bytX pl (fun k => pl (2 + k)) A U H := by
  refine ⟨fun i hi => ?_, fun i j hi hj hij => h.2 i j hi hj ?_⟩
  · rcases lt2_cases hi with rfl | rfl
    · have e2' : pl (2 + 0) = adV 0 := e2
      dsimp only
      rw [e0, e2']
      exact h.1 0 hi
    · have e3' : pl (2 + 1) = adV 1 := e3
      dsimp only
      rw [e1, e3']
      exact h.1 1 hi
  · rcases lt2_cases hi with rfl | rfl <;> rcases lt2_cases hj with rfl | rfl
    · rfl
    · rw [← e0, ← e1]; exact hij
    · rw [← e0, ← e1]; exact hij
    · rfl
theorem nw_kn {own : String} {idx ci N : Nat} {fs : List Value} (h : NW own idx ci N fs) {a : Array Value} {s : State} (hT : Tb a s) : ∃ q : ClassId × (Nat → Nat), ∀ r : vw_C, clX[ci]? = some r → u_Kn s r.1 r.2.1 r.2.2 q.1 q.2 := by
  obtain ⟨C, T, ty, h1, h2, -, -, h5, -⟩ := h
  obtain ⟨cC, iS, hk⟩ := u_known hT.all h2 (hT.all _ h5)
  refine ⟨(cC, iS), fun r hr => ?_⟩
  cases h1.symm.trans hr
  exact hk
theorem kx_cl {a : Array Value} {s : State} (hT : Tb a s) : ∃ (dC : Nat → ClassId) (dI : Nat → Nat → Nat), ∀ (c : Nat) (r : vw_C), clX[c]? = some r → u_Kn s r.1 r.2.1 r.2.2 (dC c) (dI c) := by
  have h : ∀ ci : Nat, ∃ q : ClassId × (Nat → Nat), ∀ r : vw_C, clX[ci]? = some r → u_Kn s r.1 r.2.1 r.2.2 q.1 q.2 := by
    intro ci
    match ci with
    | 0 => exact nw_kn nw_PM_50 hT
    | 1 => exact nw_kn nw_PM_32 hT
    | 2 => exact nw_kn nw_PM_185 hT
    | 3 => exact nw_kn nw_PM_57 hT
    | 4 => exact nw_kn nw_PM_71 hT
    | 5 => exact nw_kn nw_PM_78 hT
    | 6 => exact nw_kn nw_PM_64 hT
    | 7 => exact nw_kn nw_PM_15 hT
    | 8 => exact nw_kn nw_PM_22 hT
    | 9 => exact nw_kn nw_PM_164 hT
    | 10 => exact nw_kn nw_PM_9 hT
    | 11 => exact nw_kn nw_Law_7 hT
    | 12 => exact nw_kn nw_Law_10 hT
    | n + 13 =>
      obtain ⟨q, -⟩ := nw_kn nw_PM_50 hT
      refine ⟨q, fun r hr => ?_⟩
      have hl : clX.length = 13 := rfl
      have := (List.getElem?_eq_some_iff.mp hr).1
      omega
  obtain ⟨f, hf⟩ := Classical.axiomOfChoice h
  exact ⟨fun c => (f c).1, fun c => (f c).2, hf⟩
theorem kx_ar {a : Array Value} {s : State} (hT : Tb a s) : ∃ κ : FieldType → ClassId, ∀ (k : Nat) (q : ClassId × FieldType), (tysX κ)[k]? = some q → ArrOfT s q.1 q.2 ∧ va_RA s q.1 q.2 := by
  obtain ⟨cI, kI, oI, i1, i2, i3⟩ := Cond.arrayClass_spec (hT.all _ ac_int)
  obtain ⟨cL, kL, oL, l1, l2, l3⟩ := Cond.arrayClass_spec (hT.all _ ac_long)
  obtain ⟨cB, kB, oB, b1, b2, b3⟩ := Cond.arrayClass_spec (hT.all _ ac_byte)
  obtain ⟨cZ, kZ, oZ, z1, z2, z3⟩ := Cond.arrayClass_spec (hT.all _ ac_boolean)
  obtain ⟨oT, cT, kT, t1, -, t2, t3, t4⟩ := Cond.arrayOver_spec (hT.all _ ao_Tray)
  obtain ⟨oW, cW, kW, w1, -, w2, w3, w4⟩ := Cond.arrayOver_spec (hT.all _ ao_Town)
  obtain ⟨oD, cD, kD, d1, -, d2, d3, d4⟩ := Cond.arrayOver_spec (hT.all _ ao_Days)
  have h : ∀ ty : FieldType, ∃ c : ClassId, (∃ c : ClassId, ArrOfT s c ty ∧ va_RA s c ty) → ArrOfT s c ty ∧ va_RA s c ty := by
    intro ty
    by_cases h : ∃ c : ClassId, ArrOfT s c ty ∧ va_RA s c ty
    · obtain ⟨c, hc⟩ := h
      exact ⟨c, fun _ => hc⟩
    · exact ⟨cI, fun h' => absurd h' h⟩
  obtain ⟨κ, hκ⟩ := Classical.axiomOfChoice h
  refine ⟨κ, fun k q hq => ?_⟩
  match k, hq with
  | 0, hq => cases hq; exact hκ _ ⟨cI, fun n z => ⟨(fun k h => by cases h), kI, i2, oI, i3⟩, i1⟩
  | 1, hq => cases hq; exact hκ _ ⟨cL, fun n z => ⟨(fun k h => by cases h), kL, l2, oL, l3⟩, l1⟩
  | 2, hq => cases hq; exact hκ _ ⟨cB, fun n z => ⟨(fun k h => by cases h), kB, b2, oB, b3⟩, b1⟩
  | 3, hq => cases hq; exact hκ _ ⟨cZ, fun n z => ⟨(fun k h => by cases h), kZ, z2, oZ, z3⟩, z1⟩
  | 4, hq => cases hq; exact hκ _ ⟨cT, fun n z => ⟨(fun k h => by cases h), kT, t2, oT, t3⟩, kT, oT, t2, t3, t1, t4⟩
  | 5, hq => cases hq; exact hκ _ ⟨cW, fun n z => ⟨(fun k h => by cases h), kW, w2, oW, w3⟩, kW, oW, w2, w3, w1, w4⟩
  | 6, hq => cases hq; exact hκ _ ⟨cD, fun n z => ⟨(fun k h => by cases h), kD, d2, oD, d3⟩, kD, oD, d2, d3, d1, d4⟩
  | n + 7, hq =>
    have hl : (tysX κ).length = 7 := rfl
    have := (List.getElem?_eq_some_iff.mp hq).1
    omega
theorem sx_sR0 : Cond.stringRef "PacedMap$Text" 64 tx1 ∈ lw_tbl := List.mem_append_right _ (List.mem_append_left _ (List.mem_of_getElem? (i := 38) (by decide +kernel)))
theorem sx_sR1 : Cond.stringRef "PacedMapModel" 204 tx2 ∈ lw_tbl := List.mem_append_right _ (List.mem_append_right _ (List.mem_append_right _ (List.mem_append_right _ (List.mem_append_right _ (List.mem_append_right _ (List.mem_append_right _ (List.mem_append_left _ (List.mem_of_getElem? (i := 169) (by decide +kernel)))))))))
theorem sx_i0 : Cond.initialized "java/lang/String" ∈ lw_tbl := List.mem_append_right _ (List.mem_append_left _ (List.mem_of_getElem? (i := 3) (by decide +kernel)))
theorem sx_i1 : Cond.initialized "jdk/internal/util/Preconditions" ∈ lw_tbl := List.mem_append_right _ (List.mem_append_left _ (List.mem_of_getElem? (i := 5) (by decide +kernel)))
theorem sx_ls0 : Cond.laysStatic "java/lang/String" "COMPACT_STRINGS" "Z" ∈ lw_tbl := List.mem_append_right _ (List.mem_append_left _ (List.mem_of_getElem? (i := 48) (by decide +kernel)))
theorem sx_ls1 : Cond.laysStatic "jdk/internal/util/Preconditions" "SIOOBE_FORMATTER" "Ljava/util/function/BiFunction;" ∈ lw_tbl := List.mem_append_right _ (List.mem_append_left _ (List.mem_of_getElem? (i := 64) (by decide +kernel)))
/-- what is written lies behind the old cells: so nothing old is written -/
theorem fr_end {s t : State} {o : Outcome} {L : List Loc} {k n : Nat} (h : FrameEnd s o t L k n) (hL : ∀ q ∈ L, s.heap.size ≤ q.base) : Framed s o t [] k n := by
  obtain ⟨h1, h2, h3, h4, h5, h6, h7, h8⟩ := h
  refine ⟨h1, h2, h3, h4, h5, h6, h7, fun a c hc => ?_⟩
  obtain ⟨c', g1, g2, g3, g4⟩ := h8 a c hc
  refine ⟨c', g1, g2, g3, fun i _ => g4 i (fun hm => ?_)⟩
  have hlt : a < s.heap.size := (Array.getElem?_eq_some_iff.mp hc).1
  exact absurd (hL _ hm) (Nat.not_le.mpr hlt)
theorem whole_start {p : Program} {e : Env} {s : State} {m : MethodId} {below : List Frame} {meth : Method} {c : Code} (l : Launch) (hflags : l.flags = flags0) {b L : Nat} {xs : Nat → Int32} (hL : L ≤ 3072) (C0 : lw_At p s m meth c b L xs) : W p l e room_1 s m #[Value.ref b] below meth c s.heap [] 0 0 (lw_Z below #[Value.ref b] s) (entryFrame m ([Value.ref b] : List Value).toArray 4) := by
  obtain ⟨hx, hb, hr, hml, hnm, hown, hts, hX, hbl, hlocks, hgv⟩ := C0
  have hs : ∀ w ∈ FLN, w.before #[Value.ref b] s = true := flat_of_before _ hgv
  have hAn : ∀ a : Nat, a < s.heap.size → ¬ s.heap.size ≤ a := fun a ha => Nat.not_le.mpr ha
  have hT : Tb #[Value.ref b] s := fun w hw _ => hts w hw
  obtain ⟨dC, dI, hcl⟩ := kx_cl hT
  obtain ⟨κ, hκ⟩ := kx_ar hT
  obtain ⟨adK, adV, hS, hev⟩ := sx_S (A := fun q => s.heap.size ≤ q) hs hAn
  have hZ0 : va_Z "java/lang/String" "COMPACT_STRINGS" "Z" (.int 1) (fun q => s.heap.size ≤ q) s s.heap := va_Zof (hts _ sx_ls0) (hts _ sx_i0) (va_eqi (hs _ sx_ct)) hAn
  have hZ1 : va_Zq "jdk/internal/util/Preconditions" "SIOOBE_FORMATTER" "Ljava/util/function/BiFunction;" (fun q => s.heap.size ≤ q) s s.heap := va_Zqof (hts _ sx_ls1) (hts _ sx_i1) (hs _ sx_fm) hAn
  obtain ⟨t, hZ2⟩ : ∃ t : Nat, va_Z "jdk/internal/util/Preconditions" "SIOOBE_FORMATTER" "Ljava/util/function/BiFunction;" .null (fun q => s.heap.size ≤ q) s s.heap ∨ va_Z "jdk/internal/util/Preconditions" "SIOOBE_FORMATTER" "Ljava/util/function/BiFunction;" (.ref t) (fun q => s.heap.size ≤ q) s s.heap := by
    rcases hZ1 with h | ⟨t, h⟩
    · exact ⟨0, Or.inl h⟩
    · exact ⟨t, Or.inr h⟩
  obtain ⟨Γ, hΓ⟩ : ∃ Γ : Gm, Γ = ((dC, dI), κ, plX (adK 0) (adK 1) (adV 0) (adV 1) b t, L, xs) := ⟨_, rfl⟩
  have hK : Kx Γ s := by subst hΓ; exact ⟨hcl, hκ⟩
  have hE : exX Γ (fun q => s.heap.size ≤ q) s s.heap := by
    subst hΓ
    exact ⟨hS.pl rfl rfl rfl rfl, hZ0, vk_R.of (hts _ sx_sR0) (hev 0 (by omega)), vk_R.of (hts _ sx_sR1) (hev 1 (by omega)), hX, hAn b hbl, hbl, hZ2⟩
  have h3 : Γ.2.2.2.1 ≤ 3072 := by subst hΓ; exact hL
  have hb4 : Γ.2.2.1 4 = b := by subst hΓ; rfl
  obtain ⟨ρ, hρ⟩ : ∃ ρ : Nat → Nat, ∀ k, ρ (XB + k) = Γ.2.2.1 k := ⟨fun k => Γ.2.2.1 (k - XB), fun k => by show Γ.2.2.1 (XB + k - XB) = _; rw [Nat.add_sub_cancel_left]⟩
  have hl := lv_entry ([.ref b]) (n := 4) (Nat.le_of_ble_eq_true rfl)
  rw [lg_entry_eq]
  generalize (lg_sl ([.ref b]) ++ List.replicate (4 - (lg_sl ([.ref b])).length) Slot.unset).toArray = lsr at hl ⊢
  have hl2 : lv_has lsr 4 (loL ρ 0 [some (.ref (XB + 4)), none, none, none]) := by
    have e : loL ρ 0 [some (.ref (XB + 4)), none, none, none] = [(0, .ref (ρ (XB + 4)))] := rfl
    rw [e, hρ, hb4]
    exact hl
  have hFix : Fix Γ M_Law_law (fun q => s.heap.size ≤ q) p s m #[Value.ref b] meth c := ⟨hx, hb, hml, hr, hlocks, hnm, hown, hT, hK, hE, fun _ h => h⟩
  have hDyn : Dyn Γ M_Law_law (fun q => s.heap.size ≤ q) 20 (((2 * 512 + 26) + 1) + 123 + 1) (((8 * 512 + 13260) + 50) + 15894 + 19) [] [some (.ref (XB + 4)), none, none, none] room_1 s s.heap [] 0 0 ρ ρ 0 600000 7302249 lsr :=
    ⟨fun k q h => by simp [eH] at h, ⟨fun i j p q h => by simp [eH] at h, fun k q h => by simp [eH] at h⟩, va_S.rf, hl2, fun _ _ => rfl, Nat.le_refl _, Nat.le_of_ble_eq_true rfl, fun _ => rfl, hρ, Nat.le_of_ble_eq_true rfl, Nat.le_of_ble_eq_true rfl, Nat.le_of_ble_eq_true rfl, Nat.le_of_ble_eq_true rfl, Nat.le_of_ble_eq_true rfl, Nat.le_of_ble_eq_true rfl⟩
  have w := law_start h3 p l e room_1 s m #[Value.ref b] below meth c s.heap [] 0 0 _ ρ ρ 0 600000 7302249 lsr hFix hDyn
  intro T hT0 X
  obtain ⟨t', st, o, hrun, hend, hQ, LL, hfe, hfr⟩ := w T hT0 X
  obtain ⟨⟨v, h', ρ', ho, hv, -⟩, -⟩ := hQ
  have ho1 : o = .returned (some (.int 1)) := by
    have hv1 : v = some (.int 1) := hv
    rw [ho, hv1]; rfl
  exact ⟨t', st, o, hrun, hend, ho1, fr_end hfe hfr⟩
set_option maxHeartbeats 4000000 in
theorem lw_walk (l : Launch) (hflags : l.flags = flags0) (b : Addr) (xs : List Int32) : MetFree l x (headSpec (Jvm.Cond.code x code maxLocals ret :: tables_1) room_1) (lw_P b xs) (fun _ _ _ _ _ => True) lw_Q := by
  refine MetFree.of_bodyS (code := code) (maxLocals := maxLocals) (ret := ret) (by decide) ?_ ?_
  · intro args s m h hn
    obtain ⟨meth, c, h1, h2, h3, h4, h5, h6, -, -⟩ := Cond.code_spec hn (atoms_spec (ws := Jvm.Cond.code x code maxLocals ret :: tables_1) h _ List.mem_cons_self)
    exact ⟨meth, c, h1, h2, h3, h4, h5, h6⟩
  · intro p e s m args below meth c s₁ B hml0 hP _
    obtain ⟨rfl, hx, hbd, hgv⟩ := hP
    obtain ⟨scr, harrAt, hlist, hof, hsmall⟩ := hx
    obtain ⟨hcb, hkn, -, -⟩ := State.arrayAt?_spec harrAt
    have hown : s.vm.findClass R_law = some m.cls := findClass_of_methodNamed B.named
    have hts0 : ∀ c ∈ (Jvm.Cond.code x code maxLocals ret :: tables_1), c.before #[Value.ref b] s = true := atoms_spec (ws := Jvm.Cond.code x code maxLocals ret :: tables_1) B.pre
    have hts : ∀ w ∈ lw_tbl, w.before #[Value.ref b] s = true := k2_hts_sels lw_privs (fun w hw => hts0 w (List.mem_cons_of_mem _ hw)) lw_privs_ok
    have hml : c.maxLocals = 4 := B.maxLocals_eq (hts0 _ List.mem_cons_self)
    have X₀ : Stand p l e room_1 s m #[Value.ref b] below meth c s₁ [] 0 0 := Stand.of_body B
    have hh0 : s₁.heap = s.heap := by rw [B.state]; rfl
    have hsz : scr.slots.size = xs.length := by rw [← Array.length_toList, hlist, List.length_map]
    have hval : ∀ j : Nat, j < xs.length → scr.slots[j]? = some (.int (xs.getD j 0)) := fun j hj => by
      rw [← Array.getElem?_toList, hlist]
      simp [hj]
    have hbl : b < s.heap.size := (Array.getElem?_eq_some_iff.mp hcb).1
    have hX : va_X b xs.length (fun j => xs.getD j 0) s s.heap := ⟨scr, hcb, hof, hkn, hsz, hval⟩
    have K : W p l e room_1 s m #[Value.ref b] below meth c s₁.heap [] 0 0 (lw_Z below #[Value.ref b] s) (entryFrame m ([Value.ref b] : List Value).toArray 4) := by
      rw [hh0]
      exact whole_start l hflags hbd ⟨B.exec, B.bytes, B.returns, hml, (name_of_methodNamed B.named B.method).1, hown, hts, hX, hbl, B.notSynchronized, hgv⟩
    obtain ⟨t, a1, o, b1, b2, b3⟩ := K s₁ rfl X₀
    exact ⟨t, o, a1, b1, b2, b3⟩
theorem lw_pre_spec {args : Array Value} {s : State} (h : (Jvm.Cond.and given_1 narrow_1).before args s = true) (hr : rest_1_c.before args s = true) : ∃ (b : Addr) (xs : List Int32), lw_P b xs args s := by
  have hs := flat_of_before _ h
  have hq := flat_of_before _ hr
  have hc : (Cond.count 1).before args s = true := hs _ (by decide +kernel)
  have harr : (Cond.arrayOf (.arg 0) .int).before args s = true := hs _ (by decide +kernel)
  have hle : (Cond.le (.length (.arg 0)) (.int 3072)).before args s = true := hs _ (by decide +kernel)
  have hlen : (Cond.isInt (.length (.arg 0))).before args s = true := hq _ (by decide +kernel)
  have hall : (Cond.all (.arg 0) (.isInt (.elem (.arg 0) (.index 0)))).before args s = true := hq _ (by decide +kernel)
  obtain ⟨b, xs, hb, hx⟩ := State.ints_of_pre rfl harr hlen hall
  have hsm : xs.length < 2 ^ 31 := hx.choose_spec.2.2.2
  have hev : (Term.length (.arg 0)).eval args s none [] s = some (.int xs.length.toInt32) := hx.length_eval hb
  have hv := Cond.le_ints hev (show (Term.int 3072).eval args s none [] s = some (.int 3072) from rfl)
  have hd : xs.length.toInt32 ≤ 3072 := by
    simpa [Cond.before, Cond.holds, hv] using hle
  have hN : xs.length ≤ 3072 := (Int32.ofNat_le_ofNat hsm (by decide)).mp (show Int32.ofNat xs.length ≤ Int32.ofNat 3072 from hd)
  exact ⟨b, xs, Cond.one_arg hc (show args[0]? = some (.ref b) from hb), hx, hN, h⟩
theorem lw_comes (l : Launch) (hflags : l.flags = flags0) : Comes l x (Jvm.Cond.code x code maxLocals ret :: tables_1) room_1 (fun tb e args s => Calls_1 tb e args s ∧ rest_1 tb e args s ∧ Pre_1 tb e args s)
    (fun _ _ args s o t => lw_Q args s o t) := by
  intro p e ha hc hk s m args below hf hfit hheap happ hpre
  obtain ⟨b, xs, hP⟩ := lw_pre_spec hpre.2.2 hpre.2.1
  obtain ⟨k, o, h1, h2, h3, hQ⟩ := lw_walk l hflags b xs p e ha hc hk s m args below hf ((Spec.applies_iff_loose hf).mp happ).1 hP trivial
  exact ⟨k, o, h1, h2, h3, hQ⟩
theorem lw_frame {s t : State} {o : Outcome} {args : Array Value} (h : Framed s o t [] 600000 7302249) :
    Framed s o t (fieldLocs frame_1_writes args s ++ arrayLocs frame_1_arrays args s ++ staticLocs frame_1_statics s) 600000 7302249 := h
theorem lw_limb (L : Cond) (hL : ∀ (args : Array Value) (s t : State), L.after args s (.returned (some (.int 1))) t = true) :
    ArmFor flags0 classFile x code maxLocals ret World_1 tables_1 room_1 Calls_1 rest_1 Pre_1
      (fun tb e a s o t => postC L tb e a s o t ∧ Framed s o t (fieldLocs frame_1_writes a s ++ arrayLocs frame_1_arrays a s ++ staticLocs frame_1_statics s) 600000 7302249) := by
  intro l hflags _ _ p e ha hc hk s m args below hf hfit hheap happ hpre
  obtain ⟨k, o, h1, h2, h3, rfl, hF⟩ := lw_comes l hflags p e ha hc hk s m args below hf hfit hheap happ hpre
  exact ⟨k, _, h1, h2, h3, hL args s _, lw_frame hF⟩
theorem i_vc : Claimed_1_1 ∧ Claimed_1_2 := ⟨lw_limb limb_1_1 (fun args s t => by simp [limb_1_1, Cond.after, Cond.holds, Cond.value]), lw_limb limb_1_2 (fun args s t => Cond.after_iff.mpr (by
  first | (rw [show limb_1_2 = Cond.eq .result (.int 1) from rfl, Cond.eq_ints (x := 1) (y := 1) rfl rfl]; simp; done) | (simp [limb_1_2, Cond.value, Term.eval]; done)))⟩
