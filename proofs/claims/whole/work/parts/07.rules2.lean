/-! ===== ENGINE 4: rules over the heap ===== -/
def TbL : List Cond := lw_tbl.filter okW
theorem Tb.all {a : Array Value} {U : State} (h : Tb a U) : ∀ w ∈ TbL, w.before a U = true := fun w hw => h w (List.mem_filter.mp hw).1 (List.mem_filter.mp hw).2
/-- a field link: entry idx of own's pool is field kf of class ci -/
def FL (own : String) (idx ci kf : Nat) : Prop := ∃ (C : String) (T : u_T) (N : Nat), clX[ci]? = some (C, T, N) ∧ kf < N ∧ (∀ w ∈ u_ws C T N, w ∈ TbL) ∧ Cond.fieldLink own idx (T kf).1 (T kf).2.1 (T kf).2.2.1 ∈ TbL
/-- .. that may be written: not final, of type ty -/
def FP (own : String) (idx ci kf : Nat) (ty : FieldType) (fin : Bool) : Prop := ∃ (C : String) (T : u_T) (N : Nat) (t0 : Nat → FieldType), clX[ci]? = some (C, T, N) ∧ kf < N ∧ (∀ w ∈ u_ws C T N, w ∈ TbL) ∧ Cond.fieldLink own idx (T kf).1 (T kf).2.1 (T kf).2.2.1 ∈ TbL ∧ (∀ k, k < N → parseFieldDescriptor (T k).2.2.1 = some (t0 k)) ∧ (∀ a, a < N → ∀ b, b < N → a ≠ b → (T a).2.1 ≠ (T b).2.1) ∧ (T kf).2.2.2 = fin ∧ t0 kf = ty ∧ (fin = true → (T kf).1 = own)
def okP (ty : FieldType) (v : Value) : Prop := ∀ ρ : Nat → Nat, narrow ty (eV ρ v) = eV ρ v ∧ fits ty (eV ρ v) = true
theorem okP_int (x : Int32) : okP .int (.int x) := fun _ => ⟨rfl, rfl⟩
theorem okP_long (x : Int64) : okP .long (.long x) := fun _ => ⟨rfl, rfl⟩
theorem okP_1 : okP .boolean (.int 1) := fun _ => ⟨rfl, rfl⟩
theorem okP_0 : okP .boolean (.int 0) := fun _ => ⟨rfl, rfl⟩
section R4
variable {Γ : Gm} {μ : MI} {d cb sb : Nat} {h : LH} {pc : Nat} {ls : Lo} {st : List Value} {Q : Option Value → LH → Prop}
/-- a cell of the local heap is changed: what holds then -/
theorem Dyn.upd {A : Nat → Prop} {R : Room} {s : State} {H H1 : Heap} {locs locs1 : List Loc} {cells slots : Nat} {ρ ρ0 : Nat → Nat} {n0 mc ms : Nat} {lsr : Array Slot} {a : Nat} {x : LC} (D : Dyn Γ μ A d cb sb h ls R s H locs cells slots ρ ρ0 n0 mc ms lsr) (hP : va_P Γ.1 clX ((eH ρ Γ.2.1 h).set a (ρ a, eC ρ Γ.2.1 x)) H1) (hD : va_D A ((eH ρ Γ.2.1 h).set a (ρ a, eC ρ Γ.2.1 x))) (hS : va_S A s.heap H1 locs1) : Dyn Γ μ A d cb sb (h.set a x) ls R s H1 locs1 cells slots ρ ρ0 n0 mc ms lsr := by
  obtain ⟨-, -, -, d4, d5, d6, d7, d8, d9⟩ := D
  rw [eH_set] at hP hD
  exact ⟨hP, hD, hS, d4, d5, by simpa using d6, by simpa using d7, by simpa using d8, d9⟩
theorem wp_getfield (q : Nat) (ci kf : Nat) {idx a : Nat} {fs : List Value} {v : Value} (hd : decode μ.2.1 pc = .ok (.getfield idx, 3)) (hp : pc + 3 = q) (hf : FL μ.1.cls idx ci kf) (ha : h[a]? = some (cO ci fs)) (hv : fs[kf]? = some v) (k : WP Γ μ d cb sb h q ls (v :: st) Q) : WP Γ μ d cb sb h pc ls (.ref a :: st) Q := by
  subst hp
  intro p l e R s m args below meth c H locs cells slots A ρ ρ0 n0 mc ms lsr F D
  obtain ⟨C, T, N, hc, hk, hin, hlink⟩ := hf
  exact va_get (D := Γ.1) (cl := clX) F.1 F.2.1 F.2.2.2.2.2.2.2.1.all hin F.2.2.2.2.2.2.1 F.2.2.2.2.2.2.2.2.1 D.1 a (eH_at ha) hc kf hk (F.2.2.2.2.2.2.2.1.all _ hlink) (fun _ z => z) (v := eV ρ v) (by rw [List.getElem?_map, hv]; rfl) hd (k _ _ _ _ _ _ _ _ _ _ _ _ _ _ _ _ _ _ _ _ _ F D)
theorem wp_putfield (q : Nat) (ci kf : Nat) (ty : FieldType) {idx a : Nat} {fs : List Value} {v : Value} (hd : decode μ.2.1 pc = .ok (.putfield idx, 3)) (hp : pc + 3 = q) (hf : FP μ.1.cls idx ci kf ty false) (ha : h[a]? = some (cO ci fs)) (hl : Nat.blt kf fs.length = true) (hok : okP ty v) (k : WP Γ μ d cb sb (h.set a (cO ci (fs.set kf v))) q ls st Q) : WP Γ μ d cb sb h pc ls (v :: .ref a :: st) Q := by
  subst hp
  intro p l e R s m args below meth c H locs cells slots A ρ ρ0 n0 mc ms lsr F D
  obtain ⟨C, T, N, t0, hc, hk, hin, hlink, hty, hnm, hfin, rfl, -⟩ := hf
  have e9 : (fs.set kf v).map (eV ρ) = (fs.map (eV ρ)).set kf (eV ρ v) := List.map_set
  refine va_put (D := Γ.1) (cl := clX) F.1 F.2.1 F.2.2.2.2.2.2.2.1.all hin t0 hty hnm F.2.2.2.2.2.2.1 F.2.2.2.2.2.2.2.2.1 D.1 D.2.1 D.2.2.1 a (eH_at ha) hc kf hk (F.2.2.2.2.2.2.2.1.all _ hlink) (fun _ z => z) hfin (hty kf hk) (hok ρ).1 (hok ρ).2 (by rw [List.length_map]; exact Nat.le_of_ble_eq_true hl) hd (fun H1 locs1 hP hD hS => k _ _ _ _ _ _ _ _ _ _ _ _ _ _ _ _ _ _ _ _ _ F (D.upd (x := cO ci (fs.set kf v)) ?_ ?_ hS))
  · simp only [eC, e9]; exact hP
  · simp only [eC, e9]; exact hD
theorem wp_putfinal (q : Nat) (ci kf : Nat) (ty : FieldType) {idx a : Nat} {fs : List Value} {v : Value} (hd : decode μ.2.1 pc = .ok (.putfield idx, 3)) (hp : pc + 3 = q) (hf : FP μ.1.cls idx ci kf ty true) (hname : μ.1.name = "<init>") (ha : h[a]? = some (cO ci fs)) (hl : Nat.blt kf fs.length = true) (hok : okP ty v) (k : WP Γ μ d cb sb (h.set a (cO ci (fs.set kf v))) q ls st Q) : WP Γ μ d cb sb h pc ls (v :: .ref a :: st) Q := by
  subst hp
  intro p l e R s m args below meth c H locs cells slots A ρ ρ0 n0 mc ms lsr F D
  obtain ⟨C, T, N, t0, hc, hk, hin, hlink, hty, hnm, hfin, rfl, hown⟩ := hf
  have e9 : (fs.set kf v).map (eV ρ) = (fs.map (eV ρ)).set kf (eV ρ v) := List.map_set
  refine va_putF (D := Γ.1) (cl := clX) F.1 F.2.1 F.2.2.2.2.2.2.2.1.all hin t0 hty hnm F.2.2.2.2.2.2.1 F.2.2.2.2.2.2.2.2.1 D.1 D.2.1 D.2.2.1 a (eH_at ha) hc kf hk (F.2.2.2.2.2.2.2.1.all _ hlink) (fun _ z => z) hfin (F.2.2.2.2.2.1.trans hname) (hown rfl) (hty kf hk) (hok ρ).1 (hok ρ).2 (by rw [List.length_map]; exact Nat.le_of_ble_eq_true hl) hd (fun H1 locs1 hP hD hS => k _ _ _ _ _ _ _ _ _ _ _ _ _ _ _ _ _ _ _ _ _ F (D.upd (x := cO ci (fs.set kf v)) ?_ ?_ hS))
  · simp only [eC, e9]; exact hP
  · simp only [eC, e9]; exact hD
theorem wp_iaload (q : Nat) {a n : Nat} {f : Nat → Int32} {i : Int32} (hd : decode μ.2.1 pc = .ok (.iaload, 1)) (hp : pc + 1 = q) (ha : h[a]? = some (cI n f)) (hin : vp_in i n) (k : WP Γ μ d cb sb h q ls (.int (f i.toNatClampNeg) :: st) Q) : WP Γ μ d cb sb h pc ls (.int i :: .ref a :: st) Q := by
  subst hp
  intro p l e R s m args below meth c H locs cells slots A ρ ρ0 n0 mc ms lsr F D
  exact va_iald (D := Γ.1) (cl := clX) F.1 F.2.1 F.2.2.2.2.2.2.2.2.1 D.1 a 0 (eH_at ha) rfl hin hd (k _ _ _ _ _ _ _ _ _ _ _ _ _ _ _ _ _ _ _ _ _ F D)
theorem wp_ialoadN (q : Nat) {a n : Nat} {f : Nat → Int32} {j : Nat} (hd : decode μ.2.1 pc = .ok (.iaload, 1)) (hp : pc + 1 = q) (ha : h[a]? = some (cI n f)) (hn : Nat.ble n 1000000 = true) (hj : j < n) (k : WP Γ μ d cb sb h q ls (.int (f j) :: st) Q) : WP Γ μ d cb sb h pc ls (.int (nI j) :: .ref a :: st) Q := by
  have hn2 := Nat.le_of_ble_eq_true hn
  refine wp_iaload q hd hp ha (vp_in_nI hj (by omega)) ?_
  rw [nI_clamp (by omega)]
  exact k
theorem wp_baload (q : Nat) {a n : Nat} {f : Nat → Int32} {i : Int32} (hd : decode μ.2.1 pc = .ok (.baload, 1)) (hp : pc + 1 = q) (ha : h[a]? = some (cB n f)) (hin : vp_in i n) (k : WP Γ μ d cb sb h q ls (.int (f i.toNatClampNeg) :: st) Q) : WP Γ μ d cb sb h pc ls (.int i :: .ref a :: st) Q := by
  subst hp
  intro p l e R s m args below meth c H locs cells slots A ρ ρ0 n0 mc ms lsr F D
  exact va_bald (D := Γ.1) (cl := clX) F.1 F.2.1 F.2.2.2.2.2.2.2.2.1 D.1 a 2 (eH_at ha) rfl hin hd (k _ _ _ _ _ _ _ _ _ _ _ _ _ _ _ _ _ _ _ _ _ F D)
theorem wp_baloadN (q : Nat) {a n : Nat} {f : Nat → Int32} {j : Nat} (hd : decode μ.2.1 pc = .ok (.baload, 1)) (hp : pc + 1 = q) (ha : h[a]? = some (cB n f)) (hn : Nat.ble n 1000000 = true) (hj : j < n) (k : WP Γ μ d cb sb h q ls (.int (f j) :: st) Q) : WP Γ μ d cb sb h pc ls (.int (nI j) :: .ref a :: st) Q := by
  have hn2 := Nat.le_of_ble_eq_true hn
  refine wp_baload q hd hp ha (vp_in_nI hj (by omega)) ?_
  rw [nI_clamp (by omega)]
  exact k
theorem wp_zaload (q : Nat) {a n : Nat} {f : Nat → Int32} {i : Int32} (hd : decode μ.2.1 pc = .ok (.baload, 1)) (hp : pc + 1 = q) (ha : h[a]? = some (cZ n f)) (hin : vp_in i n) (k : WP Γ μ d cb sb h q ls (.int (f i.toNatClampNeg) :: st) Q) : WP Γ μ d cb sb h pc ls (.int i :: .ref a :: st) Q := by
  subst hp
  intro p l e R s m args below meth c H locs cells slots A ρ ρ0 n0 mc ms lsr F D
  exact va_zald (D := Γ.1) (cl := clX) F.1 F.2.1 F.2.2.2.2.2.2.2.2.1 D.1 a 3 (eH_at ha) rfl hin hd (k _ _ _ _ _ _ _ _ _ _ _ _ _ _ _ _ _ _ _ _ _ F D)
theorem wp_zaloadN (q : Nat) {a n : Nat} {f : Nat → Int32} {j : Nat} (hd : decode μ.2.1 pc = .ok (.baload, 1)) (hp : pc + 1 = q) (ha : h[a]? = some (cZ n f)) (hn : Nat.ble n 1000000 = true) (hj : j < n) (k : WP Γ μ d cb sb h q ls (.int (f j) :: st) Q) : WP Γ μ d cb sb h pc ls (.int (nI j) :: .ref a :: st) Q := by
  have hn2 := Nat.le_of_ble_eq_true hn
  refine wp_zaload q hd hp ha (vp_in_nI hj (by omega)) ?_
  rw [nI_clamp (by omega)]
  exact k
theorem wp_laload (q : Nat) {a n : Nat} {f : Nat → Int64} {i : Int32} (hd : decode μ.2.1 pc = .ok (.laload, 1)) (hp : pc + 1 = q) (ha : h[a]? = some (cL n f)) (hin : vp_in i n) (k : WP Γ μ d cb sb h q ls (.long (f i.toNatClampNeg) :: st) Q) : WP Γ μ d cb sb h pc ls (.int i :: .ref a :: st) Q := by
  subst hp
  intro p l e R s m args below meth c H locs cells slots A ρ ρ0 n0 mc ms lsr F D
  exact va_lald (D := Γ.1) (cl := clX) F.1 F.2.1 F.2.2.2.2.2.2.2.2.1 D.1 a 1 (eH_at ha) rfl hin hd (k _ _ _ _ _ _ _ _ _ _ _ _ _ _ _ _ _ _ _ _ _ F D)
theorem wp_laloadN (q : Nat) {a n : Nat} {f : Nat → Int64} {j : Nat} (hd : decode μ.2.1 pc = .ok (.laload, 1)) (hp : pc + 1 = q) (ha : h[a]? = some (cL n f)) (hn : Nat.ble n 1000000 = true) (hj : j < n) (k : WP Γ μ d cb sb h q ls (.long (f j) :: st) Q) : WP Γ μ d cb sb h pc ls (.int (nI j) :: .ref a :: st) Q := by
  have hn2 := Nat.le_of_ble_eq_true hn
  refine wp_laload q hd hp ha (vp_in_nI hj (by omega)) ?_
  rw [nI_clamp (by omega)]
  exact k
theorem wp_iastore (q : Nat) {a n : Nat} {f : Nat → Int32} {i : Int32} {x : Int32} (hd : decode μ.2.1 pc = .ok (.iastore, 1)) (hp : pc + 1 = q) (ha : h[a]? = some (cI n f)) (hin : vp_in i n) (k : WP Γ μ d cb sb (h.set a (cI n (upd f i.toNatClampNeg x))) q ls st Q) : WP Γ μ d cb sb h pc ls (.int x :: .int i :: .ref a :: st) Q := by
  subst hp
  intro p l e R s m args below meth c H locs cells slots A ρ ρ0 n0 mc ms lsr F D
  exact va_iast (D := Γ.1) (cl := clX) F.1 F.2.1 F.2.2.2.2.2.2.2.2.1 D.1 D.2.1 D.2.2.1 a 0 (eH_at ha) rfl hin hd (fun H1 locs1 hP hD hS => k _ _ _ _ _ _ _ _ _ _ _ _ _ _ _ _ _ _ _ _ _ F (D.upd (x := cI n (upd f i.toNatClampNeg x)) hP hD hS))
theorem wp_iastoreN (q : Nat) {a n : Nat} {f : Nat → Int32} {j : Nat} {x : Int32} (hd : decode μ.2.1 pc = .ok (.iastore, 1)) (hp : pc + 1 = q) (ha : h[a]? = some (cI n f)) (hn : Nat.ble n 1000000 = true) (hj : j < n) (k : WP Γ μ d cb sb (h.set a (cI n (upd f j x))) q ls st Q) : WP Γ μ d cb sb h pc ls (.int x :: .int (nI j) :: .ref a :: st) Q := by
  have hn2 := Nat.le_of_ble_eq_true hn
  refine wp_iastore q hd hp ha (vp_in_nI hj (by omega)) ?_
  rw [nI_clamp (by omega)]
  exact k
theorem wp_bastore (q : Nat) {a n : Nat} {f : Nat → Int32} {i : Int32} {x : Int32} (hd : decode μ.2.1 pc = .ok (.bastore, 1)) (hp : pc + 1 = q) (ha : h[a]? = some (cB n f)) (hin : vp_in i n) (k : WP Γ μ d cb sb (h.set a (cB n (upd f i.toNatClampNeg (vp_nar .byte x)))) q ls st Q) : WP Γ μ d cb sb h pc ls (.int x :: .int i :: .ref a :: st) Q := by
  subst hp
  intro p l e R s m args below meth c H locs cells slots A ρ ρ0 n0 mc ms lsr F D
  exact va_bast (D := Γ.1) (cl := clX) F.1 F.2.1 F.2.2.2.2.2.2.2.2.1 D.1 D.2.1 D.2.2.1 a 2 (eH_at ha) rfl hin hd (fun H1 locs1 hP hD hS => k _ _ _ _ _ _ _ _ _ _ _ _ _ _ _ _ _ _ _ _ _ F (D.upd (x := cB n (upd f i.toNatClampNeg (vp_nar .byte x))) hP hD hS))
theorem wp_bastoreN (q : Nat) {a n : Nat} {f : Nat → Int32} {j : Nat} {x : Int32} (hd : decode μ.2.1 pc = .ok (.bastore, 1)) (hp : pc + 1 = q) (ha : h[a]? = some (cB n f)) (hn : Nat.ble n 1000000 = true) (hj : j < n) (k : WP Γ μ d cb sb (h.set a (cB n (upd f j (vp_nar .byte x)))) q ls st Q) : WP Γ μ d cb sb h pc ls (.int x :: .int (nI j) :: .ref a :: st) Q := by
  have hn2 := Nat.le_of_ble_eq_true hn
  refine wp_bastore q hd hp ha (vp_in_nI hj (by omega)) ?_
  rw [nI_clamp (by omega)]
  exact k
theorem wp_zastore (q : Nat) {a n : Nat} {f : Nat → Int32} {i : Int32} {x : Int32} (hd : decode μ.2.1 pc = .ok (.bastore, 1)) (hp : pc + 1 = q) (ha : h[a]? = some (cZ n f)) (hin : vp_in i n) (k : WP Γ μ d cb sb (h.set a (cZ n (upd f i.toNatClampNeg (vp_nar .boolean x)))) q ls st Q) : WP Γ μ d cb sb h pc ls (.int x :: .int i :: .ref a :: st) Q := by
  subst hp
  intro p l e R s m args below meth c H locs cells slots A ρ ρ0 n0 mc ms lsr F D
  exact va_zast (D := Γ.1) (cl := clX) F.1 F.2.1 F.2.2.2.2.2.2.2.2.1 D.1 D.2.1 D.2.2.1 a 3 (eH_at ha) rfl hin hd (fun H1 locs1 hP hD hS => k _ _ _ _ _ _ _ _ _ _ _ _ _ _ _ _ _ _ _ _ _ F (D.upd (x := cZ n (upd f i.toNatClampNeg (vp_nar .boolean x))) hP hD hS))
theorem wp_zastoreN (q : Nat) {a n : Nat} {f : Nat → Int32} {j : Nat} {x : Int32} (hd : decode μ.2.1 pc = .ok (.bastore, 1)) (hp : pc + 1 = q) (ha : h[a]? = some (cZ n f)) (hn : Nat.ble n 1000000 = true) (hj : j < n) (k : WP Γ μ d cb sb (h.set a (cZ n (upd f j (vp_nar .boolean x)))) q ls st Q) : WP Γ μ d cb sb h pc ls (.int x :: .int (nI j) :: .ref a :: st) Q := by
  have hn2 := Nat.le_of_ble_eq_true hn
  refine wp_zastore q hd hp ha (vp_in_nI hj (by omega)) ?_
  rw [nI_clamp (by omega)]
  exact k
theorem wp_lastore (q : Nat) {a n : Nat} {f : Nat → Int64} {i : Int32} {x : Int64} (hd : decode μ.2.1 pc = .ok (.lastore, 1)) (hp : pc + 1 = q) (ha : h[a]? = some (cL n f)) (hin : vp_in i n) (k : WP Γ μ d cb sb (h.set a (cL n (vp_updL f i.toNatClampNeg x))) q ls st Q) : WP Γ μ d cb sb h pc ls (.long x :: .int i :: .ref a :: st) Q := by
  subst hp
  intro p l e R s m args below meth c H locs cells slots A ρ ρ0 n0 mc ms lsr F D
  exact va_last (D := Γ.1) (cl := clX) F.1 F.2.1 F.2.2.2.2.2.2.2.2.1 D.1 D.2.1 D.2.2.1 a 1 (eH_at ha) rfl hin hd (fun H1 locs1 hP hD hS => k _ _ _ _ _ _ _ _ _ _ _ _ _ _ _ _ _ _ _ _ _ F (D.upd (x := cL n (vp_updL f i.toNatClampNeg x)) hP hD hS))
theorem wp_lastoreN (q : Nat) {a n : Nat} {f : Nat → Int64} {j : Nat} {x : Int64} (hd : decode μ.2.1 pc = .ok (.lastore, 1)) (hp : pc + 1 = q) (ha : h[a]? = some (cL n f)) (hn : Nat.ble n 1000000 = true) (hj : j < n) (k : WP Γ μ d cb sb (h.set a (cL n (vp_updL f j x))) q ls st Q) : WP Γ μ d cb sb h pc ls (.long x :: .int (nI j) :: .ref a :: st) Q := by
  have hn2 := Nat.le_of_ble_eq_true hn
  refine wp_lastore q hd hp ha (vp_in_nI hj (by omega)) ?_
  rw [nI_clamp (by omega)]
  exact k
theorem wp_alen_int (q : Nat) {a n : Nat} {f : Nat → Int32} (hd : decode μ.2.1 pc = .ok (.arraylength, 1)) (hp : pc + 1 = q) (ha : h[a]? = some (cI n f)) (k : WP Γ μ d cb sb h q ls (.int (nI n) :: st) Q) : WP Γ μ d cb sb h pc ls (.ref a :: st) Q := by
  subst hp
  intro p l e R s m args below meth c H locs cells slots A ρ ρ0 n0 mc ms lsr F D
  exact va_alen (D := Γ.1) (cl := clX) F.1 F.2.1 F.2.2.2.2.2.2.2.2.1 D.1 a 0 (eH_at ha) rfl rfl hd (k _ _ _ _ _ _ _ _ _ _ _ _ _ _ _ _ _ _ _ _ _ F D)
theorem wp_alen_long (q : Nat) {a n : Nat} {f : Nat → Int64} (hd : decode μ.2.1 pc = .ok (.arraylength, 1)) (hp : pc + 1 = q) (ha : h[a]? = some (cL n f)) (k : WP Γ μ d cb sb h q ls (.int (nI n) :: st) Q) : WP Γ μ d cb sb h pc ls (.ref a :: st) Q := by
  subst hp
  intro p l e R s m args below meth c H locs cells slots A ρ ρ0 n0 mc ms lsr F D
  exact va_alen (D := Γ.1) (cl := clX) F.1 F.2.1 F.2.2.2.2.2.2.2.2.1 D.1 a 1 (eH_at ha) rfl rfl hd (k _ _ _ _ _ _ _ _ _ _ _ _ _ _ _ _ _ _ _ _ _ F D)
theorem wp_alen_byte (q : Nat) {a n : Nat} {f : Nat → Int32} (hd : decode μ.2.1 pc = .ok (.arraylength, 1)) (hp : pc + 1 = q) (ha : h[a]? = some (cB n f)) (k : WP Γ μ d cb sb h q ls (.int (nI n) :: st) Q) : WP Γ μ d cb sb h pc ls (.ref a :: st) Q := by
  subst hp
  intro p l e R s m args below meth c H locs cells slots A ρ ρ0 n0 mc ms lsr F D
  exact va_alen (D := Γ.1) (cl := clX) F.1 F.2.1 F.2.2.2.2.2.2.2.2.1 D.1 a 2 (eH_at ha) rfl rfl hd (k _ _ _ _ _ _ _ _ _ _ _ _ _ _ _ _ _ _ _ _ _ F D)
theorem wp_aaload (q : Nat) (t0 b : Nat) {C : String} {a : Nat} {rs : List (Option Nat)} {i : Int32} (hd : decode μ.2.1 pc = .ok (.aaload, 1)) (hp : pc + 1 = q) (ha : h[a]? = some (cR C rs)) (ht : ∀ κ, (tysX κ)[t0]? = some (κ (.object C), .object C)) (hin : vp_in i rs.length) (hb : rs[i.toNatClampNeg]? = some (some b)) (k : WP Γ μ d cb sb h q ls (.ref b :: st) Q) : WP Γ μ d cb sb h pc ls (.int i :: .ref a :: st) Q := by
  subst hp
  intro p l e R s m args below meth c H locs cells slots A ρ ρ0 n0 mc ms lsr F D
  refine va_aldq (D := Γ.1) (cl := clX) F.1 F.2.1 F.2.2.2.2.2.2.2.2.1 D.1 a t0 (eH_at ha) (ht _) hin hd ?_
  rw [List.getD_eq_getElem?_getD, hb]
  exact k _ _ _ _ _ _ _ _ _ _ _ _ _ _ _ _ _ _ _ _ _ F D
theorem eR_set {ρ : Nat → Nat} {rs : List (Option Nat)} {j b : Nat} (hj : j < rs.length) : (fun k => ((rs.set j (some b)).getD k none).map ρ) = va_up (fun k => (rs.getD k none).map ρ) j (some (ρ b)) := by
  funext k
  simp only [va_up, List.getD_eq_getElem?_getD, List.getElem?_set]
  by_cases h : k = j
  · subst h; simp [hj]
  · rw [if_neg h, if_neg (fun z => h z.symm)]
theorem wp_aastore (q : Nat) (t0 ci j : Nat) {C : String} {a b : Nat} {rs : List (Option Nat)} {vs : List Value} {r : vw_C} {i : Int32} (hd : decode μ.2.1 pc = .ok (.aastore, 1)) (hp : pc + 1 = q) (ha : h[a]? = some (cR C rs)) (ht : ∀ κ, (tysX κ)[t0]? = some (κ (.object C), .object C)) (hb : h[b]? = some (cO ci vs)) (hc : clX[ci]? = some r) (hC : r.1 = C) (hin : vp_in i rs.length) (hj : i.toNatClampNeg = j) (k : WP Γ μ d cb sb (h.set a (cR C (rs.set j (some b)))) q ls st Q) : WP Γ μ d cb sb h pc ls (.ref b :: .int i :: .ref a :: st) Q := by
  subst hp; subst hC; subst hj
  have hlt : i.toNatClampNeg < rs.length := Nat.not_le.mp fun z => hin (Or.inr z)
  intro p l e R s m args below meth c H locs cells slots A ρ ρ0 n0 mc ms lsr F D
  refine va_astq (D := Γ.1) (cl := clX) F.1 F.2.1 F.2.2.2.2.2.2.2.2.1 D.1 D.2.1 D.2.2.1 a t0 b ci (eH_at ha) (ht _) (eH_at hb) hc hin hd (fun H1 locs1 hP hD hS => k _ _ _ _ _ _ _ _ _ _ _ _ _ _ _ _ _ _ _ _ _ F (D.upd (x := cR r.1 (rs.set i.toNatClampNeg (some b))) ?_ ?_ hS))
  · simp only [eC, List.length_set, eR_set hlt]; exact hP
  · simp only [eC, List.length_set, eR_set hlt]; exact hD
theorem wp_ldc (q : Nat) (v : Int32) {idx : Nat} (hd : decode μ.2.1 pc = .ok (.ldc idx, 2)) (hp : pc + 2 = q) (hw : Cond.constant μ.1.cls idx v ∈ TbL) (k : WP Γ μ d cb sb h q ls (.int v :: st) Q) : WP Γ μ d cb sb h pc ls st Q := by
  subst hp
  intro p l e R s m args below meth c H locs cells slots A ρ ρ0 n0 mc ms lsr F D
  exact lv_ldc F.1 F.2.1 F.2.2.2.2.2.2.1 (F.2.2.2.2.2.2.2.1.all _ hw) hd (k _ _ _ _ _ _ _ _ _ _ _ _ _ _ _ _ _ _ _ _ _ F D)
theorem wp_ldcw (q : Nat) (v : Int32) {idx : Nat} (hd : decode μ.2.1 pc = .ok (.ldc_w idx, 3)) (hp : pc + 3 = q) (hw : Cond.constant μ.1.cls idx v ∈ TbL) (k : WP Γ μ d cb sb h q ls (.int v :: st) Q) : WP Γ μ d cb sb h pc ls st Q := by
  subst hp
  intro p l e R s m args below meth c H locs cells slots A ρ ρ0 n0 mc ms lsr F D
  exact lv_ldcw F.1 F.2.1 F.2.2.2.2.2.2.1 (F.2.2.2.2.2.2.2.1.all _ hw) hd (k _ _ _ _ _ _ _ _ _ _ _ _ _ _ _ _ _ _ _ _ _ F D)
theorem wp_ldc2 (q : Nat) (v : Int64) {idx : Nat} (hd : decode μ.2.1 pc = .ok (.ldc2_w idx, 3)) (hp : pc + 3 = q) (hw : Cond.constantLong μ.1.cls idx v ∈ TbL) (k : WP Γ μ d cb sb h q ls (.long v :: st) Q) : WP Γ μ d cb sb h pc ls st Q := by
  subst hp
  intro p l e R s m args below meth c H locs cells slots A ρ ρ0 n0 mc ms lsr F D
  exact lv_ldc2 F.1 F.2.1 F.2.2.2.2.2.2.1 (F.2.2.2.2.2.2.2.1.all _ hw) hd (k _ _ _ _ _ _ _ _ _ _ _ _ _ _ _ _ _ _ _ _ _ F D)
theorem wp_ldcS1 (q : Nat) (hd : decode μ.2.1 pc = .ok (.ldc 64, 2)) (hp : pc + 2 = q) (hm : μ.1.cls = "PacedMap$Text") (k : WP Γ μ d cb sb h q ls (.ref (XB + 0) :: st) Q) : WP Γ μ d cb sb h pc ls st Q := by
  subst hp
  intro p l e R s m args below meth c H locs cells slots A ρ ρ0 n0 mc ms lsr F D
  have hown := F.2.2.2.2.2.2.1
  rw [hm] at hown
  have hk := k p l e R s m args below meth c H locs cells slots A ρ ρ0 n0 mc ms lsr F D
  simp only [List.map_cons, eV_ref, D.2.2.2.2.2.2.2.2.1 0] at hk
  exact va_ldcS F.1 F.2.1 hown F.2.2.2.2.2.2.2.2.2.1.2.2.1 hd hk
theorem wp_ldcS2 (q : Nat) (hd : decode μ.2.1 pc = .ok (.ldc 204, 2)) (hp : pc + 2 = q) (hm : μ.1.cls = "PacedMapModel") (k : WP Γ μ d cb sb h q ls (.ref (XB + 1) :: st) Q) : WP Γ μ d cb sb h pc ls st Q := by
  subst hp
  intro p l e R s m args below meth c H locs cells slots A ρ ρ0 n0 mc ms lsr F D
  have hown := F.2.2.2.2.2.2.1
  rw [hm] at hown
  have hk := k p l e R s m args below meth c H locs cells slots A ρ ρ0 n0 mc ms lsr F D
  simp only [List.map_cons, eV_ref, D.2.2.2.2.2.2.2.2.1 1] at hk
  exact va_ldcS F.1 F.2.1 hown F.2.2.2.2.2.2.2.2.2.1.2.2.2.1 hd hk
theorem Dyn.qx {A : Nat → Prop} {R : Room} {s t : State} {H : Heap} {locs : List Loc} {cells slots : Nat} {ρ ρ0 : Nat → Nat} {n0 mc ms : Nat} {lsr : Array Slot} {v : Option Value} {as : Array Value} (D : Dyn Γ μ A d cb sb h ls R s H locs cells slots ρ ρ0 n0 mc ms lsr) (hq : Q v h) (ht : t.heap = H) : Qx Γ A n0 mc ρ0 Q as s (.returned (v.map (eV ρ))) t := by
  obtain ⟨d1, d2, d3, d4, d5, d6, d7, d8, -⟩ := D
  exact ⟨⟨v, h, ρ, rfl, hq, d5, d6, by omega, d8, by rw [ht]; exact d1, d2⟩, d3.F ht⟩
theorem Dyn.cells {A : Nat → Prop} {R : Room} {s : State} {H : Heap} {locs : List Loc} {cells slots : Nat} {ρ ρ0 : Nat → Nat} {n0 mc ms : Nat} {lsr : Array Slot} (D : Dyn Γ μ A d cb sb h ls R s H locs cells slots ρ ρ0 n0 mc ms lsr) : cells ≤ mc ∧ slots ≤ ms := by
  obtain ⟨-, -, -, -, -, -, -, -, -, d1, d2, -⟩ := D
  omega
theorem wp_ireturn {x : Int32} (hd : decode μ.2.1 pc = .ok (.ireturn, 1)) (hr : μ.2.2.2 = some .int) (hq : Q (some (.int x)) h) : WP Γ μ d cb sb h pc ls [.int x] Q := by
  intro p l e R s m args below meth c H locs cells slots A ρ ρ0 n0 mc ms lsr F D
  exact W.widen D.cells.1 D.cells.2 (W.iret (v := x) F.1 F.2.1 (F.2.2.2.1.trans hr) (fun t ht _ => D.qx (v := some (.int x)) hq ht) D.2.2.1.2.2 hd F.2.2.2.2.1)
theorem wp_zreturn {x : Int32} (hd : decode μ.2.1 pc = .ok (.ireturn, 1)) (hr : μ.2.2.2 = some .boolean) (hx : narrow .boolean (.int x) = .int x) (hq : Q (some (.int x)) h) : WP Γ μ d cb sb h pc ls [.int x] Q := by
  intro p l e R s m args below meth c H locs cells slots A ρ ρ0 n0 mc ms lsr F D
  exact W.widen D.cells.1 D.cells.2 (W.zret (v := x) F.1 F.2.1 (F.2.2.2.1.trans hr) hx (fun t ht _ => D.qx (v := some (.int x)) hq ht) D.2.2.1.2.2 hd F.2.2.2.2.1)
theorem wp_nreturn {x : Int32} (ty : FieldType) (hd : decode μ.2.1 pc = .ok (.ireturn, 1)) (hr : μ.2.2.2 = some ty) (hx : narrow ty (.int x) = .int x) (hq : Q (some (.int x)) h) : WP Γ μ d cb sb h pc ls [.int x] Q := by
  intro p l e R s m args below meth c H locs cells slots A ρ ρ0 n0 mc ms lsr F D
  exact W.widen D.cells.1 D.cells.2 (W.zret (v := x) F.1 F.2.1 (F.2.2.2.1.trans hr) hx (fun t ht _ => D.qx (v := some (.int x)) hq ht) D.2.2.1.2.2 hd F.2.2.2.2.1)
theorem wp_lreturn {x : Int64} (hd : decode μ.2.1 pc = .ok (.lreturn, 1)) (hr : μ.2.2.2 = some .long) (hq : Q (some (.long x)) h) : WP Γ μ d cb sb h pc ls [.long x] Q := by
  intro p l e R s m args below meth c H locs cells slots A ρ ρ0 n0 mc ms lsr F D
  exact W.widen D.cells.1 D.cells.2 (W.lret (v := x) F.1 F.2.1 (F.2.2.2.1.trans hr) (fun t ht _ => D.qx (v := some (.long x)) hq ht) D.2.2.1.2.2 hd F.2.2.2.2.1)
theorem wp_return (hd : decode μ.2.1 pc = .ok (.return_, 1)) (hr : μ.2.2.2 = none) (hq : Q none h) : WP Γ μ d cb sb h pc ls [] Q := by
  intro p l e R s m args below meth c H locs cells slots A ρ ρ0 n0 mc ms lsr F D
  exact W.widen D.cells.1 D.cells.2 (W.vret F.1 F.2.1 (F.2.2.2.1.trans hr) (fun t ht _ => D.qx (v := none) hq ht) D.2.2.1.2.2 hd F.2.2.2.2.1)
theorem wp_objInit (q : Nat) {idx a : Nat} (hd : decode μ.2.1 pc = .ok (.invokespecial idx, 3)) (hp : pc + 3 = q) (h1 : Cond.methodLink μ.1.cls idx objectInit ∈ TbL) (h2 : Cond.instanceMethod objectInit ∈ TbL) (h3 : Cond.code objectInit ⟨#[0xb1]⟩ 1 none ∈ TbL) (hdd : 0 < d) (hst : (st.map Value.category).sum ≤ 8) (k : WP Γ μ d cb sb h q ls st Q) : WP Γ μ d cb sb h pc ls (.ref a :: st) Q := by
  subst hp
  intro p l e R s m args below meth c H locs cells slots A ρ ρ0 n0 mc ms lsr F D
  have e9 : ((st.map (eV ρ)).map fun v => v.category) = st.map Value.category := by
    rw [List.map_map]; apply List.map_congr_left; intro v _; exact eV_cat ρ v
  have hdf := D.2.2.2.2.2.2.2.2.2.2.2.2.2
  exact W.objInit F.1 F.2.1 F.2.2.2.2.2.2.1 (F.2.2.2.2.2.2.2.1.all _ h1) (F.2.2.2.2.2.2.2.1.all _ h2) (F.2.2.2.2.2.2.2.1.all _ h3) rfl (by show lsr.size = _; rw [F.2.2.1]; exact D.2.2.2.1.1) rfl hd (by omega) (by rw [e9]; show 2 * 0 + _ + 12 ≤ _; omega) (k _ _ _ _ _ _ _ _ _ _ _ _ _ _ _ _ _ _ _ _ _ F D)
end R4
