/-! ===== Chart: the rest ===== -/
abbrev liP (po : Nat → Int32) (p : Int32) : Prop := inR p 7 ∧ po p.toNatClampNeg = 0
def misV (cx cy cea cno fr to_ : Nat → Int32) (l : Nat) : Int32 := aB (cx (to_ l).toNatClampNeg - cx (fr l).toNatClampNeg - cea l) + aB (cy (to_ l).toNatClampNeg - cy (fr l).toNatClampNeg - cno l)
abbrev canM (po fr to_ : Nat → Int32) (th : Int32) (l : Nat) : Prop := hs th (nI l) ∧ liP po (fr l) ∧ liP po (to_ l)
def mEf (nL : Nat) (ea no fa te cea : Nat → Int32) : Nat → Int32 := fun j => if j < nL then mE ea no fa te j else cea j
def mNf (nL : Nat) (ea no fa te cno : Nat → Int32) : Nat → Int32 := fun j => if j < nL then mN ea no fa te j else cno j
/-- the parts that a set of legs makes -/
def pOf (there : Int32) (fr to_ : Nat → Int32) (nL nP : Nat) : TrS := trI there fr to_ nL nP nP (tr0 (fun _ => -1) (fun _ => 0) (fun _ => 0))
theorem trL_congr {there : Int32} {fr to_ : Nat → Int32} {nL : Nat} {po po' : Nat → Int32} (hfr : ∀ j, vp_in (fr j) 7) (hto : ∀ j, vp_in (to_ j) 7) (h : ∀ j, j < 7 → po j = po' j) : trL there fr to_ nL po = trL there fr to_ nL po' := by
  have e : ∀ l, layP there po fr to_ l ↔ layP there po' fr to_ l := by
    intro l
    have h1 : (fr l).toNatClampNeg < 7 := Nat.not_le.mp fun q => hfr l (Or.inr q)
    have h2 : (to_ l).toNatClampNeg < 7 := Nat.not_le.mp fun q => hto l (Or.inr q)
    simp only [layP, un, h _ h1, h _ h2]
  have : ∀ n i, ffind (layP there po fr to_) i n = ffind (layP there po' fr to_) i n := by
    intro n
    induction n with
    | zero => intro i; rfl
    | succ n ih => intro i; simp only [ffind, ih, e i]
  exact this _ _
theorem trP_congr {nP : Nat} (hP : nP ≤ 7) {po po' : Nat → Int32} (h : ∀ j, j < 7 → po j = po' j) : trP nP po = trP nP po' := by
  have : ∀ n i, i + n ≤ 7 → ffind0 (fun j => po j = -1) i n = ffind0 (fun j => po' j = -1) i n := by
    intro n
    induction n with
    | zero => intro i _; rfl
    | succ n ih => intro i hi; simp only [ffind0, ih (i + 1) (by omega), h i (by omega)]
  exact this _ _ (by omega)
theorem upd_congr {f g : Nat → Int32} {k : Nat} {v : Int32} {N : Nat} (h : ∀ j, j < N → f j = g j) : ∀ j, j < N → upd f k v j = upd g k v j := by
  intro j hj
  unfold upd
  split
  · rfl
  · exact h j hj
/-- two traces that agree in what counts -/
def trE (S S' : TrS) : Prop := (∀ j, j < 7 → S.1 j = S'.1 j) ∧ (∀ j, j < S.2.2.2.1 → S.2.1 j = S'.2.1 j ∧ S.2.2.1 j = S'.2.2.1 j) ∧ S.2.2.2 = S'.2.2.2
theorem upd_push {f g : Nat → Int32} {n : Nat} {v : Int32} (h : ∀ j, j < n → f j = g j) : ∀ j, j < n + 1 → upd f n v j = upd g n v j := by
  intro j hj
  unfold upd
  split
  · rfl
  · exact h j (by omega)
theorem trE_step {there : Int32} {fr to_ : Nat → Int32} {nL nP : Nat} (hP : nP ≤ 7) (hfr : ∀ j, vp_in (fr j) 7) (hto : ∀ j, vp_in (to_ j) 7) {S S' : TrS} (h : trE S S') : trE (trStep there fr to_ nL nP S) (trStep there fr to_ nL nP S') := by
  obtain ⟨po, la, ba, ly, pt, pa⟩ := S
  obtain ⟨po', la', ba', ly', pt', pa'⟩ := S'
  obtain ⟨h1, h2, h3⟩ := h
  simp only [Prod.mk.injEq] at h3
  obtain ⟨rfl, rfl, rfl⟩ := h3
  simp only at h1 h2
  have eL := trL_congr (there := there) (nL := nL) hfr hto h1
  have eP := trP_congr hP h1
  simp only [trStep, eL, eP]
  by_cases c : trL there fr to_ nL po' = -1
  · simp only [if_pos c]
    exact ⟨upd_congr h1, h2, rfl⟩
  · simp only [if_neg c]
    have hlt : (fr (trL there fr to_ nL po').toNatClampNeg).toNatClampNeg < 7 := Nat.not_le.mp fun q => hfr _ (Or.inr q)
    have eu : un po fr (trL there fr to_ nL po').toNatClampNeg = un po' fr (trL there fr to_ nL po').toNatClampNeg := by simp only [un, h1 _ hlt]
    simp only [eu]
    split
    · exact ⟨upd_congr h1, fun j hj => ⟨upd_push (fun j hj => (h2 j hj).1) j hj, upd_push (fun j hj => (h2 j hj).2) j hj⟩, rfl⟩
    · exact ⟨upd_congr h1, fun j hj => ⟨upd_push (fun j hj => (h2 j hj).1) j hj, upd_push (fun j hj => (h2 j hj).2) j hj⟩, rfl⟩
theorem trE_I {there : Int32} {fr to_ : Nat → Int32} {nL nP : Nat} (hP : nP ≤ 7) (hfr : ∀ j, vp_in (fr j) 7) (hto : ∀ j, vp_in (to_ j) 7) : ∀ (r : Nat) {S S' : TrS}, trE S S' → trE (trI there fr to_ nL nP r S) (trI there fr to_ nL nP r S')
  | 0, _, _, h => h
  | r + 1, _, _, h => trE_I hP hfr hto r (trE_step hP hfr hto h)
theorem pOf_eq {there : Int32} {fr to_ : Nat → Int32} {nL nP : Nat} (hP : nP ≤ 7) (hfr : ∀ j, vp_in (fr j) 7) (hto : ∀ j, vp_in (to_ j) 7) (po la ba : Nat → Int32) : trE (trI there fr to_ nL nP nP (tr0 po la ba)) (pOf there fr to_ nL nP) :=
  trE_I hP hfr hto nP ⟨fun j hj => by simp [tr0, hj], fun j hj => absurd hj (by simp [tr0]), rfl⟩
section T25
variable {Γ : Gm} {Q : Option Value → LH → Prop}
abbrev hC (cea : Nat → Int32) (cno : Nat → Int32) (cx : Nat → Int32) (cy : Nat → Int32) (cpo : Nat → Int32) (cla : Nat → Int32) (cba : Nat → Int32) (cly : Int32) (cpt : Int32) : LH := [cO 0 [.ref 1, .ref 2, .ref 3, .ref 4, .ref 5, .ref 6, .ref 7, .int cly, .int cpt], cI 12 cea, cI 12 cno, cI 7 cx, cI 7 cy, cI 7 cpo, cI 7 cla, cZ 7 cba]
set_option maxRecDepth 100000 in
set_option maxHeartbeats 4000000 in
theorem c_Chart_init (hq : Q none (hC ((fun _ => 0)) ((fun _ => 0)) ((fun _ => 0)) ((fun _ => 0)) ((fun _ => 0)) ((fun _ => 0)) ((fun _ => 0)) (0) (0))) : Call Γ M_Chart_init 1 7 59 [.ref 0] [cO 0 [.null, .null, .null, .null, .null, .null, .null, .int 0, .int 0]] Q := by
  refine call_intro (ls := [some (.ref 0)]) rfl rfl rfl ?_
  refine wp_aload_n 1 d_Chart_init_0 rfl rfl ?_
  refine wp_objInit 4 d_Chart_init_1 rfl lo_Chart_3 oi_inst oi_code (by decide) (by decide) ?_
  refine wp_aload_n 5 d_Chart_init_4 rfl rfl ?_
  refine wp_bipush 7 12 d_Chart_init_5 rfl (by decide) ?_
  refine wp_newarray_int 9 12 1 d_Chart_init_7 rfl ac_int (by decide) (by decide) (by decide) rfl rfl ?_
  simp only [List.cons_append, List.nil_append]
  refine wp_putfinal 12 0 0 _ d_Chart_init_9 rfl fp_Chart_9 rfl rfl rfl (fun _ => ⟨rfl, rfl⟩) ?_
  dsimp only [List.set]
  refine wp_aload_n 13 d_Chart_init_12 rfl rfl ?_
  refine wp_bipush 15 12 d_Chart_init_13 rfl (by decide) ?_
  refine wp_newarray_int 17 12 2 d_Chart_init_15 rfl ac_int (by decide) (by decide) (by decide) rfl rfl ?_
  simp only [List.cons_append, List.nil_append]
  refine wp_putfinal 20 0 1 _ d_Chart_init_17 rfl fp_Chart_15 rfl rfl rfl (fun _ => ⟨rfl, rfl⟩) ?_
  dsimp only [List.set]
  refine wp_aload_n 21 d_Chart_init_20 rfl rfl ?_
  refine wp_bipush 23 7 d_Chart_init_21 rfl (by decide) ?_
  refine wp_newarray_int 25 7 3 d_Chart_init_23 rfl ac_int (by decide) (by decide) (by decide) rfl rfl ?_
  simp only [List.cons_append, List.nil_append]
  refine wp_putfinal 28 0 2 _ d_Chart_init_25 rfl fp_Chart_18 rfl rfl rfl (fun _ => ⟨rfl, rfl⟩) ?_
  dsimp only [List.set]
  refine wp_aload_n 29 d_Chart_init_28 rfl rfl ?_
  refine wp_bipush 31 7 d_Chart_init_29 rfl (by decide) ?_
  refine wp_newarray_int 33 7 4 d_Chart_init_31 rfl ac_int (by decide) (by decide) (by decide) rfl rfl ?_
  simp only [List.cons_append, List.nil_append]
  refine wp_putfinal 36 0 3 _ d_Chart_init_33 rfl fp_Chart_21 rfl rfl rfl (fun _ => ⟨rfl, rfl⟩) ?_
  dsimp only [List.set]
  refine wp_aload_n 37 d_Chart_init_36 rfl rfl ?_
  refine wp_bipush 39 7 d_Chart_init_37 rfl (by decide) ?_
  refine wp_newarray_int 41 7 5 d_Chart_init_39 rfl ac_int (by decide) (by decide) (by decide) rfl rfl ?_
  simp only [List.cons_append, List.nil_append]
  refine wp_putfinal 44 0 4 _ d_Chart_init_41 rfl fp_Chart_24 rfl rfl rfl (fun _ => ⟨rfl, rfl⟩) ?_
  dsimp only [List.set]
  refine wp_aload_n 45 d_Chart_init_44 rfl rfl ?_
  refine wp_bipush 47 7 d_Chart_init_45 rfl (by decide) ?_
  refine wp_newarray_int 49 7 6 d_Chart_init_47 rfl ac_int (by decide) (by decide) (by decide) rfl rfl ?_
  simp only [List.cons_append, List.nil_append]
  refine wp_putfinal 52 0 5 _ d_Chart_init_49 rfl fp_Chart_27 rfl rfl rfl (fun _ => ⟨rfl, rfl⟩) ?_
  dsimp only [List.set]
  refine wp_aload_n 53 d_Chart_init_52 rfl rfl ?_
  refine wp_bipush 55 7 d_Chart_init_53 rfl (by decide) ?_
  refine wp_newarray_boolean 57 7 7 d_Chart_init_55 rfl ac_boolean (by decide) (by decide) (by decide) rfl rfl ?_
  simp only [List.cons_append, List.nil_append]
  refine wp_putfinal 60 0 6 _ d_Chart_init_57 rfl fp_Chart_30 rfl rfl rfl (fun _ => ⟨rfl, rfl⟩) ?_
  dsimp only [List.set]
  refine wp_aload_n 61 d_Chart_init_60 rfl rfl ?_
  refine wp_iconst 62 0 d_Chart_init_61 rfl (by decide) ?_
  refine wp_putfield 65 0 7 _ d_Chart_init_62 rfl fp_Chart_34 rfl rfl (okP_int _) ?_
  dsimp only [List.set]
  refine wp_aload_n 66 d_Chart_init_65 rfl rfl ?_
  refine wp_iconst 67 0 d_Chart_init_66 rfl (by decide) ?_
  refine wp_putfield 70 0 8 _ d_Chart_init_67 rfl fp_Chart_38 rfl rfl (okP_int _) ?_
  dsimp only [List.set]
  refine wp_return d_Chart_init_70 rfl ?_
  exact hq

set_option maxRecDepth 100000 in
set_option maxHeartbeats 4000000 in
theorem c_Chart_lies {cea cno cx cy cpo cla cba : Nat → Int32} {cly cpt : Int32} {p : Int32} (hq : Q (some (.int (bP (liP cpo p)))) (hC cea cno cx cy cpo cla cba cly cpt)) : Call Γ M_Chart_lies 2 0 0 [.ref 0, .int p] (hC cea cno cx cy cpo cla cba cly cpt) Q := by
  refine call_intro (ls := [some (.ref 0), some (.int p)]) rfl rfl rfl ?_
  refine wp_iload_n 1 d_Chart_lies_0 rfl rfl ?_
  refine wp_bipush 3 7 d_Chart_lies_1 rfl (by decide) ?_
  refine wp_N2 6 M_PM_within 1 d_Chart_lies_3 rfl ms_PM_within lk_Chart_101 rfl rfl ?_
  refine c_PM_within ?_
  refine kI ?_
  (first | refine wp_ifP_eq 22 9 d_Chart_lies_6 rfl (by decide) (fun h6 => ?_) (fun h6 => ?_) | refine wp_if_eq 22 9 d_Chart_lies_6 rfl (by decide) (fun h6 => ?_) (fun h6 => ?_))
  · refine wp_iconst 23 0 d_Chart_lies_22 rfl (by decide) ?_
    refine wp_zreturn d_Chart_lies_23 rfl (by first | rfl | exact nbP _) ?_
    first | exact bq0 (fun z => h6 z.1) hq | exact bq0 (fun z => h15 z.2) hq | exact bq1 ⟨h6, h15⟩ hq
  · refine wp_aload_n 10 d_Chart_lies_9 rfl rfl ?_
    refine wp_getfield 13 0 4 d_Chart_lies_10 rfl fl_Chart_24 rfl rfl ?_
    refine wp_iload_n 14 d_Chart_lies_13 rfl rfl ?_
    refine wp_iaload 15 d_Chart_lies_14 rfl rfl (inR_in (n := 7) h6 (by omega) (by omega)) ?_
    refine wp_if_ne 22 18 d_Chart_lies_15 rfl (by decide) (fun h15 => ?_) (fun h15 => ?_)
    · refine wp_iconst 23 0 d_Chart_lies_22 rfl (by decide) ?_
      refine wp_zreturn d_Chart_lies_23 rfl (by first | rfl | exact nbP _) ?_
      first | exact bq0 (fun z => h6 z.1) hq | exact bq0 (fun z => h15 z.2) hq | exact bq1 ⟨h6, h15⟩ hq
    · refine wp_iconst 19 1 d_Chart_lies_18 rfl (by decide) ?_
      refine wp_goto 23 d_Chart_lies_19 (by decide) ?_
      refine wp_zreturn d_Chart_lies_23 rfl (by first | rfl | exact nbP _) ?_
      first | exact bq0 (fun z => h6 z.1) hq | exact bq0 (fun z => h15 z.2) hq | exact bq1 ⟨h6, h15⟩ hq

set_option maxRecDepth 100000 in
set_option maxHeartbeats 4000000 in
theorem c_Chart_sameParts {cea cno cx cy cpo cla cba : Nat → Int32} {cly cpt : Int32} {p r : Int32} (hp : vp_in p 7) (hr : vp_in r 7) (hq : Q (some (.int (bP (cpo p.toNatClampNeg = cpo r.toNatClampNeg)))) (hC cea cno cx cy cpo cla cba cly cpt)) : Call Γ M_Chart_sameParts 1 0 0 [.ref 0, .int p, .int r] (hC cea cno cx cy cpo cla cba cly cpt) Q := by
  refine call_intro (ls := [some (.ref 0), some (.int p), some (.int r)]) rfl rfl rfl ?_
  refine wp_aload_n 1 d_Chart_sameParts_0 rfl rfl ?_
  refine wp_getfield 4 0 4 d_Chart_sameParts_1 rfl fl_Chart_24 rfl rfl ?_
  refine wp_iload_n 5 d_Chart_sameParts_4 rfl rfl ?_
  refine wp_iaload 6 d_Chart_sameParts_5 rfl rfl hp ?_
  refine wp_aload_n 7 d_Chart_sameParts_6 rfl rfl ?_
  refine wp_getfield 10 0 4 d_Chart_sameParts_7 rfl fl_Chart_24 rfl rfl ?_
  refine wp_iload_n 11 d_Chart_sameParts_10 rfl rfl ?_
  refine wp_iaload 12 d_Chart_sameParts_11 rfl rfl hr ?_
  refine wp_icmp_ne 19 15 d_Chart_sameParts_12 rfl (by decide) (fun h12 => ?_) (fun h12 => ?_)
  · refine wp_iconst 20 0 d_Chart_sameParts_19 rfl (by decide) ?_
    refine wp_zreturn d_Chart_sameParts_20 rfl (by first | rfl | exact nbP _) ?_
    first | exact bq0 h12 hq | exact bq1 h12 hq
  · refine wp_iconst 16 1 d_Chart_sameParts_15 rfl (by decide) ?_
    refine wp_goto 20 d_Chart_sameParts_16 (by decide) ?_
    refine wp_zreturn d_Chart_sameParts_20 rfl (by first | rfl | exact nbP _) ?_
    first | exact bq0 h12 hq | exact bq1 h12 hq

set_option maxRecDepth 100000 in
set_option maxHeartbeats 4000000 in
theorem l_Chart_liesSet_4 {cea cno cx cy cpo cla cba fa te fr to_ ea no : Nat → Int32} {cly cpt wa le od sk sd go : Int32} {pn wn : Nat → Int64} {nP : Nat} (hP : nP ≤ 7) (hq : Q (some (.int (iorr (fun p => if cpo p = 0 then bit (nI p) else 0) nP))) (hCT cea cno cx cy cpo cla cba cly cpt pn wn fa te fr to_ ea no (nI nP) wa le od sk sd go)) : ∀ (r i : Nat) , i + r = nP → WP Γ M_Chart_liesSet 3 0 0 (hCT cea cno cx cy cpo cla cba cly cpt pn wn fa te fr to_ ea no (nI nP) wa le od sk sd go) 4 [some (.ref 0), some (.ref 8), some (.int (iorr (fun p => if cpo p = 0 then bit (nI p) else 0) i)), some (.int (nI i))] [] Q := by
  intro r
  induction r with
  | zero =>
    intro i  hi 
    refine wp_iload_n 5 d_Chart_liesSet_4 rfl rfl ?_
    refine wp_aload_n 6 d_Chart_liesSet_5 rfl rfl ?_
    refine wp_getfield 9 8 8 d_Chart_liesSet_6 rfl fl_Chart_80 rfl rfl ?_
    refine wp_icmp_ge 32 12 d_Chart_liesSet_9 rfl (by decide) (fun h9 => ?_) (fun h9 => ?_)
    · refine wp_iload_n 33 d_Chart_liesSet_32 rfl rfl ?_
      refine wp_ireturn d_Chart_liesSet_33 rfl ?_
      have e : i = nP := by omega
      subst e
      exact hq
    · exact absurd ((nI_leI (by omega) (by omega)).mpr (by omega)) h9
  | succ r ih =>
    intro i  hi 
    refine wp_iload_n 5 d_Chart_liesSet_4 rfl rfl ?_
    refine wp_aload_n 6 d_Chart_liesSet_5 rfl rfl ?_
    refine wp_getfield 9 8 8 d_Chart_liesSet_6 rfl fl_Chart_80 rfl rfl ?_
    refine wp_icmp_ge 32 12 d_Chart_liesSet_9 rfl (by decide) (fun h9 => ?_) (fun h9 => ?_)
    · exact absurd (nI_leN h9 (by omega) (by omega)) (by omega)
    · refine wp_aload_n 13 d_Chart_liesSet_12 rfl rfl ?_
      refine wp_iload_n 14 d_Chart_liesSet_13 rfl rfl ?_
      refine ws_V1 (b' := 0) 17 M_Chart_lies 2 [0, 1, 2, 3, 4, 5, 6, 7] ((hC _ _ _ _ _ _ _ _ _)) d_Chart_liesSet_14 rfl mv_Chart_lies lk_Chart_104 rfl rfl rfl rfl rfl rfl rfl (eV_int _ _) rfl ?_
      refine c_Chart_lies ?_
      refine sIr rfl rfl ?_
      (first | refine wp_ifP_eq 26 20 d_Chart_liesSet_17 rfl (by decide) (fun h17 => ?_) (fun h17 => ?_) | refine wp_if_eq 26 20 d_Chart_liesSet_17 rfl (by decide) (fun h17 => ?_) (fun h17 => ?_))
      · first | refine wp_iincN_3 29 d_Chart_liesSet_26 rfl rfl rfl ?_ | refine wp_iinc_3 29 1 d_Chart_liesSet_26 rfl (by decide) rfl rfl ?_
        refine wp_goto 4 d_Chart_liesSet_29 (by decide) ?_
        refine qL2 ?_ (ih (i + 1) (by omega))
        have e9 : (nI i).toNatClampNeg = i := nI_clamp (by omega)
        have e8 : inR (nI i) 7 := ⟨nI_pos' (by omega), (nI_ltI (b := 7) (by omega) (by omega)).mpr (by omega)⟩
        first | (have h7 : cpo i = 0 := (by rw [← e9]; exact h17.2); simp only [iorr, if_pos h7]) | (have h7 : ¬ cpo i = 0 := fun z => h17 ⟨e8, by rw [e9]; exact z⟩; simp only [iorr, if_neg h7, or_0])
      · refine wp_iload_n 21 d_Chart_liesSet_20 rfl rfl ?_
        refine wp_iconst 22 1 d_Chart_liesSet_21 rfl (by decide) ?_
        refine wp_iload_n 23 d_Chart_liesSet_22 rfl rfl ?_
        refine wp_ishl 24 d_Chart_liesSet_23 rfl ?_
        refine wp_ior 25 d_Chart_liesSet_24 rfl ?_
        refine wp_istore_2 26 d_Chart_liesSet_25 rfl rfl rfl ?_
        first | refine wp_iincN_3 29 d_Chart_liesSet_26 rfl rfl rfl ?_ | refine wp_iinc_3 29 1 d_Chart_liesSet_26 rfl (by decide) rfl rfl ?_
        refine wp_goto 4 d_Chart_liesSet_29 (by decide) ?_
        refine qL2 ?_ (ih (i + 1) (by omega))
        have e9 : (nI i).toNatClampNeg = i := nI_clamp (by omega)
        have e8 : inR (nI i) 7 := ⟨nI_pos' (by omega), (nI_ltI (b := 7) (by omega) (by omega)).mpr (by omega)⟩
        first | (have h7 : cpo i = 0 := (by rw [← e9]; exact h17.2); simp only [iorr, if_pos h7]) | (have h7 : ¬ cpo i = 0 := fun z => h17 ⟨e8, by rw [e9]; exact z⟩; simp only [iorr, if_neg h7, or_0])

set_option maxRecDepth 100000 in
set_option maxHeartbeats 4000000 in
theorem c_Chart_liesSet {cea cno cx cy cpo cla cba fa te fr to_ ea no : Nat → Int32} {cly cpt wa le od sk sd go : Int32} {pn wn : Nat → Int64} {nP : Nat} (hP : nP ≤ 7) (hq : Q (some (.int (iorr (fun p => if cpo p = 0 then bit (nI p) else 0) nP))) (hCT cea cno cx cy cpo cla cba cly cpt pn wn fa te fr to_ ea no (nI nP) wa le od sk sd go)) : Call Γ M_Chart_liesSet 3 0 0 [.ref 0, .ref 8] (hCT cea cno cx cy cpo cla cba cly cpt pn wn fa te fr to_ ea no (nI nP) wa le od sk sd go) Q := by
  refine call_intro (ls := [some (.ref 0), some (.ref 8), none, none]) rfl rfl rfl ?_
  refine wp_iconst 1 0 d_Chart_liesSet_0 rfl (by decide) ?_
  refine wp_istore_2 2 d_Chart_liesSet_1 rfl rfl rfl ?_
  refine wp_iconst 3 0 d_Chart_liesSet_2 rfl (by decide) ?_
  refine wp_istore_3 4 d_Chart_liesSet_3 rfl rfl rfl ?_
  exact l_Chart_liesSet_4 hP hq nP 0 (by omega)

set_option maxRecDepth 100000 in
set_option maxHeartbeats 4000000 in
theorem c_Chart_canMiss {cea cno cx cy cpo cla cba fa te fr to_ ea no : Nat → Int32} {cly cpt pl wa le od sk sd go : Int32} {pn wn : Nat → Int64} {l : Nat} (hl : l < 12) (hq : Q (some (.int (bP (canM cpo fr to_ (lTh le sk) l)))) (hCT cea cno cx cy cpo cla cba cly cpt pn wn fa te fr to_ ea no pl wa le od sk sd go)) : Call Γ M_Chart_canMiss 3 0 0 [.ref 0, .ref 8, .int (nI l)] (hCT cea cno cx cy cpo cla cba cly cpt pn wn fa te fr to_ ea no pl wa le od sk sd go) Q := by
  refine call_intro (ls := [some (.ref 0), some (.ref 8), some (.int (nI l))]) rfl rfl rfl ?_
  refine wp_aload_n 1 d_Chart_canMiss_0 rfl rfl ?_
  refine ws_V0 (b' := 0) 4 M_Town_legsThere 1 [8, 9, 10, 11, 12, 13, 14, 15, 16] ((hT _ _ _ _ _ _ _ _ _ _ _ _ _ _ _)) d_Chart_canMiss_1 rfl mv_Town_legsThere lk_Chart_45 rfl rfl rfl rfl rfl rfl rfl rfl ?_
  refine c_Town_legsThere ?_
  refine sIr rfl rfl ?_
  refine wp_iload_n 5 d_Chart_canMiss_4 rfl rfl ?_
  refine wp_N2 8 M_PM_has 1 d_Chart_canMiss_5 rfl ms_PM_has lk_Chart_97 rfl rfl ?_
  refine c_PM_has ?_
  refine kI ?_
  (first | refine wp_ifP_eq 41 11 d_Chart_canMiss_8 rfl (by decide) (fun h8 => ?_) (fun h8 => ?_) | refine wp_if_eq 41 11 d_Chart_canMiss_8 rfl (by decide) (fun h8 => ?_) (fun h8 => ?_))
  · refine wp_iconst 42 0 d_Chart_canMiss_41 rfl (by decide) ?_
    refine wp_zreturn d_Chart_canMiss_42 rfl (by first | rfl | exact nbP _) ?_
    first | exact bq1 ⟨h8, h21, h34⟩ hq | exact bq0 (fun z => h34 z.2.2) hq | exact bq0 (fun z => h21 z.2.1) hq | exact bq0 (fun z => h8 z.1) hq
  · refine wp_aload_n 12 d_Chart_canMiss_11 rfl rfl ?_
    refine wp_aload_n 13 d_Chart_canMiss_12 rfl rfl ?_
    refine wp_getfield 16 8 4 d_Chart_canMiss_13 rfl fl_Chart_91 rfl rfl ?_
    refine wp_iload_n 17 d_Chart_canMiss_16 rfl rfl ?_
    refine wp_ialoadN 18 d_Chart_canMiss_17 rfl rfl rfl (by omega) ?_
    refine ws_V1 (b' := 0) 21 M_Chart_lies 2 [0, 1, 2, 3, 4, 5, 6, 7] ((hC _ _ _ _ _ _ _ _ _)) d_Chart_canMiss_18 rfl mv_Chart_lies lk_Chart_104 rfl rfl rfl rfl rfl rfl rfl (eV_int _ _) rfl ?_
    refine c_Chart_lies ?_
    refine sIr rfl rfl ?_
    (first | refine wp_ifP_eq 41 24 d_Chart_canMiss_21 rfl (by decide) (fun h21 => ?_) (fun h21 => ?_) | refine wp_if_eq 41 24 d_Chart_canMiss_21 rfl (by decide) (fun h21 => ?_) (fun h21 => ?_))
    · refine wp_iconst 42 0 d_Chart_canMiss_41 rfl (by decide) ?_
      refine wp_zreturn d_Chart_canMiss_42 rfl (by first | rfl | exact nbP _) ?_
      first | exact bq1 ⟨h8, h21, h34⟩ hq | exact bq0 (fun z => h34 z.2.2) hq | exact bq0 (fun z => h21 z.2.1) hq | exact bq0 (fun z => h8 z.1) hq
    · refine wp_aload_n 25 d_Chart_canMiss_24 rfl rfl ?_
      refine wp_aload_n 26 d_Chart_canMiss_25 rfl rfl ?_
      refine wp_getfield 29 8 5 d_Chart_canMiss_26 rfl fl_Chart_94 rfl rfl ?_
      refine wp_iload_n 30 d_Chart_canMiss_29 rfl rfl ?_
      refine wp_ialoadN 31 d_Chart_canMiss_30 rfl rfl rfl (by omega) ?_
      refine ws_V1 (b' := 0) 34 M_Chart_lies 2 [0, 1, 2, 3, 4, 5, 6, 7] ((hC _ _ _ _ _ _ _ _ _)) d_Chart_canMiss_31 rfl mv_Chart_lies lk_Chart_104 rfl rfl rfl rfl rfl rfl rfl (eV_int _ _) rfl ?_
      refine c_Chart_lies ?_
      refine sIr rfl rfl ?_
      (first | refine wp_ifP_eq 41 37 d_Chart_canMiss_34 rfl (by decide) (fun h34 => ?_) (fun h34 => ?_) | refine wp_if_eq 41 37 d_Chart_canMiss_34 rfl (by decide) (fun h34 => ?_) (fun h34 => ?_))
      · refine wp_iconst 42 0 d_Chart_canMiss_41 rfl (by decide) ?_
        refine wp_zreturn d_Chart_canMiss_42 rfl (by first | rfl | exact nbP _) ?_
        first | exact bq1 ⟨h8, h21, h34⟩ hq | exact bq0 (fun z => h34 z.2.2) hq | exact bq0 (fun z => h21 z.2.1) hq | exact bq0 (fun z => h8 z.1) hq
      · refine wp_iconst 38 1 d_Chart_canMiss_37 rfl (by decide) ?_
        refine wp_goto 42 d_Chart_canMiss_38 (by decide) ?_
        refine wp_zreturn d_Chart_canMiss_42 rfl (by first | rfl | exact nbP _) ?_
        first | exact bq1 ⟨h8, h21, h34⟩ hq | exact bq0 (fun z => h34 z.2.2) hq | exact bq0 (fun z => h21 z.2.1) hq | exact bq0 (fun z => h8 z.1) hq

set_option maxRecDepth 100000 in
set_option maxHeartbeats 4000000 in
theorem c_Chart_missOf {cea cno cx cy cpo cla cba fa te fr to_ ea no : Nat → Int32} {cly cpt pl wa le od sk sd go : Int32} {pn wn : Nat → Int64} {l : Nat} (hl : l < 12) (hfr : ∀ j, vp_in (fr j) 7) (hto : ∀ j, vp_in (to_ j) 7) (hq : Q (some (.int (misV cx cy cea cno fr to_ l))) (hCT cea cno cx cy cpo cla cba cly cpt pn wn fa te fr to_ ea no pl wa le od sk sd go)) : Call Γ M_Chart_missOf 2 0 0 [.ref 0, .ref 8, .int (nI l)] (hCT cea cno cx cy cpo cla cba cly cpt pn wn fa te fr to_ ea no pl wa le od sk sd go) Q := by
  refine call_intro (ls := [some (.ref 0), some (.ref 8), some (.int (nI l)), none, none]) rfl rfl rfl ?_
  refine wp_aload_n 1 d_Chart_missOf_0 rfl rfl ?_
  refine wp_getfield 4 8 4 d_Chart_missOf_1 rfl fl_Chart_91 rfl rfl ?_
  refine wp_iload_n 5 d_Chart_missOf_4 rfl rfl ?_
  refine wp_ialoadN 6 d_Chart_missOf_5 rfl rfl rfl (by omega) ?_
  refine wp_istore_3 7 d_Chart_missOf_6 rfl rfl rfl ?_
  refine wp_aload_n 8 d_Chart_missOf_7 rfl rfl ?_
  refine wp_getfield 11 8 5 d_Chart_missOf_8 rfl fl_Chart_94 rfl rfl ?_
  refine wp_iload_n 12 d_Chart_missOf_11 rfl rfl ?_
  refine wp_ialoadN 13 d_Chart_missOf_12 rfl rfl rfl (by omega) ?_
  refine wp_istore_4 15 d_Chart_missOf_13 rfl rfl rfl ?_
  refine wp_aload_n 16 d_Chart_missOf_15 rfl rfl ?_
  refine wp_getfield 19 0 2 d_Chart_missOf_16 rfl fl_Chart_18 rfl rfl ?_
  refine wp_iload 21 d_Chart_missOf_19 rfl rfl ?_
  refine wp_iaload 22 d_Chart_missOf_21 rfl rfl (hto _) ?_
  refine wp_aload_n 23 d_Chart_missOf_22 rfl rfl ?_
  refine wp_getfield 26 0 2 d_Chart_missOf_23 rfl fl_Chart_18 rfl rfl ?_
  refine wp_iload_n 27 d_Chart_missOf_26 rfl rfl ?_
  refine wp_iaload 28 d_Chart_missOf_27 rfl rfl (hfr _) ?_
  refine wp_isub 29 d_Chart_missOf_28 rfl ?_
  refine wp_aload_n 30 d_Chart_missOf_29 rfl rfl ?_
  refine wp_getfield 33 0 0 d_Chart_missOf_30 rfl fl_Chart_9 rfl rfl ?_
  refine wp_iload_n 34 d_Chart_missOf_33 rfl rfl ?_
  refine wp_ialoadN 35 d_Chart_missOf_34 rfl rfl rfl (by omega) ?_
  refine wp_isub 36 d_Chart_missOf_35 rfl ?_
  refine wp_S1 39 M_JMath_absI 1 d_Chart_missOf_36 rfl ms_JMath_absI lk_Chart_108 rfl rfl ?_
  refine c_JMath_absI ?_
  refine kI ?_
  refine wp_aload_n 40 d_Chart_missOf_39 rfl rfl ?_
  refine wp_getfield 43 0 3 d_Chart_missOf_40 rfl fl_Chart_21 rfl rfl ?_
  refine wp_iload 45 d_Chart_missOf_43 rfl rfl ?_
  refine wp_iaload 46 d_Chart_missOf_45 rfl rfl (hto _) ?_
  refine wp_aload_n 47 d_Chart_missOf_46 rfl rfl ?_
  refine wp_getfield 50 0 3 d_Chart_missOf_47 rfl fl_Chart_21 rfl rfl ?_
  refine wp_iload_n 51 d_Chart_missOf_50 rfl rfl ?_
  refine wp_iaload 52 d_Chart_missOf_51 rfl rfl (hfr _) ?_
  refine wp_isub 53 d_Chart_missOf_52 rfl ?_
  refine wp_aload_n 54 d_Chart_missOf_53 rfl rfl ?_
  refine wp_getfield 57 0 1 d_Chart_missOf_54 rfl fl_Chart_15 rfl rfl ?_
  refine wp_iload_n 58 d_Chart_missOf_57 rfl rfl ?_
  refine wp_ialoadN 59 d_Chart_missOf_58 rfl rfl rfl (by omega) ?_
  refine wp_isub 60 d_Chart_missOf_59 rfl ?_
  refine wp_S1 63 M_JMath_absI 1 d_Chart_missOf_60 rfl ms_JMath_absI lk_Chart_108 rfl rfl ?_
  refine c_JMath_absI ?_
  refine kI ?_
  refine wp_iadd 64 d_Chart_missOf_63 rfl ?_
  refine wp_ireturn d_Chart_missOf_64 rfl ?_
  exact hq

set_option maxRecDepth 100000 in
set_option maxHeartbeats 4000000 in
theorem l_Chart_missSet_4 {cea cno cx cy cpo cla cba fa te fr to_ ea no : Nat → Int32} {cly cpt pl wa od sk sd go : Int32} {pn wn : Nat → Int64} {nL : Nat} (hn : nL ≤ 12) (hfr : ∀ j, vp_in (fr j) 7) (hto : ∀ j, vp_in (to_ j) 7) (hq : Q (some (.int (iorr (fun l => if canM cpo fr to_ (lTh (nI nL) sk) l ∧ 0 < misV cx cy cea cno fr to_ l then bit (nI l) else 0) nL))) (hCT cea cno cx cy cpo cla cba cly cpt pn wn fa te fr to_ ea no pl wa (nI nL) od sk sd go)) : ∀ (r i : Nat) , i + r = nL → WP Γ M_Chart_missSet 4 0 0 (hCT cea cno cx cy cpo cla cba cly cpt pn wn fa te fr to_ ea no pl wa (nI nL) od sk sd go) 4 [some (.ref 0), some (.ref 8), some (.int (iorr (fun l => if canM cpo fr to_ (lTh (nI nL) sk) l ∧ 0 < misV cx cy cea cno fr to_ l then bit (nI l) else 0) i)), some (.int (nI i))] [] Q := by
  intro r
  induction r with
  | zero =>
    intro i  hi 
    refine wp_iload_n 5 d_Chart_missSet_4 rfl rfl ?_
    refine wp_aload_n 6 d_Chart_missSet_5 rfl rfl ?_
    refine wp_getfield 9 8 10 d_Chart_missSet_6 rfl fl_Chart_58 rfl rfl ?_
    refine wp_icmp_ge 42 12 d_Chart_missSet_9 rfl (by decide) (fun h9 => ?_) (fun h9 => ?_)
    · refine wp_iload_n 43 d_Chart_missSet_42 rfl rfl ?_
      refine wp_ireturn d_Chart_missSet_43 rfl ?_
      have e : i = nL := by omega
      subst e
      exact hq
    · exact absurd ((nI_leI (by omega) (by omega)).mpr (by omega)) h9
  | succ r ih =>
    intro i  hi 
    refine wp_iload_n 5 d_Chart_missSet_4 rfl rfl ?_
    refine wp_aload_n 6 d_Chart_missSet_5 rfl rfl ?_
    refine wp_getfield 9 8 10 d_Chart_missSet_6 rfl fl_Chart_58 rfl rfl ?_
    refine wp_icmp_ge 42 12 d_Chart_missSet_9 rfl (by decide) (fun h9 => ?_) (fun h9 => ?_)
    · exact absurd (nI_leN h9 (by omega) (by omega)) (by omega)
    · refine wp_aload_n 13 d_Chart_missSet_12 rfl rfl ?_
      refine wp_aload_n 14 d_Chart_missSet_13 rfl rfl ?_
      refine wp_iload_n 15 d_Chart_missSet_14 rfl rfl ?_
      refine wp_V2 18 M_Chart_canMiss 3 d_Chart_missSet_15 rfl mv_Chart_canMiss lk_Chart_114 rfl rfl rfl rfl rfl ?_
      refine c_Chart_canMiss (by omega) ?_
      refine kI ?_
      (first | refine wp_ifP_eq 36 21 d_Chart_missSet_18 rfl (by decide) (fun h18 => ?_) (fun h18 => ?_) | refine wp_if_eq 36 21 d_Chart_missSet_18 rfl (by decide) (fun h18 => ?_) (fun h18 => ?_))
      · first | refine wp_iincN_3 39 d_Chart_missSet_36 rfl rfl rfl ?_ | refine wp_iinc_3 39 1 d_Chart_missSet_36 rfl (by decide) rfl rfl ?_
        refine wp_goto 4 d_Chart_missSet_39 (by decide) ?_
        refine qL2 ?_ (ih (i + 1) (by omega))
        first | (simp only [iorr, if_pos (And.intro h18 (Int32.not_le.mp h27))]) | (have h7 : ¬ (canM cpo fr to_ (lTh (nI nL) sk) i ∧ 0 < misV cx cy cea cno fr to_ i) := fun z => h18 z.1; simp only [iorr, if_neg h7, or_0]) | (have h7 : ¬ (canM cpo fr to_ (lTh (nI nL) sk) i ∧ 0 < misV cx cy cea cno fr to_ i) := fun z => absurd h27 (Int32.not_le.mpr z.2); simp only [iorr, if_neg h7, or_0])
      · refine wp_aload_n 22 d_Chart_missSet_21 rfl rfl ?_
        refine wp_aload_n 23 d_Chart_missSet_22 rfl rfl ?_
        refine wp_iload_n 24 d_Chart_missSet_23 rfl rfl ?_
        refine wp_V2 27 M_Chart_missOf 2 d_Chart_missSet_24 rfl mv_Chart_missOf lk_Chart_118 rfl rfl rfl rfl rfl ?_
        refine c_Chart_missOf (by omega) hfr hto ?_
        refine kI ?_
        refine wp_if_le 36 30 d_Chart_missSet_27 rfl (by decide) (fun h27 => ?_) (fun h27 => ?_)
        · first | refine wp_iincN_3 39 d_Chart_missSet_36 rfl rfl rfl ?_ | refine wp_iinc_3 39 1 d_Chart_missSet_36 rfl (by decide) rfl rfl ?_
          refine wp_goto 4 d_Chart_missSet_39 (by decide) ?_
          refine qL2 ?_ (ih (i + 1) (by omega))
          first | (simp only [iorr, if_pos (And.intro h18 (Int32.not_le.mp h27))]) | (have h7 : ¬ (canM cpo fr to_ (lTh (nI nL) sk) i ∧ 0 < misV cx cy cea cno fr to_ i) := fun z => h18 z.1; simp only [iorr, if_neg h7, or_0]) | (have h7 : ¬ (canM cpo fr to_ (lTh (nI nL) sk) i ∧ 0 < misV cx cy cea cno fr to_ i) := fun z => absurd h27 (Int32.not_le.mpr z.2); simp only [iorr, if_neg h7, or_0])
        · refine wp_iload_n 31 d_Chart_missSet_30 rfl rfl ?_
          refine wp_iconst 32 1 d_Chart_missSet_31 rfl (by decide) ?_
          refine wp_iload_n 33 d_Chart_missSet_32 rfl rfl ?_
          refine wp_ishl 34 d_Chart_missSet_33 rfl ?_
          refine wp_ior 35 d_Chart_missSet_34 rfl ?_
          refine wp_istore_2 36 d_Chart_missSet_35 rfl rfl rfl ?_
          first | refine wp_iincN_3 39 d_Chart_missSet_36 rfl rfl rfl ?_ | refine wp_iinc_3 39 1 d_Chart_missSet_36 rfl (by decide) rfl rfl ?_
          refine wp_goto 4 d_Chart_missSet_39 (by decide) ?_
          refine qL2 ?_ (ih (i + 1) (by omega))
          first | (simp only [iorr, if_pos (And.intro h18 (Int32.not_le.mp h27))]) | (have h7 : ¬ (canM cpo fr to_ (lTh (nI nL) sk) i ∧ 0 < misV cx cy cea cno fr to_ i) := fun z => h18 z.1; simp only [iorr, if_neg h7, or_0]) | (have h7 : ¬ (canM cpo fr to_ (lTh (nI nL) sk) i ∧ 0 < misV cx cy cea cno fr to_ i) := fun z => absurd h27 (Int32.not_le.mpr z.2); simp only [iorr, if_neg h7, or_0])

set_option maxRecDepth 100000 in
set_option maxHeartbeats 4000000 in
theorem c_Chart_missSet {cea cno cx cy cpo cla cba fa te fr to_ ea no : Nat → Int32} {cly cpt pl wa od sk sd go : Int32} {pn wn : Nat → Int64} {nL : Nat} (hn : nL ≤ 12) (hfr : ∀ j, vp_in (fr j) 7) (hto : ∀ j, vp_in (to_ j) 7) (hq : Q (some (.int (iorr (fun l => if canM cpo fr to_ (lTh (nI nL) sk) l ∧ 0 < misV cx cy cea cno fr to_ l then bit (nI l) else 0) nL))) (hCT cea cno cx cy cpo cla cba cly cpt pn wn fa te fr to_ ea no pl wa (nI nL) od sk sd go)) : Call Γ M_Chart_missSet 4 0 0 [.ref 0, .ref 8] (hCT cea cno cx cy cpo cla cba cly cpt pn wn fa te fr to_ ea no pl wa (nI nL) od sk sd go) Q := by
  refine call_intro (ls := [some (.ref 0), some (.ref 8), none, none]) rfl rfl rfl ?_
  refine wp_iconst 1 0 d_Chart_missSet_0 rfl (by decide) ?_
  refine wp_istore_2 2 d_Chart_missSet_1 rfl rfl rfl ?_
  refine wp_iconst 3 0 d_Chart_missSet_2 rfl (by decide) ?_
  refine wp_istore_3 4 d_Chart_missSet_3 rfl rfl rfl ?_
  exact l_Chart_missSet_4 hn hfr hto hq nL 0 (by omega)

set_option maxRecDepth 100000 in
set_option maxHeartbeats 4000000 in
theorem l_Chart_closes_2 {cea cno cx cy cpo cla cba fa te fr to_ ea no : Nat → Int32} {cly cpt pl wa od sk sd go : Int32} {pn wn : Nat → Int64} {nL : Nat} {th : Int32} (hn : nL ≤ 12) (hfr : ∀ j, vp_in (fr j) 7) (hto : ∀ j, vp_in (to_ j) 7) (hq : Q (some (.int (bP (∀ l, l < nL → ¬ (hs th (nI l) ∧ 0 < misV cx cy cea cno fr to_ l))))) (hCT cea cno cx cy cpo cla cba cly cpt pn wn fa te fr to_ ea no pl wa (nI nL) od sk sd go)) : ∀ (r i : Nat) , i + r = nL → (∀ l, l < i → ¬ (hs th (nI l) ∧ 0 < misV cx cy cea cno fr to_ l)) → WP Γ M_Chart_closes 3 0 0 (hCT cea cno cx cy cpo cla cba cly cpt pn wn fa te fr to_ ea no pl wa (nI nL) od sk sd go) 2 [some (.ref 0), some (.ref 8), some (.int th), some (.int (nI i))] [] Q := by
  intro r
  induction r with
  | zero =>
    intro i  hi hinv
    refine wp_iload_n 3 d_Chart_closes_2 rfl rfl ?_
    refine wp_aload_n 4 d_Chart_closes_3 rfl rfl ?_
    refine wp_getfield 7 8 10 d_Chart_closes_4 rfl fl_Chart_58 rfl rfl ?_
    refine wp_icmp_ge 35 10 d_Chart_closes_7 rfl (by decide) (fun h7 => ?_) (fun h7 => ?_)
    · refine wp_iconst 36 1 d_Chart_closes_35 rfl (by decide) ?_
      refine wp_zreturn d_Chart_closes_36 rfl (by first | rfl | exact nbP _) ?_
      have e : i = nL := by omega
      subst e
      exact bq1 hinv hq
    · exact absurd ((nI_leI (by omega) (by omega)).mpr (by omega)) h7
  | succ r ih =>
    intro i  hi hinv
    refine wp_iload_n 3 d_Chart_closes_2 rfl rfl ?_
    refine wp_aload_n 4 d_Chart_closes_3 rfl rfl ?_
    refine wp_getfield 7 8 10 d_Chart_closes_4 rfl fl_Chart_58 rfl rfl ?_
    refine wp_icmp_ge 35 10 d_Chart_closes_7 rfl (by decide) (fun h7 => ?_) (fun h7 => ?_)
    · exact absurd (nI_leN h7 (by omega) (by omega)) (by omega)
    · refine wp_iload_n 11 d_Chart_closes_10 rfl rfl ?_
      refine wp_iload_n 12 d_Chart_closes_11 rfl rfl ?_
      refine wp_N2 15 M_PM_has 1 d_Chart_closes_12 rfl ms_PM_has lk_Chart_97 rfl rfl ?_
      refine c_PM_has ?_
      refine kI ?_
      (first | refine wp_ifP_eq 29 18 d_Chart_closes_15 rfl (by decide) (fun h15 => ?_) (fun h15 => ?_) | refine wp_if_eq 29 18 d_Chart_closes_15 rfl (by decide) (fun h15 => ?_) (fun h15 => ?_))
      · first | refine wp_iincN_3 32 d_Chart_closes_29 rfl rfl rfl ?_ | refine wp_iinc_3 32 1 d_Chart_closes_29 rfl (by decide) rfl rfl ?_
        refine wp_goto 2 d_Chart_closes_32 (by decide) ?_
        refine ih (i + 1) (by omega) (fun j hj => ?_)
        by_cases e : j = i
        · subst e
          first | exact fun z => h15 z.1 | exact fun z => absurd h24 (Int32.not_le.mpr z.2)
        · exact hinv j (by omega)
      · refine wp_aload_n 19 d_Chart_closes_18 rfl rfl ?_
        refine wp_aload_n 20 d_Chart_closes_19 rfl rfl ?_
        refine wp_iload_n 21 d_Chart_closes_20 rfl rfl ?_
        refine wp_V2 24 M_Chart_missOf 2 d_Chart_closes_21 rfl mv_Chart_missOf lk_Chart_118 rfl rfl rfl rfl rfl ?_
        refine c_Chart_missOf (by omega) hfr hto ?_
        refine kI ?_
        refine wp_if_le 29 27 d_Chart_closes_24 rfl (by decide) (fun h24 => ?_) (fun h24 => ?_)
        · first | refine wp_iincN_3 32 d_Chart_closes_29 rfl rfl rfl ?_ | refine wp_iinc_3 32 1 d_Chart_closes_29 rfl (by decide) rfl rfl ?_
          refine wp_goto 2 d_Chart_closes_32 (by decide) ?_
          refine ih (i + 1) (by omega) (fun j hj => ?_)
          by_cases e : j = i
          · subst e
            first | exact fun z => h15 z.1 | exact fun z => absurd h24 (Int32.not_le.mpr z.2)
          · exact hinv j (by omega)
        · refine wp_iconst 28 0 d_Chart_closes_27 rfl (by decide) ?_
          refine wp_zreturn d_Chart_closes_28 rfl (by first | rfl | exact nbP _) ?_
          exact bq0 (fun z => z i (by omega) ⟨h15, Int32.not_le.mp h24⟩) hq

set_option maxRecDepth 100000 in
set_option maxHeartbeats 4000000 in
theorem c_Chart_closes {cea cno cx cy cpo cla cba fa te fr to_ ea no : Nat → Int32} {cly cpt pl wa od sk sd go : Int32} {pn wn : Nat → Int64} {nL : Nat} {th : Int32} (hn : nL ≤ 12) (hfr : ∀ j, vp_in (fr j) 7) (hto : ∀ j, vp_in (to_ j) 7) (hq : Q (some (.int (bP (∀ l, l < nL → ¬ (hs th (nI l) ∧ 0 < misV cx cy cea cno fr to_ l))))) (hCT cea cno cx cy cpo cla cba cly cpt pn wn fa te fr to_ ea no pl wa (nI nL) od sk sd go)) : Call Γ M_Chart_closes 3 0 0 [.ref 0, .ref 8, .int th] (hCT cea cno cx cy cpo cla cba cly cpt pn wn fa te fr to_ ea no pl wa (nI nL) od sk sd go) Q := by
  refine call_intro (ls := [some (.ref 0), some (.ref 8), some (.int th), none]) rfl rfl rfl ?_
  refine wp_iconst 1 0 d_Chart_closes_0 rfl (by decide) ?_
  refine wp_istore_3 2 d_Chart_closes_1 rfl rfl rfl ?_
  exact l_Chart_closes_2 hn hfr hto hq nL 0 (by omega) (fun l hl => absurd hl (by omega))

set_option maxRecDepth 100000 in
set_option maxHeartbeats 4000000 in
theorem c_Chart_draw {cea cno cx cy cpo cla cba fa te fr to_ ea no : Nat → Int32} {cly cpt wa od sk sd go : Int32} {pn wn : Nat → Int64} {nL nP : Nat} (hn : nL ≤ 12) (hP : nP ≤ 7) (hte : ∀ j, vp_in (te j) 4) (hfr : ∀ j, vp_in (fr j) 7) (hto : ∀ j, vp_in (to_ j) 7) (hla : ∀ j, vp_in (cla j) 12) (hq : Q none (hCT (mEf nL ea no fa te cea) (mNf nL ea no fa te cno) ((lyI (mEf nL ea no fa te cea) (mNf nL ea no fa te cno) (trI (lTh (nI nL) sk) fr to_ nL nP nP (tr0 cpo cla cba)).2.1 (trI (lTh (nI nL) sk) fr to_ nL nP nP (tr0 cpo cla cba)).2.2.1 fr to_ (trI (lTh (nI nL) sk) fr to_ nL nP nP (tr0 cpo cla cba)).2.2.2.1 0 (fil 7 0 cx, fil 7 0 cy)).1) ((lyI (mEf nL ea no fa te cea) (mNf nL ea no fa te cno) (trI (lTh (nI nL) sk) fr to_ nL nP nP (tr0 cpo cla cba)).2.1 (trI (lTh (nI nL) sk) fr to_ nL nP nP (tr0 cpo cla cba)).2.2.1 fr to_ (trI (lTh (nI nL) sk) fr to_ nL nP nP (tr0 cpo cla cba)).2.2.2.1 0 (fil 7 0 cx, fil 7 0 cy)).2) ((trI (lTh (nI nL) sk) fr to_ nL nP nP (tr0 cpo cla cba)).1) ((trI (lTh (nI nL) sk) fr to_ nL nP nP (tr0 cpo cla cba)).2.1) ((trI (lTh (nI nL) sk) fr to_ nL nP nP (tr0 cpo cla cba)).2.2.1) (nI (trI (lTh (nI nL) sk) fr to_ nL nP nP (tr0 cpo cla cba)).2.2.2.1) (nI (trI (lTh (nI nL) sk) fr to_ nL nP nP (tr0 cpo cla cba)).2.2.2.2.1) pn wn fa te fr to_ ea no (nI nP) wa (nI nL) od sk sd go)) : Call Γ M_Chart_draw 4 0 0 [.ref 0, .ref 8] (hCT cea cno cx cy cpo cla cba cly cpt pn wn fa te fr to_ ea no (nI nP) wa (nI nL) od sk sd go) Q := by
  refine call_intro (ls := [some (.ref 0), some (.ref 8)]) rfl rfl rfl ?_
  refine wp_aload_n 1 d_Chart_draw_0 rfl rfl ?_
  refine wp_aload_n 2 d_Chart_draw_1 rfl rfl ?_
  refine wp_V1 5 M_Chart_measure 3 d_Chart_draw_2 rfl mv_Chart_measure lk_Chart_41 rfl rfl rfl rfl rfl ?_
  refine c_Chart_measure hn hte ?_
  refine kV ?_
  refine wp_aload_n 6 d_Chart_draw_5 rfl rfl ?_
  refine wp_aload_n 7 d_Chart_draw_6 rfl rfl ?_
  refine wp_aload_n 8 d_Chart_draw_7 rfl rfl ?_
  refine ws_V0 (b' := 0) 11 M_Town_legsThere 1 [8, 9, 10, 11, 12, 13, 14, 15, 16] ((hT _ _ _ _ _ _ _ _ _ _ _ _ _ _ _)) d_Chart_draw_8 rfl mv_Town_legsThere lk_Chart_45 rfl rfl rfl rfl rfl rfl rfl rfl ?_
  refine c_Town_legsThere ?_
  refine sIr rfl rfl ?_
  refine wp_V2 14 M_Chart_trace 3 d_Chart_draw_11 rfl mv_Chart_trace lk_Chart_51 rfl rfl rfl rfl rfl ?_
  refine c_Chart_trace hn hP hfr hto ?_
  refine kV ?_
  refine wp_aload_n 15 d_Chart_draw_14 rfl rfl ?_
  refine wp_aload_n 16 d_Chart_draw_15 rfl rfl ?_
  refine wp_V1 19 M_Chart_lay 2 d_Chart_draw_16 rfl mv_Chart_lay lk_Chart_55 rfl rfl rfl rfl rfl ?_
  refine c_Chart_lay (by have := trI_sum (lTh (nI nL) sk) fr to_ nL nP nP (tr0 cpo cla cba); simp only [tr0] at this; simp only [tr0]; omega) (trI_la hn _ _ hla) hfr hto ?_
  refine kV ?_
  refine wp_return d_Chart_draw_19 rfl ?_
  exact hq

end T25
