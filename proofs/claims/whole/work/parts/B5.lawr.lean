/-! ===== the law's rules: the script; calls over one of two heaps, with room ===== -/
/-- the rest of the caller, the callee's heap put back: as long as it was -/
def KsB (Γ : Gm) (μ : MI) (d cb sb q : Nat) (h hl : LH) (sl : List Nat) (ls : Lo) (st : List Value) (Q : Option Value → LH → Prop) : Option Value → LH → Prop := fun v hl' => hl'.length = hl.length ∧ Ksub Γ μ d cb sb q h sl ls st Q v hl'
theorem Call.mono {Γ : Gm} {μ : MI} {d cb sb : Nat} {args : List Value} {h : LH} {Q Q2 : Option Value → LH → Prop} (hQ : ∀ v h2, Q v h2 → Q2 v h2) (k : Call Γ μ d cb sb args h Q) : Call Γ μ d cb sb args h Q2 := by
  intro l ρ sz rm h1 h2 h3 h4 p e ha hc hk s m args below hf happ hP hK
  obtain ⟨t, o, b1, b2, b3, ⟨⟨⟨v, h', ρ', c1, hq, c3⟩, b4⟩, b5⟩⟩ := k l ρ sz rm h1 h2 h3 h4 p e ha hc hk s m args below hf happ hP hK
  exact ⟨t, o, b1, b2, b3, ⟨⟨⟨v, h', ρ', c1, hQ _ _ hq, c3⟩, b4⟩, b5⟩⟩
section TB5
variable {Γ : Gm} {μ : MI} {d cb sb : Nat} {h : LH} {pc : Nat} {ls : Lo} {st : List Value} {Q : Option Value → LH → Prop}
theorem wp_slen (q : Nat) (hd : decode μ.2.1 pc = .ok (.arraylength, 1)) (hp : pc + 1 = q) (k : WP Γ μ d cb sb h q ls (.int (Int32.ofNat Γ.2.2.2.1) :: st) Q) : WP Γ μ d cb sb h pc ls (.ref (XB + 4) :: st) Q := by
  subst hp
  intro p l e R s m args below meth c H locs cells slots A ρ ρ0 n0 mc ms lsr F D
  have hk2 := k p l e R s m args below meth c H locs cells slots A ρ ρ0 n0 mc ms lsr F D
  have X := F.2.2.2.2.2.2.2.2.2.1
  simp only [List.map_cons, eV_ref, eV_int, D.2.2.2.2.2.2.2.2.1] at hk2 ⊢
  exact va_slen F.1 F.2.1 X.2.2.2.2.1 X.2.2.2.2.2.2.1 X.2.2.2.2.2.1 D.2.2.1 hd hk2
theorem wp_sld (q : Nat) {i : Int32} (hd : decode μ.2.1 pc = .ok (.iaload, 1)) (hp : pc + 1 = q) (hin : vp_in i Γ.2.2.2.1) (k : WP Γ μ d cb sb h q ls (.int (Γ.2.2.2.2 i.toNatClampNeg) :: st) Q) : WP Γ μ d cb sb h pc ls (.int i :: .ref (XB + 4) :: st) Q := by
  subst hp
  intro p l e R s m args below meth c H locs cells slots A ρ ρ0 n0 mc ms lsr F D
  have hk2 := k p l e R s m args below meth c H locs cells slots A ρ ρ0 n0 mc ms lsr F D
  have X := F.2.2.2.2.2.2.2.2.2.1
  simp only [List.map_cons, eV_ref, eV_int, D.2.2.2.2.2.2.2.2.1] at hk2 ⊢
  exact va_sld F.1 F.2.1 X.2.2.2.2.1 X.2.2.2.2.2.2.1 X.2.2.2.2.2.1 D.2.2.1 hin hd hk2
theorem cont_subB {p : Program} {l : Launch} {e : Env} {R : Room} {s : State} {m : MethodId} {args : Array Value} {below : List Frame} {meth : Method} {c : Code} {H : Heap} {locs : List Loc} {cells slots : Nat} {A : Nat → Prop} {ρ ρ0 : Nat → Nat} {n0 mc ms : Nat} {lsr : Array Slot} {q cb' sb' : Nat} {sl : List Nat} {hl : LH} {st0 : List Value} {a : Array Value} (F : Fix Γ μ A p s m args meth c) (D : Dyn Γ μ A d (cb + cb') (sb + sb') h ls R s H locs cells slots ρ ρ0 n0 mc ms lsr) (hp : pc + 3 = q) (S : Sub sl h hl)
    (hr : va_Run p l e R s m args below meth c H locs cells slots cb' sb' (F0 m pc lsr st0) (st.map (eV ρ)) (Qx Γ (va_A (eH (fun k => ρ (sg sl k)) Γ.2.1 hl) H.size) hl.length cb' (fun k => ρ (sg sl k)) (KsB Γ μ d cb sb q h hl sl ls st Q) a) (va_A (eH (fun k => ρ (sg sl k)) Γ.2.1 hl) H.size)) : W p l e R s m args below meth c H locs cells slots (MQ below (Qx Γ A n0 mc ρ0 Q) args s mc ms A) (F0 m pc lsr st0) := by
  subst hp
  have hf := free_of (S.D D.2.1) D.2.2.1 F.2.2.2.2.2.2.2.2.2.2
  refine va_cont hr D.2.2.1 (fun q _ z => hf q z) hf (fun v h' ρ' H1 locs1 hq _ q2 q3 q4 hP1 hD1 _ hk1 hS1 => ?_)
  have hlen : h'.length = hl.length := hq.1
  have hρ := q4 hlen
  subst hρ
  obtain ⟨jP, jD⟩ := S.join D.1 D.2.1 hlen hP1 hk1
  obtain ⟨-, -, -, d4, d5, d6, d7, d8, d9, d10, d11, d12⟩ := D
  have hk := hq.2 p l e R s m args below meth c H1 locs1 (cells + cb') (slots + sb') A ρ ρ0 n0 mc ms lsr F ⟨jP, jD, hS1, d4, d5, by rw [putH_len]; exact d6, by rw [putH_len]; omega, by rw [putH_len]; exact d8, d9, by omega, by omega, d12⟩
  cases v with
  | none => exact hk
  | some x =>
    simp only [retS, List.map_cons, eV_ren] at hk
    exact hk
theorem lw_V0 (q : Nat) (μ' : MI) (d' cb' sb' : Nat) (sl : List Nat) (hl : LH) {b b' ci : Nat} {fs : List Value} {r : vw_C} {idx : Nat} (hd : decode μ.2.1 pc = .ok (.invokevirtual idx, 3)) (hp : pc + 3 = q) (hm : MLv μ' 0) (hk : LK μ.1.cls idx μ') (hdd : Nat.blt d' d = true) (S : Sub sl h hl) (hb : h[b]? = some (cO ci fs)) (hc : clX[ci]? = some r) (hC : r.1 = μ'.1.cls) (eb : sg sl b' = b) (hst : Nat.ble (st.map Value.category).sum 8 = true) (k : Call Γ μ' d' cb' sb' (.ref b' :: []) hl (KsB Γ μ d cb sb q h hl sl ls st Q)) : WP Γ μ d (cb + cb') (sb + sb') h pc ls (.ref b :: st) Q := by
  subst eb
  have hd3 : d' < d := Nat.le_of_ble_eq_true hdd
  have hst8 : (st.map Value.category).sum ≤ 8 := Nat.le_of_ble_eq_true hst
  intro p l e R s m args below meth c H locs cells slots A ρ ρ0 n0 mc ms lsr F D
  have hfr := D.2.2.2.2.2.2.2.2.2.2.2.2.2.1
  have hlo := D.2.2.2.2.2.2.2.2.2.2.2.2.2.2
  have hM := (k l (fun k => ρ (sg sl k)) H.size (rmx R cb' sb') (by show _ ≤ R.frames - 1; omega) (by show _ ≤ R.locals - 64; omega) rfl rfl)
  have hpre := pre_of (al := (.ref b' :: [])) F D (S.P D.1) (S.D D.2.1) (fun k => by rw [sg_xb S.1]; exact D.2.2.2.2.2.2.2.2.1 k)
  have hrv := va_recv F.2.2.2.2.2.2.2.2.1 D.1 hc (eH_at hb)
  rw [hC] at hrv
  exact cont_subB F D hp S (va_runV (As := ([].map (eV fun k => ρ (sg sl k)))) (rest := st.map (eV ρ)) (b := ρ (sg sl b')) ⟨F.1, F.2.1, F.2.2.1, F.2.2.2.2.2.2.1, F.2.2.2.2.2.2.2.1.all⟩ hM ⟨callB_x F.2.2.2.2.2.2.2.1 hm.1 hk hd3 hfr hlo, F.2.2.2.2.2.2.2.1.all _ hm.2.1, F.2.2.2.2.2.2.2.1.all _ hm.2.2⟩ ⟨Pcx.blind, hrv, hpre⟩ rfl (by simp) D.2.2.2.1.1 (by simp only [List.map_cons, List.map_nil, List.reverse_cons, List.reverse_nil, List.nil_append, List.cons_append, List.append_assoc, eV_ref, eV_ren]) (by rw [sumCat]; show 2 * 0 + _ ≤ 8; omega) hd ⟨by have := D.2.2.2.2.2.2.2.2.2; omega, by have := D.2.2.2.2.2.2.2.2.2; omega⟩)
theorem lw_V1 (q : Nat) (μ' : MI) (d' cb' sb' : Nat) (sl : List Nat) (hl : LH) {b b' ci : Nat} {fs : List Value} {r : vw_C} {v1 v1' : Value} {idx : Nat} (hd : decode μ.2.1 pc = .ok (.invokevirtual idx, 3)) (hp : pc + 3 = q) (hm : MLv μ' 1) (hk : LK μ.1.cls idx μ') (hdd : Nat.blt d' d = true) (S : Sub sl h hl) (hb : h[b]? = some (cO ci fs)) (hc : clX[ci]? = some r) (hC : r.1 = μ'.1.cls) (eb : sg sl b' = b) (ev1 : eV (sg sl) v1' = v1) (hst : Nat.ble (st.map Value.category).sum 8 = true) (k : Call Γ μ' d' cb' sb' (.ref b' :: [v1']) hl (KsB Γ μ d cb sb q h hl sl ls st Q)) : WP Γ μ d (cb + cb') (sb + sb') h pc ls (v1 :: .ref b :: st) Q := by
  subst ev1
  subst eb
  have hd3 : d' < d := Nat.le_of_ble_eq_true hdd
  have hst8 : (st.map Value.category).sum ≤ 8 := Nat.le_of_ble_eq_true hst
  intro p l e R s m args below meth c H locs cells slots A ρ ρ0 n0 mc ms lsr F D
  have hfr := D.2.2.2.2.2.2.2.2.2.2.2.2.2.1
  have hlo := D.2.2.2.2.2.2.2.2.2.2.2.2.2.2
  have hM := (k l (fun k => ρ (sg sl k)) H.size (rmx R cb' sb') (by show _ ≤ R.frames - 1; omega) (by show _ ≤ R.locals - 64; omega) rfl rfl)
  have hpre := pre_of (al := (.ref b' :: [v1'])) F D (S.P D.1) (S.D D.2.1) (fun k => by rw [sg_xb S.1]; exact D.2.2.2.2.2.2.2.2.1 k)
  have hrv := va_recv F.2.2.2.2.2.2.2.2.1 D.1 hc (eH_at hb)
  rw [hC] at hrv
  exact cont_subB F D hp S (va_runV (As := ([v1'].map (eV fun k => ρ (sg sl k)))) (rest := st.map (eV ρ)) (b := ρ (sg sl b')) ⟨F.1, F.2.1, F.2.2.1, F.2.2.2.2.2.2.1, F.2.2.2.2.2.2.2.1.all⟩ hM ⟨callB_x F.2.2.2.2.2.2.2.1 hm.1 hk hd3 hfr hlo, F.2.2.2.2.2.2.2.1.all _ hm.2.1, F.2.2.2.2.2.2.2.1.all _ hm.2.2⟩ ⟨Pcx.blind, hrv, hpre⟩ rfl (by simp) D.2.2.2.1.1 (by simp only [List.map_cons, List.map_nil, List.reverse_cons, List.reverse_nil, List.nil_append, List.cons_append, List.append_assoc, eV_ref, eV_ren]) (by rw [sumCat]; show 2 * 0 + _ ≤ 8; omega) hd ⟨by have := D.2.2.2.2.2.2.2.2.2; omega, by have := D.2.2.2.2.2.2.2.2.2; omega⟩)
theorem lw_V2 (q : Nat) (μ' : MI) (d' cb' sb' : Nat) (sl : List Nat) (hl : LH) {b b' ci : Nat} {fs : List Value} {r : vw_C} {v1 v2 v1' v2' : Value} {idx : Nat} (hd : decode μ.2.1 pc = .ok (.invokevirtual idx, 3)) (hp : pc + 3 = q) (hm : MLv μ' 2) (hk : LK μ.1.cls idx μ') (hdd : Nat.blt d' d = true) (S : Sub sl h hl) (hb : h[b]? = some (cO ci fs)) (hc : clX[ci]? = some r) (hC : r.1 = μ'.1.cls) (eb : sg sl b' = b) (ev1 : eV (sg sl) v1' = v1) (ev2 : eV (sg sl) v2' = v2) (hst : Nat.ble (st.map Value.category).sum 8 = true) (k : Call Γ μ' d' cb' sb' (.ref b' :: [v1', v2']) hl (KsB Γ μ d cb sb q h hl sl ls st Q)) : WP Γ μ d (cb + cb') (sb + sb') h pc ls (v2 :: v1 :: .ref b :: st) Q := by
  subst ev1
  subst ev2
  subst eb
  have hd3 : d' < d := Nat.le_of_ble_eq_true hdd
  have hst8 : (st.map Value.category).sum ≤ 8 := Nat.le_of_ble_eq_true hst
  intro p l e R s m args below meth c H locs cells slots A ρ ρ0 n0 mc ms lsr F D
  have hfr := D.2.2.2.2.2.2.2.2.2.2.2.2.2.1
  have hlo := D.2.2.2.2.2.2.2.2.2.2.2.2.2.2
  have hM := (k l (fun k => ρ (sg sl k)) H.size (rmx R cb' sb') (by show _ ≤ R.frames - 1; omega) (by show _ ≤ R.locals - 64; omega) rfl rfl)
  have hpre := pre_of (al := (.ref b' :: [v1', v2'])) F D (S.P D.1) (S.D D.2.1) (fun k => by rw [sg_xb S.1]; exact D.2.2.2.2.2.2.2.2.1 k)
  have hrv := va_recv F.2.2.2.2.2.2.2.2.1 D.1 hc (eH_at hb)
  rw [hC] at hrv
  exact cont_subB F D hp S (va_runV (As := ([v1', v2'].map (eV fun k => ρ (sg sl k)))) (rest := st.map (eV ρ)) (b := ρ (sg sl b')) ⟨F.1, F.2.1, F.2.2.1, F.2.2.2.2.2.2.1, F.2.2.2.2.2.2.2.1.all⟩ hM ⟨callB_x F.2.2.2.2.2.2.2.1 hm.1 hk hd3 hfr hlo, F.2.2.2.2.2.2.2.1.all _ hm.2.1, F.2.2.2.2.2.2.2.1.all _ hm.2.2⟩ ⟨Pcx.blind, hrv, hpre⟩ rfl (by simp) D.2.2.2.1.1 (by simp only [List.map_cons, List.map_nil, List.reverse_cons, List.reverse_nil, List.nil_append, List.cons_append, List.append_assoc, eV_ref, eV_ren]) (by rw [sumCat]; show 2 * 0 + _ ≤ 8; omega) hd ⟨by have := D.2.2.2.2.2.2.2.2.2; omega, by have := D.2.2.2.2.2.2.2.2.2; omega⟩)
theorem lw_V3 (q : Nat) (μ' : MI) (d' cb' sb' : Nat) (sl : List Nat) (hl : LH) {b b' ci : Nat} {fs : List Value} {r : vw_C} {v1 v2 v3 v1' v2' v3' : Value} {idx : Nat} (hd : decode μ.2.1 pc = .ok (.invokevirtual idx, 3)) (hp : pc + 3 = q) (hm : MLv μ' 3) (hk : LK μ.1.cls idx μ') (hdd : Nat.blt d' d = true) (S : Sub sl h hl) (hb : h[b]? = some (cO ci fs)) (hc : clX[ci]? = some r) (hC : r.1 = μ'.1.cls) (eb : sg sl b' = b) (ev1 : eV (sg sl) v1' = v1) (ev2 : eV (sg sl) v2' = v2) (ev3 : eV (sg sl) v3' = v3) (hst : Nat.ble (st.map Value.category).sum 8 = true) (k : Call Γ μ' d' cb' sb' (.ref b' :: [v1', v2', v3']) hl (KsB Γ μ d cb sb q h hl sl ls st Q)) : WP Γ μ d (cb + cb') (sb + sb') h pc ls (v3 :: v2 :: v1 :: .ref b :: st) Q := by
  subst ev1
  subst ev2
  subst ev3
  subst eb
  have hd3 : d' < d := Nat.le_of_ble_eq_true hdd
  have hst8 : (st.map Value.category).sum ≤ 8 := Nat.le_of_ble_eq_true hst
  intro p l e R s m args below meth c H locs cells slots A ρ ρ0 n0 mc ms lsr F D
  have hfr := D.2.2.2.2.2.2.2.2.2.2.2.2.2.1
  have hlo := D.2.2.2.2.2.2.2.2.2.2.2.2.2.2
  have hM := (k l (fun k => ρ (sg sl k)) H.size (rmx R cb' sb') (by show _ ≤ R.frames - 1; omega) (by show _ ≤ R.locals - 64; omega) rfl rfl)
  have hpre := pre_of (al := (.ref b' :: [v1', v2', v3'])) F D (S.P D.1) (S.D D.2.1) (fun k => by rw [sg_xb S.1]; exact D.2.2.2.2.2.2.2.2.1 k)
  have hrv := va_recv F.2.2.2.2.2.2.2.2.1 D.1 hc (eH_at hb)
  rw [hC] at hrv
  exact cont_subB F D hp S (va_runV (As := ([v1', v2', v3'].map (eV fun k => ρ (sg sl k)))) (rest := st.map (eV ρ)) (b := ρ (sg sl b')) ⟨F.1, F.2.1, F.2.2.1, F.2.2.2.2.2.2.1, F.2.2.2.2.2.2.2.1.all⟩ hM ⟨callB_x F.2.2.2.2.2.2.2.1 hm.1 hk hd3 hfr hlo, F.2.2.2.2.2.2.2.1.all _ hm.2.1, F.2.2.2.2.2.2.2.1.all _ hm.2.2⟩ ⟨Pcx.blind, hrv, hpre⟩ rfl (by simp) D.2.2.2.1.1 (by simp only [List.map_cons, List.map_nil, List.reverse_cons, List.reverse_nil, List.nil_append, List.cons_append, List.append_assoc, eV_ref, eV_ren]) (by rw [sumCat]; show 2 * 0 + _ ≤ 8; omega) hd ⟨by have := D.2.2.2.2.2.2.2.2.2; omega, by have := D.2.2.2.2.2.2.2.2.2; omega⟩)
theorem lw_V4 (q : Nat) (μ' : MI) (d' cb' sb' : Nat) (sl : List Nat) (hl : LH) {b b' ci : Nat} {fs : List Value} {r : vw_C} {v1 v2 v3 v4 v1' v2' v3' v4' : Value} {idx : Nat} (hd : decode μ.2.1 pc = .ok (.invokevirtual idx, 3)) (hp : pc + 3 = q) (hm : MLv μ' 4) (hk : LK μ.1.cls idx μ') (hdd : Nat.blt d' d = true) (S : Sub sl h hl) (hb : h[b]? = some (cO ci fs)) (hc : clX[ci]? = some r) (hC : r.1 = μ'.1.cls) (eb : sg sl b' = b) (ev1 : eV (sg sl) v1' = v1) (ev2 : eV (sg sl) v2' = v2) (ev3 : eV (sg sl) v3' = v3) (ev4 : eV (sg sl) v4' = v4) (hst : Nat.ble (st.map Value.category).sum 8 = true) (k : Call Γ μ' d' cb' sb' (.ref b' :: [v1', v2', v3', v4']) hl (KsB Γ μ d cb sb q h hl sl ls st Q)) : WP Γ μ d (cb + cb') (sb + sb') h pc ls (v4 :: v3 :: v2 :: v1 :: .ref b :: st) Q := by
  subst ev1
  subst ev2
  subst ev3
  subst ev4
  subst eb
  have hd3 : d' < d := Nat.le_of_ble_eq_true hdd
  have hst8 : (st.map Value.category).sum ≤ 8 := Nat.le_of_ble_eq_true hst
  intro p l e R s m args below meth c H locs cells slots A ρ ρ0 n0 mc ms lsr F D
  have hfr := D.2.2.2.2.2.2.2.2.2.2.2.2.2.1
  have hlo := D.2.2.2.2.2.2.2.2.2.2.2.2.2.2
  have hM := (k l (fun k => ρ (sg sl k)) H.size (rmx R cb' sb') (by show _ ≤ R.frames - 1; omega) (by show _ ≤ R.locals - 64; omega) rfl rfl)
  have hpre := pre_of (al := (.ref b' :: [v1', v2', v3', v4'])) F D (S.P D.1) (S.D D.2.1) (fun k => by rw [sg_xb S.1]; exact D.2.2.2.2.2.2.2.2.1 k)
  have hrv := va_recv F.2.2.2.2.2.2.2.2.1 D.1 hc (eH_at hb)
  rw [hC] at hrv
  exact cont_subB F D hp S (va_runV (As := ([v1', v2', v3', v4'].map (eV fun k => ρ (sg sl k)))) (rest := st.map (eV ρ)) (b := ρ (sg sl b')) ⟨F.1, F.2.1, F.2.2.1, F.2.2.2.2.2.2.1, F.2.2.2.2.2.2.2.1.all⟩ hM ⟨callB_x F.2.2.2.2.2.2.2.1 hm.1 hk hd3 hfr hlo, F.2.2.2.2.2.2.2.1.all _ hm.2.1, F.2.2.2.2.2.2.2.1.all _ hm.2.2⟩ ⟨Pcx.blind, hrv, hpre⟩ rfl (by simp) D.2.2.2.1.1 (by simp only [List.map_cons, List.map_nil, List.reverse_cons, List.reverse_nil, List.nil_append, List.cons_append, List.append_assoc, eV_ref, eV_ren]) (by rw [sumCat]; show 2 * 0 + _ ≤ 8; omega) hd ⟨by have := D.2.2.2.2.2.2.2.2.2; omega, by have := D.2.2.2.2.2.2.2.2.2; omega⟩)
theorem lw_V5 (q : Nat) (μ' : MI) (d' cb' sb' : Nat) (sl : List Nat) (hl : LH) {b b' ci : Nat} {fs : List Value} {r : vw_C} {v1 v2 v3 v4 v5 v1' v2' v3' v4' v5' : Value} {idx : Nat} (hd : decode μ.2.1 pc = .ok (.invokevirtual idx, 3)) (hp : pc + 3 = q) (hm : MLv μ' 5) (hk : LK μ.1.cls idx μ') (hdd : Nat.blt d' d = true) (S : Sub sl h hl) (hb : h[b]? = some (cO ci fs)) (hc : clX[ci]? = some r) (hC : r.1 = μ'.1.cls) (eb : sg sl b' = b) (ev1 : eV (sg sl) v1' = v1) (ev2 : eV (sg sl) v2' = v2) (ev3 : eV (sg sl) v3' = v3) (ev4 : eV (sg sl) v4' = v4) (ev5 : eV (sg sl) v5' = v5) (hst : Nat.ble (st.map Value.category).sum 8 = true) (k : Call Γ μ' d' cb' sb' (.ref b' :: [v1', v2', v3', v4', v5']) hl (KsB Γ μ d cb sb q h hl sl ls st Q)) : WP Γ μ d (cb + cb') (sb + sb') h pc ls (v5 :: v4 :: v3 :: v2 :: v1 :: .ref b :: st) Q := by
  subst ev1
  subst ev2
  subst ev3
  subst ev4
  subst ev5
  subst eb
  have hd3 : d' < d := Nat.le_of_ble_eq_true hdd
  have hst8 : (st.map Value.category).sum ≤ 8 := Nat.le_of_ble_eq_true hst
  intro p l e R s m args below meth c H locs cells slots A ρ ρ0 n0 mc ms lsr F D
  have hfr := D.2.2.2.2.2.2.2.2.2.2.2.2.2.1
  have hlo := D.2.2.2.2.2.2.2.2.2.2.2.2.2.2
  have hM := (k l (fun k => ρ (sg sl k)) H.size (rmx R cb' sb') (by show _ ≤ R.frames - 1; omega) (by show _ ≤ R.locals - 64; omega) rfl rfl)
  have hpre := pre_of (al := (.ref b' :: [v1', v2', v3', v4', v5'])) F D (S.P D.1) (S.D D.2.1) (fun k => by rw [sg_xb S.1]; exact D.2.2.2.2.2.2.2.2.1 k)
  have hrv := va_recv F.2.2.2.2.2.2.2.2.1 D.1 hc (eH_at hb)
  rw [hC] at hrv
  exact cont_subB F D hp S (va_runV (As := ([v1', v2', v3', v4', v5'].map (eV fun k => ρ (sg sl k)))) (rest := st.map (eV ρ)) (b := ρ (sg sl b')) ⟨F.1, F.2.1, F.2.2.1, F.2.2.2.2.2.2.1, F.2.2.2.2.2.2.2.1.all⟩ hM ⟨callB_x F.2.2.2.2.2.2.2.1 hm.1 hk hd3 hfr hlo, F.2.2.2.2.2.2.2.1.all _ hm.2.1, F.2.2.2.2.2.2.2.1.all _ hm.2.2⟩ ⟨Pcx.blind, hrv, hpre⟩ rfl (by simp) D.2.2.2.1.1 (by simp only [List.map_cons, List.map_nil, List.reverse_cons, List.reverse_nil, List.nil_append, List.cons_append, List.append_assoc, eV_ref, eV_ren]) (by rw [sumCat]; show 2 * 0 + _ ≤ 8; omega) hd ⟨by have := D.2.2.2.2.2.2.2.2.2; omega, by have := D.2.2.2.2.2.2.2.2.2; omega⟩)
end TB5
/-- the places of the class's object and of the reference's -/
def slP : List Nat := List.range 124
def slM : List Nat := (List.range 27).map (fun k => 124 + k)
def sM : Nat → Nat := sg slM
def lawH (P M : LH) : LH := P ++ M.map (rC sM)
theorem sgP : sg slP = fun k => k := by
  funext k
  unfold sg
  by_cases c : k < slP.length
  · rw [if_pos c]
    have c2 : k < 124 := c
    unfold slP
    rw [List.getD_eq_getElem?_getD, List.getElem?_range c2]
    rfl
  · rw [if_neg c]
theorem sM_lt {k : Nat} (h : k < 27) : sM k = 124 + k := by
  have e : slM.length = 27 := rfl
  unfold sM sg
  rw [if_pos (by rw [e]; exact h)]
  unfold slM
  rw [List.getD_eq_getElem?_getD, List.getElem?_map, List.getElem?_range h]
  rfl
theorem eV_id (v : Value) : eV (fun k => k) v = v := by cases v <;> rfl
theorem rC_id (c : LC) : rC (fun k => k) c = c := by
  rcases c with x | ⟨ci, fs⟩ | ⟨C, rs⟩
  · rfl
  · show Sum.inr (Sum.inl (ci, fs.map (eV fun k => k))) = _
    rw [show (eV fun k => k) = (fun v => v) from funext eV_id, List.map_id']
  · show Sum.inr (Sum.inr (C, rs.map (Option.map fun k => k))) = _
    rw [show (Option.map fun k : Nat => k) = (fun v => v) from funext (fun v => by cases v <;> rfl), List.map_id']
theorem subP : subB slP = true := by decide +kernel
theorem subM : subB slM = true := by decide +kernel
theorem Sub_P {P M : LH} (hP : P.length = 124) : Sub slP (lawH P M) P := by
  refine ⟨subP, by rw [hP]; rfl, fun k c hk => ?_⟩
  have hlt := (List.getElem?_eq_some_iff.mp hk).1
  rw [sgP, rC_id]
  show (P ++ M.map (rC sM))[k]? = some c
  rw [List.getElem?_append_left hlt]
  exact hk
theorem Sub_M {P M : LH} (hP : P.length = 124) (hM : M.length = 27) : Sub slM (lawH P M) M := by
  refine ⟨subM, by rw [hM]; rfl, fun k c hk => ?_⟩
  have hlt := (List.getElem?_eq_some_iff.mp hk).1
  show (P ++ M.map (rC sM))[sM k]? = some (rC sM c)
  rw [sM_lt (by omega), List.getElem?_append_right (by omega), hP, show 124 + k - 124 = k by omega, List.getElem?_map, hk]
  rfl
theorem putH_P (X : LH) : ∀ (l a b : LH), b.length = l.length → putH (fun k => k) (a ++ b ++ X) a.length l = a ++ l ++ X
  | [], a, [], _ => rfl
  | [], a, _ :: _, h => by cases h
  | c :: t, a, [], h => by cases h
  | c :: t, a, y :: b, h => by
    have h2 : b.length = t.length := by simpa using h
    have ih := putH_P X t (a ++ [c]) b h2
    show putH (fun k => k) ((a ++ y :: b ++ X).set a.length (rC (fun k => k) c)) (a.length + 1) t = _
    rw [rC_id]
    have e : (a ++ y :: b ++ X).set a.length c = (a ++ [c]) ++ b ++ X := by
      rw [List.append_assoc, List.set_append_right _ _ (Nat.le_refl _), Nat.sub_self]
      simp
    rw [e, show a.length + 1 = (a ++ [c]).length by simp]
    rw [ih]
    simp
theorem putP {P P2 M : LH} (h : P2.length = P.length) : putH (sg slP) (lawH P M) 0 P2 = lawH P2 M := by
  rw [sgP]
  have e := putH_P (M.map (rC sM)) P2 [] P h.symm
  exact e
theorem putH_Mx (P X0 : LH) (hP : P.length = 124) : ∀ (l a b : LH), b.length = l.length → a.length + l.length ≤ 27 → putH sM (P ++ (a ++ b)) a.length l = P ++ (a ++ l.map (rC sM))
  | [], a, [], _, _ => rfl
  | [], a, _ :: _, h, _ => by cases h
  | c :: t, a, [], h, _ => by cases h
  | c :: t, a, y :: b, h, hn => by
    have h2 : b.length = t.length := by simpa using h
    have hn2 : a.length + (t.length + 1) ≤ 27 := hn
    have ih := putH_Mx P X0 hP t (a ++ [rC sM c]) b h2 (by simp; omega)
    show putH sM ((P ++ (a ++ y :: b)).set (sM a.length) (rC sM c)) (a.length + 1) t = _
    have e : (P ++ (a ++ y :: b)).set (sM a.length) (rC sM c) = P ++ ((a ++ [rC sM c]) ++ b) := by
      rw [sM_lt (by omega), List.set_append_right _ _ (by omega), hP, show 124 + a.length - 124 = a.length by omega, List.set_append_right _ _ (Nat.le_refl _), Nat.sub_self]
      simp
    rw [e, show a.length + 1 = (a ++ [rC sM c]).length by simp]
    rw [ih]
    simp
theorem putM {P M M2 : LH} (hP : P.length = 124) (hM : M.length = 27) (h : M2.length = M.length) : putH (sg slM) (lawH P M) 0 M2 = lawH P M2 :=
  putH_Mx P [] hP M2 [] (M.map (rC sM)) (by rw [List.length_map]; omega) (by rw [List.length_nil]; omega)
/-- behind a call of the class, of the reference -/
def KP (Γ : Gm) (μ : MI) (d cb sb q : Nat) (M : LH) (ls : Lo) (st : List Value) (Q : Option Value → LH → Prop) : Option Value → LH → Prop := fun v P2 => P2.length = 124 ∧ WP Γ μ d cb sb (lawH P2 M) q ls (ret0 v st) Q
def KM (Γ : Gm) (μ : MI) (d cb sb q : Nat) (P : LH) (ls : Lo) (st : List Value) (Q : Option Value → LH → Prop) : Option Value → LH → Prop := fun v M2 => M2.length = 27 ∧ (∀ x, v = some x → eV sM x = x) ∧ WP Γ μ d cb sb (lawH P M2) q ls (ret0 v st) Q
section TB5b
variable {Γ : Gm} {μ : MI} {d cb sb : Nat} {pc : Nat} {ls : Lo} {st : List Value} {Q : Option Value → LH → Prop} {P M : LH}
theorem KP_B {q : Nat} (hP : P.length = 124) (v : Option Value) (P2 : LH) (k : KP Γ μ d cb sb q M ls st Q v P2) : KsB Γ μ d cb sb q (lawH P M) P slP ls st Q v P2 := by
  obtain ⟨k1, k2⟩ := k
  refine ⟨by omega, ?_⟩
  show WP Γ μ d cb sb (putH (sg slP) (lawH P M) 0 P2) q ls (retS (sg slP) v st) Q
  rw [putP (by omega)]
  have e : retS (sg slP) v st = ret0 v st := by
    rw [sgP]
    cases v with
    | none => rfl
    | some x => show eV (fun k => k) x :: st = x :: st; rw [eV_id]
  rw [e]
  exact k2
theorem KM_B {q : Nat} (hP : P.length = 124) (hM : M.length = 27) (v : Option Value) (M2 : LH) (k : KM Γ μ d cb sb q P ls st Q v M2) : KsB Γ μ d cb sb q (lawH P M) M slM ls st Q v M2 := by
  obtain ⟨k1, k3, k2⟩ := k
  refine ⟨by omega, ?_⟩
  show WP Γ μ d cb sb (putH (sg slM) (lawH P M) 0 M2) q ls (retS (sg slM) v st) Q
  rw [putM hP hM (by omega)]
  have e : retS (sg slM) v st = ret0 v st := by
    cases v with
    | none => rfl
    | some x => show eV sM x :: st = x :: st; rw [k3 x rfl]
  rw [e]
  exact k2
theorem lawP_0 {c : LC} (h : P[0]? = some c) : (lawH P M)[0]? = some c := by
  have hlt := (List.getElem?_eq_some_iff.mp h).1
  show (P ++ M.map (rC sM))[0]? = some c
  rw [List.getElem?_append_left hlt]
  exact h
theorem lawM_0 {ci : Nat} {fs : List Value} (hP : P.length = 124) (h : M[0]? = some (cO ci fs)) : (lawH P M)[124]? = some (cO ci (fs.map (eV sM))) := by
  show (P ++ M.map (rC sM))[124]? = _
  rw [List.getElem?_append_right (by omega), hP, Nat.sub_self, List.getElem?_map, h]
  rfl
theorem lP_V0 (q : Nat) (μ' : MI) (d' cb' sb' : Nat) {ci : Nat} {fs : List Value} {r : vw_C} {idx : Nat} (hd : decode μ.2.1 pc = .ok (.invokevirtual idx, 3)) (hp : pc + 3 = q) (hm : MLv μ' 0) (hk : LK μ.1.cls idx μ') (hdd : Nat.blt d' d = true) (hP : P.length = 124) (hb : P[0]? = some (cO ci fs)) (hc : clX[ci]? = some r) (hC : r.1 = μ'.1.cls) (hst : Nat.ble (st.map Value.category).sum 8 = true) (k : Call Γ μ' d' cb' sb' (.ref 0 :: []) P (KP Γ μ d cb sb q M ls st Q)) : WP Γ μ d (cb + cb') (sb + sb') (lawH P M) pc ls (.ref 0 :: st) Q :=
  lw_V0 q μ' d' cb' sb' slP P (b' := 0) hd hp hm hk hdd (Sub_P hP) (lawP_0 hb) hc hC (by rw [sgP]) hst (Call.mono (KP_B hP) k)
theorem lM_V0 (q : Nat) (μ' : MI) (d' cb' sb' : Nat) {ci : Nat} {fs : List Value} {r : vw_C} {idx : Nat} (hd : decode μ.2.1 pc = .ok (.invokevirtual idx, 3)) (hp : pc + 3 = q) (hm : MLv μ' 0) (hk : LK μ.1.cls idx μ') (hdd : Nat.blt d' d = true) (hP : P.length = 124) (hM : M.length = 27) (hb : M[0]? = some (cO ci fs)) (hc : clX[ci]? = some r) (hC : r.1 = μ'.1.cls) (hst : Nat.ble (st.map Value.category).sum 8 = true) (k : Call Γ μ' d' cb' sb' (.ref 0 :: []) M (KM Γ μ d cb sb q P ls st Q)) : WP Γ μ d (cb + cb') (sb + sb') (lawH P M) pc ls (.ref 124 :: st) Q :=
  lw_V0 q μ' d' cb' sb' slM M (b' := 0) hd hp hm hk hdd (Sub_M hP hM) (lawM_0 hP hb) hc hC (sM_lt (k := 0) (by omega)) hst (Call.mono (KM_B hP hM) k)
theorem lP_V1 (q : Nat) (μ' : MI) (d' cb' sb' : Nat) {ci : Nat} {fs : List Value} {r : vw_C} {v1 : Value} {idx : Nat} (hd : decode μ.2.1 pc = .ok (.invokevirtual idx, 3)) (hp : pc + 3 = q) (hm : MLv μ' 1) (hk : LK μ.1.cls idx μ') (hdd : Nat.blt d' d = true) (hP : P.length = 124) (hb : P[0]? = some (cO ci fs)) (hc : clX[ci]? = some r) (hC : r.1 = μ'.1.cls) (hst : Nat.ble (st.map Value.category).sum 8 = true) (k : Call Γ μ' d' cb' sb' (.ref 0 :: [v1]) P (KP Γ μ d cb sb q M ls st Q)) : WP Γ μ d (cb + cb') (sb + sb') (lawH P M) pc ls (v1 :: .ref 0 :: st) Q :=
  lw_V1 q μ' d' cb' sb' slP P (b' := 0) (v1' := v1) hd hp hm hk hdd (Sub_P hP) (lawP_0 hb) hc hC (by rw [sgP]) (by rw [sgP]; exact eV_id _) hst (Call.mono (KP_B hP) k)
theorem lM_V1 (q : Nat) (μ' : MI) (d' cb' sb' : Nat) {ci : Nat} {fs : List Value} {r : vw_C} {v1 : Value} {idx : Nat} (hd : decode μ.2.1 pc = .ok (.invokevirtual idx, 3)) (hp : pc + 3 = q) (hm : MLv μ' 1) (hk : LK μ.1.cls idx μ') (hdd : Nat.blt d' d = true) (hP : P.length = 124) (hM : M.length = 27) (hb : M[0]? = some (cO ci fs)) (hc : clX[ci]? = some r) (hC : r.1 = μ'.1.cls) (e1 : eV sM v1 = v1) (hst : Nat.ble (st.map Value.category).sum 8 = true) (k : Call Γ μ' d' cb' sb' (.ref 0 :: [v1]) M (KM Γ μ d cb sb q P ls st Q)) : WP Γ μ d (cb + cb') (sb + sb') (lawH P M) pc ls (v1 :: .ref 124 :: st) Q :=
  lw_V1 q μ' d' cb' sb' slM M (b' := 0) (v1' := v1) hd hp hm hk hdd (Sub_M hP hM) (lawM_0 hP hb) hc hC (sM_lt (k := 0) (by omega)) e1 hst (Call.mono (KM_B hP hM) k)
theorem lP_V2 (q : Nat) (μ' : MI) (d' cb' sb' : Nat) {ci : Nat} {fs : List Value} {r : vw_C} {v1 v2 : Value} {idx : Nat} (hd : decode μ.2.1 pc = .ok (.invokevirtual idx, 3)) (hp : pc + 3 = q) (hm : MLv μ' 2) (hk : LK μ.1.cls idx μ') (hdd : Nat.blt d' d = true) (hP : P.length = 124) (hb : P[0]? = some (cO ci fs)) (hc : clX[ci]? = some r) (hC : r.1 = μ'.1.cls) (hst : Nat.ble (st.map Value.category).sum 8 = true) (k : Call Γ μ' d' cb' sb' (.ref 0 :: [v1, v2]) P (KP Γ μ d cb sb q M ls st Q)) : WP Γ μ d (cb + cb') (sb + sb') (lawH P M) pc ls (v2 :: v1 :: .ref 0 :: st) Q :=
  lw_V2 q μ' d' cb' sb' slP P (b' := 0) (v1' := v1) (v2' := v2) hd hp hm hk hdd (Sub_P hP) (lawP_0 hb) hc hC (by rw [sgP]) (by rw [sgP]; exact eV_id _) (by rw [sgP]; exact eV_id _) hst (Call.mono (KP_B hP) k)
theorem lM_V2 (q : Nat) (μ' : MI) (d' cb' sb' : Nat) {ci : Nat} {fs : List Value} {r : vw_C} {v1 v2 : Value} {idx : Nat} (hd : decode μ.2.1 pc = .ok (.invokevirtual idx, 3)) (hp : pc + 3 = q) (hm : MLv μ' 2) (hk : LK μ.1.cls idx μ') (hdd : Nat.blt d' d = true) (hP : P.length = 124) (hM : M.length = 27) (hb : M[0]? = some (cO ci fs)) (hc : clX[ci]? = some r) (hC : r.1 = μ'.1.cls) (e1 : eV sM v1 = v1) (e2 : eV sM v2 = v2) (hst : Nat.ble (st.map Value.category).sum 8 = true) (k : Call Γ μ' d' cb' sb' (.ref 0 :: [v1, v2]) M (KM Γ μ d cb sb q P ls st Q)) : WP Γ μ d (cb + cb') (sb + sb') (lawH P M) pc ls (v2 :: v1 :: .ref 124 :: st) Q :=
  lw_V2 q μ' d' cb' sb' slM M (b' := 0) (v1' := v1) (v2' := v2) hd hp hm hk hdd (Sub_M hP hM) (lawM_0 hP hb) hc hC (sM_lt (k := 0) (by omega)) e1 e2 hst (Call.mono (KM_B hP hM) k)
theorem lP_V3 (q : Nat) (μ' : MI) (d' cb' sb' : Nat) {ci : Nat} {fs : List Value} {r : vw_C} {v1 v2 v3 : Value} {idx : Nat} (hd : decode μ.2.1 pc = .ok (.invokevirtual idx, 3)) (hp : pc + 3 = q) (hm : MLv μ' 3) (hk : LK μ.1.cls idx μ') (hdd : Nat.blt d' d = true) (hP : P.length = 124) (hb : P[0]? = some (cO ci fs)) (hc : clX[ci]? = some r) (hC : r.1 = μ'.1.cls) (hst : Nat.ble (st.map Value.category).sum 8 = true) (k : Call Γ μ' d' cb' sb' (.ref 0 :: [v1, v2, v3]) P (KP Γ μ d cb sb q M ls st Q)) : WP Γ μ d (cb + cb') (sb + sb') (lawH P M) pc ls (v3 :: v2 :: v1 :: .ref 0 :: st) Q :=
  lw_V3 q μ' d' cb' sb' slP P (b' := 0) (v1' := v1) (v2' := v2) (v3' := v3) hd hp hm hk hdd (Sub_P hP) (lawP_0 hb) hc hC (by rw [sgP]) (by rw [sgP]; exact eV_id _) (by rw [sgP]; exact eV_id _) (by rw [sgP]; exact eV_id _) hst (Call.mono (KP_B hP) k)
theorem lM_V3 (q : Nat) (μ' : MI) (d' cb' sb' : Nat) {ci : Nat} {fs : List Value} {r : vw_C} {v1 v2 v3 : Value} {idx : Nat} (hd : decode μ.2.1 pc = .ok (.invokevirtual idx, 3)) (hp : pc + 3 = q) (hm : MLv μ' 3) (hk : LK μ.1.cls idx μ') (hdd : Nat.blt d' d = true) (hP : P.length = 124) (hM : M.length = 27) (hb : M[0]? = some (cO ci fs)) (hc : clX[ci]? = some r) (hC : r.1 = μ'.1.cls) (e1 : eV sM v1 = v1) (e2 : eV sM v2 = v2) (e3 : eV sM v3 = v3) (hst : Nat.ble (st.map Value.category).sum 8 = true) (k : Call Γ μ' d' cb' sb' (.ref 0 :: [v1, v2, v3]) M (KM Γ μ d cb sb q P ls st Q)) : WP Γ μ d (cb + cb') (sb + sb') (lawH P M) pc ls (v3 :: v2 :: v1 :: .ref 124 :: st) Q :=
  lw_V3 q μ' d' cb' sb' slM M (b' := 0) (v1' := v1) (v2' := v2) (v3' := v3) hd hp hm hk hdd (Sub_M hP hM) (lawM_0 hP hb) hc hC (sM_lt (k := 0) (by omega)) e1 e2 e3 hst (Call.mono (KM_B hP hM) k)
theorem lP_V4 (q : Nat) (μ' : MI) (d' cb' sb' : Nat) {ci : Nat} {fs : List Value} {r : vw_C} {v1 v2 v3 v4 : Value} {idx : Nat} (hd : decode μ.2.1 pc = .ok (.invokevirtual idx, 3)) (hp : pc + 3 = q) (hm : MLv μ' 4) (hk : LK μ.1.cls idx μ') (hdd : Nat.blt d' d = true) (hP : P.length = 124) (hb : P[0]? = some (cO ci fs)) (hc : clX[ci]? = some r) (hC : r.1 = μ'.1.cls) (hst : Nat.ble (st.map Value.category).sum 8 = true) (k : Call Γ μ' d' cb' sb' (.ref 0 :: [v1, v2, v3, v4]) P (KP Γ μ d cb sb q M ls st Q)) : WP Γ μ d (cb + cb') (sb + sb') (lawH P M) pc ls (v4 :: v3 :: v2 :: v1 :: .ref 0 :: st) Q :=
  lw_V4 q μ' d' cb' sb' slP P (b' := 0) (v1' := v1) (v2' := v2) (v3' := v3) (v4' := v4) hd hp hm hk hdd (Sub_P hP) (lawP_0 hb) hc hC (by rw [sgP]) (by rw [sgP]; exact eV_id _) (by rw [sgP]; exact eV_id _) (by rw [sgP]; exact eV_id _) (by rw [sgP]; exact eV_id _) hst (Call.mono (KP_B hP) k)
theorem lM_V4 (q : Nat) (μ' : MI) (d' cb' sb' : Nat) {ci : Nat} {fs : List Value} {r : vw_C} {v1 v2 v3 v4 : Value} {idx : Nat} (hd : decode μ.2.1 pc = .ok (.invokevirtual idx, 3)) (hp : pc + 3 = q) (hm : MLv μ' 4) (hk : LK μ.1.cls idx μ') (hdd : Nat.blt d' d = true) (hP : P.length = 124) (hM : M.length = 27) (hb : M[0]? = some (cO ci fs)) (hc : clX[ci]? = some r) (hC : r.1 = μ'.1.cls) (e1 : eV sM v1 = v1) (e2 : eV sM v2 = v2) (e3 : eV sM v3 = v3) (e4 : eV sM v4 = v4) (hst : Nat.ble (st.map Value.category).sum 8 = true) (k : Call Γ μ' d' cb' sb' (.ref 0 :: [v1, v2, v3, v4]) M (KM Γ μ d cb sb q P ls st Q)) : WP Γ μ d (cb + cb') (sb + sb') (lawH P M) pc ls (v4 :: v3 :: v2 :: v1 :: .ref 124 :: st) Q :=
  lw_V4 q μ' d' cb' sb' slM M (b' := 0) (v1' := v1) (v2' := v2) (v3' := v3) (v4' := v4) hd hp hm hk hdd (Sub_M hP hM) (lawM_0 hP hb) hc hC (sM_lt (k := 0) (by omega)) e1 e2 e3 e4 hst (Call.mono (KM_B hP hM) k)
theorem lP_V5 (q : Nat) (μ' : MI) (d' cb' sb' : Nat) {ci : Nat} {fs : List Value} {r : vw_C} {v1 v2 v3 v4 v5 : Value} {idx : Nat} (hd : decode μ.2.1 pc = .ok (.invokevirtual idx, 3)) (hp : pc + 3 = q) (hm : MLv μ' 5) (hk : LK μ.1.cls idx μ') (hdd : Nat.blt d' d = true) (hP : P.length = 124) (hb : P[0]? = some (cO ci fs)) (hc : clX[ci]? = some r) (hC : r.1 = μ'.1.cls) (hst : Nat.ble (st.map Value.category).sum 8 = true) (k : Call Γ μ' d' cb' sb' (.ref 0 :: [v1, v2, v3, v4, v5]) P (KP Γ μ d cb sb q M ls st Q)) : WP Γ μ d (cb + cb') (sb + sb') (lawH P M) pc ls (v5 :: v4 :: v3 :: v2 :: v1 :: .ref 0 :: st) Q :=
  lw_V5 q μ' d' cb' sb' slP P (b' := 0) (v1' := v1) (v2' := v2) (v3' := v3) (v4' := v4) (v5' := v5) hd hp hm hk hdd (Sub_P hP) (lawP_0 hb) hc hC (by rw [sgP]) (by rw [sgP]; exact eV_id _) (by rw [sgP]; exact eV_id _) (by rw [sgP]; exact eV_id _) (by rw [sgP]; exact eV_id _) (by rw [sgP]; exact eV_id _) hst (Call.mono (KP_B hP) k)
theorem lM_V5 (q : Nat) (μ' : MI) (d' cb' sb' : Nat) {ci : Nat} {fs : List Value} {r : vw_C} {v1 v2 v3 v4 v5 : Value} {idx : Nat} (hd : decode μ.2.1 pc = .ok (.invokevirtual idx, 3)) (hp : pc + 3 = q) (hm : MLv μ' 5) (hk : LK μ.1.cls idx μ') (hdd : Nat.blt d' d = true) (hP : P.length = 124) (hM : M.length = 27) (hb : M[0]? = some (cO ci fs)) (hc : clX[ci]? = some r) (hC : r.1 = μ'.1.cls) (e1 : eV sM v1 = v1) (e2 : eV sM v2 = v2) (e3 : eV sM v3 = v3) (e4 : eV sM v4 = v4) (e5 : eV sM v5 = v5) (hst : Nat.ble (st.map Value.category).sum 8 = true) (k : Call Γ μ' d' cb' sb' (.ref 0 :: [v1, v2, v3, v4, v5]) M (KM Γ μ d cb sb q P ls st Q)) : WP Γ μ d (cb + cb') (sb + sb') (lawH P M) pc ls (v5 :: v4 :: v3 :: v2 :: v1 :: .ref 124 :: st) Q :=
  lw_V5 q μ' d' cb' sb' slM M (b' := 0) (v1' := v1) (v2' := v2) (v3' := v3) (v4' := v4) (v5' := v5) hd hp hm hk hdd (Sub_M hP hM) (lawM_0 hP hb) hc hC (sM_lt (k := 0) (by omega)) e1 e2 e3 e4 e5 hst (Call.mono (KM_B hP hM) k)
end TB5b
