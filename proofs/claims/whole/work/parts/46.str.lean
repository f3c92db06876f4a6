/-! ===== the String constants: rules ===== -/
section R46
variable {Γ : Gm} {μ : MI} {d cb sb : Nat} {h : LH} {pc : Nat} {ls : Lo} {st : List Value} {Q : Option Value → LH → Prop}
theorem wp_strValue (q : Nat) {kx idx : Nat} (hk : kx < 2) (hd : decode μ.2.1 pc = .ok (.getfield idx, 3)) (hp : pc + 3 = q) (hl : Cond.fieldLink μ.1.cls idx "java/lang/String" "value" "[B" ∈ TbL) (k : WP Γ μ d cb sb h q ls (.ref (XB + (2 + kx)) :: st) Q) : WP Γ μ d cb sb h pc ls (.ref (XB + kx) :: st) Q := by
  subst hp
  intro p l e R s m args below meth c H locs cells slots A ρ ρ0 n0 mc ms lsr F D
  have hk2 := k p l e R s m args below meth c H locs cells slots A ρ ρ0 n0 mc ms lsr F D
  simp only [List.map_cons, eV_ref, D.2.2.2.2.2.2.2.2.1] at hk2 ⊢
  exact vk_getf F.1 F.2.1 (F.2.2.2.2.2.2.2.2.2.1.1.1 kx hk).2.2.1 D.2.2.1 F.2.2.2.2.2.2.1 (F.2.2.2.2.2.2.2.1.all _ hl) (fun _ z => z) hd hk2
theorem wp_strCoder (q : Nat) {kx idx : Nat} (hk : kx < 2) (hd : decode μ.2.1 pc = .ok (.getfield idx, 3)) (hp : pc + 3 = q) (hl : Cond.fieldLink μ.1.cls idx "java/lang/String" "coder" "B" ∈ TbL) (k : WP Γ μ d cb sb h q ls (.int 0 :: st) Q) : WP Γ μ d cb sb h pc ls (.ref (XB + kx) :: st) Q := by
  subst hp
  intro p l e R s m args below meth c H locs cells slots A ρ ρ0 n0 mc ms lsr F D
  have hk2 := k p l e R s m args below meth c H locs cells slots A ρ ρ0 n0 mc ms lsr F D
  simp only [List.map_cons, eV_ref, D.2.2.2.2.2.2.2.2.1] at hk2 ⊢
  exact vk_getf F.1 F.2.1 (F.2.2.2.2.2.2.2.2.2.1.1.1 kx hk).2.1 D.2.2.1 F.2.2.2.2.2.2.1 (F.2.2.2.2.2.2.2.1.all _ hl) (fun _ z => z) hd hk2
theorem wp_compact (q : Nat) {idx : Nat} (hd : decode μ.2.1 pc = .ok (.getstatic idx, 3)) (hp : pc + 3 = q) (hl : Cond.fieldLink μ.1.cls idx "java/lang/String" "COMPACT_STRINGS" "Z" ∈ TbL) (k : WP Γ μ d cb sb h q ls (.int 1 :: st) Q) : WP Γ μ d cb sb h pc ls st Q := by
  subst hp
  intro p l e R s m args below meth c H locs cells slots A ρ ρ0 n0 mc ms lsr F D
  have hk2 := k p l e R s m args below meth c H locs cells slots A ρ ρ0 n0 mc ms lsr F D
  exact va_gets F.1 F.2.1 F.2.2.2.2.2.2.2.2.2.1.2.1 D.2.2.1 F.2.2.2.2.2.2.1 (F.2.2.2.2.2.2.2.1.all _ hl) (fun _ z => z) hd hk2
theorem wp_strLen (q : Nat) {kx : Nat} (hk : kx < 2) (hd : decode μ.2.1 pc = .ok (.arraylength, 1)) (hp : pc + 1 = q) (k : WP Γ μ d cb sb h q ls (.int (nI (lenX.getD kx 0)) :: st) Q) : WP Γ μ d cb sb h pc ls (.ref (XB + (2 + kx)) :: st) Q := by
  subst hp
  intro p l e R s m args below meth c H locs cells slots A ρ ρ0 n0 mc ms lsr F D
  have hk2 := k p l e R s m args below meth c H locs cells slots A ρ ρ0 n0 mc ms lsr F D
  simp only [List.map_cons, eV_ref, D.2.2.2.2.2.2.2.2.1] at hk2 ⊢
  exact va_tlen F.1 F.2.1 (F.2.2.2.2.2.2.2.2.2.1.1.1 kx hk).2.2.2 D.2.2.1 rfl hd hk2
theorem wp_strByte (q : Nat) {kx : Nat} {i : Int32} (hk : kx < 2) (hd : decode μ.2.1 pc = .ok (.baload, 1)) (hp : pc + 1 = q) (hin : vp_in i (lenX.getD kx 0)) (k : WP Γ μ d cb sb h q ls (.int ((bytX.getD kx []).getD i.toNatClampNeg 0) :: st) Q) : WP Γ μ d cb sb h pc ls (.int i :: .ref (XB + (2 + kx)) :: st) Q := by
  subst hp
  intro p l e R s m args below meth c H locs cells slots A ρ ρ0 n0 mc ms lsr F D
  have hk2 := k p l e R s m args below meth c H locs cells slots A ρ ρ0 n0 mc ms lsr F D
  simp only [List.map_cons, eV_ref, eV_int, D.2.2.2.2.2.2.2.2.1] at hk2 ⊢
  exact va_tb F.1 F.2.1 (F.2.2.2.2.2.2.2.2.2.1.1.1 kx hk).2.2.2 D.2.2.1 hin rfl hd hk2
theorem wp_X0 (q : Nat) (μ' : MI) (d' : Nat) {kx : Nat} (hkx : kx < 2) {idx : Nat} (hd : decode μ.2.1 pc = .ok (.invokevirtual idx, 3)) (hp : pc + 3 = q) (hm : MLv μ' 0) (hk : LK μ.1.cls idx μ') (hdd : Nat.blt d' d = true) (hC : "java/lang/String" = μ'.1.cls) (hst : Nat.ble (st.map Value.category).sum 8 = true) (k : Call Γ μ' d' 0 0 (.ref (XB + kx) :: []) h (Kid Γ μ d cb sb q ls st Q)) : WP Γ μ d cb sb h pc ls (.ref (XB + kx) :: st) Q := by
  have hd3 : d' < d := Nat.le_of_ble_eq_true hdd
  have hst8 : (st.map Value.category).sum ≤ 8 := Nat.le_of_ble_eq_true hst
  intro p l e R s m args below meth c H locs cells slots A ρ ρ0 n0 mc ms lsr F D
  have hfr := D.2.2.2.2.2.2.2.2.2.2.2.2.2.1
  have hlo := D.2.2.2.2.2.2.2.2.2.2.2.2.2.2
  have hM := (k l ρ H.size (rmx R 0 0) (by show _ ≤ R.frames - 1; omega) (by show _ ≤ R.locals - 64; omega) rfl rfl)
  have hpre := pre_of (al := (.ref (XB + kx) :: [])) F D D.1 D.2.1 D.2.2.2.2.2.2.2.2.1
  have hrv := vk_recv F.2.2.2.2.2.2.2.2.2.1.1 hkx D.2.2.1
  rw [hC, ← D.2.2.2.2.2.2.2.2.1 kx] at hrv
  exact cont_id F D hp (va_runV (As := ([].map (eV ρ))) (rest := st.map (eV ρ)) (b := ρ (XB + kx)) ⟨F.1, F.2.1, F.2.2.1, F.2.2.2.2.2.2.1, F.2.2.2.2.2.2.2.1.all⟩ hM ⟨callB_x F.2.2.2.2.2.2.2.1 hm.1 hk hd3 hfr hlo, F.2.2.2.2.2.2.2.1.all _ hm.2.1, F.2.2.2.2.2.2.2.1.all _ hm.2.2⟩ ⟨Pcx.blind, hrv, hpre⟩ rfl (by simp) D.2.2.2.1.1 (by simp only [List.map_cons, List.map_nil, List.reverse_cons, List.reverse_nil, List.nil_append, List.cons_append, List.append_assoc, eV_ref]) (by rw [sumCat]; show 2 * 0 + _ ≤ 8; omega) hd ⟨by have := D.2.2.2.2.2.2.2.2.2; omega, by have := D.2.2.2.2.2.2.2.2.2; omega⟩)
theorem wp_X1 (q : Nat) (μ' : MI) (d' : Nat) {kx : Nat} (hkx : kx < 2) {v1 : Value} {idx : Nat} (hd : decode μ.2.1 pc = .ok (.invokevirtual idx, 3)) (hp : pc + 3 = q) (hm : MLv μ' 1) (hk : LK μ.1.cls idx μ') (hdd : Nat.blt d' d = true) (hC : "java/lang/String" = μ'.1.cls) (hst : Nat.ble (st.map Value.category).sum 8 = true) (k : Call Γ μ' d' 0 0 (.ref (XB + kx) :: [v1]) h (Kid Γ μ d cb sb q ls st Q)) : WP Γ μ d cb sb h pc ls (v1 :: .ref (XB + kx) :: st) Q := by
  have hd3 : d' < d := Nat.le_of_ble_eq_true hdd
  have hst8 : (st.map Value.category).sum ≤ 8 := Nat.le_of_ble_eq_true hst
  intro p l e R s m args below meth c H locs cells slots A ρ ρ0 n0 mc ms lsr F D
  have hfr := D.2.2.2.2.2.2.2.2.2.2.2.2.2.1
  have hlo := D.2.2.2.2.2.2.2.2.2.2.2.2.2.2
  have hM := (k l ρ H.size (rmx R 0 0) (by show _ ≤ R.frames - 1; omega) (by show _ ≤ R.locals - 64; omega) rfl rfl)
  have hpre := pre_of (al := (.ref (XB + kx) :: [v1])) F D D.1 D.2.1 D.2.2.2.2.2.2.2.2.1
  have hrv := vk_recv F.2.2.2.2.2.2.2.2.2.1.1 hkx D.2.2.1
  rw [hC, ← D.2.2.2.2.2.2.2.2.1 kx] at hrv
  exact cont_id F D hp (va_runV (As := ([v1].map (eV ρ))) (rest := st.map (eV ρ)) (b := ρ (XB + kx)) ⟨F.1, F.2.1, F.2.2.1, F.2.2.2.2.2.2.1, F.2.2.2.2.2.2.2.1.all⟩ hM ⟨callB_x F.2.2.2.2.2.2.2.1 hm.1 hk hd3 hfr hlo, F.2.2.2.2.2.2.2.1.all _ hm.2.1, F.2.2.2.2.2.2.2.1.all _ hm.2.2⟩ ⟨Pcx.blind, hrv, hpre⟩ rfl (by simp) D.2.2.2.1.1 (by simp only [List.map_cons, List.map_nil, List.reverse_cons, List.reverse_nil, List.nil_append, List.cons_append, List.append_assoc, eV_ref]) (by rw [sumCat]; show 2 * 0 + _ ≤ 8; omega) hd ⟨by have := D.2.2.2.2.2.2.2.2.2; omega, by have := D.2.2.2.2.2.2.2.2.2; omega⟩)
end R46
