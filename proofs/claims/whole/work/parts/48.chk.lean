/-! ===== String: checkIndex ===== -/
theorem fx_1053 : Cond.fieldLink "java/lang/String" 1053 "jdk/internal/util/Preconditions" "SIOOBE_FORMATTER" "Ljava/util/function/BiFunction;" ∈ TbL := (tk_1 63 (by decide +kernel) rfl)
theorem wp_sioobe {Γ : Gm} {μ : MI} {d cb sb : Nat} {h : LH} {pc : Nat} {ls : Lo} {st : List Value} {Q : Option Value → LH → Prop} (q : Nat) {idx : Nat} (hd : decode μ.2.1 pc = .ok (.getstatic idx, 3)) (hp : pc + 3 = q) (hl : Cond.fieldLink μ.1.cls idx "jdk/internal/util/Preconditions" "SIOOBE_FORMATTER" "Ljava/util/function/BiFunction;" ∈ TbL) (k0 : WP Γ μ d cb sb h q ls (.null :: st) Q) (k1 : WP Γ μ d cb sb h q ls (.ref (XB + 5) :: st) Q) : WP Γ μ d cb sb h pc ls st Q := by
  subst hp
  intro p l e R s m args below meth c H locs cells slots A ρ ρ0 n0 mc ms lsr F D
  rcases F.2.2.2.2.2.2.2.2.2.1.2.2.2.2.2.2.2 with z | z
  · have hk2 := k0 p l e R s m args below meth c H locs cells slots A ρ ρ0 n0 mc ms lsr F D
    exact va_gets F.1 F.2.1 z D.2.2.1 F.2.2.2.2.2.2.1 (F.2.2.2.2.2.2.2.1.all _ hl) (fun _ z => z) hd hk2
  · have hk2 := k1 p l e R s m args below meth c H locs cells slots A ρ ρ0 n0 mc ms lsr F D
    simp only [List.map_cons, eV_ref, D.2.2.2.2.2.2.2.2.1] at hk2
    exact va_gets F.1 F.2.1 z D.2.2.1 F.2.2.2.2.2.2.1 (F.2.2.2.2.2.2.2.1.all _ hl) (fun _ z => z) hd hk2
section T48
variable {Γ : Gm} {Q : Option Value → LH → Prop} {h : LH} {kx : Nat}
set_option maxRecDepth 100000 in
set_option maxHeartbeats 4000000 in
theorem c_JPre_checkIndex0 {i n : Int32} (hi : inR i n) (hq : Q (some (.int i)) h) : Call Γ M_JPre_checkIndex 1 0 0 [.int i, .int n, .null] h Q := by
  refine call_introF (ls := [some (.int i), some (.int n), some (.null)]) (by decide +kernel) rfl rfl ?_
  refine wp_iload_n 1 d_JPre_checkIndex_0 rfl rfl ?_
  refine wp_if_lt 9 4 d_JPre_checkIndex_1 rfl (by decide) (fun h1 => ?_) (fun h1 => ?_)
  · exact absurd h1 (Int32.not_lt.mpr hi.1)
  · refine wp_iload_n 5 d_JPre_checkIndex_4 rfl rfl ?_
    refine wp_iload_n 6 d_JPre_checkIndex_5 rfl rfl ?_
    refine wp_icmp_lt 16 9 d_JPre_checkIndex_6 rfl (by decide) (fun h6 => ?_) (fun h6 => ?_)
    · refine wp_iload_n 17 d_JPre_checkIndex_16 rfl rfl ?_
      refine wp_ireturn d_JPre_checkIndex_17 rfl ?_
      exact hq
    · exact absurd hi.2 h6

set_option maxRecDepth 100000 in
set_option maxHeartbeats 4000000 in
theorem c_JPre_checkIndex1 {i n : Int32} (hi : inR i n) (hq : Q (some (.int i)) h) : Call Γ M_JPre_checkIndex 1 0 0 [.int i, .int n, .ref (XB + 5)] h Q := by
  refine call_introF (ls := [some (.int i), some (.int n), some (.ref (XB + 5))]) (by decide +kernel) rfl rfl ?_
  refine wp_iload_n 1 d_JPre_checkIndex_0 rfl rfl ?_
  refine wp_if_lt 9 4 d_JPre_checkIndex_1 rfl (by decide) (fun h1 => ?_) (fun h1 => ?_)
  · exact absurd h1 (Int32.not_lt.mpr hi.1)
  · refine wp_iload_n 5 d_JPre_checkIndex_4 rfl rfl ?_
    refine wp_iload_n 6 d_JPre_checkIndex_5 rfl rfl ?_
    refine wp_icmp_lt 16 9 d_JPre_checkIndex_6 rfl (by decide) (fun h6 => ?_) (fun h6 => ?_)
    · refine wp_iload_n 17 d_JPre_checkIndex_16 rfl rfl ?_
      refine wp_ireturn d_JPre_checkIndex_17 rfl ?_
      exact hq
    · exact absurd hi.2 h6

set_option maxRecDepth 100000 in
theorem c_JStr_checkIndex {i n : Int32} (hi : inR i n) (hq : Q none h) : Call Γ M_JStr_checkIndex 2 0 0 [.int i, .int n] h Q := by
  refine call_introF (ls := [some (.int i), some (.int n)]) (by decide +kernel) rfl rfl ?_
  refine wp_iload_n 1 d_JStr_checkIndex_0 rfl rfl ?_
  refine wp_iload_n 2 d_JStr_checkIndex_1 rfl rfl ?_
  refine wp_sioobe 5 d_JStr_checkIndex_2 rfl fx_1053 ?_ ?_
  · refine wp_S3 8 M_JPre_checkIndex 1 d_JStr_checkIndex_5 rfl ms_JPre_checkIndex lk_JStr_1059 rfl rfl ?_
    refine c_JPre_checkIndex0 hi ?_
    refine kI ?_
    refine wp_pop 9 d_JStr_checkIndex_8 rfl rfl ?_
    refine wp_return d_JStr_checkIndex_9 rfl ?_
    exact hq
  · refine wp_S3 8 M_JPre_checkIndex 1 d_JStr_checkIndex_5 rfl ms_JPre_checkIndex lk_JStr_1059 rfl rfl ?_
    refine c_JPre_checkIndex1 hi ?_
    refine kI ?_
    refine wp_pop 9 d_JStr_checkIndex_8 rfl rfl ?_
    refine wp_return d_JStr_checkIndex_9 rfl ?_
    exact hq
end T48
