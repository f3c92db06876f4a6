/-! ===== String: coder, isLatin1, length ===== -/
theorem fx_9 : Cond.fieldLink "java/lang/String" 9 "java/lang/String" "value" "[B" ∈ TbL := (tk_9 153 (by decide +kernel) rfl)
theorem fx_15 : Cond.fieldLink "java/lang/String" 15 "java/lang/String" "coder" "B" ∈ TbL := (tk_9 154 (by decide +kernel) rfl)
theorem fx_38 : Cond.fieldLink "java/lang/String" 38 "java/lang/String" "COMPACT_STRINGS" "Z" ∈ TbL := (tk_1 47 (by decide +kernel) rfl)
section T47
variable {Γ : Gm} {Q : Option Value → LH → Prop} {h : LH} {kx : Nat}
set_option maxRecDepth 100000 in
set_option maxHeartbeats 4000000 in
theorem c_JStr_coder (hk : kx < 2) (hq : Q (some (.int 0)) h) : Call Γ M_JStr_coder 1 0 0 [.ref (XB + kx)] h Q := by
  refine call_introF (ls := [some (.ref (XB + kx))]) (by decide +kernel) rfl rfl ?_
  refine wp_compact 3 d_JStr_coder_0 rfl fx_38 ?_
  refine wp_if_eq 13 6 d_JStr_coder_3 rfl (by decide) (fun h3 => ?_) (fun h3 => ?_)
  · exact absurd h3 (by decide)
  · refine wp_aload_n 7 d_JStr_coder_6 rfl rfl ?_
    refine wp_strCoder 10 hk d_JStr_coder_7 rfl fx_15 ?_
    refine wp_goto 14 d_JStr_coder_10 (by decide) ?_
    refine wp_nreturn _ d_JStr_coder_14 rfl rfl ?_
    exact hq

set_option maxRecDepth 100000 in
set_option maxHeartbeats 4000000 in
theorem c_JStr_isLatin1 (hk : kx < 2) (hq : Q (some (.int 1)) h) : Call Γ M_JStr_isLatin1 1 0 0 [.ref (XB + kx)] h Q := by
  refine call_introF (ls := [some (.ref (XB + kx))]) (by decide +kernel) rfl rfl ?_
  refine wp_compact 3 d_JStr_isLatin1_0 rfl fx_38 ?_
  refine wp_if_eq 17 6 d_JStr_isLatin1_3 rfl (by decide) (fun h3 => ?_) (fun h3 => ?_)
  · exact absurd h3 (by decide)
  · refine wp_aload_n 7 d_JStr_isLatin1_6 rfl rfl ?_
    refine wp_strCoder 10 hk d_JStr_isLatin1_7 rfl fx_15 ?_
    refine wp_if_ne 17 13 d_JStr_isLatin1_10 rfl (by decide) (fun h10 => ?_) (fun h10 => ?_)
    · exact absurd rfl h10
    · refine wp_iconst 14 1 d_JStr_isLatin1_13 rfl (by decide) ?_
      refine wp_goto 18 d_JStr_isLatin1_14 (by decide) ?_
      refine wp_zreturn d_JStr_isLatin1_18 rfl (by first | rfl | exact nbP _) ?_
      exact hq

set_option maxRecDepth 100000 in
set_option maxHeartbeats 4000000 in
theorem c_JStr_length (hk : kx < 2) (hq : Q (some (.int (nI (lenX.getD kx 0)))) h) : Call Γ M_JStr_length 2 0 0 [.ref (XB + kx)] h Q := by
  refine call_introF (ls := [some (.ref (XB + kx))]) (by decide +kernel) rfl rfl ?_
  refine wp_aload_n 1 d_JStr_length_0 rfl rfl ?_
  refine wp_strValue 4 hk d_JStr_length_1 rfl fx_9 ?_
  refine wp_strLen 5 hk d_JStr_length_4 rfl ?_
  refine wp_aload_n 6 d_JStr_length_5 rfl rfl ?_
  refine wp_X0 9 M_JStr_coder 1 hk d_JStr_length_6 rfl mv_JStr_coder lk_JStr_335 rfl rfl rfl ?_
  refine c_JStr_coder hk ?_
  refine kI ?_
  refine wp_ishr 10 d_JStr_length_9 rfl ?_
  refine wp_ireturn d_JStr_length_10 rfl ?_
  refine qI hq ?_
  exact match kx, hk with
    | 0, _ => by decide
    | 1, _ => by decide

end T47
