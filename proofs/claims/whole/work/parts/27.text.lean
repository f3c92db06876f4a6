/-! ===== Text: signs, tokens one by one ===== -/
abbrev hX (tby : Nat → Int32) (tco : Nat → Int64) (tki : Nat → Int32) (tst : Nat → Int32) (tva : Nat → Int64) (tfe : Int32) (tle : Int32) (tto : Int32) (tat : Int32) (tkd : Int32) (tvl : Int32) (two : Int32) (ttk : Int32) (tna : Int64) (tfk : Int32) (tfp : Int32) : LH := [cO 7 [.ref 1, .ref 2, .ref 3, .ref 4, .ref 5, .int tfe, .int tle, .int tto, .int tat, .int tkd, .int tvl, .int two, .int ttk, .long tna, .int tfk, .int tfp], cB 900 tby, cL 24 tco, cI 901 tki, cI 901 tst, cL 901 tva]
def vlT (k : Int32) (v : Int64) : Int32 := if k = 4 ∨ k = 5 then v.toInt32 else 0
def woT (k : Int32) (v : Int64) : Int32 := if k = 1 then v.toInt32 else -1
abbrev isLe (c : Int32) : Prop := 97 ≤ c ∧ c ≤ 122
abbrev isDi (c : Int32) : Prop := 48 ≤ c ∧ c ≤ 57
abbrev isBl (c : Int32) : Prop := c = 10 ∨ c = 32
abbrev isSi (c : Int32) : Prop := c = 59 ∨ c = 60 ∨ c = 62 ∨ c = 61
def wiL (s : Int64) (c : Int32) : Int64 := s * 32 + (c - 97 + 1).toInt64
def nx (nT a : Nat) : Nat := if a + 1 < nT then a + 1 else a
def csK (k : Int32) : Int32 := if k = 6 then 1 else 2
section T27
variable {Γ : Gm} {Q : Option Value → LH → Prop}
set_option maxRecDepth 100000 in
set_option maxHeartbeats 4000000 in
theorem c_Text_isLetter {c : Int32} {h : LH} (hq : Q (some (.int (bP (isLe c)))) h) : Call Γ M_Text_isLetter 1 0 0 [.int c] h Q := by
  refine call_intro (ls := [some (.int c)]) rfl rfl rfl ?_
  refine wp_iload_n 1 d_Text_isLetter_0 rfl rfl ?_
  refine wp_bipush 3 97 d_Text_isLetter_1 rfl (by decide) ?_
  refine wp_icmp_lt 16 6 d_Text_isLetter_3 rfl (by decide) (fun h3 => ?_) (fun h3 => ?_)
  · refine wp_iconst 17 0 d_Text_isLetter_16 rfl (by decide) ?_
    refine wp_zreturn d_Text_isLetter_17 rfl (by first | rfl | exact nbP _) ?_
    first | exact bq1 ⟨Int32.not_lt.mp h3, Int32.not_lt.mp h9⟩ hq | exact bq0 (fun z => absurd h9 (Int32.not_lt.mpr z.2)) hq | exact bq0 (fun z => absurd h3 (Int32.not_lt.mpr z.1)) hq
  · refine wp_iload_n 7 d_Text_isLetter_6 rfl rfl ?_
    refine wp_bipush 9 122 d_Text_isLetter_7 rfl (by decide) ?_
    refine wp_icmp_gt 16 12 d_Text_isLetter_9 rfl (by decide) (fun h9 => ?_) (fun h9 => ?_)
    · refine wp_iconst 17 0 d_Text_isLetter_16 rfl (by decide) ?_
      refine wp_zreturn d_Text_isLetter_17 rfl (by first | rfl | exact nbP _) ?_
      first | exact bq1 ⟨Int32.not_lt.mp h3, Int32.not_lt.mp h9⟩ hq | exact bq0 (fun z => absurd h9 (Int32.not_lt.mpr z.2)) hq | exact bq0 (fun z => absurd h3 (Int32.not_lt.mpr z.1)) hq
    · refine wp_iconst 13 1 d_Text_isLetter_12 rfl (by decide) ?_
      refine wp_goto 17 d_Text_isLetter_13 (by decide) ?_
      refine wp_zreturn d_Text_isLetter_17 rfl (by first | rfl | exact nbP _) ?_
      first | exact bq1 ⟨Int32.not_lt.mp h3, Int32.not_lt.mp h9⟩ hq | exact bq0 (fun z => absurd h9 (Int32.not_lt.mpr z.2)) hq | exact bq0 (fun z => absurd h3 (Int32.not_lt.mpr z.1)) hq

set_option maxRecDepth 100000 in
set_option maxHeartbeats 4000000 in
theorem c_Text_isDigit {c : Int32} {h : LH} (hq : Q (some (.int (bP (isDi c)))) h) : Call Γ M_Text_isDigit 1 0 0 [.int c] h Q := by
  refine call_intro (ls := [some (.int c)]) rfl rfl rfl ?_
  refine wp_iload_n 1 d_Text_isDigit_0 rfl rfl ?_
  refine wp_bipush 3 48 d_Text_isDigit_1 rfl (by decide) ?_
  refine wp_icmp_lt 16 6 d_Text_isDigit_3 rfl (by decide) (fun h3 => ?_) (fun h3 => ?_)
  · refine wp_iconst 17 0 d_Text_isDigit_16 rfl (by decide) ?_
    refine wp_zreturn d_Text_isDigit_17 rfl (by first | rfl | exact nbP _) ?_
    first | exact bq1 ⟨Int32.not_lt.mp h3, Int32.not_lt.mp h9⟩ hq | exact bq0 (fun z => absurd h9 (Int32.not_lt.mpr z.2)) hq | exact bq0 (fun z => absurd h3 (Int32.not_lt.mpr z.1)) hq
  · refine wp_iload_n 7 d_Text_isDigit_6 rfl rfl ?_
    refine wp_bipush 9 57 d_Text_isDigit_7 rfl (by decide) ?_
    refine wp_icmp_gt 16 12 d_Text_isDigit_9 rfl (by decide) (fun h9 => ?_) (fun h9 => ?_)
    · refine wp_iconst 17 0 d_Text_isDigit_16 rfl (by decide) ?_
      refine wp_zreturn d_Text_isDigit_17 rfl (by first | rfl | exact nbP _) ?_
      first | exact bq1 ⟨Int32.not_lt.mp h3, Int32.not_lt.mp h9⟩ hq | exact bq0 (fun z => absurd h9 (Int32.not_lt.mpr z.2)) hq | exact bq0 (fun z => absurd h3 (Int32.not_lt.mpr z.1)) hq
    · refine wp_iconst 13 1 d_Text_isDigit_12 rfl (by decide) ?_
      refine wp_goto 17 d_Text_isDigit_13 (by decide) ?_
      refine wp_zreturn d_Text_isDigit_17 rfl (by first | rfl | exact nbP _) ?_
      first | exact bq1 ⟨Int32.not_lt.mp h3, Int32.not_lt.mp h9⟩ hq | exact bq0 (fun z => absurd h9 (Int32.not_lt.mpr z.2)) hq | exact bq0 (fun z => absurd h3 (Int32.not_lt.mpr z.1)) hq

set_option maxRecDepth 100000 in
set_option maxHeartbeats 4000000 in
theorem c_Text_isBlank {c : Int32} {h : LH} (hq : Q (some (.int (bP (isBl c)))) h) : Call Γ M_Text_isBlank 1 0 0 [.int c] h Q := by
  refine call_intro (ls := [some (.int c)]) rfl rfl rfl ?_
  refine wp_iload_n 1 d_Text_isBlank_0 rfl rfl ?_
  refine wp_bipush 3 10 d_Text_isBlank_1 rfl (by decide) ?_
  refine wp_icmp_eq 12 6 d_Text_isBlank_3 rfl (by decide) (fun h3 => ?_) (fun h3 => ?_)
  · refine wp_iconst 13 1 d_Text_isBlank_12 rfl (by decide) ?_
    refine wp_goto 17 d_Text_isBlank_13 (by decide) ?_
    refine wp_zreturn d_Text_isBlank_17 rfl (by first | rfl | exact nbP _) ?_
    first | exact bq1 (Or.inr h9) hq | exact bq0 (fun z => z.elim h3 h9) hq | exact bq1 (Or.inl h3) hq
  · refine wp_iload_n 7 d_Text_isBlank_6 rfl rfl ?_
    refine wp_bipush 9 32 d_Text_isBlank_7 rfl (by decide) ?_
    refine wp_icmp_ne 16 12 d_Text_isBlank_9 rfl (by decide) (fun h9 => ?_) (fun h9 => ?_)
    · refine wp_iconst 17 0 d_Text_isBlank_16 rfl (by decide) ?_
      refine wp_zreturn d_Text_isBlank_17 rfl (by first | rfl | exact nbP _) ?_
      first | exact bq1 (Or.inr h9) hq | exact bq0 (fun z => z.elim h3 h9) hq | exact bq1 (Or.inl h3) hq
    · refine wp_iconst 13 1 d_Text_isBlank_12 rfl (by decide) ?_
      refine wp_goto 17 d_Text_isBlank_13 (by decide) ?_
      refine wp_zreturn d_Text_isBlank_17 rfl (by first | rfl | exact nbP _) ?_
      first | exact bq1 (Or.inr h9) hq | exact bq0 (fun z => z.elim h3 h9) hq | exact bq1 (Or.inl h3) hq

set_option maxRecDepth 100000 in
set_option maxHeartbeats 4000000 in
theorem c_Text_isSign {c : Int32} {h : LH} (hq : Q (some (.int (bP (isSi c)))) h) : Call Γ M_Text_isSign 1 0 0 [.int c] h Q := by
  refine call_intro (ls := [some (.int c)]) rfl rfl rfl ?_
  refine wp_iload_n 1 d_Text_isSign_0 rfl rfl ?_
  refine wp_bipush 3 59 d_Text_isSign_1 rfl (by decide) ?_
  refine wp_icmp_eq 24 6 d_Text_isSign_3 rfl (by decide) (fun h3 => ?_) (fun h3 => ?_)
  · refine wp_iconst 25 1 d_Text_isSign_24 rfl (by decide) ?_
    refine wp_goto 29 d_Text_isSign_25 (by decide) ?_
    refine wp_zreturn d_Text_isSign_29 rfl (by first | rfl | exact nbP _) ?_
    first | exact bq1 (Or.inr (Or.inr (Or.inr h21))) hq | exact bq0 (fun z => z.elim h3 (fun z => z.elim h9 (fun z => z.elim h15 h21))) hq | exact bq1 (Or.inr (Or.inr (Or.inl h15))) hq | exact bq1 (Or.inr (Or.inl h9)) hq | exact bq1 (Or.inl h3) hq
  · refine wp_iload_n 7 d_Text_isSign_6 rfl rfl ?_
    refine wp_bipush 9 60 d_Text_isSign_7 rfl (by decide) ?_
    refine wp_icmp_eq 24 12 d_Text_isSign_9 rfl (by decide) (fun h9 => ?_) (fun h9 => ?_)
    · refine wp_iconst 25 1 d_Text_isSign_24 rfl (by decide) ?_
      refine wp_goto 29 d_Text_isSign_25 (by decide) ?_
      refine wp_zreturn d_Text_isSign_29 rfl (by first | rfl | exact nbP _) ?_
      first | exact bq1 (Or.inr (Or.inr (Or.inr h21))) hq | exact bq0 (fun z => z.elim h3 (fun z => z.elim h9 (fun z => z.elim h15 h21))) hq | exact bq1 (Or.inr (Or.inr (Or.inl h15))) hq | exact bq1 (Or.inr (Or.inl h9)) hq | exact bq1 (Or.inl h3) hq
    · refine wp_iload_n 13 d_Text_isSign_12 rfl rfl ?_
      refine wp_bipush 15 62 d_Text_isSign_13 rfl (by decide) ?_
      refine wp_icmp_eq 24 18 d_Text_isSign_15 rfl (by decide) (fun h15 => ?_) (fun h15 => ?_)
      · refine wp_iconst 25 1 d_Text_isSign_24 rfl (by decide) ?_
        refine wp_goto 29 d_Text_isSign_25 (by decide) ?_
        refine wp_zreturn d_Text_isSign_29 rfl (by first | rfl | exact nbP _) ?_
        first | exact bq1 (Or.inr (Or.inr (Or.inr h21))) hq | exact bq0 (fun z => z.elim h3 (fun z => z.elim h9 (fun z => z.elim h15 h21))) hq | exact bq1 (Or.inr (Or.inr (Or.inl h15))) hq | exact bq1 (Or.inr (Or.inl h9)) hq | exact bq1 (Or.inl h3) hq
      · refine wp_iload_n 19 d_Text_isSign_18 rfl rfl ?_
        refine wp_bipush 21 61 d_Text_isSign_19 rfl (by decide) ?_
        refine wp_icmp_ne 28 24 d_Text_isSign_21 rfl (by decide) (fun h21 => ?_) (fun h21 => ?_)
        · refine wp_iconst 29 0 d_Text_isSign_28 rfl (by decide) ?_
          refine wp_zreturn d_Text_isSign_29 rfl (by first | rfl | exact nbP _) ?_
          first | exact bq1 (Or.inr (Or.inr (Or.inr h21))) hq | exact bq0 (fun z => z.elim h3 (fun z => z.elim h9 (fun z => z.elim h15 h21))) hq | exact bq1 (Or.inr (Or.inr (Or.inl h15))) hq | exact bq1 (Or.inr (Or.inl h9)) hq | exact bq1 (Or.inl h3) hq
        · refine wp_iconst 25 1 d_Text_isSign_24 rfl (by decide) ?_
          refine wp_goto 29 d_Text_isSign_25 (by decide) ?_
          refine wp_zreturn d_Text_isSign_29 rfl (by first | rfl | exact nbP _) ?_
          first | exact bq1 (Or.inr (Or.inr (Or.inr h21))) hq | exact bq0 (fun z => z.elim h3 (fun z => z.elim h9 (fun z => z.elim h15 h21))) hq | exact bq1 (Or.inr (Or.inr (Or.inl h15))) hq | exact bq1 (Or.inr (Or.inl h9)) hq | exact bq1 (Or.inl h3) hq

set_option maxRecDepth 100000 in
set_option maxHeartbeats 4000000 in
theorem c_Text_withLetter {s : Int64} {c : Int32} {h : LH} (hq : Q (some (.long (wiL s c))) h) : Call Γ M_Text_withLetter 1 0 0 [.long s, .int c] h Q := by
  refine call_intro (ls := [some (.long s), none, some (.int c)]) rfl rfl rfl ?_
  refine wp_lload_n 1 d_Text_withLetter_0 rfl rfl ?_
  refine wp_ldc2 4 (32 : Int64) d_Text_withLetter_1 rfl ct_Text_100 ?_
  refine wp_lmul 5 d_Text_withLetter_4 rfl ?_
  refine wp_iload_n 6 d_Text_withLetter_5 rfl rfl ?_
  refine wp_bipush 8 97 d_Text_withLetter_6 rfl (by decide) ?_
  refine wp_isub 9 d_Text_withLetter_8 rfl ?_
  refine wp_iconst 10 1 d_Text_withLetter_9 rfl (by decide) ?_
  refine wp_iadd 11 d_Text_withLetter_10 rfl ?_
  refine wp_i2l 12 d_Text_withLetter_11 rfl ?_
  refine wp_ladd 13 d_Text_withLetter_12 rfl ?_
  refine wp_lreturn d_Text_withLetter_13 rfl ?_
  exact hq

set_option maxRecDepth 100000 in
set_option maxHeartbeats 4000000 in
theorem c_Text_look {tby tki tst : Nat → Int32} {tco tva : Nat → Int64} {tfe tle ttk tfk tfp : Int32} {tna : Int64} {tkd tvl two : Int32} {nT a : Nat} (ha : a < nT) (hT : nT ≤ 901) (hq : Q none (hX tby tco tki tst tva tfe tle (nI nT) (nI a) (tki a) (vlT (tki a) (tva a)) (woT (tki a) (tva a)) ttk tna tfk tfp)) : Call Γ M_Text_look 1 0 0 [.ref 0] (hX tby tco tki tst tva tfe tle (nI nT) (nI a) tkd tvl two ttk tna tfk tfp) Q := by
  refine call_intro (ls := [some (.ref 0)]) rfl rfl rfl ?_
  refine wp_aload_n 1 d_Text_look_0 rfl rfl ?_
  refine wp_aload_n 2 d_Text_look_1 rfl rfl ?_
  refine wp_getfield 5 7 2 d_Text_look_2 rfl fl_Text_19 rfl rfl ?_
  refine wp_aload_n 6 d_Text_look_5 rfl rfl ?_
  refine wp_getfield 9 7 8 d_Text_look_6 rfl fl_Text_39 rfl rfl ?_
  refine wp_ialoadN 10 d_Text_look_9 rfl rfl rfl (by omega) ?_
  refine wp_putfield 13 7 9 _ d_Text_look_10 rfl fp_Text_42 rfl rfl (okP_int _) ?_
  dsimp only [List.set]
  refine wp_aload_n 14 d_Text_look_13 rfl rfl ?_
  refine wp_aload_n 15 d_Text_look_14 rfl rfl ?_
  refine wp_getfield 18 7 9 d_Text_look_15 rfl fl_Text_42 rfl rfl ?_
  refine wp_iconst 19 4 d_Text_look_18 rfl (by decide) ?_
  refine wp_icmp_eq 30 22 d_Text_look_19 rfl (by decide) (fun h19 => ?_) (fun h19 => ?_)
  · refine wp_aload_n 31 d_Text_look_30 rfl rfl ?_
    refine wp_getfield 34 7 4 d_Text_look_31 rfl fl_Text_26 rfl rfl ?_
    refine wp_aload_n 35 d_Text_look_34 rfl rfl ?_
    refine wp_getfield 38 7 8 d_Text_look_35 rfl fl_Text_39 rfl rfl ?_
    refine wp_laloadN 39 d_Text_look_38 rfl rfl rfl (by omega) ?_
    refine wp_l2i 40 d_Text_look_39 rfl ?_
    refine wp_goto 44 d_Text_look_40 (by decide) ?_
    refine wp_putfield 47 7 10 _ d_Text_look_44 rfl fp_Text_45 rfl rfl (okP_int _) ?_
    dsimp only [List.set]
    refine wp_aload_n 48 d_Text_look_47 rfl rfl ?_
    refine wp_aload_n 49 d_Text_look_48 rfl rfl ?_
    refine wp_getfield 52 7 9 d_Text_look_49 rfl fl_Text_42 rfl rfl ?_
    refine wp_iconst 53 1 d_Text_look_52 rfl (by decide) ?_
    refine wp_icmp_ne 69 56 d_Text_look_53 rfl (by decide) (fun h53 => ?_) (fun h53 => ?_)
    · refine wp_iconst 70 (-1) d_Text_look_69 rfl (by decide) ?_
      refine wp_putfield 73 7 11 _ d_Text_look_70 rfl fp_Text_48 rfl rfl (okP_int _) ?_
      dsimp only [List.set]
      refine wp_return d_Text_look_73 rfl ?_
      first
      | (have e1 : vlT (tki a) (tva a) = (tva a).toInt32 := if_pos (Or.inl h19)
         have e2 : woT (tki a) (tva a) = (tva a).toInt32 := if_pos h53
         rw [e1, e2] at hq; exact hq)
      | (have e1 : vlT (tki a) (tva a) = (tva a).toInt32 := if_pos (Or.inl h19)
         have e2 : woT (tki a) (tva a) = -1 := if_neg h53
         rw [e1, e2] at hq; exact hq)
      | (have e1 : vlT (tki a) (tva a) = (tva a).toInt32 := if_pos (Or.inr h27)
         have e2 : woT (tki a) (tva a) = (tva a).toInt32 := if_pos h53
         rw [e1, e2] at hq; exact hq)
      | (have e1 : vlT (tki a) (tva a) = (tva a).toInt32 := if_pos (Or.inr h27)
         have e2 : woT (tki a) (tva a) = -1 := if_neg h53
         rw [e1, e2] at hq; exact hq)
      | (have e1 : vlT (tki a) (tva a) = 0 := if_neg (fun z => z.elim h19 h27)
         have e2 : woT (tki a) (tva a) = (tva a).toInt32 := if_pos h53
         rw [e1, e2] at hq; exact hq)
      | (have e1 : vlT (tki a) (tva a) = 0 := if_neg (fun z => z.elim h19 h27)
         have e2 : woT (tki a) (tva a) = -1 := if_neg h53
         rw [e1, e2] at hq; exact hq)
    · refine wp_aload_n 57 d_Text_look_56 rfl rfl ?_
      refine wp_getfield 60 7 4 d_Text_look_57 rfl fl_Text_26 rfl rfl ?_
      refine wp_aload_n 61 d_Text_look_60 rfl rfl ?_
      refine wp_getfield 64 7 8 d_Text_look_61 rfl fl_Text_39 rfl rfl ?_
      refine wp_laloadN 65 d_Text_look_64 rfl rfl rfl (by omega) ?_
      refine wp_l2i 66 d_Text_look_65 rfl ?_
      refine wp_goto 70 d_Text_look_66 (by decide) ?_
      refine wp_putfield 73 7 11 _ d_Text_look_70 rfl fp_Text_48 rfl rfl (okP_int _) ?_
      dsimp only [List.set]
      refine wp_return d_Text_look_73 rfl ?_
      first
      | (have e1 : vlT (tki a) (tva a) = (tva a).toInt32 := if_pos (Or.inl h19)
         have e2 : woT (tki a) (tva a) = (tva a).toInt32 := if_pos h53
         rw [e1, e2] at hq; exact hq)
      | (have e1 : vlT (tki a) (tva a) = (tva a).toInt32 := if_pos (Or.inl h19)
         have e2 : woT (tki a) (tva a) = -1 := if_neg h53
         rw [e1, e2] at hq; exact hq)
      | (have e1 : vlT (tki a) (tva a) = (tva a).toInt32 := if_pos (Or.inr h27)
         have e2 : woT (tki a) (tva a) = (tva a).toInt32 := if_pos h53
         rw [e1, e2] at hq; exact hq)
      | (have e1 : vlT (tki a) (tva a) = (tva a).toInt32 := if_pos (Or.inr h27)
         have e2 : woT (tki a) (tva a) = -1 := if_neg h53
         rw [e1, e2] at hq; exact hq)
      | (have e1 : vlT (tki a) (tva a) = 0 := if_neg (fun z => z.elim h19 h27)
         have e2 : woT (tki a) (tva a) = (tva a).toInt32 := if_pos h53
         rw [e1, e2] at hq; exact hq)
      | (have e1 : vlT (tki a) (tva a) = 0 := if_neg (fun z => z.elim h19 h27)
         have e2 : woT (tki a) (tva a) = -1 := if_neg h53
         rw [e1, e2] at hq; exact hq)
  · refine wp_aload_n 23 d_Text_look_22 rfl rfl ?_
    refine wp_getfield 26 7 9 d_Text_look_23 rfl fl_Text_42 rfl rfl ?_
    refine wp_iconst 27 5 d_Text_look_26 rfl (by decide) ?_
    refine wp_icmp_ne 43 30 d_Text_look_27 rfl (by decide) (fun h27 => ?_) (fun h27 => ?_)
    · refine wp_iconst 44 0 d_Text_look_43 rfl (by decide) ?_
      refine wp_putfield 47 7 10 _ d_Text_look_44 rfl fp_Text_45 rfl rfl (okP_int _) ?_
      dsimp only [List.set]
      refine wp_aload_n 48 d_Text_look_47 rfl rfl ?_
      refine wp_aload_n 49 d_Text_look_48 rfl rfl ?_
      refine wp_getfield 52 7 9 d_Text_look_49 rfl fl_Text_42 rfl rfl ?_
      refine wp_iconst 53 1 d_Text_look_52 rfl (by decide) ?_
      refine wp_icmp_ne 69 56 d_Text_look_53 rfl (by decide) (fun h53 => ?_) (fun h53 => ?_)
      · refine wp_iconst 70 (-1) d_Text_look_69 rfl (by decide) ?_
        refine wp_putfield 73 7 11 _ d_Text_look_70 rfl fp_Text_48 rfl rfl (okP_int _) ?_
        dsimp only [List.set]
        refine wp_return d_Text_look_73 rfl ?_
        first
        | (have e1 : vlT (tki a) (tva a) = (tva a).toInt32 := if_pos (Or.inl h19)
           have e2 : woT (tki a) (tva a) = (tva a).toInt32 := if_pos h53
           rw [e1, e2] at hq; exact hq)
        | (have e1 : vlT (tki a) (tva a) = (tva a).toInt32 := if_pos (Or.inl h19)
           have e2 : woT (tki a) (tva a) = -1 := if_neg h53
           rw [e1, e2] at hq; exact hq)
        | (have e1 : vlT (tki a) (tva a) = (tva a).toInt32 := if_pos (Or.inr h27)
           have e2 : woT (tki a) (tva a) = (tva a).toInt32 := if_pos h53
           rw [e1, e2] at hq; exact hq)
        | (have e1 : vlT (tki a) (tva a) = (tva a).toInt32 := if_pos (Or.inr h27)
           have e2 : woT (tki a) (tva a) = -1 := if_neg h53
           rw [e1, e2] at hq; exact hq)
        | (have e1 : vlT (tki a) (tva a) = 0 := if_neg (fun z => z.elim h19 h27)
           have e2 : woT (tki a) (tva a) = (tva a).toInt32 := if_pos h53
           rw [e1, e2] at hq; exact hq)
        | (have e1 : vlT (tki a) (tva a) = 0 := if_neg (fun z => z.elim h19 h27)
           have e2 : woT (tki a) (tva a) = -1 := if_neg h53
           rw [e1, e2] at hq; exact hq)
      · refine wp_aload_n 57 d_Text_look_56 rfl rfl ?_
        refine wp_getfield 60 7 4 d_Text_look_57 rfl fl_Text_26 rfl rfl ?_
        refine wp_aload_n 61 d_Text_look_60 rfl rfl ?_
        refine wp_getfield 64 7 8 d_Text_look_61 rfl fl_Text_39 rfl rfl ?_
        refine wp_laloadN 65 d_Text_look_64 rfl rfl rfl (by omega) ?_
        refine wp_l2i 66 d_Text_look_65 rfl ?_
        refine wp_goto 70 d_Text_look_66 (by decide) ?_
        refine wp_putfield 73 7 11 _ d_Text_look_70 rfl fp_Text_48 rfl rfl (okP_int _) ?_
        dsimp only [List.set]
        refine wp_return d_Text_look_73 rfl ?_
        first
        | (have e1 : vlT (tki a) (tva a) = (tva a).toInt32 := if_pos (Or.inl h19)
           have e2 : woT (tki a) (tva a) = (tva a).toInt32 := if_pos h53
           rw [e1, e2] at hq; exact hq)
        | (have e1 : vlT (tki a) (tva a) = (tva a).toInt32 := if_pos (Or.inl h19)
           have e2 : woT (tki a) (tva a) = -1 := if_neg h53
           rw [e1, e2] at hq; exact hq)
        | (have e1 : vlT (tki a) (tva a) = (tva a).toInt32 := if_pos (Or.inr h27)
           have e2 : woT (tki a) (tva a) = (tva a).toInt32 := if_pos h53
           rw [e1, e2] at hq; exact hq)
        | (have e1 : vlT (tki a) (tva a) = (tva a).toInt32 := if_pos (Or.inr h27)
           have e2 : woT (tki a) (tva a) = -1 := if_neg h53
           rw [e1, e2] at hq; exact hq)
        | (have e1 : vlT (tki a) (tva a) = 0 := if_neg (fun z => z.elim h19 h27)
           have e2 : woT (tki a) (tva a) = (tva a).toInt32 := if_pos h53
           rw [e1, e2] at hq; exact hq)
        | (have e1 : vlT (tki a) (tva a) = 0 := if_neg (fun z => z.elim h19 h27)
           have e2 : woT (tki a) (tva a) = -1 := if_neg h53
           rw [e1, e2] at hq; exact hq)
    · refine wp_aload_n 31 d_Text_look_30 rfl rfl ?_
      refine wp_getfield 34 7 4 d_Text_look_31 rfl fl_Text_26 rfl rfl ?_
      refine wp_aload_n 35 d_Text_look_34 rfl rfl ?_
      refine wp_getfield 38 7 8 d_Text_look_35 rfl fl_Text_39 rfl rfl ?_
      refine wp_laloadN 39 d_Text_look_38 rfl rfl rfl (by omega) ?_
      refine wp_l2i 40 d_Text_look_39 rfl ?_
      refine wp_goto 44 d_Text_look_40 (by decide) ?_
      refine wp_putfield 47 7 10 _ d_Text_look_44 rfl fp_Text_45 rfl rfl (okP_int _) ?_
      dsimp only [List.set]
      refine wp_aload_n 48 d_Text_look_47 rfl rfl ?_
      refine wp_aload_n 49 d_Text_look_48 rfl rfl ?_
      refine wp_getfield 52 7 9 d_Text_look_49 rfl fl_Text_42 rfl rfl ?_
      refine wp_iconst 53 1 d_Text_look_52 rfl (by decide) ?_
      refine wp_icmp_ne 69 56 d_Text_look_53 rfl (by decide) (fun h53 => ?_) (fun h53 => ?_)
      · refine wp_iconst 70 (-1) d_Text_look_69 rfl (by decide) ?_
        refine wp_putfield 73 7 11 _ d_Text_look_70 rfl fp_Text_48 rfl rfl (okP_int _) ?_
        dsimp only [List.set]
        refine wp_return d_Text_look_73 rfl ?_
        first
        | (have e1 : vlT (tki a) (tva a) = (tva a).toInt32 := if_pos (Or.inl h19)
           have e2 : woT (tki a) (tva a) = (tva a).toInt32 := if_pos h53
           rw [e1, e2] at hq; exact hq)
        | (have e1 : vlT (tki a) (tva a) = (tva a).toInt32 := if_pos (Or.inl h19)
           have e2 : woT (tki a) (tva a) = -1 := if_neg h53
           rw [e1, e2] at hq; exact hq)
        | (have e1 : vlT (tki a) (tva a) = (tva a).toInt32 := if_pos (Or.inr h27)
           have e2 : woT (tki a) (tva a) = (tva a).toInt32 := if_pos h53
           rw [e1, e2] at hq; exact hq)
        | (have e1 : vlT (tki a) (tva a) = (tva a).toInt32 := if_pos (Or.inr h27)
           have e2 : woT (tki a) (tva a) = -1 := if_neg h53
           rw [e1, e2] at hq; exact hq)
        | (have e1 : vlT (tki a) (tva a) = 0 := if_neg (fun z => z.elim h19 h27)
           have e2 : woT (tki a) (tva a) = (tva a).toInt32 := if_pos h53
           rw [e1, e2] at hq; exact hq)
        | (have e1 : vlT (tki a) (tva a) = 0 := if_neg (fun z => z.elim h19 h27)
           have e2 : woT (tki a) (tva a) = -1 := if_neg h53
           rw [e1, e2] at hq; exact hq)
      · refine wp_aload_n 57 d_Text_look_56 rfl rfl ?_
        refine wp_getfield 60 7 4 d_Text_look_57 rfl fl_Text_26 rfl rfl ?_
        refine wp_aload_n 61 d_Text_look_60 rfl rfl ?_
        refine wp_getfield 64 7 8 d_Text_look_61 rfl fl_Text_39 rfl rfl ?_
        refine wp_laloadN 65 d_Text_look_64 rfl rfl rfl (by omega) ?_
        refine wp_l2i 66 d_Text_look_65 rfl ?_
        refine wp_goto 70 d_Text_look_66 (by decide) ?_
        refine wp_putfield 73 7 11 _ d_Text_look_70 rfl fp_Text_48 rfl rfl (okP_int _) ?_
        dsimp only [List.set]
        refine wp_return d_Text_look_73 rfl ?_
        first
        | (have e1 : vlT (tki a) (tva a) = (tva a).toInt32 := if_pos (Or.inl h19)
           have e2 : woT (tki a) (tva a) = (tva a).toInt32 := if_pos h53
           rw [e1, e2] at hq; exact hq)
        | (have e1 : vlT (tki a) (tva a) = (tva a).toInt32 := if_pos (Or.inl h19)
           have e2 : woT (tki a) (tva a) = -1 := if_neg h53
           rw [e1, e2] at hq; exact hq)
        | (have e1 : vlT (tki a) (tva a) = (tva a).toInt32 := if_pos (Or.inr h27)
           have e2 : woT (tki a) (tva a) = (tva a).toInt32 := if_pos h53
           rw [e1, e2] at hq; exact hq)
        | (have e1 : vlT (tki a) (tva a) = (tva a).toInt32 := if_pos (Or.inr h27)
           have e2 : woT (tki a) (tva a) = -1 := if_neg h53
           rw [e1, e2] at hq; exact hq)
        | (have e1 : vlT (tki a) (tva a) = 0 := if_neg (fun z => z.elim h19 h27)
           have e2 : woT (tki a) (tva a) = (tva a).toInt32 := if_pos h53
           rw [e1, e2] at hq; exact hq)
        | (have e1 : vlT (tki a) (tva a) = 0 := if_neg (fun z => z.elim h19 h27)
           have e2 : woT (tki a) (tva a) = -1 := if_neg h53
           rw [e1, e2] at hq; exact hq)

set_option maxRecDepth 100000 in
set_option maxHeartbeats 4000000 in
theorem c_Text_next {tby tki tst : Nat → Int32} {tco tva : Nat → Int64} {tfe tle ttk tfk tfp : Int32} {tna : Int64} {nT a : Nat} (ha : a < nT) (hT : nT ≤ 901) (hq : Q none (hX tby tco tki tst tva tfe tle (nI nT) (nI (nx nT a)) (tki (nx nT a)) (vlT (tki (nx nT a)) (tva (nx nT a))) (woT (tki (nx nT a)) (tva (nx nT a))) ttk tna tfk tfp)) : Call Γ M_Text_next 2 0 0 [.ref 0] (hX tby tco tki tst tva tfe tle (nI nT) (nI a) (tki a) (vlT (tki a) (tva a)) (woT (tki a) (tva a)) ttk tna tfk tfp) Q := by
  refine call_intro (ls := [some (.ref 0)]) rfl rfl rfl ?_
  refine wp_aload_n 1 d_Text_next_0 rfl rfl ?_
  refine wp_getfield 4 7 8 d_Text_next_1 rfl fl_Text_39 rfl rfl ?_
  refine wp_iconst 5 1 d_Text_next_4 rfl (by decide) ?_
  refine wp_iadd 6 d_Text_next_5 rfl ?_
  rw [nI_1]
  refine wp_aload_n 7 d_Text_next_6 rfl rfl ?_
  refine wp_getfield 10 7 7 d_Text_next_7 rfl fl_Text_36 rfl rfl ?_
  refine wp_icmp_ge 27 13 d_Text_next_10 rfl (by decide) (fun h10 => ?_) (fun h10 => ?_)
  · refine wp_return d_Text_next_27 rfl ?_
    first | (have e : nx nT a = a + 1 := if_pos h9; rw [e] at hq; exact hq) | (have e : nx nT a = a := if_neg (by have := nI_leN h10 (by omega) (by omega); omega); rw [e] at hq; exact hq)
  · refine wp_aload_n 14 d_Text_next_13 rfl rfl ?_
    refine wp_dup 15 d_Text_next_14 rfl rfl ?_
    refine wp_getfield 18 7 8 d_Text_next_15 rfl fl_Text_39 rfl rfl ?_
    refine wp_iconst 19 1 d_Text_next_18 rfl (by decide) ?_
    refine wp_iadd 20 d_Text_next_19 rfl ?_
    rw [nI_1]
    refine wp_putfield 23 7 8 _ d_Text_next_20 rfl fp_Text_39 rfl rfl (okP_int _) ?_
    dsimp only [List.set]
    refine wp_aload_n 24 d_Text_next_23 rfl rfl ?_
    refine wp_V0 27 M_Text_look 1 d_Text_next_24 rfl mv_Text_look lk_Text_97 rfl rfl rfl rfl rfl ?_
    have h9 : a + 1 < nT := nI_nleN h10 (by omega) (by omega)
    refine c_Text_look h9 hT ?_
    refine kV ?_
    refine wp_return d_Text_next_27 rfl ?_
    first | (have e : nx nT a = a + 1 := if_pos h9; rw [e] at hq; exact hq) | (have e : nx nT a = a := if_neg (by have := nI_leN h10 (by omega) (by omega); omega); rw [e] at hq; exact hq)

set_option maxRecDepth 100000 in
set_option maxHeartbeats 4000000 in
theorem c_Text_atEnd {tby tki tst : Nat → Int32} {tco tva : Nat → Int64} {tfe tle tto tat tkd tvl two ttk tfk tfp : Int32} {tna : Int64} (hq : Q (some (.int (bP (tkd = 0)))) (hX tby tco tki tst tva tfe tle tto tat tkd tvl two ttk tna tfk tfp)) : Call Γ M_Text_atEnd 1 0 0 [.ref 0] (hX tby tco tki tst tva tfe tle tto tat tkd tvl two ttk tna tfk tfp) Q := by
  refine call_intro (ls := [some (.ref 0)]) rfl rfl rfl ?_
  refine wp_aload_n 1 d_Text_atEnd_0 rfl rfl ?_
  refine wp_getfield 4 7 9 d_Text_atEnd_1 rfl fl_Text_42 rfl rfl ?_
  refine wp_if_ne 11 7 d_Text_atEnd_4 rfl (by decide) (fun h4 => ?_) (fun h4 => ?_)
  · refine wp_iconst 12 0 d_Text_atEnd_11 rfl (by decide) ?_
    refine wp_zreturn d_Text_atEnd_12 rfl (by first | rfl | exact nbP _) ?_
    first | exact bq1 h4 hq | exact bq0 h4 hq
  · refine wp_iconst 8 1 d_Text_atEnd_7 rfl (by decide) ?_
    refine wp_goto 12 d_Text_atEnd_8 (by decide) ?_
    refine wp_zreturn d_Text_atEnd_12 rfl (by first | rfl | exact nbP _) ?_
    first | exact bq1 h4 hq | exact bq0 h4 hq

set_option maxRecDepth 100000 in
set_option maxHeartbeats 4000000 in
theorem c_Text_faultHere {tby tki tst : Nat → Int32} {tco tva : Nat → Int64} {tfe tle ttk tfk tfp : Int32} {tna : Int64} {k : Int32} {nT a : Nat} (ha : a < nT) (hT : nT ≤ 901) (hq : Q (some (.int 0)) (hX tby tco tki tst tva tfe tle (nI nT) (nI a) (tki a) (vlT (tki a) (tva a)) (woT (tki a) (tva a)) ttk tna (k) (tst a))) : Call Γ M_Text_faultHere 1 0 0 [.ref 0, .int k] (hX tby tco tki tst tva tfe tle (nI nT) (nI a) (tki a) (vlT (tki a) (tva a)) (woT (tki a) (tva a)) ttk tna tfk tfp) Q := by
  refine call_intro (ls := [some (.ref 0), some (.int k)]) rfl rfl rfl ?_
  refine wp_aload_n 1 d_Text_faultHere_0 rfl rfl ?_
  refine wp_iload_n 2 d_Text_faultHere_1 rfl rfl ?_
  refine wp_putfield 5 7 14 _ d_Text_faultHere_2 rfl fp_Text_58 rfl rfl (okP_int _) ?_
  dsimp only [List.set]
  refine wp_aload_n 6 d_Text_faultHere_5 rfl rfl ?_
  refine wp_aload_n 7 d_Text_faultHere_6 rfl rfl ?_
  refine wp_getfield 10 7 3 d_Text_faultHere_7 rfl fl_Text_23 rfl rfl ?_
  refine wp_aload_n 11 d_Text_faultHere_10 rfl rfl ?_
  refine wp_getfield 14 7 8 d_Text_faultHere_11 rfl fl_Text_39 rfl rfl ?_
  refine wp_ialoadN 15 d_Text_faultHere_14 rfl rfl rfl (by omega) ?_
  refine wp_putfield 18 7 15 _ d_Text_faultHere_15 rfl fp_Text_61 rfl rfl (okP_int _) ?_
  dsimp only [List.set]
  refine wp_iconst 19 0 d_Text_faultHere_18 rfl (by decide) ?_
  refine wp_zreturn d_Text_faultHere_19 rfl (by first | rfl | exact nbP _) ?_
  exact hq

set_option maxRecDepth 100000 in
set_option maxHeartbeats 4000000 in
theorem c_Text_cannotStand {tby tki tst : Nat → Int32} {tco tva : Nat → Int64} {tfe tle ttk tfk tfp : Int32} {tna : Int64} {nT a : Nat} (ha : a < nT) (hT : nT ≤ 901) (hq : Q (some (.int 0)) (hX tby tco tki tst tva tfe tle (nI nT) (nI a) (tki a) (vlT (tki a) (tva a)) (woT (tki a) (tva a)) ttk tna (csK (tki a)) (tst a))) : Call Γ M_Text_cannotStand 2 0 0 [.ref 0] (hX tby tco tki tst tva tfe tle (nI nT) (nI a) (tki a) (vlT (tki a) (tva a)) (woT (tki a) (tva a)) ttk tna tfk tfp) Q := by
  refine call_intro (ls := [some (.ref 0)]) rfl rfl rfl ?_
  refine wp_aload_n 1 d_Text_cannotStand_0 rfl rfl ?_
  refine wp_aload_n 2 d_Text_cannotStand_1 rfl rfl ?_
  refine wp_getfield 5 7 9 d_Text_cannotStand_2 rfl fl_Text_42 rfl rfl ?_
  refine wp_bipush 7 6 d_Text_cannotStand_5 rfl (by decide) ?_
  refine wp_icmp_ne 14 10 d_Text_cannotStand_7 rfl (by decide) (fun h7 => ?_) (fun h7 => ?_)
  · refine wp_iconst 15 2 d_Text_cannotStand_14 rfl (by decide) ?_
    refine wp_V1 18 M_Text_faultHere 1 d_Text_cannotStand_15 rfl mv_Text_faultHere lk_Text_121 rfl rfl rfl rfl rfl ?_
    refine c_Text_faultHere ha hT ?_
    refine kI ?_
    refine wp_zreturn d_Text_cannotStand_18 rfl (by first | rfl | exact nbP _) ?_
    first | (have e : csK (tki a) = 1 := if_pos h7; rw [e] at hq; exact hq) | (have e : csK (tki a) = 2 := if_neg h7; rw [e] at hq; exact hq)
  · refine wp_iconst 11 1 d_Text_cannotStand_10 rfl (by decide) ?_
    refine wp_goto 15 d_Text_cannotStand_11 (by decide) ?_
    refine wp_V1 18 M_Text_faultHere 1 d_Text_cannotStand_15 rfl mv_Text_faultHere lk_Text_121 rfl rfl rfl rfl rfl ?_
    refine c_Text_faultHere ha hT ?_
    refine kI ?_
    refine wp_zreturn d_Text_cannotStand_18 rfl (by first | rfl | exact nbP _) ?_
    first | (have e : csK (tki a) = 1 := if_pos h7; rw [e] at hq; exact hq) | (have e : csK (tki a) = 2 := if_neg h7; rw [e] at hq; exact hq)

set_option maxRecDepth 100000 in
set_option maxHeartbeats 4000000 in
theorem c_Text_takeSign {tby tki tst : Nat → Int32} {tco tva : Nat → Int64} {tfe tle ttk tfk tfp : Int32} {tna : Int64} {c : Int32} {nT a : Nat} (ha : a < nT) (hT : nT ≤ 901) (h1 : tki a = 5 → vlT (tki a) (tva a) = c → Q (some (.int 1)) (hX tby tco tki tst tva tfe tle (nI nT) (nI (nx nT a)) (tki (nx nT a)) (vlT (tki (nx nT a)) (tva (nx nT a))) (woT (tki (nx nT a)) (tva (nx nT a))) ttk tna tfk tfp)) (h0 : ¬ (tki a = 5 ∧ vlT (tki a) (tva a) = c) → Q (some (.int 0)) (hX tby tco tki tst tva tfe tle (nI nT) (nI a) (tki a) (vlT (tki a) (tva a)) (woT (tki a) (tva a)) ttk tna (csK (tki a)) (tst a))) : Call Γ M_Text_takeSign 3 0 0 [.ref 0, .int c] (hX tby tco tki tst tva tfe tle (nI nT) (nI a) (tki a) (vlT (tki a) (tva a)) (woT (tki a) (tva a)) ttk tna tfk tfp) Q := by
  refine call_intro (ls := [some (.ref 0), some (.int c)]) rfl rfl rfl ?_
  refine wp_aload_n 1 d_Text_takeSign_0 rfl rfl ?_
  refine wp_getfield 4 7 9 d_Text_takeSign_1 rfl fl_Text_42 rfl rfl ?_
  refine wp_iconst 5 5 d_Text_takeSign_4 rfl (by decide) ?_
  refine wp_icmp_ne 16 8 d_Text_takeSign_5 rfl (by decide) (fun h5 => ?_) (fun h5 => ?_)
  · refine wp_aload_n 17 d_Text_takeSign_16 rfl rfl ?_
    refine wp_V0 20 M_Text_cannotStand 2 d_Text_takeSign_17 rfl mv_Text_cannotStand lk_Text_124 rfl rfl rfl rfl rfl ?_
    refine c_Text_cannotStand ha hT ?_
    refine kI ?_
    refine wp_zreturn d_Text_takeSign_20 rfl (by first | rfl | exact nbP _) ?_
    first | exact h0 (fun z => h13 z.2) | exact h0 (fun z => h5 z.1)
  · refine wp_aload_n 9 d_Text_takeSign_8 rfl rfl ?_
    refine wp_getfield 12 7 10 d_Text_takeSign_9 rfl fl_Text_45 rfl rfl ?_
    refine wp_iload_n 13 d_Text_takeSign_12 rfl rfl ?_
    refine wp_icmp_eq 21 16 d_Text_takeSign_13 rfl (by decide) (fun h13 => ?_) (fun h13 => ?_)
    · refine wp_aload_n 22 d_Text_takeSign_21 rfl rfl ?_
      refine wp_V0 25 M_Text_next 2 d_Text_takeSign_22 rfl mv_Text_next lk_Text_128 rfl rfl rfl rfl rfl ?_
      refine c_Text_next ha hT ?_
      refine kV ?_
      refine wp_iconst 26 1 d_Text_takeSign_25 rfl (by decide) ?_
      refine wp_zreturn d_Text_takeSign_26 rfl (by first | rfl | exact nbP _) ?_
      exact h1 h5 h13
    · refine wp_aload_n 17 d_Text_takeSign_16 rfl rfl ?_
      refine wp_V0 20 M_Text_cannotStand 2 d_Text_takeSign_17 rfl mv_Text_cannotStand lk_Text_124 rfl rfl rfl rfl rfl ?_
      refine c_Text_cannotStand ha hT ?_
      refine kI ?_
      refine wp_zreturn d_Text_takeSign_20 rfl (by first | rfl | exact nbP _) ?_
      first | exact h0 (fun z => h13 z.2) | exact h0 (fun z => h5 z.1)

set_option maxRecDepth 100000 in
set_option maxHeartbeats 4000000 in
theorem c_Text_takeNumber {tby tki tst : Nat → Int32} {tco tva : Nat → Int64} {tfe tle ttk tfk tfp : Int32} {tna : Int64} {x y : Int32} {nT a : Nat} (ha : a < nT) (hT : nT ≤ 901) (h1 : tki a = 4 → x ≤ vlT (tki a) (tva a) → vlT (tki a) (tva a) ≤ y → Q (some (.int 1)) (hX tby tco tki tst tva tfe tle (nI nT) (nI (nx nT a)) (tki (nx nT a)) (vlT (tki (nx nT a)) (tva (nx nT a))) (woT (tki (nx nT a)) (tva (nx nT a))) (vlT (tki a) (tva a)) tna tfk tfp)) (h4 : tki a = 4 → ¬ (x ≤ vlT (tki a) (tva a) ∧ vlT (tki a) (tva a) ≤ y) → Q (some (.int 0)) (hX tby tco tki tst tva tfe tle (nI nT) (nI a) (tki a) (vlT (tki a) (tva a)) (woT (tki a) (tva a)) ttk tna (4) (tst a))) (h0 : ¬ tki a = 4 → Q (some (.int 0)) (hX tby tco tki tst tva tfe tle (nI nT) (nI a) (tki a) (vlT (tki a) (tva a)) (woT (tki a) (tva a)) ttk tna (csK (tki a)) (tst a))) : Call Γ M_Text_takeNumber 3 0 0 [.ref 0, .int x, .int y] (hX tby tco tki tst tva tfe tle (nI nT) (nI a) (tki a) (vlT (tki a) (tva a)) (woT (tki a) (tva a)) ttk tna tfk tfp) Q := by
  refine call_intro (ls := [some (.ref 0), some (.int x), some (.int y)]) rfl rfl rfl ?_
  refine wp_aload_n 1 d_Text_takeNumber_0 rfl rfl ?_
  refine wp_getfield 4 7 9 d_Text_takeNumber_1 rfl fl_Text_42 rfl rfl ?_
  refine wp_iconst 5 4 d_Text_takeNumber_4 rfl (by decide) ?_
  refine wp_icmp_eq 13 8 d_Text_takeNumber_5 rfl (by decide) (fun h5 => ?_) (fun h5 => ?_)
  · refine wp_aload_n 14 d_Text_takeNumber_13 rfl rfl ?_
    refine wp_getfield 17 7 10 d_Text_takeNumber_14 rfl fl_Text_45 rfl rfl ?_
    refine wp_iload_n 18 d_Text_takeNumber_17 rfl rfl ?_
    refine wp_icmp_lt 29 21 d_Text_takeNumber_18 rfl (by decide) (fun h18 => ?_) (fun h18 => ?_)
    · refine wp_aload_n 30 d_Text_takeNumber_29 rfl rfl ?_
      refine wp_iconst 31 4 d_Text_takeNumber_30 rfl (by decide) ?_
      refine wp_V1 34 M_Text_faultHere 1 d_Text_takeNumber_31 rfl mv_Text_faultHere lk_Text_121 rfl rfl rfl rfl rfl ?_
      refine c_Text_faultHere ha hT ?_
      refine kI ?_
      refine wp_zreturn d_Text_takeNumber_34 rfl (by first | rfl | exact nbP _) ?_
      first | exact h4 h5 (fun z => h26 z.2) | exact h4 h5 (fun z => absurd h18 (Int32.not_lt.mpr z.1))
    · refine wp_aload_n 22 d_Text_takeNumber_21 rfl rfl ?_
      refine wp_getfield 25 7 10 d_Text_takeNumber_22 rfl fl_Text_45 rfl rfl ?_
      refine wp_iload_n 26 d_Text_takeNumber_25 rfl rfl ?_
      refine wp_icmp_le 35 29 d_Text_takeNumber_26 rfl (by decide) (fun h26 => ?_) (fun h26 => ?_)
      · refine wp_aload_n 36 d_Text_takeNumber_35 rfl rfl ?_
        refine wp_aload_n 37 d_Text_takeNumber_36 rfl rfl ?_
        refine wp_getfield 40 7 10 d_Text_takeNumber_37 rfl fl_Text_45 rfl rfl ?_
        refine wp_putfield 43 7 12 _ d_Text_takeNumber_40 rfl fp_Text_51 rfl rfl (okP_int _) ?_
        dsimp only [List.set]
        refine wp_aload_n 44 d_Text_takeNumber_43 rfl rfl ?_
        refine wp_V0 47 M_Text_next 2 d_Text_takeNumber_44 rfl mv_Text_next lk_Text_128 rfl rfl rfl rfl rfl ?_
        refine c_Text_next ha hT ?_
        refine kV ?_
        refine wp_iconst 48 1 d_Text_takeNumber_47 rfl (by decide) ?_
        refine wp_zreturn d_Text_takeNumber_48 rfl (by first | rfl | exact nbP _) ?_
        exact h1 h5 (Int32.not_lt.mp h18) h26
      · refine wp_aload_n 30 d_Text_takeNumber_29 rfl rfl ?_
        refine wp_iconst 31 4 d_Text_takeNumber_30 rfl (by decide) ?_
        refine wp_V1 34 M_Text_faultHere 1 d_Text_takeNumber_31 rfl mv_Text_faultHere lk_Text_121 rfl rfl rfl rfl rfl ?_
        refine c_Text_faultHere ha hT ?_
        refine kI ?_
        refine wp_zreturn d_Text_takeNumber_34 rfl (by first | rfl | exact nbP _) ?_
        first | exact h4 h5 (fun z => h26 z.2) | exact h4 h5 (fun z => absurd h18 (Int32.not_lt.mpr z.1))
  · refine wp_aload_n 9 d_Text_takeNumber_8 rfl rfl ?_
    refine wp_V0 12 M_Text_cannotStand 2 d_Text_takeNumber_9 rfl mv_Text_cannotStand lk_Text_124 rfl rfl rfl rfl rfl ?_
    refine c_Text_cannotStand ha hT ?_
    refine kI ?_
    refine wp_zreturn d_Text_takeNumber_12 rfl (by first | rfl | exact nbP _) ?_
    exact h0 h5

set_option maxRecDepth 100000 in
set_option maxHeartbeats 4000000 in
theorem c_Text_nameHere {tby tki tst : Nat → Int32} {tco tva : Nat → Int64} {tfe tle ttk tfk tfp : Int32} {tna : Int64} {nT a : Nat} (ha : a < nT) (hT : nT ≤ 901) (h1 : tki a = 2 → Q (some (.int 1)) (hX tby tco tki tst tva tfe tle (nI nT) (nI a) (tki a) (vlT (tki a) (tva a)) (woT (tki a) (tva a)) ttk (tva a) tfk tfp)) (h0 : ¬ tki a = 2 → Q (some (.int 0)) (hX tby tco tki tst tva tfe tle (nI nT) (nI a) (tki a) (vlT (tki a) (tva a)) (woT (tki a) (tva a)) ttk tna (csK (tki a)) (tst a))) : Call Γ M_Text_nameHere 3 0 0 [.ref 0] (hX tby tco tki tst tva tfe tle (nI nT) (nI a) (tki a) (vlT (tki a) (tva a)) (woT (tki a) (tva a)) ttk tna tfk tfp) Q := by
  refine call_intro (ls := [some (.ref 0)]) rfl rfl rfl ?_
  refine wp_aload_n 1 d_Text_nameHere_0 rfl rfl ?_
  refine wp_getfield 4 7 9 d_Text_nameHere_1 rfl fl_Text_42 rfl rfl ?_
  refine wp_iconst 5 2 d_Text_nameHere_4 rfl (by decide) ?_
  refine wp_icmp_eq 13 8 d_Text_nameHere_5 rfl (by decide) (fun h5 => ?_) (fun h5 => ?_)
  · refine wp_aload_n 14 d_Text_nameHere_13 rfl rfl ?_
    refine wp_aload_n 15 d_Text_nameHere_14 rfl rfl ?_
    refine wp_getfield 18 7 4 d_Text_nameHere_15 rfl fl_Text_26 rfl rfl ?_
    refine wp_aload_n 19 d_Text_nameHere_18 rfl rfl ?_
    refine wp_getfield 22 7 8 d_Text_nameHere_19 rfl fl_Text_39 rfl rfl ?_
    refine wp_laloadN 23 d_Text_nameHere_22 rfl rfl rfl (by omega) ?_
    refine wp_putfield 26 7 13 _ d_Text_nameHere_23 rfl fp_Text_54 rfl rfl (okP_long _) ?_
    dsimp only [List.set]
    refine wp_iconst 27 1 d_Text_nameHere_26 rfl (by decide) ?_
    refine wp_zreturn d_Text_nameHere_27 rfl (by first | rfl | exact nbP _) ?_
    exact h1 h5
  · refine wp_aload_n 9 d_Text_nameHere_8 rfl rfl ?_
    refine wp_V0 12 M_Text_cannotStand 2 d_Text_nameHere_9 rfl mv_Text_cannotStand lk_Text_124 rfl rfl rfl rfl rfl ?_
    refine c_Text_cannotStand ha hT ?_
    refine kI ?_
    refine wp_zreturn d_Text_nameHere_12 rfl (by first | rfl | exact nbP _) ?_
    exact h0 h5

set_option maxRecDepth 100000 in
set_option maxHeartbeats 4000000 in
theorem c_Text_addToken {tby tki tst : Nat → Int32} {tco tva : Nat → Int64} {tfe tle tat tkd tvl two ttk tfk tfp : Int32} {tna : Int64} {nT : Nat} {k s : Int32} {v : Int64} (hT : nT < 901) (hq : Q none (hX tby tco (upd tki nT k) (upd tst nT s) (vp_updL tva nT v) tfe tle (nI (nT + 1)) tat tkd tvl two ttk tna tfk tfp)) : Call Γ M_Text_addToken 1 0 0 [.ref 0, .int k, .int s, .long v] (hX tby tco tki tst tva tfe tle (nI nT) tat tkd tvl two ttk tna tfk tfp) Q := by
  refine call_intro (ls := [some (.ref 0), some (.int k), some (.int s), some (.long v), none]) rfl rfl rfl ?_
  refine wp_aload_n 1 d_Text_addToken_0 rfl rfl ?_
  refine wp_getfield 4 7 7 d_Text_addToken_1 rfl fl_Text_36 rfl rfl ?_
  refine wp_sipush 7 901 d_Text_addToken_4 rfl (by decide) ?_
  refine wp_icmp_ge 50 10 d_Text_addToken_7 rfl (by decide) (fun h7 => ?_) (fun h7 => ?_)
  · exact absurd (nI_leN (b := 901) h7 (by omega) (by omega)) (by omega)
  · refine wp_aload_n 11 d_Text_addToken_10 rfl rfl ?_
    refine wp_getfield 14 7 2 d_Text_addToken_11 rfl fl_Text_19 rfl rfl ?_
    refine wp_aload_n 15 d_Text_addToken_14 rfl rfl ?_
    refine wp_getfield 18 7 7 d_Text_addToken_15 rfl fl_Text_36 rfl rfl ?_
    refine wp_iload_n 19 d_Text_addToken_18 rfl rfl ?_
    refine wp_iastoreN 20 d_Text_addToken_19 rfl rfl rfl hT ?_
    dsimp only [List.set]
    refine wp_aload_n 21 d_Text_addToken_20 rfl rfl ?_
    refine wp_getfield 24 7 3 d_Text_addToken_21 rfl fl_Text_23 rfl rfl ?_
    refine wp_aload_n 25 d_Text_addToken_24 rfl rfl ?_
    refine wp_getfield 28 7 7 d_Text_addToken_25 rfl fl_Text_36 rfl rfl ?_
    refine wp_iload_n 29 d_Text_addToken_28 rfl rfl ?_
    refine wp_iastoreN 30 d_Text_addToken_29 rfl rfl rfl hT ?_
    dsimp only [List.set]
    refine wp_aload_n 31 d_Text_addToken_30 rfl rfl ?_
    refine wp_getfield 34 7 4 d_Text_addToken_31 rfl fl_Text_26 rfl rfl ?_
    refine wp_aload_n 35 d_Text_addToken_34 rfl rfl ?_
    refine wp_getfield 38 7 7 d_Text_addToken_35 rfl fl_Text_36 rfl rfl ?_
    refine wp_lload_n 39 d_Text_addToken_38 rfl rfl ?_
    refine wp_lastoreN 40 d_Text_addToken_39 rfl rfl rfl hT ?_
    dsimp only [List.set]
    refine wp_aload_n 41 d_Text_addToken_40 rfl rfl ?_
    refine wp_dup 42 d_Text_addToken_41 rfl rfl ?_
    refine wp_getfield 45 7 7 d_Text_addToken_42 rfl fl_Text_36 rfl rfl ?_
    refine wp_iconst 46 1 d_Text_addToken_45 rfl (by decide) ?_
    refine wp_iadd 47 d_Text_addToken_46 rfl ?_
    refine wp_putfield 50 7 7 _ d_Text_addToken_47 rfl fp_Text_36 rfl rfl (okP_int _) ?_
    dsimp only [List.set]
    refine wp_return d_Text_addToken_50 rfl ?_
    rw [nI_1]; exact hq

set_option maxRecDepth 100000 in
set_option maxHeartbeats 4000000 in
theorem l_Text_wordOf_2 {tby tki tst : Nat → Int32} {tco tva : Nat → Int64} {tfe tle tto tat tkd tvl two ttk tfk tfp : Int32} {tna : Int64} {c : Int64} : ∀ (r i : Nat) , i + r = 24 → Q (some (.int (ffind (fun j => tco j = c) i r))) (hX tby tco tki tst tva tfe tle tto tat tkd tvl two ttk tna tfk tfp) → WP Γ M_Text_wordOf 1 0 0 (hX tby tco tki tst tva tfe tle tto tat tkd tvl two ttk tna tfk tfp) 2 [some (.ref 0), some (.long c), none, some (.int (nI i))] [] Q := by
  intro r
  induction r with
  | zero =>
    intro i  hi hinv
    refine wp_iload_n 3 d_Text_wordOf_2 rfl rfl ?_
    refine wp_bipush 5 24 d_Text_wordOf_3 rfl (by decide) ?_
    refine wp_icmp_ge 27 8 d_Text_wordOf_5 rfl (by decide) (fun h5 => ?_) (fun h5 => ?_)
    · refine wp_iconst 28 (-1) d_Text_wordOf_27 rfl (by decide) ?_
      refine wp_ireturn d_Text_wordOf_28 rfl ?_
      simpa only [ffind] using hinv
    · exact absurd (show nI 24 ≤ nI i from (nI_leI (by omega) (by omega)).mpr (by omega)) h5
  | succ r ih =>
    intro i  hi hinv
    refine wp_iload_n 3 d_Text_wordOf_2 rfl rfl ?_
    refine wp_bipush 5 24 d_Text_wordOf_3 rfl (by decide) ?_
    refine wp_icmp_ge 27 8 d_Text_wordOf_5 rfl (by decide) (fun h5 => ?_) (fun h5 => ?_)
    · exact absurd (nI_leN (b := 24) h5 (by omega) (by omega)) (by omega)
    · refine wp_aload_n 9 d_Text_wordOf_8 rfl rfl ?_
      refine wp_getfield 12 7 1 d_Text_wordOf_9 rfl fl_Text_15 rfl rfl ?_
      refine wp_iload_n 13 d_Text_wordOf_12 rfl rfl ?_
      refine wp_laloadN 14 d_Text_wordOf_13 rfl rfl rfl (by omega) ?_
      refine wp_lload_n 15 d_Text_wordOf_14 rfl rfl ?_
      refine wp_lcmp 16 d_Text_wordOf_15 rfl ?_
      refine wp_if_ne 21 19 d_Text_wordOf_16 rfl (by decide) (fun h16 => ?_) (fun h16 => ?_)
      · first | refine wp_iincN_3 24 d_Text_wordOf_21 rfl rfl rfl ?_ | refine wp_iinc_3 24 1 d_Text_wordOf_21 rfl (by decide) rfl rfl ?_
        refine wp_goto 2 d_Text_wordOf_24 (by decide) ?_
        refine ih (i + 1) (by omega) ?_
        simpa only [ffind, if_neg (lc_n h16)] using hinv
      · refine wp_iload_n 20 d_Text_wordOf_19 rfl rfl ?_
        refine wp_ireturn d_Text_wordOf_20 rfl ?_
        simpa only [ffind, if_pos (lc_0 h16)] using hinv

set_option maxRecDepth 100000 in
set_option maxHeartbeats 4000000 in
theorem c_Text_wordOf {tby tki tst : Nat → Int32} {tco tva : Nat → Int64} {tfe tle tto tat tkd tvl two ttk tfk tfp : Int32} {tna : Int64} {c : Int64} (hq : Q (some (.int (ffind (fun j => tco j = c) 0 24))) (hX tby tco tki tst tva tfe tle tto tat tkd tvl two ttk tna tfk tfp)) : Call Γ M_Text_wordOf 1 0 0 [.ref 0, .long c] (hX tby tco tki tst tva tfe tle tto tat tkd tvl two ttk tna tfk tfp) Q := by
  refine call_intro (ls := [some (.ref 0), some (.long c), none, none]) rfl rfl rfl ?_
  refine wp_iconst 1 0 d_Text_wordOf_0 rfl (by decide) ?_
  refine wp_istore_3 2 d_Text_wordOf_1 rfl rfl rfl ?_
  exact l_Text_wordOf_2 24 0 rfl hq

end T27
