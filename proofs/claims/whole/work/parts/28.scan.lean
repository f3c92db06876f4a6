/-! ===== Text: scanning ===== -/
theorem nI_ltN {a b : Nat} (h : nI a < nI b) (ha : a < 2 ^ 31) (hb : b < 2 ^ 31) : a < b := (nI_ltI ha hb).mp h
theorem nI_nltN {a b : Nat} (h : ¬ nI a < nI b) (ha : a < 2 ^ 31) (hb : b < 2 ^ 31) : b ≤ a := by
  have := nI_ltI (a := a) (b := b) ha hb
  rw [this] at h; omega
/-- how many signs from place i on, at most n, are of a kind -/
def runL (P : Int32 → Prop) [DecidablePred P] (b : Nat → Int32) : Nat → Nat → Nat
  | 0, _ => 0
  | n + 1, i => if P (b i) then 1 + runL P b n (i + 1) else 0
def wcF (b : Nat → Int32) (p : Nat) : Nat → Int64
  | 0 => 0
  | k + 1 => if k < 8 then wiL (wcF b p k) (b (p + k)) else wcF b p k
def ncF (b : Nat → Int32) (p : Nat) : Nat → Int32
  | 0 => 0
  | k + 1 => if k < 4 then ncF b p k * 10 + (b (p + k) - 48) else ncF b p k
def woF (co : Nat → Int64) (c : Int64) : Int32 := ffind (fun j => co j = c) 0 24
/-- a token: its kind, its start, its value -/
abbrev Tok : Type := Int32 × Int32 × Int64
def wTok (co : Nat → Int64) (b : Nat → Int32) (p K : Nat) : Tok := if 8 < K then (3, nI p, 0) else if woF co (wcF b p K) = -1 then (2, nI p, wcF b p K) else (1, nI p, (woF co (wcF b p K)).toInt64)
def nTok (b : Nat → Int32) (p K : Nat) : Tok := (if K ≤ 4 then 4 else 6, nI p, (ncF b p K).toInt64)
def tokAt (co : Nat → Int64) (b : Nat → Int32) (len p : Nat) : Tok × Nat :=
  if isLe (b p) then (wTok co b p (runL isLe b (len - p) p), p + runL isLe b (len - p) p)
  else if isDi (b p) then (nTok b p (runL isDi b (len - p) p), p + runL isDi b (len - p) p)
  else ((if isSi (b p) then 5 else 6, nI p, (b p).toInt64), p + 1)
theorem nI_subN {a b : Nat} (h : b ≤ a) : nI a - nI b = nI (a - b) := pk_sub h
section T28
variable {Γ : Gm} {Q : Option Value → LH → Prop}
set_option maxRecDepth 100000 in
set_option maxHeartbeats 4000000 in
theorem l_Text_scanWord_5 {tby tki tst : Nat → Int32} {tco tva : Nat → Int64} {tfe tat tkd tvl two ttk tfk tfp : Int32} {tna : Int64} {nT len p : Nat} {QW : Nat → Prop} (hlen : len ≤ 900) (hp : p ≤ len) (hx : ∀ K, p + K ≤ len → QW K → WP Γ M_Text_scanWord 2 0 0 (hX tby tco tki tst tva tfe (nI len) (nI nT) tat tkd tvl two ttk tna tfk tfp) 54 [some (.ref 0), some (.int (nI p)), some (.long (wcF tby p K)), none, some (.int (nI (p + K))), none] [] Q) : ∀ (r i : Nat) , i + r = len - p → QW (i + runL isLe tby r (p + i)) → WP Γ M_Text_scanWord 2 0 0 (hX tby tco tki tst tva tfe (nI len) (nI nT) tat tkd tvl two ttk tna tfk tfp) 5 [some (.ref 0), some (.int (nI p)), some (.long (wcF tby p i)), none, some (.int (nI (p + i))), none] [] Q := by
  intro r
  induction r with
  | zero =>
    intro i  hi hinv
    refine wp_iload 7 d_Text_scanWord_5 rfl rfl ?_
    refine wp_aload_n 8 d_Text_scanWord_7 rfl rfl ?_
    refine wp_getfield 11 7 6 d_Text_scanWord_8 rfl fl_Text_33 rfl rfl ?_
    refine wp_icmp_ge 54 14 d_Text_scanWord_11 rfl (by decide) (fun h11 => ?_) (fun h11 => ?_)
    · exact hx i (by omega) hinv
    · exact absurd ((nI_leI (by omega) (by omega)).mpr (by omega)) h11
  | succ r ih =>
    intro i  hi hinv
    refine wp_iload 7 d_Text_scanWord_5 rfl rfl ?_
    refine wp_aload_n 8 d_Text_scanWord_7 rfl rfl ?_
    refine wp_getfield 11 7 6 d_Text_scanWord_8 rfl fl_Text_33 rfl rfl ?_
    refine wp_icmp_ge 54 14 d_Text_scanWord_11 rfl (by decide) (fun h11 => ?_) (fun h11 => ?_)
    · exact absurd (nI_leN h11 (by omega) (by omega)) (by omega)
    · refine wp_aload_n 15 d_Text_scanWord_14 rfl rfl ?_
      refine wp_getfield 18 7 0 d_Text_scanWord_15 rfl fl_Text_9 rfl rfl ?_
      refine wp_iload 20 d_Text_scanWord_18 rfl rfl ?_
      refine wp_baloadN 21 d_Text_scanWord_20 rfl rfl rfl (by omega) ?_
      refine wp_S1 24 M_Text_isLetter 1 d_Text_scanWord_21 rfl ms_Text_isLetter lk_Text_102 rfl rfl ?_
      refine c_Text_isLetter ?_
      refine kI ?_
      (first | refine wp_ifP_eq 54 27 d_Text_scanWord_24 rfl (by decide) (fun h24 => ?_) (fun h24 => ?_) | refine wp_if_eq 54 27 d_Text_scanWord_24 rfl (by decide) (fun h24 => ?_) (fun h24 => ?_))
      · refine hx i (by omega) ?_
        simpa only [runL, if_neg h24, Nat.add_zero] using hinv
      · refine wp_iload 29 d_Text_scanWord_27 rfl rfl ?_
        refine wp_iload_n 30 d_Text_scanWord_29 rfl rfl ?_
        refine wp_isub 31 d_Text_scanWord_30 rfl ?_
        refine wp_bipush 33 8 d_Text_scanWord_31 rfl (by decide) ?_
        refine wp_icmp_ge 48 36 d_Text_scanWord_33 rfl (by decide) (fun h33 => ?_) (fun h33 => ?_)
        · first | refine wp_iincN_4 51 d_Text_scanWord_48 rfl rfl rfl ?_ | refine wp_iinc_4 51 1 d_Text_scanWord_48 rfl (by decide) rfl rfl ?_
          refine wp_goto 5 d_Text_scanWord_51 (by decide) ?_
          have e3 : i + runL isLe tby (r + 1) (p + i) = (i + 1) + runL isLe tby r (p + (i + 1)) := by simp only [runL, if_pos h24, Nat.add_assoc]
          rw [e3] at hinv
          have h9 := ih (i + 1) (by omega) hinv
          first
          | (have e4 : wcF tby p (i + 1) = wcF tby p i := if_neg (by have := nI_leN (b := 8) (a := i) (by rw [show nI i = nI (p + i) - nI p from by rw [nI_subN (by omega)]; congr 1; omega]; exact h33) (by omega) (by omega); omega)
             rw [e4] at h9; exact h9)
          | (have e4 : wcF tby p (i + 1) = wiL (wcF tby p i) (tby (p + i)) := if_pos (nI_nleN (b := 8) (a := i) (by rw [show nI i = nI (p + i) - nI p from by rw [nI_subN (by omega)]; congr 1; omega]; exact h33) (by omega) (by omega))
             rw [e4] at h9; exact h9)
        · refine wp_lload_n 37 d_Text_scanWord_36 rfl rfl ?_
          refine wp_aload_n 38 d_Text_scanWord_37 rfl rfl ?_
          refine wp_getfield 41 7 0 d_Text_scanWord_38 rfl fl_Text_9 rfl rfl ?_
          refine wp_iload 43 d_Text_scanWord_41 rfl rfl ?_
          refine wp_baloadN 44 d_Text_scanWord_43 rfl rfl rfl (by omega) ?_
          refine wp_S2 47 M_Text_withLetter 1 d_Text_scanWord_44 rfl ms_Text_withLetter lk_Text_75 rfl rfl ?_
          refine c_Text_withLetter ?_
          refine kL ?_
          refine wp_lstore_2 48 d_Text_scanWord_47 rfl rfl rfl ?_
          first | refine wp_iincN_4 51 d_Text_scanWord_48 rfl rfl rfl ?_ | refine wp_iinc_4 51 1 d_Text_scanWord_48 rfl (by decide) rfl rfl ?_
          refine wp_goto 5 d_Text_scanWord_51 (by decide) ?_
          have e3 : i + runL isLe tby (r + 1) (p + i) = (i + 1) + runL isLe tby r (p + (i + 1)) := by simp only [runL, if_pos h24, Nat.add_assoc]
          rw [e3] at hinv
          have h9 := ih (i + 1) (by omega) hinv
          first
          | (have e4 : wcF tby p (i + 1) = wcF tby p i := if_neg (by have := nI_leN (b := 8) (a := i) (by rw [show nI i = nI (p + i) - nI p from by rw [nI_subN (by omega)]; congr 1; omega]; exact h33) (by omega) (by omega); omega)
             rw [e4] at h9; exact h9)
          | (have e4 : wcF tby p (i + 1) = wiL (wcF tby p i) (tby (p + i)) := if_pos (nI_nleN (b := 8) (a := i) (by rw [show nI i = nI (p + i) - nI p from by rw [nI_subN (by omega)]; congr 1; omega]; exact h33) (by omega) (by omega))
             rw [e4] at h9; exact h9)

set_option maxRecDepth 100000 in
set_option maxHeartbeats 4000000 in
theorem c_Text_scanWord {tby tki tst : Nat → Int32} {tco tva : Nat → Int64} {tfe tat tkd tvl two ttk tfk tfp : Int32} {tna : Int64} {nT len p : Nat} (hT : nT < 901) (hlen : len ≤ 900) (hp : p ≤ len) (hq : Q (some (.int (nI (p + runL isLe tby (len - p) p)))) (hX tby tco (upd tki nT (wTok tco tby p (runL isLe tby (len - p) p)).1) (upd tst nT (wTok tco tby p (runL isLe tby (len - p) p)).2.1) (vp_updL tva nT (wTok tco tby p (runL isLe tby (len - p) p)).2.2) tfe (nI len) (nI (nT + 1)) tat tkd tvl two ttk tna tfk tfp)) : Call Γ M_Text_scanWord 2 0 0 [.ref 0, .int (nI p)] (hX tby tco tki tst tva tfe (nI len) (nI nT) tat tkd tvl two ttk tna tfk tfp) Q := by
  refine call_intro (ls := [some (.ref 0), some (.int (nI p)), none, none, none, none]) rfl rfl rfl ?_
  refine wp_lconst 1 0 d_Text_scanWord_0 rfl (by decide) ?_
  refine wp_lstore_2 2 d_Text_scanWord_1 rfl rfl rfl ?_
  refine wp_iload_n 3 d_Text_scanWord_2 rfl rfl ?_
  refine wp_istore_4 5 d_Text_scanWord_3 rfl rfl rfl ?_
  refine l_Text_scanWord_5 (QW := fun K => Q (some (.int (nI (p + K)))) (hX tby tco (upd tki nT (wTok tco tby p K).1) (upd tst nT (wTok tco tby p K).2.1) (vp_updL tva nT (wTok tco tby p K).2.2) tfe (nI len) (nI (nT + 1)) tat tkd tvl two ttk tna tfk tfp)) hlen hp (fun K hK hW => ?_) (len - p) 0 (by omega) (by rw [Nat.zero_add]; exact hq)
  refine wp_aload_n 55 d_Text_scanWord_54 rfl rfl ?_
  refine wp_lload_n 56 d_Text_scanWord_55 rfl rfl ?_
  refine wp_V1 59 M_Text_wordOf 1 d_Text_scanWord_56 rfl mv_Text_wordOf lk_Text_117 rfl rfl rfl rfl rfl ?_
  refine c_Text_wordOf ?_
  show Kid _ _ _ _ _ _ _ _ _ (some (.int (woF tco (wcF tby p K)))) _
  refine kI ?_
  refine wp_istore_5 61 d_Text_scanWord_59 rfl rfl rfl ?_
  have e8 : nI (p + K) - nI p = nI K := by rw [nI_subN (by omega)]; congr 1; omega
  refine wp_iload 63 d_Text_scanWord_61 rfl rfl ?_
  refine wp_iload_n 64 d_Text_scanWord_63 rfl rfl ?_
  refine wp_isub 65 d_Text_scanWord_64 rfl ?_
  rw [e8]
  refine wp_bipush 67 8 d_Text_scanWord_65 rfl (by decide) ?_
  refine wp_icmp_le 80 70 d_Text_scanWord_67 rfl (by decide) (fun h67 => ?_) (fun h67 => ?_)
  · refine wp_iload 82 d_Text_scanWord_80 rfl rfl ?_
    refine wp_iconst 83 (-1) d_Text_scanWord_82 rfl (by decide) ?_
    refine wp_icmp_eq 98 86 d_Text_scanWord_83 rfl (by decide) (fun h83 => ?_) (fun h83 => ?_)
    · refine wp_aload_n 99 d_Text_scanWord_98 rfl rfl ?_
      refine wp_iconst 100 2 d_Text_scanWord_99 rfl (by decide) ?_
      refine wp_iload_n 101 d_Text_scanWord_100 rfl rfl ?_
      refine wp_lload_n 102 d_Text_scanWord_101 rfl rfl ?_
      refine wp_V3 105 M_Text_addToken 1 d_Text_scanWord_102 rfl mv_Text_addToken lk_Text_93 rfl rfl rfl rfl rfl ?_
      refine c_Text_addToken hT ?_
      refine kV ?_
      refine wp_iload 107 d_Text_scanWord_105 rfl rfl ?_
      refine wp_ireturn d_Text_scanWord_107 rfl ?_
      first
      | (have e : wTok tco tby p K = (3, nI p, 0) := if_pos (by have := nI_nleN (a := 8) (b := K) h67 (by omega) (by omega); omega)
         simp only [e] at hW; exact hW)
      | (have e : wTok tco tby p K = _ := (if_neg (by have := nI_leN (a := 8) (b := K) h67 (by omega) (by omega); omega)).trans (if_neg h83)
         simp only [e] at hW; exact hW)
      | (have e : wTok tco tby p K = _ := (if_neg (by have := nI_leN (a := 8) (b := K) h67 (by omega) (by omega); omega)).trans (if_pos h83)
         simp only [e] at hW; exact hW)
    · refine wp_aload_n 87 d_Text_scanWord_86 rfl rfl ?_
      refine wp_iconst 88 1 d_Text_scanWord_87 rfl (by decide) ?_
      refine wp_iload_n 89 d_Text_scanWord_88 rfl rfl ?_
      refine wp_iload 91 d_Text_scanWord_89 rfl rfl ?_
      refine wp_i2l 92 d_Text_scanWord_91 rfl ?_
      refine wp_V3 95 M_Text_addToken 1 d_Text_scanWord_92 rfl mv_Text_addToken lk_Text_93 rfl rfl rfl rfl rfl ?_
      refine c_Text_addToken hT ?_
      refine kV ?_
      refine wp_goto 105 d_Text_scanWord_95 (by decide) ?_
      refine wp_iload 107 d_Text_scanWord_105 rfl rfl ?_
      refine wp_ireturn d_Text_scanWord_107 rfl ?_
      first
      | (have e : wTok tco tby p K = (3, nI p, 0) := if_pos (by have := nI_nleN (a := 8) (b := K) h67 (by omega) (by omega); omega)
         simp only [e] at hW; exact hW)
      | (have e : wTok tco tby p K = _ := (if_neg (by have := nI_leN (a := 8) (b := K) h67 (by omega) (by omega); omega)).trans (if_neg h83)
         simp only [e] at hW; exact hW)
      | (have e : wTok tco tby p K = _ := (if_neg (by have := nI_leN (a := 8) (b := K) h67 (by omega) (by omega); omega)).trans (if_pos h83)
         simp only [e] at hW; exact hW)
  · refine wp_aload_n 71 d_Text_scanWord_70 rfl rfl ?_
    refine wp_iconst 72 3 d_Text_scanWord_71 rfl (by decide) ?_
    refine wp_iload_n 73 d_Text_scanWord_72 rfl rfl ?_
    refine wp_lconst 74 0 d_Text_scanWord_73 rfl (by decide) ?_
    refine wp_V3 77 M_Text_addToken 1 d_Text_scanWord_74 rfl mv_Text_addToken lk_Text_93 rfl rfl rfl rfl rfl ?_
    refine c_Text_addToken hT ?_
    refine kV ?_
    refine wp_goto 105 d_Text_scanWord_77 (by decide) ?_
    refine wp_iload 107 d_Text_scanWord_105 rfl rfl ?_
    refine wp_ireturn d_Text_scanWord_107 rfl ?_
    first
    | (have e : wTok tco tby p K = (3, nI p, 0) := if_pos (by have := nI_nleN (a := 8) (b := K) h67 (by omega) (by omega); omega)
       simp only [e] at hW; exact hW)
    | (have e : wTok tco tby p K = _ := (if_neg (by have := nI_leN (a := 8) (b := K) h67 (by omega) (by omega); omega)).trans (if_neg h83)
       simp only [e] at hW; exact hW)
    | (have e : wTok tco tby p K = _ := (if_neg (by have := nI_leN (a := 8) (b := K) h67 (by omega) (by omega); omega)).trans (if_pos h83)
       simp only [e] at hW; exact hW)

set_option maxRecDepth 100000 in
set_option maxHeartbeats 4000000 in
theorem l_Text_scanNumber_4 {tby tki tst : Nat → Int32} {tco tva : Nat → Int64} {tfe tat tkd tvl two ttk tfk tfp : Int32} {tna : Int64} {nT len p : Nat} {QW : Nat → Prop} (hlen : len ≤ 900) (hp : p ≤ len) (hx : ∀ K, p + K ≤ len → QW K → WP Γ M_Text_scanNumber 2 0 0 (hX tby tco tki tst tva tfe (nI len) (nI nT) tat tkd tvl two ttk tna tfk tfp) 52 [some (.ref 0), some (.int (nI p)), some (.int (ncF tby p K)), some (.int (nI (p + K)))] [] Q) : ∀ (r i : Nat) , i + r = len - p → QW (i + runL isDi tby r (p + i)) → WP Γ M_Text_scanNumber 2 0 0 (hX tby tco tki tst tva tfe (nI len) (nI nT) tat tkd tvl two ttk tna tfk tfp) 4 [some (.ref 0), some (.int (nI p)), some (.int (ncF tby p i)), some (.int (nI (p + i)))] [] Q := by
  intro r
  induction r with
  | zero =>
    intro i  hi hinv
    refine wp_iload_n 5 d_Text_scanNumber_4 rfl rfl ?_
    refine wp_aload_n 6 d_Text_scanNumber_5 rfl rfl ?_
    refine wp_getfield 9 7 6 d_Text_scanNumber_6 rfl fl_Text_33 rfl rfl ?_
    refine wp_icmp_ge 52 12 d_Text_scanNumber_9 rfl (by decide) (fun h9 => ?_) (fun h9 => ?_)
    · exact hx i (by omega) hinv
    · exact absurd ((nI_leI (by omega) (by omega)).mpr (by omega)) h9
  | succ r ih =>
    intro i  hi hinv
    refine wp_iload_n 5 d_Text_scanNumber_4 rfl rfl ?_
    refine wp_aload_n 6 d_Text_scanNumber_5 rfl rfl ?_
    refine wp_getfield 9 7 6 d_Text_scanNumber_6 rfl fl_Text_33 rfl rfl ?_
    refine wp_icmp_ge 52 12 d_Text_scanNumber_9 rfl (by decide) (fun h9 => ?_) (fun h9 => ?_)
    · exact absurd (nI_leN h9 (by omega) (by omega)) (by omega)
    · refine wp_aload_n 13 d_Text_scanNumber_12 rfl rfl ?_
      refine wp_getfield 16 7 0 d_Text_scanNumber_13 rfl fl_Text_9 rfl rfl ?_
      refine wp_iload_n 17 d_Text_scanNumber_16 rfl rfl ?_
      refine wp_baloadN 18 d_Text_scanNumber_17 rfl rfl rfl (by omega) ?_
      refine wp_S1 21 M_Text_isDigit 1 d_Text_scanNumber_18 rfl ms_Text_isDigit lk_Text_108 rfl rfl ?_
      refine c_Text_isDigit ?_
      refine kI ?_
      (first | refine wp_ifP_eq 52 24 d_Text_scanNumber_21 rfl (by decide) (fun h21 => ?_) (fun h21 => ?_) | refine wp_if_eq 52 24 d_Text_scanNumber_21 rfl (by decide) (fun h21 => ?_) (fun h21 => ?_))
      · refine hx i (by omega) ?_
        simpa only [runL, if_neg h21, Nat.add_zero] using hinv
      · refine wp_iload_n 25 d_Text_scanNumber_24 rfl rfl ?_
        refine wp_iload_n 26 d_Text_scanNumber_25 rfl rfl ?_
        refine wp_isub 27 d_Text_scanNumber_26 rfl ?_
        refine wp_iconst 28 4 d_Text_scanNumber_27 rfl (by decide) ?_
        refine wp_icmp_ge 46 31 d_Text_scanNumber_28 rfl (by decide) (fun h28 => ?_) (fun h28 => ?_)
        · first | refine wp_iincN_3 49 d_Text_scanNumber_46 rfl rfl rfl ?_ | refine wp_iinc_3 49 1 d_Text_scanNumber_46 rfl (by decide) rfl rfl ?_
          refine wp_goto 4 d_Text_scanNumber_49 (by decide) ?_
          have e3 : i + runL isDi tby (r + 1) (p + i) = (i + 1) + runL isDi tby r (p + (i + 1)) := by simp only [runL, if_pos h21, Nat.add_assoc]
          rw [e3] at hinv
          have h8 := ih (i + 1) (by omega) hinv
          first
          | (have e4 : ncF tby p (i + 1) = ncF tby p i := if_neg (by have := nI_leN (b := 4) (a := i) (by rw [show nI i = nI (p + i) - nI p from by rw [nI_subN (by omega)]; congr 1; omega]; exact h28) (by omega) (by omega); omega)
             rw [e4] at h8; exact h8)
          | (have e4 : ncF tby p (i + 1) = ncF tby p i * 10 + (tby (p + i) - 48) := if_pos (nI_nleN (b := 4) (a := i) (by rw [show nI i = nI (p + i) - nI p from by rw [nI_subN (by omega)]; congr 1; omega]; exact h28) (by omega) (by omega))
             rw [e4] at h8; exact h8)
        · refine wp_iload_n 32 d_Text_scanNumber_31 rfl rfl ?_
          refine wp_bipush 34 10 d_Text_scanNumber_32 rfl (by decide) ?_
          refine wp_imul 35 d_Text_scanNumber_34 rfl ?_
          refine wp_aload_n 36 d_Text_scanNumber_35 rfl rfl ?_
          refine wp_getfield 39 7 0 d_Text_scanNumber_36 rfl fl_Text_9 rfl rfl ?_
          refine wp_iload_n 40 d_Text_scanNumber_39 rfl rfl ?_
          refine wp_baloadN 41 d_Text_scanNumber_40 rfl rfl rfl (by omega) ?_
          refine wp_bipush 43 48 d_Text_scanNumber_41 rfl (by decide) ?_
          refine wp_isub 44 d_Text_scanNumber_43 rfl ?_
          refine wp_iadd 45 d_Text_scanNumber_44 rfl ?_
          refine wp_istore_2 46 d_Text_scanNumber_45 rfl rfl rfl ?_
          first | refine wp_iincN_3 49 d_Text_scanNumber_46 rfl rfl rfl ?_ | refine wp_iinc_3 49 1 d_Text_scanNumber_46 rfl (by decide) rfl rfl ?_
          refine wp_goto 4 d_Text_scanNumber_49 (by decide) ?_
          have e3 : i + runL isDi tby (r + 1) (p + i) = (i + 1) + runL isDi tby r (p + (i + 1)) := by simp only [runL, if_pos h21, Nat.add_assoc]
          rw [e3] at hinv
          have h8 := ih (i + 1) (by omega) hinv
          first
          | (have e4 : ncF tby p (i + 1) = ncF tby p i := if_neg (by have := nI_leN (b := 4) (a := i) (by rw [show nI i = nI (p + i) - nI p from by rw [nI_subN (by omega)]; congr 1; omega]; exact h28) (by omega) (by omega); omega)
             rw [e4] at h8; exact h8)
          | (have e4 : ncF tby p (i + 1) = ncF tby p i * 10 + (tby (p + i) - 48) := if_pos (nI_nleN (b := 4) (a := i) (by rw [show nI i = nI (p + i) - nI p from by rw [nI_subN (by omega)]; congr 1; omega]; exact h28) (by omega) (by omega))
             rw [e4] at h8; exact h8)

set_option maxRecDepth 100000 in
set_option maxHeartbeats 4000000 in
theorem c_Text_scanNumber {tby tki tst : Nat → Int32} {tco tva : Nat → Int64} {tfe tat tkd tvl two ttk tfk tfp : Int32} {tna : Int64} {nT len p : Nat} (hT : nT < 901) (hlen : len ≤ 900) (hp : p ≤ len) (hq : Q (some (.int (nI (p + runL isDi tby (len - p) p)))) (hX tby tco (upd tki nT (nTok tby p (runL isDi tby (len - p) p)).1) (upd tst nT (nTok tby p (runL isDi tby (len - p) p)).2.1) (vp_updL tva nT (nTok tby p (runL isDi tby (len - p) p)).2.2) tfe (nI len) (nI (nT + 1)) tat tkd tvl two ttk tna tfk tfp)) : Call Γ M_Text_scanNumber 2 0 0 [.ref 0, .int (nI p)] (hX tby tco tki tst tva tfe (nI len) (nI nT) tat tkd tvl two ttk tna tfk tfp) Q := by
  refine call_intro (ls := [some (.ref 0), some (.int (nI p)), none, none]) rfl rfl rfl ?_
  refine wp_iconst 1 0 d_Text_scanNumber_0 rfl (by decide) ?_
  refine wp_istore_2 2 d_Text_scanNumber_1 rfl rfl rfl ?_
  refine wp_iload_n 3 d_Text_scanNumber_2 rfl rfl ?_
  refine wp_istore_3 4 d_Text_scanNumber_3 rfl rfl rfl ?_
  refine l_Text_scanNumber_4 (QW := fun K => Q (some (.int (nI (p + K)))) (hX tby tco (upd tki nT (nTok tby p K).1) (upd tst nT (nTok tby p K).2.1) (vp_updL tva nT (nTok tby p K).2.2) tfe (nI len) (nI (nT + 1)) tat tkd tvl two ttk tna tfk tfp)) hlen hp (fun K hK hW => ?_) (len - p) 0 (by omega) (by rw [Nat.zero_add]; exact hq)
  refine wp_aload_n 53 d_Text_scanNumber_52 rfl rfl ?_
  have e8 : nI (p + K) - nI p = nI K := by rw [nI_subN (by omega)]; congr 1; omega
  refine wp_iload_n 54 d_Text_scanNumber_53 rfl rfl ?_
  refine wp_iload_n 55 d_Text_scanNumber_54 rfl rfl ?_
  refine wp_isub 56 d_Text_scanNumber_55 rfl ?_
  rw [e8]
  refine wp_iconst 57 4 d_Text_scanNumber_56 rfl (by decide) ?_
  refine wp_icmp_gt 64 60 d_Text_scanNumber_57 rfl (by decide) (fun h57 => ?_) (fun h57 => ?_)
  · refine wp_bipush 66 6 d_Text_scanNumber_64 rfl (by decide) ?_
    refine wp_iload_n 67 d_Text_scanNumber_66 rfl rfl ?_
    refine wp_iload_n 68 d_Text_scanNumber_67 rfl rfl ?_
    refine wp_i2l 69 d_Text_scanNumber_68 rfl ?_
    refine wp_V3 72 M_Text_addToken 1 d_Text_scanNumber_69 rfl mv_Text_addToken lk_Text_93 rfl rfl rfl rfl rfl ?_
    refine c_Text_addToken hT ?_
    refine kV ?_
    refine wp_iload_n 73 d_Text_scanNumber_72 rfl rfl ?_
    refine wp_ireturn d_Text_scanNumber_73 rfl ?_
    first
    | (have e : nTok tby p K = (4, nI p, (ncF tby p K).toInt64) := by unfold nTok; rw [if_pos (by have := nI_nltN (a := 4) (b := K) h57 (by omega) (by omega); omega)]
       simp only [e] at hW; exact hW)
    | (have e : nTok tby p K = (6, nI p, (ncF tby p K).toInt64) := by unfold nTok; rw [if_neg (by have := nI_ltN (a := 4) (b := K) h57 (by omega) (by omega); omega)]
       simp only [e] at hW; exact hW)
  · refine wp_iconst 61 4 d_Text_scanNumber_60 rfl (by decide) ?_
    refine wp_goto 66 d_Text_scanNumber_61 (by decide) ?_
    refine wp_iload_n 67 d_Text_scanNumber_66 rfl rfl ?_
    refine wp_iload_n 68 d_Text_scanNumber_67 rfl rfl ?_
    refine wp_i2l 69 d_Text_scanNumber_68 rfl ?_
    refine wp_V3 72 M_Text_addToken 1 d_Text_scanNumber_69 rfl mv_Text_addToken lk_Text_93 rfl rfl rfl rfl rfl ?_
    refine c_Text_addToken hT ?_
    refine kV ?_
    refine wp_iload_n 73 d_Text_scanNumber_72 rfl rfl ?_
    refine wp_ireturn d_Text_scanNumber_73 rfl ?_
    first
    | (have e : nTok tby p K = (4, nI p, (ncF tby p K).toInt64) := by unfold nTok; rw [if_pos (by have := nI_nltN (a := 4) (b := K) h57 (by omega) (by omega); omega)]
       simp only [e] at hW; exact hW)
    | (have e : nTok tby p K = (6, nI p, (ncF tby p K).toInt64) := by unfold nTok; rw [if_neg (by have := nI_ltN (a := 4) (b := K) h57 (by omega) (by omega); omega)]
       simp only [e] at hW; exact hW)

set_option maxRecDepth 100000 in
set_option maxHeartbeats 4000000 in
theorem c_Text_scan {tby tki tst : Nat → Int32} {tco tva : Nat → Int64} {tfe tat tkd tvl two ttk tfk tfp : Int32} {tna : Int64} {nT len p : Nat} (hT : nT < 901) (hlen : len ≤ 900) (hp : p < len) (hq : Q (some (.int (nI (tokAt tco tby len p).2))) (hX tby tco (upd tki nT (tokAt tco tby len p).1.1) (upd tst nT (tokAt tco tby len p).1.2.1) (vp_updL tva nT (tokAt tco tby len p).1.2.2) tfe (nI len) (nI (nT + 1)) tat tkd tvl two ttk tna tfk tfp)) : Call Γ M_Text_scan 3 0 0 [.ref 0, .int (nI p)] (hX tby tco tki tst tva tfe (nI len) (nI nT) tat tkd tvl two ttk tna tfk tfp) Q := by
  refine call_intro (ls := [some (.ref 0), some (.int (nI p)), none]) rfl rfl rfl ?_
  refine wp_aload_n 1 d_Text_scan_0 rfl rfl ?_
  refine wp_getfield 4 7 0 d_Text_scan_1 rfl fl_Text_9 rfl rfl ?_
  refine wp_iload_n 5 d_Text_scan_4 rfl rfl ?_
  refine wp_baloadN 6 d_Text_scan_5 rfl rfl rfl (by omega) ?_
  refine wp_istore_2 7 d_Text_scan_6 rfl rfl rfl ?_
  refine wp_iload_n 8 d_Text_scan_7 rfl rfl ?_
  refine wp_S1 11 M_Text_isLetter 1 d_Text_scan_8 rfl ms_Text_isLetter lk_Text_102 rfl rfl ?_
  refine c_Text_isLetter ?_
  refine kI ?_
  (first | refine wp_ifP_eq 20 14 d_Text_scan_11 rfl (by decide) (fun h11 => ?_) (fun h11 => ?_) | refine wp_if_eq 20 14 d_Text_scan_11 rfl (by decide) (fun h11 => ?_) (fun h11 => ?_))
  · refine wp_iload_n 21 d_Text_scan_20 rfl rfl ?_
    refine wp_S1 24 M_Text_isDigit 1 d_Text_scan_21 rfl ms_Text_isDigit lk_Text_108 rfl rfl ?_
    refine c_Text_isDigit ?_
    refine kI ?_
    (first | refine wp_ifP_eq 33 27 d_Text_scan_24 rfl (by decide) (fun h24 => ?_) (fun h24 => ?_) | refine wp_if_eq 33 27 d_Text_scan_24 rfl (by decide) (fun h24 => ?_) (fun h24 => ?_))
    · refine wp_aload_n 34 d_Text_scan_33 rfl rfl ?_
      refine wp_iload_n 35 d_Text_scan_34 rfl rfl ?_
      refine wp_S1 38 M_Text_isSign 1 d_Text_scan_35 rfl ms_Text_isSign lk_Text_114 rfl rfl ?_
      refine c_Text_isSign ?_
      refine kI ?_
      (first | refine wp_ifP_eq 45 41 d_Text_scan_38 rfl (by decide) (fun h38 => ?_) (fun h38 => ?_) | refine wp_if_eq 45 41 d_Text_scan_38 rfl (by decide) (fun h38 => ?_) (fun h38 => ?_))
      · refine wp_bipush 47 6 d_Text_scan_45 rfl (by decide) ?_
        refine wp_iload_n 48 d_Text_scan_47 rfl rfl ?_
        refine wp_iload_n 49 d_Text_scan_48 rfl rfl ?_
        refine wp_i2l 50 d_Text_scan_49 rfl ?_
        refine wp_V3 53 M_Text_addToken 1 d_Text_scan_50 rfl mv_Text_addToken lk_Text_93 rfl rfl rfl rfl rfl ?_
        refine c_Text_addToken hT ?_
        refine kV ?_
        refine wp_iload_n 54 d_Text_scan_53 rfl rfl ?_
        refine wp_iconst 55 1 d_Text_scan_54 rfl (by decide) ?_
        refine wp_iadd 56 d_Text_scan_55 rfl ?_
        refine wp_ireturn d_Text_scan_56 rfl ?_
        have e : tokAt tco tby len p = _ := (if_neg h11).trans (if_neg h24)
        simp only [e] at hq
        rw [nI_1]
        first | (simp only [if_pos h38] at hq; exact hq) | (simp only [if_neg h38] at hq; exact hq)
      · refine wp_iconst 42 5 d_Text_scan_41 rfl (by decide) ?_
        refine wp_goto 47 d_Text_scan_42 (by decide) ?_
        refine wp_iload_n 48 d_Text_scan_47 rfl rfl ?_
        refine wp_iload_n 49 d_Text_scan_48 rfl rfl ?_
        refine wp_i2l 50 d_Text_scan_49 rfl ?_
        refine wp_V3 53 M_Text_addToken 1 d_Text_scan_50 rfl mv_Text_addToken lk_Text_93 rfl rfl rfl rfl rfl ?_
        refine c_Text_addToken hT ?_
        refine kV ?_
        refine wp_iload_n 54 d_Text_scan_53 rfl rfl ?_
        refine wp_iconst 55 1 d_Text_scan_54 rfl (by decide) ?_
        refine wp_iadd 56 d_Text_scan_55 rfl ?_
        refine wp_ireturn d_Text_scan_56 rfl ?_
        have e : tokAt tco tby len p = _ := (if_neg h11).trans (if_neg h24)
        simp only [e] at hq
        rw [nI_1]
        first | (simp only [if_pos h38] at hq; exact hq) | (simp only [if_neg h38] at hq; exact hq)
    · refine wp_aload_n 28 d_Text_scan_27 rfl rfl ?_
      refine wp_iload_n 29 d_Text_scan_28 rfl rfl ?_
      refine wp_V1 32 M_Text_scanNumber 2 d_Text_scan_29 rfl mv_Text_scanNumber lk_Text_111 rfl rfl rfl rfl rfl ?_
      refine c_Text_scanNumber hT hlen (by omega) ?_
      refine kI ?_
      refine wp_ireturn d_Text_scan_32 rfl ?_
      have e : tokAt tco tby len p = _ := (if_neg h11).trans (if_pos h24)
      simp only [e] at hq; exact hq
  · refine wp_aload_n 15 d_Text_scan_14 rfl rfl ?_
    refine wp_iload_n 16 d_Text_scan_15 rfl rfl ?_
    refine wp_V1 19 M_Text_scanWord 2 d_Text_scan_16 rfl mv_Text_scanWord lk_Text_105 rfl rfl rfl rfl rfl ?_
    refine c_Text_scanWord hT hlen (by omega) ?_
    refine kI ?_
    refine wp_ireturn d_Text_scan_19 rfl ?_
    have e : tokAt tco tby len p = _ := if_pos h11
    simp only [e] at hq; exact hq

end T28
