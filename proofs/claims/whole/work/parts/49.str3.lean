/-! ===== String: charAt; Text: init ===== -/
set_option maxRecDepth 100000 in
theorem tx1_l : tx1.toList = ['o', 'd', 'd', 's', ' ', 'p', 'l', 'a', 'c', 'e', ' ', 'w', 'a', 'l', 'k', 'e', 'r', ' ', 't', 'u', 'r', 'n', 'e', 'd', ' ', 'l', 'e', 'f', 't', ' ', 's', 't', 'r', 'i', 'd', 'e', ' ', 'l', 'e', 'g', ' ', 'e', 'a', 's', 't', ' ', 'w', 'e', 's', 't', ' ', 'n', 'o', 'r', 't', 'h', ' ', 's', 'o', 'u', 't', 'h', ' ', 'g', 'o', ' ', 's', 't', 'r', 'i', 'k', 'e', ' ', 'r', 'e', 's', 't', 'o', 'r', 'e', ' ', 'b', 'e', 'l', 'i', 'e', 'v', 'e', ' ', 'a', 'n', 'y', ' ', 'w', 'h', 'e', 'n', ' ', 'a', 't', ' ', 'c', 'l', 'o', 's', 'e', 'd', ' ', 'm', 'i', 's', 's', 'e', 's', ' ', 'p', 'a', 'c', 'e', 's', ' ', 'l', 'o', 'o', 'p', ' ', 'e', 'n', 'd', ' ', 's', 't', 'o', 'p', ' '] := by
  first
  | exact String.toList_ofList
  | (simp [tx1]; done)
  | decide +kernel
def bl1 : List Int32 := [111, 100, 100, 115, 32, 112, 108, 97, 99, 101, 32, 119, 97, 108, 107, 101, 114, 32, 116, 117, 114, 110, 101, 100, 32, 108, 101, 102, 116, 32, 115, 116, 114, 105, 100, 101, 32, 108, 101, 103, 32, 101, 97, 115, 116, 32, 119, 101, 115, 116, 32, 110, 111, 114, 116, 104, 32, 115, 111, 117, 116, 104, 32, 103, 111, 32, 115, 116, 114, 105, 107, 101, 32, 114, 101, 115, 116, 111, 114, 101, 32, 98, 101, 108, 105, 101, 118, 101, 32, 97, 110, 121, 32, 119, 104, 101, 110, 32, 97, 116, 32, 99, 108, 111, 115, 101, 100, 32, 109, 105, 115, 115, 101, 115, 32, 112, 97, 99, 101, 115, 32, 108, 111, 111, 112, 32, 101, 110, 100, 32, 115, 116, 111, 112, 32]
set_option maxRecDepth 100000 in
theorem bl1_e : bytX.getD 0 [] = bl1 := by
  have e : bytX.getD 0 [] = tx1.toList.map (fun ch => Int32.ofNat ch.toNat) := by first | rfl | simp [bytX]
  rw [e, tx1_l]
  decide +kernel
set_option maxRecDepth 100000 in
theorem tx2_l : tx2.toList = [' ', 'o', 'd', 'd', 's', ' ', 'p', 'l', 'a', 'c', 'e', ' ', 'w', 'a', 'l', 'k', 'e', 'r', ' ', 'l', 'e', 'g', ' ', 't', 'u', 'r', 'n', 'e', 'd', ' ', 'l', 'e', 'f', 't', ' ', 's', 't', 'r', 'i', 'd', 'e', ' ', 'e', 'a', 's', 't', ' ', 'w', 'e', 's', 't', ' ', 'n', 'o', 'r', 't', 'h', ' ', 's', 'o', 'u', 't', 'h', ' ', 'g', 'o', ' ', 's', 't', 'r', 'i', 'k', 'e', ' ', 'r', 'e', 's', 't', 'o', 'r', 'e', ' ', 'b', 'e', 'l', 'i', 'e', 'v', 'e', ' ', 'a', 'n', 'y', ' ', 'w', 'h', 'e', 'n', ' ', 'l', 'o', 'o', 'p', ' ', 'e', 'n', 'd', ' ', 's', 't', 'o', 'p', ' ', 'a', 't', ' ', 'c', 'l', 'o', 's', 'e', 'd', ' ', 'm', 'i', 's', 's', 'e', 's', ' ', 'p', 'a', 'c', 'e', 's', ' '] := by
  first
  | exact String.toList_ofList
  | (simp [tx2]; done)
  | decide +kernel
def bl2 : List Int32 := [32, 111, 100, 100, 115, 32, 112, 108, 97, 99, 101, 32, 119, 97, 108, 107, 101, 114, 32, 108, 101, 103, 32, 116, 117, 114, 110, 101, 100, 32, 108, 101, 102, 116, 32, 115, 116, 114, 105, 100, 101, 32, 101, 97, 115, 116, 32, 119, 101, 115, 116, 32, 110, 111, 114, 116, 104, 32, 115, 111, 117, 116, 104, 32, 103, 111, 32, 115, 116, 114, 105, 107, 101, 32, 114, 101, 115, 116, 111, 114, 101, 32, 98, 101, 108, 105, 101, 118, 101, 32, 97, 110, 121, 32, 119, 104, 101, 110, 32, 108, 111, 111, 112, 32, 101, 110, 100, 32, 115, 116, 111, 112, 32, 97, 116, 32, 99, 108, 111, 115, 101, 100, 32, 109, 105, 115, 115, 101, 115, 32, 112, 97, 99, 101, 115, 32]
set_option maxRecDepth 100000 in
theorem bl2_e : bytX.getD 1 [] = bl2 := by
  have e : bytX.getD 1 [] = tx2.toList.map (fun ch => Int32.ofNat ch.toNat) := by first | rfl | simp [bytX]
  rw [e, tx2_l]
  decide +kernel
def chX (kx i : Nat) : Int32 := ((((bytX.getD kx []).getD i 0) &&& 255).toUInt32 % 65536).toInt32
def blX (kx i : Nat) : Int32 := if kx = 0 then bl1.getD i 0 else bl2.getD i 0
theorem chN_0 : ∀ i, i < 135 → ((((bl1.getD i 0) &&& 255).toUInt32 % 65536).toInt32 = bl1.getD i 0 ∧ (bl1.getD i 0).toUInt32.toUInt16.toUInt32.toInt32 = bl1.getD i 0) := by decide +kernel
theorem chN_1 : ∀ i, i < 136 → ((((bl2.getD i 0) &&& 255).toUInt32 % 65536).toInt32 = bl2.getD i 0 ∧ (bl2.getD i 0).toUInt32.toUInt16.toUInt32.toInt32 = bl2.getD i 0) := by decide +kernel
theorem chX_bl {kx i : Nat} (hk : kx < 2) (hi : i < lenX.getD kx 0) : chX kx i = blX kx i := match kx, hk with
  | 0, _ => by unfold chX; rw [bl1_e]; exact (chN_0 i hi).1
  | 1, _ => by unfold chX; rw [bl2_e]; exact (chN_1 i hi).1
theorem blX_n {kx i : Nat} (hk : kx < 2) (hi : i < lenX.getD kx 0) : narrow .char (.int (blX kx i)) = .int (blX kx i) := match kx, hk with
  | 0, _ => congrArg Value.int (chN_0 i hi).2
  | 1, _ => congrArg Value.int (chN_1 i hi).2
theorem lenX_lt {kx : Nat} (hk : kx < 2) : lenX.getD kx 0 < 1000 := match kx, hk with
  | 0, _ => by decide
  | 1, _ => by decide
theorem qS1 {Γ : Gm} {μ : MI} {d cb sb : Nat} {h : LH} {pc : Nat} {ls : Lo} {st : List Value} {Q : Option Value → LH → Prop} {a b : Int32} (e : a = b) (k : WP Γ μ d cb sb h pc ls (.int b :: st) Q) : WP Γ μ d cb sb h pc ls (.int a :: st) Q := e ▸ k
section T49
variable {Γ : Gm} {Q : Option Value → LH → Prop} {h : LH} {kx : Nat}
set_option maxRecDepth 100000 in
set_option maxHeartbeats 4000000 in
theorem c_JLat_charAt (hk : kx < 2) {i : Nat} (hi : i < lenX.getD kx 0) (hq : Q (some (.int (blX kx i))) h) : Call Γ M_JLat_charAt 3 0 0 [.ref (XB + (2 + kx)), .int (nI i)] h Q := by
  have hlt := lenX_lt hk
  refine call_introF (ls := [some (.ref (XB + (2 + kx))), some (.int (nI i))]) (by decide +kernel) rfl rfl ?_
  refine wp_iload_n 1 d_JLat_charAt_0 rfl rfl ?_
  refine wp_aload_n 2 d_JLat_charAt_1 rfl rfl ?_
  refine wp_strLen 3 hk d_JLat_charAt_2 rfl ?_
  refine wp_S2 6 M_JStr_checkIndex 2 d_JLat_charAt_3 rfl ms_JStr_checkIndex lk_JLat_9 rfl rfl ?_
  refine c_JStr_checkIndex (inR_N hi (by omega)) ?_
  refine kV ?_
  refine wp_aload_n 7 d_JLat_charAt_6 rfl rfl ?_
  refine wp_iload_n 8 d_JLat_charAt_7 rfl rfl ?_
  refine wp_strByte 9 hk d_JLat_charAt_8 rfl (vp_in_nI hi (by omega)) ?_
  rw [nI_clamp (by omega)]
  refine wp_sipush 12 255 d_JLat_charAt_9 rfl (by decide) ?_
  refine wp_iand 13 d_JLat_charAt_12 rfl ?_
  refine wp_i2c 14 d_JLat_charAt_13 rfl ?_
  refine qS1 (chX_bl hk hi) ?_
  refine wp_nreturn _ d_JLat_charAt_14 rfl (blX_n hk hi) ?_
  exact hq

set_option maxRecDepth 100000 in
set_option maxHeartbeats 4000000 in
theorem c_JStr_charAt (hk : kx < 2) {i : Nat} (hi : i < lenX.getD kx 0) (hq : Q (some (.int (blX kx i))) h) : Call Γ M_JStr_charAt 4 0 0 [.ref (XB + kx), .int (nI i)] h Q := by
  refine call_introF (ls := [some (.ref (XB + kx)), some (.int (nI i))]) (by decide +kernel) rfl rfl ?_
  refine wp_aload_n 1 d_JStr_charAt_0 rfl rfl ?_
  refine wp_X0 4 M_JStr_isLatin1 1 hk d_JStr_charAt_1 rfl mv_JStr_isLatin1 lk_JStr_492 rfl rfl rfl ?_
  refine c_JStr_isLatin1 hk ?_
  refine kI ?_
  refine wp_if_eq 16 7 d_JStr_charAt_4 rfl (by decide) (fun h4 => ?_) (fun h4 => ?_)
  · exact absurd h4 (by decide)
  · refine wp_aload_n 8 d_JStr_charAt_7 rfl rfl ?_
    refine wp_strValue 11 hk d_JStr_charAt_8 rfl fx_9 ?_
    refine wp_iload_n 12 d_JStr_charAt_11 rfl rfl ?_
    refine wp_S2 15 M_JLat_charAt 3 d_JStr_charAt_12 rfl ms_JLat_charAt lk_JStr_495 rfl rfl ?_
    refine c_JLat_charAt hk hi ?_
    refine kI ?_
    refine wp_nreturn _ d_JStr_charAt_15 rfl (blX_n hk hi) ?_
    exact hq

def txS (i : Nat) (s : (Nat → Int64) × Nat × Int64) : (Nat → Int64) × Nat × Int64 :=
  if blX 0 i = 32 then (if s.2.1 < 24 then (vp_updL s.1 s.2.1 s.2.2, s.2.1 + 1, 0) else s) else (s.1, s.2.1, wiL s.2.2 (blX 0 i))
theorem txS_le {i : Nat} {s : (Nat → Int64) × Nat × Int64} (h : s.2.1 ≤ 24) : (txS i s).2.1 ≤ 24 := by
  unfold txS
  split
  · split
    · dsimp only; omega
    · exact h
  · exact h
set_option maxRecDepth 100000 in
set_option maxHeartbeats 4000000 in
theorem l_Text_init_110 {tby tki tst : Nat → Int32} {tva : Nat → Int64} {tfe tle tto tat tkd tvl two ttk tfk tfp : Int32} {tna : Int64}  : ∀ (r i : Nat) (s : (Nat → Int64) × Nat × Int64) (w5 : Option Value), i + r = 135 → (s.2.1 ≤ 24 ∧ Q none (hX tby ((iterN txS r i s).1) tki tst tva tfe tle tto tat tkd tvl two ttk tna tfk tfp)) → WP Γ M_Text_init 6 0 0 (hX tby (s.1) tki tst tva tfe tle tto tat tkd tvl two ttk tna tfk tfp) 110 [some (.ref 0), some (.int (nI s.2.1)), some (.long s.2.2), none, some (.int (nI i)), w5] [] Q := by
  intro r
  induction r with
  | zero =>
    intro i s w5 hi hinv
    obtain ⟨hle, hq⟩ := hinv
    refine wp_iload 112 d_Text_init_110 rfl rfl ?_
    refine wp_ldcS1 114 d_Text_init_112 rfl rfl ?_
    refine wp_X0 117 M_JStr_length 2 (by decide : 0 < 2) d_Text_init_114 rfl mv_JStr_length lk_Text_66 rfl rfl rfl ?_
    refine c_JStr_length (by decide) ?_
    refine kI ?_
    rw [show lenX.getD 0 0 = 135 from rfl]
    refine wp_icmp_ge 170 120 d_Text_init_117 rfl (by decide) (fun h117 => ?_) (fun h117 => ?_)
    · refine wp_return d_Text_init_170 rfl ?_
      exact hq
    · exact absurd ((nI_leI (a := 135) (by omega) (by omega)).mpr (by omega)) h117
  | succ r ih =>
    intro i s w5 hi hinv
    obtain ⟨hle, hq⟩ := hinv
    refine wp_iload 112 d_Text_init_110 rfl rfl ?_
    refine wp_ldcS1 114 d_Text_init_112 rfl rfl ?_
    refine wp_X0 117 M_JStr_length 2 (by decide : 0 < 2) d_Text_init_114 rfl mv_JStr_length lk_Text_66 rfl rfl rfl ?_
    refine c_JStr_length (by decide) ?_
    refine kI ?_
    rw [show lenX.getD 0 0 = 135 from rfl]
    refine wp_icmp_ge 170 120 d_Text_init_117 rfl (by decide) (fun h117 => ?_) (fun h117 => ?_)
    · exact absurd (nI_leN (b := 135) h117 (by omega) (by omega)) (by omega)
    · refine wp_ldcS1 122 d_Text_init_120 rfl rfl ?_
      refine wp_iload 124 d_Text_init_122 rfl rfl ?_
      refine wp_X1 127 M_JStr_charAt 4 (by decide : 0 < 2) d_Text_init_124 rfl mv_JStr_charAt lk_Text_71 rfl rfl rfl ?_
      refine c_JStr_charAt (by decide) (show i < lenX.getD 0 0 from by show i < 135; omega) ?_
      refine kI ?_
      refine wp_istore_5 129 d_Text_init_127 rfl rfl rfl ?_
      refine wp_iload 131 d_Text_init_129 rfl rfl ?_
      refine wp_bipush 133 32 d_Text_init_131 rfl (by decide) ?_
      refine wp_icmp_eq 146 136 d_Text_init_133 rfl (by decide) (fun h133 => ?_) (fun h133 => ?_)
      · refine wp_iload_n 147 d_Text_init_146 rfl rfl ?_
        refine wp_bipush 149 24 d_Text_init_147 rfl (by decide) ?_
        refine wp_icmp_ge 164 152 d_Text_init_149 rfl (by decide) (fun h149 => ?_) (fun h149 => ?_)
        · first | refine wp_iincN_4 167 d_Text_init_164 rfl rfl rfl ?_ | refine wp_iinc_4 167 1 d_Text_init_164 rfl (by decide) rfl rfl ?_
          refine wp_goto 110 d_Text_init_167 (by decide) ?_
          have e : txS i s = _ := (if_pos h133).trans (if_neg (Nat.not_lt.mpr (nI_leN (b := 24) h149 (by omega) (by omega))))
          rw [show iterN txS (r + 1) i s = iterN txS r (i + 1) (txS i s) from rfl, e] at hq
          exact ih (i + 1) _ _ (by omega) ⟨by have := txS_le (i := i) hle; rw [e] at this; exact this, hq⟩
        · refine wp_aload_n 153 d_Text_init_152 rfl rfl ?_
          refine wp_getfield 156 7 1 d_Text_init_153 rfl fl_Text_15 rfl rfl ?_
          refine wp_iload_n 157 d_Text_init_156 rfl rfl ?_
          refine wp_lload_n 158 d_Text_init_157 rfl rfl ?_
          refine wp_lastoreN 159 d_Text_init_158 rfl rfl rfl (nI_nleN (b := 24) h149 (by omega) (by omega)) ?_
          dsimp only [List.set]
          first | refine wp_iincN_1 162 d_Text_init_159 rfl rfl rfl ?_ | refine wp_iinc_1 162 1 d_Text_init_159 rfl (by decide) rfl rfl ?_
          refine wp_lconst 163 0 d_Text_init_162 rfl (by decide) ?_
          refine wp_lstore_2 164 d_Text_init_163 rfl rfl rfl ?_
          first | refine wp_iincN_4 167 d_Text_init_164 rfl rfl rfl ?_ | refine wp_iinc_4 167 1 d_Text_init_164 rfl (by decide) rfl rfl ?_
          refine wp_goto 110 d_Text_init_167 (by decide) ?_
          have e : txS i s = _ := (if_pos h133).trans (if_pos (nI_nleN (b := 24) h149 (by omega) (by omega)))
          rw [show iterN txS (r + 1) i s = iterN txS r (i + 1) (txS i s) from rfl, e] at hq
          exact ih (i + 1) _ _ (by omega) ⟨by have := txS_le (i := i) hle; rw [e] at this; exact this, hq⟩
      · refine wp_lload_n 137 d_Text_init_136 rfl rfl ?_
        refine wp_iload 139 d_Text_init_137 rfl rfl ?_
        refine wp_S2 142 M_Text_withLetter 1 d_Text_init_139 rfl ms_Text_withLetter lk_Text_75 rfl rfl ?_
        refine c_Text_withLetter ?_
        refine kL ?_
        refine wp_lstore_2 143 d_Text_init_142 rfl rfl rfl ?_
        refine wp_goto 164 d_Text_init_143 (by decide) ?_
        first | refine wp_iincN_4 167 d_Text_init_164 rfl rfl rfl ?_ | refine wp_iinc_4 167 1 d_Text_init_164 rfl (by decide) rfl rfl ?_
        refine wp_goto 110 d_Text_init_167 (by decide) ?_
        have e : txS i s = _ := if_neg h133
        rw [show iterN txS (r + 1) i s = iterN txS r (i + 1) (txS i s) from rfl, e] at hq
        exact ih (i + 1) _ _ (by omega) ⟨by have := txS_le (i := i) hle; rw [e] at this; exact this, hq⟩

set_option maxRecDepth 100000 in
set_option maxHeartbeats 4000000 in
theorem c_Text_init (hq : Q none (hX (fun _ => 0) ((iterN txS 135 0 (fun _ => 0, 0, 0)).1) (fun _ => 0) (fun _ => 0) (fun _ => 0) (0) (0) (0) (0) (0) (0) (-1) (0) (0) (-1) (-1))) : Call Γ M_Text_init 6 5 3627 [.ref 0] [cO 7 [.null, .null, .null, .null, .null, .int 0, .int 0, .int 0, .int 0, .int 0, .int 0, .int 0, .int 0, .long 0, .int 0, .int 0]] Q := by
  refine call_intro (ls := [some (.ref 0), none, none, none, none, none]) rfl rfl rfl ?_
  refine wp_aload_n 1 d_Text_init_0 rfl rfl ?_
  refine wp_objInit 4 d_Text_init_1 rfl lo_Text_3 oi_inst oi_code (by decide) (by decide) ?_
  refine wp_aload_n 5 d_Text_init_4 rfl rfl ?_
  refine wp_sipush 8 900 d_Text_init_5 rfl (by decide) ?_
  refine wp_newarray_byte 10 900 1 d_Text_init_8 rfl ac_byte (by decide) (by decide) (by decide) rfl rfl ?_
  simp only [List.cons_append, List.nil_append]
  refine wp_putfinal 13 7 0 _ d_Text_init_10 rfl fp_Text_9 rfl rfl rfl (fun _ => ⟨rfl, rfl⟩) ?_
  dsimp only [List.set]
  refine wp_aload_n 14 d_Text_init_13 rfl rfl ?_
  refine wp_bipush 16 24 d_Text_init_14 rfl (by decide) ?_
  refine wp_newarray_long 18 24 2 d_Text_init_16 rfl ac_long (by decide) (by decide) (by decide) rfl rfl ?_
  simp only [List.cons_append, List.nil_append]
  refine wp_putfinal 21 7 1 _ d_Text_init_18 rfl fp_Text_15 rfl rfl rfl (fun _ => ⟨rfl, rfl⟩) ?_
  dsimp only [List.set]
  refine wp_aload_n 22 d_Text_init_21 rfl rfl ?_
  refine wp_sipush 25 901 d_Text_init_22 rfl (by decide) ?_
  refine wp_newarray_int 27 901 3 d_Text_init_25 rfl ac_int (by decide) (by decide) (by decide) rfl rfl ?_
  simp only [List.cons_append, List.nil_append]
  refine wp_putfinal 30 7 2 _ d_Text_init_27 rfl fp_Text_19 rfl rfl rfl (fun _ => ⟨rfl, rfl⟩) ?_
  dsimp only [List.set]
  refine wp_aload_n 31 d_Text_init_30 rfl rfl ?_
  refine wp_sipush 34 901 d_Text_init_31 rfl (by decide) ?_
  refine wp_newarray_int 36 901 4 d_Text_init_34 rfl ac_int (by decide) (by decide) (by decide) rfl rfl ?_
  simp only [List.cons_append, List.nil_append]
  refine wp_putfinal 39 7 3 _ d_Text_init_36 rfl fp_Text_23 rfl rfl rfl (fun _ => ⟨rfl, rfl⟩) ?_
  dsimp only [List.set]
  refine wp_aload_n 40 d_Text_init_39 rfl rfl ?_
  refine wp_sipush 43 901 d_Text_init_40 rfl (by decide) ?_
  refine wp_newarray_long 45 901 5 d_Text_init_43 rfl ac_long (by decide) (by decide) (by decide) rfl rfl ?_
  simp only [List.cons_append, List.nil_append]
  refine wp_putfinal 48 7 4 _ d_Text_init_45 rfl fp_Text_26 rfl rfl rfl (fun _ => ⟨rfl, rfl⟩) ?_
  dsimp only [List.set]
  refine wp_aload_n 49 d_Text_init_48 rfl rfl ?_
  refine wp_iconst 50 0 d_Text_init_49 rfl (by decide) ?_
  refine wp_putfield 53 7 5 _ d_Text_init_50 rfl fp_Text_29 rfl rfl (okP_int _) ?_
  dsimp only [List.set]
  refine wp_aload_n 54 d_Text_init_53 rfl rfl ?_
  refine wp_iconst 55 0 d_Text_init_54 rfl (by decide) ?_
  refine wp_putfield 58 7 6 _ d_Text_init_55 rfl fp_Text_33 rfl rfl (okP_int _) ?_
  dsimp only [List.set]
  refine wp_aload_n 59 d_Text_init_58 rfl rfl ?_
  refine wp_iconst 60 0 d_Text_init_59 rfl (by decide) ?_
  refine wp_putfield 63 7 7 _ d_Text_init_60 rfl fp_Text_36 rfl rfl (okP_int _) ?_
  dsimp only [List.set]
  refine wp_aload_n 64 d_Text_init_63 rfl rfl ?_
  refine wp_iconst 65 0 d_Text_init_64 rfl (by decide) ?_
  refine wp_putfield 68 7 8 _ d_Text_init_65 rfl fp_Text_39 rfl rfl (okP_int _) ?_
  dsimp only [List.set]
  refine wp_aload_n 69 d_Text_init_68 rfl rfl ?_
  refine wp_iconst 70 0 d_Text_init_69 rfl (by decide) ?_
  refine wp_putfield 73 7 9 _ d_Text_init_70 rfl fp_Text_42 rfl rfl (okP_int _) ?_
  dsimp only [List.set]
  refine wp_aload_n 74 d_Text_init_73 rfl rfl ?_
  refine wp_iconst 75 0 d_Text_init_74 rfl (by decide) ?_
  refine wp_putfield 78 7 10 _ d_Text_init_75 rfl fp_Text_45 rfl rfl (okP_int _) ?_
  dsimp only [List.set]
  refine wp_aload_n 79 d_Text_init_78 rfl rfl ?_
  refine wp_iconst 80 (-1) d_Text_init_79 rfl (by decide) ?_
  refine wp_putfield 83 7 11 _ d_Text_init_80 rfl fp_Text_48 rfl rfl (okP_int _) ?_
  dsimp only [List.set]
  refine wp_aload_n 84 d_Text_init_83 rfl rfl ?_
  refine wp_iconst 85 0 d_Text_init_84 rfl (by decide) ?_
  refine wp_putfield 88 7 12 _ d_Text_init_85 rfl fp_Text_51 rfl rfl (okP_int _) ?_
  dsimp only [List.set]
  refine wp_aload_n 89 d_Text_init_88 rfl rfl ?_
  refine wp_lconst 90 0 d_Text_init_89 rfl (by decide) ?_
  refine wp_putfield 93 7 13 _ d_Text_init_90 rfl fp_Text_54 rfl rfl (okP_long _) ?_
  dsimp only [List.set]
  refine wp_aload_n 94 d_Text_init_93 rfl rfl ?_
  refine wp_iconst 95 (-1) d_Text_init_94 rfl (by decide) ?_
  refine wp_putfield 98 7 14 _ d_Text_init_95 rfl fp_Text_58 rfl rfl (okP_int _) ?_
  dsimp only [List.set]
  refine wp_aload_n 99 d_Text_init_98 rfl rfl ?_
  refine wp_iconst 100 (-1) d_Text_init_99 rfl (by decide) ?_
  refine wp_putfield 103 7 15 _ d_Text_init_100 rfl fp_Text_61 rfl rfl (okP_int _) ?_
  dsimp only [List.set]
  refine wp_iconst 104 0 d_Text_init_103 rfl (by decide) ?_
  refine wp_istore_1 105 d_Text_init_104 rfl rfl rfl ?_
  refine wp_lconst 106 0 d_Text_init_105 rfl (by decide) ?_
  refine wp_lstore_2 107 d_Text_init_106 rfl rfl rfl ?_
  refine wp_iconst 108 0 d_Text_init_107 rfl (by decide) ?_
  refine wp_istore_4 110 d_Text_init_108 rfl rfl rfl ?_
  exact l_Text_init_110 135 0 (fun _ => 0, 0, 0) none (by omega) ⟨Nat.zero_le 24, hq⟩

end T49
