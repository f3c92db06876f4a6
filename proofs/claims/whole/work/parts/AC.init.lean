/-! ===== the reference: its beginning ===== -/
section TAC
variable {Γ : Gm} {Q : Option Value → LH → Prop}
set_option maxRecDepth 100000 in
set_option maxHeartbeats 8000000 in
theorem c_Mo_init (hq : ∀ a : Nat → Int32, (∀ j, j < 450 → a j = plC j) → (∀ j, 450 ≤ j → a j = 0) → Q none (hM (a) ((fun _ => 0)) (0) (0) (1) ((fun _ => 0)) ((upd (upd (upd (upd (fun _ => 0) 0 (-1)) 1 (-1)) 2 (-1)) 3 (-1))) ((fun _ => 0)) ((fun _ => 0)) ((fun _ => 0)) (0) (0) (0) (0) (0) (0) ((-1)) ((-1)) (0) (0) (0) ((fun _ => 0)) (0) (0) ((fun _ => 0)) ((fun _ => 0)) ((fun _ => 0)) ((fun _ => 0)) ((fun _ => 0)) ((fun _ => 0)) ((fun _ => 0)) (0) (0) (0) ((fun _ => 0)) ((fun _ => 0)) ((fun _ => 0)) (0) ((fun _ => 0)) ((fun _ => 0)) ((fun _ => 0)) ((fun _ => 0)) ((fun _ => 0)) (0) (0) ((fun _ => 0)) ((fun _ => 0)) ((fun _ => 0)) (0) (0))) : Call Γ M_Mo_init 2 26 13260 [.ref 0] [cO 12 [.null, .null, .int 0, .long 0, .long 0, .null, .null, .null, .null, .null, .int 0, .int 0, .int 0, .int 0, .int 0, .int 0, .int 0, .int 0, .int 0, .int 0, .int 0, .null, .int 0, .int 0, .null, .null, .null, .null, .null, .null, .null, .int 0, .int 0, .int 0, .null, .null, .null, .int 0, .null, .null, .null, .null, .null, .int 0, .int 0, .null, .null, .null, .int 0, .int 0]] Q := by
  refine call_intro (ls := [some (.ref 0)]) rfl rfl rfl ?_
  refine wp_aload_n 1 d_Mo_init_0 rfl rfl ?_
  refine wp_objInit 4 d_Mo_init_1 rfl lo_Mo_1 oi_inst oi_code (by decide) (by decide) ?_
  refine wp_aload_n 5 d_Mo_init_4 rfl rfl ?_
  refine wp_sipush 8 2332 d_Mo_init_5 rfl (by decide) ?_
  refine wp_newarray_int 10 2332 1 d_Mo_init_8 rfl ac_int (by decide) (by decide) (by decide) rfl rfl ?_
  simp only [List.cons_append, List.nil_append]
  refine wp_putfinal 13 12 0 _ d_Mo_init_10 rfl fp_Mo_7 rfl rfl rfl (fun _ => ⟨rfl, rfl⟩) ?_
  dsimp only [List.set]
  refine wp_aload_n 14 d_Mo_init_13 rfl rfl ?_
  refine wp_bipush 16 66 d_Mo_init_14 rfl (by decide) ?_
  refine wp_newarray_long 18 66 2 d_Mo_init_16 rfl ac_long (by decide) (by decide) (by decide) rfl rfl ?_
  simp only [List.cons_append, List.nil_append]
  refine wp_putfinal 21 12 1 _ d_Mo_init_18 rfl fp_Mo_13 rfl rfl rfl (fun _ => ⟨rfl, rfl⟩) ?_
  dsimp only [List.set]
  refine wp_aload_n 22 d_Mo_init_21 rfl rfl ?_
  refine wp_lconst 23 1 d_Mo_init_22 rfl (by decide) ?_
  refine wp_putfield 26 12 4 _ d_Mo_init_23 rfl fp_Mo_17 rfl rfl (okP_long _) ?_
  dsimp only [List.set]
  refine wp_aload_n 27 d_Mo_init_26 rfl rfl ?_
  refine wp_iconst 28 4 d_Mo_init_27 rfl (by decide) ?_
  refine wp_newarray_int 30 4 3 d_Mo_init_28 rfl ac_int (by decide) (by decide) (by decide) rfl rfl ?_
  simp only [List.cons_append, List.nil_append]
  refine wp_putfinal 33 12 5 _ d_Mo_init_30 rfl fp_Mo_21 rfl rfl rfl (fun _ => ⟨rfl, rfl⟩) ?_
  dsimp only [List.set]
  refine wp_aload_n 34 d_Mo_init_33 rfl rfl ?_
  refine wp_iconst 35 4 d_Mo_init_34 rfl (by decide) ?_
  refine wp_newarray_int 37 4 4 d_Mo_init_35 rfl ac_int (by decide) (by decide) (by decide) rfl rfl ?_
  simp only [List.cons_append, List.nil_append]
  refine wp_dup 38 d_Mo_init_37 rfl rfl ?_
  refine wp_iconst 39 0 d_Mo_init_38 rfl (by decide) ?_
  refine wp_iconst 40 (-1) d_Mo_init_39 rfl (by decide) ?_
  refine wp_iastore 41 d_Mo_init_40 rfl rfl (vp_in_nI (n := 0) (N := 4) (by omega) (by omega)) ?_
  dsimp only [List.set]
  refine wp_dup 42 d_Mo_init_41 rfl rfl ?_
  refine wp_iconst 43 1 d_Mo_init_42 rfl (by decide) ?_
  refine wp_iconst 44 (-1) d_Mo_init_43 rfl (by decide) ?_
  refine wp_iastore 45 d_Mo_init_44 rfl rfl (vp_in_nI (n := 1) (N := 4) (by omega) (by omega)) ?_
  dsimp only [List.set]
  refine wp_dup 46 d_Mo_init_45 rfl rfl ?_
  refine wp_iconst 47 2 d_Mo_init_46 rfl (by decide) ?_
  refine wp_iconst 48 (-1) d_Mo_init_47 rfl (by decide) ?_
  refine wp_iastore 49 d_Mo_init_48 rfl rfl (vp_in_nI (n := 2) (N := 4) (by omega) (by omega)) ?_
  dsimp only [List.set]
  refine wp_dup 50 d_Mo_init_49 rfl rfl ?_
  refine wp_iconst 51 3 d_Mo_init_50 rfl (by decide) ?_
  refine wp_iconst 52 (-1) d_Mo_init_51 rfl (by decide) ?_
  refine wp_iastore 53 d_Mo_init_52 rfl rfl (vp_in_nI (n := 3) (N := 4) (by omega) (by omega)) ?_
  dsimp only [List.set]
  refine wp_putfinal 56 12 6 _ d_Mo_init_53 rfl fp_Mo_24 rfl rfl rfl (fun _ => ⟨rfl, rfl⟩) ?_
  dsimp only [List.set]
  refine wp_aload_n 57 d_Mo_init_56 rfl rfl ?_
  refine wp_sipush 60 240 d_Mo_init_57 rfl (by decide) ?_
  refine wp_newarray_long 62 240 5 d_Mo_init_60 rfl ac_long (by decide) (by decide) (by decide) rfl rfl ?_
  simp only [List.cons_append, List.nil_append]
  refine wp_putfinal 65 12 7 _ d_Mo_init_62 rfl fp_Mo_27 rfl rfl rfl (fun _ => ⟨rfl, rfl⟩) ?_
  dsimp only [List.set]
  refine wp_aload_n 66 d_Mo_init_65 rfl rfl ?_
  refine wp_sipush 69 900 d_Mo_init_66 rfl (by decide) ?_
  refine wp_newarray_byte 71 900 6 d_Mo_init_69 rfl ac_byte (by decide) (by decide) (by decide) rfl rfl ?_
  simp only [List.cons_append, List.nil_append]
  refine wp_putfinal 74 12 8 _ d_Mo_init_71 rfl fp_Mo_30 rfl rfl rfl (fun _ => ⟨rfl, rfl⟩) ?_
  dsimp only [List.set]
  refine wp_aload_n 75 d_Mo_init_74 rfl rfl ?_
  refine wp_sipush 78 900 d_Mo_init_75 rfl (by decide) ?_
  refine wp_newarray_byte 80 900 7 d_Mo_init_78 rfl ac_byte (by decide) (by decide) (by decide) rfl rfl ?_
  simp only [List.cons_append, List.nil_append]
  refine wp_putfinal 83 12 9 _ d_Mo_init_80 rfl fp_Mo_34 rfl rfl rfl (fun _ => ⟨rfl, rfl⟩) ?_
  dsimp only [List.set]
  refine wp_aload_n 84 d_Mo_init_83 rfl rfl ?_
  refine wp_iconst 85 (-1) d_Mo_init_84 rfl (by decide) ?_
  refine wp_putfield 88 12 16 _ d_Mo_init_85 rfl fp_Mo_37 rfl rfl (okP_int _) ?_
  dsimp only [List.set]
  refine wp_aload_n 89 d_Mo_init_88 rfl rfl ?_
  refine wp_iconst 90 (-1) d_Mo_init_89 rfl (by decide) ?_
  refine wp_putfield 93 12 17 _ d_Mo_init_90 rfl fp_Mo_41 rfl rfl (okP_int _) ?_
  dsimp only [List.set]
  refine wp_aload_n 94 d_Mo_init_93 rfl rfl ?_
  refine wp_iconst 95 3 d_Mo_init_94 rfl (by decide) ?_
  refine wp_newarray_int 97 3 8 d_Mo_init_95 rfl ac_int (by decide) (by decide) (by decide) rfl rfl ?_
  simp only [List.cons_append, List.nil_append]
  refine wp_putfinal 100 12 21 _ d_Mo_init_97 rfl fp_Mo_44 rfl rfl rfl (fun _ => ⟨rfl, rfl⟩) ?_
  dsimp only [List.set]
  refine wp_aload_n 101 d_Mo_init_100 rfl rfl ?_
  refine wp_bipush 103 7 d_Mo_init_101 rfl (by decide) ?_
  refine wp_newarray_int 105 7 9 d_Mo_init_103 rfl ac_int (by decide) (by decide) (by decide) rfl rfl ?_
  simp only [List.cons_append, List.nil_append]
  refine wp_putfinal 108 12 24 _ d_Mo_init_105 rfl fp_Mo_47 rfl rfl rfl (fun _ => ⟨rfl, rfl⟩) ?_
  dsimp only [List.set]
  refine wp_aload_n 109 d_Mo_init_108 rfl rfl ?_
  refine wp_bipush 111 7 d_Mo_init_109 rfl (by decide) ?_
  refine wp_newarray_int 113 7 10 d_Mo_init_111 rfl ac_int (by decide) (by decide) (by decide) rfl rfl ?_
  simp only [List.cons_append, List.nil_append]
  refine wp_putfinal 116 12 25 _ d_Mo_init_113 rfl fp_Mo_50 rfl rfl rfl (fun _ => ⟨rfl, rfl⟩) ?_
  dsimp only [List.set]
  refine wp_aload_n 117 d_Mo_init_116 rfl rfl ?_
  refine wp_bipush 119 7 d_Mo_init_117 rfl (by decide) ?_
  refine wp_newarray_int 121 7 11 d_Mo_init_119 rfl ac_int (by decide) (by decide) (by decide) rfl rfl ?_
  simp only [List.cons_append, List.nil_append]
  refine wp_putfinal 124 12 26 _ d_Mo_init_121 rfl fp_Mo_53 rfl rfl rfl (fun _ => ⟨rfl, rfl⟩) ?_
  dsimp only [List.set]
  refine wp_aload_n 125 d_Mo_init_124 rfl rfl ?_
  refine wp_sipush 128 576 d_Mo_init_125 rfl (by decide) ?_
  refine wp_newarray_int 130 576 12 d_Mo_init_128 rfl ac_int (by decide) (by decide) (by decide) rfl rfl ?_
  simp only [List.cons_append, List.nil_append]
  refine wp_putfinal 133 12 27 _ d_Mo_init_130 rfl fp_Mo_56 rfl rfl rfl (fun _ => ⟨rfl, rfl⟩) ?_
  dsimp only [List.set]
  refine wp_aload_n 134 d_Mo_init_133 rfl rfl ?_
  refine wp_sipush 137 4032 d_Mo_init_134 rfl (by decide) ?_
  refine wp_newarray_int 139 4032 13 d_Mo_init_137 rfl ac_int (by decide) (by decide) (by decide) rfl rfl ?_
  simp only [List.cons_append, List.nil_append]
  refine wp_putfinal 142 12 28 _ d_Mo_init_139 rfl fp_Mo_59 rfl rfl rfl (fun _ => ⟨rfl, rfl⟩) ?_
  dsimp only [List.set]
  refine wp_aload_n 143 d_Mo_init_142 rfl rfl ?_
  refine wp_sipush 146 4032 d_Mo_init_143 rfl (by decide) ?_
  refine wp_newarray_int 148 4032 14 d_Mo_init_146 rfl ac_int (by decide) (by decide) (by decide) rfl rfl ?_
  simp only [List.cons_append, List.nil_append]
  refine wp_putfinal 151 12 29 _ d_Mo_init_148 rfl fp_Mo_62 rfl rfl rfl (fun _ => ⟨rfl, rfl⟩) ?_
  dsimp only [List.set]
  refine wp_aload_n 152 d_Mo_init_151 rfl rfl ?_
  refine wp_iconst 153 4 d_Mo_init_152 rfl (by decide) ?_
  refine wp_newarray_int 155 4 15 d_Mo_init_153 rfl ac_int (by decide) (by decide) (by decide) rfl rfl ?_
  simp only [List.cons_append, List.nil_append]
  refine wp_putfinal 158 12 30 _ d_Mo_init_155 rfl fp_Mo_65 rfl rfl rfl (fun _ => ⟨rfl, rfl⟩) ?_
  dsimp only [List.set]
  refine wp_aload_n 159 d_Mo_init_158 rfl rfl ?_
  refine wp_bipush 161 7 d_Mo_init_159 rfl (by decide) ?_
  refine wp_newarray_int 163 7 16 d_Mo_init_161 rfl ac_int (by decide) (by decide) (by decide) rfl rfl ?_
  simp only [List.cons_append, List.nil_append]
  refine wp_putfinal 166 12 34 _ d_Mo_init_163 rfl fp_Mo_68 rfl rfl rfl (fun _ => ⟨rfl, rfl⟩) ?_
  dsimp only [List.set]
  refine wp_aload_n 167 d_Mo_init_166 rfl rfl ?_
  refine wp_bipush 169 8 d_Mo_init_167 rfl (by decide) ?_
  refine wp_newarray_int 171 8 17 d_Mo_init_169 rfl ac_int (by decide) (by decide) (by decide) rfl rfl ?_
  simp only [List.cons_append, List.nil_append]
  refine wp_putfinal 174 12 35 _ d_Mo_init_171 rfl fp_Mo_71 rfl rfl rfl (fun _ => ⟨rfl, rfl⟩) ?_
  dsimp only [List.set]
  refine wp_aload_n 175 d_Mo_init_174 rfl rfl ?_
  refine wp_bipush 177 8 d_Mo_init_175 rfl (by decide) ?_
  refine wp_newarray_int 179 8 18 d_Mo_init_177 rfl ac_int (by decide) (by decide) (by decide) rfl rfl ?_
  simp only [List.cons_append, List.nil_append]
  refine wp_putfinal 182 12 36 _ d_Mo_init_179 rfl fp_Mo_74 rfl rfl rfl (fun _ => ⟨rfl, rfl⟩) ?_
  dsimp only [List.set]
  refine wp_aload_n 183 d_Mo_init_182 rfl rfl ?_
  refine wp_iconst 184 5 d_Mo_init_183 rfl (by decide) ?_
  refine wp_newarray_int 186 5 19 d_Mo_init_184 rfl ac_int (by decide) (by decide) (by decide) rfl rfl ?_
  simp only [List.cons_append, List.nil_append]
  refine wp_putfinal 189 12 38 _ d_Mo_init_186 rfl fp_Mo_77 rfl rfl rfl (fun _ => ⟨rfl, rfl⟩) ?_
  dsimp only [List.set]
  refine wp_aload_n 190 d_Mo_init_189 rfl rfl ?_
  refine wp_iconst 191 5 d_Mo_init_190 rfl (by decide) ?_
  refine wp_newarray_int 193 5 20 d_Mo_init_191 rfl ac_int (by decide) (by decide) (by decide) rfl rfl ?_
  simp only [List.cons_append, List.nil_append]
  refine wp_putfinal 196 12 39 _ d_Mo_init_193 rfl fp_Mo_80 rfl rfl rfl (fun _ => ⟨rfl, rfl⟩) ?_
  dsimp only [List.set]
  refine wp_aload_n 197 d_Mo_init_196 rfl rfl ?_
  refine wp_iconst 198 5 d_Mo_init_197 rfl (by decide) ?_
  refine wp_newarray_int 200 5 21 d_Mo_init_198 rfl ac_int (by decide) (by decide) (by decide) rfl rfl ?_
  simp only [List.cons_append, List.nil_append]
  refine wp_putfinal 203 12 40 _ d_Mo_init_200 rfl fp_Mo_83 rfl rfl rfl (fun _ => ⟨rfl, rfl⟩) ?_
  dsimp only [List.set]
  refine wp_aload_n 204 d_Mo_init_203 rfl rfl ?_
  refine wp_iconst 205 5 d_Mo_init_204 rfl (by decide) ?_
  refine wp_newarray_int 207 5 22 d_Mo_init_205 rfl ac_int (by decide) (by decide) (by decide) rfl rfl ?_
  simp only [List.cons_append, List.nil_append]
  refine wp_putfinal 210 12 41 _ d_Mo_init_207 rfl fp_Mo_86 rfl rfl rfl (fun _ => ⟨rfl, rfl⟩) ?_
  dsimp only [List.set]
  refine wp_aload_n 211 d_Mo_init_210 rfl rfl ?_
  refine wp_bipush 213 13 d_Mo_init_211 rfl (by decide) ?_
  refine wp_newarray_long 215 13 23 d_Mo_init_213 rfl ac_long (by decide) (by decide) (by decide) rfl rfl ?_
  simp only [List.cons_append, List.nil_append]
  refine wp_putfinal 218 12 42 _ d_Mo_init_215 rfl fp_Mo_89 rfl rfl rfl (fun _ => ⟨rfl, rfl⟩) ?_
  dsimp only [List.set]
  refine wp_aload_n 219 d_Mo_init_218 rfl rfl ?_
  refine wp_bipush 221 80 d_Mo_init_219 rfl (by decide) ?_
  refine wp_newarray_int 223 80 24 d_Mo_init_221 rfl ac_int (by decide) (by decide) (by decide) rfl rfl ?_
  simp only [List.cons_append, List.nil_append]
  refine wp_putfinal 226 12 45 _ d_Mo_init_223 rfl fp_Mo_92 rfl rfl rfl (fun _ => ⟨rfl, rfl⟩) ?_
  dsimp only [List.set]
  refine wp_aload_n 227 d_Mo_init_226 rfl rfl ?_
  refine wp_iconst 228 5 d_Mo_init_227 rfl (by decide) ?_
  refine wp_newarray_int 230 5 25 d_Mo_init_228 rfl ac_int (by decide) (by decide) (by decide) rfl rfl ?_
  simp only [List.cons_append, List.nil_append]
  refine wp_putfinal 233 12 46 _ d_Mo_init_230 rfl fp_Mo_95 rfl rfl rfl (fun _ => ⟨rfl, rfl⟩) ?_
  dsimp only [List.set]
  refine wp_aload_n 234 d_Mo_init_233 rfl rfl ?_
  refine wp_iconst 235 5 d_Mo_init_234 rfl (by decide) ?_
  refine wp_newarray_int 237 5 26 d_Mo_init_235 rfl ac_int (by decide) (by decide) (by decide) rfl rfl ?_
  simp only [List.cons_append, List.nil_append]
  refine wp_putfinal 240 12 47 _ d_Mo_init_237 rfl fp_Mo_98 rfl rfl rfl (fun _ => ⟨rfl, rfl⟩) ?_
  dsimp only [List.set]
  refine wp_aload_n 241 d_Mo_init_240 rfl rfl ?_
  refine wp_iconst 242 0 d_Mo_init_241 rfl (by decide) ?_
  refine hEq (hM ((fun _ => 0)) ((fun _ => 0)) (0) (0) (1) ((fun _ => 0)) ((upd (upd (upd (upd (fun _ => 0) 0 (-1)) 1 (-1)) 2 (-1)) 3 (-1))) ((fun _ => 0)) ((fun _ => 0)) ((fun _ => 0)) (0) (0) (0) (0) (0) (0) ((-1)) ((-1)) (0) (0) (0) ((fun _ => 0)) (0) (0) ((fun _ => 0)) ((fun _ => 0)) ((fun _ => 0)) ((fun _ => 0)) ((fun _ => 0)) ((fun _ => 0)) ((fun _ => 0)) (0) (0) (0) ((fun _ => 0)) ((fun _ => 0)) ((fun _ => 0)) (0) ((fun _ => 0)) ((fun _ => 0)) ((fun _ => 0)) ((fun _ => 0)) ((fun _ => 0)) (0) (0) ((fun _ => 0)) ((fun _ => 0)) ((fun _ => 0)) (0) (0)) rfl ?_
  refine wp_V1 245 M_Mo_plain 1 d_Mo_init_242 rfl mv_Mo_plain lk_Mo_101 rfl rfl rfl rfl rfl ?_
  refine c_Mo_plain (fun a g1 g2 => ?_)
  refine kV ?_
  refine wp_return d_Mo_init_245 rfl ?_
  exact hq a g1 (fun j hj => g2 j hj)
end TAC
