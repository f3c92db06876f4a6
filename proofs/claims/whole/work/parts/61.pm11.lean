/-! ===== the class: its beginning ===== -/
def y0_ : YT := YT.mk (fun _ => 0) 0 0 0
def x0_ : XT := XT.mk (fun _ => 0) (iterN txS 135 0 (fun _ => 0, 0, 0)).1 0 (-1) (-1) (fun _ => 0) (fun _ => 0) (fun _ => 0) 0 0 0 0 0 (-1) 0 0
def t0_ : TW := TW.mk (fun _ => 0) (fun _ => 0) (fun _ => 0) (fun _ => 0) (fun _ => 0) (fun _ => 0) (fun _ => 0) (fun _ => 0) 0 0 0 2 0 (-1) 0
def d0_ : DW := DW.mk (fun _ => 0) (fun _ => 0) (fun _ => 0) 0 0 0
def c0_ : CH := CH.mk (fun _ => 0) (fun _ => 0) (fun _ => 0) (fun _ => 0) (fun _ => 0) (fun _ => 0) (fun _ => 0) 0 0
def u0_ : UT := UT.mk (fun _ => 0) (fun _ => 0) (fun _ => 0) (fun _ => 0) (fun _ => 0) (fun _ => 0) (fun _ => 0) 0 0 (fun _ => 0) (fun _ => 0) (fun _ => 0) (fun _ => 0) (fun _ => 0) (-1) (-1) (-1) 0 (-1) (-1) (-1) (-1)
def w0_ : WT := WT.mk (fun _ => 0) (fun _ => 0) (fun _ => 0) 0 0 (-1) 0
def g0_ : GT := GT.mk (fun _ => 0) (fun _ => 0) 0 0 0 0
def l0_ : LT := LT.mk (fun _ => 0) (fun _ => 0) (fun _ => 0) (fun _ => 0) (fun _ => 0) (fun _ => 0) (fun _ => 0) 0 0 (fun _ => 0) (fun _ => 0) 0 0
section T61
variable {Γ : Gm} {Q : Option Value → LH → Prop}
set_option maxRecDepth 100000 in
set_option maxHeartbeats 8000000 in
theorem c_PM_init (hq : Q none (hPM (fun _ => y0_) (x0_) (t0_) (t0_) (fun _ => t0_) (d0_) (d0_) (fun _ => d0_) (c0_) (u0_) (w0_) (g0_) (l0_) (fun _ => 0) (0) (0) (0) (0) (1))) : Call Γ M_PM_init 7 123 15894 [.ref 0] [cO 11 [.null, .null, .null, .null, .null, .null, .null, .null, .null, .null, .null, .null, .null, .null, .int 0, .int 0, .int 0, .long 0, .long 0]] Q := by
  refine call_intro (ls := [some (.ref 0), none]) rfl rfl rfl ?_
  refine wp_aload_n 1 d_PM_init_0 rfl rfl ?_
  refine wp_objInit 4 d_PM_init_1 rfl lo_PM_1 oi_inst oi_code (by decide) (by decide) ?_
  refine wp_aload_n 5 d_PM_init_4 rfl rfl ?_
  refine wp_iconst 6 4 d_PM_init_5 rfl (by decide) ?_
  refine wp_anewarray 9 "PacedMap$Tray" 4 4 1 [none, none, none, none] d_PM_init_6 rfl cw_PM_9 ao_Tray (fun _ => rfl) (by decide) (by decide) (by decide) rfl rfl rfl ?_
  simp only [List.cons_append, List.nil_append]
  refine wp_putfinal 12 11 0 _ d_PM_init_9 rfl fp_PM_11 rfl rfl rfl (fun _ => ⟨rfl, rfl⟩) ?_
  dsimp only [List.set]
  refine wp_aload_n 13 d_PM_init_12 rfl rfl ?_
  refine wp_new 16 7 16 2 [.null, .null, .null, .null, .null, .int 0, .int 0, .int 0, .int 0, .int 0, .int 0, .int 0, .int 0, .long 0, .int 0, .int 0] d_PM_init_13 rfl nw_PM_15 rfl rfl ?_
  simp only [List.cons_append, List.nil_append]
  refine wp_dup 17 d_PM_init_16 rfl rfl ?_
  refine wx0 (b' := 0) 20 M_Text_init 6 5 3627 [2] ([cO 7 [.null, .null, .null, .null, .null, .int 0, .int 0, .int 0, .int 0, .int 0, .int 0, .int 0, .int 0, .long 0, .int 0, .int 0]]) d_PM_init_17 rfl mi_Text_init lk_PM_17 rfl rfl rfl rfl rfl rfl ?_
  refine c_Text_init ?_
  refine kX rfl rfl rfl ?_
  simp only [putX, putH, sgx, rC, eV, XB, List.length_cons, List.length_nil, List.take_succ_cons, List.take_zero, List.drop_succ_cons, List.drop_zero, List.map_cons, List.map_nil, List.set_cons_zero, List.set_cons_succ, List.getD_cons_zero, List.getD_cons_succ, List.cons_append, List.nil_append, Nat.zero_add, Nat.reduceAdd, Nat.reduceSub, Nat.reduceLT, Nat.reduceLeDiff, if_true, if_false, ite_true, ite_false]
  refine wp_putfinal 23 11 1 _ d_PM_init_20 rfl fp_PM_18 rfl rfl rfl (fun _ => ⟨rfl, rfl⟩) ?_
  dsimp only [List.set]
  refine wp_aload_n 24 d_PM_init_23 rfl rfl ?_
  refine wp_new 27 8 15 8 [.null, .null, .null, .null, .null, .null, .null, .null, .int 0, .int 0, .int 0, .int 0, .int 0, .int 0, .int 0] d_PM_init_24 rfl nw_PM_22 rfl rfl ?_
  simp only [List.cons_append, List.nil_append]
  refine wp_dup 28 d_PM_init_27 rfl rfl ?_
  refine wxN0 (b' := 0) 31 M_Town_init 1 8 75 [8] ([cO 8 [.null, .null, .null, .null, .null, .null, .null, .null, .int 0, .int 0, .int 0, .int 0, .int 0, .int 0, .int 0]]) d_PM_init_28 rfl mi_Town_init lk_PM_24 rfl rfl rfl rfl rfl rfl ?_
  refine c_Town_init ?_
  refine kX rfl rfl rfl ?_
  simp only [putX, putH, sgx, rC, eV, XB, List.length_cons, List.length_nil, List.take_succ_cons, List.take_zero, List.drop_succ_cons, List.drop_zero, List.map_cons, List.map_nil, List.set_cons_zero, List.set_cons_succ, List.getD_cons_zero, List.getD_cons_succ, List.cons_append, List.nil_append, Nat.zero_add, Nat.reduceAdd, Nat.reduceSub, Nat.reduceLT, Nat.reduceLeDiff, if_true, if_false, ite_true, ite_false]
  refine wp_putfinal 34 11 2 _ d_PM_init_31 rfl fp_PM_25 rfl rfl rfl (fun _ => ⟨rfl, rfl⟩) ?_
  dsimp only [List.set]
  refine wp_aload_n 35 d_PM_init_34 rfl rfl ?_
  refine wp_new 38 8 15 17 [.null, .null, .null, .null, .null, .null, .null, .null, .int 0, .int 0, .int 0, .int 0, .int 0, .int 0, .int 0] d_PM_init_35 rfl nw_PM_22 rfl rfl ?_
  simp only [List.cons_append, List.nil_append]
  refine wp_dup 39 d_PM_init_38 rfl rfl ?_
  refine wxN0 (b' := 0) 42 M_Town_init 1 8 75 [17] ([cO 8 [.null, .null, .null, .null, .null, .null, .null, .null, .int 0, .int 0, .int 0, .int 0, .int 0, .int 0, .int 0]]) d_PM_init_39 rfl mi_Town_init lk_PM_24 rfl rfl rfl rfl rfl rfl ?_
  refine c_Town_init ?_
  refine kX rfl rfl rfl ?_
  simp only [putX, putH, sgx, rC, eV, XB, List.length_cons, List.length_nil, List.take_succ_cons, List.take_zero, List.drop_succ_cons, List.drop_zero, List.map_cons, List.map_nil, List.set_cons_zero, List.set_cons_succ, List.getD_cons_zero, List.getD_cons_succ, List.cons_append, List.nil_append, Nat.zero_add, Nat.reduceAdd, Nat.reduceSub, Nat.reduceLT, Nat.reduceLeDiff, if_true, if_false, ite_true, ite_false]
  refine wp_putfinal 45 11 3 _ d_PM_init_42 rfl fp_PM_29 rfl rfl rfl (fun _ => ⟨rfl, rfl⟩) ?_
  dsimp only [List.set]
  refine wp_aload_n 46 d_PM_init_45 rfl rfl ?_
  refine wp_new 49 1 6 26 [.null, .null, .null, .int 0, .int 0, .int 0] d_PM_init_46 rfl nw_PM_32 rfl rfl ?_
  simp only [List.cons_append, List.nil_append]
  refine wp_dup 50 d_PM_init_49 rfl rfl ?_
  refine wxN0 (b' := 0) 53 M_Days_init 1 3 180 [26] ([cO 1 [.null, .null, .null, .int 0, .int 0, .int 0]]) d_PM_init_50 rfl mi_Days_init lk_PM_34 rfl rfl rfl rfl rfl rfl ?_
  refine c_Days_init ?_
  refine kX rfl rfl rfl ?_
  simp only [putX, putH, sgx, rC, eV, XB, List.length_cons, List.length_nil, List.take_succ_cons, List.take_zero, List.drop_succ_cons, List.drop_zero, List.map_cons, List.map_nil, List.set_cons_zero, List.set_cons_succ, List.getD_cons_zero, List.getD_cons_succ, List.cons_append, List.nil_append, Nat.zero_add, Nat.reduceAdd, Nat.reduceSub, Nat.reduceLT, Nat.reduceLeDiff, if_true, if_false, ite_true, ite_false]
  refine wp_putfinal 56 11 4 _ d_PM_init_53 rfl fp_PM_35 rfl rfl rfl (fun _ => ⟨rfl, rfl⟩) ?_
  dsimp only [List.set]
  refine wp_aload_n 57 d_PM_init_56 rfl rfl ?_
  refine wp_new 60 1 6 30 [.null, .null, .null, .int 0, .int 0, .int 0] d_PM_init_57 rfl nw_PM_32 rfl rfl ?_
  simp only [List.cons_append, List.nil_append]
  refine wp_dup 61 d_PM_init_60 rfl rfl ?_
  refine wxN0 (b' := 0) 64 M_Days_init 1 3 180 [30] ([cO 1 [.null, .null, .null, .int 0, .int 0, .int 0]]) d_PM_init_61 rfl mi_Days_init lk_PM_34 rfl rfl rfl rfl rfl rfl ?_
  refine c_Days_init ?_
  refine kX rfl rfl rfl ?_
  simp only [putX, putH, sgx, rC, eV, XB, List.length_cons, List.length_nil, List.take_succ_cons, List.take_zero, List.drop_succ_cons, List.drop_zero, List.map_cons, List.map_nil, List.set_cons_zero, List.set_cons_succ, List.getD_cons_zero, List.getD_cons_succ, List.cons_append, List.nil_append, Nat.zero_add, Nat.reduceAdd, Nat.reduceSub, Nat.reduceLT, Nat.reduceLeDiff, if_true, if_false, ite_true, ite_false]
  refine wp_putfinal 67 11 5 _ d_PM_init_64 rfl fp_PM_39 rfl rfl rfl (fun _ => ⟨rfl, rfl⟩) ?_
  dsimp only [List.set]
  refine wp_aload_n 68 d_PM_init_67 rfl rfl ?_
  refine wp_iconst 69 3 d_PM_init_68 rfl (by decide) ?_
  refine wp_anewarray 72 "PacedMap$Town" 5 3 34 [none, none, none] d_PM_init_69 rfl cw_PM_22 ao_Town (fun _ => rfl) (by decide) (by decide) (by decide) rfl rfl rfl ?_
  simp only [List.cons_append, List.nil_append]
  refine wp_putfinal 75 11 6 _ d_PM_init_72 rfl fp_PM_42 rfl rfl rfl (fun _ => ⟨rfl, rfl⟩) ?_
  dsimp only [List.set]
  refine wp_aload_n 76 d_PM_init_75 rfl rfl ?_
  refine wp_iconst 77 3 d_PM_init_76 rfl (by decide) ?_
  refine wp_anewarray 80 "PacedMap$Days" 6 3 35 [none, none, none] d_PM_init_77 rfl cw_PM_32 ao_Days (fun _ => rfl) (by decide) (by decide) (by decide) rfl rfl rfl ?_
  simp only [List.cons_append, List.nil_append]
  refine wp_putfinal 83 11 7 _ d_PM_init_80 rfl fp_PM_46 rfl rfl rfl (fun _ => ⟨rfl, rfl⟩) ?_
  dsimp only [List.set]
  refine wp_aload_n 84 d_PM_init_83 rfl rfl ?_
  refine wp_new 87 0 9 36 [.null, .null, .null, .null, .null, .null, .null, .int 0, .int 0] d_PM_init_84 rfl nw_PM_50 rfl rfl ?_
  simp only [List.cons_append, List.nil_append]
  refine wp_dup 88 d_PM_init_87 rfl rfl ?_
  refine wxN0 (b' := 0) 91 M_Chart_init 1 7 59 [36] ([cO 0 [.null, .null, .null, .null, .null, .null, .null, .int 0, .int 0]]) d_PM_init_88 rfl mi_Chart_init lk_PM_52 rfl rfl rfl rfl rfl rfl ?_
  refine c_Chart_init ?_
  refine kX rfl rfl rfl ?_
  simp only [putX, putH, sgx, rC, eV, XB, List.length_cons, List.length_nil, List.take_succ_cons, List.take_zero, List.drop_succ_cons, List.drop_zero, List.map_cons, List.map_nil, List.set_cons_zero, List.set_cons_succ, List.getD_cons_zero, List.getD_cons_succ, List.cons_append, List.nil_append, Nat.zero_add, Nat.reduceAdd, Nat.reduceSub, Nat.reduceLT, Nat.reduceLeDiff, if_true, if_false, ite_true, ite_false]
  refine wp_putfinal 94 11 8 _ d_PM_init_91 rfl fp_PM_53 rfl rfl rfl (fun _ => ⟨rfl, rfl⟩) ?_
  dsimp only [List.set]
  refine wp_aload_n 95 d_PM_init_94 rfl rfl ?_
  refine wp_new 98 3 14 44 [.null, .null, .null, .null, .null, .null, .int 0, .int 0, .int 0, .int 0, .int 0, .int 0, .int 0, .int 0] d_PM_init_95 rfl nw_PM_57 rfl rfl ?_
  simp only [List.cons_append, List.nil_append]
  refine wp_dup 99 d_PM_init_98 rfl rfl ?_
  refine wxN0 (b' := 0) 102 M_Doubts_init 2 13 6196 [44] ([cO 3 [.null, .null, .null, .null, .null, .null, .int 0, .int 0, .int 0, .int 0, .int 0, .int 0, .int 0, .int 0]]) d_PM_init_99 rfl mi_Doubts_init lk_PM_59 rfl rfl rfl rfl rfl rfl ?_
  refine c_Doubts_init ?_
  refine kX rfl rfl rfl ?_
  simp only [putX, putH, sgx, rC, eV, XB, List.length_cons, List.length_nil, List.take_succ_cons, List.take_zero, List.drop_succ_cons, List.drop_zero, List.map_cons, List.map_nil, List.set_cons_zero, List.set_cons_succ, List.getD_cons_zero, List.getD_cons_succ, List.cons_append, List.nil_append, Nat.zero_add, Nat.reduceAdd, Nat.reduceSub, Nat.reduceLT, Nat.reduceLeDiff, if_true, if_false, ite_true, ite_false]
  refine wp_putfinal 105 11 9 _ d_PM_init_102 rfl fp_PM_60 rfl rfl rfl (fun _ => ⟨rfl, rfl⟩) ?_
  dsimp only [List.set]
  refine wp_aload_n 106 d_PM_init_105 rfl rfl ?_
  refine wp_new 109 6 7 58 [.null, .null, .null, .int 0, .int 0, .int 0, .int 0] d_PM_init_106 rfl nw_PM_64 rfl rfl ?_
  simp only [List.cons_append, List.nil_append]
  refine wp_dup 110 d_PM_init_109 rfl rfl ?_
  refine wxN0 (b' := 0) 113 M_Paths_init 1 3 63 [58] ([cO 6 [.null, .null, .null, .int 0, .int 0, .int 0, .int 0]]) d_PM_init_110 rfl mi_Paths_init lk_PM_66 rfl rfl rfl rfl rfl rfl ?_
  refine c_Paths_init ?_
  refine kX rfl rfl rfl ?_
  simp only [putX, putH, sgx, rC, eV, XB, List.length_cons, List.length_nil, List.take_succ_cons, List.take_zero, List.drop_succ_cons, List.drop_zero, List.map_cons, List.map_nil, List.set_cons_zero, List.set_cons_succ, List.getD_cons_zero, List.getD_cons_succ, List.cons_append, List.nil_append, Nat.zero_add, Nat.reduceAdd, Nat.reduceSub, Nat.reduceLT, Nat.reduceLeDiff, if_true, if_false, ite_true, ite_false]
  refine wp_putfinal 116 11 10 _ d_PM_init_113 rfl fp_PM_67 rfl rfl rfl (fun _ => ⟨rfl, rfl⟩) ?_
  dsimp only [List.set]
  refine wp_aload_n 117 d_PM_init_116 rfl rfl ?_
  refine wp_new 120 4 6 62 [.null, .null, .int 0, .int 0, .int 0, .int 0] d_PM_init_117 rfl nw_PM_71 rfl rfl ?_
  simp only [List.cons_append, List.nil_append]
  refine wp_dup 121 d_PM_init_120 rfl rfl ?_
  refine wxN0 (b' := 0) 124 M_Game_init 1 2 4108 [62] ([cO 4 [.null, .null, .int 0, .int 0, .int 0, .int 0]]) d_PM_init_121 rfl mi_Game_init lk_PM_73 rfl rfl rfl rfl rfl rfl ?_
  refine c_Game_init ?_
  refine kX rfl rfl rfl ?_
  simp only [putX, putH, sgx, rC, eV, XB, List.length_cons, List.length_nil, List.take_succ_cons, List.take_zero, List.drop_succ_cons, List.drop_zero, List.map_cons, List.map_nil, List.set_cons_zero, List.set_cons_succ, List.getD_cons_zero, List.getD_cons_succ, List.cons_append, List.nil_append, Nat.zero_add, Nat.reduceAdd, Nat.reduceSub, Nat.reduceLT, Nat.reduceLeDiff, if_true, if_false, ite_true, ite_false]
  refine wp_putfinal 127 11 11 _ d_PM_init_124 rfl fp_PM_74 rfl rfl rfl (fun _ => ⟨rfl, rfl⟩) ?_
  dsimp only [List.set]
  refine wp_aload_n 128 d_PM_init_127 rfl rfl ?_
  refine wp_new 131 5 5 65 [.null, .null, .null, .int 0, .int 0] d_PM_init_128 rfl nw_PM_78 rfl rfl ?_
  simp only [List.cons_append, List.nil_append]
  refine wp_dup 132 d_PM_init_131 rfl rfl ?_
  refine wxN0 (b' := 0) 135 M_Life_init 2 10 133 [65] ([cO 5 [.null, .null, .null, .int 0, .int 0]]) d_PM_init_132 rfl mi_Life_init lk_PM_80 rfl rfl rfl rfl rfl rfl ?_
  refine c_Life_init ?_
  refine kX rfl rfl rfl ?_
  simp only [putX, putH, sgx, rC, eV, XB, List.length_cons, List.length_nil, List.take_succ_cons, List.take_zero, List.drop_succ_cons, List.drop_zero, List.map_cons, List.map_nil, List.set_cons_zero, List.set_cons_succ, List.getD_cons_zero, List.getD_cons_succ, List.cons_append, List.nil_append, Nat.zero_add, Nat.reduceAdd, Nat.reduceSub, Nat.reduceLT, Nat.reduceLeDiff, if_true, if_false, ite_true, ite_false]
  refine wp_putfinal 138 11 12 _ d_PM_init_135 rfl fp_PM_81 rfl rfl rfl (fun _ => ⟨rfl, rfl⟩) ?_
  dsimp only [List.set]
  refine wp_aload_n 139 d_PM_init_138 rfl rfl ?_
  refine wp_iconst 140 5 d_PM_init_139 rfl (by decide) ?_
  refine wp_newarray_int 142 5 76 d_PM_init_140 rfl ac_int (by decide) (by decide) (by decide) rfl rfl ?_
  simp only [List.cons_append, List.nil_append]
  refine wp_putfinal 145 11 13 _ d_PM_init_142 rfl fp_PM_85 rfl rfl rfl (fun _ => ⟨rfl, rfl⟩) ?_
  dsimp only [List.set]
  refine wp_aload_n 146 d_PM_init_145 rfl rfl ?_
  refine wp_iconst 147 0 d_PM_init_146 rfl (by decide) ?_
  refine wp_putfield 150 11 14 _ d_PM_init_147 rfl fp_PM_89 rfl rfl okP_0 ?_
  dsimp only [List.set]
  refine wp_aload_n 151 d_PM_init_150 rfl rfl ?_
  refine wp_iconst 152 0 d_PM_init_151 rfl (by decide) ?_
  refine wp_putfield 155 11 15 _ d_PM_init_152 rfl fp_PM_93 rfl rfl (okP_int _) ?_
  dsimp only [List.set]
  refine wp_aload_n 156 d_PM_init_155 rfl rfl ?_
  refine wp_iconst 157 0 d_PM_init_156 rfl (by decide) ?_
  refine wp_putfield 160 11 16 _ d_PM_init_157 rfl fp_PM_97 rfl rfl (okP_int _) ?_
  dsimp only [List.set]
  refine wp_aload_n 161 d_PM_init_160 rfl rfl ?_
  refine wp_lconst 162 0 d_PM_init_161 rfl (by decide) ?_
  refine wp_putfield 165 11 17 _ d_PM_init_162 rfl fp_PM_100 rfl rfl (okP_long _) ?_
  dsimp only [List.set]
  refine wp_aload_n 166 d_PM_init_165 rfl rfl ?_
  refine wp_lconst 167 1 d_PM_init_166 rfl (by decide) ?_
  refine wp_putfield 170 11 18 _ d_PM_init_167 rfl fp_PM_104 rfl rfl (okP_long _) ?_
  dsimp only [List.set]
  refine wp_iconst 171 0 d_PM_init_170 rfl (by decide) ?_
  refine wp_istore_1 172 d_PM_init_171 rfl rfl rfl ?_
  refine wp_iload_n 173 d_PM_init_172 rfl rfl ?_
  refine wp_iconst 174 4 d_PM_init_173 rfl (by decide) ?_
  refine wp_icmp_ge 196 177 d_PM_init_174 rfl (by decide) (fun h174 => absurd h174 (by decide)) (fun h174 => ?_)
  refine wp_aload_n 178 d_PM_init_177 rfl rfl ?_
  refine wp_getfield 181 11 0 d_PM_init_178 rfl fl_PM_11 rfl rfl ?_
  refine wp_iload_n 182 d_PM_init_181 rfl rfl ?_
  refine wp_new 185 10 4 77 [.null, .int 0, .int 0, .int 0] d_PM_init_182 rfl nw_PM_9 rfl rfl ?_
  simp only [List.cons_append, List.nil_append]
  refine wp_dup 186 d_PM_init_185 rfl rfl ?_
  refine wxN0 (b' := 0) 189 M_Tray_init 1 1 60 [77] ([cO 10 [.null, .int 0, .int 0, .int 0]]) d_PM_init_186 rfl mi_Tray_init lk_PM_107 rfl rfl rfl rfl rfl rfl ?_
  refine c_Tray_init ?_
  refine kX rfl rfl rfl ?_
  simp only [putX, putH, sgx, rC, eV, XB, List.length_cons, List.length_nil, List.take_succ_cons, List.take_zero, List.drop_succ_cons, List.drop_zero, List.map_cons, List.map_nil, List.set_cons_zero, List.set_cons_succ, List.getD_cons_zero, List.getD_cons_succ, List.cons_append, List.nil_append, Nat.zero_add, Nat.reduceAdd, Nat.reduceSub, Nat.reduceLT, Nat.reduceLeDiff, if_true, if_false, ite_true, ite_false]
  refine wp_aastore 190 4 10 0 d_PM_init_189 rfl rfl (fun _ => rfl) rfl rfl rfl (show vp_in (nI 0) _ from vp_in_nI (by decide) (by decide)) (by decide) ?_
  dsimp only [List.set]
  refine wp_iinc_1 193 1 d_PM_init_190 rfl (by decide) rfl rfl ?_
  refine wp_goto 172 d_PM_init_193 (by decide) ?_
  refine wp_iload_n 173 d_PM_init_172 rfl rfl ?_
  refine wp_iconst 174 4 d_PM_init_173 rfl (by decide) ?_
  refine wp_icmp_ge 196 177 d_PM_init_174 rfl (by decide) (fun h174 => absurd h174 (by decide)) (fun h174 => ?_)
  refine wp_aload_n 178 d_PM_init_177 rfl rfl ?_
  refine wp_getfield 181 11 0 d_PM_init_178 rfl fl_PM_11 rfl rfl ?_
  refine wp_iload_n 182 d_PM_init_181 rfl rfl ?_
  refine wp_new 185 10 4 79 [.null, .int 0, .int 0, .int 0] d_PM_init_182 rfl nw_PM_9 rfl rfl ?_
  simp only [List.cons_append, List.nil_append]
  refine wp_dup 186 d_PM_init_185 rfl rfl ?_
  refine wxN0 (b' := 0) 189 M_Tray_init 1 1 60 [79] ([cO 10 [.null, .int 0, .int 0, .int 0]]) d_PM_init_186 rfl mi_Tray_init lk_PM_107 rfl rfl rfl rfl rfl rfl ?_
  refine c_Tray_init ?_
  refine kX rfl rfl rfl ?_
  simp only [putX, putH, sgx, rC, eV, XB, List.length_cons, List.length_nil, List.take_succ_cons, List.take_zero, List.drop_succ_cons, List.drop_zero, List.map_cons, List.map_nil, List.set_cons_zero, List.set_cons_succ, List.getD_cons_zero, List.getD_cons_succ, List.cons_append, List.nil_append, Nat.zero_add, Nat.reduceAdd, Nat.reduceSub, Nat.reduceLT, Nat.reduceLeDiff, if_true, if_false, ite_true, ite_false]
  refine wp_aastore 190 4 10 1 d_PM_init_189 rfl rfl (fun _ => rfl) rfl rfl rfl (show vp_in (nI 1) _ from vp_in_nI (by decide) (by decide)) (by decide) ?_
  dsimp only [List.set]
  refine wp_iinc_1 193 1 d_PM_init_190 rfl (by decide) rfl rfl ?_
  refine wp_goto 172 d_PM_init_193 (by decide) ?_
  refine wp_iload_n 173 d_PM_init_172 rfl rfl ?_
  refine wp_iconst 174 4 d_PM_init_173 rfl (by decide) ?_
  refine wp_icmp_ge 196 177 d_PM_init_174 rfl (by decide) (fun h174 => absurd h174 (by decide)) (fun h174 => ?_)
  refine wp_aload_n 178 d_PM_init_177 rfl rfl ?_
  refine wp_getfield 181 11 0 d_PM_init_178 rfl fl_PM_11 rfl rfl ?_
  refine wp_iload_n 182 d_PM_init_181 rfl rfl ?_
  refine wp_new 185 10 4 81 [.null, .int 0, .int 0, .int 0] d_PM_init_182 rfl nw_PM_9 rfl rfl ?_
  simp only [List.cons_append, List.nil_append]
  refine wp_dup 186 d_PM_init_185 rfl rfl ?_
  refine wxN0 (b' := 0) 189 M_Tray_init 1 1 60 [81] ([cO 10 [.null, .int 0, .int 0, .int 0]]) d_PM_init_186 rfl mi_Tray_init lk_PM_107 rfl rfl rfl rfl rfl rfl ?_
  refine c_Tray_init ?_
  refine kX rfl rfl rfl ?_
  simp only [putX, putH, sgx, rC, eV, XB, List.length_cons, List.length_nil, List.take_succ_cons, List.take_zero, List.drop_succ_cons, List.drop_zero, List.map_cons, List.map_nil, List.set_cons_zero, List.set_cons_succ, List.getD_cons_zero, List.getD_cons_succ, List.cons_append, List.nil_append, Nat.zero_add, Nat.reduceAdd, Nat.reduceSub, Nat.reduceLT, Nat.reduceLeDiff, if_true, if_false, ite_true, ite_false]
  refine wp_aastore 190 4 10 2 d_PM_init_189 rfl rfl (fun _ => rfl) rfl rfl rfl (show vp_in (nI 2) _ from vp_in_nI (by decide) (by decide)) (by decide) ?_
  dsimp only [List.set]
  refine wp_iinc_1 193 1 d_PM_init_190 rfl (by decide) rfl rfl ?_
  refine wp_goto 172 d_PM_init_193 (by decide) ?_
  refine wp_iload_n 173 d_PM_init_172 rfl rfl ?_
  refine wp_iconst 174 4 d_PM_init_173 rfl (by decide) ?_
  refine wp_icmp_ge 196 177 d_PM_init_174 rfl (by decide) (fun h174 => absurd h174 (by decide)) (fun h174 => ?_)
  refine wp_aload_n 178 d_PM_init_177 rfl rfl ?_
  refine wp_getfield 181 11 0 d_PM_init_178 rfl fl_PM_11 rfl rfl ?_
  refine wp_iload_n 182 d_PM_init_181 rfl rfl ?_
  refine wp_new 185 10 4 83 [.null, .int 0, .int 0, .int 0] d_PM_init_182 rfl nw_PM_9 rfl rfl ?_
  simp only [List.cons_append, List.nil_append]
  refine wp_dup 186 d_PM_init_185 rfl rfl ?_
  refine wxN0 (b' := 0) 189 M_Tray_init 1 1 60 [83] ([cO 10 [.null, .int 0, .int 0, .int 0]]) d_PM_init_186 rfl mi_Tray_init lk_PM_107 rfl rfl rfl rfl rfl rfl ?_
  refine c_Tray_init ?_
  refine kX rfl rfl rfl ?_
  simp only [putX, putH, sgx, rC, eV, XB, List.length_cons, List.length_nil, List.take_succ_cons, List.take_zero, List.drop_succ_cons, List.drop_zero, List.map_cons, List.map_nil, List.set_cons_zero, List.set_cons_succ, List.getD_cons_zero, List.getD_cons_succ, List.cons_append, List.nil_append, Nat.zero_add, Nat.reduceAdd, Nat.reduceSub, Nat.reduceLT, Nat.reduceLeDiff, if_true, if_false, ite_true, ite_false]
  refine wp_aastore 190 4 10 3 d_PM_init_189 rfl rfl (fun _ => rfl) rfl rfl rfl (show vp_in (nI 3) _ from vp_in_nI (by decide) (by decide)) (by decide) ?_
  dsimp only [List.set]
  refine wp_iinc_1 193 1 d_PM_init_190 rfl (by decide) rfl rfl ?_
  refine wp_goto 172 d_PM_init_193 (by decide) ?_
  refine wp_iload_n 173 d_PM_init_172 rfl rfl ?_
  refine wp_iconst 174 4 d_PM_init_173 rfl (by decide) ?_
  refine wp_icmp_ge 196 177 d_PM_init_174 rfl (by decide) (fun h174 => ?_) (fun h174 => absurd (by decide) h174)
  refine wp_iconst 197 0 d_PM_init_196 rfl (by decide) ?_
  refine wp_istore_1 198 d_PM_init_197 rfl rfl rfl ?_
  refine wp_iload_n 199 d_PM_init_198 rfl rfl ?_
  refine wp_iconst 200 3 d_PM_init_199 rfl (by decide) ?_
  refine wp_icmp_ge 235 203 d_PM_init_200 rfl (by decide) (fun h200 => absurd h200 (by decide)) (fun h200 => ?_)
  refine wp_aload_n 204 d_PM_init_203 rfl rfl ?_
  refine wp_getfield 207 11 6 d_PM_init_204 rfl fl_PM_42 rfl rfl ?_
  refine wp_iload_n 208 d_PM_init_207 rfl rfl ?_
  refine wp_new 211 8 15 85 [.null, .null, .null, .null, .null, .null, .null, .null, .int 0, .int 0, .int 0, .int 0, .int 0, .int 0, .int 0] d_PM_init_208 rfl nw_PM_22 rfl rfl ?_
  simp only [List.cons_append, List.nil_append]
  refine wp_dup 212 d_PM_init_211 rfl rfl ?_
  refine wxN0 (b' := 0) 215 M_Town_init 1 8 75 [85] ([cO 8 [.null, .null, .null, .null, .null, .null, .null, .null, .int 0, .int 0, .int 0, .int 0, .int 0, .int 0, .int 0]]) d_PM_init_212 rfl mi_Town_init lk_PM_24 rfl rfl rfl rfl rfl rfl ?_
  refine c_Town_init ?_
  refine kX rfl rfl rfl ?_
  simp only [putX, putH, sgx, rC, eV, XB, List.length_cons, List.length_nil, List.take_succ_cons, List.take_zero, List.drop_succ_cons, List.drop_zero, List.map_cons, List.map_nil, List.set_cons_zero, List.set_cons_succ, List.getD_cons_zero, List.getD_cons_succ, List.cons_append, List.nil_append, Nat.zero_add, Nat.reduceAdd, Nat.reduceSub, Nat.reduceLT, Nat.reduceLeDiff, if_true, if_false, ite_true, ite_false]
  refine wp_aastore 216 5 8 0 d_PM_init_215 rfl rfl (fun _ => rfl) rfl rfl rfl (show vp_in (nI 0) _ from vp_in_nI (by decide) (by decide)) (by decide) ?_
  dsimp only [List.set]
  refine wp_aload_n 217 d_PM_init_216 rfl rfl ?_
  refine wp_getfield 220 11 7 d_PM_init_217 rfl fl_PM_46 rfl rfl ?_
  refine wp_iload_n 221 d_PM_init_220 rfl rfl ?_
  refine wp_new 224 1 6 94 [.null, .null, .null, .int 0, .int 0, .int 0] d_PM_init_221 rfl nw_PM_32 rfl rfl ?_
  simp only [List.cons_append, List.nil_append]
  refine wp_dup 225 d_PM_init_224 rfl rfl ?_
  refine wxN0 (b' := 0) 228 M_Days_init 1 3 180 [94] ([cO 1 [.null, .null, .null, .int 0, .int 0, .int 0]]) d_PM_init_225 rfl mi_Days_init lk_PM_34 rfl rfl rfl rfl rfl rfl ?_
  refine c_Days_init ?_
  refine kX rfl rfl rfl ?_
  simp only [putX, putH, sgx, rC, eV, XB, List.length_cons, List.length_nil, List.take_succ_cons, List.take_zero, List.drop_succ_cons, List.drop_zero, List.map_cons, List.map_nil, List.set_cons_zero, List.set_cons_succ, List.getD_cons_zero, List.getD_cons_succ, List.cons_append, List.nil_append, Nat.zero_add, Nat.reduceAdd, Nat.reduceSub, Nat.reduceLT, Nat.reduceLeDiff, if_true, if_false, ite_true, ite_false]
  refine wp_aastore 229 6 1 0 d_PM_init_228 rfl rfl (fun _ => rfl) rfl rfl rfl (show vp_in (nI 0) _ from vp_in_nI (by decide) (by decide)) (by decide) ?_
  dsimp only [List.set]
  refine wp_iinc_1 232 1 d_PM_init_229 rfl (by decide) rfl rfl ?_
  refine wp_goto 198 d_PM_init_232 (by decide) ?_
  refine wp_iload_n 199 d_PM_init_198 rfl rfl ?_
  refine wp_iconst 200 3 d_PM_init_199 rfl (by decide) ?_
  refine wp_icmp_ge 235 203 d_PM_init_200 rfl (by decide) (fun h200 => absurd h200 (by decide)) (fun h200 => ?_)
  refine wp_aload_n 204 d_PM_init_203 rfl rfl ?_
  refine wp_getfield 207 11 6 d_PM_init_204 rfl fl_PM_42 rfl rfl ?_
  refine wp_iload_n 208 d_PM_init_207 rfl rfl ?_
  refine wp_new 211 8 15 98 [.null, .null, .null, .null, .null, .null, .null, .null, .int 0, .int 0, .int 0, .int 0, .int 0, .int 0, .int 0] d_PM_init_208 rfl nw_PM_22 rfl rfl ?_
  simp only [List.cons_append, List.nil_append]
  refine wp_dup 212 d_PM_init_211 rfl rfl ?_
  refine wxN0 (b' := 0) 215 M_Town_init 1 8 75 [98] ([cO 8 [.null, .null, .null, .null, .null, .null, .null, .null, .int 0, .int 0, .int 0, .int 0, .int 0, .int 0, .int 0]]) d_PM_init_212 rfl mi_Town_init lk_PM_24 rfl rfl rfl rfl rfl rfl ?_
  refine c_Town_init ?_
  refine kX rfl rfl rfl ?_
  simp only [putX, putH, sgx, rC, eV, XB, List.length_cons, List.length_nil, List.take_succ_cons, List.take_zero, List.drop_succ_cons, List.drop_zero, List.map_cons, List.map_nil, List.set_cons_zero, List.set_cons_succ, List.getD_cons_zero, List.getD_cons_succ, List.cons_append, List.nil_append, Nat.zero_add, Nat.reduceAdd, Nat.reduceSub, Nat.reduceLT, Nat.reduceLeDiff, if_true, if_false, ite_true, ite_false]
  refine wp_aastore 216 5 8 1 d_PM_init_215 rfl rfl (fun _ => rfl) rfl rfl rfl (show vp_in (nI 1) _ from vp_in_nI (by decide) (by decide)) (by decide) ?_
  dsimp only [List.set]
  refine wp_aload_n 217 d_PM_init_216 rfl rfl ?_
  refine wp_getfield 220 11 7 d_PM_init_217 rfl fl_PM_46 rfl rfl ?_
  refine wp_iload_n 221 d_PM_init_220 rfl rfl ?_
  refine wp_new 224 1 6 107 [.null, .null, .null, .int 0, .int 0, .int 0] d_PM_init_221 rfl nw_PM_32 rfl rfl ?_
  simp only [List.cons_append, List.nil_append]
  refine wp_dup 225 d_PM_init_224 rfl rfl ?_
  refine wxN0 (b' := 0) 228 M_Days_init 1 3 180 [107] ([cO 1 [.null, .null, .null, .int 0, .int 0, .int 0]]) d_PM_init_225 rfl mi_Days_init lk_PM_34 rfl rfl rfl rfl rfl rfl ?_
  refine c_Days_init ?_
  refine kX rfl rfl rfl ?_
  simp only [putX, putH, sgx, rC, eV, XB, List.length_cons, List.length_nil, List.take_succ_cons, List.take_zero, List.drop_succ_cons, List.drop_zero, List.map_cons, List.map_nil, List.set_cons_zero, List.set_cons_succ, List.getD_cons_zero, List.getD_cons_succ, List.cons_append, List.nil_append, Nat.zero_add, Nat.reduceAdd, Nat.reduceSub, Nat.reduceLT, Nat.reduceLeDiff, if_true, if_false, ite_true, ite_false]
  refine wp_aastore 229 6 1 1 d_PM_init_228 rfl rfl (fun _ => rfl) rfl rfl rfl (show vp_in (nI 1) _ from vp_in_nI (by decide) (by decide)) (by decide) ?_
  dsimp only [List.set]
  refine wp_iinc_1 232 1 d_PM_init_229 rfl (by decide) rfl rfl ?_
  refine wp_goto 198 d_PM_init_232 (by decide) ?_
  refine wp_iload_n 199 d_PM_init_198 rfl rfl ?_
  refine wp_iconst 200 3 d_PM_init_199 rfl (by decide) ?_
  refine wp_icmp_ge 235 203 d_PM_init_200 rfl (by decide) (fun h200 => absurd h200 (by decide)) (fun h200 => ?_)
  refine wp_aload_n 204 d_PM_init_203 rfl rfl ?_
  refine wp_getfield 207 11 6 d_PM_init_204 rfl fl_PM_42 rfl rfl ?_
  refine wp_iload_n 208 d_PM_init_207 rfl rfl ?_
  refine wp_new 211 8 15 111 [.null, .null, .null, .null, .null, .null, .null, .null, .int 0, .int 0, .int 0, .int 0, .int 0, .int 0, .int 0] d_PM_init_208 rfl nw_PM_22 rfl rfl ?_
  simp only [List.cons_append, List.nil_append]
  refine wp_dup 212 d_PM_init_211 rfl rfl ?_
  refine wxN0 (b' := 0) 215 M_Town_init 1 8 75 [111] ([cO 8 [.null, .null, .null, .null, .null, .null, .null, .null, .int 0, .int 0, .int 0, .int 0, .int 0, .int 0, .int 0]]) d_PM_init_212 rfl mi_Town_init lk_PM_24 rfl rfl rfl rfl rfl rfl ?_
  refine c_Town_init ?_
  refine kX rfl rfl rfl ?_
  simp only [putX, putH, sgx, rC, eV, XB, List.length_cons, List.length_nil, List.take_succ_cons, List.take_zero, List.drop_succ_cons, List.drop_zero, List.map_cons, List.map_nil, List.set_cons_zero, List.set_cons_succ, List.getD_cons_zero, List.getD_cons_succ, List.cons_append, List.nil_append, Nat.zero_add, Nat.reduceAdd, Nat.reduceSub, Nat.reduceLT, Nat.reduceLeDiff, if_true, if_false, ite_true, ite_false]
  refine wp_aastore 216 5 8 2 d_PM_init_215 rfl rfl (fun _ => rfl) rfl rfl rfl (show vp_in (nI 2) _ from vp_in_nI (by decide) (by decide)) (by decide) ?_
  dsimp only [List.set]
  refine wp_aload_n 217 d_PM_init_216 rfl rfl ?_
  refine wp_getfield 220 11 7 d_PM_init_217 rfl fl_PM_46 rfl rfl ?_
  refine wp_iload_n 221 d_PM_init_220 rfl rfl ?_
  refine wp_new 224 1 6 120 [.null, .null, .null, .int 0, .int 0, .int 0] d_PM_init_221 rfl nw_PM_32 rfl rfl ?_
  simp only [List.cons_append, List.nil_append]
  refine wp_dup 225 d_PM_init_224 rfl rfl ?_
  refine wxN0 (b' := 0) 228 M_Days_init 1 3 180 [120] ([cO 1 [.null, .null, .null, .int 0, .int 0, .int 0]]) d_PM_init_225 rfl mi_Days_init lk_PM_34 rfl rfl rfl rfl rfl rfl ?_
  refine c_Days_init ?_
  refine kX rfl rfl rfl ?_
  simp only [putX, putH, sgx, rC, eV, XB, List.length_cons, List.length_nil, List.take_succ_cons, List.take_zero, List.drop_succ_cons, List.drop_zero, List.map_cons, List.map_nil, List.set_cons_zero, List.set_cons_succ, List.getD_cons_zero, List.getD_cons_succ, List.cons_append, List.nil_append, Nat.zero_add, Nat.reduceAdd, Nat.reduceSub, Nat.reduceLT, Nat.reduceLeDiff, if_true, if_false, ite_true, ite_false]
  refine wp_aastore 229 6 1 2 d_PM_init_228 rfl rfl (fun _ => rfl) rfl rfl rfl (show vp_in (nI 2) _ from vp_in_nI (by decide) (by decide)) (by decide) ?_
  dsimp only [List.set]
  refine wp_iinc_1 232 1 d_PM_init_229 rfl (by decide) rfl rfl ?_
  refine wp_goto 198 d_PM_init_232 (by decide) ?_
  refine wp_iload_n 199 d_PM_init_198 rfl rfl ?_
  refine wp_iconst 200 3 d_PM_init_199 rfl (by decide) ?_
  refine wp_icmp_ge 235 203 d_PM_init_200 rfl (by decide) (fun h200 => ?_) (fun h200 => absurd (by decide) h200)
  refine wp_return d_PM_init_235 rfl ?_
  exact hq
end T61
