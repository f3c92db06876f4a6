/-! ===== Paths.find; Game ===== -/
abbrev hG (gta : Nat → Int32) (gen : Nat → Int32) (gle : Int32) (gst : Int32) (gtu : Int32) (gan : Int32) : LH := [cO 4 [.ref 1, .ref 2, .int gle, .int gst, .int gtu, .int gan], cI 4096 gta, cI 12 gen]
abbrev hGT (gta : Nat → Int32) (gen : Nat → Int32) (gle : Int32) (gst : Int32) (gtu : Int32) (gan : Int32) (pn : Nat → Int64) (wn : Nat → Int64) (fa : Nat → Int32) (te : Nat → Int32) (fr : Nat → Int32) (to_ : Nat → Int32) (ea : Nat → Int32) (no : Nat → Int32) (pl : Int32) (wa : Int32) (le : Int32) (od : Int32) (sk : Int32) (sd : Int32) (go : Int32) : LH := [cO 4 [.ref 1, .ref 2, .int gle, .int gst, .int gtu, .int gan], cI 4096 gta, cI 12 gen, cO 8 [.ref 4, .ref 5, .ref 6, .ref 7, .ref 8, .ref 9, .ref 10, .ref 11, .int pl, .int wa, .int le, .int od, .int sk, .int sd, .int go], cL 7 pn, cL 4 wn, cI 4 fa, cI 12 te, cI 12 fr, cI 12 to_, cI 12 ea, cI 12 no]
abbrev ush (x k : Int32) : Int32 := (x.toUInt32 >>> (k.toUInt32 &&& Int32.toUInt32 31)).toInt32
def bc1 (x : Int32) : Int32 := x - (ush x 1 &&& 1431655765)
def bc2 (x : Int32) : Int32 := (x &&& 858993459) + (ush x 2 &&& 858993459)
def bc3 (x : Int32) : Int32 := (x + ush x 4) &&& 252645135
def bc4 (x : Int32) : Int32 := x + ush x 8
def bc5 (x : Int32) : Int32 := x + ush x 16
def bcR (x : Int32) : Int32 := bc5 (bc4 (bc3 (bc2 (bc1 x)))) &&& 63
def reIn (nL : Nat) (en : Nat → Int32) (th s : Int32) : Int32 := iterN (fun l s => if hs th (nI l) ∧ ¬ s &&& en l = 0 then s ||| en l else s) nL 0 s
def reO (nL : Nat) (en : Nat → Int32) (th : Int32) : Nat → Int32 → Int32
  | 0, s => s
  | r + 1, s => if reIn nL en th s = s then s else reO nL en th r (reIn nL en th s)
def reF (nL : Nat) (en : Nat → Int32) (an th : Int32) : Int32 := bcR (reO nL en th 7 (if an = 0 then 0 else 1))
def wShift (t : Nat) : Int32 := (4 * nI t) &&& 31
/-- what a set of legs is worth at a turn, by best play, with the table -/
def woR (nL : Nat) (en : Nat → Int32) (an tu : Int32) : Nat → Int32 → Nat → (Nat → Int32) → Int32 × (Nat → Int32)
  | 0, th, t, tb => if 0 < (tb th.toNatClampNeg >>> wShift t) &&& 15 then (((tb th.toNatClampNeg >>> wShift t) &&& 15) - 1, tb)
      else (reF nL en an th, upd tb th.toNatClampNeg (tb th.toNatClampNeg ||| ((reF nL en an th + 1) <<< wShift t)))
  | f + 1, th, t, tb => if 0 < (tb th.toNatClampNeg >>> wShift t) &&& 15 then (((tb th.toNatClampNeg >>> wShift t) &&& 15) - 1, tb)
      else if tu ≤ nI t then (reF nL en an th, upd tb th.toNatClampNeg (tb th.toNatClampNeg ||| ((reF nL en an th + 1) <<< wShift t)))
      else
        let b := iterN (fun l (s : Int32 × (Nat → Int32)) => if (hs th (nI l) ↔ t % 2 = 0) then (if t % 2 = 0 then iMin s.1 (woR nL en an tu f (th ^^^ bit (nI l)) (t + 1) s.2).1 else iMax s.1 (woR nL en an tu f (th ^^^ bit (nI l)) (t + 1) s.2).1, (woR nL en an tu f (th ^^^ bit (nI l)) (t + 1) s.2).2) else s) nL 0 (woR nL en an tu f th (t + 1) tb)
        (b.1, upd b.2 th.toNatClampNeg (b.2 th.toNatClampNeg ||| ((b.1 + 1) <<< wShift t)))
def bmR (nL : Nat) (en : Nat → Int32) (an tu : Int32) (f : Nat) (th : Int32) (t : Nat) (tb : Nat → Int32) : Int32 × (Nat → Int32) := iterN (fun l (s : Int32 × (Nat → Int32)) => if (hs th (nI l) ↔ t % 2 = 0) then (if t % 2 = 0 then iMin s.1 (woR nL en an tu f (th ^^^ bit (nI l)) (t + 1) s.2).1 else iMax s.1 (woR nL en an tu f (th ^^^ bit (nI l)) (t + 1) s.2).1, (woR nL en an tu f (th ^^^ bit (nI l)) (t + 1) s.2).2) else s) nL 0 (woR nL en an tu f th (t + 1) tb)
theorem nI_xor (a b : Nat) : nI a ^^^ nI b = nI (a ^^^ b) := by
  apply Int32.toBitVec_inj.mp
  simp [nI, Int32.toBitVec_xor, BitVec.ofNat_xor]
theorem bit_N : ∀ l, l < 12 → bit (nI l) = nI (2 ^ l) := by decide +kernel
theorem xor_in {th : Int32} {l : Nat} (h : vp_in th 4096) (hl : l < 12) : vp_in (th ^^^ bit (nI l)) 4096 := by
  obtain ⟨i, hi, rfl⟩ := vp_in_of h (by omega)
  rw [bit_N l hl, nI_xor]
  have h2 : 2 ^ l < 2 ^ 12 := Nat.pow_lt_pow_right (by omega) hl
  exact vp_in_nI (Nat.xor_lt_two_pow (n := 12) hi h2) (by omega)
section T31
variable {Γ : Gm} {Q : Option Value → LH → Prop}
set_option maxRecDepth 100000 in
set_option maxHeartbeats 4000000 in
theorem c_Paths_find {wle wro wbe fa te fr to_ ea no : Nat → Int32} {wpl wgo wya wma wa od sk sd go : Int32} {pn wn : Nat → Int64} {nL nP : Nat} {a b : Int32} (hn : nL ≤ 12) (hP : nP ≤ 7) (hte : ∀ j, vp_in (te j) 4) (hfr : ∀ j, vp_in (fr j) 7) (hto : ∀ j, vp_in (to_ j) 7) (ha : vp_in a 7) (hrow : ∀ j, vp_in (wro j) 7) (hq : Q none (hWT ((mAll nL (lTh (nI nL) sk) fr to_ (yA ea no fa te) (fil 49 (-1) wle))) ((wOn (mAll nL (lTh (nI nL) sk) fr to_ (yA ea no fa te) (fil 49 (-1) wle)) b nP 6 0 0 (bit a) (upd wro 0 a, wbe, -1, 0)).1) ((wOn (mAll nL (lTh (nI nL) sk) fr to_ (yA ea no fa te) (fil 49 (-1) wle)) b nP 6 0 0 (bit a) (upd wro 0 a, wbe, -1, 0)).2.1) (nI nP) (b) ((wOn (mAll nL (lTh (nI nL) sk) fr to_ (yA ea no fa te) (fil 49 (-1) wle)) b nP 6 0 0 (bit a) (upd wro 0 a, wbe, -1, 0)).2.2.1) ((wOn (mAll nL (lTh (nI nL) sk) fr to_ (yA ea no fa te) (fil 49 (-1) wle)) b nP 6 0 0 (bit a) (upd wro 0 a, wbe, -1, 0)).2.2.2) pn wn fa te fr to_ ea no (nI nP) wa (nI nL) od sk sd go)) : Call Γ M_Paths_find 15 0 0 [.ref 0, .ref 4, .int a, .int b] (hWT wle wro wbe wpl wgo wya wma pn wn fa te fr to_ ea no (nI nP) wa (nI nL) od sk sd go) Q := by
  refine call_intro (ls := [some (.ref 0), some (.ref 4), some (.int a), some (.int b)]) rfl rfl rfl ?_
  refine wp_aload_n 1 d_Paths_find_0 rfl rfl ?_
  refine wp_aload_n 2 d_Paths_find_1 rfl rfl ?_
  refine wp_V1 5 M_Paths_measureAll 3 d_Paths_find_2 rfl mv_Paths_measureAll lk_Paths_34 rfl rfl rfl rfl rfl ?_
  refine c_Paths_measureAll hn hte hfr hto ?_
  refine kV ?_
  refine wp_aload_n 6 d_Paths_find_5 rfl rfl ?_
  refine wp_aload_n 7 d_Paths_find_6 rfl rfl ?_
  refine wp_getfield 10 8 8 d_Paths_find_7 rfl fl_Paths_38 rfl rfl ?_
  refine wp_putfield 13 6 3 _ d_Paths_find_10 rfl fp_Paths_21 rfl rfl (okP_int _) ?_
  dsimp only [List.set]
  refine wp_aload_n 14 d_Paths_find_13 rfl rfl ?_
  refine wp_iload_n 15 d_Paths_find_14 rfl rfl ?_
  refine wp_putfield 18 6 4 _ d_Paths_find_15 rfl fp_Paths_25 rfl rfl (okP_int _) ?_
  dsimp only [List.set]
  refine wp_aload_n 19 d_Paths_find_18 rfl rfl ?_
  refine wp_iconst 20 (-1) d_Paths_find_19 rfl (by decide) ?_
  refine wp_putfield 23 6 5 _ d_Paths_find_20 rfl fp_Paths_28 rfl rfl (okP_int _) ?_
  dsimp only [List.set]
  refine wp_aload_n 24 d_Paths_find_23 rfl rfl ?_
  refine wp_iconst 25 0 d_Paths_find_24 rfl (by decide) ?_
  refine wp_putfield 28 6 6 _ d_Paths_find_25 rfl fp_Paths_31 rfl rfl (okP_int _) ?_
  dsimp only [List.set]
  refine wp_aload_n 29 d_Paths_find_28 rfl rfl ?_
  refine wp_getfield 32 6 1 d_Paths_find_29 rfl fl_Paths_15 rfl rfl ?_
  refine wp_iconst 33 0 d_Paths_find_32 rfl (by decide) ?_
  refine wp_iload_n 34 d_Paths_find_33 rfl rfl ?_
  refine wp_iastore 35 d_Paths_find_34 rfl rfl (vp_in_nI (n := 0) (by omega) (by omega)) ?_
  dsimp only [List.set]
  refine wp_aload_n 36 d_Paths_find_35 rfl rfl ?_
  refine wp_iconst 37 0 d_Paths_find_36 rfl (by decide) ?_
  refine wp_iconst 38 0 d_Paths_find_37 rfl (by decide) ?_
  refine wp_iconst 39 1 d_Paths_find_38 rfl (by decide) ?_
  refine wp_iload_n 40 d_Paths_find_39 rfl rfl ?_
  refine wp_ishl 41 d_Paths_find_40 rfl ?_
  refine ws_V3 (b' := 0) 44 M_Paths_walkOn 14 [0, 1, 2, 3] ((hW _ _ _ _ _ _ _)) d_Paths_find_41 rfl mv_Paths_walkOn lk_Paths_41 rfl rfl rfl rfl rfl rfl rfl (eV_int _ _) (eV_int _ _) (eV_int _ _) rfl ?_
  refine c_Paths_walkOn hP 6 0 rfl 0 (bit a) (upd wro 0 a, wbe, -1, 0) _ (upd_all (P := fun x => vp_in x 7) hrow ha) ?_
  refine sV ?_
  simp only [putH, rC, sg, eV, List.map_cons, List.map_nil, List.set_cons_zero, List.set_cons_succ, List.length_cons, List.length_nil, List.getD_cons_zero, List.getD_cons_succ, Nat.zero_add, Nat.reduceAdd, Nat.reduceLT, if_true, ite_true]
  refine wp_return d_Paths_find_44 rfl ?_
  exact hq

set_option maxRecDepth 100000 in
set_option maxHeartbeats 4000000 in
theorem c_JInt_bitCount {x : Int32} {h : LH} (hq : Q (some (.int (bcR x))) h) : Call Γ M_JInt_bitCount 1 0 0 [.int x] h Q := by
  refine call_introF (ls := [some (.int x)]) (by decide +kernel) rfl rfl ?_
  refine wp_iload_n 1 d_JInt_bitCount_0 rfl rfl ?_
  refine wp_iload_n 2 d_JInt_bitCount_1 rfl rfl ?_
  refine wp_iconst 3 1 d_JInt_bitCount_2 rfl (by decide) ?_
  refine wp_iushr 4 d_JInt_bitCount_3 rfl ?_
  refine wp_ldcw 7 (1431655765 : Int32) d_JInt_bitCount_4 rfl ct_JInt_265 ?_
  refine wp_iand 8 d_JInt_bitCount_7 rfl ?_
  refine wp_isub 9 d_JInt_bitCount_8 rfl ?_
  refine wp_istore_0 10 d_JInt_bitCount_9 rfl rfl rfl ?_
  rw [show x - (ush x 1 &&& 1431655765) = bc1 x from rfl]
  generalize e1 : bc1 x = y1
  refine wp_iload_n 11 d_JInt_bitCount_10 rfl rfl ?_
  refine wp_ldcw 14 (858993459 : Int32) d_JInt_bitCount_11 rfl ct_JInt_266 ?_
  refine wp_iand 15 d_JInt_bitCount_14 rfl ?_
  refine wp_iload_n 16 d_JInt_bitCount_15 rfl rfl ?_
  refine wp_iconst 17 2 d_JInt_bitCount_16 rfl (by decide) ?_
  refine wp_iushr 18 d_JInt_bitCount_17 rfl ?_
  refine wp_ldcw 21 (858993459 : Int32) d_JInt_bitCount_18 rfl ct_JInt_266 ?_
  refine wp_iand 22 d_JInt_bitCount_21 rfl ?_
  refine wp_iadd 23 d_JInt_bitCount_22 rfl ?_
  refine wp_istore_0 24 d_JInt_bitCount_23 rfl rfl rfl ?_
  rw [show (y1 &&& 858993459) + (ush y1 2 &&& 858993459) = bc2 y1 from rfl]
  generalize e2 : bc2 y1 = y2
  refine wp_iload_n 25 d_JInt_bitCount_24 rfl rfl ?_
  refine wp_iload_n 26 d_JInt_bitCount_25 rfl rfl ?_
  refine wp_iconst 27 4 d_JInt_bitCount_26 rfl (by decide) ?_
  refine wp_iushr 28 d_JInt_bitCount_27 rfl ?_
  refine wp_iadd 29 d_JInt_bitCount_28 rfl ?_
  refine wp_ldcw 32 (252645135 : Int32) d_JInt_bitCount_29 rfl ct_JInt_267 ?_
  refine wp_iand 33 d_JInt_bitCount_32 rfl ?_
  refine wp_istore_0 34 d_JInt_bitCount_33 rfl rfl rfl ?_
  rw [show (y2 + ush y2 4) &&& 252645135 = bc3 y2 from rfl]
  generalize e3 : bc3 y2 = y3
  refine wp_iload_n 35 d_JInt_bitCount_34 rfl rfl ?_
  refine wp_iload_n 36 d_JInt_bitCount_35 rfl rfl ?_
  refine wp_bipush 38 8 d_JInt_bitCount_36 rfl (by decide) ?_
  refine wp_iushr 39 d_JInt_bitCount_38 rfl ?_
  refine wp_iadd 40 d_JInt_bitCount_39 rfl ?_
  refine wp_istore_0 41 d_JInt_bitCount_40 rfl rfl rfl ?_
  rw [show y3 + ush y3 8 = bc4 y3 from rfl]
  generalize e4 : bc4 y3 = y4
  refine wp_iload_n 42 d_JInt_bitCount_41 rfl rfl ?_
  refine wp_iload_n 43 d_JInt_bitCount_42 rfl rfl ?_
  refine wp_bipush 45 16 d_JInt_bitCount_43 rfl (by decide) ?_
  refine wp_iushr 46 d_JInt_bitCount_45 rfl ?_
  refine wp_iadd 47 d_JInt_bitCount_46 rfl ?_
  refine wp_istore_0 48 d_JInt_bitCount_47 rfl rfl rfl ?_
  rw [show y4 + ush y4 16 = bc5 y4 from rfl]
  generalize e5 : bc5 y4 = y5
  refine wp_iload_n 49 d_JInt_bitCount_48 rfl rfl ?_
  refine wp_bipush 51 63 d_JInt_bitCount_49 rfl (by decide) ?_
  refine wp_iand 52 d_JInt_bitCount_51 rfl ?_
  refine wp_ireturn d_JInt_bitCount_52 rfl ?_
  refine qI hq ?_; subst e5; subst e4; subst e3; subst e2; subst e1; rfl

set_option maxRecDepth 100000 in
set_option maxHeartbeats 4000000 in
theorem c_Game_init (hq : Q none (hG ((fun _ => 0)) ((fun _ => 0)) (0) (0) (0) (0))) : Call Γ M_Game_init 1 2 4108 [.ref 0] [cO 4 [.null, .null, .int 0, .int 0, .int 0, .int 0]] Q := by
  refine call_intro (ls := [some (.ref 0)]) rfl rfl rfl ?_
  refine wp_aload_n 1 d_Game_init_0 rfl rfl ?_
  refine wp_objInit 4 d_Game_init_1 rfl lo_Game_3 oi_inst oi_code (by decide) (by decide) ?_
  refine wp_aload_n 5 d_Game_init_4 rfl rfl ?_
  refine wp_sipush 8 4096 d_Game_init_5 rfl (by decide) ?_
  refine wp_newarray_int 10 4096 1 d_Game_init_8 rfl ac_int (by decide) (by decide) (by decide) rfl rfl ?_
  simp only [List.cons_append, List.nil_append]
  refine wp_putfinal 13 4 0 _ d_Game_init_10 rfl fp_Game_9 rfl rfl rfl (fun _ => ⟨rfl, rfl⟩) ?_
  dsimp only [List.set]
  refine wp_aload_n 14 d_Game_init_13 rfl rfl ?_
  refine wp_bipush 16 12 d_Game_init_14 rfl (by decide) ?_
  refine wp_newarray_int 18 12 2 d_Game_init_16 rfl ac_int (by decide) (by decide) (by decide) rfl rfl ?_
  simp only [List.cons_append, List.nil_append]
  refine wp_putfinal 21 4 1 _ d_Game_init_18 rfl fp_Game_15 rfl rfl rfl (fun _ => ⟨rfl, rfl⟩) ?_
  dsimp only [List.set]
  refine wp_aload_n 22 d_Game_init_21 rfl rfl ?_
  refine wp_iconst 23 0 d_Game_init_22 rfl (by decide) ?_
  refine wp_putfield 26 4 2 _ d_Game_init_23 rfl fp_Game_18 rfl rfl (okP_int _) ?_
  dsimp only [List.set]
  refine wp_aload_n 27 d_Game_init_26 rfl rfl ?_
  refine wp_iconst 28 0 d_Game_init_27 rfl (by decide) ?_
  refine wp_putfield 31 4 3 _ d_Game_init_28 rfl fp_Game_22 rfl rfl (okP_int _) ?_
  dsimp only [List.set]
  refine wp_aload_n 32 d_Game_init_31 rfl rfl ?_
  refine wp_iconst 33 0 d_Game_init_32 rfl (by decide) ?_
  refine wp_putfield 36 4 4 _ d_Game_init_33 rfl fp_Game_25 rfl rfl (okP_int _) ?_
  dsimp only [List.set]
  refine wp_aload_n 37 d_Game_init_36 rfl rfl ?_
  refine wp_iconst 38 0 d_Game_init_37 rfl (by decide) ?_
  refine wp_putfield 41 4 5 _ d_Game_init_38 rfl fp_Game_28 rfl rfl (fun _ => ⟨rfl, rfl⟩) ?_
  dsimp only [List.set]
  refine wp_return d_Game_init_41 rfl ?_
  exact hq

set_option maxRecDepth 100000 in
set_option maxHeartbeats 4000000 in
theorem l_Game_begin_47 {gta fa te fr to_ ea no : Nat → Int32} {gst gtu gan pl wa od sk sd go : Int32} {pn wn : Nat → Int64} {nL : Nat} {gen : Nat → Int32} {n : Int32} (hn : nL ≤ 12) (hq : Q none (hGT gta (fun j => if j < nL then bit (fr j) ||| bit (to_ j) else gen j) (nI nL) gst gtu gan pn wn fa te fr to_ ea no pl wa (nI nL) od sk sd go)) : ∀ (r i : Nat) , i + r = nL → WP Γ M_Game_begin 2 0 0 (hGT gta (fun j => if j < i then bit (fr j) ||| bit (to_ j) else gen j) (nI nL) gst gtu gan pn wn fa te fr to_ ea no pl wa (nI nL) od sk sd go) 47 [some (.ref 0), some (.ref 3), some (.int n), some (.int (nI i))] [] Q := by
  intro r
  induction r with
  | zero =>
    intro i  hi 
    refine wp_iload_n 48 d_Game_begin_47 rfl rfl ?_
    refine wp_aload_n 49 d_Game_begin_48 rfl rfl ?_
    refine wp_getfield 52 4 2 d_Game_begin_49 rfl fl_Game_18 rfl rfl ?_
    refine wp_icmp_ge 84 55 d_Game_begin_52 rfl (by decide) (fun h52 => ?_) (fun h52 => ?_)
    · refine wp_return d_Game_begin_84 rfl ?_
      have e : i = nL := by omega
      subst e
      exact hq
    · exact absurd ((nI_leI (by omega) (by omega)).mpr (by omega)) h52
  | succ r ih =>
    intro i  hi 
    refine wp_iload_n 48 d_Game_begin_47 rfl rfl ?_
    refine wp_aload_n 49 d_Game_begin_48 rfl rfl ?_
    refine wp_getfield 52 4 2 d_Game_begin_49 rfl fl_Game_18 rfl rfl ?_
    refine wp_icmp_ge 84 55 d_Game_begin_52 rfl (by decide) (fun h52 => ?_) (fun h52 => ?_)
    · exact absurd (nI_leN h52 (by omega) (by omega)) (by omega)
    · refine wp_aload_n 56 d_Game_begin_55 rfl rfl ?_
      refine wp_getfield 59 4 1 d_Game_begin_56 rfl fl_Game_15 rfl rfl ?_
      refine wp_iload_n 60 d_Game_begin_59 rfl rfl ?_
      refine wp_iconst 61 1 d_Game_begin_60 rfl (by decide) ?_
      refine wp_aload_n 62 d_Game_begin_61 rfl rfl ?_
      refine wp_getfield 65 8 4 d_Game_begin_62 rfl fl_Game_48 rfl rfl ?_
      refine wp_iload_n 66 d_Game_begin_65 rfl rfl ?_
      refine wp_ialoadN 67 d_Game_begin_66 rfl rfl rfl (by omega) ?_
      refine wp_ishl 68 d_Game_begin_67 rfl ?_
      refine wp_iconst 69 1 d_Game_begin_68 rfl (by decide) ?_
      refine wp_aload_n 70 d_Game_begin_69 rfl rfl ?_
      refine wp_getfield 73 8 5 d_Game_begin_70 rfl fl_Game_51 rfl rfl ?_
      refine wp_iload_n 74 d_Game_begin_73 rfl rfl ?_
      refine wp_ialoadN 75 d_Game_begin_74 rfl rfl rfl (by omega) ?_
      refine wp_ishl 76 d_Game_begin_75 rfl ?_
      refine wp_ior 77 d_Game_begin_76 rfl ?_
      refine wp_iastoreN 78 d_Game_begin_77 rfl rfl rfl (by omega) ?_
      dsimp only [List.set]
      first | refine wp_iincN_3 81 d_Game_begin_78 rfl rfl rfl ?_ | refine wp_iinc_3 81 1 d_Game_begin_78 rfl (by decide) rfl rfl ?_
      refine wp_goto 47 d_Game_begin_81 (by decide) ?_
      rw [upd_lt (f := fun j => bit (fr j) ||| bit (to_ j)) (g := gen)]
      exact ih (i + 1) (by omega)

set_option maxRecDepth 100000 in
set_option maxHeartbeats 4000000 in
theorem c_Game_begin {gta fa te fr to_ ea no : Nat → Int32} {gst gtu gan pl wa od sk sd go : Int32} {pn wn : Nat → Int64} {gen : Nat → Int32} {gle : Int32} {nL : Nat} {n : Int32} (hn : nL ≤ 12) (hq : Q none (hGT (fil 4096 0 gta) (fun j => if j < nL then bit (fr j) ||| bit (to_ j) else gen j) (nI nL) (lTh (nI nL) sk) (n) (bP (0 < pl)) pn wn fa te fr to_ ea no pl wa (nI nL) od sk sd go)) : Call Γ M_Game_begin 2 0 0 [.ref 0, .ref 3, .int n] (hGT gta gen gle gst gtu gan pn wn fa te fr to_ ea no pl wa (nI nL) od sk sd go) Q := by
  refine call_intro (ls := [some (.ref 0), some (.ref 3), some (.int n), none]) rfl rfl rfl ?_
  refine wp_aload_n 1 d_Game_begin_0 rfl rfl ?_
  refine wp_getfield 4 4 0 d_Game_begin_1 rfl fl_Game_9 rfl rfl ?_
  refine wp_iconst 5 0 d_Game_begin_4 rfl (by decide) ?_
  refine ws_S2 (v1' := .ref 0) 8 M_JArr_fillI 1 [1] ([cI 4096 _]) d_Game_begin_5 rfl ms_JArr_fillI lk_Game_32 rfl rfl rfl rfl (eV_int _ _) rfl ?_
  refine c_JArr_fillI rfl ?_
  refine sV ?_
  simp only [putH, rC, sg, eV, List.map_cons, List.map_nil, List.set_cons_zero, List.set_cons_succ, List.length_cons, List.length_nil, List.getD_cons_zero, List.getD_cons_succ, Nat.zero_add, Nat.reduceAdd, Nat.reduceLT, if_true, ite_true]
  refine wp_aload_n 9 d_Game_begin_8 rfl rfl ?_
  refine wp_aload_n 10 d_Game_begin_9 rfl rfl ?_
  refine wp_getfield 13 8 10 d_Game_begin_10 rfl fl_Game_38 rfl rfl ?_
  refine wp_putfield 16 4 2 _ d_Game_begin_13 rfl fp_Game_18 rfl rfl (okP_int _) ?_
  dsimp only [List.set]
  refine wp_aload_n 17 d_Game_begin_16 rfl rfl ?_
  refine wp_aload_n 18 d_Game_begin_17 rfl rfl ?_
  refine ws_V0 (b' := 0) 21 M_Town_legsThere 1 [3, 4, 5, 6, 7, 8, 9, 10, 11] ((hT _ _ _ _ _ _ _ _ _ _ _ _ _ _ _)) d_Game_begin_18 rfl mv_Town_legsThere lk_Game_41 rfl rfl rfl rfl rfl rfl rfl rfl ?_
  refine c_Town_legsThere ?_
  refine sIr rfl rfl ?_
  refine wp_putfield 24 4 3 _ d_Game_begin_21 rfl fp_Game_22 rfl rfl (okP_int _) ?_
  dsimp only [List.set]
  refine wp_aload_n 25 d_Game_begin_24 rfl rfl ?_
  refine wp_iload_n 26 d_Game_begin_25 rfl rfl ?_
  refine wp_putfield 29 4 4 _ d_Game_begin_26 rfl fp_Game_25 rfl rfl (okP_int _) ?_
  dsimp only [List.set]
  refine wp_aload_n 30 d_Game_begin_29 rfl rfl ?_
  refine wp_aload_n 31 d_Game_begin_30 rfl rfl ?_
  refine wp_getfield 34 8 8 d_Game_begin_31 rfl fl_Game_45 rfl rfl ?_
  refine wp_if_le 41 37 d_Game_begin_34 rfl (by decide) (fun h34 => ?_) (fun h34 => ?_)
  · refine wp_iconst 42 0 d_Game_begin_41 rfl (by decide) ?_
    refine wp_putfield 45 4 5 _ d_Game_begin_42 rfl fp_Game_28 rfl rfl (fun _ => ⟨rfl, rfl⟩) ?_
    dsimp only [List.set]
    refine wp_iconst 46 0 d_Game_begin_45 rfl (by decide) ?_
    refine wp_istore_3 47 d_Game_begin_46 rfl rfl rfl ?_
    first | (rw [bP_t (Int32.not_le.mp h34)] at hq; have := l_Game_begin_47 (Γ := Γ) (gen := gen) (n := n) hn hq nL 0 (by omega); simp only [lt_0f] at this; exact this) | (rw [bP_f (Int32.not_lt.mpr h34)] at hq; have := l_Game_begin_47 (Γ := Γ) (gen := gen) (n := n) hn hq nL 0 (by omega); simp only [lt_0f] at this; exact this)
  · refine wp_iconst 38 1 d_Game_begin_37 rfl (by decide) ?_
    refine wp_goto 42 d_Game_begin_38 (by decide) ?_
    refine wp_putfield 45 4 5 _ d_Game_begin_42 rfl fp_Game_28 rfl rfl (fun _ => ⟨rfl, rfl⟩) ?_
    dsimp only [List.set]
    refine wp_iconst 46 0 d_Game_begin_45 rfl (by decide) ?_
    refine wp_istore_3 47 d_Game_begin_46 rfl rfl rfl ?_
    first | (rw [bP_t (Int32.not_le.mp h34)] at hq; have := l_Game_begin_47 (Γ := Γ) (gen := gen) (n := n) hn hq nL 0 (by omega); simp only [lt_0f] at this; exact this) | (rw [bP_f (Int32.not_lt.mpr h34)] at hq; have := l_Game_begin_47 (Γ := Γ) (gen := gen) (n := n) hn hq nL 0 (by omega); simp only [lt_0f] at this; exact this)

set_option maxRecDepth 100000 in
set_option maxHeartbeats 4000000 in
theorem l_Game_reached_27 {gta gen : Nat → Int32} {gst gtu gan : Int32} {nL k : Nat} {th s0 : Int32} (hn : nL ≤ 12) (hx : ∀ s1, s1 = reIn nL gen th s0 → WP Γ M_Game_reached 2 0 0 (hG gta gen (nI nL) gst gtu gan) 73 [some (.ref 0), some (.int th), some (.int s1), some (.int (nI k)), some (.int s0), some (.int (nI nL))] [] Q) : ∀ (r i : Nat) (s : Int32), i + r = nL → ((iterN (fun l s => if hs th (nI l) ∧ ¬ s &&& gen l = 0 then s ||| gen l else s) r i s) = reIn nL gen th s0) → WP Γ M_Game_reached 2 0 0 (hG gta gen (nI nL) gst gtu gan) 27 [some (.ref 0), some (.int th), some (.int s), some (.int (nI k)), some (.int s0), some (.int (nI i))] [] Q := by
  intro r
  induction r with
  | zero =>
    intro i s hi hinv
    refine wp_iload 29 d_Game_reached_27 rfl rfl ?_
    refine wp_aload_n 30 d_Game_reached_29 rfl rfl ?_
    refine wp_getfield 33 4 2 d_Game_reached_30 rfl fl_Game_18 rfl rfl ?_
    refine wp_icmp_ge 73 36 d_Game_reached_33 rfl (by decide) (fun h33 => ?_) (fun h33 => ?_)
    · have e : i = nL := by omega
      subst e
      exact hx s hinv
    · exact absurd ((nI_leI (by omega) (by omega)).mpr (by omega)) h33
  | succ r ih =>
    intro i s hi hinv
    refine wp_iload 29 d_Game_reached_27 rfl rfl ?_
    refine wp_aload_n 30 d_Game_reached_29 rfl rfl ?_
    refine wp_getfield 33 4 2 d_Game_reached_30 rfl fl_Game_18 rfl rfl ?_
    refine wp_icmp_ge 73 36 d_Game_reached_33 rfl (by decide) (fun h33 => ?_) (fun h33 => ?_)
    · exact absurd (nI_leN h33 (by omega) (by omega)) (by omega)
    · refine wp_iload_n 37 d_Game_reached_36 rfl rfl ?_
      refine wp_iload 39 d_Game_reached_37 rfl rfl ?_
      refine wp_N2 42 M_PM_has 1 d_Game_reached_39 rfl ms_PM_has lk_Game_58 rfl rfl ?_
      refine c_PM_has ?_
      refine kI ?_
      (first | refine wp_ifP_eq 67 45 d_Game_reached_42 rfl (by decide) (fun h42 => ?_) (fun h42 => ?_) | refine wp_if_eq 67 45 d_Game_reached_42 rfl (by decide) (fun h42 => ?_) (fun h42 => ?_))
      · first | refine wp_iincN_5 70 d_Game_reached_67 rfl rfl rfl ?_ | refine wp_iinc_5 70 1 d_Game_reached_67 rfl (by decide) rfl rfl ?_
        refine wp_goto 27 d_Game_reached_70 (by decide) ?_
        refine ih (i + 1) _ (by omega) ?_
        first | (have h7 : hs th (nI i) ∧ ¬ s &&& gen i = 0 := ⟨h42, h54⟩; simpa only [iterN, if_pos h7] using hinv) | (have h7 : ¬ (hs th (nI i) ∧ ¬ s &&& gen i = 0) := fun z => z.2 h54; simpa only [iterN, if_neg h7] using hinv) | (have h7 : ¬ (hs th (nI i) ∧ ¬ s &&& gen i = 0) := fun z => h42 z.1; simpa only [iterN, if_neg h7] using hinv)
      · refine wp_iload_n 46 d_Game_reached_45 rfl rfl ?_
        refine wp_aload_n 47 d_Game_reached_46 rfl rfl ?_
        refine wp_getfield 50 4 1 d_Game_reached_47 rfl fl_Game_15 rfl rfl ?_
        refine wp_iload 52 d_Game_reached_50 rfl rfl ?_
        refine wp_ialoadN 53 d_Game_reached_52 rfl rfl rfl (by omega) ?_
        refine wp_iand 54 d_Game_reached_53 rfl ?_
        refine wp_if_eq 67 57 d_Game_reached_54 rfl (by decide) (fun h54 => ?_) (fun h54 => ?_)
        · first | refine wp_iincN_5 70 d_Game_reached_67 rfl rfl rfl ?_ | refine wp_iinc_5 70 1 d_Game_reached_67 rfl (by decide) rfl rfl ?_
          refine wp_goto 27 d_Game_reached_70 (by decide) ?_
          refine ih (i + 1) _ (by omega) ?_
          first | (have h7 : hs th (nI i) ∧ ¬ s &&& gen i = 0 := ⟨h42, h54⟩; simpa only [iterN, if_pos h7] using hinv) | (have h7 : ¬ (hs th (nI i) ∧ ¬ s &&& gen i = 0) := fun z => z.2 h54; simpa only [iterN, if_neg h7] using hinv) | (have h7 : ¬ (hs th (nI i) ∧ ¬ s &&& gen i = 0) := fun z => h42 z.1; simpa only [iterN, if_neg h7] using hinv)
        · refine wp_iload_n 58 d_Game_reached_57 rfl rfl ?_
          refine wp_aload_n 59 d_Game_reached_58 rfl rfl ?_
          refine wp_getfield 62 4 1 d_Game_reached_59 rfl fl_Game_15 rfl rfl ?_
          refine wp_iload 64 d_Game_reached_62 rfl rfl ?_
          refine wp_ialoadN 65 d_Game_reached_64 rfl rfl rfl (by omega) ?_
          refine wp_ior 66 d_Game_reached_65 rfl ?_
          refine wp_istore_2 67 d_Game_reached_66 rfl rfl rfl ?_
          first | refine wp_iincN_5 70 d_Game_reached_67 rfl rfl rfl ?_ | refine wp_iinc_5 70 1 d_Game_reached_67 rfl (by decide) rfl rfl ?_
          refine wp_goto 27 d_Game_reached_70 (by decide) ?_
          refine ih (i + 1) _ (by omega) ?_
          first | (have h7 : hs th (nI i) ∧ ¬ s &&& gen i = 0 := ⟨h42, h54⟩; simpa only [iterN, if_pos h7] using hinv) | (have h7 : ¬ (hs th (nI i) ∧ ¬ s &&& gen i = 0) := fun z => z.2 h54; simpa only [iterN, if_neg h7] using hinv) | (have h7 : ¬ (hs th (nI i) ∧ ¬ s &&& gen i = 0) := fun z => h42 z.1; simpa only [iterN, if_neg h7] using hinv)

set_option maxRecDepth 100000 in
set_option maxHeartbeats 4000000 in
theorem l_Game_reached_15 {gta gen : Nat → Int32} {gst gtu gan : Int32} {nL : Nat} {th : Int32} (hn : nL ≤ 12) : ∀ (r i : Nat) (s : Int32), i + r = 7 → Q (some (.int (bcR (reO nL gen th r s)))) (hG gta gen (nI nL) gst gtu gan) → WP Γ M_Game_reached 2 0 0 (hG gta gen (nI nL) gst gtu gan) 15 [some (.ref 0), some (.int th), some (.int s), some (.int (nI i)), none, none] [] Q := by
  intro r
  induction r with
  | zero =>
    intro i s hi hinv
    refine wp_iload_n 16 d_Game_reached_15 rfl rfl ?_
    refine wp_bipush 18 7 d_Game_reached_16 rfl (by decide) ?_
    refine wp_icmp_ge 88 21 d_Game_reached_18 rfl (by decide) (fun h18 => ?_) (fun h18 => ?_)
    · refine wp_iload_n 89 d_Game_reached_88 rfl rfl ?_
      refine wp_S1 92 M_JInt_bitCount 1 d_Game_reached_89 rfl ms_JInt_bitCount lk_Game_77 rfl rfl ?_
      refine c_JInt_bitCount ?_
      refine kI ?_
      refine wp_ireturn d_Game_reached_92 rfl ?_
      exact hinv
    · exact absurd (show nI 7 ≤ nI i from (nI_leI (by omega) (by omega)).mpr (by omega)) h18
  | succ r ih =>
    intro i s hi hinv
    refine wp_iload_n 16 d_Game_reached_15 rfl rfl ?_
    refine wp_bipush 18 7 d_Game_reached_16 rfl (by decide) ?_
    refine wp_icmp_ge 88 21 d_Game_reached_18 rfl (by decide) (fun h18 => ?_) (fun h18 => ?_)
    · exact absurd (nI_leN (b := 7) h18 (by omega) (by omega)) (by omega)
    · refine wp_iload_n 22 d_Game_reached_21 rfl rfl ?_
      refine wp_istore_4 24 d_Game_reached_22 rfl rfl rfl ?_
      refine wp_iconst 25 0 d_Game_reached_24 rfl (by decide) ?_
      refine wp_istore_5 27 d_Game_reached_25 rfl rfl rfl ?_
      refine l_Game_reached_27 (s0 := s) hn (fun s1 e1 => ?_) nL 0 s (by omega) rfl
      refine wp_iload_n 74 d_Game_reached_73 rfl rfl ?_
      refine wp_iload 76 d_Game_reached_74 rfl rfl ?_
      refine wp_icmp_ne 82 79 d_Game_reached_76 rfl (by decide) (fun h76 => ?_) (fun h76 => ?_)
      · first | refine wp_iincN_3 85 d_Game_reached_82 rfl rfl rfl ?_ | refine wp_iinc_3 85 1 d_Game_reached_82 rfl (by decide) rfl rfl ?_
        refine wp_goto 15 d_Game_reached_85 (by decide) ?_
        refine wp_fgt (ls' := [some (.ref 0), some (.int th), some (.int s1), some (.int (nI (i + 1))), none, none]) ⟨rfl, rfl, rfl, rfl, trivial⟩ ?_
        refine ih (i + 1) s1 (by omega) ?_
        have h7 : ¬ reIn nL gen th s = s := by rw [← e1]; exact h76
        simp only [reO, if_neg h7] at hinv
        rw [e1]; exact hinv
      · refine wp_goto 88 d_Game_reached_79 (by decide) ?_
        refine wp_iload_n 89 d_Game_reached_88 rfl rfl ?_
        refine wp_S1 92 M_JInt_bitCount 1 d_Game_reached_89 rfl ms_JInt_bitCount lk_Game_77 rfl rfl ?_
        refine c_JInt_bitCount ?_
        refine kI ?_
        refine wp_ireturn d_Game_reached_92 rfl ?_
        have h7 : reIn nL gen th s = s := by rw [← e1]; exact h76
        simp only [reO, if_pos h7] at hinv
        rw [e1, h7]; exact hinv

set_option maxRecDepth 100000 in
set_option maxHeartbeats 4000000 in
theorem c_Game_reached {gta gen : Nat → Int32} {gst gtu gan : Int32} {nL : Nat} {th : Int32} (hn : nL ≤ 12) (hq : Q (some (.int (reF nL gen gan th))) (hG gta gen (nI nL) gst gtu gan)) : Call Γ M_Game_reached 2 0 0 [.ref 0, .int th] (hG gta gen (nI nL) gst gtu gan) Q := by
  refine call_intro (ls := [some (.ref 0), some (.int th), none, none, none, none]) rfl rfl rfl ?_
  refine wp_aload_n 1 d_Game_reached_0 rfl rfl ?_
  refine wp_getfield 4 4 5 d_Game_reached_1 rfl fl_Game_28 rfl rfl ?_
  refine wp_if_eq 11 7 d_Game_reached_4 rfl (by decide) (fun h4 => ?_) (fun h4 => ?_)
  · refine wp_iconst 12 0 d_Game_reached_11 rfl (by decide) ?_
    refine wp_istore_2 13 d_Game_reached_12 rfl rfl rfl ?_
    refine wp_iconst 14 0 d_Game_reached_13 rfl (by decide) ?_
    refine wp_istore_3 15 d_Game_reached_14 rfl rfl rfl ?_
    refine l_Game_reached_15 hn 7 0 _ rfl ?_
    unfold reF at hq
    first | (rw [if_pos h4] at hq; exact hq) | (rw [if_neg h4] at hq; exact hq)
  · refine wp_iconst 8 1 d_Game_reached_7 rfl (by decide) ?_
    refine wp_goto 12 d_Game_reached_8 (by decide) ?_
    refine wp_istore_2 13 d_Game_reached_12 rfl rfl rfl ?_
    refine wp_iconst 14 0 d_Game_reached_13 rfl (by decide) ?_
    refine wp_istore_3 15 d_Game_reached_14 rfl rfl rfl ?_
    refine l_Game_reached_15 hn 7 0 _ rfl ?_
    unfold reF at hq
    first | (rw [if_pos h4] at hq; exact hq) | (rw [if_neg h4] at hq; exact hq)

end T31
