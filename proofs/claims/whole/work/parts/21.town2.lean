/-! ===== Town: the rest; Arrays.fill ===== -/
theorem qL2 {Γ : Gm} {μ : MI} {d cb sb : Nat} {h : LH} {pc : Nat} {ls ls' : Lo} {st : List Value} {Q : Option Value → LH → Prop} (e : ls = ls') (k : WP Γ μ d cb sb h pc ls' st Q) : WP Γ μ d cb sb h pc ls st Q := e ▸ k
def isum (f : Nat → Int32) : Nat → Int32
  | 0 => 0
  | n + 1 => isum f n + f n
def iorr (f : Nat → Int32) : Nat → Int32
  | 0 => 0
  | n + 1 => iorr f n ||| f n
/-- the first place below n of a kind, or -1 -/
def ffind (p : Nat → Prop) [DecidablePred p] : Nat → Nat → Int32
  | _, 0 => -1
  | i, n + 1 => if p i then nI i else ffind p (i + 1) n
abbrev bit (k : Int32) : Int32 := 1 <<< (k &&& 31)
def yA (ea no fa te : Nat → Int32) (l : Nat) : Int32 := sB (fa (te l).toNatClampNeg) * (aB (ea l) + aB (no l))
def lTh (le sk : Int32) : Int32 := (bit le - 1) &&& (sk ^^^ (-1))
abbrev canGo (fr to_ : Nat → Int32) (le sk sd leg : Int32) : Prop := inR leg le ∧ ¬ hs sk leg ∧ (sd = fr leg.toNatClampNeg ∨ sd = to_ leg.toNatClampNeg)
theorem inR_in {x : Int32} {n N : Nat} (h : inR x (nI n)) (hn : n ≤ N) (hN : N < 2 ^ 31) : vp_in x N := by
  have h1 : ¬ x < 0 := Int32.not_lt.mpr h.1
  obtain ⟨j, hj, rfl⟩ := nI_of h1
  have := (nI_ltI hj (by omega)).mp h.2
  exact vp_in_nI (by omega) hN
theorem inR_ex {x : Int32} {n : Nat} (h : inR x (nI n)) (hn : n < 2 ^ 31) : ∃ j : Nat, j < n ∧ x = nI j := by
  have h1 : ¬ x < 0 := Int32.not_lt.mpr h.1
  obtain ⟨j, hj, rfl⟩ := nI_of h1
  exact ⟨j, (nI_ltI hj (by omega)).mp h.2, rfl⟩
theorem or_0 (x : Int32) : x ||| 0 = x := by simp
theorem add_0 (x : Int32) : x + 0 = x := by simp
section T21
variable {Γ : Gm} {Q : Option Value → LH → Prop}
set_option maxRecDepth 100000 in
set_option maxHeartbeats 4000000 in
theorem c_Town_yardsEast {pn wn : Nat → Int64} {fa te fr to_ ea no : Nat → Int32} {pl wa le od sk sd go : Int32} {l : Nat} (hl : l < 12) (hte : ∀ j, vp_in (te j) 4) (hq : Q (some (.int (rE (ea l) (no l) (fa (te l).toNatClampNeg)))) (hT pn wn fa te fr to_ ea no pl wa le od sk sd go)) : Call Γ M_Town_yardsEast 3 0 0 [.ref 0, .int (nI l)] (hT pn wn fa te fr to_ ea no pl wa le od sk sd go) Q := by
  refine call_intro (ls := [some (.ref 0), some (.int (nI l))]) rfl rfl rfl ?_
  refine wp_aload_n 1 d_Town_yardsEast_0 rfl rfl ?_
  refine wp_iload_n 2 d_Town_yardsEast_1 rfl rfl ?_
  refine wp_aload_n 3 d_Town_yardsEast_2 rfl rfl ?_
  refine wp_getfield 6 8 2 d_Town_yardsEast_3 rfl fl_Town_18 rfl rfl ?_
  refine wp_aload_n 7 d_Town_yardsEast_6 rfl rfl ?_
  refine wp_getfield 10 8 3 d_Town_yardsEast_7 rfl fl_Town_22 rfl rfl ?_
  refine wp_iload_n 11 d_Town_yardsEast_10 rfl rfl ?_
  refine wp_ialoadN 12 d_Town_yardsEast_11 rfl rfl rfl (by omega) ?_
  refine wp_iaload 13 d_Town_yardsEast_12 rfl rfl (hte _) ?_
  refine wp_V2 16 M_Town_rightEast 2 d_Town_yardsEast_13 rfl mv_Town_rightEast lk_Town_76 rfl rfl rfl rfl rfl ?_
  refine c_Town_rightEast hl ?_
  refine kI ?_
  refine wp_ireturn d_Town_yardsEast_16 rfl ?_
  exact hq

set_option maxRecDepth 100000 in
set_option maxHeartbeats 4000000 in
theorem c_Town_yardsNorth {pn wn : Nat → Int64} {fa te fr to_ ea no : Nat → Int32} {pl wa le od sk sd go : Int32} {l : Nat} (hl : l < 12) (hte : ∀ j, vp_in (te j) 4) (hq : Q (some (.int (rN (ea l) (no l) (fa (te l).toNatClampNeg)))) (hT pn wn fa te fr to_ ea no pl wa le od sk sd go)) : Call Γ M_Town_yardsNorth 3 0 0 [.ref 0, .int (nI l)] (hT pn wn fa te fr to_ ea no pl wa le od sk sd go) Q := by
  refine call_intro (ls := [some (.ref 0), some (.int (nI l))]) rfl rfl rfl ?_
  refine wp_aload_n 1 d_Town_yardsNorth_0 rfl rfl ?_
  refine wp_iload_n 2 d_Town_yardsNorth_1 rfl rfl ?_
  refine wp_aload_n 3 d_Town_yardsNorth_2 rfl rfl ?_
  refine wp_getfield 6 8 2 d_Town_yardsNorth_3 rfl fl_Town_18 rfl rfl ?_
  refine wp_aload_n 7 d_Town_yardsNorth_6 rfl rfl ?_
  refine wp_getfield 10 8 3 d_Town_yardsNorth_7 rfl fl_Town_22 rfl rfl ?_
  refine wp_iload_n 11 d_Town_yardsNorth_10 rfl rfl ?_
  refine wp_ialoadN 12 d_Town_yardsNorth_11 rfl rfl rfl (by omega) ?_
  refine wp_iaload 13 d_Town_yardsNorth_12 rfl rfl (hte _) ?_
  refine wp_V2 16 M_Town_rightNorth 2 d_Town_yardsNorth_13 rfl mv_Town_rightNorth lk_Town_80 rfl rfl rfl rfl rfl ?_
  refine c_Town_rightNorth hl ?_
  refine kI ?_
  refine wp_ireturn d_Town_yardsNorth_16 rfl ?_
  exact hq

set_option maxRecDepth 100000 in
set_option maxHeartbeats 4000000 in
theorem c_Town_yardsAlong {pn wn : Nat → Int64} {fa te fr to_ ea no : Nat → Int32} {pl wa le od sk sd go : Int32} {leg : Int32} (hl : vp_in leg 12) (hte : ∀ j, vp_in (te j) 4) (hq : Q (some (.int (yA ea no fa te leg.toNatClampNeg))) (hT pn wn fa te fr to_ ea no pl wa le od sk sd go)) : Call Γ M_Town_yardsAlong 2 0 0 [.ref 0, .int leg] (hT pn wn fa te fr to_ ea no pl wa le od sk sd go) Q := by
  refine call_intro (ls := [some (.ref 0), some (.int leg)]) rfl rfl rfl ?_
  refine wp_aload_n 1 d_Town_yardsAlong_0 rfl rfl ?_
  refine wp_getfield 4 8 2 d_Town_yardsAlong_1 rfl fl_Town_18 rfl rfl ?_
  refine wp_aload_n 5 d_Town_yardsAlong_4 rfl rfl ?_
  refine wp_getfield 8 8 3 d_Town_yardsAlong_5 rfl fl_Town_22 rfl rfl ?_
  refine wp_iload_n 9 d_Town_yardsAlong_8 rfl rfl ?_
  refine wp_iaload 10 d_Town_yardsAlong_9 rfl rfl hl ?_
  refine wp_iaload 11 d_Town_yardsAlong_10 rfl rfl (hte _) ?_
  refine wp_S1 14 M_Town_strideBy 1 d_Town_yardsAlong_11 rfl ms_Town_strideBy lk_Town_69 rfl rfl ?_
  refine c_Town_strideBy ?_
  refine kI ?_
  refine wp_aload_n 15 d_Town_yardsAlong_14 rfl rfl ?_
  refine wp_getfield 18 8 6 d_Town_yardsAlong_15 rfl fl_Town_31 rfl rfl ?_
  refine wp_iload_n 19 d_Town_yardsAlong_18 rfl rfl ?_
  refine wp_iaload 20 d_Town_yardsAlong_19 rfl rfl hl ?_
  refine wp_S1 23 M_JMath_absI 1 d_Town_yardsAlong_20 rfl ms_JMath_absI lk_Town_83 rfl rfl ?_
  refine c_JMath_absI ?_
  refine kI ?_
  refine wp_aload_n 24 d_Town_yardsAlong_23 rfl rfl ?_
  refine wp_getfield 27 8 7 d_Town_yardsAlong_24 rfl fl_Town_34 rfl rfl ?_
  refine wp_iload_n 28 d_Town_yardsAlong_27 rfl rfl ?_
  refine wp_iaload 29 d_Town_yardsAlong_28 rfl rfl hl ?_
  refine wp_S1 32 M_JMath_absI 1 d_Town_yardsAlong_29 rfl ms_JMath_absI lk_Town_83 rfl rfl ?_
  refine c_JMath_absI ?_
  refine kI ?_
  refine wp_iadd 33 d_Town_yardsAlong_32 rfl ?_
  refine wp_imul 34 d_Town_yardsAlong_33 rfl ?_
  refine wp_ireturn d_Town_yardsAlong_34 rfl ?_
  exact hq

theorem c_Town_yardsAlongN {pn wn : Nat → Int64} {fa te fr to_ ea no : Nat → Int32} {pl wa le od sk sd go : Int32} {l : Nat} (hl : l < 12) (hte : ∀ j, vp_in (te j) 4) (hq : Q (some (.int (yA ea no fa te l))) (hT pn wn fa te fr to_ ea no pl wa le od sk sd go)) : Call Γ M_Town_yardsAlong 2 0 0 [.ref 0, .int (nI l)] (hT pn wn fa te fr to_ ea no pl wa le od sk sd go) Q := c_Town_yardsAlong (vp_in_nI hl (by omega)) hte (by rw [nI_clamp (by omega)]; exact hq)
set_option maxRecDepth 100000 in
set_option maxHeartbeats 4000000 in
theorem c_Town_legsThere {pn wn : Nat → Int64} {fa te fr to_ ea no : Nat → Int32} {pl wa le od sk sd go : Int32} (hq : Q (some (.int (lTh le sk))) (hT pn wn fa te fr to_ ea no pl wa le od sk sd go)) : Call Γ M_Town_legsThere 1 0 0 [.ref 0] (hT pn wn fa te fr to_ ea no pl wa le od sk sd go) Q := by
  refine call_intro (ls := [some (.ref 0)]) rfl rfl rfl ?_
  refine wp_iconst 1 1 d_Town_legsThere_0 rfl (by decide) ?_
  refine wp_aload_n 2 d_Town_legsThere_1 rfl rfl ?_
  refine wp_getfield 5 8 10 d_Town_legsThere_2 rfl fl_Town_44 rfl rfl ?_
  refine wp_ishl 6 d_Town_legsThere_5 rfl ?_
  refine wp_iconst 7 1 d_Town_legsThere_6 rfl (by decide) ?_
  refine wp_isub 8 d_Town_legsThere_7 rfl ?_
  refine wp_aload_n 9 d_Town_legsThere_8 rfl rfl ?_
  refine wp_getfield 12 8 12 d_Town_legsThere_9 rfl fl_Town_50 rfl rfl ?_
  refine wp_iconst 13 (-1) d_Town_legsThere_12 rfl (by decide) ?_
  refine wp_ixor 14 d_Town_legsThere_13 rfl ?_
  refine wp_iand 15 d_Town_legsThere_14 rfl ?_
  refine wp_ireturn d_Town_legsThere_15 rfl ?_
  exact hq

set_option maxRecDepth 100000 in
set_option maxHeartbeats 4000000 in
theorem l_Town_yardsOf_4 {pn wn : Nat → Int64} {fa te fr to_ ea no : Nat → Int32} {pl wa od sk sd go : Int32} {nL : Nat} {set : Int32} (hn : nL ≤ 12) (hte : ∀ j, vp_in (te j) 4) (hq : Q (some (.int (isum (fun l => if hs set (nI l) then yA ea no fa te l else 0) nL))) (hT pn wn fa te fr to_ ea no pl wa (nI nL) od sk sd go)) : ∀ (r i : Nat) , i + r = nL → WP Γ M_Town_yardsOf 3 0 0 (hT pn wn fa te fr to_ ea no pl wa (nI nL) od sk sd go) 4 [some (.ref 0), some (.int set), some (.int (isum (fun l => if hs set (nI l) then yA ea no fa te l else 0) i)), some (.int (nI i))] [] Q := by
  intro r
  induction r with
  | zero =>
    intro i  hi 
    refine wp_iload_n 5 d_Town_yardsOf_4 rfl rfl ?_
    refine wp_aload_n 6 d_Town_yardsOf_5 rfl rfl ?_
    refine wp_getfield 9 8 10 d_Town_yardsOf_6 rfl fl_Town_44 rfl rfl ?_
    refine wp_icmp_ge 34 12 d_Town_yardsOf_9 rfl (by decide) (fun h9 => ?_) (fun h9 => ?_)
    · refine wp_iload_n 35 d_Town_yardsOf_34 rfl rfl ?_
      refine wp_ireturn d_Town_yardsOf_35 rfl ?_
      have e : i = nL := by omega
      subst e
      exact hq
    · exact absurd ((nI_leI (by omega) (by omega)).mpr (by omega)) h9
  | succ r ih =>
    intro i  hi 
    refine wp_iload_n 5 d_Town_yardsOf_4 rfl rfl ?_
    refine wp_aload_n 6 d_Town_yardsOf_5 rfl rfl ?_
    refine wp_getfield 9 8 10 d_Town_yardsOf_6 rfl fl_Town_44 rfl rfl ?_
    refine wp_icmp_ge 34 12 d_Town_yardsOf_9 rfl (by decide) (fun h9 => ?_) (fun h9 => ?_)
    · exact absurd (nI_leN h9 (by omega) (by omega)) (by omega)
    · refine wp_iload_n 13 d_Town_yardsOf_12 rfl rfl ?_
      refine wp_iload_n 14 d_Town_yardsOf_13 rfl rfl ?_
      refine wp_N2 17 M_PM_has 1 d_Town_yardsOf_14 rfl ms_PM_has lk_Town_88 rfl rfl ?_
      refine c_PM_has ?_
      refine kI ?_
      (first | refine wp_ifP_eq 28 20 d_Town_yardsOf_17 rfl (by decide) (fun h17 => ?_) (fun h17 => ?_) | refine wp_if_eq 28 20 d_Town_yardsOf_17 rfl (by decide) (fun h17 => ?_) (fun h17 => ?_))
      · first | refine wp_iincN_3 31 d_Town_yardsOf_28 rfl rfl rfl ?_ | refine wp_iinc_3 31 1 d_Town_yardsOf_28 rfl (by decide) rfl rfl ?_
        refine wp_goto 4 d_Town_yardsOf_31 (by decide) ?_
        refine qL2 ?_ (ih (i + 1) (by omega))
        simp [isum, h17, add_0]
      · refine wp_iload_n 21 d_Town_yardsOf_20 rfl rfl ?_
        refine wp_aload_n 22 d_Town_yardsOf_21 rfl rfl ?_
        refine wp_iload_n 23 d_Town_yardsOf_22 rfl rfl ?_
        refine wp_V1 26 M_Town_yardsAlong 2 d_Town_yardsOf_23 rfl mv_Town_yardsAlong lk_Town_92 rfl rfl rfl rfl rfl ?_
        refine c_Town_yardsAlongN (by omega) hte ?_
        refine kI ?_
        refine wp_iadd 27 d_Town_yardsOf_26 rfl ?_
        refine wp_istore_2 28 d_Town_yardsOf_27 rfl rfl rfl ?_
        first | refine wp_iincN_3 31 d_Town_yardsOf_28 rfl rfl rfl ?_ | refine wp_iinc_3 31 1 d_Town_yardsOf_28 rfl (by decide) rfl rfl ?_
        refine wp_goto 4 d_Town_yardsOf_31 (by decide) ?_
        refine qL2 ?_ (ih (i + 1) (by omega))
        simp [isum, h17, add_0]

set_option maxRecDepth 100000 in
set_option maxHeartbeats 4000000 in
theorem c_Town_yardsOf {pn wn : Nat → Int64} {fa te fr to_ ea no : Nat → Int32} {pl wa od sk sd go : Int32} {nL : Nat} {set : Int32} (hn : nL ≤ 12) (hte : ∀ j, vp_in (te j) 4) (hq : Q (some (.int (isum (fun l => if hs set (nI l) then yA ea no fa te l else 0) nL))) (hT pn wn fa te fr to_ ea no pl wa (nI nL) od sk sd go)) : Call Γ M_Town_yardsOf 3 0 0 [.ref 0, .int set] (hT pn wn fa te fr to_ ea no pl wa (nI nL) od sk sd go) Q := by
  refine call_intro (ls := [some (.ref 0), some (.int set), none, none]) rfl rfl rfl ?_
  refine wp_iconst 1 0 d_Town_yardsOf_0 rfl (by decide) ?_
  refine wp_istore_2 2 d_Town_yardsOf_1 rfl rfl rfl ?_
  refine wp_iconst 3 0 d_Town_yardsOf_2 rfl (by decide) ?_
  refine wp_istore_3 4 d_Town_yardsOf_3 rfl rfl rfl ?_
  exact l_Town_yardsOf_4 hn hte hq nL 0 (by omega)

set_option maxRecDepth 100000 in
set_option maxHeartbeats 4000000 in
theorem l_Town_legsToldBy_4 {pn wn : Nat → Int64} {fa te fr to_ ea no : Nat → Int32} {pl wa od sk sd go : Int32} {nL : Nat} {w : Int32} (hn : nL ≤ 12) (hq : Q (some (.int (iorr (fun l => if te l = w then bit (nI l) else 0) nL))) (hT pn wn fa te fr to_ ea no pl wa (nI nL) od sk sd go)) : ∀ (r i : Nat) , i + r = nL → WP Γ M_Town_legsToldBy 1 0 0 (hT pn wn fa te fr to_ ea no pl wa (nI nL) od sk sd go) 4 [some (.ref 0), some (.int w), some (.int (iorr (fun l => if te l = w then bit (nI l) else 0) i)), some (.int (nI i))] [] Q := by
  intro r
  induction r with
  | zero =>
    intro i  hi 
    refine wp_iload_n 5 d_Town_legsToldBy_4 rfl rfl ?_
    refine wp_aload_n 6 d_Town_legsToldBy_5 rfl rfl ?_
    refine wp_getfield 9 8 10 d_Town_legsToldBy_6 rfl fl_Town_44 rfl rfl ?_
    refine wp_icmp_ge 34 12 d_Town_legsToldBy_9 rfl (by decide) (fun h9 => ?_) (fun h9 => ?_)
    · refine wp_iload_n 35 d_Town_legsToldBy_34 rfl rfl ?_
      refine wp_ireturn d_Town_legsToldBy_35 rfl ?_
      have e : i = nL := by omega
      subst e
      exact hq
    · exact absurd ((nI_leI (by omega) (by omega)).mpr (by omega)) h9
  | succ r ih =>
    intro i  hi 
    refine wp_iload_n 5 d_Town_legsToldBy_4 rfl rfl ?_
    refine wp_aload_n 6 d_Town_legsToldBy_5 rfl rfl ?_
    refine wp_getfield 9 8 10 d_Town_legsToldBy_6 rfl fl_Town_44 rfl rfl ?_
    refine wp_icmp_ge 34 12 d_Town_legsToldBy_9 rfl (by decide) (fun h9 => ?_) (fun h9 => ?_)
    · exact absurd (nI_leN h9 (by omega) (by omega)) (by omega)
    · refine wp_aload_n 13 d_Town_legsToldBy_12 rfl rfl ?_
      refine wp_getfield 16 8 3 d_Town_legsToldBy_13 rfl fl_Town_22 rfl rfl ?_
      refine wp_iload_n 17 d_Town_legsToldBy_16 rfl rfl ?_
      refine wp_ialoadN 18 d_Town_legsToldBy_17 rfl rfl rfl (by omega) ?_
      refine wp_iload_n 19 d_Town_legsToldBy_18 rfl rfl ?_
      refine wp_icmp_ne 28 22 d_Town_legsToldBy_19 rfl (by decide) (fun h19 => ?_) (fun h19 => ?_)
      · first | refine wp_iincN_3 31 d_Town_legsToldBy_28 rfl rfl rfl ?_ | refine wp_iinc_3 31 1 d_Town_legsToldBy_28 rfl (by decide) rfl rfl ?_
        refine wp_goto 4 d_Town_legsToldBy_31 (by decide) ?_
        refine qL2 ?_ (ih (i + 1) (by omega))
        simp [iorr, h19, or_0]
      · refine wp_iload_n 23 d_Town_legsToldBy_22 rfl rfl ?_
        refine wp_iconst 24 1 d_Town_legsToldBy_23 rfl (by decide) ?_
        refine wp_iload_n 25 d_Town_legsToldBy_24 rfl rfl ?_
        refine wp_ishl 26 d_Town_legsToldBy_25 rfl ?_
        refine wp_ior 27 d_Town_legsToldBy_26 rfl ?_
        refine wp_istore_2 28 d_Town_legsToldBy_27 rfl rfl rfl ?_
        first | refine wp_iincN_3 31 d_Town_legsToldBy_28 rfl rfl rfl ?_ | refine wp_iinc_3 31 1 d_Town_legsToldBy_28 rfl (by decide) rfl rfl ?_
        refine wp_goto 4 d_Town_legsToldBy_31 (by decide) ?_
        refine qL2 ?_ (ih (i + 1) (by omega))
        simp [iorr, h19, or_0]

set_option maxRecDepth 100000 in
set_option maxHeartbeats 4000000 in
theorem c_Town_legsToldBy {pn wn : Nat → Int64} {fa te fr to_ ea no : Nat → Int32} {pl wa od sk sd go : Int32} {nL : Nat} {w : Int32} (hn : nL ≤ 12) (hq : Q (some (.int (iorr (fun l => if te l = w then bit (nI l) else 0) nL))) (hT pn wn fa te fr to_ ea no pl wa (nI nL) od sk sd go)) : Call Γ M_Town_legsToldBy 1 0 0 [.ref 0, .int w] (hT pn wn fa te fr to_ ea no pl wa (nI nL) od sk sd go) Q := by
  refine call_intro (ls := [some (.ref 0), some (.int w), none, none]) rfl rfl rfl ?_
  refine wp_iconst 1 0 d_Town_legsToldBy_0 rfl (by decide) ?_
  refine wp_istore_2 2 d_Town_legsToldBy_1 rfl rfl rfl ?_
  refine wp_iconst 3 0 d_Town_legsToldBy_2 rfl (by decide) ?_
  refine wp_istore_3 4 d_Town_legsToldBy_3 rfl rfl rfl ?_
  exact l_Town_legsToldBy_4 hn hq nL 0 (by omega)

set_option maxRecDepth 100000 in
set_option maxHeartbeats 4000000 in
theorem c_Town_strikeLeg {pn wn : Nat → Int64} {fa te fr to_ ea no : Nat → Int32} {pl wa le od sk sd go : Int32} {leg : Int32} (hq : Q (some (.int (bP (inR leg le ∧ ¬ hs sk leg)))) (hT pn wn fa te fr to_ ea no pl wa le od (if inR leg le ∧ ¬ hs sk leg then sk ||| bit leg else sk) sd go)) : Call Γ M_Town_strikeLeg 2 0 0 [.ref 0, .int leg] (hT pn wn fa te fr to_ ea no pl wa le od sk sd go) Q := by
  refine call_intro (ls := [some (.ref 0), some (.int leg)]) rfl rfl rfl ?_
  refine wp_iload_n 1 d_Town_strikeLeg_0 rfl rfl ?_
  refine wp_aload_n 2 d_Town_strikeLeg_1 rfl rfl ?_
  refine wp_getfield 5 8 10 d_Town_strikeLeg_2 rfl fl_Town_44 rfl rfl ?_
  refine wp_N2 8 M_PM_within 1 d_Town_strikeLeg_5 rfl ms_PM_within lk_Town_95 rfl rfl ?_
  refine c_PM_within ?_
  refine kI ?_
  (first | refine wp_ifP_eq 22 11 d_Town_strikeLeg_8 rfl (by decide) (fun h8 => ?_) (fun h8 => ?_) | refine wp_if_eq 22 11 d_Town_strikeLeg_8 rfl (by decide) (fun h8 => ?_) (fun h8 => ?_))
  · refine wp_iconst 23 0 d_Town_strikeLeg_22 rfl (by decide) ?_
    refine wp_zreturn d_Town_strikeLeg_23 rfl (by first | rfl | exact nbP _) ?_
    first | (rw [if_neg (fun z => h8 z.1)] at hq; exact bq0 (fun z => h8 z.1) hq) | (rw [if_neg (fun z => z.2 h19)] at hq; exact bq0 (fun z => z.2 h19) hq)
  · refine wp_aload_n 12 d_Town_strikeLeg_11 rfl rfl ?_
    refine wp_getfield 15 8 12 d_Town_strikeLeg_12 rfl fl_Town_50 rfl rfl ?_
    refine wp_iload_n 16 d_Town_strikeLeg_15 rfl rfl ?_
    refine wp_N2 19 M_PM_has 1 d_Town_strikeLeg_16 rfl ms_PM_has lk_Town_88 rfl rfl ?_
    refine c_PM_has ?_
    refine kI ?_
    (first | refine wp_ifP_eq 24 22 d_Town_strikeLeg_19 rfl (by decide) (fun h19 => ?_) (fun h19 => ?_) | refine wp_if_eq 24 22 d_Town_strikeLeg_19 rfl (by decide) (fun h19 => ?_) (fun h19 => ?_))
    · refine wp_aload_n 25 d_Town_strikeLeg_24 rfl rfl ?_
      refine wp_dup 26 d_Town_strikeLeg_25 rfl rfl ?_
      refine wp_getfield 29 8 12 d_Town_strikeLeg_26 rfl fl_Town_50 rfl rfl ?_
      refine wp_iconst 30 1 d_Town_strikeLeg_29 rfl (by decide) ?_
      refine wp_iload_n 31 d_Town_strikeLeg_30 rfl rfl ?_
      refine wp_ishl 32 d_Town_strikeLeg_31 rfl ?_
      refine wp_ior 33 d_Town_strikeLeg_32 rfl ?_
      refine wp_putfield 36 8 12 _ d_Town_strikeLeg_33 rfl fp_Town_50 rfl rfl (okP_int _) ?_
      dsimp only [List.set]
      refine wp_iconst 37 1 d_Town_strikeLeg_36 rfl (by decide) ?_
      refine wp_zreturn d_Town_strikeLeg_37 rfl (by first | rfl | exact nbP _) ?_
      rw [if_pos ⟨h8, h19⟩] at hq; exact bq1 ⟨h8, h19⟩ hq
    · refine wp_iconst 23 0 d_Town_strikeLeg_22 rfl (by decide) ?_
      refine wp_zreturn d_Town_strikeLeg_23 rfl (by first | rfl | exact nbP _) ?_
      first | (rw [if_neg (fun z => h8 z.1)] at hq; exact bq0 (fun z => h8 z.1) hq) | (rw [if_neg (fun z => z.2 h19)] at hq; exact bq0 (fun z => z.2 h19) hq)

set_option maxRecDepth 100000 in
set_option maxHeartbeats 4000000 in
theorem c_Town_restoreLeg {pn wn : Nat → Int64} {fa te fr to_ ea no : Nat → Int32} {pl wa le od sk sd go : Int32} {leg : Int32} (hq : Q (some (.int (bP (inR leg le ∧ hs sk leg)))) (hT pn wn fa te fr to_ ea no pl wa le od (if inR leg le ∧ hs sk leg then sk &&& (bit leg ^^^ (-1)) else sk) sd go)) : Call Γ M_Town_restoreLeg 2 0 0 [.ref 0, .int leg] (hT pn wn fa te fr to_ ea no pl wa le od sk sd go) Q := by
  refine call_intro (ls := [some (.ref 0), some (.int leg)]) rfl rfl rfl ?_
  refine wp_iload_n 1 d_Town_restoreLeg_0 rfl rfl ?_
  refine wp_aload_n 2 d_Town_restoreLeg_1 rfl rfl ?_
  refine wp_getfield 5 8 10 d_Town_restoreLeg_2 rfl fl_Town_44 rfl rfl ?_
  refine wp_N2 8 M_PM_within 1 d_Town_restoreLeg_5 rfl ms_PM_within lk_Town_95 rfl rfl ?_
  refine c_PM_within ?_
  refine kI ?_
  (first | refine wp_ifP_eq 22 11 d_Town_restoreLeg_8 rfl (by decide) (fun h8 => ?_) (fun h8 => ?_) | refine wp_if_eq 22 11 d_Town_restoreLeg_8 rfl (by decide) (fun h8 => ?_) (fun h8 => ?_))
  · refine wp_iconst 23 0 d_Town_restoreLeg_22 rfl (by decide) ?_
    refine wp_zreturn d_Town_restoreLeg_23 rfl (by first | rfl | exact nbP _) ?_
    first | (rw [if_neg (fun z => h8 z.1)] at hq; exact bq0 (fun z => h8 z.1) hq) | (rw [if_neg (fun z => h19 z.2)] at hq; exact bq0 (fun z => h19 z.2) hq)
  · refine wp_aload_n 12 d_Town_restoreLeg_11 rfl rfl ?_
    refine wp_getfield 15 8 12 d_Town_restoreLeg_12 rfl fl_Town_50 rfl rfl ?_
    refine wp_iload_n 16 d_Town_restoreLeg_15 rfl rfl ?_
    refine wp_N2 19 M_PM_has 1 d_Town_restoreLeg_16 rfl ms_PM_has lk_Town_88 rfl rfl ?_
    refine c_PM_has ?_
    refine kI ?_
    (first | refine wp_ifP_ne 24 22 d_Town_restoreLeg_19 rfl (by decide) (fun h19 => ?_) (fun h19 => ?_) | refine wp_if_ne 24 22 d_Town_restoreLeg_19 rfl (by decide) (fun h19 => ?_) (fun h19 => ?_))
    · refine wp_aload_n 25 d_Town_restoreLeg_24 rfl rfl ?_
      refine wp_dup 26 d_Town_restoreLeg_25 rfl rfl ?_
      refine wp_getfield 29 8 12 d_Town_restoreLeg_26 rfl fl_Town_50 rfl rfl ?_
      refine wp_iconst 30 1 d_Town_restoreLeg_29 rfl (by decide) ?_
      refine wp_iload_n 31 d_Town_restoreLeg_30 rfl rfl ?_
      refine wp_ishl 32 d_Town_restoreLeg_31 rfl ?_
      refine wp_iconst 33 (-1) d_Town_restoreLeg_32 rfl (by decide) ?_
      refine wp_ixor 34 d_Town_restoreLeg_33 rfl ?_
      refine wp_iand 35 d_Town_restoreLeg_34 rfl ?_
      refine wp_putfield 38 8 12 _ d_Town_restoreLeg_35 rfl fp_Town_50 rfl rfl (okP_int _) ?_
      dsimp only [List.set]
      refine wp_iconst 39 1 d_Town_restoreLeg_38 rfl (by decide) ?_
      refine wp_zreturn d_Town_restoreLeg_39 rfl (by first | rfl | exact nbP _) ?_
      rw [if_pos ⟨h8, h19⟩] at hq; exact bq1 ⟨h8, h19⟩ hq
    · refine wp_iconst 23 0 d_Town_restoreLeg_22 rfl (by decide) ?_
      refine wp_zreturn d_Town_restoreLeg_23 rfl (by first | rfl | exact nbP _) ?_
      first | (rw [if_neg (fun z => h8 z.1)] at hq; exact bq0 (fun z => h8 z.1) hq) | (rw [if_neg (fun z => h19 z.2)] at hq; exact bq0 (fun z => h19 z.2) hq)

set_option maxRecDepth 100000 in
set_option maxHeartbeats 4000000 in
theorem c_Town_walkAlong {pn wn : Nat → Int64} {fa te fr to_ ea no : Nat → Int32} {pl wa od sk sd go : Int32} {nL : Nat} {leg : Int32} (hn : nL ≤ 12) (hte : ∀ j, vp_in (te j) 4) (hq : Q (some (.int (bP (canGo fr to_ (nI nL) sk sd leg)))) (hT pn wn fa te fr to_ ea no pl wa (nI nL) od sk (if canGo fr to_ (nI nL) sk sd leg then (if sd = fr leg.toNatClampNeg then to_ leg.toNatClampNeg else fr leg.toNatClampNeg) else sd) (if canGo fr to_ (nI nL) sk sd leg then go + yA ea no fa te leg.toNatClampNeg else go))) : Call Γ M_Town_walkAlong 3 0 0 [.ref 0, .int leg] (hT pn wn fa te fr to_ ea no pl wa (nI nL) od sk sd go) Q := by
  refine call_intro (ls := [some (.ref 0), some (.int leg)]) rfl rfl rfl ?_
  refine wp_iload_n 1 d_Town_walkAlong_0 rfl rfl ?_
  refine wp_aload_n 2 d_Town_walkAlong_1 rfl rfl ?_
  refine wp_getfield 5 8 10 d_Town_walkAlong_2 rfl fl_Town_44 rfl rfl ?_
  refine wp_N2 8 M_PM_within 1 d_Town_walkAlong_5 rfl ms_PM_within lk_Town_95 rfl rfl ?_
  refine c_PM_within ?_
  refine kI ?_
  (first | refine wp_ifP_eq 22 11 d_Town_walkAlong_8 rfl (by decide) (fun h8 => ?_) (fun h8 => ?_) | refine wp_if_eq 22 11 d_Town_walkAlong_8 rfl (by decide) (fun h8 => ?_) (fun h8 => ?_))
  · refine wp_iconst 23 0 d_Town_walkAlong_22 rfl (by decide) ?_
    refine wp_zreturn d_Town_walkAlong_23 rfl (by first | rfl | exact nbP _) ?_
    first | (simp only [if_neg (fun z : canGo fr to_ (nI nL) sk sd leg => h8 z.1)] at hq; exact bq0 (fun z => h8 z.1) hq) | (simp only [if_neg (fun z : canGo fr to_ (nI nL) sk sd leg => z.2.1 h19)] at hq; exact bq0 (fun z => z.2.1 h19) hq)
  · refine wp_aload_n 12 d_Town_walkAlong_11 rfl rfl ?_
    refine wp_getfield 15 8 12 d_Town_walkAlong_12 rfl fl_Town_50 rfl rfl ?_
    refine wp_iload_n 16 d_Town_walkAlong_15 rfl rfl ?_
    refine wp_N2 19 M_PM_has 1 d_Town_walkAlong_16 rfl ms_PM_has lk_Town_88 rfl rfl ?_
    refine c_PM_has ?_
    refine kI ?_
    (first | refine wp_ifP_eq 24 22 d_Town_walkAlong_19 rfl (by decide) (fun h19 => ?_) (fun h19 => ?_) | refine wp_if_eq 24 22 d_Town_walkAlong_19 rfl (by decide) (fun h19 => ?_) (fun h19 => ?_))
    · refine wp_aload_n 25 d_Town_walkAlong_24 rfl rfl ?_
      refine wp_getfield 28 8 13 d_Town_walkAlong_25 rfl fl_Town_53 rfl rfl ?_
      refine wp_aload_n 29 d_Town_walkAlong_28 rfl rfl ?_
      refine wp_getfield 32 8 4 d_Town_walkAlong_29 rfl fl_Town_25 rfl rfl ?_
      refine wp_iload_n 33 d_Town_walkAlong_32 rfl rfl ?_
      refine wp_iaload 34 d_Town_walkAlong_33 rfl rfl (inR_in h8 hn (by omega)) ?_
      refine wp_icmp_eq 52 37 d_Town_walkAlong_34 rfl (by decide) (fun h34 => ?_) (fun h34 => ?_)
      · refine wp_aload_n 53 d_Town_walkAlong_52 rfl rfl ?_
        refine wp_aload_n 54 d_Town_walkAlong_53 rfl rfl ?_
        refine wp_getfield 57 8 13 d_Town_walkAlong_54 rfl fl_Town_53 rfl rfl ?_
        refine wp_aload_n 58 d_Town_walkAlong_57 rfl rfl ?_
        refine wp_getfield 61 8 4 d_Town_walkAlong_58 rfl fl_Town_25 rfl rfl ?_
        refine wp_iload_n 62 d_Town_walkAlong_61 rfl rfl ?_
        refine wp_iaload 63 d_Town_walkAlong_62 rfl rfl (inR_in h8 hn (by omega)) ?_
        refine wp_icmp_ne 75 66 d_Town_walkAlong_63 rfl (by decide) (fun h63 => ?_) (fun h63 => ?_)
        · refine wp_aload_n 76 d_Town_walkAlong_75 rfl rfl ?_
          refine wp_getfield 79 8 4 d_Town_walkAlong_76 rfl fl_Town_25 rfl rfl ?_
          refine wp_iload_n 80 d_Town_walkAlong_79 rfl rfl ?_
          refine wp_iaload 81 d_Town_walkAlong_80 rfl rfl (inR_in h8 hn (by omega)) ?_
          refine wp_putfield 84 8 13 _ d_Town_walkAlong_81 rfl fp_Town_53 rfl rfl (okP_int _) ?_
          dsimp only [List.set]
          refine wp_aload_n 85 d_Town_walkAlong_84 rfl rfl ?_
          refine wp_dup 86 d_Town_walkAlong_85 rfl rfl ?_
          refine wp_getfield 89 8 14 d_Town_walkAlong_86 rfl fl_Town_56 rfl rfl ?_
          refine wp_aload_n 90 d_Town_walkAlong_89 rfl rfl ?_
          refine wp_iload_n 91 d_Town_walkAlong_90 rfl rfl ?_
          refine wp_V1 94 M_Town_yardsAlong 2 d_Town_walkAlong_91 rfl mv_Town_yardsAlong lk_Town_92 rfl rfl rfl rfl rfl ?_
          refine c_Town_yardsAlong (inR_in h8 hn (by omega)) hte ?_
          refine kI ?_
          refine wp_iadd 95 d_Town_walkAlong_94 rfl ?_
          refine wp_putfield 98 8 14 _ d_Town_walkAlong_95 rfl fp_Town_56 rfl rfl (okP_int _) ?_
          dsimp only [List.set]
          refine wp_iconst 99 1 d_Town_walkAlong_98 rfl (by decide) ?_
          refine wp_zreturn d_Town_walkAlong_99 rfl (by first | rfl | exact nbP _) ?_
          first | (have hp9 : canGo fr to_ (nI nL) sk sd leg := ⟨h8, h19, Or.inl h34⟩; simp only [if_pos hp9] at hq; first | (rw [if_pos h63] at hq; exact bq1 hp9 hq) | (rw [if_neg h63] at hq; exact bq1 hp9 hq)) | (have hp9 : canGo fr to_ (nI nL) sk sd leg := ⟨h8, h19, Or.inr h47⟩; simp only [if_pos hp9] at hq; first | (rw [if_pos h63] at hq; exact bq1 hp9 hq) | (rw [if_neg h63] at hq; exact bq1 hp9 hq))
        · refine wp_aload_n 67 d_Town_walkAlong_66 rfl rfl ?_
          refine wp_getfield 70 8 5 d_Town_walkAlong_67 rfl fl_Town_28 rfl rfl ?_
          refine wp_iload_n 71 d_Town_walkAlong_70 rfl rfl ?_
          refine wp_iaload 72 d_Town_walkAlong_71 rfl rfl (inR_in h8 hn (by omega)) ?_
          refine wp_goto 81 d_Town_walkAlong_72 (by decide) ?_
          refine wp_putfield 84 8 13 _ d_Town_walkAlong_81 rfl fp_Town_53 rfl rfl (okP_int _) ?_
          dsimp only [List.set]
          refine wp_aload_n 85 d_Town_walkAlong_84 rfl rfl ?_
          refine wp_dup 86 d_Town_walkAlong_85 rfl rfl ?_
          refine wp_getfield 89 8 14 d_Town_walkAlong_86 rfl fl_Town_56 rfl rfl ?_
          refine wp_aload_n 90 d_Town_walkAlong_89 rfl rfl ?_
          refine wp_iload_n 91 d_Town_walkAlong_90 rfl rfl ?_
          refine wp_V1 94 M_Town_yardsAlong 2 d_Town_walkAlong_91 rfl mv_Town_yardsAlong lk_Town_92 rfl rfl rfl rfl rfl ?_
          refine c_Town_yardsAlong (inR_in h8 hn (by omega)) hte ?_
          refine kI ?_
          refine wp_iadd 95 d_Town_walkAlong_94 rfl ?_
          refine wp_putfield 98 8 14 _ d_Town_walkAlong_95 rfl fp_Town_56 rfl rfl (okP_int _) ?_
          dsimp only [List.set]
          refine wp_iconst 99 1 d_Town_walkAlong_98 rfl (by decide) ?_
          refine wp_zreturn d_Town_walkAlong_99 rfl (by first | rfl | exact nbP _) ?_
          first | (have hp9 : canGo fr to_ (nI nL) sk sd leg := ⟨h8, h19, Or.inl h34⟩; simp only [if_pos hp9] at hq; first | (rw [if_pos h63] at hq; exact bq1 hp9 hq) | (rw [if_neg h63] at hq; exact bq1 hp9 hq)) | (have hp9 : canGo fr to_ (nI nL) sk sd leg := ⟨h8, h19, Or.inr h47⟩; simp only [if_pos hp9] at hq; first | (rw [if_pos h63] at hq; exact bq1 hp9 hq) | (rw [if_neg h63] at hq; exact bq1 hp9 hq))
      · refine wp_aload_n 38 d_Town_walkAlong_37 rfl rfl ?_
        refine wp_getfield 41 8 13 d_Town_walkAlong_38 rfl fl_Town_53 rfl rfl ?_
        refine wp_aload_n 42 d_Town_walkAlong_41 rfl rfl ?_
        refine wp_getfield 45 8 5 d_Town_walkAlong_42 rfl fl_Town_28 rfl rfl ?_
        refine wp_iload_n 46 d_Town_walkAlong_45 rfl rfl ?_
        refine wp_iaload 47 d_Town_walkAlong_46 rfl rfl (inR_in h8 hn (by omega)) ?_
        refine wp_icmp_eq 52 50 d_Town_walkAlong_47 rfl (by decide) (fun h47 => ?_) (fun h47 => ?_)
        · refine wp_aload_n 53 d_Town_walkAlong_52 rfl rfl ?_
          refine wp_aload_n 54 d_Town_walkAlong_53 rfl rfl ?_
          refine wp_getfield 57 8 13 d_Town_walkAlong_54 rfl fl_Town_53 rfl rfl ?_
          refine wp_aload_n 58 d_Town_walkAlong_57 rfl rfl ?_
          refine wp_getfield 61 8 4 d_Town_walkAlong_58 rfl fl_Town_25 rfl rfl ?_
          refine wp_iload_n 62 d_Town_walkAlong_61 rfl rfl ?_
          refine wp_iaload 63 d_Town_walkAlong_62 rfl rfl (inR_in h8 hn (by omega)) ?_
          refine wp_icmp_ne 75 66 d_Town_walkAlong_63 rfl (by decide) (fun h63 => ?_) (fun h63 => ?_)
          · refine wp_aload_n 76 d_Town_walkAlong_75 rfl rfl ?_
            refine wp_getfield 79 8 4 d_Town_walkAlong_76 rfl fl_Town_25 rfl rfl ?_
            refine wp_iload_n 80 d_Town_walkAlong_79 rfl rfl ?_
            refine wp_iaload 81 d_Town_walkAlong_80 rfl rfl (inR_in h8 hn (by omega)) ?_
            refine wp_putfield 84 8 13 _ d_Town_walkAlong_81 rfl fp_Town_53 rfl rfl (okP_int _) ?_
            dsimp only [List.set]
            refine wp_aload_n 85 d_Town_walkAlong_84 rfl rfl ?_
            refine wp_dup 86 d_Town_walkAlong_85 rfl rfl ?_
            refine wp_getfield 89 8 14 d_Town_walkAlong_86 rfl fl_Town_56 rfl rfl ?_
            refine wp_aload_n 90 d_Town_walkAlong_89 rfl rfl ?_
            refine wp_iload_n 91 d_Town_walkAlong_90 rfl rfl ?_
            refine wp_V1 94 M_Town_yardsAlong 2 d_Town_walkAlong_91 rfl mv_Town_yardsAlong lk_Town_92 rfl rfl rfl rfl rfl ?_
            refine c_Town_yardsAlong (inR_in h8 hn (by omega)) hte ?_
            refine kI ?_
            refine wp_iadd 95 d_Town_walkAlong_94 rfl ?_
            refine wp_putfield 98 8 14 _ d_Town_walkAlong_95 rfl fp_Town_56 rfl rfl (okP_int _) ?_
            dsimp only [List.set]
            refine wp_iconst 99 1 d_Town_walkAlong_98 rfl (by decide) ?_
            refine wp_zreturn d_Town_walkAlong_99 rfl (by first | rfl | exact nbP _) ?_
            first | (have hp9 : canGo fr to_ (nI nL) sk sd leg := ⟨h8, h19, Or.inl h34⟩; simp only [if_pos hp9] at hq; first | (rw [if_pos h63] at hq; exact bq1 hp9 hq) | (rw [if_neg h63] at hq; exact bq1 hp9 hq)) | (have hp9 : canGo fr to_ (nI nL) sk sd leg := ⟨h8, h19, Or.inr h47⟩; simp only [if_pos hp9] at hq; first | (rw [if_pos h63] at hq; exact bq1 hp9 hq) | (rw [if_neg h63] at hq; exact bq1 hp9 hq))
          · refine wp_aload_n 67 d_Town_walkAlong_66 rfl rfl ?_
            refine wp_getfield 70 8 5 d_Town_walkAlong_67 rfl fl_Town_28 rfl rfl ?_
            refine wp_iload_n 71 d_Town_walkAlong_70 rfl rfl ?_
            refine wp_iaload 72 d_Town_walkAlong_71 rfl rfl (inR_in h8 hn (by omega)) ?_
            refine wp_goto 81 d_Town_walkAlong_72 (by decide) ?_
            refine wp_putfield 84 8 13 _ d_Town_walkAlong_81 rfl fp_Town_53 rfl rfl (okP_int _) ?_
            dsimp only [List.set]
            refine wp_aload_n 85 d_Town_walkAlong_84 rfl rfl ?_
            refine wp_dup 86 d_Town_walkAlong_85 rfl rfl ?_
            refine wp_getfield 89 8 14 d_Town_walkAlong_86 rfl fl_Town_56 rfl rfl ?_
            refine wp_aload_n 90 d_Town_walkAlong_89 rfl rfl ?_
            refine wp_iload_n 91 d_Town_walkAlong_90 rfl rfl ?_
            refine wp_V1 94 M_Town_yardsAlong 2 d_Town_walkAlong_91 rfl mv_Town_yardsAlong lk_Town_92 rfl rfl rfl rfl rfl ?_
            refine c_Town_yardsAlong (inR_in h8 hn (by omega)) hte ?_
            refine kI ?_
            refine wp_iadd 95 d_Town_walkAlong_94 rfl ?_
            refine wp_putfield 98 8 14 _ d_Town_walkAlong_95 rfl fp_Town_56 rfl rfl (okP_int _) ?_
            dsimp only [List.set]
            refine wp_iconst 99 1 d_Town_walkAlong_98 rfl (by decide) ?_
            refine wp_zreturn d_Town_walkAlong_99 rfl (by first | rfl | exact nbP _) ?_
            first | (have hp9 : canGo fr to_ (nI nL) sk sd leg := ⟨h8, h19, Or.inl h34⟩; simp only [if_pos hp9] at hq; first | (rw [if_pos h63] at hq; exact bq1 hp9 hq) | (rw [if_neg h63] at hq; exact bq1 hp9 hq)) | (have hp9 : canGo fr to_ (nI nL) sk sd leg := ⟨h8, h19, Or.inr h47⟩; simp only [if_pos hp9] at hq; first | (rw [if_pos h63] at hq; exact bq1 hp9 hq) | (rw [if_neg h63] at hq; exact bq1 hp9 hq))
        · refine wp_iconst 51 0 d_Town_walkAlong_50 rfl (by decide) ?_
          refine wp_zreturn d_Town_walkAlong_51 rfl (by first | rfl | exact nbP _) ?_
          have hn9 : ¬ canGo fr to_ (nI nL) sk sd leg := fun z => z.2.2.elim h34 h47
          simp only [if_neg hn9] at hq; exact bq0 hn9 hq
    · refine wp_iconst 23 0 d_Town_walkAlong_22 rfl (by decide) ?_
      refine wp_zreturn d_Town_walkAlong_23 rfl (by first | rfl | exact nbP _) ?_
      first | (simp only [if_neg (fun z : canGo fr to_ (nI nL) sk sd leg => h8 z.1)] at hq; exact bq0 (fun z => h8 z.1) hq) | (simp only [if_neg (fun z : canGo fr to_ (nI nL) sk sd leg => z.2.1 h19)] at hq; exact bq0 (fun z => z.2.1 h19) hq)

set_option maxRecDepth 100000 in
set_option maxHeartbeats 4000000 in
theorem c_Town_clear {pn wn : Nat → Int64} {fa te fr to_ ea no : Nat → Int32} {pl wa le od sk sd go : Int32} (hq : Q none (hT pn wn fa te fr to_ ea no (0) (0) (0) (2) (0) (-1) (0))) : Call Γ M_Town_clear 1 0 0 [.ref 0] (hT pn wn fa te fr to_ ea no pl wa le od sk sd go) Q := by
  refine call_intro (ls := [some (.ref 0)]) rfl rfl rfl ?_
  refine wp_aload_n 1 d_Town_clear_0 rfl rfl ?_
  refine wp_iconst 2 0 d_Town_clear_1 rfl (by decide) ?_
  refine wp_putfield 5 8 8 _ d_Town_clear_2 rfl fp_Town_37 rfl rfl (okP_int _) ?_
  dsimp only [List.set]
  refine wp_aload_n 6 d_Town_clear_5 rfl rfl ?_
  refine wp_iconst 7 0 d_Town_clear_6 rfl (by decide) ?_
  refine wp_putfield 10 8 9 _ d_Town_clear_7 rfl fp_Town_41 rfl rfl (okP_int _) ?_
  dsimp only [List.set]
  refine wp_aload_n 11 d_Town_clear_10 rfl rfl ?_
  refine wp_iconst 12 0 d_Town_clear_11 rfl (by decide) ?_
  refine wp_putfield 15 8 10 _ d_Town_clear_12 rfl fp_Town_44 rfl rfl (okP_int _) ?_
  dsimp only [List.set]
  refine wp_aload_n 16 d_Town_clear_15 rfl rfl ?_
  refine wp_iconst 17 2 d_Town_clear_16 rfl (by decide) ?_
  refine wp_putfield 20 8 11 _ d_Town_clear_17 rfl fp_Town_47 rfl rfl (okP_int _) ?_
  dsimp only [List.set]
  refine wp_aload_n 21 d_Town_clear_20 rfl rfl ?_
  refine wp_iconst 22 0 d_Town_clear_21 rfl (by decide) ?_
  refine wp_putfield 25 8 12 _ d_Town_clear_22 rfl fp_Town_50 rfl rfl (okP_int _) ?_
  dsimp only [List.set]
  refine wp_aload_n 26 d_Town_clear_25 rfl rfl ?_
  refine wp_iconst 27 (-1) d_Town_clear_26 rfl (by decide) ?_
  refine wp_putfield 30 8 13 _ d_Town_clear_27 rfl fp_Town_53 rfl rfl (okP_int _) ?_
  dsimp only [List.set]
  refine wp_aload_n 31 d_Town_clear_30 rfl rfl ?_
  refine wp_iconst 32 0 d_Town_clear_31 rfl (by decide) ?_
  refine wp_putfield 35 8 14 _ d_Town_clear_32 rfl fp_Town_56 rfl rfl (okP_int _) ?_
  dsimp only [List.set]
  refine wp_return d_Town_clear_35 rfl ?_
  exact hq

end T21
