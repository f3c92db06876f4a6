/-! ===== Chart: trace, lay, draw ===== -/
/-- parts, laying legs, backward, how many of them, how many parts, the part that is laid now -/
abbrev TrS : Type := (Nat → Int32) × (Nat → Int32) × (Nat → Int32) × Nat × Nat × Int32
def trL (there : Int32) (fr to_ : Nat → Int32) (nL : Nat) (po : Nat → Int32) : Int32 := ffind (layP there po fr to_) 0 nL
def trP (nP : Nat) (po : Nat → Int32) : Int32 := ffind0 (fun j => po j = -1) 0 nP
def trStep (there : Int32) (fr to_ : Nat → Int32) (nL nP : Nat) (S : TrS) : TrS :=
  if trL there fr to_ nL S.1 = -1 then (upd S.1 (trP nP S.1).toNatClampNeg (trP nP S.1), S.2.1, S.2.2.1, S.2.2.2.1, S.2.2.2.2.1 + 1, trP nP S.1)
  else if un S.1 fr (trL there fr to_ nL S.1).toNatClampNeg then (upd S.1 (fr (trL there fr to_ nL S.1).toNatClampNeg).toNatClampNeg S.2.2.2.2.2, upd S.2.1 S.2.2.2.1 (trL there fr to_ nL S.1), upd S.2.2.1 S.2.2.2.1 1, S.2.2.2.1 + 1, S.2.2.2.2.1, S.2.2.2.2.2)
  else (upd S.1 (to_ (trL there fr to_ nL S.1).toNatClampNeg).toNatClampNeg S.2.2.2.2.2, upd S.2.1 S.2.2.2.1 (trL there fr to_ nL S.1), upd S.2.2.1 S.2.2.2.1 0, S.2.2.2.1 + 1, S.2.2.2.2.1, S.2.2.2.2.2)
def trI (there : Int32) (fr to_ : Nat → Int32) (nL nP : Nat) : Nat → TrS → TrS
  | 0, S => S
  | r + 1, S => trI there fr to_ nL nP r (trStep there fr to_ nL nP S)
def tr0 (po la ba : Nat → Int32) : TrS := (fun j => if j < 7 then -1 else po j, la, ba, 0, 0, -1)
def lyStep (cea cno cla cba fr to_ : Nat → Int32) (i : Nat) (s : (Nat → Int32) × (Nat → Int32)) : (Nat → Int32) × (Nat → Int32) :=
  if cba i = 0 then (upd s.1 (to_ (cla i).toNatClampNeg).toNatClampNeg (s.1 (fr (cla i).toNatClampNeg).toNatClampNeg + cea (cla i).toNatClampNeg), upd s.2 (to_ (cla i).toNatClampNeg).toNatClampNeg (s.2 (fr (cla i).toNatClampNeg).toNatClampNeg + cno (cla i).toNatClampNeg))
  else (upd s.1 (fr (cla i).toNatClampNeg).toNatClampNeg (s.1 (to_ (cla i).toNatClampNeg).toNatClampNeg - cea (cla i).toNatClampNeg), upd s.2 (fr (cla i).toNatClampNeg).toNatClampNeg (s.2 (to_ (cla i).toNatClampNeg).toNatClampNeg - cno (cla i).toNatClampNeg))
def lyI (cea cno cla cba fr to_ : Nat → Int32) : Nat → Nat → (Nat → Int32) × (Nat → Int32) → (Nat → Int32) × (Nat → Int32)
  | 0, _, s => s
  | r + 1, i, s => lyI cea cno cla cba fr to_ r (i + 1) (lyStep cea cno cla cba fr to_ i s)
def fil (n : Nat) (v : Int32) (f : Nat → Int32) : Nat → Int32 := fun j => if j < n then v else f j
theorem ffind_ex {p : Nat → Prop} [DecidablePred p] : ∀ {n i : Nat}, ffind p i n ≠ -1 → ∃ j, i ≤ j ∧ j < i + n ∧ ffind p i n = nI j ∧ p j
  | 0, i, h => absurd rfl h
  | n + 1, i, h => by
    by_cases hp : p i
    · exact ⟨i, by omega, by omega, by simp only [ffind, if_pos hp], hp⟩
    · simp only [ffind, if_neg hp] at h ⊢
      obtain ⟨j, h1, h2, h3, h4⟩ := ffind_ex h
      exact ⟨j, by omega, by omega, h3, h4⟩
theorem ffind_in {p : Nat → Prop} [DecidablePred p] {n N : Nat} (h : ffind p 0 n ≠ -1) (hn : n ≤ N) (hN : N < 2 ^ 31) : vp_in (ffind p 0 n) N := by
  obtain ⟨j, -, h2, h3, -⟩ := ffind_ex h
  rw [h3]; exact vp_in_nI (by omega) hN
theorem ffind0_ex {p : Nat → Prop} [DecidablePred p] : ∀ {n i : Nat}, (∃ j, i ≤ j ∧ j < i + n ∧ ffind0 p i n = nI j ∧ p j ∧ ∀ k, i ≤ k → k < j → ¬ p k) ∨ (ffind0 p i n = 0 ∧ ∀ k, i ≤ k → k < i + n → ¬ p k)
  | 0, i => Or.inr ⟨rfl, fun k h1 h2 => absurd h2 (by omega)⟩
  | n + 1, i => by
    by_cases hp : p i
    · exact Or.inl ⟨i, by omega, by omega, by simp only [ffind0, if_pos hp], hp, fun k h1 h2 => absurd h2 (by omega)⟩
    · simp only [ffind0, if_neg hp]
      rcases ffind0_ex (p := p) (n := n) (i := i + 1) with ⟨j, h1, h2, h3, h4, h5⟩ | ⟨h1, h2⟩
      · refine Or.inl ⟨j, by omega, by omega, h3, h4, fun k k1 k2 => ?_⟩
        by_cases hk : k = i
        · rw [hk]; exact hp
        · exact h5 k (by omega) k2
      · refine Or.inr ⟨h1, fun k k1 k2 => ?_⟩
        by_cases hk : k = i
        · rw [hk]; exact hp
        · exact h2 k (by omega) (by omega)
theorem ffind0_in {p : Nat → Prop} [DecidablePred p] {n N : Nat} (hn : n ≤ N) (h0 : 0 < N) (hN : N < 2 ^ 31) : vp_in (ffind0 p 0 n) N := by
  rcases ffind0_ex (p := p) (n := n) (i := 0) with ⟨j, -, h2, h3, -⟩ | ⟨h1, -⟩
  · rw [h3]; exact vp_in_nI (by omega) hN
  · rw [h1]; exact vp_in_nI (n := 0) h0 hN
theorem trStep_sum (there : Int32) (fr to_ : Nat → Int32) (nL nP : Nat) (S : TrS) : (trStep there fr to_ nL nP S).2.2.2.1 + (trStep there fr to_ nL nP S).2.2.2.2.1 = S.2.2.2.1 + S.2.2.2.2.1 + 1 := by
  unfold trStep
  split
  · dsimp only; omega
  · split <;> (dsimp only; omega)
theorem trI_sum (there : Int32) (fr to_ : Nat → Int32) (nL nP : Nat) : ∀ (r : Nat) (S : TrS), (trI there fr to_ nL nP r S).2.2.2.1 + (trI there fr to_ nL nP r S).2.2.2.2.1 = S.2.2.2.1 + S.2.2.2.2.1 + r
  | 0, S => rfl
  | r + 1, S => by simp only [trI]; rw [trI_sum there fr to_ nL nP r, trStep_sum]; omega
theorem upd_all {P : Int32 → Prop} {f : Nat → Int32} (h : ∀ j, P (f j)) {k : Nat} {v : Int32} (hv : P v) : ∀ j, P (upd f k v j) := by
  intro j
  unfold upd
  split
  · exact hv
  · exact h j
theorem trStep_la {there : Int32} {fr to_ : Nat → Int32} {nL nP : Nat} {S : TrS} (hn : nL ≤ 12) (h : ∀ j, vp_in (S.2.1 j) 12) : ∀ j, vp_in ((trStep there fr to_ nL nP S).2.1 j) 12 := by
  unfold trStep
  split
  · exact h
  · rename_i hne
    have hl : vp_in (trL there fr to_ nL S.1) 12 := ffind_in hne hn (by omega)
    split <;> exact upd_all (P := fun x => vp_in x 12) h hl
theorem trI_la {there : Int32} {fr to_ : Nat → Int32} {nL nP : Nat} (hn : nL ≤ 12) : ∀ (r : Nat) (S : TrS), (∀ j, vp_in (S.2.1 j) 12) → ∀ j, vp_in ((trI there fr to_ nL nP r S).2.1 j) 12
  | 0, S, h => h
  | r + 1, S, h => trI_la hn r _ (trStep_la hn h)
section T24
variable {Γ : Gm} {Q : Option Value → LH → Prop}
set_option maxRecDepth 100000 in
set_option maxHeartbeats 4000000 in
theorem l_Chart_trace_23 {cea cno cx cy fa te fr to_ ea no : Nat → Int32} {pn wn : Nat → Int64} {wa od sk sd go : Int32} {nL nP : Nat} {there : Int32} (hn : nL ≤ 12) (hP : nP ≤ 7) (hfr : ∀ j, vp_in (fr j) 7) (hto : ∀ j, vp_in (to_ j) 7) : ∀ (r i : Nat) (S : TrS), i + r = nP → (S.2.2.2.1 + S.2.2.2.2.1 = i ∧ Q none (hCT cea cno cx cy ((trI there fr to_ nL nP r S).1) ((trI there fr to_ nL nP r S).2.1) ((trI there fr to_ nL nP r S).2.2.1) (nI (trI there fr to_ nL nP r S).2.2.2.1) (nI (trI there fr to_ nL nP r S).2.2.2.2.1) pn wn fa te fr to_ ea no (nI nP) wa (nI nL) od sk sd go)) → WP Γ M_Chart_trace 3 0 0 (hCT cea cno cx cy (S.1) (S.2.1) (S.2.2.1) (nI S.2.2.2.1) (nI S.2.2.2.2.1) pn wn fa te fr to_ ea no (nI nP) wa (nI nL) od sk sd go) 23 [some (.ref 0), some (.ref 8), some (.int there), some (.int S.2.2.2.2.2), some (.int (nI i)), none, none] [] Q := by
  intro r
  induction r with
  | zero =>
    intro i S hi hinv
    refine wp_iload 25 d_Chart_trace_23 rfl rfl ?_
    refine wp_aload_n 26 d_Chart_trace_25 rfl rfl ?_
    refine wp_getfield 29 8 8 d_Chart_trace_26 rfl fl_Chart_80 rfl rfl ?_
    refine wp_icmp_ge 161 32 d_Chart_trace_29 rfl (by decide) (fun h29 => ?_) (fun h29 => ?_)
    · refine wp_return d_Chart_trace_161 rfl ?_
      exact hinv.2
    · exact absurd ((nI_leI (by omega) (by omega)).mpr (by omega)) h29
  | succ r ih =>
    intro i S hi hinv
    refine wp_iload 25 d_Chart_trace_23 rfl rfl ?_
    refine wp_aload_n 26 d_Chart_trace_25 rfl rfl ?_
    refine wp_getfield 29 8 8 d_Chart_trace_26 rfl fl_Chart_80 rfl rfl ?_
    refine wp_icmp_ge 161 32 d_Chart_trace_29 rfl (by decide) (fun h29 => ?_) (fun h29 => ?_)
    · exact absurd (nI_leN h29 (by omega) (by omega)) (by omega)
    · obtain ⟨hS, hQ⟩ := hinv
      refine wp_aload_n 33 d_Chart_trace_32 rfl rfl ?_
      refine wp_aload_n 34 d_Chart_trace_33 rfl rfl ?_
      refine wp_iload_n 35 d_Chart_trace_34 rfl rfl ?_
      refine wp_V2 38 M_Chart_firstLaying 2 d_Chart_trace_35 rfl mv_Chart_firstLaying lk_Chart_83 rfl rfl rfl rfl rfl ?_
      refine c_Chart_firstLaying hn hfr hto ?_
      show Kid _ _ _ _ _ _ _ _ _ (some (.int (trL there fr to_ nL S.1))) _
      refine kI ?_
      refine wp_istore_5 40 d_Chart_trace_38 rfl rfl rfl ?_
      refine wp_iload 42 d_Chart_trace_40 rfl rfl ?_
      refine wp_iconst 43 (-1) d_Chart_trace_42 rfl (by decide) ?_
      refine wp_icmp_ne 72 46 d_Chart_trace_43 rfl (by decide) (fun h43 => ?_) (fun h43 => ?_)
      · refine wp_aload_n 73 d_Chart_trace_72 rfl rfl ?_
        refine wp_getfield 76 0 4 d_Chart_trace_73 rfl fl_Chart_24 rfl rfl ?_
        refine wp_aload_n 77 d_Chart_trace_76 rfl rfl ?_
        refine wp_getfield 80 8 4 d_Chart_trace_77 rfl fl_Chart_91 rfl rfl ?_
        refine wp_iload 82 d_Chart_trace_80 rfl rfl ?_
        refine wp_iaload 83 d_Chart_trace_82 rfl rfl (ffind_in h43 hn (by omega)) ?_
        refine wp_iaload 84 d_Chart_trace_83 rfl rfl (hfr _) ?_
        refine wp_iconst 85 (-1) d_Chart_trace_84 rfl (by decide) ?_
        refine wp_icmp_ne 92 88 d_Chart_trace_85 rfl (by decide) (fun h85 => ?_) (fun h85 => ?_)
        · refine wp_iconst 93 0 d_Chart_trace_92 rfl (by decide) ?_
          refine wp_istore_6 95 d_Chart_trace_93 rfl rfl rfl ?_
          refine wp_aload_n 96 d_Chart_trace_95 rfl rfl ?_
          refine wp_getfield 99 0 4 d_Chart_trace_96 rfl fl_Chart_24 rfl rfl ?_
          refine wp_iload 101 d_Chart_trace_99 rfl rfl ?_
          refine wp_if_eq 114 104 d_Chart_trace_101 rfl (by decide) (fun h101 => ?_) (fun h101 => ?_)
          · refine wp_aload_n 115 d_Chart_trace_114 rfl rfl ?_
            refine wp_getfield 118 8 5 d_Chart_trace_115 rfl fl_Chart_94 rfl rfl ?_
            refine wp_iload 120 d_Chart_trace_118 rfl rfl ?_
            refine wp_iaload 121 d_Chart_trace_120 rfl rfl (ffind_in h43 hn (by omega)) ?_
            refine wp_iload_n 122 d_Chart_trace_121 rfl rfl ?_
            first | refine wp_iastore 123 d_Chart_trace_122 rfl rfl (hfr _) ?_ | refine wp_iastore 123 d_Chart_trace_122 rfl rfl (hto _) ?_
            dsimp only [List.set]
            refine wp_aload_n 124 d_Chart_trace_123 rfl rfl ?_
            refine wp_getfield 127 0 5 d_Chart_trace_124 rfl fl_Chart_27 rfl rfl ?_
            refine wp_aload_n 128 d_Chart_trace_127 rfl rfl ?_
            refine wp_getfield 131 0 7 d_Chart_trace_128 rfl fl_Chart_34 rfl rfl ?_
            refine wp_iload 133 d_Chart_trace_131 rfl rfl ?_
            refine wp_iastoreN 134 d_Chart_trace_133 rfl rfl rfl (by omega) ?_
            dsimp only [List.set]
            refine wp_aload_n 135 d_Chart_trace_134 rfl rfl ?_
            refine wp_getfield 138 0 6 d_Chart_trace_135 rfl fl_Chart_30 rfl rfl ?_
            refine wp_aload_n 139 d_Chart_trace_138 rfl rfl ?_
            refine wp_getfield 142 0 7 d_Chart_trace_139 rfl fl_Chart_34 rfl rfl ?_
            refine wp_iload 144 d_Chart_trace_142 rfl rfl ?_
            refine wp_zastoreN 145 d_Chart_trace_144 rfl rfl rfl (by omega) ?_
            dsimp only [List.set]
            refine wp_aload_n 146 d_Chart_trace_145 rfl rfl ?_
            refine wp_dup 147 d_Chart_trace_146 rfl rfl ?_
            refine wp_getfield 150 0 7 d_Chart_trace_147 rfl fl_Chart_34 rfl rfl ?_
            refine wp_iconst 151 1 d_Chart_trace_150 rfl (by decide) ?_
            refine wp_iadd 152 d_Chart_trace_151 rfl ?_
            refine wp_putfield 155 0 7 _ d_Chart_trace_152 rfl fp_Chart_34 rfl rfl (okP_int _) ?_
            dsimp only [List.set]
            first | refine wp_iincN_4 158 d_Chart_trace_155 rfl rfl rfl ?_ | refine wp_iinc_4 158 1 d_Chart_trace_155 rfl (by decide) rfl rfl ?_
            refine wp_goto 23 d_Chart_trace_158 (by decide) ?_
            rw [nI_1]
            first
            | (have e : trStep there fr to_ nL nP S = _ := if_pos h43
               refine wp_fgt (ls' := [some (.ref 0), some (.ref 8), some (.int there), some (.int (trP nP S.1)), some (.int (nI (i + 1))), none, none]) ⟨rfl, rfl, rfl, rfl, rfl, trivial⟩ ?_
               refine ih (i + 1) (upd S.1 (trP nP S.1).toNatClampNeg (trP nP S.1), S.2.1, S.2.2.1, S.2.2.2.1, S.2.2.2.2.1 + 1, trP nP S.1) (by omega) ⟨by dsimp only; omega, ?_⟩
               simp only [trI, e] at hQ
               exact hQ)
            | exact absurd h101 (by decide)
            | exact absurd rfl h101
            | (have e : trStep there fr to_ nL nP S = _ := (if_neg h43).trans (if_pos h85)
               refine wp_fgt (ls' := [some (.ref 0), some (.ref 8), some (.int there), some (.int S.2.2.2.2.2), some (.int (nI (i + 1))), none, none]) ⟨rfl, rfl, rfl, rfl, rfl, trivial⟩ ?_
               refine ih (i + 1) (upd S.1 (fr (trL there fr to_ nL S.1).toNatClampNeg).toNatClampNeg S.2.2.2.2.2, upd S.2.1 S.2.2.2.1 (trL there fr to_ nL S.1), upd S.2.2.1 S.2.2.2.1 1, S.2.2.2.1 + 1, S.2.2.2.2.1, S.2.2.2.2.2) (by omega) ⟨by dsimp only; omega, ?_⟩
               simp only [trI, e] at hQ
               exact hQ)
            | (have e : trStep there fr to_ nL nP S = _ := (if_neg h43).trans (if_neg h85)
               refine wp_fgt (ls' := [some (.ref 0), some (.ref 8), some (.int there), some (.int S.2.2.2.2.2), some (.int (nI (i + 1))), none, none]) ⟨rfl, rfl, rfl, rfl, rfl, trivial⟩ ?_
               refine ih (i + 1) (upd S.1 (to_ (trL there fr to_ nL S.1).toNatClampNeg).toNatClampNeg S.2.2.2.2.2, upd S.2.1 S.2.2.2.1 (trL there fr to_ nL S.1), upd S.2.2.1 S.2.2.2.1 0, S.2.2.2.1 + 1, S.2.2.2.2.1, S.2.2.2.2.2) (by omega) ⟨by dsimp only; omega, ?_⟩
               simp only [trI, e] at hQ
               exact hQ)
          · refine wp_aload_n 105 d_Chart_trace_104 rfl rfl ?_
            refine wp_getfield 108 8 4 d_Chart_trace_105 rfl fl_Chart_91 rfl rfl ?_
            refine wp_iload 110 d_Chart_trace_108 rfl rfl ?_
            refine wp_iaload 111 d_Chart_trace_110 rfl rfl (ffind_in h43 hn (by omega)) ?_
            refine wp_goto 121 d_Chart_trace_111 (by decide) ?_
            refine wp_iload_n 122 d_Chart_trace_121 rfl rfl ?_
            first | refine wp_iastore 123 d_Chart_trace_122 rfl rfl (hfr _) ?_ | refine wp_iastore 123 d_Chart_trace_122 rfl rfl (hto _) ?_
            dsimp only [List.set]
            refine wp_aload_n 124 d_Chart_trace_123 rfl rfl ?_
            refine wp_getfield 127 0 5 d_Chart_trace_124 rfl fl_Chart_27 rfl rfl ?_
            refine wp_aload_n 128 d_Chart_trace_127 rfl rfl ?_
            refine wp_getfield 131 0 7 d_Chart_trace_128 rfl fl_Chart_34 rfl rfl ?_
            refine wp_iload 133 d_Chart_trace_131 rfl rfl ?_
            refine wp_iastoreN 134 d_Chart_trace_133 rfl rfl rfl (by omega) ?_
            dsimp only [List.set]
            refine wp_aload_n 135 d_Chart_trace_134 rfl rfl ?_
            refine wp_getfield 138 0 6 d_Chart_trace_135 rfl fl_Chart_30 rfl rfl ?_
            refine wp_aload_n 139 d_Chart_trace_138 rfl rfl ?_
            refine wp_getfield 142 0 7 d_Chart_trace_139 rfl fl_Chart_34 rfl rfl ?_
            refine wp_iload 144 d_Chart_trace_142 rfl rfl ?_
            refine wp_zastoreN 145 d_Chart_trace_144 rfl rfl rfl (by omega) ?_
            dsimp only [List.set]
            refine wp_aload_n 146 d_Chart_trace_145 rfl rfl ?_
            refine wp_dup 147 d_Chart_trace_146 rfl rfl ?_
            refine wp_getfield 150 0 7 d_Chart_trace_147 rfl fl_Chart_34 rfl rfl ?_
            refine wp_iconst 151 1 d_Chart_trace_150 rfl (by decide) ?_
            refine wp_iadd 152 d_Chart_trace_151 rfl ?_
            refine wp_putfield 155 0 7 _ d_Chart_trace_152 rfl fp_Chart_34 rfl rfl (okP_int _) ?_
            dsimp only [List.set]
            first | refine wp_iincN_4 158 d_Chart_trace_155 rfl rfl rfl ?_ | refine wp_iinc_4 158 1 d_Chart_trace_155 rfl (by decide) rfl rfl ?_
            refine wp_goto 23 d_Chart_trace_158 (by decide) ?_
            rw [nI_1]
            first
            | (have e : trStep there fr to_ nL nP S = _ := if_pos h43
               refine wp_fgt (ls' := [some (.ref 0), some (.ref 8), some (.int there), some (.int (trP nP S.1)), some (.int (nI (i + 1))), none, none]) ⟨rfl, rfl, rfl, rfl, rfl, trivial⟩ ?_
               refine ih (i + 1) (upd S.1 (trP nP S.1).toNatClampNeg (trP nP S.1), S.2.1, S.2.2.1, S.2.2.2.1, S.2.2.2.2.1 + 1, trP nP S.1) (by omega) ⟨by dsimp only; omega, ?_⟩
               simp only [trI, e] at hQ
               exact hQ)
            | exact absurd h101 (by decide)
            | exact absurd rfl h101
            | (have e : trStep there fr to_ nL nP S = _ := (if_neg h43).trans (if_pos h85)
               refine wp_fgt (ls' := [some (.ref 0), some (.ref 8), some (.int there), some (.int S.2.2.2.2.2), some (.int (nI (i + 1))), none, none]) ⟨rfl, rfl, rfl, rfl, rfl, trivial⟩ ?_
               refine ih (i + 1) (upd S.1 (fr (trL there fr to_ nL S.1).toNatClampNeg).toNatClampNeg S.2.2.2.2.2, upd S.2.1 S.2.2.2.1 (trL there fr to_ nL S.1), upd S.2.2.1 S.2.2.2.1 1, S.2.2.2.1 + 1, S.2.2.2.2.1, S.2.2.2.2.2) (by omega) ⟨by dsimp only; omega, ?_⟩
               simp only [trI, e] at hQ
               exact hQ)
            | (have e : trStep there fr to_ nL nP S = _ := (if_neg h43).trans (if_neg h85)
               refine wp_fgt (ls' := [some (.ref 0), some (.ref 8), some (.int there), some (.int S.2.2.2.2.2), some (.int (nI (i + 1))), none, none]) ⟨rfl, rfl, rfl, rfl, rfl, trivial⟩ ?_
               refine ih (i + 1) (upd S.1 (to_ (trL there fr to_ nL S.1).toNatClampNeg).toNatClampNeg S.2.2.2.2.2, upd S.2.1 S.2.2.2.1 (trL there fr to_ nL S.1), upd S.2.2.1 S.2.2.2.1 0, S.2.2.2.1 + 1, S.2.2.2.2.1, S.2.2.2.2.2) (by omega) ⟨by dsimp only; omega, ?_⟩
               simp only [trI, e] at hQ
               exact hQ)
        · refine wp_iconst 89 1 d_Chart_trace_88 rfl (by decide) ?_
          refine wp_goto 93 d_Chart_trace_89 (by decide) ?_
          refine wp_istore_6 95 d_Chart_trace_93 rfl rfl rfl ?_
          refine wp_aload_n 96 d_Chart_trace_95 rfl rfl ?_
          refine wp_getfield 99 0 4 d_Chart_trace_96 rfl fl_Chart_24 rfl rfl ?_
          refine wp_iload 101 d_Chart_trace_99 rfl rfl ?_
          refine wp_if_eq 114 104 d_Chart_trace_101 rfl (by decide) (fun h101 => ?_) (fun h101 => ?_)
          · refine wp_aload_n 115 d_Chart_trace_114 rfl rfl ?_
            refine wp_getfield 118 8 5 d_Chart_trace_115 rfl fl_Chart_94 rfl rfl ?_
            refine wp_iload 120 d_Chart_trace_118 rfl rfl ?_
            refine wp_iaload 121 d_Chart_trace_120 rfl rfl (ffind_in h43 hn (by omega)) ?_
            refine wp_iload_n 122 d_Chart_trace_121 rfl rfl ?_
            first | refine wp_iastore 123 d_Chart_trace_122 rfl rfl (hfr _) ?_ | refine wp_iastore 123 d_Chart_trace_122 rfl rfl (hto _) ?_
            dsimp only [List.set]
            refine wp_aload_n 124 d_Chart_trace_123 rfl rfl ?_
            refine wp_getfield 127 0 5 d_Chart_trace_124 rfl fl_Chart_27 rfl rfl ?_
            refine wp_aload_n 128 d_Chart_trace_127 rfl rfl ?_
            refine wp_getfield 131 0 7 d_Chart_trace_128 rfl fl_Chart_34 rfl rfl ?_
            refine wp_iload 133 d_Chart_trace_131 rfl rfl ?_
            refine wp_iastoreN 134 d_Chart_trace_133 rfl rfl rfl (by omega) ?_
            dsimp only [List.set]
            refine wp_aload_n 135 d_Chart_trace_134 rfl rfl ?_
            refine wp_getfield 138 0 6 d_Chart_trace_135 rfl fl_Chart_30 rfl rfl ?_
            refine wp_aload_n 139 d_Chart_trace_138 rfl rfl ?_
            refine wp_getfield 142 0 7 d_Chart_trace_139 rfl fl_Chart_34 rfl rfl ?_
            refine wp_iload 144 d_Chart_trace_142 rfl rfl ?_
            refine wp_zastoreN 145 d_Chart_trace_144 rfl rfl rfl (by omega) ?_
            dsimp only [List.set]
            refine wp_aload_n 146 d_Chart_trace_145 rfl rfl ?_
            refine wp_dup 147 d_Chart_trace_146 rfl rfl ?_
            refine wp_getfield 150 0 7 d_Chart_trace_147 rfl fl_Chart_34 rfl rfl ?_
            refine wp_iconst 151 1 d_Chart_trace_150 rfl (by decide) ?_
            refine wp_iadd 152 d_Chart_trace_151 rfl ?_
            refine wp_putfield 155 0 7 _ d_Chart_trace_152 rfl fp_Chart_34 rfl rfl (okP_int _) ?_
            dsimp only [List.set]
            first | refine wp_iincN_4 158 d_Chart_trace_155 rfl rfl rfl ?_ | refine wp_iinc_4 158 1 d_Chart_trace_155 rfl (by decide) rfl rfl ?_
            refine wp_goto 23 d_Chart_trace_158 (by decide) ?_
            rw [nI_1]
            first
            | (have e : trStep there fr to_ nL nP S = _ := if_pos h43
               refine wp_fgt (ls' := [some (.ref 0), some (.ref 8), some (.int there), some (.int (trP nP S.1)), some (.int (nI (i + 1))), none, none]) ⟨rfl, rfl, rfl, rfl, rfl, trivial⟩ ?_
               refine ih (i + 1) (upd S.1 (trP nP S.1).toNatClampNeg (trP nP S.1), S.2.1, S.2.2.1, S.2.2.2.1, S.2.2.2.2.1 + 1, trP nP S.1) (by omega) ⟨by dsimp only; omega, ?_⟩
               simp only [trI, e] at hQ
               exact hQ)
            | exact absurd h101 (by decide)
            | exact absurd rfl h101
            | (have e : trStep there fr to_ nL nP S = _ := (if_neg h43).trans (if_pos h85)
               refine wp_fgt (ls' := [some (.ref 0), some (.ref 8), some (.int there), some (.int S.2.2.2.2.2), some (.int (nI (i + 1))), none, none]) ⟨rfl, rfl, rfl, rfl, rfl, trivial⟩ ?_
               refine ih (i + 1) (upd S.1 (fr (trL there fr to_ nL S.1).toNatClampNeg).toNatClampNeg S.2.2.2.2.2, upd S.2.1 S.2.2.2.1 (trL there fr to_ nL S.1), upd S.2.2.1 S.2.2.2.1 1, S.2.2.2.1 + 1, S.2.2.2.2.1, S.2.2.2.2.2) (by omega) ⟨by dsimp only; omega, ?_⟩
               simp only [trI, e] at hQ
               exact hQ)
            | (have e : trStep there fr to_ nL nP S = _ := (if_neg h43).trans (if_neg h85)
               refine wp_fgt (ls' := [some (.ref 0), some (.ref 8), some (.int there), some (.int S.2.2.2.2.2), some (.int (nI (i + 1))), none, none]) ⟨rfl, rfl, rfl, rfl, rfl, trivial⟩ ?_
               refine ih (i + 1) (upd S.1 (to_ (trL there fr to_ nL S.1).toNatClampNeg).toNatClampNeg S.2.2.2.2.2, upd S.2.1 S.2.2.2.1 (trL there fr to_ nL S.1), upd S.2.2.1 S.2.2.2.1 0, S.2.2.2.1 + 1, S.2.2.2.2.1, S.2.2.2.2.2) (by omega) ⟨by dsimp only; omega, ?_⟩
               simp only [trI, e] at hQ
               exact hQ)
          · refine wp_aload_n 105 d_Chart_trace_104 rfl rfl ?_
            refine wp_getfield 108 8 4 d_Chart_trace_105 rfl fl_Chart_91 rfl rfl ?_
            refine wp_iload 110 d_Chart_trace_108 rfl rfl ?_
            refine wp_iaload 111 d_Chart_trace_110 rfl rfl (ffind_in h43 hn (by omega)) ?_
            refine wp_goto 121 d_Chart_trace_111 (by decide) ?_
            refine wp_iload_n 122 d_Chart_trace_121 rfl rfl ?_
            first | refine wp_iastore 123 d_Chart_trace_122 rfl rfl (hfr _) ?_ | refine wp_iastore 123 d_Chart_trace_122 rfl rfl (hto _) ?_
            dsimp only [List.set]
            refine wp_aload_n 124 d_Chart_trace_123 rfl rfl ?_
            refine wp_getfield 127 0 5 d_Chart_trace_124 rfl fl_Chart_27 rfl rfl ?_
            refine wp_aload_n 128 d_Chart_trace_127 rfl rfl ?_
            refine wp_getfield 131 0 7 d_Chart_trace_128 rfl fl_Chart_34 rfl rfl ?_
            refine wp_iload 133 d_Chart_trace_131 rfl rfl ?_
            refine wp_iastoreN 134 d_Chart_trace_133 rfl rfl rfl (by omega) ?_
            dsimp only [List.set]
            refine wp_aload_n 135 d_Chart_trace_134 rfl rfl ?_
            refine wp_getfield 138 0 6 d_Chart_trace_135 rfl fl_Chart_30 rfl rfl ?_
            refine wp_aload_n 139 d_Chart_trace_138 rfl rfl ?_
            refine wp_getfield 142 0 7 d_Chart_trace_139 rfl fl_Chart_34 rfl rfl ?_
            refine wp_iload 144 d_Chart_trace_142 rfl rfl ?_
            refine wp_zastoreN 145 d_Chart_trace_144 rfl rfl rfl (by omega) ?_
            dsimp only [List.set]
            refine wp_aload_n 146 d_Chart_trace_145 rfl rfl ?_
            refine wp_dup 147 d_Chart_trace_146 rfl rfl ?_
            refine wp_getfield 150 0 7 d_Chart_trace_147 rfl fl_Chart_34 rfl rfl ?_
            refine wp_iconst 151 1 d_Chart_trace_150 rfl (by decide) ?_
            refine wp_iadd 152 d_Chart_trace_151 rfl ?_
            refine wp_putfield 155 0 7 _ d_Chart_trace_152 rfl fp_Chart_34 rfl rfl (okP_int _) ?_
            dsimp only [List.set]
            first | refine wp_iincN_4 158 d_Chart_trace_155 rfl rfl rfl ?_ | refine wp_iinc_4 158 1 d_Chart_trace_155 rfl (by decide) rfl rfl ?_
            refine wp_goto 23 d_Chart_trace_158 (by decide) ?_
            rw [nI_1]
            first
            | (have e : trStep there fr to_ nL nP S = _ := if_pos h43
               refine wp_fgt (ls' := [some (.ref 0), some (.ref 8), some (.int there), some (.int (trP nP S.1)), some (.int (nI (i + 1))), none, none]) ⟨rfl, rfl, rfl, rfl, rfl, trivial⟩ ?_
               refine ih (i + 1) (upd S.1 (trP nP S.1).toNatClampNeg (trP nP S.1), S.2.1, S.2.2.1, S.2.2.2.1, S.2.2.2.2.1 + 1, trP nP S.1) (by omega) ⟨by dsimp only; omega, ?_⟩
               simp only [trI, e] at hQ
               exact hQ)
            | exact absurd h101 (by decide)
            | exact absurd rfl h101
            | (have e : trStep there fr to_ nL nP S = _ := (if_neg h43).trans (if_pos h85)
               refine wp_fgt (ls' := [some (.ref 0), some (.ref 8), some (.int there), some (.int S.2.2.2.2.2), some (.int (nI (i + 1))), none, none]) ⟨rfl, rfl, rfl, rfl, rfl, trivial⟩ ?_
               refine ih (i + 1) (upd S.1 (fr (trL there fr to_ nL S.1).toNatClampNeg).toNatClampNeg S.2.2.2.2.2, upd S.2.1 S.2.2.2.1 (trL there fr to_ nL S.1), upd S.2.2.1 S.2.2.2.1 1, S.2.2.2.1 + 1, S.2.2.2.2.1, S.2.2.2.2.2) (by omega) ⟨by dsimp only; omega, ?_⟩
               simp only [trI, e] at hQ
               exact hQ)
            | (have e : trStep there fr to_ nL nP S = _ := (if_neg h43).trans (if_neg h85)
               refine wp_fgt (ls' := [some (.ref 0), some (.ref 8), some (.int there), some (.int S.2.2.2.2.2), some (.int (nI (i + 1))), none, none]) ⟨rfl, rfl, rfl, rfl, rfl, trivial⟩ ?_
               refine ih (i + 1) (upd S.1 (to_ (trL there fr to_ nL S.1).toNatClampNeg).toNatClampNeg S.2.2.2.2.2, upd S.2.1 S.2.2.2.1 (trL there fr to_ nL S.1), upd S.2.2.1 S.2.2.2.1 0, S.2.2.2.1 + 1, S.2.2.2.2.1, S.2.2.2.2.2) (by omega) ⟨by dsimp only; omega, ?_⟩
               simp only [trI, e] at hQ
               exact hQ)
      · refine wp_aload_n 47 d_Chart_trace_46 rfl rfl ?_
        refine wp_aload_n 48 d_Chart_trace_47 rfl rfl ?_
        refine wp_V1 51 M_Chart_firstUnlaid 1 d_Chart_trace_48 rfl mv_Chart_firstUnlaid lk_Chart_87 rfl rfl rfl rfl rfl ?_
        refine c_Chart_firstUnlaid hP ?_
        show Kid _ _ _ _ _ _ _ _ _ (some (.int (trP nP S.1))) _
        refine kI ?_
        refine wp_istore_3 52 d_Chart_trace_51 rfl rfl rfl ?_
        refine wp_aload_n 53 d_Chart_trace_52 rfl rfl ?_
        refine wp_getfield 56 0 4 d_Chart_trace_53 rfl fl_Chart_24 rfl rfl ?_
        refine wp_iload_n 57 d_Chart_trace_56 rfl rfl ?_
        refine wp_iload_n 58 d_Chart_trace_57 rfl rfl ?_
        refine wp_iastore 59 d_Chart_trace_58 rfl rfl (ffind0_in hP (by omega) (by omega)) ?_
        dsimp only [List.set]
        refine wp_aload_n 60 d_Chart_trace_59 rfl rfl ?_
        refine wp_dup 61 d_Chart_trace_60 rfl rfl ?_
        refine wp_getfield 64 0 8 d_Chart_trace_61 rfl fl_Chart_38 rfl rfl ?_
        refine wp_iconst 65 1 d_Chart_trace_64 rfl (by decide) ?_
        refine wp_iadd 66 d_Chart_trace_65 rfl ?_
        refine wp_putfield 69 0 8 _ d_Chart_trace_66 rfl fp_Chart_38 rfl rfl (okP_int _) ?_
        dsimp only [List.set]
        refine wp_goto 155 d_Chart_trace_69 (by decide) ?_
        first | refine wp_iincN_4 158 d_Chart_trace_155 rfl rfl rfl ?_ | refine wp_iinc_4 158 1 d_Chart_trace_155 rfl (by decide) rfl rfl ?_
        refine wp_goto 23 d_Chart_trace_158 (by decide) ?_
        rw [nI_1]
        first
        | (have e : trStep there fr to_ nL nP S = _ := if_pos h43
           refine wp_fgt (ls' := [some (.ref 0), some (.ref 8), some (.int there), some (.int (trP nP S.1)), some (.int (nI (i + 1))), none, none]) ⟨rfl, rfl, rfl, rfl, rfl, trivial⟩ ?_
           refine ih (i + 1) (upd S.1 (trP nP S.1).toNatClampNeg (trP nP S.1), S.2.1, S.2.2.1, S.2.2.2.1, S.2.2.2.2.1 + 1, trP nP S.1) (by omega) ⟨by dsimp only; omega, ?_⟩
           simp only [trI, e] at hQ
           exact hQ)
        | exact absurd h101 (by decide)
        | exact absurd rfl h101
        | (have e : trStep there fr to_ nL nP S = _ := (if_neg h43).trans (if_pos h85)
           refine wp_fgt (ls' := [some (.ref 0), some (.ref 8), some (.int there), some (.int S.2.2.2.2.2), some (.int (nI (i + 1))), none, none]) ⟨rfl, rfl, rfl, rfl, rfl, trivial⟩ ?_
           refine ih (i + 1) (upd S.1 (fr (trL there fr to_ nL S.1).toNatClampNeg).toNatClampNeg S.2.2.2.2.2, upd S.2.1 S.2.2.2.1 (trL there fr to_ nL S.1), upd S.2.2.1 S.2.2.2.1 1, S.2.2.2.1 + 1, S.2.2.2.2.1, S.2.2.2.2.2) (by omega) ⟨by dsimp only; omega, ?_⟩
           simp only [trI, e] at hQ
           exact hQ)
        | (have e : trStep there fr to_ nL nP S = _ := (if_neg h43).trans (if_neg h85)
           refine wp_fgt (ls' := [some (.ref 0), some (.ref 8), some (.int there), some (.int S.2.2.2.2.2), some (.int (nI (i + 1))), none, none]) ⟨rfl, rfl, rfl, rfl, rfl, trivial⟩ ?_
           refine ih (i + 1) (upd S.1 (to_ (trL there fr to_ nL S.1).toNatClampNeg).toNatClampNeg S.2.2.2.2.2, upd S.2.1 S.2.2.2.1 (trL there fr to_ nL S.1), upd S.2.2.1 S.2.2.2.1 0, S.2.2.2.1 + 1, S.2.2.2.2.1, S.2.2.2.2.2) (by omega) ⟨by dsimp only; omega, ?_⟩
           simp only [trI, e] at hQ
           exact hQ)

set_option maxRecDepth 100000 in
set_option maxHeartbeats 4000000 in
theorem c_Chart_trace {cea cno cx cy fa te fr to_ ea no : Nat → Int32} {pn wn : Nat → Int64} {wa od sk sd go : Int32} {nL nP : Nat} {cpo cla cba : Nat → Int32} {cly cpt there : Int32} (hn : nL ≤ 12) (hP : nP ≤ 7) (hfr : ∀ j, vp_in (fr j) 7) (hto : ∀ j, vp_in (to_ j) 7) (hq : Q none (hCT cea cno cx cy ((trI there fr to_ nL nP nP (tr0 cpo cla cba)).1) ((trI there fr to_ nL nP nP (tr0 cpo cla cba)).2.1) ((trI there fr to_ nL nP nP (tr0 cpo cla cba)).2.2.1) (nI (trI there fr to_ nL nP nP (tr0 cpo cla cba)).2.2.2.1) (nI (trI there fr to_ nL nP nP (tr0 cpo cla cba)).2.2.2.2.1) pn wn fa te fr to_ ea no (nI nP) wa (nI nL) od sk sd go)) : Call Γ M_Chart_trace 3 0 0 [.ref 0, .ref 8, .int there] (hCT cea cno cx cy cpo cla cba cly cpt pn wn fa te fr to_ ea no (nI nP) wa (nI nL) od sk sd go) Q := by
  refine call_intro (ls := [some (.ref 0), some (.ref 8), some (.int there), none, none, none, none]) rfl rfl rfl ?_
  refine wp_aload_n 1 d_Chart_trace_0 rfl rfl ?_
  refine wp_getfield 4 0 4 d_Chart_trace_1 rfl fl_Chart_24 rfl rfl ?_
  refine wp_iconst 5 (-1) d_Chart_trace_4 rfl (by decide) ?_
  refine ws_S2 (v1' := .ref 0) 8 M_JArr_fillI 1 [5] ([cI 7 _]) d_Chart_trace_5 rfl ms_JArr_fillI lk_Chart_74 rfl rfl rfl rfl (eV_int _ _) rfl ?_
  refine c_JArr_fillI rfl ?_
  refine sV ?_
  simp only [putH, rC, sg, eV, List.map_cons, List.map_nil, List.set_cons_zero, List.set_cons_succ, List.length_cons, List.length_nil, List.getD_cons_zero, List.getD_cons_succ, Nat.zero_add, Nat.reduceAdd, Nat.reduceLT, if_true, ite_true]
  refine wp_aload_n 9 d_Chart_trace_8 rfl rfl ?_
  refine wp_iconst 10 0 d_Chart_trace_9 rfl (by decide) ?_
  refine wp_putfield 13 0 7 _ d_Chart_trace_10 rfl fp_Chart_34 rfl rfl (okP_int _) ?_
  dsimp only [List.set]
  refine wp_aload_n 14 d_Chart_trace_13 rfl rfl ?_
  refine wp_iconst 15 0 d_Chart_trace_14 rfl (by decide) ?_
  refine wp_putfield 18 0 8 _ d_Chart_trace_15 rfl fp_Chart_38 rfl rfl (okP_int _) ?_
  dsimp only [List.set]
  refine wp_iconst 19 (-1) d_Chart_trace_18 rfl (by decide) ?_
  refine wp_istore_3 20 d_Chart_trace_19 rfl rfl rfl ?_
  refine wp_iconst 21 0 d_Chart_trace_20 rfl (by decide) ?_
  refine wp_istore_4 23 d_Chart_trace_21 rfl rfl rfl ?_
  exact l_Chart_trace_23 hn hP hfr hto nP 0 (tr0 cpo cla cba) (by omega) ⟨rfl, hq⟩

set_option maxRecDepth 100000 in
set_option maxHeartbeats 4000000 in
theorem l_Chart_lay_18 {cea cno cpo cla cba fa te fr to_ ea no : Nat → Int32} {cpt pl wa le od sk sd go : Int32} {pn wn : Nat → Int64} {nY : Nat} (hY : nY ≤ 7) (hla : ∀ j, vp_in (cla j) 12) (hfr : ∀ j, vp_in (fr j) 7) (hto : ∀ j, vp_in (to_ j) 7) : ∀ (r i : Nat) (s : (Nat → Int32) × (Nat → Int32)), i + r = nY → Q none (hCT cea cno ((lyI cea cno cla cba fr to_ r i s).1) ((lyI cea cno cla cba fr to_ r i s).2) cpo cla cba (nI nY) cpt pn wn fa te fr to_ ea no pl wa le od sk sd go) → WP Γ M_Chart_lay 2 0 0 (hCT cea cno (s.1) (s.2) cpo cla cba (nI nY) cpt pn wn fa te fr to_ ea no pl wa le od sk sd go) 18 [some (.ref 0), some (.ref 8), some (.int (nI i)), none, none, none] [] Q := by
  intro r
  induction r with
  | zero =>
    intro i s hi hinv
    refine wp_iload_n 19 d_Chart_lay_18 rfl rfl ?_
    refine wp_aload_n 20 d_Chart_lay_19 rfl rfl ?_
    refine wp_getfield 23 0 7 d_Chart_lay_20 rfl fl_Chart_34 rfl rfl ?_
    refine wp_icmp_ge 151 26 d_Chart_lay_23 rfl (by decide) (fun h23 => ?_) (fun h23 => ?_)
    · refine wp_return d_Chart_lay_151 rfl ?_
      exact hinv
    · exact absurd ((nI_leI (by omega) (by omega)).mpr (by omega)) h23
  | succ r ih =>
    intro i s hi hinv
    refine wp_iload_n 19 d_Chart_lay_18 rfl rfl ?_
    refine wp_aload_n 20 d_Chart_lay_19 rfl rfl ?_
    refine wp_getfield 23 0 7 d_Chart_lay_20 rfl fl_Chart_34 rfl rfl ?_
    refine wp_icmp_ge 151 26 d_Chart_lay_23 rfl (by decide) (fun h23 => ?_) (fun h23 => ?_)
    · exact absurd (nI_leN h23 (by omega) (by omega)) (by omega)
    · refine wp_aload_n 27 d_Chart_lay_26 rfl rfl ?_
      refine wp_getfield 30 0 5 d_Chart_lay_27 rfl fl_Chart_27 rfl rfl ?_
      refine wp_iload_n 31 d_Chart_lay_30 rfl rfl ?_
      refine wp_ialoadN 32 d_Chart_lay_31 rfl rfl rfl (by omega) ?_
      refine wp_istore_3 33 d_Chart_lay_32 rfl rfl rfl ?_
      refine wp_aload_n 34 d_Chart_lay_33 rfl rfl ?_
      refine wp_getfield 37 8 4 d_Chart_lay_34 rfl fl_Chart_91 rfl rfl ?_
      refine wp_iload_n 38 d_Chart_lay_37 rfl rfl ?_
      refine wp_iaload 39 d_Chart_lay_38 rfl rfl (hla _) ?_
      refine wp_istore_4 41 d_Chart_lay_39 rfl rfl rfl ?_
      refine wp_aload_n 42 d_Chart_lay_41 rfl rfl ?_
      refine wp_getfield 45 8 5 d_Chart_lay_42 rfl fl_Chart_94 rfl rfl ?_
      refine wp_iload_n 46 d_Chart_lay_45 rfl rfl ?_
      refine wp_iaload 47 d_Chart_lay_46 rfl rfl (hla _) ?_
      refine wp_istore_5 49 d_Chart_lay_47 rfl rfl rfl ?_
      refine wp_aload_n 50 d_Chart_lay_49 rfl rfl ?_
      refine wp_getfield 53 0 6 d_Chart_lay_50 rfl fl_Chart_30 rfl rfl ?_
      refine wp_iload_n 54 d_Chart_lay_53 rfl rfl ?_
      refine wp_zaloadN 55 d_Chart_lay_54 rfl rfl rfl (by omega) ?_
      refine wp_if_eq 103 58 d_Chart_lay_55 rfl (by decide) (fun h55 => ?_) (fun h55 => ?_)
      · refine wp_aload_n 104 d_Chart_lay_103 rfl rfl ?_
        refine wp_getfield 107 0 2 d_Chart_lay_104 rfl fl_Chart_18 rfl rfl ?_
        refine wp_iload 109 d_Chart_lay_107 rfl rfl ?_
        refine wp_aload_n 110 d_Chart_lay_109 rfl rfl ?_
        refine wp_getfield 113 0 2 d_Chart_lay_110 rfl fl_Chart_18 rfl rfl ?_
        refine wp_iload 115 d_Chart_lay_113 rfl rfl ?_
        refine wp_iaload 116 d_Chart_lay_115 rfl rfl (hfr _) ?_
        refine wp_aload_n 117 d_Chart_lay_116 rfl rfl ?_
        refine wp_getfield 120 0 0 d_Chart_lay_117 rfl fl_Chart_9 rfl rfl ?_
        refine wp_iload_n 121 d_Chart_lay_120 rfl rfl ?_
        refine wp_iaload 122 d_Chart_lay_121 rfl rfl (hla _) ?_
        refine wp_iadd 123 d_Chart_lay_122 rfl ?_
        refine wp_iastore 124 d_Chart_lay_123 rfl rfl (hto _) ?_
        dsimp only [List.set]
        refine wp_aload_n 125 d_Chart_lay_124 rfl rfl ?_
        refine wp_getfield 128 0 3 d_Chart_lay_125 rfl fl_Chart_21 rfl rfl ?_
        refine wp_iload 130 d_Chart_lay_128 rfl rfl ?_
        refine wp_aload_n 131 d_Chart_lay_130 rfl rfl ?_
        refine wp_getfield 134 0 3 d_Chart_lay_131 rfl fl_Chart_21 rfl rfl ?_
        refine wp_iload 136 d_Chart_lay_134 rfl rfl ?_
        refine wp_iaload 137 d_Chart_lay_136 rfl rfl (hfr _) ?_
        refine wp_aload_n 138 d_Chart_lay_137 rfl rfl ?_
        refine wp_getfield 141 0 1 d_Chart_lay_138 rfl fl_Chart_15 rfl rfl ?_
        refine wp_iload_n 142 d_Chart_lay_141 rfl rfl ?_
        refine wp_iaload 143 d_Chart_lay_142 rfl rfl (hla _) ?_
        refine wp_iadd 144 d_Chart_lay_143 rfl ?_
        refine wp_iastore 145 d_Chart_lay_144 rfl rfl (hto _) ?_
        dsimp only [List.set]
        first | refine wp_iincN_2 148 d_Chart_lay_145 rfl rfl rfl ?_ | refine wp_iinc_2 148 1 d_Chart_lay_145 rfl (by decide) rfl rfl ?_
        refine wp_goto 18 d_Chart_lay_148 (by decide) ?_
        refine wp_fgt (ls' := [some (.ref 0), some (.ref 8), some (.int (nI (i + 1))), none, none, none]) ⟨rfl, rfl, rfl, trivial⟩ ?_
        have h9 := ih (i + 1) (lyStep cea cno cla cba fr to_ i s) (by omega) hinv
        first
        | (have e : lyStep cea cno cla cba fr to_ i s = _ := if_pos h55
           rw [e] at h9; exact h9)
        | (have e : lyStep cea cno cla cba fr to_ i s = _ := if_neg h55
           rw [e] at h9; exact h9)
      · refine wp_aload_n 59 d_Chart_lay_58 rfl rfl ?_
        refine wp_getfield 62 0 2 d_Chart_lay_59 rfl fl_Chart_18 rfl rfl ?_
        refine wp_iload 64 d_Chart_lay_62 rfl rfl ?_
        refine wp_aload_n 65 d_Chart_lay_64 rfl rfl ?_
        refine wp_getfield 68 0 2 d_Chart_lay_65 rfl fl_Chart_18 rfl rfl ?_
        refine wp_iload 70 d_Chart_lay_68 rfl rfl ?_
        refine wp_iaload 71 d_Chart_lay_70 rfl rfl (hto _) ?_
        refine wp_aload_n 72 d_Chart_lay_71 rfl rfl ?_
        refine wp_getfield 75 0 0 d_Chart_lay_72 rfl fl_Chart_9 rfl rfl ?_
        refine wp_iload_n 76 d_Chart_lay_75 rfl rfl ?_
        refine wp_iaload 77 d_Chart_lay_76 rfl rfl (hla _) ?_
        refine wp_isub 78 d_Chart_lay_77 rfl ?_
        refine wp_iastore 79 d_Chart_lay_78 rfl rfl (hfr _) ?_
        dsimp only [List.set]
        refine wp_aload_n 80 d_Chart_lay_79 rfl rfl ?_
        refine wp_getfield 83 0 3 d_Chart_lay_80 rfl fl_Chart_21 rfl rfl ?_
        refine wp_iload 85 d_Chart_lay_83 rfl rfl ?_
        refine wp_aload_n 86 d_Chart_lay_85 rfl rfl ?_
        refine wp_getfield 89 0 3 d_Chart_lay_86 rfl fl_Chart_21 rfl rfl ?_
        refine wp_iload 91 d_Chart_lay_89 rfl rfl ?_
        refine wp_iaload 92 d_Chart_lay_91 rfl rfl (hto _) ?_
        refine wp_aload_n 93 d_Chart_lay_92 rfl rfl ?_
        refine wp_getfield 96 0 1 d_Chart_lay_93 rfl fl_Chart_15 rfl rfl ?_
        refine wp_iload_n 97 d_Chart_lay_96 rfl rfl ?_
        refine wp_iaload 98 d_Chart_lay_97 rfl rfl (hla _) ?_
        refine wp_isub 99 d_Chart_lay_98 rfl ?_
        refine wp_iastore 100 d_Chart_lay_99 rfl rfl (hfr _) ?_
        dsimp only [List.set]
        refine wp_goto 145 d_Chart_lay_100 (by decide) ?_
        first | refine wp_iincN_2 148 d_Chart_lay_145 rfl rfl rfl ?_ | refine wp_iinc_2 148 1 d_Chart_lay_145 rfl (by decide) rfl rfl ?_
        refine wp_goto 18 d_Chart_lay_148 (by decide) ?_
        refine wp_fgt (ls' := [some (.ref 0), some (.ref 8), some (.int (nI (i + 1))), none, none, none]) ⟨rfl, rfl, rfl, trivial⟩ ?_
        have h9 := ih (i + 1) (lyStep cea cno cla cba fr to_ i s) (by omega) hinv
        first
        | (have e : lyStep cea cno cla cba fr to_ i s = _ := if_pos h55
           rw [e] at h9; exact h9)
        | (have e : lyStep cea cno cla cba fr to_ i s = _ := if_neg h55
           rw [e] at h9; exact h9)

set_option maxRecDepth 100000 in
set_option maxHeartbeats 4000000 in
theorem c_Chart_lay {cea cno cpo cla cba fa te fr to_ ea no : Nat → Int32} {cpt pl wa le od sk sd go : Int32} {pn wn : Nat → Int64} {nY : Nat} {cx cy : Nat → Int32} (hY : nY ≤ 7) (hla : ∀ j, vp_in (cla j) 12) (hfr : ∀ j, vp_in (fr j) 7) (hto : ∀ j, vp_in (to_ j) 7) (hq : Q none (hCT cea cno ((lyI cea cno cla cba fr to_ nY 0 (fil 7 0 cx, fil 7 0 cy)).1) ((lyI cea cno cla cba fr to_ nY 0 (fil 7 0 cx, fil 7 0 cy)).2) cpo cla cba (nI nY) cpt pn wn fa te fr to_ ea no pl wa le od sk sd go)) : Call Γ M_Chart_lay 2 0 0 [.ref 0, .ref 8] (hCT cea cno cx cy cpo cla cba (nI nY) cpt pn wn fa te fr to_ ea no pl wa le od sk sd go) Q := by
  refine call_intro (ls := [some (.ref 0), some (.ref 8), none, none, none, none]) rfl rfl rfl ?_
  refine wp_aload_n 1 d_Chart_lay_0 rfl rfl ?_
  refine wp_getfield 4 0 2 d_Chart_lay_1 rfl fl_Chart_18 rfl rfl ?_
  refine wp_iconst 5 0 d_Chart_lay_4 rfl (by decide) ?_
  refine ws_S2 (v1' := .ref 0) 8 M_JArr_fillI 1 [3] ([cI 7 _]) d_Chart_lay_5 rfl ms_JArr_fillI lk_Chart_74 rfl rfl rfl rfl (eV_int _ _) rfl ?_
  refine c_JArr_fillI rfl ?_
  refine sV ?_
  simp only [putH, rC, sg, eV, List.map_cons, List.map_nil, List.set_cons_zero, List.set_cons_succ, List.length_cons, List.length_nil, List.getD_cons_zero, List.getD_cons_succ, Nat.zero_add, Nat.reduceAdd, Nat.reduceLT, if_true, ite_true]
  refine wp_aload_n 9 d_Chart_lay_8 rfl rfl ?_
  refine wp_getfield 12 0 3 d_Chart_lay_9 rfl fl_Chart_21 rfl rfl ?_
  refine wp_iconst 13 0 d_Chart_lay_12 rfl (by decide) ?_
  refine ws_S2 (v1' := .ref 0) 16 M_JArr_fillI 1 [4] ([cI 7 _]) d_Chart_lay_13 rfl ms_JArr_fillI lk_Chart_74 rfl rfl rfl rfl (eV_int _ _) rfl ?_
  refine c_JArr_fillI rfl ?_
  refine sV ?_
  simp only [putH, rC, sg, eV, List.map_cons, List.map_nil, List.set_cons_zero, List.set_cons_succ, List.length_cons, List.length_nil, List.getD_cons_zero, List.getD_cons_succ, Nat.zero_add, Nat.reduceAdd, Nat.reduceLT, if_true, ite_true]
  refine wp_iconst 17 0 d_Chart_lay_16 rfl (by decide) ?_
  refine wp_istore_2 18 d_Chart_lay_17 rfl rfl rfl ?_
  exact l_Chart_lay_18 hY hla hfr hto nY 0 (fil 7 0 cx, fil 7 0 cy) (by omega) hq

end T24
