/-! ===== Game: worth, bestMove ===== -/
def bmG (nL : Nat) (en : Nat → Int32) (an tu : Int32) (f : Nat) (th : Int32) (t : Nat) (l : Nat) (s : Int32 × (Nat → Int32)) : Int32 × (Nat → Int32) := if (hs th (nI l) ↔ t % 2 = 0) then (if t % 2 = 0 then iMin s.1 (woR nL en an tu f (th ^^^ bit (nI l)) (t + 1) s.2).1 else iMax s.1 (woR nL en an tu f (th ^^^ bit (nI l)) (t + 1) s.2).1, (woR nL en an tu f (th ^^^ bit (nI l)) (t + 1) s.2).2) else s
theorem bmR_eq (nL : Nat) (en : Nat → Int32) (an tu : Int32) (f : Nat) (th : Int32) (t : Nat) (tb : Nat → Int32) : bmR nL en an tu f th t tb = iterN (bmG nL en an tu f th t) nL 0 (woR nL en an tu f th (t + 1) tb) := rfl
theorem bP_ne {p q : Prop} [Decidable p] [Decidable q] (h : bP p ≠ bP q) : ¬ (p ↔ q) := by
  intro e
  apply h
  by_cases hp : p
  · rw [bP_t hp, bP_t (e.mp hp)]
  · rw [bP_f hp, bP_f (fun z => hp (e.mpr z))]
theorem bP_eq {p q : Prop} [Decidable p] [Decidable q] (h : bP p = bP q) : p ↔ q := by
  by_cases hp : p <;> by_cases hq : q
  · exact ⟨fun _ => hq, fun _ => hp⟩
  · rw [bP_t hp, bP_f hq] at h; exact absurd h (by decide)
  · rw [bP_f hp, bP_t hq] at h; exact absurd h (by decide)
  · exact ⟨fun z => absurd z hp, fun z => absurd z hq⟩
theorem rem2 {t : Nat} (ht : t < 100) : nI t - nI t / 2 * 2 = nI (t % 2) := pk_rem (d := 2) (by omega) (by omega) (by omega)
section T32
variable {Γ : Gm} {Q : Option Value → LH → Prop}
set_option maxRecDepth 100000 in
set_option maxHeartbeats 4000000 in
theorem l_Game_bestMove_25 {gen : Nat → Int32} {gst gtu gan : Int32} {nL f t : Nat} {th : Int32} (hn : nL ≤ 12) (ht : t < 4) (hth : vp_in th 4096) (IH : ∀ (th : Int32) (tb : Nat → Int32) (Q : Option Value → LH → Prop), vp_in th 4096 → Q (some (.int (woR nL gen gan gtu f th (t + 1) tb).1)) (hG ((woR nL gen gan gtu f th (t + 1) tb).2) gen (nI nL) gst gtu gan) → Call Γ M_Game_worth (2 * f + 3) 0 0 [.ref 0, .int th, .int (nI (t + 1))] (hG (tb) gen (nI nL) gst gtu gan) Q) : ∀ (r i : Nat) (s : Int32 × (Nat → Int32)), i + r = nL → Q (some (.int (iterN (bmG nL gen gan gtu f th t) r i s).1)) (hG ((iterN (bmG nL gen gan gtu f th t) r i s).2) gen (nI nL) gst gtu gan) → WP Γ M_Game_bestMove (2 * f + 4) 0 0 (hG (s.2) gen (nI nL) gst gtu gan) 25 [some (.ref 0), some (.int th), some (.int (nI t)), some (.int (bP (t % 2 = 0))), some (.int s.1), some (.int (nI i)), none] [] Q := by
  intro r
  induction r with
  | zero =>
    intro i s hi hinv
    refine wp_iload 27 d_Game_bestMove_25 rfl rfl ?_
    refine wp_aload_n 28 d_Game_bestMove_27 rfl rfl ?_
    refine wp_getfield 31 4 2 d_Game_bestMove_28 rfl fl_Game_18 rfl rfl ?_
    refine wp_icmp_ge 88 34 d_Game_bestMove_31 rfl (by decide) (fun h31 => ?_) (fun h31 => ?_)
    · refine wp_iload 90 d_Game_bestMove_88 rfl rfl ?_
      refine wp_ireturn d_Game_bestMove_90 rfl ?_
      exact hinv
    · exact absurd ((nI_leI (by omega) (by omega)).mpr (by omega)) h31
  | succ r ih =>
    intro i s hi hinv
    refine wp_iload 27 d_Game_bestMove_25 rfl rfl ?_
    refine wp_aload_n 28 d_Game_bestMove_27 rfl rfl ?_
    refine wp_getfield 31 4 2 d_Game_bestMove_28 rfl fl_Game_18 rfl rfl ?_
    refine wp_icmp_ge 88 34 d_Game_bestMove_31 rfl (by decide) (fun h31 => ?_) (fun h31 => ?_)
    · exact absurd (nI_leN h31 (by omega) (by omega)) (by omega)
    · refine wp_iload_n 35 d_Game_bestMove_34 rfl rfl ?_
      refine wp_iload 37 d_Game_bestMove_35 rfl rfl ?_
      refine wp_N2 40 M_PM_has 1 d_Game_bestMove_37 rfl ms_PM_has lk_Game_58 (Nat.ble_eq_true_of_le (by omega)) rfl ?_
      refine c_PM_has ?_
      refine kI ?_
      refine wp_iload_n 41 d_Game_bestMove_40 rfl rfl ?_
      refine wp_icmp_ne 82 44 d_Game_bestMove_41 rfl (by decide) (fun h41 => ?_) (fun h41 => ?_)
      · first | refine wp_iincN_5 85 d_Game_bestMove_82 rfl rfl rfl ?_ | refine wp_iinc_5 85 1 d_Game_bestMove_82 rfl (by decide) rfl rfl ?_
        refine wp_goto 25 d_Game_bestMove_85 (by decide) ?_
        refine wp_fgt (ls' := [some (.ref 0), some (.int th), some (.int (nI t)), some (.int (bP (t % 2 = 0))), some (.int _), some (.int (nI (i + 1))), none]) ⟨rfl, rfl, rfl, rfl, rfl, rfl, trivial⟩ ?_
        first
        | (have e : bmG nL gen gan gtu f th t i s = (iMin s.1 (woR nL gen gan gtu f (th ^^^ bit (nI i)) (t + 1) s.2).1, (woR nL gen gan gtu f (th ^^^ bit (nI i)) (t + 1) s.2).2) := by unfold bmG; rw [if_pos (bP_eq h41), if_pos h60]
           simp only [iterN, e] at hinv
           exact ih (i + 1) (_, _) (by omega) hinv)
        | (have e : bmG nL gen gan gtu f th t i s = (iMax s.1 (woR nL gen gan gtu f (th ^^^ bit (nI i)) (t + 1) s.2).1, (woR nL gen gan gtu f (th ^^^ bit (nI i)) (t + 1) s.2).2) := by unfold bmG; rw [if_pos (bP_eq h41), if_neg h60]
           simp only [iterN, e] at hinv
           exact ih (i + 1) (_, _) (by omega) hinv)
        | (have e : bmG nL gen gan gtu f th t i s = s := if_neg (bP_ne h41)
           simp only [iterN, e] at hinv
           exact ih (i + 1) s (by omega) hinv)
      · refine wp_aload_n 45 d_Game_bestMove_44 rfl rfl ?_
        refine wp_iload_n 46 d_Game_bestMove_45 rfl rfl ?_
        refine wp_iconst 47 1 d_Game_bestMove_46 rfl (by decide) ?_
        refine wp_iload 49 d_Game_bestMove_47 rfl rfl ?_
        refine wp_ishl 50 d_Game_bestMove_49 rfl ?_
        refine wp_ixor 51 d_Game_bestMove_50 rfl ?_
        refine wp_iload_n 52 d_Game_bestMove_51 rfl rfl ?_
        refine wp_iconst 53 1 d_Game_bestMove_52 rfl (by decide) ?_
        refine wp_iadd 54 d_Game_bestMove_53 rfl ?_
        rw [nI_1]
        refine wp_V2 57 M_Game_worth (2 * f + 3) d_Game_bestMove_54 rfl mv_Game_worth lk_Game_54 (Nat.ble_eq_true_of_le (by omega)) rfl rfl rfl rfl ?_
        refine IH _ _ _ (xor_in hth (by omega)) ?_
        refine kI ?_
        refine wp_istore_6 59 d_Game_bestMove_57 rfl rfl rfl ?_
        refine wp_iload_n 60 d_Game_bestMove_59 rfl rfl ?_
        (first | refine wp_ifP_eq 73 63 d_Game_bestMove_60 rfl (by decide) (fun h60 => ?_) (fun h60 => ?_) | refine wp_if_eq 73 63 d_Game_bestMove_60 rfl (by decide) (fun h60 => ?_) (fun h60 => ?_))
        · refine wp_iload 75 d_Game_bestMove_73 rfl rfl ?_
          refine wp_iload 77 d_Game_bestMove_75 rfl rfl ?_
          refine wp_S2 80 M_JMath_max 1 d_Game_bestMove_77 rfl ms_JMath_max lk_Game_74 (Nat.ble_eq_true_of_le (by omega)) rfl ?_
          refine c_JMath_max ?_
          refine kI ?_
          refine wp_istore_4 82 d_Game_bestMove_80 rfl rfl rfl ?_
          first | refine wp_iincN_5 85 d_Game_bestMove_82 rfl rfl rfl ?_ | refine wp_iinc_5 85 1 d_Game_bestMove_82 rfl (by decide) rfl rfl ?_
          refine wp_goto 25 d_Game_bestMove_85 (by decide) ?_
          refine wp_fgt (ls' := [some (.ref 0), some (.int th), some (.int (nI t)), some (.int (bP (t % 2 = 0))), some (.int _), some (.int (nI (i + 1))), none]) ⟨rfl, rfl, rfl, rfl, rfl, rfl, trivial⟩ ?_
          first
          | (have e : bmG nL gen gan gtu f th t i s = (iMin s.1 (woR nL gen gan gtu f (th ^^^ bit (nI i)) (t + 1) s.2).1, (woR nL gen gan gtu f (th ^^^ bit (nI i)) (t + 1) s.2).2) := by unfold bmG; rw [if_pos (bP_eq h41), if_pos h60]
             simp only [iterN, e] at hinv
             exact ih (i + 1) (_, _) (by omega) hinv)
          | (have e : bmG nL gen gan gtu f th t i s = (iMax s.1 (woR nL gen gan gtu f (th ^^^ bit (nI i)) (t + 1) s.2).1, (woR nL gen gan gtu f (th ^^^ bit (nI i)) (t + 1) s.2).2) := by unfold bmG; rw [if_pos (bP_eq h41), if_neg h60]
             simp only [iterN, e] at hinv
             exact ih (i + 1) (_, _) (by omega) hinv)
          | (have e : bmG nL gen gan gtu f th t i s = s := if_neg (bP_ne h41)
             simp only [iterN, e] at hinv
             exact ih (i + 1) s (by omega) hinv)
        · refine wp_iload 65 d_Game_bestMove_63 rfl rfl ?_
          refine wp_iload 67 d_Game_bestMove_65 rfl rfl ?_
          refine wp_S2 70 M_JMath_min 1 d_Game_bestMove_67 rfl ms_JMath_min lk_Game_69 (Nat.ble_eq_true_of_le (by omega)) rfl ?_
          refine c_JMath_min ?_
          refine kI ?_
          refine wp_goto 80 d_Game_bestMove_70 (by decide) ?_
          refine wp_istore_4 82 d_Game_bestMove_80 rfl rfl rfl ?_
          first | refine wp_iincN_5 85 d_Game_bestMove_82 rfl rfl rfl ?_ | refine wp_iinc_5 85 1 d_Game_bestMove_82 rfl (by decide) rfl rfl ?_
          refine wp_goto 25 d_Game_bestMove_85 (by decide) ?_
          refine wp_fgt (ls' := [some (.ref 0), some (.int th), some (.int (nI t)), some (.int (bP (t % 2 = 0))), some (.int _), some (.int (nI (i + 1))), none]) ⟨rfl, rfl, rfl, rfl, rfl, rfl, trivial⟩ ?_
          first
          | (have e : bmG nL gen gan gtu f th t i s = (iMin s.1 (woR nL gen gan gtu f (th ^^^ bit (nI i)) (t + 1) s.2).1, (woR nL gen gan gtu f (th ^^^ bit (nI i)) (t + 1) s.2).2) := by unfold bmG; rw [if_pos (bP_eq h41), if_pos h60]
             simp only [iterN, e] at hinv
             exact ih (i + 1) (_, _) (by omega) hinv)
          | (have e : bmG nL gen gan gtu f th t i s = (iMax s.1 (woR nL gen gan gtu f (th ^^^ bit (nI i)) (t + 1) s.2).1, (woR nL gen gan gtu f (th ^^^ bit (nI i)) (t + 1) s.2).2) := by unfold bmG; rw [if_pos (bP_eq h41), if_neg h60]
             simp only [iterN, e] at hinv
             exact ih (i + 1) (_, _) (by omega) hinv)
          | (have e : bmG nL gen gan gtu f th t i s = s := if_neg (bP_ne h41)
             simp only [iterN, e] at hinv
             exact ih (i + 1) s (by omega) hinv)

set_option maxRecDepth 100000 in
set_option maxHeartbeats 4000000 in
theorem c_Game_bestMove {gen : Nat → Int32} {gst gtu gan : Int32} {nL f t : Nat} {th : Int32} {tb : Nat → Int32} (hn : nL ≤ 12) (ht : t < 4) (hth : vp_in th 4096) (IH : ∀ (th : Int32) (tb : Nat → Int32) (Q : Option Value → LH → Prop), vp_in th 4096 → Q (some (.int (woR nL gen gan gtu f th (t + 1) tb).1)) (hG ((woR nL gen gan gtu f th (t + 1) tb).2) gen (nI nL) gst gtu gan) → Call Γ M_Game_worth (2 * f + 3) 0 0 [.ref 0, .int th, .int (nI (t + 1))] (hG (tb) gen (nI nL) gst gtu gan) Q) (hq : Q (some (.int (bmR nL gen gan gtu f th t tb).1)) (hG ((bmR nL gen gan gtu f th t tb).2) gen (nI nL) gst gtu gan)) : Call Γ M_Game_bestMove (2 * f + 4) 0 0 [.ref 0, .int th, .int (nI t)] (hG (tb) gen (nI nL) gst gtu gan) Q := by
  refine call_intro (ls := [some (.ref 0), some (.int th), some (.int (nI t)), none, none, none, none]) rfl rfl rfl ?_
  refine wp_iload_n 1 d_Game_bestMove_0 rfl rfl ?_
  refine wp_iconst 2 2 d_Game_bestMove_1 rfl (by decide) ?_
  refine wp_irem 3 d_Game_bestMove_2 rfl (by decide) ?_
  rw [rem2 (by omega)]
  refine wp_if_ne 10 6 d_Game_bestMove_3 rfl (by decide) (fun h3 => ?_) (fun h3 => ?_)
  · refine wp_iconst 11 0 d_Game_bestMove_10 rfl (by decide) ?_
    refine wp_istore_3 12 d_Game_bestMove_11 rfl rfl rfl ?_
    refine wp_aload_n 13 d_Game_bestMove_12 rfl rfl ?_
    refine wp_iload_n 14 d_Game_bestMove_13 rfl rfl ?_
    refine wp_iload_n 15 d_Game_bestMove_14 rfl rfl ?_
    refine wp_iconst 16 1 d_Game_bestMove_15 rfl (by decide) ?_
    refine wp_iadd 17 d_Game_bestMove_16 rfl ?_
    rw [nI_1]
    refine wp_V2 20 M_Game_worth (2 * f + 3) d_Game_bestMove_17 rfl mv_Game_worth lk_Game_54 (Nat.ble_eq_true_of_le (by omega)) rfl rfl rfl rfl ?_
    refine IH _ _ _ hth ?_
    refine kI ?_
    refine wp_istore_4 22 d_Game_bestMove_20 rfl rfl rfl ?_
    refine wp_iconst 23 0 d_Game_bestMove_22 rfl (by decide) ?_
    refine wp_istore_5 25 d_Game_bestMove_23 rfl rfl rfl ?_
    first
    | (have h7 : t % 2 = 0 := by by_cases z : t % 2 = 0; exact z; exact absurd h3 (nI_ne0 (by omega) (by omega))
       refine qL2 (show _ = [some (.ref 0), some (.int th), some (.int (nI t)), some (.int (bP (t % 2 = 0))), some (.int (woR nL gen gan gtu f th (t + 1) tb).1), some (.int (nI 0)), none] from by rw [bP_t h7]; rfl) ?_
       exact l_Game_bestMove_25 hn ht hth IH nL 0 _ (by omega) hq)
    | (have h7 : ¬ t % 2 = 0 := fun z => h3 (by rw [z]; rfl)
       refine qL2 (show _ = [some (.ref 0), some (.int th), some (.int (nI t)), some (.int (bP (t % 2 = 0))), some (.int (woR nL gen gan gtu f th (t + 1) tb).1), some (.int (nI 0)), none] from by rw [bP_f h7]; rfl) ?_
       exact l_Game_bestMove_25 hn ht hth IH nL 0 _ (by omega) hq)
  · refine wp_iconst 7 1 d_Game_bestMove_6 rfl (by decide) ?_
    refine wp_goto 11 d_Game_bestMove_7 (by decide) ?_
    refine wp_istore_3 12 d_Game_bestMove_11 rfl rfl rfl ?_
    refine wp_aload_n 13 d_Game_bestMove_12 rfl rfl ?_
    refine wp_iload_n 14 d_Game_bestMove_13 rfl rfl ?_
    refine wp_iload_n 15 d_Game_bestMove_14 rfl rfl ?_
    refine wp_iconst 16 1 d_Game_bestMove_15 rfl (by decide) ?_
    refine wp_iadd 17 d_Game_bestMove_16 rfl ?_
    rw [nI_1]
    refine wp_V2 20 M_Game_worth (2 * f + 3) d_Game_bestMove_17 rfl mv_Game_worth lk_Game_54 (Nat.ble_eq_true_of_le (by omega)) rfl rfl rfl rfl ?_
    refine IH _ _ _ hth ?_
    refine kI ?_
    refine wp_istore_4 22 d_Game_bestMove_20 rfl rfl rfl ?_
    refine wp_iconst 23 0 d_Game_bestMove_22 rfl (by decide) ?_
    refine wp_istore_5 25 d_Game_bestMove_23 rfl rfl rfl ?_
    first
    | (have h7 : t % 2 = 0 := by by_cases z : t % 2 = 0; exact z; exact absurd h3 (nI_ne0 (by omega) (by omega))
       refine qL2 (show _ = [some (.ref 0), some (.int th), some (.int (nI t)), some (.int (bP (t % 2 = 0))), some (.int (woR nL gen gan gtu f th (t + 1) tb).1), some (.int (nI 0)), none] from by rw [bP_t h7]; rfl) ?_
       exact l_Game_bestMove_25 hn ht hth IH nL 0 _ (by omega) hq)
    | (have h7 : ¬ t % 2 = 0 := fun z => h3 (by rw [z]; rfl)
       refine qL2 (show _ = [some (.ref 0), some (.int th), some (.int (nI t)), some (.int (bP (t % 2 = 0))), some (.int (woR nL gen gan gtu f th (t + 1) tb).1), some (.int (nI 0)), none] from by rw [bP_f h7]; rfl) ?_
       exact l_Game_bestMove_25 hn ht hth IH nL 0 _ (by omega) hq)
set_option maxRecDepth 100000 in
set_option maxHeartbeats 4000000 in
theorem c_Game_worth {gen : Nat → Int32} {gst gtu gan : Int32} {nL : Nat} (hn : nL ≤ 12) : ∀ (f t : Nat), t + f = 4 → ∀ (th : Int32) (tb : Nat → Int32) (Q : Option Value → LH → Prop), vp_in th 4096 → Q (some (.int (woR nL gen gan gtu f th t tb).1)) (hG ((woR nL gen gan gtu f th t tb).2) gen (nI nL) gst gtu gan) → Call Γ M_Game_worth (2 * f + 3) 0 0 [.ref 0, .int th, .int (nI t)] (hG (tb) gen (nI nL) gst gtu gan) Q := by
  intro f
  induction f with
  | zero =>
    intro t htf th tb Q hth hq
    refine call_intro (ls := [some (.ref 0), some (.int th), some (.int (nI t)), none, none]) rfl rfl rfl ?_
    refine wp_aload_n 1 d_Game_worth_0 rfl rfl ?_
    refine wp_getfield 4 4 0 d_Game_worth_1 rfl fl_Game_9 rfl rfl ?_
    refine wp_iload_n 5 d_Game_worth_4 rfl rfl ?_
    refine wp_iaload 6 d_Game_worth_5 rfl rfl hth ?_
    refine wp_iconst 7 4 d_Game_worth_6 rfl (by decide) ?_
    refine wp_iload_n 8 d_Game_worth_7 rfl rfl ?_
    refine wp_imul 9 d_Game_worth_8 rfl ?_
    refine wp_ishr 10 d_Game_worth_9 rfl ?_
    refine wp_bipush 12 15 d_Game_worth_10 rfl (by decide) ?_
    refine wp_iand 13 d_Game_worth_12 rfl ?_
    refine wp_istore_3 14 d_Game_worth_13 rfl rfl rfl ?_
    refine wp_iload_n 15 d_Game_worth_14 rfl rfl ?_
    refine wp_if_le 22 18 d_Game_worth_15 rfl (by decide) (fun h15 => ?_) (fun h15 => ?_)
    · refine wp_iload_n 23 d_Game_worth_22 rfl rfl ?_
      refine wp_aload_n 24 d_Game_worth_23 rfl rfl ?_
      refine wp_getfield 27 4 4 d_Game_worth_24 rfl fl_Game_25 rfl rfl ?_
      refine wp_icmp_ge 35 30 d_Game_worth_27 rfl (by decide) (fun h27 => ?_) (fun h27 => ?_)
      · refine wp_aload_n 36 d_Game_worth_35 rfl rfl ?_
        refine wp_iload_n 37 d_Game_worth_36 rfl rfl ?_
        refine wp_V1 40 M_Game_reached 2 d_Game_worth_37 rfl mv_Game_reached lk_Game_62 (Nat.ble_eq_true_of_le (by omega)) rfl rfl rfl rfl ?_
        refine c_Game_reached hn ?_
        refine kI ?_
        refine wp_goto 49 d_Game_worth_40 (by decide) ?_
        refine wp_istore_4 51 d_Game_worth_49 rfl rfl rfl ?_
        refine wp_aload_n 52 d_Game_worth_51 rfl rfl ?_
        refine wp_getfield 55 4 0 d_Game_worth_52 rfl fl_Game_9 rfl rfl ?_
        refine wp_iload_n 56 d_Game_worth_55 rfl rfl ?_
        refine wp_dup2 57 d_Game_worth_56 rfl rfl rfl ?_
        refine wp_iaload 58 d_Game_worth_57 rfl rfl hth ?_
        refine wp_iload 60 d_Game_worth_58 rfl rfl ?_
        refine wp_iconst 61 1 d_Game_worth_60 rfl (by decide) ?_
        refine wp_iadd 62 d_Game_worth_61 rfl ?_
        refine wp_iconst 63 4 d_Game_worth_62 rfl (by decide) ?_
        refine wp_iload_n 64 d_Game_worth_63 rfl rfl ?_
        refine wp_imul 65 d_Game_worth_64 rfl ?_
        refine wp_ishl 66 d_Game_worth_65 rfl ?_
        refine wp_ior 67 d_Game_worth_66 rfl ?_
        refine wp_iastore 68 d_Game_worth_67 rfl rfl hth ?_
        dsimp only [List.set]
        refine wp_iload 70 d_Game_worth_68 rfl rfl ?_
        refine wp_ireturn d_Game_worth_70 rfl ?_
        have hx : ¬ 0 < (tb th.toNatClampNeg >>> wShift t) &&& 15 := Int32.not_lt.mpr h15
        simp only [woR, if_neg hx] at hq
        exact hq
      · refine wp_iload_n 31 d_Game_worth_30 rfl rfl ?_
        refine wp_iconst 32 4 d_Game_worth_31 rfl (by decide) ?_
        refine wp_icmp_lt 43 35 d_Game_worth_32 rfl (by decide) (fun h32 => ?_) (fun h32 => ?_)
        · exact absurd (nI_ltN (b := 4) h32 (by omega) (by omega)) (by omega)
        · refine wp_aload_n 36 d_Game_worth_35 rfl rfl ?_
          refine wp_iload_n 37 d_Game_worth_36 rfl rfl ?_
          refine wp_V1 40 M_Game_reached 2 d_Game_worth_37 rfl mv_Game_reached lk_Game_62 (Nat.ble_eq_true_of_le (by omega)) rfl rfl rfl rfl ?_
          refine c_Game_reached hn ?_
          refine kI ?_
          refine wp_goto 49 d_Game_worth_40 (by decide) ?_
          refine wp_istore_4 51 d_Game_worth_49 rfl rfl rfl ?_
          refine wp_aload_n 52 d_Game_worth_51 rfl rfl ?_
          refine wp_getfield 55 4 0 d_Game_worth_52 rfl fl_Game_9 rfl rfl ?_
          refine wp_iload_n 56 d_Game_worth_55 rfl rfl ?_
          refine wp_dup2 57 d_Game_worth_56 rfl rfl rfl ?_
          refine wp_iaload 58 d_Game_worth_57 rfl rfl hth ?_
          refine wp_iload 60 d_Game_worth_58 rfl rfl ?_
          refine wp_iconst 61 1 d_Game_worth_60 rfl (by decide) ?_
          refine wp_iadd 62 d_Game_worth_61 rfl ?_
          refine wp_iconst 63 4 d_Game_worth_62 rfl (by decide) ?_
          refine wp_iload_n 64 d_Game_worth_63 rfl rfl ?_
          refine wp_imul 65 d_Game_worth_64 rfl ?_
          refine wp_ishl 66 d_Game_worth_65 rfl ?_
          refine wp_ior 67 d_Game_worth_66 rfl ?_
          refine wp_iastore 68 d_Game_worth_67 rfl rfl hth ?_
          dsimp only [List.set]
          refine wp_iload 70 d_Game_worth_68 rfl rfl ?_
          refine wp_ireturn d_Game_worth_70 rfl ?_
          have hx : ¬ 0 < (tb th.toNatClampNeg >>> wShift t) &&& 15 := Int32.not_lt.mpr h15
          simp only [woR, if_neg hx] at hq
          exact hq
    · refine wp_iload_n 19 d_Game_worth_18 rfl rfl ?_
      refine wp_iconst 20 1 d_Game_worth_19 rfl (by decide) ?_
      refine wp_isub 21 d_Game_worth_20 rfl ?_
      refine wp_ireturn d_Game_worth_21 rfl ?_
      have hx : 0 < (tb th.toNatClampNeg >>> wShift t) &&& 15 := Int32.not_le.mp h15
      simp only [woR, if_pos hx] at hq
      exact hq
  | succ f IH =>
    intro t htf th tb Q hth hq
    refine call_intro (ls := [some (.ref 0), some (.int th), some (.int (nI t)), none, none]) rfl rfl rfl ?_
    refine wp_aload_n 1 d_Game_worth_0 rfl rfl ?_
    refine wp_getfield 4 4 0 d_Game_worth_1 rfl fl_Game_9 rfl rfl ?_
    refine wp_iload_n 5 d_Game_worth_4 rfl rfl ?_
    refine wp_iaload 6 d_Game_worth_5 rfl rfl hth ?_
    refine wp_iconst 7 4 d_Game_worth_6 rfl (by decide) ?_
    refine wp_iload_n 8 d_Game_worth_7 rfl rfl ?_
    refine wp_imul 9 d_Game_worth_8 rfl ?_
    refine wp_ishr 10 d_Game_worth_9 rfl ?_
    refine wp_bipush 12 15 d_Game_worth_10 rfl (by decide) ?_
    refine wp_iand 13 d_Game_worth_12 rfl ?_
    refine wp_istore_3 14 d_Game_worth_13 rfl rfl rfl ?_
    refine wp_iload_n 15 d_Game_worth_14 rfl rfl ?_
    refine wp_if_le 22 18 d_Game_worth_15 rfl (by decide) (fun h15 => ?_) (fun h15 => ?_)
    · refine wp_iload_n 23 d_Game_worth_22 rfl rfl ?_
      refine wp_aload_n 24 d_Game_worth_23 rfl rfl ?_
      refine wp_getfield 27 4 4 d_Game_worth_24 rfl fl_Game_25 rfl rfl ?_
      refine wp_icmp_ge 35 30 d_Game_worth_27 rfl (by decide) (fun h27 => ?_) (fun h27 => ?_)
      · refine wp_aload_n 36 d_Game_worth_35 rfl rfl ?_
        refine wp_iload_n 37 d_Game_worth_36 rfl rfl ?_
        refine wp_V1 40 M_Game_reached 2 d_Game_worth_37 rfl mv_Game_reached lk_Game_62 (Nat.ble_eq_true_of_le (by omega)) rfl rfl rfl rfl ?_
        refine c_Game_reached hn ?_
        refine kI ?_
        refine wp_goto 49 d_Game_worth_40 (by decide) ?_
        refine wp_istore_4 51 d_Game_worth_49 rfl rfl rfl ?_
        refine wp_aload_n 52 d_Game_worth_51 rfl rfl ?_
        refine wp_getfield 55 4 0 d_Game_worth_52 rfl fl_Game_9 rfl rfl ?_
        refine wp_iload_n 56 d_Game_worth_55 rfl rfl ?_
        refine wp_dup2 57 d_Game_worth_56 rfl rfl rfl ?_
        refine wp_iaload 58 d_Game_worth_57 rfl rfl hth ?_
        refine wp_iload 60 d_Game_worth_58 rfl rfl ?_
        refine wp_iconst 61 1 d_Game_worth_60 rfl (by decide) ?_
        refine wp_iadd 62 d_Game_worth_61 rfl ?_
        refine wp_iconst 63 4 d_Game_worth_62 rfl (by decide) ?_
        refine wp_iload_n 64 d_Game_worth_63 rfl rfl ?_
        refine wp_imul 65 d_Game_worth_64 rfl ?_
        refine wp_ishl 66 d_Game_worth_65 rfl ?_
        refine wp_ior 67 d_Game_worth_66 rfl ?_
        refine wp_iastore 68 d_Game_worth_67 rfl rfl hth ?_
        dsimp only [List.set]
        refine wp_iload 70 d_Game_worth_68 rfl rfl ?_
        refine wp_ireturn d_Game_worth_70 rfl ?_
        have hx : ¬ 0 < (tb th.toNatClampNeg >>> wShift t) &&& 15 := Int32.not_lt.mpr h15
        first | (have h8 : ¬ gtu ≤ nI t := h27; simp only [woR, if_neg hx, if_neg h8] at hq; exact hq) | (have h8 : gtu ≤ nI t := h27; simp only [woR, if_neg hx, if_pos h8] at hq; exact hq)
      · refine wp_iload_n 31 d_Game_worth_30 rfl rfl ?_
        refine wp_iconst 32 4 d_Game_worth_31 rfl (by decide) ?_
        refine wp_icmp_lt 43 35 d_Game_worth_32 rfl (by decide) (fun h32 => ?_) (fun h32 => ?_)
        · refine wp_aload_n 44 d_Game_worth_43 rfl rfl ?_
          refine wp_iload_n 45 d_Game_worth_44 rfl rfl ?_
          refine wp_iload_n 46 d_Game_worth_45 rfl rfl ?_
          refine wp_V2 49 M_Game_bestMove (2 * f + 4) d_Game_worth_46 rfl mv_Game_bestMove lk_Game_66 (Nat.ble_eq_true_of_le (by omega)) rfl rfl rfl rfl ?_
          refine c_Game_bestMove hn (by omega) hth (fun th tb Q h1 h2 => IH (t + 1) (by omega) th tb Q h1 h2) ?_
          refine kI ?_
          refine wp_istore_4 51 d_Game_worth_49 rfl rfl rfl ?_
          refine wp_aload_n 52 d_Game_worth_51 rfl rfl ?_
          refine wp_getfield 55 4 0 d_Game_worth_52 rfl fl_Game_9 rfl rfl ?_
          refine wp_iload_n 56 d_Game_worth_55 rfl rfl ?_
          refine wp_dup2 57 d_Game_worth_56 rfl rfl rfl ?_
          refine wp_iaload 58 d_Game_worth_57 rfl rfl hth ?_
          refine wp_iload 60 d_Game_worth_58 rfl rfl ?_
          refine wp_iconst 61 1 d_Game_worth_60 rfl (by decide) ?_
          refine wp_iadd 62 d_Game_worth_61 rfl ?_
          refine wp_iconst 63 4 d_Game_worth_62 rfl (by decide) ?_
          refine wp_iload_n 64 d_Game_worth_63 rfl rfl ?_
          refine wp_imul 65 d_Game_worth_64 rfl ?_
          refine wp_ishl 66 d_Game_worth_65 rfl ?_
          refine wp_ior 67 d_Game_worth_66 rfl ?_
          refine wp_iastore 68 d_Game_worth_67 rfl rfl hth ?_
          dsimp only [List.set]
          refine wp_iload 70 d_Game_worth_68 rfl rfl ?_
          refine wp_ireturn d_Game_worth_70 rfl ?_
          have hx : ¬ 0 < (tb th.toNatClampNeg >>> wShift t) &&& 15 := Int32.not_lt.mpr h15
          first | (have h8 : ¬ gtu ≤ nI t := h27; simp only [woR, if_neg hx, if_neg h8] at hq; exact hq) | (have h8 : gtu ≤ nI t := h27; simp only [woR, if_neg hx, if_pos h8] at hq; exact hq)
        · exact absurd (show nI t < nI 4 from (nI_ltI (by omega) (by omega)).mpr (by omega)) h32
    · refine wp_iload_n 19 d_Game_worth_18 rfl rfl ?_
      refine wp_iconst 20 1 d_Game_worth_19 rfl (by decide) ?_
      refine wp_isub 21 d_Game_worth_20 rfl ?_
      refine wp_ireturn d_Game_worth_21 rfl ?_
      have hx : 0 < (tb th.toNatClampNeg >>> wShift t) &&& 15 := Int32.not_le.mp h15
      simp only [woR, if_pos hx] at hq
      exact hq
set_option maxRecDepth 100000 in
set_option maxHeartbeats 4000000 in
theorem c_Game_endOfBestPlay {gta gen : Nat → Int32} {gst gtu gan : Int32} {nL : Nat} (hn : nL ≤ 12) (hst : vp_in gst 4096) (hq : Q (some (.int (woR nL gen gan gtu 4 gst 0 gta).1)) (hG ((woR nL gen gan gtu 4 gst 0 gta).2) gen (nI nL) gst gtu gan)) : Call Γ M_Game_endOfBestPlay 12 0 0 [.ref 0] (hG (gta) gen (nI nL) gst gtu gan) Q := by
  refine call_intro (ls := [some (.ref 0)]) rfl rfl rfl ?_
  refine wp_aload_n 1 d_Game_endOfBestPlay_0 rfl rfl ?_
  refine wp_aload_n 2 d_Game_endOfBestPlay_1 rfl rfl ?_
  refine wp_getfield 5 4 3 d_Game_endOfBestPlay_2 rfl fl_Game_22 rfl rfl ?_
  refine wp_iconst 6 0 d_Game_endOfBestPlay_5 rfl (by decide) ?_
  refine wp_V2 9 M_Game_worth 11 d_Game_endOfBestPlay_6 rfl mv_Game_worth lk_Game_54 rfl rfl rfl rfl rfl ?_
  refine c_Game_worth hn 4 0 rfl _ _ _ hst ?_
  refine kI ?_
  refine wp_ireturn d_Game_endOfBestPlay_9 rfl ?_
  exact hq

/-- the first leg that is as good as best, from place i on -/
def fbL (nL : Nat) (en : Nat → Int32) (an tu st best : Int32) : Nat → Nat → (Nat → Int32) → Int32 × (Nat → Int32)
  | 0, _, tb => (-1, tb)
  | r + 1, i, tb => if hs st (nI i) then (if (woR nL en an tu 3 (st &&& (bit (nI i) ^^^ (-1))) 1 tb).1 = best then (nI i, (woR nL en an tu 3 (st &&& (bit (nI i) ^^^ (-1))) 1 tb).2) else fbL nL en an tu st best r (i + 1) (woR nL en an tu 3 (st &&& (bit (nI i) ^^^ (-1))) 1 tb).2) else fbL nL en an tu st best r (i + 1) tb
theorem and_in {th x : Int32} (h : vp_in th 4096) : vp_in (th &&& x) 4096 := by
  obtain ⟨i, hi, rfl⟩ := vp_in_of h (by omega)
  have e : nI i &&& x = nI (i &&& x.toBitVec.toNat) := by
    apply Int32.toBitVec_inj.mp
    apply BitVec.eq_of_toNat_eq
    rw [Int32.toBitVec_and, BitVec.toNat_and]
    show (BitVec.ofNat 32 i).toNat &&& _ = (BitVec.ofNat 32 (i &&& x.toBitVec.toNat)).toNat
    have h1 : i &&& x.toBitVec.toNat ≤ i := Nat.and_le_left
    simp only [BitVec.toNat_ofNat]
    rw [Nat.mod_eq_of_lt (by omega), Nat.mod_eq_of_lt (by omega)]
  have h1 : i &&& x.toBitVec.toNat ≤ i := Nat.and_le_left
  rw [e]; exact vp_in_nI (by omega) (by omega)
set_option maxRecDepth 100000 in
set_option maxHeartbeats 4000000 in
theorem l_Game_firstBestLeg_12 {gen : Nat → Int32} {gst gtu gan : Int32} {nL : Nat} {best : Int32} (hn : nL ≤ 12) (hst : vp_in gst 4096) : ∀ (r i : Nat) (tb : Nat → Int32), i + r = nL → Q (some (.int (fbL nL gen gan gtu gst best r i tb).1)) (hG ((fbL nL gen gan gtu gst best r i tb).2) gen (nI nL) gst gtu gan) → WP Γ M_Game_firstBestLeg 10 0 0 (hG (tb) gen (nI nL) gst gtu gan) 12 [some (.ref 0), some (.int best), some (.int (nI i))] [] Q := by
  intro r
  induction r with
  | zero =>
    intro i tb hi hinv
    refine wp_iload_n 13 d_Game_firstBestLeg_12 rfl rfl ?_
    refine wp_aload_n 14 d_Game_firstBestLeg_13 rfl rfl ?_
    refine wp_getfield 17 4 2 d_Game_firstBestLeg_14 rfl fl_Game_18 rfl rfl ?_
    refine wp_icmp_ge 58 20 d_Game_firstBestLeg_17 rfl (by decide) (fun h17 => ?_) (fun h17 => ?_)
    · refine wp_iconst 59 (-1) d_Game_firstBestLeg_58 rfl (by decide) ?_
      refine wp_ireturn d_Game_firstBestLeg_59 rfl ?_
      exact hinv
    · exact absurd ((nI_leI (by omega) (by omega)).mpr (by omega)) h17
  | succ r ih =>
    intro i tb hi hinv
    refine wp_iload_n 13 d_Game_firstBestLeg_12 rfl rfl ?_
    refine wp_aload_n 14 d_Game_firstBestLeg_13 rfl rfl ?_
    refine wp_getfield 17 4 2 d_Game_firstBestLeg_14 rfl fl_Game_18 rfl rfl ?_
    refine wp_icmp_ge 58 20 d_Game_firstBestLeg_17 rfl (by decide) (fun h17 => ?_) (fun h17 => ?_)
    · exact absurd (nI_leN h17 (by omega) (by omega)) (by omega)
    · refine wp_aload_n 21 d_Game_firstBestLeg_20 rfl rfl ?_
      refine wp_getfield 24 4 3 d_Game_firstBestLeg_21 rfl fl_Game_22 rfl rfl ?_
      refine wp_iload_n 25 d_Game_firstBestLeg_24 rfl rfl ?_
      refine wp_N2 28 M_PM_has 1 d_Game_firstBestLeg_25 rfl ms_PM_has lk_Game_58 rfl rfl ?_
      refine c_PM_has ?_
      refine kI ?_
      (first | refine wp_ifP_eq 52 31 d_Game_firstBestLeg_28 rfl (by decide) (fun h28 => ?_) (fun h28 => ?_) | refine wp_if_eq 52 31 d_Game_firstBestLeg_28 rfl (by decide) (fun h28 => ?_) (fun h28 => ?_))
      · first | refine wp_iincN_2 55 d_Game_firstBestLeg_52 rfl rfl rfl ?_ | refine wp_iinc_2 55 1 d_Game_firstBestLeg_52 rfl (by decide) rfl rfl ?_
        refine wp_goto 12 d_Game_firstBestLeg_55 (by decide) ?_
        refine ih (i + 1) _ (by omega) ?_
        first | (simpa only [fbL, if_pos h28, if_neg h47] using hinv) | (simpa only [fbL, if_neg h28] using hinv)
      · refine wp_aload_n 32 d_Game_firstBestLeg_31 rfl rfl ?_
        refine wp_aload_n 33 d_Game_firstBestLeg_32 rfl rfl ?_
        refine wp_getfield 36 4 3 d_Game_firstBestLeg_33 rfl fl_Game_22 rfl rfl ?_
        refine wp_iconst 37 1 d_Game_firstBestLeg_36 rfl (by decide) ?_
        refine wp_iload_n 38 d_Game_firstBestLeg_37 rfl rfl ?_
        refine wp_ishl 39 d_Game_firstBestLeg_38 rfl ?_
        refine wp_iconst 40 (-1) d_Game_firstBestLeg_39 rfl (by decide) ?_
        refine wp_ixor 41 d_Game_firstBestLeg_40 rfl ?_
        refine wp_iand 42 d_Game_firstBestLeg_41 rfl ?_
        refine wp_iconst 43 1 d_Game_firstBestLeg_42 rfl (by decide) ?_
        refine wp_V2 46 M_Game_worth 9 d_Game_firstBestLeg_43 rfl mv_Game_worth lk_Game_54 rfl rfl rfl rfl rfl ?_
        refine c_Game_worth hn 3 1 rfl _ _ _ (and_in hst) ?_
        refine kI ?_
        refine wp_iload_n 47 d_Game_firstBestLeg_46 rfl rfl ?_
        refine wp_icmp_ne 52 50 d_Game_firstBestLeg_47 rfl (by decide) (fun h47 => ?_) (fun h47 => ?_)
        · first | refine wp_iincN_2 55 d_Game_firstBestLeg_52 rfl rfl rfl ?_ | refine wp_iinc_2 55 1 d_Game_firstBestLeg_52 rfl (by decide) rfl rfl ?_
          refine wp_goto 12 d_Game_firstBestLeg_55 (by decide) ?_
          refine ih (i + 1) _ (by omega) ?_
          first | (simpa only [fbL, if_pos h28, if_neg h47] using hinv) | (simpa only [fbL, if_neg h28] using hinv)
        · refine wp_iload_n 51 d_Game_firstBestLeg_50 rfl rfl ?_
          refine wp_ireturn d_Game_firstBestLeg_51 rfl ?_
          simpa only [fbL, if_pos h28, if_pos h47] using hinv

set_option maxRecDepth 100000 in
set_option maxHeartbeats 4000000 in
theorem c_Game_firstBestLeg {gta gen : Nat → Int32} {gst gtu gan : Int32} {nL : Nat} (hn : nL ≤ 12) (hst : vp_in gst 4096) (hq : Q (some (.int (fbL nL gen gan gtu gst (woR nL gen gan gtu 4 gst 0 gta).1 nL 0 (woR nL gen gan gtu 4 gst 0 gta).2).1)) (hG ((fbL nL gen gan gtu gst (woR nL gen gan gtu 4 gst 0 gta).1 nL 0 (woR nL gen gan gtu 4 gst 0 gta).2).2) gen (nI nL) gst gtu gan)) : Call Γ M_Game_firstBestLeg 12 0 0 [.ref 0] (hG (gta) gen (nI nL) gst gtu gan) Q := by
  refine call_intro (ls := [some (.ref 0), none, none]) rfl rfl rfl ?_
  refine wp_aload_n 1 d_Game_firstBestLeg_0 rfl rfl ?_
  refine wp_aload_n 2 d_Game_firstBestLeg_1 rfl rfl ?_
  refine wp_getfield 5 4 3 d_Game_firstBestLeg_2 rfl fl_Game_22 rfl rfl ?_
  refine wp_iconst 6 0 d_Game_firstBestLeg_5 rfl (by decide) ?_
  refine wp_V2 9 M_Game_worth 11 d_Game_firstBestLeg_6 rfl mv_Game_worth lk_Game_54 rfl rfl rfl rfl rfl ?_
  refine c_Game_worth hn 4 0 rfl _ _ _ hst ?_
  refine kI ?_
  refine wp_istore_1 10 d_Game_firstBestLeg_9 rfl rfl rfl ?_
  refine wp_iconst 11 0 d_Game_firstBestLeg_10 rfl (by decide) ?_
  refine wp_istore_2 12 d_Game_firstBestLeg_11 rfl rfl rfl ?_
  exact wp_mono (Nat.le_refl _) (Nat.le_refl _) (by omega) (l_Game_firstBestLeg_12 hn hst nL 0 _ (by omega) hq)

end T32
