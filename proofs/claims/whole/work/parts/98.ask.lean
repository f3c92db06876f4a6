/-! ===== the reference: ASK ===== -/
abbrev smP (we wn : Nat → Int32) (k i p q : Nat) : Prop := we (7 * k + q) - we (7 * k + p) - we (7 * i + q) + we (7 * i + p) = 0 ∧ wn (7 * k + q) - wn (7 * k + p) - wn (7 * i + q) + wn (7 * i + p) = 0
def kyF (sp : Nat → Int32) (p q : Nat) : Nat → Int32 := fun w => sp (w * 7 + q) - sp (w * 7 + p)
def mvF_ (sp : Nat → Int32) (n p q : Nat) : Nat := mx (kyF sp p q) n
def mqG (po : Nat → Int32) (mv : Nat → Nat → Nat) (p q : Nat) (s : Int32 × Int32) : Int32 × Int32 := if po p = po q then (if nI (mv p q) < s.1 then (nI (mv p q), nI (7 * p + q)) else s) else s
def mqI (po : Nat → Int32) (mv : Nat → Nat → Nat) (nP p : Nat) (s : Int32 × Int32) : Int32 × Int32 := iterN (mqG po mv p) (nP - (p + 1)) (p + 1) s
def mqF (po : Nat → Int32) (mv : Nat → Nat → Nat) (nP : Nat) (s : Int32 × Int32) : Int32 × Int32 := iterN (mqI po mv nP) nP 0 s
/-- the reference's pair and the class's -/
def MQr (n : Nat) (s : Int32 × Int32) (b : BPr) : Prop := (s.2 = -1 ∧ s.1 = nI (n + 1) ∧ b.1 = 577) ∨ ∃ x y m, x < 7 ∧ y < 7 ∧ m ≤ n ∧ s.2 = nI (7 * x + y) ∧ b.2.1 = nI x ∧ b.2.2.1 = nI y ∧ s.1 = nI m ∧ b.1 = nI m
theorem MQr_G {sp po po2 : Nat → Int32} {n p q : Nat} {s : Int32 × Int32} {b : BPr} (hn : n ≤ 576) (hp : p < 7) (hq : q < 7) (hpo : ∀ j, j < 7 → po j = po2 j) (h : MQr n s b) : MQr n (mqG po (mvF_ sp n) p q s) (bpG sp po2 n p q b) := by
  have hm : (maF sp p q n b.2.2.2.1 b.2.2.2.2).2.2 = nI (mvF_ sp n p q) := ma_eq hn
  have hle : mvF_ sp n p q ≤ n := mx_n n
  unfold mqG bpG
  rw [hpo p hp, hpo q hq, hm]
  by_cases e : po2 p = po2 q
  · rw [if_pos e, if_pos e]
    rcases h with ⟨h1, h2, h3⟩ | ⟨x, y, m, hx, hy, hmn, h1, h2, h3, h4, h5⟩
    · rw [if_pos (by rw [h2]; exact (nI_ltI (by omega) (by omega)).mpr (by omega)), if_pos (by rw [h3]; exact (nI_ltI (a := mvF_ sp n p q) (b := 577) (by omega) (by omega)).mpr (by omega))]
      exact Or.inr ⟨p, q, _, hp, hq, hle, rfl, rfl, rfl, rfl, rfl⟩
    · rw [h4, h5]
      by_cases z : nI (mvF_ sp n p q) < nI m
      · rw [if_pos z, if_pos z]
        exact Or.inr ⟨p, q, _, hp, hq, hle, rfl, rfl, rfl, rfl, rfl⟩
      · rw [if_neg z, if_neg z]
        exact Or.inr ⟨x, y, m, hx, hy, hmn, h1, h2, h3, h4, rfl⟩
  · rw [if_neg e, if_neg e]; exact h
theorem MQr_I {sp po po2 : Nat → Int32} {n nP p : Nat} (hn : n ≤ 576) (hP : nP ≤ 7) (hp : p < 7) (hpo : ∀ j, j < 7 → po j = po2 j) : ∀ (r i : Nat) (s : Int32 × Int32) (b : BPr), i + r ≤ 7 → MQr n s b → MQr n (iterN (mqG po (mvF_ sp n) p) r i s) (iterN (bpG sp po2 n p) r i b)
  | 0, _, _, _, _, h => h
  | r + 1, i, s, b, hi, h => by
    simp only [iterN]
    exact MQr_I hn hP hp hpo r (i + 1) _ _ (by omega) (MQr_G hn hp (by omega) hpo h)
theorem MQr_F {sp po po2 : Nat → Int32} {n nP : Nat} (hn : n ≤ 576) (hP : nP ≤ 7) (hpo : ∀ j, j < 7 → po j = po2 j) : ∀ (r i : Nat) (s : Int32 × Int32) (b : BPr), i + r ≤ nP → MQr n s b → MQr n (iterN (mqI po (mvF_ sp n) nP) r i s) (iterN (bpI sp po2 n nP) r i b)
  | 0, _, _, _, _, h => h
  | r + 1, i, s, b, hi, h => by
    simp only [iterN]
    exact MQr_F hn hP hpo r (i + 1) _ _ (by omega) (MQr_I hn hP (by omega) hpo (nP - (i + 1)) (i + 1) s b (by omega) h)
theorem KEYS {t : TW} (I : tOK t) (J : tIn t) {on ot : Int32} {nG N : Nat} {w : WS} {s : FS} (R : RW t on ot nG N w s) {p q : Nat} (hp : p < t.nP) (hq : q < t.nP) : ∀ k i, k < w.2.2.2 → i < w.2.2.2 → (smP w.2.1 w.2.2.1 k i p q ↔ kyF s.2.2.2.1 p q i = kyF s.2.2.2.1 p q k) := by
  intro k i hk hi
  obtain ⟨-, -, k1, k2, k3⟩ := R.2.1 k hk
  obtain ⟨-, -, i1, i2, i3⟩ := R.2.1 i hi
  obtain ⟨bk1, bk2⟩ := fXY_bd (on := on) (ot := ot) I J k1 k2
  obtain ⟨bi1, bi2⟩ := fXY_bd (on := on) (ot := ot) I J i1 i2
  have wd : ∀ {x : Int32}, bdI 1782 x → bdI 4000 x := fun h => by unfold bdI at h ⊢; omega
  have h := key_eq (a := fX t on ot (ixW w k / nG) (ixW w k % nG) p) (b := fX t on ot (ixW w k / nG) (ixW w k % nG) q) (x := fY t on ot (ixW w k / nG) (ixW w k % nG) p) (y := fY t on ot (ixW w k / nG) (ixW w k % nG) q) (c := fX t on ot (ixW w i / nG) (ixW w i % nG) p) (d := fX t on ot (ixW w i / nG) (ixW w i % nG) q) (e := fY t on ot (ixW w i / nG) (ixW w i % nG) p) (f := fY t on ot (ixW w i / nG) (ixW w i % nG) q) ⟨wd (bk1.1 _), wd (bk1.1 _), wd (bk2.1 _), wd (bk2.1 _)⟩ ⟨wd (bi1.1 _), wd (bi1.1 _), wd (bi2.1 _), wd (bi2.1 _)⟩ (by have a := bk2.2 p q; have b := bk2.2 q p; omega) (by have a := bi2.2 p q; have b := bi2.2 q p; omega)
  unfold kyF smP
  rw [(k3 p hp).1, (k3 q hq).1, (k3 p hp).2.1, (k3 q hq).2.1, (k3 p hp).2.2, (k3 q hq).2.2, (i3 p hp).1, (i3 q hq).1, (i3 p hp).2.1, (i3 q hq).2.1, (i3 p hp).2.2, (i3 q hq).2.2]
  exact ⟨fun z => (h.mpr z).symm, fun z => h.mp z.symm⟩
theorem div7 : ∀ a, a < 7 → ∀ b, b < 7 → nI (7 * a + b) / 7 = nI a ∧ nI (7 * a + b) - nI (7 * a + b) / 7 * 7 = nI b := by decide +kernel
section T98
variable {Γ : Gm} {Q : Option Value → LH → Prop} {m_at m_sort m_trayMany m_tape m_text m_opened m_eastBy m_northBy m_partBy m_wayFaults m_wayEast m_wayNorth m_olds m_farBy m_rowBy m_triedBy m_doneAt m_gotAt m_struckAt m_bestDeed m_loops m_ran m_told1 : Nat → Int32} {m_names m_trays m_misBy : Nat → Int64} {m_status m_taped m_size m_token m_from m_end m_value m_faultKind m_faultPlace m_faults m_seen m_areOdds m_depth m_counted m_wayMany m_oneOfSet m_twoOfSet m_rowMany m_drawn m_ranSteps m_isTold m_marks : Int32} {m_top m_bottom : Int64} {t : TW}
set_option maxRecDepth 100000 in
set_option maxHeartbeats 4000000 in
theorem c_Mo_isSameIn {k i p q : Nat} (hk : k < 576) (hi : i < 576) (hp : p < 7) (hq_ : q < 7) (hq : Q (some (.int (bP (smP m_wayEast m_wayNorth k i p q)))) (hM m_at m_names m_status m_top m_bottom m_sort m_trayMany m_trays m_tape m_text m_taped m_size m_token m_from m_end m_value m_faultKind m_faultPlace m_faults m_seen m_areOdds m_opened m_depth m_counted m_eastBy m_northBy m_partBy m_wayFaults m_wayEast m_wayNorth m_olds m_wayMany m_oneOfSet m_twoOfSet m_farBy m_rowBy m_triedBy m_rowMany m_doneAt m_gotAt m_struckAt m_bestDeed m_misBy m_drawn m_ranSteps m_loops m_ran m_told1 m_isTold m_marks)) : Call Γ M_Mo_isSameIn 1 0 0 [.ref 0, .int (nI k), .int (nI i), .int (nI p), .int (nI q)] (hM m_at m_names m_status m_top m_bottom m_sort m_trayMany m_trays m_tape m_text m_taped m_size m_token m_from m_end m_value m_faultKind m_faultPlace m_faults m_seen m_areOdds m_opened m_depth m_counted m_eastBy m_northBy m_partBy m_wayFaults m_wayEast m_wayNorth m_olds m_wayMany m_oneOfSet m_twoOfSet m_farBy m_rowBy m_triedBy m_rowMany m_doneAt m_gotAt m_struckAt m_bestDeed m_misBy m_drawn m_ranSteps m_loops m_ran m_told1 m_isTold m_marks) Q := by
  refine call_intro (ls := [some (.ref 0), some (.int (nI k)), some (.int (nI i)), some (.int (nI p)), some (.int (nI q)), none, none]) rfl rfl rfl ?_
  refine wp_aload_n 1 d_Mo_isSameIn_0 rfl rfl ?_
  refine wp_getfield 4 12 28 d_Mo_isSameIn_1 rfl fl_Mo_59 rfl rfl ?_
  refine wp_bipush 6 7 d_Mo_isSameIn_4 rfl (by decide) ?_
  refine wp_iload_n 7 d_Mo_isSameIn_6 rfl rfl ?_
  refine wp_imul 8 d_Mo_isSameIn_7 rfl ?_
  rw [show (7 : Int32) * nI k = nI (7 * k) from mulK 7 k]
  refine wp_iload 10 d_Mo_isSameIn_8 rfl rfl ?_
  refine wp_iadd 11 d_Mo_isSameIn_10 rfl ?_
  rw [show nI (7 * k) + nI q = nI (7 * k + q) from nI_add _ _]
  refine wp_ialoadN 12 d_Mo_isSameIn_11 rfl rfl rfl (by omega) ?_
  refine wp_aload_n 13 d_Mo_isSameIn_12 rfl rfl ?_
  refine wp_getfield 16 12 28 d_Mo_isSameIn_13 rfl fl_Mo_59 rfl rfl ?_
  refine wp_bipush 18 7 d_Mo_isSameIn_16 rfl (by decide) ?_
  refine wp_iload_n 19 d_Mo_isSameIn_18 rfl rfl ?_
  refine wp_imul 20 d_Mo_isSameIn_19 rfl ?_
  rw [show (7 : Int32) * nI k = nI (7 * k) from mulK 7 k]
  refine wp_iload_n 21 d_Mo_isSameIn_20 rfl rfl ?_
  refine wp_iadd 22 d_Mo_isSameIn_21 rfl ?_
  rw [show nI (7 * k) + nI p = nI (7 * k + p) from nI_add _ _]
  refine wp_ialoadN 23 d_Mo_isSameIn_22 rfl rfl rfl (by omega) ?_
  refine wp_isub 24 d_Mo_isSameIn_23 rfl ?_
  refine wp_aload_n 25 d_Mo_isSameIn_24 rfl rfl ?_
  refine wp_getfield 28 12 28 d_Mo_isSameIn_25 rfl fl_Mo_59 rfl rfl ?_
  refine wp_bipush 30 7 d_Mo_isSameIn_28 rfl (by decide) ?_
  refine wp_iload_n 31 d_Mo_isSameIn_30 rfl rfl ?_
  refine wp_imul 32 d_Mo_isSameIn_31 rfl ?_
  rw [show (7 : Int32) * nI i = nI (7 * i) from mulK 7 i]
  refine wp_iload 34 d_Mo_isSameIn_32 rfl rfl ?_
  refine wp_iadd 35 d_Mo_isSameIn_34 rfl ?_
  rw [show nI (7 * i) + nI q = nI (7 * i + q) from nI_add _ _]
  refine wp_ialoadN 36 d_Mo_isSameIn_35 rfl rfl rfl (by omega) ?_
  refine wp_isub 37 d_Mo_isSameIn_36 rfl ?_
  refine wp_aload_n 38 d_Mo_isSameIn_37 rfl rfl ?_
  refine wp_getfield 41 12 28 d_Mo_isSameIn_38 rfl fl_Mo_59 rfl rfl ?_
  refine wp_bipush 43 7 d_Mo_isSameIn_41 rfl (by decide) ?_
  refine wp_iload_n 44 d_Mo_isSameIn_43 rfl rfl ?_
  refine wp_imul 45 d_Mo_isSameIn_44 rfl ?_
  rw [show (7 : Int32) * nI i = nI (7 * i) from mulK 7 i]
  refine wp_iload_n 46 d_Mo_isSameIn_45 rfl rfl ?_
  refine wp_iadd 47 d_Mo_isSameIn_46 rfl ?_
  rw [show nI (7 * i) + nI p = nI (7 * i + p) from nI_add _ _]
  refine wp_ialoadN 48 d_Mo_isSameIn_47 rfl rfl rfl (by omega) ?_
  refine wp_iadd 49 d_Mo_isSameIn_48 rfl ?_
  refine wp_istore_5 51 d_Mo_isSameIn_49 rfl rfl rfl ?_
  refine wp_aload_n 52 d_Mo_isSameIn_51 rfl rfl ?_
  refine wp_getfield 55 12 29 d_Mo_isSameIn_52 rfl fl_Mo_62 rfl rfl ?_
  refine wp_bipush 57 7 d_Mo_isSameIn_55 rfl (by decide) ?_
  refine wp_iload_n 58 d_Mo_isSameIn_57 rfl rfl ?_
  refine wp_imul 59 d_Mo_isSameIn_58 rfl ?_
  rw [show (7 : Int32) * nI k = nI (7 * k) from mulK 7 k]
  refine wp_iload 61 d_Mo_isSameIn_59 rfl rfl ?_
  refine wp_iadd 62 d_Mo_isSameIn_61 rfl ?_
  rw [show nI (7 * k) + nI q = nI (7 * k + q) from nI_add _ _]
  refine wp_ialoadN 63 d_Mo_isSameIn_62 rfl rfl rfl (by omega) ?_
  refine wp_aload_n 64 d_Mo_isSameIn_63 rfl rfl ?_
  refine wp_getfield 67 12 29 d_Mo_isSameIn_64 rfl fl_Mo_62 rfl rfl ?_
  refine wp_bipush 69 7 d_Mo_isSameIn_67 rfl (by decide) ?_
  refine wp_iload_n 70 d_Mo_isSameIn_69 rfl rfl ?_
  refine wp_imul 71 d_Mo_isSameIn_70 rfl ?_
  rw [show (7 : Int32) * nI k = nI (7 * k) from mulK 7 k]
  refine wp_iload_n 72 d_Mo_isSameIn_71 rfl rfl ?_
  refine wp_iadd 73 d_Mo_isSameIn_72 rfl ?_
  rw [show nI (7 * k) + nI p = nI (7 * k + p) from nI_add _ _]
  refine wp_ialoadN 74 d_Mo_isSameIn_73 rfl rfl rfl (by omega) ?_
  refine wp_isub 75 d_Mo_isSameIn_74 rfl ?_
  refine wp_aload_n 76 d_Mo_isSameIn_75 rfl rfl ?_
  refine wp_getfield 79 12 29 d_Mo_isSameIn_76 rfl fl_Mo_62 rfl rfl ?_
  refine wp_bipush 81 7 d_Mo_isSameIn_79 rfl (by decide) ?_
  refine wp_iload_n 82 d_Mo_isSameIn_81 rfl rfl ?_
  refine wp_imul 83 d_Mo_isSameIn_82 rfl ?_
  rw [show (7 : Int32) * nI i = nI (7 * i) from mulK 7 i]
  refine wp_iload 85 d_Mo_isSameIn_83 rfl rfl ?_
  refine wp_iadd 86 d_Mo_isSameIn_85 rfl ?_
  rw [show nI (7 * i) + nI q = nI (7 * i + q) from nI_add _ _]
  refine wp_ialoadN 87 d_Mo_isSameIn_86 rfl rfl rfl (by omega) ?_
  refine wp_isub 88 d_Mo_isSameIn_87 rfl ?_
  refine wp_aload_n 89 d_Mo_isSameIn_88 rfl rfl ?_
  refine wp_getfield 92 12 29 d_Mo_isSameIn_89 rfl fl_Mo_62 rfl rfl ?_
  refine wp_bipush 94 7 d_Mo_isSameIn_92 rfl (by decide) ?_
  refine wp_iload_n 95 d_Mo_isSameIn_94 rfl rfl ?_
  refine wp_imul 96 d_Mo_isSameIn_95 rfl ?_
  rw [show (7 : Int32) * nI i = nI (7 * i) from mulK 7 i]
  refine wp_iload_n 97 d_Mo_isSameIn_96 rfl rfl ?_
  refine wp_iadd 98 d_Mo_isSameIn_97 rfl ?_
  rw [show nI (7 * i) + nI p = nI (7 * i + p) from nI_add _ _]
  refine wp_ialoadN 99 d_Mo_isSameIn_98 rfl rfl rfl (by omega) ?_
  refine wp_iadd 100 d_Mo_isSameIn_99 rfl ?_
  refine wp_istore_6 102 d_Mo_isSameIn_100 rfl rfl rfl ?_
  refine wp_iload 104 d_Mo_isSameIn_102 rfl rfl ?_
  refine wp_if_ne 116 107 d_Mo_isSameIn_104 rfl (by decide) (fun h104 => ?_) (fun h104 => ?_)
  · refine wp_iconst 117 0 d_Mo_isSameIn_116 rfl (by decide) ?_
    refine wp_zreturn d_Mo_isSameIn_117 rfl (by first | rfl | exact nbP _) ?_
    exact bq0 (fun z => h104 z.1) hq
  · refine wp_iload 109 d_Mo_isSameIn_107 rfl rfl ?_
    refine wp_if_ne 116 112 d_Mo_isSameIn_109 rfl (by decide) (fun h109 => ?_) (fun h109 => ?_)
    · refine wp_iconst 117 0 d_Mo_isSameIn_116 rfl (by decide) ?_
      refine wp_zreturn d_Mo_isSameIn_117 rfl (by first | rfl | exact nbP _) ?_
      exact bq0 (fun z => h109 z.2) hq
    · refine wp_iconst 113 1 d_Mo_isSameIn_112 rfl (by decide) ?_
      refine wp_goto 117 d_Mo_isSameIn_113 (by decide) ?_
      refine wp_zreturn d_Mo_isSameIn_117 rfl (by first | rfl | exact nbP _) ?_
      exact bq1 ⟨h104, h109⟩ hq

set_option maxRecDepth 100000 in
set_option maxHeartbeats 4000000 in
theorem l_Mo_mostAlike_21 {p q n k : Nat} {key : Nat → Int32} (hp : p < 7) (hq_ : q < 7) (hn : n ≤ 576) (hk_ : ∀ k i, k < n → i < n → (smP m_wayEast m_wayNorth k i p q ↔ key i = key k)) (hk : k < n) : ∀ (r i : Nat) , i + r = n → (k ≤ i ∧ WP Γ M_Mo_mostAlike 2 0 0 (hM m_at m_names m_status m_top m_bottom m_sort m_trayMany m_trays m_tape m_text m_taped m_size m_token m_from m_end m_value m_faultKind m_faultPlace m_faults m_seen m_areOdds m_opened m_depth m_counted m_eastBy m_northBy m_partBy m_wayFaults m_wayEast m_wayNorth m_olds (nI n) m_oneOfSet m_twoOfSet m_farBy m_rowBy m_triedBy m_rowMany m_doneAt m_gotAt m_struckAt m_bestDeed m_misBy m_drawn m_ranSteps m_loops m_ran m_told1 m_isTold m_marks) 59 [some (.ref 0), some (.int (nI p)), some (.int (nI q)), some (.int (nI (mxF key n k))), some (.int (nI k)), some (.int (nI (cN key (key k) n - cN key (key k) k))), some (.int (nI n))] [] Q) → WP Γ M_Mo_mostAlike 2 0 0 (hM m_at m_names m_status m_top m_bottom m_sort m_trayMany m_trays m_tape m_text m_taped m_size m_token m_from m_end m_value m_faultKind m_faultPlace m_faults m_seen m_areOdds m_opened m_depth m_counted m_eastBy m_northBy m_partBy m_wayFaults m_wayEast m_wayNorth m_olds (nI n) m_oneOfSet m_twoOfSet m_farBy m_rowBy m_triedBy m_rowMany m_doneAt m_gotAt m_struckAt m_bestDeed m_misBy m_drawn m_ranSteps m_loops m_ran m_told1 m_isTold m_marks) 21 [some (.ref 0), some (.int (nI p)), some (.int (nI q)), some (.int (nI (mxF key n k))), some (.int (nI k)), some (.int (nI (cN key (key k) i - cN key (key k) k))), some (.int (nI i))] [] Q := by
  intro r
  induction r with
  | zero =>
    intro i  hi hinv
    obtain ⟨hki, hq⟩ := hinv
    refine wp_iload 23 d_Mo_mostAlike_21 rfl rfl ?_
    refine wp_aload_n 24 d_Mo_mostAlike_23 rfl rfl ?_
    refine wp_getfield 27 12 31 d_Mo_mostAlike_24 rfl fl_Mo_395 rfl rfl ?_
    refine wp_icmp_ge 59 30 d_Mo_mostAlike_27 rfl (by decide) (fun h27 => ?_) (fun h27 => ?_)
    · have e : i = n := by omega
      rw [e]
      exact hq
    · exact absurd ((nI_leI (a := n) (by omega) (by omega)).mpr (by omega)) h27
  | succ r ih =>
    intro i  hi hinv
    obtain ⟨hki, hq⟩ := hinv
    refine wp_iload 23 d_Mo_mostAlike_21 rfl rfl ?_
    refine wp_aload_n 24 d_Mo_mostAlike_23 rfl rfl ?_
    refine wp_getfield 27 12 31 d_Mo_mostAlike_24 rfl fl_Mo_395 rfl rfl ?_
    refine wp_icmp_ge 59 30 d_Mo_mostAlike_27 rfl (by decide) (fun h27 => ?_) (fun h27 => ?_)
    · exact absurd (nI_leN (b := n) h27 (by omega) (by omega)) (by omega)
    · refine wp_iload 32 d_Mo_mostAlike_30 rfl rfl ?_
      refine wp_aload_n 33 d_Mo_mostAlike_32 rfl rfl ?_
      refine wp_iload 35 d_Mo_mostAlike_33 rfl rfl ?_
      refine wp_iload 37 d_Mo_mostAlike_35 rfl rfl ?_
      refine wp_iload_n 38 d_Mo_mostAlike_37 rfl rfl ?_
      refine wp_iload_n 39 d_Mo_mostAlike_38 rfl rfl ?_
      refine wp_V4 42 M_Mo_isSameIn 1 d_Mo_mostAlike_39 rfl mv_Mo_isSameIn lk_Mo_411 rfl rfl rfl rfl rfl ?_
      refine c_Mo_isSameIn (by omega) (by omega) hp hq_ ?_
      refine kI ?_
      (first | refine wp_ifP_eq 49 45 d_Mo_mostAlike_42 rfl (by decide) (fun h42 => ?_) (fun h42 => ?_) | refine wp_if_eq 49 45 d_Mo_mostAlike_42 rfl (by decide) (fun h42 => ?_) (fun h42 => ?_))
      · refine wp_iconst 50 0 d_Mo_mostAlike_49 rfl (by decide) ?_
        refine wp_iadd 51 d_Mo_mostAlike_50 rfl ?_
        refine wp_istore_5 53 d_Mo_mostAlike_51 rfl rfl rfl ?_
        first | refine wp_iincN_6 56 d_Mo_mostAlike_53 rfl rfl rfl ?_ | refine wp_iinc_6 56 1 d_Mo_mostAlike_53 rfl (by decide) rfl rfl ?_
        refine wp_goto 21 d_Mo_mostAlike_56 (by decide) ?_
        have e9 : nI (cN key (key k) (i + 1) - cN key (key k) k) = nI (cN key (key k) i - cN key (key k) k) + 0 := by
          simp only [cN]
          rw [if_neg (fun y => h42 ((hk_ k i hk (by omega)).mpr y)), Nat.add_zero, add_0]
        refine qL2 ?_ (ih (i + 1) (by omega) ⟨by omega, hq⟩)
        rw [e9]
      · refine wp_iconst 46 1 d_Mo_mostAlike_45 rfl (by decide) ?_
        refine wp_goto 50 d_Mo_mostAlike_46 (by decide) ?_
        refine wp_iadd 51 d_Mo_mostAlike_50 rfl ?_
        refine wp_istore_5 53 d_Mo_mostAlike_51 rfl rfl rfl ?_
        first | refine wp_iincN_6 56 d_Mo_mostAlike_53 rfl rfl rfl ?_ | refine wp_iinc_6 56 1 d_Mo_mostAlike_53 rfl (by decide) rfl rfl ?_
        refine wp_goto 21 d_Mo_mostAlike_56 (by decide) ?_
        have e9 : nI (cN key (key k) (i + 1) - cN key (key k) k) = nI (cN key (key k) i - cN key (key k) k) + 1 := by
          simp only [cN]
          rw [if_pos ((hk_ k i hk (by omega)).mp h42), nI_1]
          have := cN_mono (key := key) (k := key k) (a := k) i hki
          rw [show cN key (key k) i + 1 - cN key (key k) k = cN key (key k) i - cN key (key k) k + 1 by omega]
        refine qL2 ?_ (ih (i + 1) (by omega) ⟨by omega, hq⟩)
        rw [e9]

set_option maxRecDepth 100000 in
set_option maxHeartbeats 4000000 in
theorem l_Mo_mostAlike_5 {p q n : Nat} {key : Nat → Int32} (hp : p < 7) (hq_ : q < 7) (hn : n ≤ 576) (hk_ : ∀ k i, k < n → i < n → (smP m_wayEast m_wayNorth k i p q ↔ key i = key k)) : ∀ (r i : Nat) (w5 w6 : Option Value), i + r = n → Q (some (.int (nI (mx key n)))) (hM m_at m_names m_status m_top m_bottom m_sort m_trayMany m_trays m_tape m_text m_taped m_size m_token m_from m_end m_value m_faultKind m_faultPlace m_faults m_seen m_areOdds m_opened m_depth m_counted m_eastBy m_northBy m_partBy m_wayFaults m_wayEast m_wayNorth m_olds (nI n) m_oneOfSet m_twoOfSet m_farBy m_rowBy m_triedBy m_rowMany m_doneAt m_gotAt m_struckAt m_bestDeed m_misBy m_drawn m_ranSteps m_loops m_ran m_told1 m_isTold m_marks) → WP Γ M_Mo_mostAlike 2 0 0 (hM m_at m_names m_status m_top m_bottom m_sort m_trayMany m_trays m_tape m_text m_taped m_size m_token m_from m_end m_value m_faultKind m_faultPlace m_faults m_seen m_areOdds m_opened m_depth m_counted m_eastBy m_northBy m_partBy m_wayFaults m_wayEast m_wayNorth m_olds (nI n) m_oneOfSet m_twoOfSet m_farBy m_rowBy m_triedBy m_rowMany m_doneAt m_gotAt m_struckAt m_bestDeed m_misBy m_drawn m_ranSteps m_loops m_ran m_told1 m_isTold m_marks) 5 [some (.ref 0), some (.int (nI p)), some (.int (nI q)), some (.int (nI (mxF key n i))), some (.int (nI i)), w5, w6] [] Q := by
  intro r
  induction r with
  | zero =>
    intro i w5 w6 hi hinv
    have hq := hinv
    refine wp_iload 7 d_Mo_mostAlike_5 rfl rfl ?_
    refine wp_aload_n 8 d_Mo_mostAlike_7 rfl rfl ?_
    refine wp_getfield 11 12 31 d_Mo_mostAlike_8 rfl fl_Mo_395 rfl rfl ?_
    refine wp_icmp_ge 72 14 d_Mo_mostAlike_11 rfl (by decide) (fun h11 => ?_) (fun h11 => ?_)
    · refine wp_iload_n 73 d_Mo_mostAlike_72 rfl rfl ?_
      refine wp_ireturn d_Mo_mostAlike_73 rfl ?_
      have e : i = n := by omega
      rw [mx_eq] at hq
      rw [e]
      exact hq
    · exact absurd ((nI_leI (a := n) (by omega) (by omega)).mpr (by omega)) h11
  | succ r ih =>
    intro i w5 w6 hi hinv
    have hq := hinv
    refine wp_iload 7 d_Mo_mostAlike_5 rfl rfl ?_
    refine wp_aload_n 8 d_Mo_mostAlike_7 rfl rfl ?_
    refine wp_getfield 11 12 31 d_Mo_mostAlike_8 rfl fl_Mo_395 rfl rfl ?_
    refine wp_icmp_ge 72 14 d_Mo_mostAlike_11 rfl (by decide) (fun h11 => ?_) (fun h11 => ?_)
    · exact absurd (nI_leN (b := n) h11 (by omega) (by omega)) (by omega)
    · refine wp_iconst 15 0 d_Mo_mostAlike_14 rfl (by decide) ?_
      refine wp_istore_5 17 d_Mo_mostAlike_15 rfl rfl rfl ?_
      refine wp_iload 19 d_Mo_mostAlike_17 rfl rfl ?_
      refine wp_istore_6 21 d_Mo_mostAlike_19 rfl rfl rfl ?_
      refine qL2 ?_ (l_Mo_mostAlike_21 (k := i) hp hq_ hn hk_ (by omega) (n - i) i (by omega) ⟨Nat.le_refl _, ?_⟩)
      · rw [Nat.sub_self]; rfl
      refine wp_iload_n 60 d_Mo_mostAlike_59 rfl rfl ?_
      refine wp_iload 62 d_Mo_mostAlike_60 rfl rfl ?_
      refine wp_S2 65 M_JMath_max 1 d_Mo_mostAlike_62 rfl ms_JMath_max lk_Mo_284 rfl rfl ?_
      refine c_JMath_max ?_
      refine kI ?_
      rw [iMax_N (by have := mxF_le (key := key) (n := n) (B := n) i (fun k _ => by have := cN_le (key := key) (k := key k) n; omega); omega) (by have := cN_le (key := key) (k := key i) n; omega)]
      refine wp_istore_3 66 d_Mo_mostAlike_65 rfl rfl rfl ?_
      first | refine wp_iincN_4 69 d_Mo_mostAlike_66 rfl rfl rfl ?_ | refine wp_iinc_4 69 1 d_Mo_mostAlike_66 rfl (by decide) rfl rfl ?_
      refine wp_goto 5 d_Mo_mostAlike_69 (by decide) ?_
      exact ih (i + 1) _ _ (by omega) hq

set_option maxRecDepth 100000 in
set_option maxHeartbeats 4000000 in
theorem c_Mo_mostAlike {p q n : Nat} {key : Nat → Int32} (hp : p < 7) (hq_ : q < 7) (hn : n ≤ 576) (hk_ : ∀ k i, k < n → i < n → (smP m_wayEast m_wayNorth k i p q ↔ key i = key k)) (hq : Q (some (.int (nI (mx key n)))) (hM m_at m_names m_status m_top m_bottom m_sort m_trayMany m_trays m_tape m_text m_taped m_size m_token m_from m_end m_value m_faultKind m_faultPlace m_faults m_seen m_areOdds m_opened m_depth m_counted m_eastBy m_northBy m_partBy m_wayFaults m_wayEast m_wayNorth m_olds (nI n) m_oneOfSet m_twoOfSet m_farBy m_rowBy m_triedBy m_rowMany m_doneAt m_gotAt m_struckAt m_bestDeed m_misBy m_drawn m_ranSteps m_loops m_ran m_told1 m_isTold m_marks)) : Call Γ M_Mo_mostAlike 2 0 0 [.ref 0, .int (nI p), .int (nI q)] (hM m_at m_names m_status m_top m_bottom m_sort m_trayMany m_trays m_tape m_text m_taped m_size m_token m_from m_end m_value m_faultKind m_faultPlace m_faults m_seen m_areOdds m_opened m_depth m_counted m_eastBy m_northBy m_partBy m_wayFaults m_wayEast m_wayNorth m_olds (nI n) m_oneOfSet m_twoOfSet m_farBy m_rowBy m_triedBy m_rowMany m_doneAt m_gotAt m_struckAt m_bestDeed m_misBy m_drawn m_ranSteps m_loops m_ran m_told1 m_isTold m_marks) Q := by
  refine call_intro (ls := [some (.ref 0), some (.int (nI p)), some (.int (nI q)), none, none, none, none]) rfl rfl rfl ?_
  refine wp_iconst 1 0 d_Mo_mostAlike_0 rfl (by decide) ?_
  refine wp_istore_3 2 d_Mo_mostAlike_1 rfl rfl rfl ?_
  refine wp_iconst 3 0 d_Mo_mostAlike_2 rfl (by decide) ?_
  refine wp_istore_4 5 d_Mo_mostAlike_3 rfl rfl rfl ?_
  exact l_Mo_mostAlike_5 hp hq_ hn hk_ n 0 none none (by omega) hq

set_option maxRecDepth 100000 in
set_option maxHeartbeats 4000000 in
theorem l_Mo_ask_78 {a2 o2 sp : Nat → Int32} {w : WS} {x2 y2 s k : Int32} {s2 : MS} {p : Nat} (hP0 : a2 0 = nI t.nP) (hP : t.nP ≤ 7) (hn : w.2.2.2 ≤ 576) (hK : ∀ p q, p < t.nP → q < t.nP → ∀ k i, k < w.2.2.2 → i < w.2.2.2 → (smP w.2.1 w.2.2.1 k i p q ↔ kyF sp p q i = kyF sp p q k)) (hp : p < t.nP) : ∀ (r i : Nat) (st_ : Int32 × Int32) (w7 : Option Value), i + r = t.nP → (∀ x7, WP Γ M_Mo_ask 9 0 0 (hM (a2) m_names m_status m_top m_bottom m_sort m_trayMany m_trays m_tape m_text m_taped m_size m_token m_from m_end m_value m_faultKind m_faultPlace m_faults m_seen m_areOdds m_opened m_depth m_counted (s2.2.1) (s2.2.2) (s2.1) (w.1) (w.2.1) (w.2.2.1) (o2) (nI w.2.2.2) (x2) (y2) m_farBy m_rowBy m_triedBy m_rowMany m_doneAt m_gotAt m_struckAt m_bestDeed m_misBy m_drawn m_ranSteps m_loops m_ran m_told1 m_isTold m_marks) 148 [some (.ref 0), some (.int s), some (.int k), some (.int (iterN (mqG s2.1 (mvF_ sp w.2.2.2) p) r i st_).2), some (.int (iterN (mqG s2.1 (mvF_ sp w.2.2.2) p) r i st_).1), some (.int (nI p)), some (.int (nI t.nP)), x7] [] Q) → WP Γ M_Mo_ask 9 0 0 (hM (a2) m_names m_status m_top m_bottom m_sort m_trayMany m_trays m_tape m_text m_taped m_size m_token m_from m_end m_value m_faultKind m_faultPlace m_faults m_seen m_areOdds m_opened m_depth m_counted (s2.2.1) (s2.2.2) (s2.1) (w.1) (w.2.1) (w.2.2.1) (o2) (nI w.2.2.2) (x2) (y2) m_farBy m_rowBy m_triedBy m_rowMany m_doneAt m_gotAt m_struckAt m_bestDeed m_misBy m_drawn m_ranSteps m_loops m_ran m_told1 m_isTold m_marks) 78 [some (.ref 0), some (.int s), some (.int k), some (.int st_.2), some (.int st_.1), some (.int (nI p)), some (.int (nI i)), w7] [] Q := by
  intro r
  induction r with
  | zero =>
    intro i st_ w7 hi hinv
    have hq := hinv
    refine wp_iload 80 d_Mo_ask_78 rfl rfl ?_
    refine wp_aload_n 81 d_Mo_ask_80 rfl rfl ?_
    refine wp_getfield 84 12 0 d_Mo_ask_81 rfl fl_Mo_7 rfl rfl ?_
    refine wp_iconst 85 0 d_Mo_ask_84 rfl (by decide) ?_
    refine wp_iaload 86 d_Mo_ask_85 rfl rfl (vp_in_nI (n := 0) (N := 2332) (by omega) (by omega)) ?_
    rw [show a2 (0 : Int32).toNatClampNeg = nI t.nP from hP0]
    refine wp_icmp_ge 148 89 d_Mo_ask_86 rfl (by decide) (fun h86 => ?_) (fun h86 => ?_)
    · have e : i = t.nP := by omega
      subst e
      exact hq _
    · exact absurd ((nI_leI (a := t.nP) (by omega) (by omega)).mpr (by omega)) h86
  | succ r ih =>
    intro i st_ w7 hi hinv
    have hq := hinv
    refine wp_iload 80 d_Mo_ask_78 rfl rfl ?_
    refine wp_aload_n 81 d_Mo_ask_80 rfl rfl ?_
    refine wp_getfield 84 12 0 d_Mo_ask_81 rfl fl_Mo_7 rfl rfl ?_
    refine wp_iconst 85 0 d_Mo_ask_84 rfl (by decide) ?_
    refine wp_iaload 86 d_Mo_ask_85 rfl rfl (vp_in_nI (n := 0) (N := 2332) (by omega) (by omega)) ?_
    rw [show a2 (0 : Int32).toNatClampNeg = nI t.nP from hP0]
    refine wp_icmp_ge 148 89 d_Mo_ask_86 rfl (by decide) (fun h86 => ?_) (fun h86 => ?_)
    · exact absurd (nI_leN (b := t.nP) h86 (by omega) (by omega)) (by omega)
    · refine wp_aload_n 90 d_Mo_ask_89 rfl rfl ?_
      refine wp_getfield 93 12 26 d_Mo_ask_90 rfl fl_Mo_53 rfl rfl ?_
      refine wp_iload 95 d_Mo_ask_93 rfl rfl ?_
      refine wp_ialoadN 96 d_Mo_ask_95 rfl rfl rfl (by omega) ?_
      refine wp_aload_n 97 d_Mo_ask_96 rfl rfl ?_
      refine wp_getfield 100 12 26 d_Mo_ask_97 rfl fl_Mo_53 rfl rfl ?_
      refine wp_iload 102 d_Mo_ask_100 rfl rfl ?_
      refine wp_ialoadN 103 d_Mo_ask_102 rfl rfl rfl (by omega) ?_
      refine wp_icmp_eq 109 106 d_Mo_ask_103 rfl (by decide) (fun h103 => ?_) (fun h103 => ?_)
      · refine wp_aload_n 110 d_Mo_ask_109 rfl rfl ?_
        refine wp_iload 112 d_Mo_ask_110 rfl rfl ?_
        refine wp_iload 114 d_Mo_ask_112 rfl rfl ?_
        refine wp_V2 117 M_Mo_mostAlike 2 d_Mo_ask_114 rfl mv_Mo_mostAlike lk_Mo_415 rfl rfl rfl rfl rfl ?_
        refine c_Mo_mostAlike (key := kyF sp p i) (by omega) (by omega) hn (hK p i (by omega) (by omega)) ?_
        refine kI ?_
        rw [show mx (kyF sp p i) w.2.2.2 = mvF_ sp w.2.2.2 p i from rfl]
        refine wp_istore_7 119 d_Mo_ask_117 rfl rfl rfl ?_
        refine wp_iload 121 d_Mo_ask_119 rfl rfl ?_
        refine wp_iload 123 d_Mo_ask_121 rfl rfl ?_
        refine wp_icmp_lt 129 126 d_Mo_ask_123 rfl (by decide) (fun h123 => ?_) (fun h123 => ?_)
        · refine wp_iload 131 d_Mo_ask_129 rfl rfl ?_
          refine wp_istore_4 133 d_Mo_ask_131 rfl rfl rfl ?_
          refine wp_bipush 135 7 d_Mo_ask_133 rfl (by decide) ?_
          refine wp_iload 137 d_Mo_ask_135 rfl rfl ?_
          refine wp_imul 138 d_Mo_ask_137 rfl ?_
          rw [show (7 : Int32) * nI p = nI (7 * p) from mulK 7 p]
          refine wp_iload 140 d_Mo_ask_138 rfl rfl ?_
          refine wp_iadd 141 d_Mo_ask_140 rfl ?_
          rw [show nI (7 * p) + nI i = nI (7 * p + i) from nI_add _ _]
          refine wp_istore_3 142 d_Mo_ask_141 rfl rfl rfl ?_
          first | refine wp_iincN_6 145 d_Mo_ask_142 rfl rfl rfl ?_ | refine wp_iinc_6 145 1 d_Mo_ask_142 rfl (by decide) rfl rfl ?_
          refine wp_goto 78 d_Mo_ask_145 (by decide) ?_
          have e : mqG s2.1 (mvF_ sp w.2.2.2) p i st_ = (nI (mvF_ sp w.2.2.2 p i), nI (7 * p + i)) := (if_pos h103).trans (if_pos h123)
          exact ih (i + 1) (nI (mvF_ sp w.2.2.2 p i), nI (7 * p + i)) _ (by omega) (by rw [← e]; exact hq)
        · refine wp_goto 142 d_Mo_ask_126 (by decide) ?_
          first | refine wp_iincN_6 145 d_Mo_ask_142 rfl rfl rfl ?_ | refine wp_iinc_6 145 1 d_Mo_ask_142 rfl (by decide) rfl rfl ?_
          refine wp_goto 78 d_Mo_ask_145 (by decide) ?_
          have e : mqG s2.1 (mvF_ sp w.2.2.2) p i st_ = st_ := (if_pos h103).trans (if_neg h123)
          exact ih (i + 1) st_ _ (by omega) (by rw [← e]; exact hq)
      · refine wp_goto 142 d_Mo_ask_106 (by decide) ?_
        first | refine wp_iincN_6 145 d_Mo_ask_142 rfl rfl rfl ?_ | refine wp_iinc_6 145 1 d_Mo_ask_142 rfl (by decide) rfl rfl ?_
        refine wp_goto 78 d_Mo_ask_145 (by decide) ?_
        have e : mqG s2.1 (mvF_ sp w.2.2.2) p i st_ = st_ := if_neg h103
        exact ih (i + 1) st_ _ (by omega) (by rw [← e]; exact hq)

set_option maxRecDepth 100000 in
set_option maxHeartbeats 4000000 in
theorem l_Mo_ask_61 {a2 o2 sp : Nat → Int32} {w : WS} {x2 y2 s k : Int32} {s2 : MS} (hP0 : a2 0 = nI t.nP) (hP : t.nP ≤ 7) (hn : w.2.2.2 ≤ 576) (hK : ∀ p q, p < t.nP → q < t.nP → ∀ k i, k < w.2.2.2 → i < w.2.2.2 → (smP w.2.1 w.2.2.1 k i p q ↔ kyF sp p q i = kyF sp p q k)) : ∀ (r i : Nat) (st_ : Int32 × Int32) (w6 w7 : Option Value), i + r = t.nP → (∀ x6 x7, WP Γ M_Mo_ask 9 0 0 (hM (a2) m_names m_status m_top m_bottom m_sort m_trayMany m_trays m_tape m_text m_taped m_size m_token m_from m_end m_value m_faultKind m_faultPlace m_faults m_seen m_areOdds m_opened m_depth m_counted (s2.2.1) (s2.2.2) (s2.1) (w.1) (w.2.1) (w.2.2.1) (o2) (nI w.2.2.2) (x2) (y2) m_farBy m_rowBy m_triedBy m_rowMany m_doneAt m_gotAt m_struckAt m_bestDeed m_misBy m_drawn m_ranSteps m_loops m_ran m_told1 m_isTold m_marks) 154 [some (.ref 0), some (.int s), some (.int k), some (.int (iterN (mqI s2.1 (mvF_ sp w.2.2.2) t.nP) r i st_).2), some (.int (iterN (mqI s2.1 (mvF_ sp w.2.2.2) t.nP) r i st_).1), some (.int (nI t.nP)), x6, x7] [] Q) → WP Γ M_Mo_ask 9 0 0 (hM (a2) m_names m_status m_top m_bottom m_sort m_trayMany m_trays m_tape m_text m_taped m_size m_token m_from m_end m_value m_faultKind m_faultPlace m_faults m_seen m_areOdds m_opened m_depth m_counted (s2.2.1) (s2.2.2) (s2.1) (w.1) (w.2.1) (w.2.2.1) (o2) (nI w.2.2.2) (x2) (y2) m_farBy m_rowBy m_triedBy m_rowMany m_doneAt m_gotAt m_struckAt m_bestDeed m_misBy m_drawn m_ranSteps m_loops m_ran m_told1 m_isTold m_marks) 61 [some (.ref 0), some (.int s), some (.int k), some (.int st_.2), some (.int st_.1), some (.int (nI i)), w6, w7] [] Q := by
  intro r
  induction r with
  | zero =>
    intro i st_ w6 w7 hi hinv
    have hq := hinv
    refine wp_iload 63 d_Mo_ask_61 rfl rfl ?_
    refine wp_aload_n 64 d_Mo_ask_63 rfl rfl ?_
    refine wp_getfield 67 12 0 d_Mo_ask_64 rfl fl_Mo_7 rfl rfl ?_
    refine wp_iconst 68 0 d_Mo_ask_67 rfl (by decide) ?_
    refine wp_iaload 69 d_Mo_ask_68 rfl rfl (vp_in_nI (n := 0) (N := 2332) (by omega) (by omega)) ?_
    rw [show a2 (0 : Int32).toNatClampNeg = nI t.nP from hP0]
    refine wp_icmp_ge 154 72 d_Mo_ask_69 rfl (by decide) (fun h69 => ?_) (fun h69 => ?_)
    · have e : i = t.nP := by omega
      subst e
      exact hq _ _
    · exact absurd ((nI_leI (a := t.nP) (by omega) (by omega)).mpr (by omega)) h69
  | succ r ih =>
    intro i st_ w6 w7 hi hinv
    have hq := hinv
    refine wp_iload 63 d_Mo_ask_61 rfl rfl ?_
    refine wp_aload_n 64 d_Mo_ask_63 rfl rfl ?_
    refine wp_getfield 67 12 0 d_Mo_ask_64 rfl fl_Mo_7 rfl rfl ?_
    refine wp_iconst 68 0 d_Mo_ask_67 rfl (by decide) ?_
    refine wp_iaload 69 d_Mo_ask_68 rfl rfl (vp_in_nI (n := 0) (N := 2332) (by omega) (by omega)) ?_
    rw [show a2 (0 : Int32).toNatClampNeg = nI t.nP from hP0]
    refine wp_icmp_ge 154 72 d_Mo_ask_69 rfl (by decide) (fun h69 => ?_) (fun h69 => ?_)
    · exact absurd (nI_leN (b := t.nP) h69 (by omega) (by omega)) (by omega)
    · refine wp_iload 74 d_Mo_ask_72 rfl rfl ?_
      refine wp_iconst 75 1 d_Mo_ask_74 rfl (by decide) ?_
      refine wp_iadd 76 d_Mo_ask_75 rfl ?_
      rw [nI_1]
      refine wp_istore_6 78 d_Mo_ask_76 rfl rfl rfl ?_
      refine l_Mo_ask_78 hP0 hP hn hK (by omega) (t.nP - (i + 1)) (i + 1) st_ w7 (by omega) (fun x7 => ?_)
      first | refine wp_iincN_5 151 d_Mo_ask_148 rfl rfl rfl ?_ | refine wp_iinc_5 151 1 d_Mo_ask_148 rfl (by decide) rfl rfl ?_
      refine wp_goto 61 d_Mo_ask_151 (by decide) ?_
      exact ih (i + 1) _ _ _ (by omega) hq

set_option maxRecDepth 100000 in
set_option maxHeartbeats 4000000 in
theorem c_Mo_ask {s k : Int32} (V : vT m_at t) (U u : UT) (hu : isWs t s → inR k 2 → uFit t s U u) (hq : ∀ (a2 o2 : Nat → Int32) (w2 : WS) (q2 x2 y2 : Int32) (s2 : MS), vT a2 t → frA m_at a2 → Q (some (.int (akF t U u s k).2)) (hM (a2) m_names ((akF t U u s k).1) m_top m_bottom m_sort m_trayMany m_trays m_tape m_text m_taped m_size m_token m_from m_end m_value m_faultKind m_faultPlace m_faults m_seen m_areOdds m_opened m_depth m_counted (s2.2.1) (s2.2.2) (s2.1) (w2.1) (w2.2.1) (w2.2.2.1) (o2) (q2) (x2) (y2) m_farBy m_rowBy m_triedBy m_rowMany m_doneAt m_gotAt m_struckAt m_bestDeed m_misBy m_drawn m_ranSteps m_loops m_ran m_told1 m_isTold m_marks)) : Call Γ M_Mo_ask 9 0 0 [.ref 0, .int s, .int k] (hM m_at m_names m_status m_top m_bottom m_sort m_trayMany m_trays m_tape m_text m_taped m_size m_token m_from m_end m_value m_faultKind m_faultPlace m_faults m_seen m_areOdds m_opened m_depth m_counted m_eastBy m_northBy m_partBy m_wayFaults m_wayEast m_wayNorth m_olds m_wayMany m_oneOfSet m_twoOfSet m_farBy m_rowBy m_triedBy m_rowMany m_doneAt m_gotAt m_struckAt m_bestDeed m_misBy m_drawn m_ranSteps m_loops m_ran m_told1 m_isTold m_marks) Q := by
  refine call_intro (ls := [some (.ref 0), some (.int s), some (.int k), none, none, none, none, none]) rfl rfl rfl ?_
  refine wp_aload_n 1 d_Mo_ask_0 rfl rfl ?_
  refine wp_iload_n 2 d_Mo_ask_1 rfl rfl ?_
  refine wp_V1 5 M_Mo_isSet 2 d_Mo_ask_2 rfl mv_Mo_isSet lk_Mo_398 rfl rfl rfl rfl rfl ?_
  refine c_Mo_isSet V ?_
  refine kI ?_
  (first | refine wp_ifP_eq 17 8 d_Mo_ask_5 rfl (by decide) (fun h5 => ?_) (fun h5 => ?_) | refine wp_if_eq 17 8 d_Mo_ask_5 rfl (by decide) (fun h5 => ?_) (fun h5 => ?_))
  · refine wp_aload_n 18 d_Mo_ask_17 rfl rfl ?_
    refine wp_iconst 19 1 d_Mo_ask_18 rfl (by decide) ?_
    refine wp_V1 22 M_Mo_refuse 1 d_Mo_ask_19 rfl mv_Mo_refuse lk_Mo_111 rfl rfl rfl rfl rfl ?_
    refine c_Mo_refuse ?_
    refine kI ?_
    refine wp_ireturn d_Mo_ask_22 rfl ?_
    have e : akF t U u s k = _ := (if_neg (fun z => h5 z.1))
    have h9 := hq m_at m_olds (m_wayFaults, m_wayEast, m_wayNorth, 0) m_wayMany m_oneOfSet m_twoOfSet (m_partBy, m_eastBy, m_northBy) V frA.rf
    rw [e] at h9
    exact h9
  · refine wp_iload_n 9 d_Mo_ask_8 rfl rfl ?_
    refine wp_if_lt 17 12 d_Mo_ask_9 rfl (by decide) (fun h9 => ?_) (fun h9 => ?_)
    · refine wp_aload_n 18 d_Mo_ask_17 rfl rfl ?_
      refine wp_iconst 19 1 d_Mo_ask_18 rfl (by decide) ?_
      refine wp_V1 22 M_Mo_refuse 1 d_Mo_ask_19 rfl mv_Mo_refuse lk_Mo_111 rfl rfl rfl rfl rfl ?_
      refine c_Mo_refuse ?_
      refine kI ?_
      refine wp_ireturn d_Mo_ask_22 rfl ?_
      have e : akF t U u s k = _ := (if_neg (fun z => absurd h9 (Int32.not_lt.mpr z.2.1)))
      have h9 := hq m_at m_olds (m_wayFaults, m_wayEast, m_wayNorth, 0) m_wayMany m_oneOfSet m_twoOfSet (m_partBy, m_eastBy, m_northBy) V frA.rf
      rw [e] at h9
      exact h9
    · refine wp_iload_n 13 d_Mo_ask_12 rfl rfl ?_
      refine wp_iconst 14 1 d_Mo_ask_13 rfl (by decide) ?_
      refine wp_icmp_le 23 17 d_Mo_ask_14 rfl (by decide) (fun h14 => ?_) (fun h14 => ?_)
      · have hk2 : inR k 2 := ⟨Int32.not_lt.mp h9, w2 h14⟩
        refine wp_aload_n 24 d_Mo_ask_23 rfl rfl ?_
        refine wp_iload_n 25 d_Mo_ask_24 rfl rfl ?_
        refine wp_V1 28 M_Mo_laysWays 8 d_Mo_ask_25 rfl mv_Mo_laysWays lk_Mo_401 rfl rfl rfl rfl rfl ?_
        refine c_Mo_laysWays V (fun a2 o2 s2 V2 hfr2 => ?_)
        refine kV ?_
        refine wp_aload_n 29 d_Mo_ask_28 rfl rfl ?_
        refine wp_getfield 32 12 31 d_Mo_ask_29 rfl fl_Mo_395 rfl rfl ?_
        refine wp_iconst 33 2 d_Mo_ask_32 rfl (by decide) ?_
        refine wp_icmp_ge 43 36 d_Mo_ask_33 rfl (by decide) (fun h33 => ?_) (fun h33 => ?_)
        · refine wp_aload_n 44 d_Mo_ask_43 rfl rfl ?_
          refine wp_iconst 45 1 d_Mo_ask_44 rfl (by decide) ?_
          refine wp_V1 48 M_Mo_laysOut 6 d_Mo_ask_45 rfl mv_Mo_laysOut lk_Mo_315 rfl rfl rfl rfl rfl ?_
          refine c_lo1 V2 ?_
          refine kV ?_
          have hch := lm_all V2.ok V2.in_ s2
          have e_ : (s2.1, s2.2.1, s2.2.2) = s2 := rfl
          rw [e_]
          generalize lmF t True s2 = s9 at hch ⊢
          refine wp_iconst 49 (-1) d_Mo_ask_48 rfl (by decide) ?_
          refine wp_istore_3 50 d_Mo_ask_49 rfl rfl rfl ?_
          refine wp_aload_n 51 d_Mo_ask_50 rfl rfl ?_
          refine wp_getfield 54 12 31 d_Mo_ask_51 rfl fl_Mo_395 rfl rfl ?_
          refine wp_iconst 55 1 d_Mo_ask_54 rfl (by decide) ?_
          refine wp_iadd 56 d_Mo_ask_55 rfl ?_
          rw [nI_1]
          refine wp_istore_4 58 d_Mo_ask_56 rfl rfl rfl ?_
          refine wp_iconst 59 0 d_Mo_ask_58 rfl (by decide) ?_
          refine wp_istore_5 61 d_Mo_ask_59 rfl rfl rfl ?_
          have R := RW_all V.ok s (m_wayFaults, m_wayEast, m_wayNorth, 0) U
          have hn9 : (wsA t s (m_wayFaults, m_wayEast, m_wayNorth, 0)).2.2.2 = (tWs t U s).2.2.1 := R.1.1
          have hn8 : (wsA t s (m_wayFaults, m_wayEast, m_wayNorth, 0)).2.2.2 ≤ 576 := Nat.le_trans R.1.2 (tPk_f V.ok s).2.2.2
          have hu9 := hu h5 hk2
          have hK9 : ∀ p q, p < t.nP → q < t.nP → ∀ k i, k < (wsA t s (m_wayFaults, m_wayEast, m_wayNorth, 0)).2.2.2 → i < (wsA t s (m_wayFaults, m_wayEast, m_wayNorth, 0)).2.2.2 → (smP (wsA t s (m_wayFaults, m_wayEast, m_wayNorth, 0)).2.1 (wsA t s (m_wayFaults, m_wayEast, m_wayNorth, 0)).2.2.1 k i p q ↔ kyF u.usp p q i = kyF u.usp p q k) := by
            rw [show u.usp = (tWs t U s).2.2.2.1 from hu9.1]
            exact fun p q hp hq => KEYS V.ok V.in_ R hp hq
          have hpo9 : ∀ j, j < 7 → s9.1 j = u.cpo j := fun j hj => (hch.1 j hj).trans (hu9.2.2.2.2.2.2.2.2 j hj).symm
          have hMQ := MQr_F (sp := u.usp) (po := s9.1) (po2 := u.cpo) (n := (wsA t s (m_wayFaults, m_wayEast, m_wayNorth, 0)).2.2.2) hn8 V.ok.hP hpo9 t.nP 0 (nI ((wsA t s (m_wayFaults, m_wayEast, m_wayNorth, 0)).2.2.2 + 1), -1) (577, u.uaf, u.uas, u.uco, u.uke) (by omega) (Or.inl ⟨rfl, rfl, rfl⟩)
          refine l_Mo_ask_61 (sp := u.usp) (w := (wsA t s (m_wayFaults, m_wayEast, m_wayNorth, 0))) V2.P V.ok.hP hn8 hK9 t.nP 0 (nI ((wsA t s (m_wayFaults, m_wayEast, m_wayNorth, 0)).2.2.2 + 1), -1) none none (by omega) (fun x6 x7 => ?_)
          have eB : akB t u (tWs t U s).2.2.1 = iterN (bpI u.usp u.cpo (wsA t s (m_wayFaults, m_wayEast, m_wayNorth, 0)).2.2.2 t.nP) t.nP 0 (577, u.uaf, u.uas, u.uco, u.uke) := by rw [← hn9]; rfl
          rw [← eB] at hMQ
          have hs9 : (mqF s9.1 (mvF_ u.usp (wsA t s (m_wayFaults, m_wayEast, m_wayNorth, 0)).2.2.2) t.nP (nI ((wsA t s (m_wayFaults, m_wayEast, m_wayNorth, 0)).2.2.2 + 1), -1)) = iterN (mqI s9.1 (mvF_ u.usp (wsA t s (m_wayFaults, m_wayEast, m_wayNorth, 0)).2.2.2) t.nP) t.nP 0 (nI ((wsA t s (m_wayFaults, m_wayEast, m_wayNorth, 0)).2.2.2 + 1), -1) := rfl
          generalize iterN (mqI s9.1 (mvF_ u.usp (wsA t s (m_wayFaults, m_wayEast, m_wayNorth, 0)).2.2.2) t.nP) t.nP 0 (nI ((wsA t s (m_wayFaults, m_wayEast, m_wayNorth, 0)).2.2.2 + 1), -1) = sq at hMQ hs9 ⊢
          have hlt2 : ¬ nI (tWs t U s).2.2.1 < 2 := by rw [← hn9]; exact Int32.not_lt.mpr h33
          refine wp_iload_n 155 d_Mo_ask_154 rfl rfl ?_
          refine wp_iconst 156 (-1) d_Mo_ask_155 rfl (by decide) ?_
          refine wp_icmp_ne 166 159 d_Mo_ask_156 rfl (by decide) (fun h156 => ?_) (fun h156 => ?_)
          · refine wp_aload_n 167 d_Mo_ask_166 rfl rfl ?_
            refine wp_iload_n 168 d_Mo_ask_167 rfl rfl ?_
            refine wp_if_ne 178 171 d_Mo_ask_168 rfl (by decide) (fun h168 => ?_) (fun h168 => ?_)
            · refine wp_iload_n 179 d_Mo_ask_178 rfl rfl ?_
              refine wp_bipush 181 7 d_Mo_ask_179 rfl (by decide) ?_
              refine wp_irem 182 d_Mo_ask_181 rfl (by decide) ?_
              refine wp_V1 185 M_Mo_gives 1 d_Mo_ask_182 rfl mv_Mo_gives lk_Mo_115 rfl rfl rfl rfl rfl ?_
              refine c_Mo_gives ?_
              refine kI ?_
              refine wp_ireturn d_Mo_ask_185 rfl ?_
              rcases hMQ with ⟨m1, m2, m3⟩ | ⟨xx, yy, mm, hx, hy, hmn, m1, m2, m3, m4, m5⟩
              · exact absurd m1 h156
              · have h576 : ¬ ¬ (akB t u (tWs t U s).2.2.1).1 ≤ 576 := fun z => z (by rw [m5]; exact (nI_leI (a := mm) (b := 576) (by omega) (by omega)).mpr (by omega))
                rw [m1, (div7 xx hx yy hy).2]
                have e : akF t U u s k = _ := (((if_pos ⟨h5, hk2⟩).trans (if_neg (fun z => z.elim hlt2 h576))).trans (congrArg (Prod.mk 0) ((if_neg h168).trans m3)))
                have h9 := hq a2 o2 (wsA t s (m_wayFaults, m_wayEast, m_wayNorth, 0)) (nI (wsA t s (m_wayFaults, m_wayEast, m_wayNorth, 0)).2.2.2) (tPk t s).1 (tPk t s).2 s9 V2 hfr2
                rw [e] at h9
                exact h9
            · refine wp_iload_n 172 d_Mo_ask_171 rfl rfl ?_
              refine wp_bipush 174 7 d_Mo_ask_172 rfl (by decide) ?_
              refine wp_idiv 175 d_Mo_ask_174 rfl (by decide) ?_
              refine wp_goto 182 d_Mo_ask_175 (by decide) ?_
              refine wp_V1 185 M_Mo_gives 1 d_Mo_ask_182 rfl mv_Mo_gives lk_Mo_115 rfl rfl rfl rfl rfl ?_
              refine c_Mo_gives ?_
              refine kI ?_
              refine wp_ireturn d_Mo_ask_185 rfl ?_
              rcases hMQ with ⟨m1, m2, m3⟩ | ⟨xx, yy, mm, hx, hy, hmn, m1, m2, m3, m4, m5⟩
              · exact absurd m1 h156
              · have h576 : ¬ ¬ (akB t u (tWs t U s).2.2.1).1 ≤ 576 := fun z => z (by rw [m5]; exact (nI_leI (a := mm) (b := 576) (by omega) (by omega)).mpr (by omega))
                rw [m1, (div7 xx hx yy hy).1]
                have e : akF t U u s k = _ := (((if_pos ⟨h5, hk2⟩).trans (if_neg (fun z => z.elim hlt2 h576))).trans (congrArg (Prod.mk 0) ((if_pos h168).trans m2)))
                have h9 := hq a2 o2 (wsA t s (m_wayFaults, m_wayEast, m_wayNorth, 0)) (nI (wsA t s (m_wayFaults, m_wayEast, m_wayNorth, 0)).2.2.2) (tPk t s).1 (tPk t s).2 s9 V2 hfr2
                rw [e] at h9
                exact h9
          · refine wp_aload_n 160 d_Mo_ask_159 rfl rfl ?_
            refine wp_bipush 162 6 d_Mo_ask_160 rfl (by decide) ?_
            refine wp_V1 165 M_Mo_refuse 1 d_Mo_ask_162 rfl mv_Mo_refuse lk_Mo_111 rfl rfl rfl rfl rfl ?_
            refine c_Mo_refuse ?_
            refine kI ?_
            refine wp_ireturn d_Mo_ask_165 rfl ?_
            rcases hMQ with ⟨m1, m2, m3⟩ | ⟨xx, yy, mm, hx, hy, hmn, m1, m2, m3, m4, m5⟩
            · have e : akF t U u s k = _ := ((if_pos ⟨h5, hk2⟩).trans (if_pos (Or.inr (by rw [m3]; decide))))
              have h9 := hq a2 o2 (wsA t s (m_wayFaults, m_wayEast, m_wayNorth, 0)) (nI (wsA t s (m_wayFaults, m_wayEast, m_wayNorth, 0)).2.2.2) (tPk t s).1 (tPk t s).2 s9 V2 hfr2
              rw [e] at h9
              exact h9
            · exact absurd (m1.symm.trans h156) (nI_ne1 (by omega))
        · refine wp_aload_n 37 d_Mo_ask_36 rfl rfl ?_
          refine wp_bipush 39 6 d_Mo_ask_37 rfl (by decide) ?_
          refine wp_V1 42 M_Mo_refuse 1 d_Mo_ask_39 rfl mv_Mo_refuse lk_Mo_111 rfl rfl rfl rfl rfl ?_
          refine c_Mo_refuse ?_
          refine kI ?_
          refine wp_ireturn d_Mo_ask_42 rfl ?_
          have R := RW_all V.ok s (m_wayFaults, m_wayEast, m_wayNorth, 0) U
          have hn9 : (wsA t s (m_wayFaults, m_wayEast, m_wayNorth, 0)).2.2.2 = (tWs t U s).2.2.1 := R.1.1
          have hn8 : (wsA t s (m_wayFaults, m_wayEast, m_wayNorth, 0)).2.2.2 ≤ 576 := Nat.le_trans R.1.2 (tPk_f V.ok s).2.2.2
          have e : akF t U u s k = _ := ((if_pos ⟨h5, hk2⟩).trans (if_pos (Or.inl (by rw [← hn9]; exact Int32.not_le.mp h33))))
          have h9 := hq a2 o2 (wsA t s (m_wayFaults, m_wayEast, m_wayNorth, 0)) (nI (wsA t s (m_wayFaults, m_wayEast, m_wayNorth, 0)).2.2.2) (tPk t s).1 (tPk t s).2 s2 V2 hfr2
          rw [e] at h9
          exact h9
      · refine wp_aload_n 18 d_Mo_ask_17 rfl rfl ?_
        refine wp_iconst 19 1 d_Mo_ask_18 rfl (by decide) ?_
        refine wp_V1 22 M_Mo_refuse 1 d_Mo_ask_19 rfl mv_Mo_refuse lk_Mo_111 rfl rfl rfl rfl rfl ?_
        refine c_Mo_refuse ?_
        refine kI ?_
        refine wp_ireturn d_Mo_ask_22 rfl ?_
        have e : akF t U u s k = _ := (if_neg (fun z => h14 (w1 z.2.2)))
        have h9 := hq m_at m_olds (m_wayFaults, m_wayEast, m_wayNorth, 0) m_wayMany m_oneOfSet m_twoOfSet (m_partBy, m_eastBy, m_northBy) V frA.rf
        rw [e] at h9
        exact h9

end T98
