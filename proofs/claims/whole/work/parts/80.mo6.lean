/-! ===== the reference: what is done ===== -/
/-- the rest of the cells stays: how many steps, the steps, the other slots -/
def frA (a b : Nat → Int32) : Prop := ∀ j, j = 7 ∨ 82 ≤ j → b j = a j
theorem frA.rf {a : Nat → Int32} : frA a a := fun _ _ => rfl
theorem frA.u {a b : Nat → Int32} (h : frA a b) {k : Nat} {v : Int32} (hk : k < 82) (h7 : ¬ k = 7) : frA a (upd b k v) := fun j hj => by rw [show upd b k v j = b j from if_neg (by omega)]; exact h j hj
theorem upd_ne {a : Nat → Int32} {k : Nat} {v : Int32} {j : Nat} (h : ¬ j = k) : upd a k v j = a j := if_neg h
theorem upd_at {a : Nat → Int32} {k : Nat} {v : Int32} : upd a k v k = v := if_pos rfl
/-- a cell of the first seven -/
theorem vT_odd {a t} (V : vT a t) {v : Int32} (h : inR v 17) : vT (upd a 3 v) (tSo t v) := by
  have e : ∀ j, ¬ j = 3 → upd a 3 v j = a j := fun j hj => if_neg hj
  refine ⟨⟨?_, ?_, ?_, if_pos rfl, ?_, ?_, ?_⟩, fun w hw => ?_, fun l hl => ?_, V.ok, ⟨V.in_.1, V.in_.2.1, V.in_.2.2.1, h, V.in_.2.2.2.2⟩⟩
  · rw [e 0 (by omega)]; exact V.P
  · rw [e 1 (by omega)]; exact V.W
  · rw [e 2 (by omega)]; exact V.L
  · rw [e 4 (by omega)]; exact V.sd
  · rw [e 5 (by omega)]; exact V.go
  · rw [e 6 (by omega)]; exact V.sk
  · rw [e _ (by omega), e _ (by omega), e _ (by omega)]; exact V.wk hw
  · rw [e _ (by omega), e _ (by omega), e _ (by omega), e _ (by omega), e _ (by omega)]; exact V.leg hl
theorem vT_go {a t} (V : vT a t) {x y : Int32} (h : x = -1 ∨ inR x (nI t.nP)) : vT (upd (upd a 4 x) 5 y) (tSg t x y) := by
  have e : ∀ j, ¬ j = 4 → ¬ j = 5 → upd (upd a 4 x) 5 y j = a j := fun j h1 h2 => by rw [upd_ne h2, upd_ne h1]
  refine ⟨⟨?_, ?_, ?_, ?_, ?_, if_pos rfl, ?_⟩, fun w hw => ?_, fun l hl => ?_, V.ok, ⟨V.in_.1, V.in_.2.1, h, V.in_.2.2.2⟩⟩
  · rw [e 0 (by omega) (by omega)]; exact V.P
  · rw [e 1 (by omega) (by omega)]; exact V.W
  · rw [e 2 (by omega) (by omega)]; exact V.L
  · rw [e 3 (by omega) (by omega)]; exact V.od
  · rw [upd_ne (by omega)]; exact upd_at
  · rw [e 6 (by omega) (by omega)]; exact V.sk
  · rw [e _ (by omega) (by omega), e _ (by omega) (by omega), e _ (by omega) (by omega)]; exact V.wk hw
  · rw [e _ (by omega) (by omega), e _ (by omega) (by omega), e _ (by omega) (by omega), e _ (by omega) (by omega), e _ (by omega) (by omega)]; exact V.leg hl
def beU (a : Nat → Int32) (w : Nat) (f : Int32) : Nat → Int32 := upd (upd (upd a (10 + 3 * w) (tB f)) (11 + 3 * w) (lB f)) (12 + 3 * w) (sB f)
theorem beU_ne {a : Nat → Int32} {w : Nat} {f : Int32} {j : Nat} (h : j < 10 + 3 * w ∨ 12 + 3 * w < j) : beU a w f j = a j := by
  unfold beU; rw [upd_ne (by omega), upd_ne (by omega), upd_ne (by omega)]
theorem vT_be {a t} (V : vT a t) {w : Nat} {f : Int32} (hw : w < t.nW) (h : inR f 24) : vT (beU a w f) (tSf t w f) := by
  have hW := V.ok.hW
  refine ⟨⟨?_, ?_, ?_, ?_, ?_, ?_, ?_⟩, fun k hk => ?_, fun l hl => ?_, V.ok, ⟨V.in_.1, fun k hk => ?_, V.in_.2.2⟩⟩
  · rw [beU_ne (by omega)]; exact V.P
  · rw [beU_ne (by omega)]; exact V.W
  · rw [beU_ne (by omega)]; exact V.L
  · rw [beU_ne (by omega)]; exact V.od
  · rw [beU_ne (by omega)]; exact V.sd
  · rw [beU_ne (by omega)]; exact V.go
  · rw [beU_ne (by omega)]; exact V.sk
  · show _ = tB (upd t.fa w f k) ∧ _ = lB (upd t.fa w f k) ∧ _ = sB (upd t.fa w f k)
    by_cases e : k = w
    · subst e
      rw [upd_at]
      refine ⟨?_, ?_, upd_at⟩
      · unfold beU; rw [upd_ne (by omega), upd_ne (by omega), upd_at]
      · unfold beU; rw [upd_ne (by omega), upd_at]
    · rw [upd_ne e, beU_ne (by omega), beU_ne (by omega), beU_ne (by omega)]; exact V.wk hk
  · rw [beU_ne (by omega), beU_ne (by omega), beU_ne (by omega), beU_ne (by omega), beU_ne (by omega)]; exact V.leg hl
  · show inR (upd t.fa w f k) 24
    by_cases e : k = w
    · rw [e, upd_at]; exact h
    · rw [upd_ne e]; exact V.in_.2.1 k hk
def teU (a : Nat → Int32) (l : Nat) (e n : Int32) : Nat → Int32 := upd (upd a (25 + 5 * l) e) (26 + 5 * l) n
theorem teU_ne {a : Nat → Int32} {l : Nat} {e n : Int32} {j : Nat} (h : ¬ j = 25 + 5 * l) (h2 : ¬ j = 26 + 5 * l) : teU a l e n j = a j := by
  unfold teU; rw [upd_ne h2, upd_ne h]
theorem vT_te {a t} (V : vT a t) {l : Nat} {e n : Int32} (hl : l < t.nL) (he : isPa e) (hn : isPa n) : vT (teU a l e n) (teT t l e n) := by
  refine ⟨⟨?_, ?_, ?_, ?_, ?_, ?_, ?_⟩, fun k hk => ?_, fun m hm => ?_, V.ok, ⟨V.in_.1, V.in_.2.1, V.in_.2.2.1, V.in_.2.2.2.1, fun m hm => ?_⟩⟩
  · rw [teU_ne (by omega) (by omega)]; exact V.P
  · rw [teU_ne (by omega) (by omega)]; exact V.W
  · rw [teU_ne (by omega) (by omega)]; exact V.L
  · rw [teU_ne (by omega) (by omega)]; exact V.od
  · rw [teU_ne (by omega) (by omega)]; exact V.sd
  · rw [teU_ne (by omega) (by omega)]; exact V.go
  · rw [teU_ne (by omega) (by omega)]; exact V.sk
  · have hk' : k < 4 := Nat.lt_of_lt_of_le hk V.ok.hW
    rw [teU_ne (by omega) (by omega), teU_ne (by omega) (by omega), teU_ne (by omega) (by omega)]; exact V.wk hk
  · show _ = t.te m ∧ _ = t.fr m ∧ _ = t.to_ m ∧ _ = upd t.ea l e m ∧ _ = upd t.no l n m
    rw [teU_ne (by omega) (by omega), teU_ne (by omega) (by omega), teU_ne (by omega) (by omega)]
    obtain ⟨v1, v2, v3, v4, v5⟩ := V.leg hm
    by_cases z : m = l
    · subst z
      rw [upd_at, upd_at]
      refine ⟨v1, v2, v3, ?_, upd_at⟩
      unfold teU; rw [upd_ne (by omega), upd_at]
    · rw [upd_ne z, upd_ne z, teU_ne (by omega) (by omega), teU_ne (by omega) (by omega)]
      exact ⟨v1, v2, v3, v4, v5⟩
  · show isPa (upd t.ea l e m) ∧ isPa (upd t.no l n m)
    by_cases z : m = l
    · rw [z, upd_at, upd_at]; exact ⟨he, hn⟩
    · rw [upd_ne z, upd_ne z]; exact V.in_.2.2.2.2 m hm
theorem pa64 {x : Int32} : ((-99 : Int64) ≤ x.toInt64 ∧ x.toInt64 ≤ 99) ↔ isPa x := by
  have a : ((-99 : Int64)).toInt = -99 := rfl
  have b : ((99 : Int64)).toInt = 99 := rfl
  have c : ((-99 : Int32)).toInt = -99 := rfl
  have d : ((99 : Int32)).toInt = 99 := rfl
  rw [Int64.le_iff_toInt_le, Int64.le_iff_toInt_le, Int32.toInt_toInt64, a, b]
  unfold isPa
  rw [Int32.lt_iff_toInt_lt, Int32.lt_iff_toInt_lt, c, d]
  omega
theorem in23 {x : Int32} : ((0 : Int64) ≤ x.toInt64 ∧ x.toInt64 ≤ 23) ↔ inR x 24 := by
  have a : ((0 : Int64)).toInt = 0 := rfl
  have b : ((23 : Int64)).toInt = 23 := rfl
  have c : ((0 : Int32)).toInt = 0 := rfl
  have d : ((24 : Int32)).toInt = 24 := rfl
  rw [Int64.le_iff_toInt_le, Int64.le_iff_toInt_le, Int32.toInt_toInt64, a, b]
  unfold inR
  rw [Int32.le_iff_toInt_le, Int32.lt_iff_toInt_lt, c, d]
  omega
theorem in16 {x : Int32} : ((0 : Int64) ≤ x.toInt64 ∧ x.toInt64 ≤ 16) ↔ inR x 17 := by
  have a : ((0 : Int64)).toInt = 0 := rfl
  have b : ((16 : Int64)).toInt = 16 := rfl
  have c : ((0 : Int32)).toInt = 0 := rfl
  have d : ((17 : Int32)).toInt = 17 := rfl
  rw [Int64.le_iff_toInt_le, Int64.le_iff_toInt_le, Int32.toInt_toInt64, a, b]
  unfold inR
  rw [Int32.le_iff_toInt_le, Int32.lt_iff_toInt_lt, c, d]
  omega
section T80
variable {Γ : Gm} {Q : Option Value → LH → Prop} {m_at m_sort m_trayMany m_tape m_text m_opened m_eastBy m_northBy m_partBy m_wayFaults m_wayEast m_wayNorth m_olds m_farBy m_rowBy m_triedBy m_doneAt m_gotAt m_struckAt m_bestDeed m_loops m_ran m_told1 : Nat → Int32} {m_names m_trays m_misBy : Nat → Int64} {m_status m_taped m_size m_token m_from m_end m_value m_faultKind m_faultPlace m_faults m_seen m_areOdds m_depth m_counted m_wayMany m_oneOfSet m_twoOfSet m_rowMany m_drawn m_ranSteps m_isTold m_marks : Int32} {m_top m_bottom : Int64} {t : TW}
set_option maxRecDepth 100000 in
set_option maxHeartbeats 4000000 in
theorem c_Mo_strikes {l : Int32} (V : vT m_at t) (hq0 : ¬ (l < nI t.nL ∧ ¬ hs t.sk l) → Q (some (.int 0)) (hM m_at m_names m_status m_top m_bottom m_sort m_trayMany m_trays m_tape m_text m_taped m_size m_token m_from m_end m_value m_faultKind m_faultPlace m_faults m_seen m_areOdds m_opened m_depth m_counted m_eastBy m_northBy m_partBy m_wayFaults m_wayEast m_wayNorth m_olds m_wayMany m_oneOfSet m_twoOfSet m_farBy m_rowBy m_triedBy m_rowMany m_doneAt m_gotAt m_struckAt m_bestDeed m_misBy m_drawn m_ranSteps m_loops m_ran m_told1 m_isTold m_marks)) (hq1 : (l < nI t.nL ∧ ¬ hs t.sk l) → Q (some (.int 1)) (hM (upd m_at 6 (t.sk ||| bit l)) m_names m_status m_top m_bottom m_sort m_trayMany m_trays m_tape m_text m_taped m_size m_token m_from m_end m_value m_faultKind m_faultPlace m_faults m_seen m_areOdds m_opened m_depth m_counted m_eastBy m_northBy m_partBy m_wayFaults m_wayEast m_wayNorth m_olds m_wayMany m_oneOfSet m_twoOfSet m_farBy m_rowBy m_triedBy m_rowMany m_doneAt m_gotAt m_struckAt m_bestDeed m_misBy m_drawn m_ranSteps m_loops m_ran m_told1 m_isTold m_marks)) : Call Γ M_Mo_strikes 3 0 0 [.ref 0, .int l] (hM m_at m_names m_status m_top m_bottom m_sort m_trayMany m_trays m_tape m_text m_taped m_size m_token m_from m_end m_value m_faultKind m_faultPlace m_faults m_seen m_areOdds m_opened m_depth m_counted m_eastBy m_northBy m_partBy m_wayFaults m_wayEast m_wayNorth m_olds m_wayMany m_oneOfSet m_twoOfSet m_farBy m_rowBy m_triedBy m_rowMany m_doneAt m_gotAt m_struckAt m_bestDeed m_misBy m_drawn m_ranSteps m_loops m_ran m_told1 m_isTold m_marks) Q := by
  refine call_intro (ls := [some (.ref 0), some (.int l)]) rfl rfl rfl ?_
  refine wp_aload_n 1 d_Mo_strikes_0 rfl rfl ?_
  refine wp_iload_n 2 d_Mo_strikes_1 rfl rfl ?_
  refine wp_V1 5 M_Mo_counts 2 d_Mo_strikes_2 rfl mv_Mo_counts lk_Mo_300 rfl rfl rfl rfl rfl ?_
  refine c_Mo_counts V ?_
  refine kI ?_
  (first | refine wp_ifP_ne 10 8 d_Mo_strikes_5 rfl (by decide) (fun h5 => ?_) (fun h5 => ?_) | refine wp_if_ne 10 8 d_Mo_strikes_5 rfl (by decide) (fun h5 => ?_) (fun h5 => ?_))
  · refine wp_aload_n 11 d_Mo_strikes_10 rfl rfl ?_
    refine wp_getfield 14 12 0 d_Mo_strikes_11 rfl fl_Mo_7 rfl rfl ?_
    refine wp_bipush 16 6 d_Mo_strikes_14 rfl (by decide) ?_
    refine wp_dup2 17 d_Mo_strikes_16 rfl rfl rfl ?_
    refine wp_iaload 18 d_Mo_strikes_17 rfl rfl (vp_in_nI (n := 6) (N := 2332) (by omega) (by omega)) ?_
    rw [show m_at (6 : Int32).toNatClampNeg = t.sk from V.sk]
    refine wp_iconst 19 1 d_Mo_strikes_18 rfl (by decide) ?_
    refine wp_iload_n 20 d_Mo_strikes_19 rfl rfl ?_
    refine wp_ishl 21 d_Mo_strikes_20 rfl ?_
    refine wp_ior 22 d_Mo_strikes_21 rfl ?_
    refine wp_iastore 23 d_Mo_strikes_22 rfl rfl (vp_in_nI (n := 6) (N := 2332) (by omega) (by omega)) ?_
    refine hEq (hM (upd m_at 6 (t.sk ||| bit l)) m_names m_status m_top m_bottom m_sort m_trayMany m_trays m_tape m_text m_taped m_size m_token m_from m_end m_value m_faultKind m_faultPlace m_faults m_seen m_areOdds m_opened m_depth m_counted m_eastBy m_northBy m_partBy m_wayFaults m_wayEast m_wayNorth m_olds m_wayMany m_oneOfSet m_twoOfSet m_farBy m_rowBy m_triedBy m_rowMany m_doneAt m_gotAt m_struckAt m_bestDeed m_misBy m_drawn m_ranSteps m_loops m_ran m_told1 m_isTold m_marks) rfl ?_
    refine wp_iconst 24 1 d_Mo_strikes_23 rfl (by decide) ?_
    refine wp_zreturn d_Mo_strikes_24 rfl (by first | rfl | exact nbP _) ?_
    exact hq1 h5
  · refine wp_iconst 9 0 d_Mo_strikes_8 rfl (by decide) ?_
    refine wp_zreturn d_Mo_strikes_9 rfl (by first | rfl | exact nbP _) ?_
    exact hq0 h5

set_option maxRecDepth 100000 in
set_option maxHeartbeats 4000000 in
theorem c_Mo_restores1 {l : Int32} (V : vT m_at t) (hq0 : ¬ hs t.sk l → Q (some (.int 0)) (hM m_at m_names m_status m_top m_bottom m_sort m_trayMany m_trays m_tape m_text m_taped m_size m_token m_from m_end m_value m_faultKind m_faultPlace m_faults m_seen m_areOdds m_opened m_depth m_counted m_eastBy m_northBy m_partBy m_wayFaults m_wayEast m_wayNorth m_olds m_wayMany m_oneOfSet m_twoOfSet m_farBy m_rowBy m_triedBy m_rowMany m_doneAt m_gotAt m_struckAt m_bestDeed m_misBy m_drawn m_ranSteps m_loops m_ran m_told1 m_isTold m_marks)) (hq1 : hs t.sk l → Q (some (.int 1)) (hM (upd m_at 6 (t.sk &&& (bit l ^^^ (-1)))) m_names m_status m_top m_bottom m_sort m_trayMany m_trays m_tape m_text m_taped m_size m_token m_from m_end m_value m_faultKind m_faultPlace m_faults m_seen m_areOdds m_opened m_depth m_counted m_eastBy m_northBy m_partBy m_wayFaults m_wayEast m_wayNorth m_olds m_wayMany m_oneOfSet m_twoOfSet m_farBy m_rowBy m_triedBy m_rowMany m_doneAt m_gotAt m_struckAt m_bestDeed m_misBy m_drawn m_ranSteps m_loops m_ran m_told1 m_isTold m_marks)) : Call Γ M_Mo_restores1 2 0 0 [.ref 0, .int l] (hM m_at m_names m_status m_top m_bottom m_sort m_trayMany m_trays m_tape m_text m_taped m_size m_token m_from m_end m_value m_faultKind m_faultPlace m_faults m_seen m_areOdds m_opened m_depth m_counted m_eastBy m_northBy m_partBy m_wayFaults m_wayEast m_wayNorth m_olds m_wayMany m_oneOfSet m_twoOfSet m_farBy m_rowBy m_triedBy m_rowMany m_doneAt m_gotAt m_struckAt m_bestDeed m_misBy m_drawn m_ranSteps m_loops m_ran m_told1 m_isTold m_marks) Q := by
  refine call_intro (ls := [some (.ref 0), some (.int l)]) rfl rfl rfl ?_
  refine wp_aload_n 1 d_Mo_restores1_0 rfl rfl ?_
  refine wp_aload_n 2 d_Mo_restores1_1 rfl rfl ?_
  refine wp_getfield 5 12 0 d_Mo_restores1_2 rfl fl_Mo_7 rfl rfl ?_
  refine wp_bipush 7 6 d_Mo_restores1_5 rfl (by decide) ?_
  refine wp_iaload 8 d_Mo_restores1_7 rfl rfl (vp_in_nI (n := 6) (N := 2332) (by omega) (by omega)) ?_
  rw [show m_at (6 : Int32).toNatClampNeg = t.sk from V.sk]
  refine wp_iload_n 9 d_Mo_restores1_8 rfl rfl ?_
  refine wp_V2 12 M_Mo_isIn 1 d_Mo_restores1_9 rfl mv_Mo_isIn lk_Mo_281 rfl rfl rfl rfl rfl ?_
  refine c_Mo_isIn ?_
  refine kI ?_
  (first | refine wp_ifP_ne 17 15 d_Mo_restores1_12 rfl (by decide) (fun h12 => ?_) (fun h12 => ?_) | refine wp_if_ne 17 15 d_Mo_restores1_12 rfl (by decide) (fun h12 => ?_) (fun h12 => ?_))
  · refine wp_aload_n 18 d_Mo_restores1_17 rfl rfl ?_
    refine wp_getfield 21 12 0 d_Mo_restores1_18 rfl fl_Mo_7 rfl rfl ?_
    refine wp_bipush 23 6 d_Mo_restores1_21 rfl (by decide) ?_
    refine wp_dup2 24 d_Mo_restores1_23 rfl rfl rfl ?_
    refine wp_iaload 25 d_Mo_restores1_24 rfl rfl (vp_in_nI (n := 6) (N := 2332) (by omega) (by omega)) ?_
    rw [show m_at (6 : Int32).toNatClampNeg = t.sk from V.sk]
    refine wp_iconst 26 1 d_Mo_restores1_25 rfl (by decide) ?_
    refine wp_iload_n 27 d_Mo_restores1_26 rfl rfl ?_
    refine wp_ishl 28 d_Mo_restores1_27 rfl ?_
    refine wp_iconst 29 (-1) d_Mo_restores1_28 rfl (by decide) ?_
    refine wp_ixor 30 d_Mo_restores1_29 rfl ?_
    refine wp_iand 31 d_Mo_restores1_30 rfl ?_
    refine wp_iastore 32 d_Mo_restores1_31 rfl rfl (vp_in_nI (n := 6) (N := 2332) (by omega) (by omega)) ?_
    refine hEq (hM (upd m_at 6 (t.sk &&& (bit l ^^^ (-1)))) m_names m_status m_top m_bottom m_sort m_trayMany m_trays m_tape m_text m_taped m_size m_token m_from m_end m_value m_faultKind m_faultPlace m_faults m_seen m_areOdds m_opened m_depth m_counted m_eastBy m_northBy m_partBy m_wayFaults m_wayEast m_wayNorth m_olds m_wayMany m_oneOfSet m_twoOfSet m_farBy m_rowBy m_triedBy m_rowMany m_doneAt m_gotAt m_struckAt m_bestDeed m_misBy m_drawn m_ranSteps m_loops m_ran m_told1 m_isTold m_marks) rfl ?_
    refine wp_iconst 33 1 d_Mo_restores1_32 rfl (by decide) ?_
    refine wp_zreturn d_Mo_restores1_33 rfl (by first | rfl | exact nbP _) ?_
    exact hq1 h12
  · refine wp_iconst 16 0 d_Mo_restores1_15 rfl (by decide) ?_
    refine wp_zreturn d_Mo_restores1_16 rfl (by first | rfl | exact nbP _) ?_
    exact hq0 h12

end T80
