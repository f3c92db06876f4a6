/-! ===== the reference: what is done, 4 ===== -/
def paU (a : Nat → Int32) (l : Nat) (w p q e n : Int32) : Nat → Int32 := upd (upd (upd (upd (upd (upd a 2 (nI (l + 1))) (22 + 5 * l) w) (22 + 5 * l + 1) p) (22 + 5 * l + 2) q) (22 + 5 * l + 3) e) (22 + 5 * l + 4) n
theorem paU_ne {a : Nat → Int32} {l : Nat} {w p q e n : Int32} {j : Nat} (h : ¬ j = 2) (h2 : j < 22 + 5 * l ∨ 26 + 5 * l < j) : paU a l w p q e n j = a j := by
  unfold paU
  rw [upd_ne (by omega), upd_ne (by omega), upd_ne (by omega), upd_ne (by omega), upd_ne (by omega), upd_ne h]
theorem vp_upd {f : Nat → Int32} {k N : Nat} {v : Int32} (h : ∀ j, vp_in (f j) N) (hv : vp_in v N) : ∀ j, vp_in (upd f k v j) N := fun j => by
  by_cases e : j = k
  · rw [e, upd_at]; exact hv
  · rw [upd_ne e]; exact h j
theorem vT_pa {a t} (V : vT a t) {w p q e n : Int32} (hl : t.nL < 12) (hw : inR w (nI t.nW)) (hp : isTw t p q) (he : isPa e) (hn : isPa n) : vT (paU a t.nL w p q e n) (paT t w p q e n) := by
  have hP := V.ok.hP
  have hW := V.ok.hW
  refine ⟨⟨?_, ?_, ?_, ?_, ?_, ?_, ?_⟩, fun k hk => ?_, fun m hm => ?_, ⟨V.ok.hP, V.ok.hW, hl, vp_upd V.ok.te (inR_in hw hW (by omega)), vp_upd V.ok.fr (inR_in hp.1 hP (by omega)), vp_upd V.ok.to_ (inR_in hp.2.1 hP (by omega))⟩, ⟨fun m hm => ?_, V.in_.2.1, V.in_.2.2.1, V.in_.2.2.2.1, fun m hm => ?_⟩⟩
  · rw [paU_ne (by omega) (by omega)]; exact V.P
  · rw [paU_ne (by omega) (by omega)]; exact V.W
  · unfold paU; rw [upd_ne (by omega), upd_ne (by omega), upd_ne (by omega), upd_ne (by omega), upd_ne (by omega), upd_at]; rfl
  · rw [paU_ne (by omega) (by omega)]; exact V.od
  · rw [paU_ne (by omega) (by omega)]; exact V.sd
  · rw [paU_ne (by omega) (by omega)]; exact V.go
  · rw [paU_ne (by omega) (by omega)]; exact V.sk
  · have hk' : k < 4 := Nat.lt_of_lt_of_le hk hW
    rw [paU_ne (by omega) (by omega), paU_ne (by omega) (by omega), paU_ne (by omega) (by omega)]; exact V.wk hk
  · show _ = upd t.te t.nL w m ∧ _ = upd t.fr t.nL p m ∧ _ = upd t.to_ t.nL q m ∧ _ = upd (upd t.ea t.nL 0) t.nL e m ∧ _ = upd (upd t.no t.nL 0) t.nL n m
    by_cases z : m = t.nL
    · rw [z, upd_at, upd_at, upd_at, upd_at, upd_at]
      unfold paU
      refine ⟨?_, ?_, ?_, ?_, ?_⟩
      · rw [upd_ne (by omega), upd_ne (by omega), upd_ne (by omega), upd_ne (by omega), upd_at]
      · rw [upd_ne (by omega), upd_ne (by omega), upd_ne (by omega), show 23 + 5 * t.nL = 22 + 5 * t.nL + 1 by omega, upd_at]
      · rw [upd_ne (by omega), upd_ne (by omega), show 24 + 5 * t.nL = 22 + 5 * t.nL + 2 by omega, upd_at]
      · rw [upd_ne (by omega), show 25 + 5 * t.nL = 22 + 5 * t.nL + 3 by omega, upd_at]
      · rw [show 26 + 5 * t.nL = 22 + 5 * t.nL + 4 by omega, upd_at]
    · have hm2 : m < t.nL := by
        have : m < t.nL + 1 := hm
        omega
      rw [upd_ne z, upd_ne z, upd_ne z, upd_ne z, upd_ne z, upd_ne z, upd_ne z, paU_ne (by omega) (by omega), paU_ne (by omega) (by omega), paU_ne (by omega) (by omega), paU_ne (by omega) (by omega), paU_ne (by omega) (by omega)]
      exact V.leg hm2
  · show inR (upd t.te t.nL w m) _ ∧ inR (upd t.fr t.nL p m) _ ∧ inR (upd t.to_ t.nL q m) _ ∧ ¬ upd t.fr t.nL p m = upd t.to_ t.nL q m
    by_cases z : m = t.nL
    · rw [z, upd_at, upd_at, upd_at]; exact ⟨hw, hp.1, hp.2.1, hp.2.2⟩
    · rw [upd_ne z, upd_ne z, upd_ne z]
      exact V.in_.1 m (by have : m < t.nL + 1 := hm; omega)
  · show isPa (upd (upd t.ea t.nL 0) t.nL e m) ∧ isPa (upd (upd t.no t.nL 0) t.nL n m)
    by_cases z : m = t.nL
    · rw [z, upd_at, upd_at]; exact ⟨he, hn⟩
    · rw [upd_ne z, upd_ne z, upd_ne z, upd_ne z]
      exact V.in_.2.2.2.2 m (by have : m < t.nL + 1 := hm; omega)
def seU (a : Nat → Int32) (p : Nat) : Nat → Int32 := upd (if p = 0 then upd a 4 0 else a) 0 (nI (p + 1))
theorem seU_ne {a : Nat → Int32} {p j : Nat} (h : ¬ j = 0) (h2 : ¬ j = 4) : seU a p j = a j := by
  unfold seU
  rw [upd_ne h]
  split
  · exact upd_ne h2
  · rfl
theorem inR_up {x : Int32} {n : Nat} (h : inR x (nI n)) (hn : n < 1000) : inR x (nI (n + 1)) := by
  obtain ⟨i, hi, rfl⟩ := inR_ex h (by omega)
  exact inR_N (by omega) (by omega)
theorem vT_se {a t} (V : vT a t) (hp : t.nP < 7) {nm : Int64} : vT (seU a t.nP) (aP t nm) := by
  have hup : ∀ {x : Int32}, inR x (nI t.nP) → inR x (nI (t.nP + 1)) := fun h => inR_up h (by omega)
  refine ⟨⟨upd_at, ?_, ?_, ?_, ?_, ?_, ?_⟩, fun k hk => ?_, fun m hm => ?_, ⟨hp, V.ok.hW, V.ok.hL, V.ok.te, V.ok.fr, V.ok.to_⟩, ⟨fun m hm => ?_, V.in_.2.1, ?_, V.in_.2.2.2⟩⟩
  · rw [seU_ne (by omega) (by omega)]; exact V.W
  · rw [seU_ne (by omega) (by omega)]; exact V.L
  · rw [seU_ne (by omega) (by omega)]; exact V.od
  · show _ = if t.nP = 0 then 0 else t.sd
    unfold seU
    rw [upd_ne (by omega)]
    by_cases z : t.nP = 0
    · rw [if_pos z, if_pos z]; exact upd_at
    · rw [if_neg z, if_neg z]; exact V.sd
  · rw [seU_ne (by omega) (by omega)]; exact V.go
  · rw [seU_ne (by omega) (by omega)]; exact V.sk
  · rw [seU_ne (by omega) (by omega), seU_ne (by omega) (by omega), seU_ne (by omega) (by omega)]; exact V.wk hk
  · rw [seU_ne (by omega) (by omega), seU_ne (by omega) (by omega), seU_ne (by omega) (by omega), seU_ne (by omega) (by omega), seU_ne (by omega) (by omega)]; exact V.leg hm
  · obtain ⟨q1, q2, q3, q4⟩ := V.in_.1 m hm
    exact ⟨q1, hup q2, hup q3, q4⟩
  · show (if t.nP = 0 then 0 else t.sd) = -1 ∨ inR (if t.nP = 0 then 0 else t.sd) (nI (t.nP + 1))
    by_cases z : t.nP = 0
    · rw [if_pos z]; exact Or.inr (inR_N (l := 0) (by omega) (by omega))
    · rw [if_neg z]; exact V.in_.2.2.1.imp id hup
section T83
variable {Γ : Gm} {Q : Option Value → LH → Prop} {m_at m_sort m_trayMany m_tape m_text m_opened m_eastBy m_northBy m_partBy m_wayFaults m_wayEast m_wayNorth m_olds m_farBy m_rowBy m_triedBy m_doneAt m_gotAt m_struckAt m_bestDeed m_loops m_ran m_told1 : Nat → Int32} {m_names m_trays m_misBy : Nat → Int64} {m_status m_taped m_size m_token m_from m_end m_value m_faultKind m_faultPlace m_faults m_seen m_areOdds m_depth m_counted m_wayMany m_oneOfSet m_twoOfSet m_rowMany m_drawn m_ranSteps m_isTold m_marks : Int32} {m_top m_bottom : Int64} {t : TW}
set_option maxRecDepth 100000 in
set_option maxHeartbeats 4000000 in
theorem c_Mo_believes {w : Nat} {f : Int32} (hw : w < 4) (hq : Q none (hM (beU m_at w f) m_names m_status m_top m_bottom m_sort m_trayMany m_trays m_tape m_text m_taped m_size m_token m_from m_end m_value m_faultKind m_faultPlace m_faults m_seen m_areOdds m_opened m_depth m_counted m_eastBy m_northBy m_partBy m_wayFaults m_wayEast m_wayNorth m_olds m_wayMany m_oneOfSet m_twoOfSet m_farBy m_rowBy m_triedBy m_rowMany m_doneAt m_gotAt m_struckAt m_bestDeed m_misBy m_drawn m_ranSteps m_loops m_ran m_told1 m_isTold m_marks)) : Call Γ M_Mo_believes 2 0 0 [.ref 0, .int (nI w), .int f] (hM m_at m_names m_status m_top m_bottom m_sort m_trayMany m_trays m_tape m_text m_taped m_size m_token m_from m_end m_value m_faultKind m_faultPlace m_faults m_seen m_areOdds m_opened m_depth m_counted m_eastBy m_northBy m_partBy m_wayFaults m_wayEast m_wayNorth m_olds m_wayMany m_oneOfSet m_twoOfSet m_farBy m_rowBy m_triedBy m_rowMany m_doneAt m_gotAt m_struckAt m_bestDeed m_misBy m_drawn m_ranSteps m_loops m_ran m_told1 m_isTold m_marks) Q := by
  refine call_intro (ls := [some (.ref 0), some (.int (nI w)), some (.int f), none]) rfl rfl rfl ?_
  refine wp_iload_n 1 d_Mo_believes_0 rfl rfl ?_
  refine wp_S1 4 M_Mo_walkerRow 1 d_Mo_believes_1 rfl ms_Mo_walkerRow lk_Mo_216 rfl rfl ?_
  refine c_Mo_walkerRow ?_
  refine kI ?_
  refine wp_istore_3 5 d_Mo_believes_4 rfl rfl rfl ?_
  refine wp_aload_n 6 d_Mo_believes_5 rfl rfl ?_
  refine wp_getfield 9 12 0 d_Mo_believes_6 rfl fl_Mo_7 rfl rfl ?_
  refine wp_iload_n 10 d_Mo_believes_9 rfl rfl ?_
  refine wp_iload_n 11 d_Mo_believes_10 rfl rfl ?_
  refine wp_iconst 12 4 d_Mo_believes_11 rfl (by decide) ?_
  refine wp_irem 13 d_Mo_believes_12 rfl (by decide) ?_
  refine wp_iastoreN 14 d_Mo_believes_13 rfl rfl rfl (by omega) ?_
  refine hEq (hM (upd m_at (10 + 3 * w) (tB f)) m_names m_status m_top m_bottom m_sort m_trayMany m_trays m_tape m_text m_taped m_size m_token m_from m_end m_value m_faultKind m_faultPlace m_faults m_seen m_areOdds m_opened m_depth m_counted m_eastBy m_northBy m_partBy m_wayFaults m_wayEast m_wayNorth m_olds m_wayMany m_oneOfSet m_twoOfSet m_farBy m_rowBy m_triedBy m_rowMany m_doneAt m_gotAt m_struckAt m_bestDeed m_misBy m_drawn m_ranSteps m_loops m_ran m_told1 m_isTold m_marks) rfl ?_
  refine wp_aload_n 15 d_Mo_believes_14 rfl rfl ?_
  refine wp_getfield 18 12 0 d_Mo_believes_15 rfl fl_Mo_7 rfl rfl ?_
  refine wp_iload_n 19 d_Mo_believes_18 rfl rfl ?_
  refine wp_iconst 20 1 d_Mo_believes_19 rfl (by decide) ?_
  refine wp_iadd 21 d_Mo_believes_20 rfl ?_
  rw [nI_1]
  refine wp_iload_n 22 d_Mo_believes_21 rfl rfl ?_
  refine wp_iconst 23 4 d_Mo_believes_22 rfl (by decide) ?_
  refine wp_idiv 24 d_Mo_believes_23 rfl (by decide) ?_
  refine wp_iconst 25 2 d_Mo_believes_24 rfl (by decide) ?_
  refine wp_irem 26 d_Mo_believes_25 rfl (by decide) ?_
  refine wp_iastoreN 27 d_Mo_believes_26 rfl rfl rfl (by omega) ?_
  refine hEq (hM (upd (upd m_at (10 + 3 * w) (tB f)) (10 + 3 * w + 1) (lB f)) m_names m_status m_top m_bottom m_sort m_trayMany m_trays m_tape m_text m_taped m_size m_token m_from m_end m_value m_faultKind m_faultPlace m_faults m_seen m_areOdds m_opened m_depth m_counted m_eastBy m_northBy m_partBy m_wayFaults m_wayEast m_wayNorth m_olds m_wayMany m_oneOfSet m_twoOfSet m_farBy m_rowBy m_triedBy m_rowMany m_doneAt m_gotAt m_struckAt m_bestDeed m_misBy m_drawn m_ranSteps m_loops m_ran m_told1 m_isTold m_marks) rfl ?_
  refine wp_aload_n 28 d_Mo_believes_27 rfl rfl ?_
  refine wp_getfield 31 12 0 d_Mo_believes_28 rfl fl_Mo_7 rfl rfl ?_
  refine wp_iload_n 32 d_Mo_believes_31 rfl rfl ?_
  refine wp_iconst 33 2 d_Mo_believes_32 rfl (by decide) ?_
  refine wp_iadd 34 d_Mo_believes_33 rfl ?_
  rw [show nI (10 + 3 * w) + 2 = nI (10 + 3 * w + 2) from nI_add _ 2]
  refine wp_iconst 35 1 d_Mo_believes_34 rfl (by decide) ?_
  refine wp_iload_n 36 d_Mo_believes_35 rfl rfl ?_
  refine wp_bipush 38 8 d_Mo_believes_36 rfl (by decide) ?_
  refine wp_idiv 39 d_Mo_believes_38 rfl (by decide) ?_
  refine wp_iadd 40 d_Mo_believes_39 rfl ?_
  refine wp_iastoreN 41 d_Mo_believes_40 rfl rfl rfl (by omega) ?_
  refine hEq (hM (upd (upd (upd m_at (10 + 3 * w) (tB f)) (10 + 3 * w + 1) (lB f)) (10 + 3 * w + 2) (sB f)) m_names m_status m_top m_bottom m_sort m_trayMany m_trays m_tape m_text m_taped m_size m_token m_from m_end m_value m_faultKind m_faultPlace m_faults m_seen m_areOdds m_opened m_depth m_counted m_eastBy m_northBy m_partBy m_wayFaults m_wayEast m_wayNorth m_olds m_wayMany m_oneOfSet m_twoOfSet m_farBy m_rowBy m_triedBy m_rowMany m_doneAt m_gotAt m_struckAt m_bestDeed m_misBy m_drawn m_ranSteps m_loops m_ran m_told1 m_isTold m_marks) rfl ?_
  refine wp_return d_Mo_believes_41 rfl ?_
  have e : upd (upd (upd m_at (10 + 3 * w) (tB f)) (10 + 3 * w + 1) (lB f)) (10 + 3 * w + 2) (sB f) = beU m_at w f := by unfold beU; rw [show 10 + 3 * w + 1 = 11 + 3 * w by omega, show 10 + 3 * w + 2 = 12 + 3 * w by omega]
  rw [e]
  exact hq

set_option maxRecDepth 100000 in
set_option maxHeartbeats 4000000 in
theorem c_Mo_believe {w f : Int32} (V : vT m_at t) (hq : ∀ a2, vT a2 (blF t w f).2.2 → frA m_at a2 → Q (some (.int (blF t w f).1)) (hM (a2) m_names ((blF t w f).2.1) m_top m_bottom m_sort m_trayMany m_trays m_tape m_text m_taped m_size m_token m_from m_end m_value m_faultKind m_faultPlace m_faults m_seen m_areOdds m_opened m_depth m_counted m_eastBy m_northBy m_partBy m_wayFaults m_wayEast m_wayNorth m_olds m_wayMany m_oneOfSet m_twoOfSet m_farBy m_rowBy m_triedBy m_rowMany m_doneAt m_gotAt m_struckAt m_bestDeed m_misBy m_drawn m_ranSteps m_loops m_ran m_told1 m_isTold m_marks)) : Call Γ M_Mo_believe 4 0 0 [.ref 0, .int w, .int f] (hM m_at m_names m_status m_top m_bottom m_sort m_trayMany m_trays m_tape m_text m_taped m_size m_token m_from m_end m_value m_faultKind m_faultPlace m_faults m_seen m_areOdds m_opened m_depth m_counted m_eastBy m_northBy m_partBy m_wayFaults m_wayEast m_wayNorth m_olds m_wayMany m_oneOfSet m_twoOfSet m_farBy m_rowBy m_triedBy m_rowMany m_doneAt m_gotAt m_struckAt m_bestDeed m_misBy m_drawn m_ranSteps m_loops m_ran m_told1 m_isTold m_marks) Q := by
  have hL12 := V.ok.hL
  have hP7 := V.ok.hP
  have hW4 := V.ok.hW
  refine call_intro (ls := [some (.ref 0), some (.int w), some (.int f), none]) rfl rfl rfl ?_
  refine wp_aload_n 1 d_Mo_believe_0 rfl rfl ?_
  refine wp_iload_n 2 d_Mo_believe_1 rfl rfl ?_
  refine wp_V1 5 M_Mo_isWalker 1 d_Mo_believe_2 rfl mv_Mo_isWalker lk_Mo_340 rfl rfl rfl rfl rfl ?_
  refine c_Mo_isWalker V ?_
  refine kI ?_
  (first | refine wp_ifP_eq 20 8 d_Mo_believe_5 rfl (by decide) (fun h5 => ?_) (fun h5 => ?_) | refine wp_if_eq 20 8 d_Mo_believe_5 rfl (by decide) (fun h5 => ?_) (fun h5 => ?_))
  · refine wp_aload_n 21 d_Mo_believe_20 rfl rfl ?_
    refine wp_iconst 22 1 d_Mo_believe_21 rfl (by decide) ?_
    refine wp_V1 25 M_Mo_refuse 1 d_Mo_believe_22 rfl mv_Mo_refuse lk_Mo_111 rfl rfl rfl rfl rfl ?_
    refine c_Mo_refuse ?_
    refine kI ?_
    refine wp_ireturn d_Mo_believe_25 rfl ?_
    have e : (blF t w f) = _ := (if_neg (fun z => h5 z.1))
    rw [e] at hq
    exact hq m_at (V) (frA.rf)
  · refine wp_iload_n 9 d_Mo_believe_8 rfl rfl ?_
    refine wp_i2l 10 d_Mo_believe_9 rfl ?_
    refine wp_lconst 11 0 d_Mo_believe_10 rfl (by decide) ?_
    refine wp_ldc2 14 (23 : Int64) d_Mo_believe_11 rfl ct_Mo_369 ?_
    refine wp_S3 17 M_Mo_isFrom 1 d_Mo_believe_14 rfl ms_Mo_isFrom lk_Mo_356 rfl rfl ?_
    refine c_Mo_isFrom ?_
    refine kI ?_
    (first | refine wp_ifP_ne 26 20 d_Mo_believe_17 rfl (by decide) (fun h17 => ?_) (fun h17 => ?_) | refine wp_if_ne 26 20 d_Mo_believe_17 rfl (by decide) (fun h17 => ?_) (fun h17 => ?_))
    · obtain ⟨k, hk, rfl⟩ := inR_ex h5 (by omega)
      refine wp_aload_n 27 d_Mo_believe_26 rfl rfl ?_
      refine wp_iload_n 28 d_Mo_believe_27 rfl rfl ?_
      refine wp_V1 31 M_Mo_faultOf 3 d_Mo_believe_28 rfl mv_Mo_faultOf lk_Mo_343 rfl rfl rfl rfl rfl ?_
      refine c_Mo_faultOf V h5 ?_
      refine kI ?_
      refine wp_istore_3 32 d_Mo_believe_31 rfl rfl rfl ?_
      refine wp_aload_n 33 d_Mo_believe_32 rfl rfl ?_
      refine wp_iload_n 34 d_Mo_believe_33 rfl rfl ?_
      refine wp_iload_n 35 d_Mo_believe_34 rfl rfl ?_
      refine wp_V2 38 M_Mo_believes 2 d_Mo_believe_35 rfl mv_Mo_believes lk_Mo_371 rfl rfl rfl rfl rfl ?_
      refine c_Mo_believes (by omega) ?_
      refine kV ?_
      refine wp_aload_n 39 d_Mo_believe_38 rfl rfl ?_
      refine wp_iload_n 40 d_Mo_believe_39 rfl rfl ?_
      refine wp_V1 43 M_Mo_gives 1 d_Mo_believe_40 rfl mv_Mo_gives lk_Mo_115 rfl rfl rfl rfl rfl ?_
      refine c_Mo_gives ?_
      refine kI ?_
      refine wp_ireturn d_Mo_believe_43 rfl ?_
      rw [nI_clamp (by omega : k < 2 ^ 31)]
      have e : blF t (nI k) f = (t.fa k, 0, tSf t k f) := (if_pos ⟨h5, in23.mp h17⟩).trans (by rw [nI_clamp (by omega : k < 2 ^ 31)])
      rw [e] at hq
      exact hq _ (vT_be V hk (in23.mp h17)) (((frA.rf.u (by omega) (by omega)).u (by omega) (by omega)).u (by omega) (by omega))
    · refine wp_aload_n 21 d_Mo_believe_20 rfl rfl ?_
      refine wp_iconst 22 1 d_Mo_believe_21 rfl (by decide) ?_
      refine wp_V1 25 M_Mo_refuse 1 d_Mo_believe_22 rfl mv_Mo_refuse lk_Mo_111 rfl rfl rfl rfl rfl ?_
      refine c_Mo_refuse ?_
      refine kI ?_
      refine wp_ireturn d_Mo_believe_25 rfl ?_
      have e : (blF t w f) = _ := (if_neg (fun z => h17 (in23.mpr z.2)))
      rw [e] at hq
      exact hq m_at (V) (frA.rf)

set_option maxRecDepth 100000 in
set_option maxHeartbeats 4000000 in
theorem c_Mo_tell {l e n : Int32} (V : vT m_at t) (hq : ∀ a2, vT a2 (teF t l e n).2.2 → frA m_at a2 → Q (some (.int (teF t l e n).1)) (hM (a2) m_names ((teF t l e n).2.1) m_top m_bottom m_sort m_trayMany m_trays m_tape m_text m_taped m_size m_token m_from m_end m_value m_faultKind m_faultPlace m_faults m_seen m_areOdds m_opened m_depth m_counted m_eastBy m_northBy m_partBy m_wayFaults m_wayEast m_wayNorth m_olds m_wayMany m_oneOfSet m_twoOfSet m_farBy m_rowBy m_triedBy m_rowMany m_doneAt m_gotAt m_struckAt m_bestDeed m_misBy m_drawn m_ranSteps m_loops m_ran m_told1 m_isTold m_marks)) : Call Γ M_Mo_tell 3 0 0 [.ref 0, .int l, .int e, .int n] (hM m_at m_names m_status m_top m_bottom m_sort m_trayMany m_trays m_tape m_text m_taped m_size m_token m_from m_end m_value m_faultKind m_faultPlace m_faults m_seen m_areOdds m_opened m_depth m_counted m_eastBy m_northBy m_partBy m_wayFaults m_wayEast m_wayNorth m_olds m_wayMany m_oneOfSet m_twoOfSet m_farBy m_rowBy m_triedBy m_rowMany m_doneAt m_gotAt m_struckAt m_bestDeed m_misBy m_drawn m_ranSteps m_loops m_ran m_told1 m_isTold m_marks) Q := by
  have hL12 := V.ok.hL
  have hP7 := V.ok.hP
  have hW4 := V.ok.hW
  refine call_intro (ls := [some (.ref 0), some (.int l), some (.int e), some (.int n)]) rfl rfl rfl ?_
  refine wp_aload_n 1 d_Mo_tell_0 rfl rfl ?_
  refine wp_iload_n 2 d_Mo_tell_1 rfl rfl ?_
  refine wp_V1 5 M_Mo_isLeg 1 d_Mo_tell_2 rfl mv_Mo_isLeg lk_Mo_346 rfl rfl rfl rfl rfl ?_
  refine c_Mo_isLeg V ?_
  refine kI ?_
  (first | refine wp_ifP_eq 36 8 d_Mo_tell_5 rfl (by decide) (fun h5 => ?_) (fun h5 => ?_) | refine wp_if_eq 36 8 d_Mo_tell_5 rfl (by decide) (fun h5 => ?_) (fun h5 => ?_))
  · refine wp_aload_n 37 d_Mo_tell_36 rfl rfl ?_
    refine wp_iconst 38 1 d_Mo_tell_37 rfl (by decide) ?_
    refine wp_V1 41 M_Mo_is 1 d_Mo_tell_38 rfl mv_Mo_is lk_Mo_118 rfl rfl rfl rfl rfl ?_
    refine c_Mo_is ?_
    refine kI ?_
    refine wp_zreturn d_Mo_tell_41 rfl (by first | rfl | exact nbP _) ?_
    rw [bP_f (by decide)]
    have e : (teF t l e n) = _ := (if_neg (fun z => h5 z.1))
    rw [e] at hq
    exact hq m_at (V) (frA.rf)
  · refine wp_iload_n 9 d_Mo_tell_8 rfl rfl ?_
    refine wp_i2l 10 d_Mo_tell_9 rfl ?_
    refine wp_ldc2 13 (-99 : Int64) d_Mo_tell_10 rfl ct_Mo_352 ?_
    refine wp_ldc2 16 (99 : Int64) d_Mo_tell_13 rfl ct_Mo_354 ?_
    refine wp_S3 19 M_Mo_isFrom 1 d_Mo_tell_16 rfl ms_Mo_isFrom lk_Mo_356 rfl rfl ?_
    refine c_Mo_isFrom ?_
    refine kI ?_
    (first | refine wp_ifP_eq 36 22 d_Mo_tell_19 rfl (by decide) (fun h19 => ?_) (fun h19 => ?_) | refine wp_if_eq 36 22 d_Mo_tell_19 rfl (by decide) (fun h19 => ?_) (fun h19 => ?_))
    · refine wp_aload_n 37 d_Mo_tell_36 rfl rfl ?_
      refine wp_iconst 38 1 d_Mo_tell_37 rfl (by decide) ?_
      refine wp_V1 41 M_Mo_is 1 d_Mo_tell_38 rfl mv_Mo_is lk_Mo_118 rfl rfl rfl rfl rfl ?_
      refine c_Mo_is ?_
      refine kI ?_
      refine wp_zreturn d_Mo_tell_41 rfl (by first | rfl | exact nbP _) ?_
      rw [bP_f (by decide)]
      have e : (teF t l e n) = _ := (if_neg (fun z => h19 (pa64.mpr z.2.1)))
      rw [e] at hq
      exact hq m_at (V) (frA.rf)
    · refine wp_iload_n 23 d_Mo_tell_22 rfl rfl ?_
      refine wp_i2l 24 d_Mo_tell_23 rfl ?_
      refine wp_ldc2 27 (-99 : Int64) d_Mo_tell_24 rfl ct_Mo_352 ?_
      refine wp_ldc2 30 (99 : Int64) d_Mo_tell_27 rfl ct_Mo_354 ?_
      refine wp_S3 33 M_Mo_isFrom 1 d_Mo_tell_30 rfl ms_Mo_isFrom lk_Mo_356 rfl rfl ?_
      refine c_Mo_isFrom ?_
      refine kI ?_
      (first | refine wp_ifP_ne 42 36 d_Mo_tell_33 rfl (by decide) (fun h33 => ?_) (fun h33 => ?_) | refine wp_if_ne 42 36 d_Mo_tell_33 rfl (by decide) (fun h33 => ?_) (fun h33 => ?_))
      · obtain ⟨k, hk, rfl⟩ := inR_ex h5 (by omega)
        refine wp_aload_n 43 d_Mo_tell_42 rfl rfl ?_
        refine wp_getfield 46 12 0 d_Mo_tell_43 rfl fl_Mo_7 rfl rfl ?_
        refine wp_iload_n 47 d_Mo_tell_46 rfl rfl ?_
        refine wp_S1 50 M_Mo_legRow 1 d_Mo_tell_47 rfl ms_Mo_legRow lk_Mo_226 rfl rfl ?_
        refine c_Mo_legRow ?_
        refine kI ?_
        refine wp_iconst 51 3 d_Mo_tell_50 rfl (by decide) ?_
        refine wp_iadd 52 d_Mo_tell_51 rfl ?_
        rw [show nI (22 + 5 * k) + 3 = nI (25 + 5 * k) from by rw [show (3 : Int32) = nI 3 from rfl, nI_add]; congr 1; omega]
        refine wp_iload_n 53 d_Mo_tell_52 rfl rfl ?_
        refine wp_iastoreN 54 d_Mo_tell_53 rfl rfl rfl (by omega) ?_
        refine hEq (hM (upd m_at (25 + 5 * k) e) m_names m_status m_top m_bottom m_sort m_trayMany m_trays m_tape m_text m_taped m_size m_token m_from m_end m_value m_faultKind m_faultPlace m_faults m_seen m_areOdds m_opened m_depth m_counted m_eastBy m_northBy m_partBy m_wayFaults m_wayEast m_wayNorth m_olds m_wayMany m_oneOfSet m_twoOfSet m_farBy m_rowBy m_triedBy m_rowMany m_doneAt m_gotAt m_struckAt m_bestDeed m_misBy m_drawn m_ranSteps m_loops m_ran m_told1 m_isTold m_marks) rfl ?_
        refine wp_aload_n 55 d_Mo_tell_54 rfl rfl ?_
        refine wp_getfield 58 12 0 d_Mo_tell_55 rfl fl_Mo_7 rfl rfl ?_
        refine wp_iload_n 59 d_Mo_tell_58 rfl rfl ?_
        refine wp_S1 62 M_Mo_legRow 1 d_Mo_tell_59 rfl ms_Mo_legRow lk_Mo_226 rfl rfl ?_
        refine c_Mo_legRow ?_
        refine kI ?_
        refine wp_iconst 63 4 d_Mo_tell_62 rfl (by decide) ?_
        refine wp_iadd 64 d_Mo_tell_63 rfl ?_
        rw [show nI (22 + 5 * k) + 4 = nI (26 + 5 * k) from by rw [show (4 : Int32) = nI 4 from rfl, nI_add]; congr 1; omega]
        refine wp_iload_n 65 d_Mo_tell_64 rfl rfl ?_
        refine wp_iastoreN 66 d_Mo_tell_65 rfl rfl rfl (by omega) ?_
        refine hEq (hM (teU m_at k e n) m_names m_status m_top m_bottom m_sort m_trayMany m_trays m_tape m_text m_taped m_size m_token m_from m_end m_value m_faultKind m_faultPlace m_faults m_seen m_areOdds m_opened m_depth m_counted m_eastBy m_northBy m_partBy m_wayFaults m_wayEast m_wayNorth m_olds m_wayMany m_oneOfSet m_twoOfSet m_farBy m_rowBy m_triedBy m_rowMany m_doneAt m_gotAt m_struckAt m_bestDeed m_misBy m_drawn m_ranSteps m_loops m_ran m_told1 m_isTold m_marks) rfl ?_
        refine wp_aload_n 67 d_Mo_tell_66 rfl rfl ?_
        refine wp_iconst 68 0 d_Mo_tell_67 rfl (by decide) ?_
        refine wp_V1 71 M_Mo_is 1 d_Mo_tell_68 rfl mv_Mo_is lk_Mo_118 rfl rfl rfl rfl rfl ?_
        refine c_Mo_is ?_
        refine kI ?_
        refine wp_zreturn d_Mo_tell_71 rfl (by first | rfl | exact nbP _) ?_
        rw [bP_t rfl]
        have e_ : teF t (nI k) e n = (1, 0, teT t k e n) := (if_pos ⟨h5, pa64.mp h19, pa64.mp h33⟩).trans (by rw [nI_clamp (by omega : k < 2 ^ 31)])
        rw [e_] at hq
        exact hq _ (vT_te V hk (pa64.mp h19) (pa64.mp h33)) ((frA.rf.u (by omega) (by omega)).u (by omega) (by omega))
      · refine wp_aload_n 37 d_Mo_tell_36 rfl rfl ?_
        refine wp_iconst 38 1 d_Mo_tell_37 rfl (by decide) ?_
        refine wp_V1 41 M_Mo_is 1 d_Mo_tell_38 rfl mv_Mo_is lk_Mo_118 rfl rfl rfl rfl rfl ?_
        refine c_Mo_is ?_
        refine kI ?_
        refine wp_zreturn d_Mo_tell_41 rfl (by first | rfl | exact nbP _) ?_
        rw [bP_f (by decide)]
        have e : (teF t l e n) = _ := (if_neg (fun z => h33 (pa64.mpr z.2.2)))
        rw [e] at hq
        exact hq m_at (V) (frA.rf)

end T83
