/-! ===== a callee that changes nothing ===== -/
theorem putH_same {sl : List Nat} {h hl : LH} (S : Sub sl h hl) : putH (sg sl) h 0 hl = h := by
  have hlt : ∀ i, i < hl.length → sg sl (0 + i) < h.length := by
    intro i hi
    rw [Nat.zero_add]
    exact (List.getElem?_eq_some_iff.mp (S.2.2 i hl[i] (List.getElem?_eq_getElem hi))).1
  have hinj : ∀ i j, i < hl.length → j < hl.length → sg sl (0 + i) = sg sl (0 + j) → i = j := by
    intro i j hi hj e
    rw [Nat.zero_add, Nat.zero_add] at e
    exact sg_inj S.1 (by rw [S.2.1]; omega) (by rw [S.2.1]; omega) e
  have hon := putH_on (sg sl) hl h 0 hinj hlt
  apply List.ext_getElem?
  intro j
  by_cases hex : ∃ i, i < hl.length ∧ sg sl (0 + i) = j
  · obtain ⟨i, hi, rfl⟩ := hex
    rw [hon i hi, List.getElem?_eq_getElem hi, Option.map_some, Nat.zero_add, S.2.2 i hl[i] (List.getElem?_eq_getElem hi)]
  · exact putH_off (sg sl) hl h 0 j (fun i hi e => hex ⟨i, hi, e⟩)
section R9
variable {Γ : Gm} {μ : MI} {d cb sb : Nat} {h hl : LH} {sl : List Nat} {q : Nat} {ls : Lo} {st : List Value} {Q : Option Value → LH → Prop}
theorem sIr {x : Int32} (hs1 : subB sl = true) (hs2 : sl.map (fun a => h[a]?) = hl.map (fun c => some (rC (sg sl) c))) (k : WP Γ μ d cb sb h q ls (.int x :: st) Q) : Ksub Γ μ d cb sb q h sl ls st Q (some (.int x)) hl := by
  show WP Γ μ d cb sb (putH (sg sl) h 0 hl) q ls (.int x :: st) Q
  rw [putH_same (Sub.of hs1 hs2)]; exact k
theorem sLr {x : Int64} (hs1 : subB sl = true) (hs2 : sl.map (fun a => h[a]?) = hl.map (fun c => some (rC (sg sl) c))) (k : WP Γ μ d cb sb h q ls (.long x :: st) Q) : Ksub Γ μ d cb sb q h sl ls st Q (some (.long x)) hl := by
  show WP Γ μ d cb sb (putH (sg sl) h 0 hl) q ls (.long x :: st) Q
  rw [putH_same (Sub.of hs1 hs2)]; exact k
theorem sVr (hs1 : subB sl = true) (hs2 : sl.map (fun a => h[a]?) = hl.map (fun c => some (rC (sg sl) c))) (k : WP Γ μ d cb sb h q ls st Q) : Ksub Γ μ d cb sb q h sl ls st Q none hl := by
  show WP Γ μ d cb sb (putH (sg sl) h 0 hl) q ls st Q
  rw [putH_same (Sub.of hs1 hs2)]; exact k
end R9
/-- the first place below n of a kind, or 0 -/
def ffind0 (p : Nat → Prop) [DecidablePred p] : Nat → Nat → Int32
  | _, 0 => 0
  | i, n + 1 => if p i then nI i else ffind0 p (i + 1) n
theorem upd_ltc {f g : Nat → Int32} {i : Nat} {p : Nat → Prop} [DecidablePred p] (hp : p i) : upd (fun j => if j < i ∧ p j then f j else g j) i (f i) = fun j => if j < i + 1 ∧ p j then f j else g j := by
  funext j
  unfold upd
  by_cases h : j = i
  · subst h; simp [hp]
  · by_cases h2 : j < i
    · simp [h, h2, Nat.lt_succ_of_lt h2]
    · have : ¬ j < i + 1 := by omega
      simp [h, h2, this]
theorem upd_ltn {f g : Nat → Int32} {i : Nat} {p : Nat → Prop} [DecidablePred p] (hp : ¬ p i) : (fun j => if j < i ∧ p j then f j else g j) = fun j => if j < i + 1 ∧ p j then f j else g j := by
  funext j
  by_cases h : j = i
  · subst h; simp [hp]
  · by_cases h2 : j < i
    · simp [h2, Nat.lt_succ_of_lt h2]
    · have : ¬ j < i + 1 := by omega
      simp [h2, this]
