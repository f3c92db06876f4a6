/-! ===== finding a name: both sides ===== -/
theorem ffind_q {p q : Nat → Prop} [DecidablePred p] [DecidablePred q] : ∀ (n i : Nat), (∀ j, i ≤ j → j < i + n → (p j ↔ q j)) → ffind p i n = ffind q i n
  | 0, _, _ => rfl
  | n + 1, i, h => by
    have ih := ffind_q n (i + 1) (fun j h1 h2 => h j (by omega) (by omega))
    show (if p i then nI i else ffind p (i + 1) n) = (if q i then nI i else ffind q (i + 1) n)
    by_cases c : p i
    · rw [if_pos c, if_pos ((h i (by omega) (by omega)).mp c)]
    · rw [if_neg c, if_neg (fun z => c ((h i (by omega) (by omega)).mpr z)), ih]
theorem fn_link {pn n : Nat → Int64} {x y : Int64} {u v : Nat} (hN : ∀ k, k < v → NR (pn k) (n (u + k))) (h : NR x y) : ffind (fun j => pn j = x) 0 v = ffind (fun k => n (u + k) = y) 0 v :=
  ffind_q v 0 (fun j _ hj => NR_eq (hN j (by omega)) h)
