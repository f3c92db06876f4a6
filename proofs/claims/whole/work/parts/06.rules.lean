/-! ===== ENGINE 3: a rule an instruction ===== -/
section R3
variable {Γ : Gm} {μ : MI} {d cb sb : Nat} {h : LH} {pc : Nat} {ls : Lo} {st : List Value} {Q : Option Value → LH → Prop}
theorem wp_iconst (q : Nat) {n : Int} (v : Int32) (hd : decode μ.2.1 pc = .ok (.iconst n, 1)) (hp : pc + 1 = q) (hv : Int32.ofInt n = v) (k : WP Γ μ d cb sb h q ls (.int v :: st) Q) : WP Γ μ d cb sb h pc ls st Q := by
  subst hp
  intro p l e R s m args below meth c H locs cells slots A ρ ρ0 n0 mc ms lsr F D
  exact lv_iconst F.1 F.2.1 hd hv (k _ _ _ _ _ _ _ _ _ _ _ _ _ _ _ _ _ _ _ _ _ F D)
theorem wp_bipush (q : Nat) {n : Int} (v : Int32) (hd : decode μ.2.1 pc = .ok (.bipush n, 2)) (hp : pc + 2 = q) (hv : (Int8.ofInt n).toInt32 = v) (k : WP Γ μ d cb sb h q ls (.int v :: st) Q) : WP Γ μ d cb sb h pc ls st Q := by
  subst hp
  intro p l e R s m args below meth c H locs cells slots A ρ ρ0 n0 mc ms lsr F D
  exact lv_bipush F.1 F.2.1 hd hv (k _ _ _ _ _ _ _ _ _ _ _ _ _ _ _ _ _ _ _ _ _ F D)
theorem wp_sipush (q : Nat) {n : Int} (v : Int32) (hd : decode μ.2.1 pc = .ok (.sipush n, 3)) (hp : pc + 3 = q) (hv : (Int16.ofInt n).toInt32 = v) (k : WP Γ μ d cb sb h q ls (.int v :: st) Q) : WP Γ μ d cb sb h pc ls st Q := by
  subst hp
  intro p l e R s m args below meth c H locs cells slots A ρ ρ0 n0 mc ms lsr F D
  exact lv_sipush F.1 F.2.1 hd hv (k _ _ _ _ _ _ _ _ _ _ _ _ _ _ _ _ _ _ _ _ _ F D)
theorem wp_lconst (q : Nat) {n : Fin 2} (v : Int64) (hd : decode μ.2.1 pc = .ok (.lconst n, 1)) (hp : pc + 1 = q) (hv : Int64.ofNat (n : Nat) = v) (k : WP Γ μ d cb sb h q ls (.long v :: st) Q) : WP Γ μ d cb sb h pc ls st Q := by
  subst hp
  intro p l e R s m args below meth c H locs cells slots A ρ ρ0 n0 mc ms lsr F D
  exact lv_lconst F.1 F.2.1 hd hv (k _ _ _ _ _ _ _ _ _ _ _ _ _ _ _ _ _ _ _ _ _ F D)
theorem wp_iload_n (q : Nat) {i : Fin 4} {x : Int32} (hd : decode μ.2.1 pc = .ok (.iload_n i, 1)) (hp : pc + 1 = q) (hl : ls[(i : Nat)]? = some (some (.int x))) (k : WP Γ μ d cb sb h q ls (.int x :: st) Q) : WP Γ μ d cb sb h pc ls st Q := by
  subst hp
  intro p l e R s m args below meth c H locs cells slots A ρ ρ0 n0 mc ms lsr F D
  exact lv_iload_n F.1 F.2.1 hd rfl (lo_at D.2.2.2.1 hl) (k _ _ _ _ _ _ _ _ _ _ _ _ _ _ _ _ _ _ _ _ _ F D)
theorem wp_iload (q : Nat) {i : Nat} {x : Int32} (hd : decode μ.2.1 pc = .ok (.iload i, 2)) (hp : pc + 2 = q) (hl : ls[i]? = some (some (.int x))) (k : WP Γ μ d cb sb h q ls (.int x :: st) Q) : WP Γ μ d cb sb h pc ls st Q := by
  subst hp
  intro p l e R s m args below meth c H locs cells slots A ρ ρ0 n0 mc ms lsr F D
  exact lv_iload F.1 F.2.1 hd (lo_at D.2.2.2.1 hl) (k _ _ _ _ _ _ _ _ _ _ _ _ _ _ _ _ _ _ _ _ _ F D)
theorem wp_lload_n (q : Nat) {i : Fin 4} {x : Int64} (hd : decode μ.2.1 pc = .ok (.lload_n i, 1)) (hp : pc + 1 = q) (hl : ls[(i : Nat)]? = some (some (.long x))) (k : WP Γ μ d cb sb h q ls (.long x :: st) Q) : WP Γ μ d cb sb h pc ls st Q := by
  subst hp
  intro p l e R s m args below meth c H locs cells slots A ρ ρ0 n0 mc ms lsr F D
  exact lv_lload_n F.1 F.2.1 hd rfl (lo_at D.2.2.2.1 hl) (k _ _ _ _ _ _ _ _ _ _ _ _ _ _ _ _ _ _ _ _ _ F D)
theorem wp_lload (q : Nat) {i : Nat} {x : Int64} (hd : decode μ.2.1 pc = .ok (.lload i, 2)) (hp : pc + 2 = q) (hl : ls[i]? = some (some (.long x))) (k : WP Γ μ d cb sb h q ls (.long x :: st) Q) : WP Γ μ d cb sb h pc ls st Q := by
  subst hp
  intro p l e R s m args below meth c H locs cells slots A ρ ρ0 n0 mc ms lsr F D
  exact lv_lload F.1 F.2.1 hd (lo_at D.2.2.2.1 hl) (k _ _ _ _ _ _ _ _ _ _ _ _ _ _ _ _ _ _ _ _ _ F D)
theorem wp_aload_n (q : Nat) {i : Fin 4} {x : Nat} (hd : decode μ.2.1 pc = .ok (.aload_n i, 1)) (hp : pc + 1 = q) (hl : ls[(i : Nat)]? = some (some (.ref x))) (k : WP Γ μ d cb sb h q ls (.ref x :: st) Q) : WP Γ μ d cb sb h pc ls st Q := by
  subst hp
  intro p l e R s m args below meth c H locs cells slots A ρ ρ0 n0 mc ms lsr F D
  exact lv_aload_n F.1 F.2.1 hd rfl (lo_at D.2.2.2.1 hl) (k _ _ _ _ _ _ _ _ _ _ _ _ _ _ _ _ _ _ _ _ _ F D)
theorem wp_aload (q : Nat) {i : Nat} {x : Nat} (hd : decode μ.2.1 pc = .ok (.aload i, 2)) (hp : pc + 2 = q) (hl : ls[i]? = some (some (.ref x))) (k : WP Γ μ d cb sb h q ls (.ref x :: st) Q) : WP Γ μ d cb sb h pc ls st Q := by
  subst hp
  intro p l e R s m args below meth c H locs cells slots A ρ ρ0 n0 mc ms lsr F D
  exact lv_aload F.1 F.2.1 hd (lo_at D.2.2.2.1 hl) (k _ _ _ _ _ _ _ _ _ _ _ _ _ _ _ _ _ _ _ _ _ F D)
theorem wp_iadd (q : Nat) {x y : Int32} (hd : decode μ.2.1 pc = .ok (.iadd, 1)) (hp : pc + 1 = q)  (k : WP Γ μ d cb sb h q ls (.int (x + y) :: st) Q) : WP Γ μ d cb sb h pc ls (.int y :: .int x :: st) Q := by
  subst hp
  intro p l e R s m args below meth c H locs cells slots A ρ ρ0 n0 mc ms lsr F D
  exact lv_iadd F.1 F.2.1 hd (k _ _ _ _ _ _ _ _ _ _ _ _ _ _ _ _ _ _ _ _ _ F D)
theorem wp_isub (q : Nat) {x y : Int32} (hd : decode μ.2.1 pc = .ok (.isub, 1)) (hp : pc + 1 = q)  (k : WP Γ μ d cb sb h q ls (.int (x - y) :: st) Q) : WP Γ μ d cb sb h pc ls (.int y :: .int x :: st) Q := by
  subst hp
  intro p l e R s m args below meth c H locs cells slots A ρ ρ0 n0 mc ms lsr F D
  exact lv_isub F.1 F.2.1 hd (k _ _ _ _ _ _ _ _ _ _ _ _ _ _ _ _ _ _ _ _ _ F D)
theorem wp_imul (q : Nat) {x y : Int32} (hd : decode μ.2.1 pc = .ok (.imul, 1)) (hp : pc + 1 = q)  (k : WP Γ μ d cb sb h q ls (.int (x * y) :: st) Q) : WP Γ μ d cb sb h pc ls (.int y :: .int x :: st) Q := by
  subst hp
  intro p l e R s m args below meth c H locs cells slots A ρ ρ0 n0 mc ms lsr F D
  exact lv_imul F.1 F.2.1 hd (k _ _ _ _ _ _ _ _ _ _ _ _ _ _ _ _ _ _ _ _ _ F D)
theorem wp_iand (q : Nat) {x y : Int32} (hd : decode μ.2.1 pc = .ok (.iand, 1)) (hp : pc + 1 = q)  (k : WP Γ μ d cb sb h q ls (.int (x &&& y) :: st) Q) : WP Γ μ d cb sb h pc ls (.int y :: .int x :: st) Q := by
  subst hp
  intro p l e R s m args below meth c H locs cells slots A ρ ρ0 n0 mc ms lsr F D
  exact lv_iand F.1 F.2.1 hd (k _ _ _ _ _ _ _ _ _ _ _ _ _ _ _ _ _ _ _ _ _ F D)
theorem wp_ior (q : Nat) {x y : Int32} (hd : decode μ.2.1 pc = .ok (.ior, 1)) (hp : pc + 1 = q)  (k : WP Γ μ d cb sb h q ls (.int (x ||| y) :: st) Q) : WP Γ μ d cb sb h pc ls (.int y :: .int x :: st) Q := by
  subst hp
  intro p l e R s m args below meth c H locs cells slots A ρ ρ0 n0 mc ms lsr F D
  exact lv_ior F.1 F.2.1 hd (k _ _ _ _ _ _ _ _ _ _ _ _ _ _ _ _ _ _ _ _ _ F D)
theorem wp_ixor (q : Nat) {x y : Int32} (hd : decode μ.2.1 pc = .ok (.ixor, 1)) (hp : pc + 1 = q)  (k : WP Γ μ d cb sb h q ls (.int (x ^^^ y) :: st) Q) : WP Γ μ d cb sb h pc ls (.int y :: .int x :: st) Q := by
  subst hp
  intro p l e R s m args below meth c H locs cells slots A ρ ρ0 n0 mc ms lsr F D
  exact lv_ixor F.1 F.2.1 hd (k _ _ _ _ _ _ _ _ _ _ _ _ _ _ _ _ _ _ _ _ _ F D)
theorem wp_ladd (q : Nat) {x y : Int64} (hd : decode μ.2.1 pc = .ok (.ladd, 1)) (hp : pc + 1 = q)  (k : WP Γ μ d cb sb h q ls (.long (x + y) :: st) Q) : WP Γ μ d cb sb h pc ls (.long y :: .long x :: st) Q := by
  subst hp
  intro p l e R s m args below meth c H locs cells slots A ρ ρ0 n0 mc ms lsr F D
  exact lv_ladd F.1 F.2.1 hd (k _ _ _ _ _ _ _ _ _ _ _ _ _ _ _ _ _ _ _ _ _ F D)
theorem wp_lsub (q : Nat) {x y : Int64} (hd : decode μ.2.1 pc = .ok (.lsub, 1)) (hp : pc + 1 = q)  (k : WP Γ μ d cb sb h q ls (.long (x - y) :: st) Q) : WP Γ μ d cb sb h pc ls (.long y :: .long x :: st) Q := by
  subst hp
  intro p l e R s m args below meth c H locs cells slots A ρ ρ0 n0 mc ms lsr F D
  exact lv_lsub F.1 F.2.1 hd (k _ _ _ _ _ _ _ _ _ _ _ _ _ _ _ _ _ _ _ _ _ F D)
theorem wp_lmul (q : Nat) {x y : Int64} (hd : decode μ.2.1 pc = .ok (.lmul, 1)) (hp : pc + 1 = q)  (k : WP Γ μ d cb sb h q ls (.long (x * y) :: st) Q) : WP Γ μ d cb sb h pc ls (.long y :: .long x :: st) Q := by
  subst hp
  intro p l e R s m args below meth c H locs cells slots A ρ ρ0 n0 mc ms lsr F D
  exact lv_lmul F.1 F.2.1 hd (k _ _ _ _ _ _ _ _ _ _ _ _ _ _ _ _ _ _ _ _ _ F D)
theorem wp_land (q : Nat) {x y : Int64} (hd : decode μ.2.1 pc = .ok (.land, 1)) (hp : pc + 1 = q)  (k : WP Γ μ d cb sb h q ls (.long (x &&& y) :: st) Q) : WP Γ μ d cb sb h pc ls (.long y :: .long x :: st) Q := by
  subst hp
  intro p l e R s m args below meth c H locs cells slots A ρ ρ0 n0 mc ms lsr F D
  exact lv_land F.1 F.2.1 hd (k _ _ _ _ _ _ _ _ _ _ _ _ _ _ _ _ _ _ _ _ _ F D)
theorem wp_lor (q : Nat) {x y : Int64} (hd : decode μ.2.1 pc = .ok (.lor, 1)) (hp : pc + 1 = q)  (k : WP Γ μ d cb sb h q ls (.long (x ||| y) :: st) Q) : WP Γ μ d cb sb h pc ls (.long y :: .long x :: st) Q := by
  subst hp
  intro p l e R s m args below meth c H locs cells slots A ρ ρ0 n0 mc ms lsr F D
  exact lv_lor F.1 F.2.1 hd (k _ _ _ _ _ _ _ _ _ _ _ _ _ _ _ _ _ _ _ _ _ F D)
theorem wp_idiv (q : Nat) {x y : Int32} (hd : decode μ.2.1 pc = .ok (.idiv, 1)) (hp : pc + 1 = q) (hne : ¬ y = 0) (k : WP Γ μ d cb sb h q ls (.int (x / y) :: st) Q) : WP Γ μ d cb sb h pc ls (.int y :: .int x :: st) Q := by
  subst hp
  intro p l e R s m args below meth c H locs cells slots A ρ ρ0 n0 mc ms lsr F D
  exact lv_idiv F.1 F.2.1 hd hne (k _ _ _ _ _ _ _ _ _ _ _ _ _ _ _ _ _ _ _ _ _ F D)
theorem wp_irem (q : Nat) {x y : Int32} (hd : decode μ.2.1 pc = .ok (.irem, 1)) (hp : pc + 1 = q) (hne : ¬ y = 0) (k : WP Γ μ d cb sb h q ls (.int (x - x / y * y) :: st) Q) : WP Γ μ d cb sb h pc ls (.int y :: .int x :: st) Q := by
  subst hp
  intro p l e R s m args below meth c H locs cells slots A ρ ρ0 n0 mc ms lsr F D
  exact lv_irem F.1 F.2.1 hd hne (k _ _ _ _ _ _ _ _ _ _ _ _ _ _ _ _ _ _ _ _ _ F D)
theorem wp_ldiv (q : Nat) {x y : Int64} (hd : decode μ.2.1 pc = .ok (.ldiv, 1)) (hp : pc + 1 = q) (hne : ¬ y = 0) (k : WP Γ μ d cb sb h q ls (.long (x / y) :: st) Q) : WP Γ μ d cb sb h pc ls (.long y :: .long x :: st) Q := by
  subst hp
  intro p l e R s m args below meth c H locs cells slots A ρ ρ0 n0 mc ms lsr F D
  exact lv_ldiv F.1 F.2.1 hd hne (k _ _ _ _ _ _ _ _ _ _ _ _ _ _ _ _ _ _ _ _ _ F D)
theorem wp_lrem (q : Nat) {x y : Int64} (hd : decode μ.2.1 pc = .ok (.lrem, 1)) (hp : pc + 1 = q) (hne : ¬ y = 0) (k : WP Γ μ d cb sb h q ls (.long (x - x / y * y) :: st) Q) : WP Γ μ d cb sb h pc ls (.long y :: .long x :: st) Q := by
  subst hp
  intro p l e R s m args below meth c H locs cells slots A ρ ρ0 n0 mc ms lsr F D
  exact lv_lrem F.1 F.2.1 hd hne (k _ _ _ _ _ _ _ _ _ _ _ _ _ _ _ _ _ _ _ _ _ F D)
theorem wp_ineg (q : Nat) {x : Int32} (hd : decode μ.2.1 pc = .ok (.ineg, 1)) (hp : pc + 1 = q)  (k : WP Γ μ d cb sb h q ls (.int (-x) :: st) Q) : WP Γ μ d cb sb h pc ls (.int x :: st) Q := by
  subst hp
  intro p l e R s m args below meth c H locs cells slots A ρ ρ0 n0 mc ms lsr F D
  exact lv_ineg F.1 F.2.1 hd (k _ _ _ _ _ _ _ _ _ _ _ _ _ _ _ _ _ _ _ _ _ F D)
theorem wp_lneg (q : Nat) {x : Int64} (hd : decode μ.2.1 pc = .ok (.lneg, 1)) (hp : pc + 1 = q)  (k : WP Γ μ d cb sb h q ls (.long (-x) :: st) Q) : WP Γ μ d cb sb h pc ls (.long x :: st) Q := by
  subst hp
  intro p l e R s m args below meth c H locs cells slots A ρ ρ0 n0 mc ms lsr F D
  exact lv_lneg F.1 F.2.1 hd (k _ _ _ _ _ _ _ _ _ _ _ _ _ _ _ _ _ _ _ _ _ F D)
theorem wp_ishl (q : Nat) {x y : Int32} (hd : decode μ.2.1 pc = .ok (.ishl, 1)) (hp : pc + 1 = q)  (k : WP Γ μ d cb sb h q ls (.int (x <<< (y &&& 31)) :: st) Q) : WP Γ μ d cb sb h pc ls (.int y :: .int x :: st) Q := by
  subst hp
  intro p l e R s m args below meth c H locs cells slots A ρ ρ0 n0 mc ms lsr F D
  exact lv_ishl F.1 F.2.1 hd (k _ _ _ _ _ _ _ _ _ _ _ _ _ _ _ _ _ _ _ _ _ F D)
theorem wp_ishr (q : Nat) {x y : Int32} (hd : decode μ.2.1 pc = .ok (.ishr, 1)) (hp : pc + 1 = q)  (k : WP Γ μ d cb sb h q ls (.int (x >>> (y &&& 31)) :: st) Q) : WP Γ μ d cb sb h pc ls (.int y :: .int x :: st) Q := by
  subst hp
  intro p l e R s m args below meth c H locs cells slots A ρ ρ0 n0 mc ms lsr F D
  exact lv_ishr F.1 F.2.1 hd (k _ _ _ _ _ _ _ _ _ _ _ _ _ _ _ _ _ _ _ _ _ F D)
theorem wp_iushr (q : Nat) {x y : Int32} (hd : decode μ.2.1 pc = .ok (.iushr, 1)) (hp : pc + 1 = q)  (k : WP Γ μ d cb sb h q ls (.int (x.toUInt32 >>> (y.toUInt32 &&& Int32.toUInt32 31)).toInt32 :: st) Q) : WP Γ μ d cb sb h pc ls (.int y :: .int x :: st) Q := by
  subst hp
  intro p l e R s m args below meth c H locs cells slots A ρ ρ0 n0 mc ms lsr F D
  exact lv_iushr F.1 F.2.1 hd rfl (k _ _ _ _ _ _ _ _ _ _ _ _ _ _ _ _ _ _ _ _ _ F D)
theorem wp_lshl (q : Nat) {x : Int64} {y : Int32} (hd : decode μ.2.1 pc = .ok (.lshl, 1)) (hp : pc + 1 = q)  (k : WP Γ μ d cb sb h q ls (.long (x <<< (y.toInt64 &&& 63)) :: st) Q) : WP Γ μ d cb sb h pc ls (.int y :: .long x :: st) Q := by
  subst hp
  intro p l e R s m args below meth c H locs cells slots A ρ ρ0 n0 mc ms lsr F D
  exact lv_lshl F.1 F.2.1 hd rfl (k _ _ _ _ _ _ _ _ _ _ _ _ _ _ _ _ _ _ _ _ _ F D)
theorem wp_i2l (q : Nat) {x : Int32} (hd : decode μ.2.1 pc = .ok (.i2l, 1)) (hp : pc + 1 = q)  (k : WP Γ μ d cb sb h q ls (.long x.toInt64 :: st) Q) : WP Γ μ d cb sb h pc ls (.int x :: st) Q := by
  subst hp
  intro p l e R s m args below meth c H locs cells slots A ρ ρ0 n0 mc ms lsr F D
  exact lv_i2l F.1 F.2.1 hd rfl (k _ _ _ _ _ _ _ _ _ _ _ _ _ _ _ _ _ _ _ _ _ F D)
theorem wp_l2i (q : Nat) {x : Int64} (hd : decode μ.2.1 pc = .ok (.l2i, 1)) (hp : pc + 1 = q)  (k : WP Γ μ d cb sb h q ls (.int x.toInt32 :: st) Q) : WP Γ μ d cb sb h pc ls (.long x :: st) Q := by
  subst hp
  intro p l e R s m args below meth c H locs cells slots A ρ ρ0 n0 mc ms lsr F D
  exact lv_l2i F.1 F.2.1 hd rfl (k _ _ _ _ _ _ _ _ _ _ _ _ _ _ _ _ _ _ _ _ _ F D)
theorem wp_i2b (q : Nat) {x : Int32} (hd : decode μ.2.1 pc = .ok (.i2b, 1)) (hp : pc + 1 = q)  (k : WP Γ μ d cb sb h q ls (.int x.toInt8.toInt32 :: st) Q) : WP Γ μ d cb sb h pc ls (.int x :: st) Q := by
  subst hp
  intro p l e R s m args below meth c H locs cells slots A ρ ρ0 n0 mc ms lsr F D
  exact lv_i2b F.1 F.2.1 hd rfl (k _ _ _ _ _ _ _ _ _ _ _ _ _ _ _ _ _ _ _ _ _ F D)
theorem wp_i2s (q : Nat) {x : Int32} (hd : decode μ.2.1 pc = .ok (.i2s, 1)) (hp : pc + 1 = q)  (k : WP Γ μ d cb sb h q ls (.int x.toInt16.toInt32 :: st) Q) : WP Γ μ d cb sb h pc ls (.int x :: st) Q := by
  subst hp
  intro p l e R s m args below meth c H locs cells slots A ρ ρ0 n0 mc ms lsr F D
  exact lv_i2s F.1 F.2.1 hd rfl (k _ _ _ _ _ _ _ _ _ _ _ _ _ _ _ _ _ _ _ _ _ F D)
theorem wp_i2c (q : Nat) {x : Int32} (hd : decode μ.2.1 pc = .ok (.i2c, 1)) (hp : pc + 1 = q)  (k : WP Γ μ d cb sb h q ls (.int (x.toUInt32 % 65536).toInt32 :: st) Q) : WP Γ μ d cb sb h pc ls (.int x :: st) Q := by
  subst hp
  intro p l e R s m args below meth c H locs cells slots A ρ ρ0 n0 mc ms lsr F D
  exact lv_i2c F.1 F.2.1 hd rfl (k _ _ _ _ _ _ _ _ _ _ _ _ _ _ _ _ _ _ _ _ _ F D)
theorem wp_lcmp (q : Nat) {x y : Int64} (hd : decode μ.2.1 pc = .ok (.lcmp, 1)) (hp : pc + 1 = q)  (k : WP Γ μ d cb sb h q ls (.int (lg_cmp x y) :: st) Q) : WP Γ μ d cb sb h pc ls (.long y :: .long x :: st) Q := by
  subst hp
  intro p l e R s m args below meth c H locs cells slots A ρ ρ0 n0 mc ms lsr F D
  exact W.lcmp F.1 F.2.1 hd (k _ _ _ _ _ _ _ _ _ _ _ _ _ _ _ _ _ _ _ _ _ F D)
theorem wp_dup (q : Nat) {v : Value} (hd : decode μ.2.1 pc = .ok (.dup, 1)) (hp : pc + 1 = q) (hv : v.category = 1) (k : WP Γ μ d cb sb h q ls (v :: v :: st) Q) : WP Γ μ d cb sb h pc ls (v :: st) Q := by
  subst hp
  intro p l e R s m args below meth c H locs cells slots A ρ ρ0 n0 mc ms lsr F D
  exact lv_dup F.1 F.2.1 hd ((eV_cat ρ v).trans hv) (k _ _ _ _ _ _ _ _ _ _ _ _ _ _ _ _ _ _ _ _ _ F D)
theorem wp_pop (q : Nat) {v : Value} (hd : decode μ.2.1 pc = .ok (.pop, 1)) (hp : pc + 1 = q) (hv : v.category = 1) (k : WP Γ μ d cb sb h q ls st Q) : WP Γ μ d cb sb h pc ls (v :: st) Q := by
  subst hp
  intro p l e R s m args below meth c H locs cells slots A ρ ρ0 n0 mc ms lsr F D
  exact lv_pop F.1 F.2.1 hd ((eV_cat ρ v).trans hv) (k _ _ _ _ _ _ _ _ _ _ _ _ _ _ _ _ _ _ _ _ _ F D)
theorem wp_dup2 (q : Nat) {v w : Value} (hd : decode μ.2.1 pc = .ok (.dup2, 1)) (hp : pc + 1 = q) (hv : v.category = 1) (hw : w.category = 1) (k : WP Γ μ d cb sb h q ls (v :: w :: v :: w :: st) Q) : WP Γ μ d cb sb h pc ls (v :: w :: st) Q := by
  subst hp
  intro p l e R s m args below meth c H locs cells slots A ρ ρ0 n0 mc ms lsr F D
  exact lv_dup2_11 F.1 F.2.1 hd ((eV_cat ρ v).trans hv) ((eV_cat ρ w).trans hw) (k _ _ _ _ _ _ _ _ _ _ _ _ _ _ _ _ _ _ _ _ _ F D)
theorem wp_dup2L (q : Nat) {v : Value} (hd : decode μ.2.1 pc = .ok (.dup2, 1)) (hp : pc + 1 = q) (hv : v.category = 2) (k : WP Γ μ d cb sb h q ls (v :: v :: st) Q) : WP Γ μ d cb sb h pc ls (v :: st) Q := by
  subst hp
  intro p l e R s m args below meth c H locs cells slots A ρ ρ0 n0 mc ms lsr F D
  exact lv_dup2_2 F.1 F.2.1 hd ((eV_cat ρ v).trans hv) (k _ _ _ _ _ _ _ _ _ _ _ _ _ _ _ _ _ _ _ _ _ F D)
theorem wp_if_eq (tgt q : Nat) {x : Int32} {off : Int} (hd : decode μ.2.1 pc = .ok (.ifCond .eq off, 3)) (hp : pc + 3 = q) (ht : (pc : Int) + off = (tgt : Int)) (kt : x = 0 → WP Γ μ d cb sb h tgt ls st Q) (kf : ¬ x = 0 → WP Γ μ d cb sb h q ls st Q) : WP Γ μ d cb sb h pc ls (.int x :: st) Q := by
  subst hp
  intro p l e R s m args below meth c H locs cells slots A ρ ρ0 n0 mc ms lsr F D
  exact lv_if_eq F.1 F.2.1 hd ht (fun z => kt z _ _ _ _ _ _ _ _ _ _ _ _ _ _ _ _ _ _ _ _ _ F D) (fun z => kf z _ _ _ _ _ _ _ _ _ _ _ _ _ _ _ _ _ _ _ _ _ F D)
theorem wp_icmp_eq (tgt q : Nat) {x y : Int32} {off : Int} (hd : decode μ.2.1 pc = .ok (.if_icmp .eq off, 3)) (hp : pc + 3 = q) (ht : (pc : Int) + off = (tgt : Int)) (kt : x = y → WP Γ μ d cb sb h tgt ls st Q) (kf : ¬ x = y → WP Γ μ d cb sb h q ls st Q) : WP Γ μ d cb sb h pc ls (.int y :: .int x :: st) Q := by
  subst hp
  intro p l e R s m args below meth c H locs cells slots A ρ ρ0 n0 mc ms lsr F D
  exact lv_icmp_eq F.1 F.2.1 hd ht (fun z => kt z _ _ _ _ _ _ _ _ _ _ _ _ _ _ _ _ _ _ _ _ _ F D) (fun z => kf z _ _ _ _ _ _ _ _ _ _ _ _ _ _ _ _ _ _ _ _ _ F D)
theorem wp_if_ne (tgt q : Nat) {x : Int32} {off : Int} (hd : decode μ.2.1 pc = .ok (.ifCond .ne off, 3)) (hp : pc + 3 = q) (ht : (pc : Int) + off = (tgt : Int)) (kt : x ≠ 0 → WP Γ μ d cb sb h tgt ls st Q) (kf : x = 0 → WP Γ μ d cb sb h q ls st Q) : WP Γ μ d cb sb h pc ls (.int x :: st) Q := by
  subst hp
  intro p l e R s m args below meth c H locs cells slots A ρ ρ0 n0 mc ms lsr F D
  exact lv_if_ne F.1 F.2.1 hd ht (fun z => kt z _ _ _ _ _ _ _ _ _ _ _ _ _ _ _ _ _ _ _ _ _ F D) (fun z => kf z _ _ _ _ _ _ _ _ _ _ _ _ _ _ _ _ _ _ _ _ _ F D)
theorem wp_icmp_ne (tgt q : Nat) {x y : Int32} {off : Int} (hd : decode μ.2.1 pc = .ok (.if_icmp .ne off, 3)) (hp : pc + 3 = q) (ht : (pc : Int) + off = (tgt : Int)) (kt : x ≠ y → WP Γ μ d cb sb h tgt ls st Q) (kf : x = y → WP Γ μ d cb sb h q ls st Q) : WP Γ μ d cb sb h pc ls (.int y :: .int x :: st) Q := by
  subst hp
  intro p l e R s m args below meth c H locs cells slots A ρ ρ0 n0 mc ms lsr F D
  exact lv_icmp_ne F.1 F.2.1 hd ht (fun z => kt z _ _ _ _ _ _ _ _ _ _ _ _ _ _ _ _ _ _ _ _ _ F D) (fun z => kf z _ _ _ _ _ _ _ _ _ _ _ _ _ _ _ _ _ _ _ _ _ F D)
theorem wp_if_lt (tgt q : Nat) {x : Int32} {off : Int} (hd : decode μ.2.1 pc = .ok (.ifCond .lt off, 3)) (hp : pc + 3 = q) (ht : (pc : Int) + off = (tgt : Int)) (kt : x < 0 → WP Γ μ d cb sb h tgt ls st Q) (kf : ¬ x < 0 → WP Γ μ d cb sb h q ls st Q) : WP Γ μ d cb sb h pc ls (.int x :: st) Q := by
  subst hp
  intro p l e R s m args below meth c H locs cells slots A ρ ρ0 n0 mc ms lsr F D
  exact lv_if_lt F.1 F.2.1 hd ht (fun z => kt z _ _ _ _ _ _ _ _ _ _ _ _ _ _ _ _ _ _ _ _ _ F D) (fun z => kf z _ _ _ _ _ _ _ _ _ _ _ _ _ _ _ _ _ _ _ _ _ F D)
theorem wp_icmp_lt (tgt q : Nat) {x y : Int32} {off : Int} (hd : decode μ.2.1 pc = .ok (.if_icmp .lt off, 3)) (hp : pc + 3 = q) (ht : (pc : Int) + off = (tgt : Int)) (kt : x < y → WP Γ μ d cb sb h tgt ls st Q) (kf : ¬ x < y → WP Γ μ d cb sb h q ls st Q) : WP Γ μ d cb sb h pc ls (.int y :: .int x :: st) Q := by
  subst hp
  intro p l e R s m args below meth c H locs cells slots A ρ ρ0 n0 mc ms lsr F D
  exact lv_icmp_lt F.1 F.2.1 hd ht (fun z => kt z _ _ _ _ _ _ _ _ _ _ _ _ _ _ _ _ _ _ _ _ _ F D) (fun z => kf z _ _ _ _ _ _ _ _ _ _ _ _ _ _ _ _ _ _ _ _ _ F D)
theorem wp_if_ge (tgt q : Nat) {x : Int32} {off : Int} (hd : decode μ.2.1 pc = .ok (.ifCond .ge off, 3)) (hp : pc + 3 = q) (ht : (pc : Int) + off = (tgt : Int)) (kt : 0 ≤ x → WP Γ μ d cb sb h tgt ls st Q) (kf : ¬ 0 ≤ x → WP Γ μ d cb sb h q ls st Q) : WP Γ μ d cb sb h pc ls (.int x :: st) Q := by
  subst hp
  intro p l e R s m args below meth c H locs cells slots A ρ ρ0 n0 mc ms lsr F D
  exact lv_if_ge F.1 F.2.1 hd ht (fun z => kt z _ _ _ _ _ _ _ _ _ _ _ _ _ _ _ _ _ _ _ _ _ F D) (fun z => kf z _ _ _ _ _ _ _ _ _ _ _ _ _ _ _ _ _ _ _ _ _ F D)
theorem wp_icmp_ge (tgt q : Nat) {x y : Int32} {off : Int} (hd : decode μ.2.1 pc = .ok (.if_icmp .ge off, 3)) (hp : pc + 3 = q) (ht : (pc : Int) + off = (tgt : Int)) (kt : y ≤ x → WP Γ μ d cb sb h tgt ls st Q) (kf : ¬ y ≤ x → WP Γ μ d cb sb h q ls st Q) : WP Γ μ d cb sb h pc ls (.int y :: .int x :: st) Q := by
  subst hp
  intro p l e R s m args below meth c H locs cells slots A ρ ρ0 n0 mc ms lsr F D
  exact lv_icmp_ge F.1 F.2.1 hd ht (fun z => kt z _ _ _ _ _ _ _ _ _ _ _ _ _ _ _ _ _ _ _ _ _ F D) (fun z => kf z _ _ _ _ _ _ _ _ _ _ _ _ _ _ _ _ _ _ _ _ _ F D)
theorem wp_if_gt (tgt q : Nat) {x : Int32} {off : Int} (hd : decode μ.2.1 pc = .ok (.ifCond .gt off, 3)) (hp : pc + 3 = q) (ht : (pc : Int) + off = (tgt : Int)) (kt : 0 < x → WP Γ μ d cb sb h tgt ls st Q) (kf : ¬ 0 < x → WP Γ μ d cb sb h q ls st Q) : WP Γ μ d cb sb h pc ls (.int x :: st) Q := by
  subst hp
  intro p l e R s m args below meth c H locs cells slots A ρ ρ0 n0 mc ms lsr F D
  exact lv_if_gt F.1 F.2.1 hd ht (fun z => kt z _ _ _ _ _ _ _ _ _ _ _ _ _ _ _ _ _ _ _ _ _ F D) (fun z => kf z _ _ _ _ _ _ _ _ _ _ _ _ _ _ _ _ _ _ _ _ _ F D)
theorem wp_icmp_gt (tgt q : Nat) {x y : Int32} {off : Int} (hd : decode μ.2.1 pc = .ok (.if_icmp .gt off, 3)) (hp : pc + 3 = q) (ht : (pc : Int) + off = (tgt : Int)) (kt : y < x → WP Γ μ d cb sb h tgt ls st Q) (kf : ¬ y < x → WP Γ μ d cb sb h q ls st Q) : WP Γ μ d cb sb h pc ls (.int y :: .int x :: st) Q := by
  subst hp
  intro p l e R s m args below meth c H locs cells slots A ρ ρ0 n0 mc ms lsr F D
  exact lv_icmp_gt F.1 F.2.1 hd ht (fun z => kt z _ _ _ _ _ _ _ _ _ _ _ _ _ _ _ _ _ _ _ _ _ F D) (fun z => kf z _ _ _ _ _ _ _ _ _ _ _ _ _ _ _ _ _ _ _ _ _ F D)
theorem wp_if_le (tgt q : Nat) {x : Int32} {off : Int} (hd : decode μ.2.1 pc = .ok (.ifCond .le off, 3)) (hp : pc + 3 = q) (ht : (pc : Int) + off = (tgt : Int)) (kt : x ≤ 0 → WP Γ μ d cb sb h tgt ls st Q) (kf : ¬ x ≤ 0 → WP Γ μ d cb sb h q ls st Q) : WP Γ μ d cb sb h pc ls (.int x :: st) Q := by
  subst hp
  intro p l e R s m args below meth c H locs cells slots A ρ ρ0 n0 mc ms lsr F D
  exact lv_if_le F.1 F.2.1 hd ht (fun z => kt z _ _ _ _ _ _ _ _ _ _ _ _ _ _ _ _ _ _ _ _ _ F D) (fun z => kf z _ _ _ _ _ _ _ _ _ _ _ _ _ _ _ _ _ _ _ _ _ F D)
theorem wp_icmp_le (tgt q : Nat) {x y : Int32} {off : Int} (hd : decode μ.2.1 pc = .ok (.if_icmp .le off, 3)) (hp : pc + 3 = q) (ht : (pc : Int) + off = (tgt : Int)) (kt : x ≤ y → WP Γ μ d cb sb h tgt ls st Q) (kf : ¬ x ≤ y → WP Γ μ d cb sb h q ls st Q) : WP Γ μ d cb sb h pc ls (.int y :: .int x :: st) Q := by
  subst hp
  intro p l e R s m args below meth c H locs cells slots A ρ ρ0 n0 mc ms lsr F D
  exact lv_icmp_le F.1 F.2.1 hd ht (fun z => kt z _ _ _ _ _ _ _ _ _ _ _ _ _ _ _ _ _ _ _ _ _ F D) (fun z => kf z _ _ _ _ _ _ _ _ _ _ _ _ _ _ _ _ _ _ _ _ _ F D)
theorem wp_goto (tgt : Nat) {off : Int} (hd : decode μ.2.1 pc = .ok (.goto off, 3)) (ht : (pc : Int) + off = (tgt : Int)) (k : WP Γ μ d cb sb h tgt ls st Q) : WP Γ μ d cb sb h pc ls st Q := by
  intro p l e R s m args below meth c H locs cells slots A ρ ρ0 n0 mc ms lsr F D
  exact lv_goto F.1 F.2.1 hd ht (k _ _ _ _ _ _ _ _ _ _ _ _ _ _ _ _ _ _ _ _ _ F D)
theorem wp_tabIn (tgt : Nat) (v : Int32) {dflt lo hi : Int} {offs : Array Int} {len : Nat} {x : Int32} {off : Int} (hd : decode μ.2.1 pc = .ok (.tableswitch dflt lo hi offs, len)) (hx : x = v) (h1 : ¬ v.toInt < lo) (h2 : ¬ hi < v.toInt) (ho : offs[(v.toInt - lo).toNat]? = some off) (ht : (pc : Int) + off = (tgt : Int)) (k : WP Γ μ d cb sb h tgt ls st Q) : WP Γ μ d cb sb h pc ls (.int x :: st) Q := by
  subst hx
  intro p l e R s m args below meth c H locs cells slots A ρ ρ0 n0 mc ms lsr F D
  exact lv_tableIn F.1 F.2.1 hd h1 h2 ho ht (k _ _ _ _ _ _ _ _ _ _ _ _ _ _ _ _ _ _ _ _ _ F D)
theorem wp_tabOut (tgt : Nat) {dflt lo hi : Int} {offs : Array Int} {len : Nat} {x : Int32} (hd : decode μ.2.1 pc = .ok (.tableswitch dflt lo hi offs, len)) (hx : x.toInt < lo ∨ hi < x.toInt) (ht : (pc : Int) + dflt = (tgt : Int)) (k : WP Γ μ d cb sb h tgt ls st Q) : WP Γ μ d cb sb h pc ls (.int x :: st) Q := by
  intro p l e R s m args below meth c H locs cells slots A ρ ρ0 n0 mc ms lsr F D
  exact lv_tableOut F.1 F.2.1 hd hx ht (k _ _ _ _ _ _ _ _ _ _ _ _ _ _ _ _ _ _ _ _ _ F D)
theorem wp_istore_n_g (q : Nat) {i : Fin 4} {x : Int32} (hd : decode μ.2.1 pc = .ok (.istore_n i, 1)) (hp : pc + 1 = q) (hn : (i : Nat) < μ.2.2.1) (ho : okSt ls (i : Nat) = true) (k : WP Γ μ d cb sb h q (ls.set (i : Nat) (some (.int x))) st Q) : WP Γ μ d cb sb h pc ls (.int x :: st) Q := by
  subst hp
  intro p l e R s m args below meth c H locs cells slots A ρ ρ0 n0 mc ms lsr F D
  exact lv_istore_n F.1 F.2.1 hd rfl D.2.2.2.1 hn rfl (fun ls2 hl2 => k _ _ _ _ _ _ _ _ _ _ _ _ _ _ _ _ _ _ _ _ _ F ⟨D.1, D.2.1, D.2.2.1, lv_mem hl2 (lo_set ho), D.2.2.2.2⟩)
theorem wp_istore_g (q : Nat) {i : Nat} {x : Int32} (hd : decode μ.2.1 pc = .ok (.istore i, 2)) (hp : pc + 2 = q) (hn : i < μ.2.2.1) (ho : okSt ls i = true) (k : WP Γ μ d cb sb h q (ls.set i (some (.int x))) st Q) : WP Γ μ d cb sb h pc ls (.int x :: st) Q := by
  subst hp
  intro p l e R s m args below meth c H locs cells slots A ρ ρ0 n0 mc ms lsr F D
  exact lv_istore F.1 F.2.1 hd D.2.2.2.1 hn rfl (fun ls2 hl2 => k _ _ _ _ _ _ _ _ _ _ _ _ _ _ _ _ _ _ _ _ _ F ⟨D.1, D.2.1, D.2.2.1, lv_mem hl2 (lo_set ho), D.2.2.2.2⟩)
theorem wp_lstore_n_g (q : Nat) {i : Fin 4} {x : Int64} (hd : decode μ.2.1 pc = .ok (.lstore_n i, 1)) (hp : pc + 1 = q) (hn : (i : Nat) + 1 < μ.2.2.1) (ho : okSt ls (i : Nat) = true) (k : WP Γ μ d cb sb h q ((ls.set (i : Nat) (some (.long x))).set ((i : Nat) + 1) none) st Q) : WP Γ μ d cb sb h pc ls (.long x :: st) Q := by
  subst hp
  intro p l e R s m args below meth c H locs cells slots A ρ ρ0 n0 mc ms lsr F D
  exact lv_lstore_n F.1 F.2.1 hd rfl D.2.2.2.1 hn rfl (fun ls2 hl2 => k _ _ _ _ _ _ _ _ _ _ _ _ _ _ _ _ _ _ _ _ _ F ⟨D.1, D.2.1, D.2.2.1, lv_mem hl2 (lo_set2 ho), D.2.2.2.2⟩)
theorem wp_lstore_g (q : Nat) {i : Nat} {x : Int64} (hd : decode μ.2.1 pc = .ok (.lstore i, 2)) (hp : pc + 2 = q) (hn : i + 1 < μ.2.2.1) (ho : okSt ls i = true) (k : WP Γ μ d cb sb h q ((ls.set i (some (.long x))).set (i + 1) none) st Q) : WP Γ μ d cb sb h pc ls (.long x :: st) Q := by
  subst hp
  intro p l e R s m args below meth c H locs cells slots A ρ ρ0 n0 mc ms lsr F D
  exact lv_lstore F.1 F.2.1 hd D.2.2.2.1 hn rfl (fun ls2 hl2 => k _ _ _ _ _ _ _ _ _ _ _ _ _ _ _ _ _ _ _ _ _ F ⟨D.1, D.2.1, D.2.2.1, lv_mem hl2 (lo_set2 ho), D.2.2.2.2⟩)
theorem wp_astore_n_g (q : Nat) {i : Fin 4} {x : Nat} (hd : decode μ.2.1 pc = .ok (.astore_n i, 1)) (hp : pc + 1 = q) (hn : (i : Nat) < μ.2.2.1) (ho : okSt ls (i : Nat) = true) (k : WP Γ μ d cb sb h q (ls.set (i : Nat) (some (.ref x))) st Q) : WP Γ μ d cb sb h pc ls (.ref x :: st) Q := by
  subst hp
  intro p l e R s m args below meth c H locs cells slots A ρ ρ0 n0 mc ms lsr F D
  exact lv_astore_n F.1 F.2.1 hd rfl D.2.2.2.1 hn rfl (fun ls2 hl2 => k _ _ _ _ _ _ _ _ _ _ _ _ _ _ _ _ _ _ _ _ _ F ⟨D.1, D.2.1, D.2.2.1, lv_mem hl2 (lo_set ho), D.2.2.2.2⟩)
theorem wp_astore_g (q : Nat) {i : Nat} {x : Nat} (hd : decode μ.2.1 pc = .ok (.astore i, 2)) (hp : pc + 2 = q) (hn : i < μ.2.2.1) (ho : okSt ls i = true) (k : WP Γ μ d cb sb h q (ls.set i (some (.ref x))) st Q) : WP Γ μ d cb sb h pc ls (.ref x :: st) Q := by
  subst hp
  intro p l e R s m args below meth c H locs cells slots A ρ ρ0 n0 mc ms lsr F D
  exact lv_astore F.1 F.2.1 hd D.2.2.2.1 hn rfl (fun ls2 hl2 => k _ _ _ _ _ _ _ _ _ _ _ _ _ _ _ _ _ _ _ _ _ F ⟨D.1, D.2.1, D.2.2.1, lv_mem hl2 (lo_set ho), D.2.2.2.2⟩)
theorem wp_iinc_g (q : Nat) (cst : Int32) {i : Nat} {n : Int} {x : Int32} (hd : decode μ.2.1 pc = .ok (.iinc i n, 3)) (hp : pc + 3 = q) (hcst : Int32.ofInt n = cst) (hl : ls[i]? = some (some (.int x))) (hn : i < μ.2.2.1) (ho : okSt ls i = true) (k : WP Γ μ d cb sb h q (ls.set i (some (.int (x + cst)))) st Q) : WP Γ μ d cb sb h pc ls st Q := by
  subst hp; subst hcst
  intro p l e R s m args below meth c H locs cells slots A ρ ρ0 n0 mc ms lsr F D
  obtain ⟨k0, hk0⟩ := List.getElem?_of_mem (loL_mem (ρ := ρ) (ls := ls) (i := 0) (q := (i, .int x)) |>.mpr ⟨i, .int x, hl, by simp [eV]⟩)
  exact lv_iinc F.1 F.2.1 hd D.2.2.2.1 hk0 rfl hn rfl (fun ls2 hl2 => k _ _ _ _ _ _ _ _ _ _ _ _ _ _ _ _ _ _ _ _ _ F ⟨D.1, D.2.1, D.2.2.1, lv_mem hl2 (lo_set ho), D.2.2.2.2⟩)
theorem wp_istore_0 (q : Nat) {z1 : Option Value} {tl : Lo} {x : Int32} (hd : decode μ.2.1 pc = .ok (.istore_n 0, 1)) (hp : pc + 1 = q) (hn : Nat.blt 0 μ.2.2.1 = true) (ho : okSt (z1 :: tl) 0 = true) (k : WP Γ μ d cb sb h q (some (.int x) :: tl) st Q) : WP Γ μ d cb sb h pc (z1 :: tl) (.int x :: st) Q := wp_istore_n_g q hd hp (Nat.le_of_ble_eq_true hn) ho k
theorem wp_istore_1 (q : Nat) {a0 z1 : Option Value} {tl : Lo} {x : Int32} (hd : decode μ.2.1 pc = .ok (.istore_n 1, 1)) (hp : pc + 1 = q) (hn : Nat.blt 1 μ.2.2.1 = true) (ho : okSt (a0 :: z1 :: tl) 1 = true) (k : WP Γ μ d cb sb h q (a0 :: some (.int x) :: tl) st Q) : WP Γ μ d cb sb h pc (a0 :: z1 :: tl) (.int x :: st) Q := wp_istore_n_g q hd hp (Nat.le_of_ble_eq_true hn) ho k
theorem wp_istore_2 (q : Nat) {a0 a1 z1 : Option Value} {tl : Lo} {x : Int32} (hd : decode μ.2.1 pc = .ok (.istore_n 2, 1)) (hp : pc + 1 = q) (hn : Nat.blt 2 μ.2.2.1 = true) (ho : okSt (a0 :: a1 :: z1 :: tl) 2 = true) (k : WP Γ μ d cb sb h q (a0 :: a1 :: some (.int x) :: tl) st Q) : WP Γ μ d cb sb h pc (a0 :: a1 :: z1 :: tl) (.int x :: st) Q := wp_istore_n_g q hd hp (Nat.le_of_ble_eq_true hn) ho k
theorem wp_istore_3 (q : Nat) {a0 a1 a2 z1 : Option Value} {tl : Lo} {x : Int32} (hd : decode μ.2.1 pc = .ok (.istore_n 3, 1)) (hp : pc + 1 = q) (hn : Nat.blt 3 μ.2.2.1 = true) (ho : okSt (a0 :: a1 :: a2 :: z1 :: tl) 3 = true) (k : WP Γ μ d cb sb h q (a0 :: a1 :: a2 :: some (.int x) :: tl) st Q) : WP Γ μ d cb sb h pc (a0 :: a1 :: a2 :: z1 :: tl) (.int x :: st) Q := wp_istore_n_g q hd hp (Nat.le_of_ble_eq_true hn) ho k
theorem wp_istore_4 (q : Nat) {a0 a1 a2 a3 z1 : Option Value} {tl : Lo} {x : Int32} (hd : decode μ.2.1 pc = .ok (.istore 4, 2)) (hp : pc + 2 = q) (hn : Nat.blt 4 μ.2.2.1 = true) (ho : okSt (a0 :: a1 :: a2 :: a3 :: z1 :: tl) 4 = true) (k : WP Γ μ d cb sb h q (a0 :: a1 :: a2 :: a3 :: some (.int x) :: tl) st Q) : WP Γ μ d cb sb h pc (a0 :: a1 :: a2 :: a3 :: z1 :: tl) (.int x :: st) Q := wp_istore_g q hd hp (Nat.le_of_ble_eq_true hn) ho k
theorem wp_istore_5 (q : Nat) {a0 a1 a2 a3 a4 z1 : Option Value} {tl : Lo} {x : Int32} (hd : decode μ.2.1 pc = .ok (.istore 5, 2)) (hp : pc + 2 = q) (hn : Nat.blt 5 μ.2.2.1 = true) (ho : okSt (a0 :: a1 :: a2 :: a3 :: a4 :: z1 :: tl) 5 = true) (k : WP Γ μ d cb sb h q (a0 :: a1 :: a2 :: a3 :: a4 :: some (.int x) :: tl) st Q) : WP Γ μ d cb sb h pc (a0 :: a1 :: a2 :: a3 :: a4 :: z1 :: tl) (.int x :: st) Q := wp_istore_g q hd hp (Nat.le_of_ble_eq_true hn) ho k
theorem wp_istore_6 (q : Nat) {a0 a1 a2 a3 a4 a5 z1 : Option Value} {tl : Lo} {x : Int32} (hd : decode μ.2.1 pc = .ok (.istore 6, 2)) (hp : pc + 2 = q) (hn : Nat.blt 6 μ.2.2.1 = true) (ho : okSt (a0 :: a1 :: a2 :: a3 :: a4 :: a5 :: z1 :: tl) 6 = true) (k : WP Γ μ d cb sb h q (a0 :: a1 :: a2 :: a3 :: a4 :: a5 :: some (.int x) :: tl) st Q) : WP Γ μ d cb sb h pc (a0 :: a1 :: a2 :: a3 :: a4 :: a5 :: z1 :: tl) (.int x :: st) Q := wp_istore_g q hd hp (Nat.le_of_ble_eq_true hn) ho k
theorem wp_istore_7 (q : Nat) {a0 a1 a2 a3 a4 a5 a6 z1 : Option Value} {tl : Lo} {x : Int32} (hd : decode μ.2.1 pc = .ok (.istore 7, 2)) (hp : pc + 2 = q) (hn : Nat.blt 7 μ.2.2.1 = true) (ho : okSt (a0 :: a1 :: a2 :: a3 :: a4 :: a5 :: a6 :: z1 :: tl) 7 = true) (k : WP Γ μ d cb sb h q (a0 :: a1 :: a2 :: a3 :: a4 :: a5 :: a6 :: some (.int x) :: tl) st Q) : WP Γ μ d cb sb h pc (a0 :: a1 :: a2 :: a3 :: a4 :: a5 :: a6 :: z1 :: tl) (.int x :: st) Q := wp_istore_g q hd hp (Nat.le_of_ble_eq_true hn) ho k
theorem wp_istore_8 (q : Nat) {a0 a1 a2 a3 a4 a5 a6 a7 z1 : Option Value} {tl : Lo} {x : Int32} (hd : decode μ.2.1 pc = .ok (.istore 8, 2)) (hp : pc + 2 = q) (hn : Nat.blt 8 μ.2.2.1 = true) (ho : okSt (a0 :: a1 :: a2 :: a3 :: a4 :: a5 :: a6 :: a7 :: z1 :: tl) 8 = true) (k : WP Γ μ d cb sb h q (a0 :: a1 :: a2 :: a3 :: a4 :: a5 :: a6 :: a7 :: some (.int x) :: tl) st Q) : WP Γ μ d cb sb h pc (a0 :: a1 :: a2 :: a3 :: a4 :: a5 :: a6 :: a7 :: z1 :: tl) (.int x :: st) Q := wp_istore_g q hd hp (Nat.le_of_ble_eq_true hn) ho k
theorem wp_istore_9 (q : Nat) {a0 a1 a2 a3 a4 a5 a6 a7 a8 z1 : Option Value} {tl : Lo} {x : Int32} (hd : decode μ.2.1 pc = .ok (.istore 9, 2)) (hp : pc + 2 = q) (hn : Nat.blt 9 μ.2.2.1 = true) (ho : okSt (a0 :: a1 :: a2 :: a3 :: a4 :: a5 :: a6 :: a7 :: a8 :: z1 :: tl) 9 = true) (k : WP Γ μ d cb sb h q (a0 :: a1 :: a2 :: a3 :: a4 :: a5 :: a6 :: a7 :: a8 :: some (.int x) :: tl) st Q) : WP Γ μ d cb sb h pc (a0 :: a1 :: a2 :: a3 :: a4 :: a5 :: a6 :: a7 :: a8 :: z1 :: tl) (.int x :: st) Q := wp_istore_g q hd hp (Nat.le_of_ble_eq_true hn) ho k
theorem wp_istore_10 (q : Nat) {a0 a1 a2 a3 a4 a5 a6 a7 a8 a9 z1 : Option Value} {tl : Lo} {x : Int32} (hd : decode μ.2.1 pc = .ok (.istore 10, 2)) (hp : pc + 2 = q) (hn : Nat.blt 10 μ.2.2.1 = true) (ho : okSt (a0 :: a1 :: a2 :: a3 :: a4 :: a5 :: a6 :: a7 :: a8 :: a9 :: z1 :: tl) 10 = true) (k : WP Γ μ d cb sb h q (a0 :: a1 :: a2 :: a3 :: a4 :: a5 :: a6 :: a7 :: a8 :: a9 :: some (.int x) :: tl) st Q) : WP Γ μ d cb sb h pc (a0 :: a1 :: a2 :: a3 :: a4 :: a5 :: a6 :: a7 :: a8 :: a9 :: z1 :: tl) (.int x :: st) Q := wp_istore_g q hd hp (Nat.le_of_ble_eq_true hn) ho k
theorem wp_istore_11 (q : Nat) {a0 a1 a2 a3 a4 a5 a6 a7 a8 a9 a10 z1 : Option Value} {tl : Lo} {x : Int32} (hd : decode μ.2.1 pc = .ok (.istore 11, 2)) (hp : pc + 2 = q) (hn : Nat.blt 11 μ.2.2.1 = true) (ho : okSt (a0 :: a1 :: a2 :: a3 :: a4 :: a5 :: a6 :: a7 :: a8 :: a9 :: a10 :: z1 :: tl) 11 = true) (k : WP Γ μ d cb sb h q (a0 :: a1 :: a2 :: a3 :: a4 :: a5 :: a6 :: a7 :: a8 :: a9 :: a10 :: some (.int x) :: tl) st Q) : WP Γ μ d cb sb h pc (a0 :: a1 :: a2 :: a3 :: a4 :: a5 :: a6 :: a7 :: a8 :: a9 :: a10 :: z1 :: tl) (.int x :: st) Q := wp_istore_g q hd hp (Nat.le_of_ble_eq_true hn) ho k
theorem wp_istore_12 (q : Nat) {a0 a1 a2 a3 a4 a5 a6 a7 a8 a9 a10 a11 z1 : Option Value} {tl : Lo} {x : Int32} (hd : decode μ.2.1 pc = .ok (.istore 12, 2)) (hp : pc + 2 = q) (hn : Nat.blt 12 μ.2.2.1 = true) (ho : okSt (a0 :: a1 :: a2 :: a3 :: a4 :: a5 :: a6 :: a7 :: a8 :: a9 :: a10 :: a11 :: z1 :: tl) 12 = true) (k : WP Γ μ d cb sb h q (a0 :: a1 :: a2 :: a3 :: a4 :: a5 :: a6 :: a7 :: a8 :: a9 :: a10 :: a11 :: some (.int x) :: tl) st Q) : WP Γ μ d cb sb h pc (a0 :: a1 :: a2 :: a3 :: a4 :: a5 :: a6 :: a7 :: a8 :: a9 :: a10 :: a11 :: z1 :: tl) (.int x :: st) Q := wp_istore_g q hd hp (Nat.le_of_ble_eq_true hn) ho k
theorem wp_istore_13 (q : Nat) {a0 a1 a2 a3 a4 a5 a6 a7 a8 a9 a10 a11 a12 z1 : Option Value} {tl : Lo} {x : Int32} (hd : decode μ.2.1 pc = .ok (.istore 13, 2)) (hp : pc + 2 = q) (hn : Nat.blt 13 μ.2.2.1 = true) (ho : okSt (a0 :: a1 :: a2 :: a3 :: a4 :: a5 :: a6 :: a7 :: a8 :: a9 :: a10 :: a11 :: a12 :: z1 :: tl) 13 = true) (k : WP Γ μ d cb sb h q (a0 :: a1 :: a2 :: a3 :: a4 :: a5 :: a6 :: a7 :: a8 :: a9 :: a10 :: a11 :: a12 :: some (.int x) :: tl) st Q) : WP Γ μ d cb sb h pc (a0 :: a1 :: a2 :: a3 :: a4 :: a5 :: a6 :: a7 :: a8 :: a9 :: a10 :: a11 :: a12 :: z1 :: tl) (.int x :: st) Q := wp_istore_g q hd hp (Nat.le_of_ble_eq_true hn) ho k
theorem wp_lstore_0 (q : Nat) {z1 z2 : Option Value} {tl : Lo} {x : Int64} (hd : decode μ.2.1 pc = .ok (.lstore_n 0, 1)) (hp : pc + 1 = q) (hn : Nat.blt 1 μ.2.2.1 = true) (ho : okSt (z1 :: z2 :: tl) 0 = true) (k : WP Γ μ d cb sb h q (some (.long x) :: none :: tl) st Q) : WP Γ μ d cb sb h pc (z1 :: z2 :: tl) (.long x :: st) Q := wp_lstore_n_g q hd hp (Nat.le_of_ble_eq_true hn) ho k
theorem wp_lstore_1 (q : Nat) {a0 z1 z2 : Option Value} {tl : Lo} {x : Int64} (hd : decode μ.2.1 pc = .ok (.lstore_n 1, 1)) (hp : pc + 1 = q) (hn : Nat.blt 2 μ.2.2.1 = true) (ho : okSt (a0 :: z1 :: z2 :: tl) 1 = true) (k : WP Γ μ d cb sb h q (a0 :: some (.long x) :: none :: tl) st Q) : WP Γ μ d cb sb h pc (a0 :: z1 :: z2 :: tl) (.long x :: st) Q := wp_lstore_n_g q hd hp (Nat.le_of_ble_eq_true hn) ho k
theorem wp_lstore_2 (q : Nat) {a0 a1 z1 z2 : Option Value} {tl : Lo} {x : Int64} (hd : decode μ.2.1 pc = .ok (.lstore_n 2, 1)) (hp : pc + 1 = q) (hn : Nat.blt 3 μ.2.2.1 = true) (ho : okSt (a0 :: a1 :: z1 :: z2 :: tl) 2 = true) (k : WP Γ μ d cb sb h q (a0 :: a1 :: some (.long x) :: none :: tl) st Q) : WP Γ μ d cb sb h pc (a0 :: a1 :: z1 :: z2 :: tl) (.long x :: st) Q := wp_lstore_n_g q hd hp (Nat.le_of_ble_eq_true hn) ho k
theorem wp_lstore_3 (q : Nat) {a0 a1 a2 z1 z2 : Option Value} {tl : Lo} {x : Int64} (hd : decode μ.2.1 pc = .ok (.lstore_n 3, 1)) (hp : pc + 1 = q) (hn : Nat.blt 4 μ.2.2.1 = true) (ho : okSt (a0 :: a1 :: a2 :: z1 :: z2 :: tl) 3 = true) (k : WP Γ μ d cb sb h q (a0 :: a1 :: a2 :: some (.long x) :: none :: tl) st Q) : WP Γ μ d cb sb h pc (a0 :: a1 :: a2 :: z1 :: z2 :: tl) (.long x :: st) Q := wp_lstore_n_g q hd hp (Nat.le_of_ble_eq_true hn) ho k
theorem wp_lstore_4 (q : Nat) {a0 a1 a2 a3 z1 z2 : Option Value} {tl : Lo} {x : Int64} (hd : decode μ.2.1 pc = .ok (.lstore 4, 2)) (hp : pc + 2 = q) (hn : Nat.blt 5 μ.2.2.1 = true) (ho : okSt (a0 :: a1 :: a2 :: a3 :: z1 :: z2 :: tl) 4 = true) (k : WP Γ μ d cb sb h q (a0 :: a1 :: a2 :: a3 :: some (.long x) :: none :: tl) st Q) : WP Γ μ d cb sb h pc (a0 :: a1 :: a2 :: a3 :: z1 :: z2 :: tl) (.long x :: st) Q := wp_lstore_g q hd hp (Nat.le_of_ble_eq_true hn) ho k
theorem wp_lstore_5 (q : Nat) {a0 a1 a2 a3 a4 z1 z2 : Option Value} {tl : Lo} {x : Int64} (hd : decode μ.2.1 pc = .ok (.lstore 5, 2)) (hp : pc + 2 = q) (hn : Nat.blt 6 μ.2.2.1 = true) (ho : okSt (a0 :: a1 :: a2 :: a3 :: a4 :: z1 :: z2 :: tl) 5 = true) (k : WP Γ μ d cb sb h q (a0 :: a1 :: a2 :: a3 :: a4 :: some (.long x) :: none :: tl) st Q) : WP Γ μ d cb sb h pc (a0 :: a1 :: a2 :: a3 :: a4 :: z1 :: z2 :: tl) (.long x :: st) Q := wp_lstore_g q hd hp (Nat.le_of_ble_eq_true hn) ho k
theorem wp_lstore_6 (q : Nat) {a0 a1 a2 a3 a4 a5 z1 z2 : Option Value} {tl : Lo} {x : Int64} (hd : decode μ.2.1 pc = .ok (.lstore 6, 2)) (hp : pc + 2 = q) (hn : Nat.blt 7 μ.2.2.1 = true) (ho : okSt (a0 :: a1 :: a2 :: a3 :: a4 :: a5 :: z1 :: z2 :: tl) 6 = true) (k : WP Γ μ d cb sb h q (a0 :: a1 :: a2 :: a3 :: a4 :: a5 :: some (.long x) :: none :: tl) st Q) : WP Γ μ d cb sb h pc (a0 :: a1 :: a2 :: a3 :: a4 :: a5 :: z1 :: z2 :: tl) (.long x :: st) Q := wp_lstore_g q hd hp (Nat.le_of_ble_eq_true hn) ho k
theorem wp_lstore_7 (q : Nat) {a0 a1 a2 a3 a4 a5 a6 z1 z2 : Option Value} {tl : Lo} {x : Int64} (hd : decode μ.2.1 pc = .ok (.lstore 7, 2)) (hp : pc + 2 = q) (hn : Nat.blt 8 μ.2.2.1 = true) (ho : okSt (a0 :: a1 :: a2 :: a3 :: a4 :: a5 :: a6 :: z1 :: z2 :: tl) 7 = true) (k : WP Γ μ d cb sb h q (a0 :: a1 :: a2 :: a3 :: a4 :: a5 :: a6 :: some (.long x) :: none :: tl) st Q) : WP Γ μ d cb sb h pc (a0 :: a1 :: a2 :: a3 :: a4 :: a5 :: a6 :: z1 :: z2 :: tl) (.long x :: st) Q := wp_lstore_g q hd hp (Nat.le_of_ble_eq_true hn) ho k
theorem wp_lstore_8 (q : Nat) {a0 a1 a2 a3 a4 a5 a6 a7 z1 z2 : Option Value} {tl : Lo} {x : Int64} (hd : decode μ.2.1 pc = .ok (.lstore 8, 2)) (hp : pc + 2 = q) (hn : Nat.blt 9 μ.2.2.1 = true) (ho : okSt (a0 :: a1 :: a2 :: a3 :: a4 :: a5 :: a6 :: a7 :: z1 :: z2 :: tl) 8 = true) (k : WP Γ μ d cb sb h q (a0 :: a1 :: a2 :: a3 :: a4 :: a5 :: a6 :: a7 :: some (.long x) :: none :: tl) st Q) : WP Γ μ d cb sb h pc (a0 :: a1 :: a2 :: a3 :: a4 :: a5 :: a6 :: a7 :: z1 :: z2 :: tl) (.long x :: st) Q := wp_lstore_g q hd hp (Nat.le_of_ble_eq_true hn) ho k
theorem wp_lstore_9 (q : Nat) {a0 a1 a2 a3 a4 a5 a6 a7 a8 z1 z2 : Option Value} {tl : Lo} {x : Int64} (hd : decode μ.2.1 pc = .ok (.lstore 9, 2)) (hp : pc + 2 = q) (hn : Nat.blt 10 μ.2.2.1 = true) (ho : okSt (a0 :: a1 :: a2 :: a3 :: a4 :: a5 :: a6 :: a7 :: a8 :: z1 :: z2 :: tl) 9 = true) (k : WP Γ μ d cb sb h q (a0 :: a1 :: a2 :: a3 :: a4 :: a5 :: a6 :: a7 :: a8 :: some (.long x) :: none :: tl) st Q) : WP Γ μ d cb sb h pc (a0 :: a1 :: a2 :: a3 :: a4 :: a5 :: a6 :: a7 :: a8 :: z1 :: z2 :: tl) (.long x :: st) Q := wp_lstore_g q hd hp (Nat.le_of_ble_eq_true hn) ho k
theorem wp_lstore_10 (q : Nat) {a0 a1 a2 a3 a4 a5 a6 a7 a8 a9 z1 z2 : Option Value} {tl : Lo} {x : Int64} (hd : decode μ.2.1 pc = .ok (.lstore 10, 2)) (hp : pc + 2 = q) (hn : Nat.blt 11 μ.2.2.1 = true) (ho : okSt (a0 :: a1 :: a2 :: a3 :: a4 :: a5 :: a6 :: a7 :: a8 :: a9 :: z1 :: z2 :: tl) 10 = true) (k : WP Γ μ d cb sb h q (a0 :: a1 :: a2 :: a3 :: a4 :: a5 :: a6 :: a7 :: a8 :: a9 :: some (.long x) :: none :: tl) st Q) : WP Γ μ d cb sb h pc (a0 :: a1 :: a2 :: a3 :: a4 :: a5 :: a6 :: a7 :: a8 :: a9 :: z1 :: z2 :: tl) (.long x :: st) Q := wp_lstore_g q hd hp (Nat.le_of_ble_eq_true hn) ho k
theorem wp_lstore_11 (q : Nat) {a0 a1 a2 a3 a4 a5 a6 a7 a8 a9 a10 z1 z2 : Option Value} {tl : Lo} {x : Int64} (hd : decode μ.2.1 pc = .ok (.lstore 11, 2)) (hp : pc + 2 = q) (hn : Nat.blt 12 μ.2.2.1 = true) (ho : okSt (a0 :: a1 :: a2 :: a3 :: a4 :: a5 :: a6 :: a7 :: a8 :: a9 :: a10 :: z1 :: z2 :: tl) 11 = true) (k : WP Γ μ d cb sb h q (a0 :: a1 :: a2 :: a3 :: a4 :: a5 :: a6 :: a7 :: a8 :: a9 :: a10 :: some (.long x) :: none :: tl) st Q) : WP Γ μ d cb sb h pc (a0 :: a1 :: a2 :: a3 :: a4 :: a5 :: a6 :: a7 :: a8 :: a9 :: a10 :: z1 :: z2 :: tl) (.long x :: st) Q := wp_lstore_g q hd hp (Nat.le_of_ble_eq_true hn) ho k
theorem wp_lstore_12 (q : Nat) {a0 a1 a2 a3 a4 a5 a6 a7 a8 a9 a10 a11 z1 z2 : Option Value} {tl : Lo} {x : Int64} (hd : decode μ.2.1 pc = .ok (.lstore 12, 2)) (hp : pc + 2 = q) (hn : Nat.blt 13 μ.2.2.1 = true) (ho : okSt (a0 :: a1 :: a2 :: a3 :: a4 :: a5 :: a6 :: a7 :: a8 :: a9 :: a10 :: a11 :: z1 :: z2 :: tl) 12 = true) (k : WP Γ μ d cb sb h q (a0 :: a1 :: a2 :: a3 :: a4 :: a5 :: a6 :: a7 :: a8 :: a9 :: a10 :: a11 :: some (.long x) :: none :: tl) st Q) : WP Γ μ d cb sb h pc (a0 :: a1 :: a2 :: a3 :: a4 :: a5 :: a6 :: a7 :: a8 :: a9 :: a10 :: a11 :: z1 :: z2 :: tl) (.long x :: st) Q := wp_lstore_g q hd hp (Nat.le_of_ble_eq_true hn) ho k
theorem wp_lstore_13 (q : Nat) {a0 a1 a2 a3 a4 a5 a6 a7 a8 a9 a10 a11 a12 z1 z2 : Option Value} {tl : Lo} {x : Int64} (hd : decode μ.2.1 pc = .ok (.lstore 13, 2)) (hp : pc + 2 = q) (hn : Nat.blt 14 μ.2.2.1 = true) (ho : okSt (a0 :: a1 :: a2 :: a3 :: a4 :: a5 :: a6 :: a7 :: a8 :: a9 :: a10 :: a11 :: a12 :: z1 :: z2 :: tl) 13 = true) (k : WP Γ μ d cb sb h q (a0 :: a1 :: a2 :: a3 :: a4 :: a5 :: a6 :: a7 :: a8 :: a9 :: a10 :: a11 :: a12 :: some (.long x) :: none :: tl) st Q) : WP Γ μ d cb sb h pc (a0 :: a1 :: a2 :: a3 :: a4 :: a5 :: a6 :: a7 :: a8 :: a9 :: a10 :: a11 :: a12 :: z1 :: z2 :: tl) (.long x :: st) Q := wp_lstore_g q hd hp (Nat.le_of_ble_eq_true hn) ho k
theorem wp_astore_0 (q : Nat) {z1 : Option Value} {tl : Lo} {x : Nat} (hd : decode μ.2.1 pc = .ok (.astore_n 0, 1)) (hp : pc + 1 = q) (hn : Nat.blt 0 μ.2.2.1 = true) (ho : okSt (z1 :: tl) 0 = true) (k : WP Γ μ d cb sb h q (some (.ref x) :: tl) st Q) : WP Γ μ d cb sb h pc (z1 :: tl) (.ref x :: st) Q := wp_astore_n_g q hd hp (Nat.le_of_ble_eq_true hn) ho k
theorem wp_astore_1 (q : Nat) {a0 z1 : Option Value} {tl : Lo} {x : Nat} (hd : decode μ.2.1 pc = .ok (.astore_n 1, 1)) (hp : pc + 1 = q) (hn : Nat.blt 1 μ.2.2.1 = true) (ho : okSt (a0 :: z1 :: tl) 1 = true) (k : WP Γ μ d cb sb h q (a0 :: some (.ref x) :: tl) st Q) : WP Γ μ d cb sb h pc (a0 :: z1 :: tl) (.ref x :: st) Q := wp_astore_n_g q hd hp (Nat.le_of_ble_eq_true hn) ho k
theorem wp_astore_2 (q : Nat) {a0 a1 z1 : Option Value} {tl : Lo} {x : Nat} (hd : decode μ.2.1 pc = .ok (.astore_n 2, 1)) (hp : pc + 1 = q) (hn : Nat.blt 2 μ.2.2.1 = true) (ho : okSt (a0 :: a1 :: z1 :: tl) 2 = true) (k : WP Γ μ d cb sb h q (a0 :: a1 :: some (.ref x) :: tl) st Q) : WP Γ μ d cb sb h pc (a0 :: a1 :: z1 :: tl) (.ref x :: st) Q := wp_astore_n_g q hd hp (Nat.le_of_ble_eq_true hn) ho k
theorem wp_astore_3 (q : Nat) {a0 a1 a2 z1 : Option Value} {tl : Lo} {x : Nat} (hd : decode μ.2.1 pc = .ok (.astore_n 3, 1)) (hp : pc + 1 = q) (hn : Nat.blt 3 μ.2.2.1 = true) (ho : okSt (a0 :: a1 :: a2 :: z1 :: tl) 3 = true) (k : WP Γ μ d cb sb h q (a0 :: a1 :: a2 :: some (.ref x) :: tl) st Q) : WP Γ μ d cb sb h pc (a0 :: a1 :: a2 :: z1 :: tl) (.ref x :: st) Q := wp_astore_n_g q hd hp (Nat.le_of_ble_eq_true hn) ho k
theorem wp_astore_4 (q : Nat) {a0 a1 a2 a3 z1 : Option Value} {tl : Lo} {x : Nat} (hd : decode μ.2.1 pc = .ok (.astore 4, 2)) (hp : pc + 2 = q) (hn : Nat.blt 4 μ.2.2.1 = true) (ho : okSt (a0 :: a1 :: a2 :: a3 :: z1 :: tl) 4 = true) (k : WP Γ μ d cb sb h q (a0 :: a1 :: a2 :: a3 :: some (.ref x) :: tl) st Q) : WP Γ μ d cb sb h pc (a0 :: a1 :: a2 :: a3 :: z1 :: tl) (.ref x :: st) Q := wp_astore_g q hd hp (Nat.le_of_ble_eq_true hn) ho k
theorem wp_astore_5 (q : Nat) {a0 a1 a2 a3 a4 z1 : Option Value} {tl : Lo} {x : Nat} (hd : decode μ.2.1 pc = .ok (.astore 5, 2)) (hp : pc + 2 = q) (hn : Nat.blt 5 μ.2.2.1 = true) (ho : okSt (a0 :: a1 :: a2 :: a3 :: a4 :: z1 :: tl) 5 = true) (k : WP Γ μ d cb sb h q (a0 :: a1 :: a2 :: a3 :: a4 :: some (.ref x) :: tl) st Q) : WP Γ μ d cb sb h pc (a0 :: a1 :: a2 :: a3 :: a4 :: z1 :: tl) (.ref x :: st) Q := wp_astore_g q hd hp (Nat.le_of_ble_eq_true hn) ho k
theorem wp_astore_6 (q : Nat) {a0 a1 a2 a3 a4 a5 z1 : Option Value} {tl : Lo} {x : Nat} (hd : decode μ.2.1 pc = .ok (.astore 6, 2)) (hp : pc + 2 = q) (hn : Nat.blt 6 μ.2.2.1 = true) (ho : okSt (a0 :: a1 :: a2 :: a3 :: a4 :: a5 :: z1 :: tl) 6 = true) (k : WP Γ μ d cb sb h q (a0 :: a1 :: a2 :: a3 :: a4 :: a5 :: some (.ref x) :: tl) st Q) : WP Γ μ d cb sb h pc (a0 :: a1 :: a2 :: a3 :: a4 :: a5 :: z1 :: tl) (.ref x :: st) Q := wp_astore_g q hd hp (Nat.le_of_ble_eq_true hn) ho k
theorem wp_astore_7 (q : Nat) {a0 a1 a2 a3 a4 a5 a6 z1 : Option Value} {tl : Lo} {x : Nat} (hd : decode μ.2.1 pc = .ok (.astore 7, 2)) (hp : pc + 2 = q) (hn : Nat.blt 7 μ.2.2.1 = true) (ho : okSt (a0 :: a1 :: a2 :: a3 :: a4 :: a5 :: a6 :: z1 :: tl) 7 = true) (k : WP Γ μ d cb sb h q (a0 :: a1 :: a2 :: a3 :: a4 :: a5 :: a6 :: some (.ref x) :: tl) st Q) : WP Γ μ d cb sb h pc (a0 :: a1 :: a2 :: a3 :: a4 :: a5 :: a6 :: z1 :: tl) (.ref x :: st) Q := wp_astore_g q hd hp (Nat.le_of_ble_eq_true hn) ho k
theorem wp_astore_8 (q : Nat) {a0 a1 a2 a3 a4 a5 a6 a7 z1 : Option Value} {tl : Lo} {x : Nat} (hd : decode μ.2.1 pc = .ok (.astore 8, 2)) (hp : pc + 2 = q) (hn : Nat.blt 8 μ.2.2.1 = true) (ho : okSt (a0 :: a1 :: a2 :: a3 :: a4 :: a5 :: a6 :: a7 :: z1 :: tl) 8 = true) (k : WP Γ μ d cb sb h q (a0 :: a1 :: a2 :: a3 :: a4 :: a5 :: a6 :: a7 :: some (.ref x) :: tl) st Q) : WP Γ μ d cb sb h pc (a0 :: a1 :: a2 :: a3 :: a4 :: a5 :: a6 :: a7 :: z1 :: tl) (.ref x :: st) Q := wp_astore_g q hd hp (Nat.le_of_ble_eq_true hn) ho k
theorem wp_astore_9 (q : Nat) {a0 a1 a2 a3 a4 a5 a6 a7 a8 z1 : Option Value} {tl : Lo} {x : Nat} (hd : decode μ.2.1 pc = .ok (.astore 9, 2)) (hp : pc + 2 = q) (hn : Nat.blt 9 μ.2.2.1 = true) (ho : okSt (a0 :: a1 :: a2 :: a3 :: a4 :: a5 :: a6 :: a7 :: a8 :: z1 :: tl) 9 = true) (k : WP Γ μ d cb sb h q (a0 :: a1 :: a2 :: a3 :: a4 :: a5 :: a6 :: a7 :: a8 :: some (.ref x) :: tl) st Q) : WP Γ μ d cb sb h pc (a0 :: a1 :: a2 :: a3 :: a4 :: a5 :: a6 :: a7 :: a8 :: z1 :: tl) (.ref x :: st) Q := wp_astore_g q hd hp (Nat.le_of_ble_eq_true hn) ho k
theorem wp_astore_10 (q : Nat) {a0 a1 a2 a3 a4 a5 a6 a7 a8 a9 z1 : Option Value} {tl : Lo} {x : Nat} (hd : decode μ.2.1 pc = .ok (.astore 10, 2)) (hp : pc + 2 = q) (hn : Nat.blt 10 μ.2.2.1 = true) (ho : okSt (a0 :: a1 :: a2 :: a3 :: a4 :: a5 :: a6 :: a7 :: a8 :: a9 :: z1 :: tl) 10 = true) (k : WP Γ μ d cb sb h q (a0 :: a1 :: a2 :: a3 :: a4 :: a5 :: a6 :: a7 :: a8 :: a9 :: some (.ref x) :: tl) st Q) : WP Γ μ d cb sb h pc (a0 :: a1 :: a2 :: a3 :: a4 :: a5 :: a6 :: a7 :: a8 :: a9 :: z1 :: tl) (.ref x :: st) Q := wp_astore_g q hd hp (Nat.le_of_ble_eq_true hn) ho k
theorem wp_astore_11 (q : Nat) {a0 a1 a2 a3 a4 a5 a6 a7 a8 a9 a10 z1 : Option Value} {tl : Lo} {x : Nat} (hd : decode μ.2.1 pc = .ok (.astore 11, 2)) (hp : pc + 2 = q) (hn : Nat.blt 11 μ.2.2.1 = true) (ho : okSt (a0 :: a1 :: a2 :: a3 :: a4 :: a5 :: a6 :: a7 :: a8 :: a9 :: a10 :: z1 :: tl) 11 = true) (k : WP Γ μ d cb sb h q (a0 :: a1 :: a2 :: a3 :: a4 :: a5 :: a6 :: a7 :: a8 :: a9 :: a10 :: some (.ref x) :: tl) st Q) : WP Γ μ d cb sb h pc (a0 :: a1 :: a2 :: a3 :: a4 :: a5 :: a6 :: a7 :: a8 :: a9 :: a10 :: z1 :: tl) (.ref x :: st) Q := wp_astore_g q hd hp (Nat.le_of_ble_eq_true hn) ho k
theorem wp_astore_12 (q : Nat) {a0 a1 a2 a3 a4 a5 a6 a7 a8 a9 a10 a11 z1 : Option Value} {tl : Lo} {x : Nat} (hd : decode μ.2.1 pc = .ok (.astore 12, 2)) (hp : pc + 2 = q) (hn : Nat.blt 12 μ.2.2.1 = true) (ho : okSt (a0 :: a1 :: a2 :: a3 :: a4 :: a5 :: a6 :: a7 :: a8 :: a9 :: a10 :: a11 :: z1 :: tl) 12 = true) (k : WP Γ μ d cb sb h q (a0 :: a1 :: a2 :: a3 :: a4 :: a5 :: a6 :: a7 :: a8 :: a9 :: a10 :: a11 :: some (.ref x) :: tl) st Q) : WP Γ μ d cb sb h pc (a0 :: a1 :: a2 :: a3 :: a4 :: a5 :: a6 :: a7 :: a8 :: a9 :: a10 :: a11 :: z1 :: tl) (.ref x :: st) Q := wp_astore_g q hd hp (Nat.le_of_ble_eq_true hn) ho k
theorem wp_astore_13 (q : Nat) {a0 a1 a2 a3 a4 a5 a6 a7 a8 a9 a10 a11 a12 z1 : Option Value} {tl : Lo} {x : Nat} (hd : decode μ.2.1 pc = .ok (.astore 13, 2)) (hp : pc + 2 = q) (hn : Nat.blt 13 μ.2.2.1 = true) (ho : okSt (a0 :: a1 :: a2 :: a3 :: a4 :: a5 :: a6 :: a7 :: a8 :: a9 :: a10 :: a11 :: a12 :: z1 :: tl) 13 = true) (k : WP Γ μ d cb sb h q (a0 :: a1 :: a2 :: a3 :: a4 :: a5 :: a6 :: a7 :: a8 :: a9 :: a10 :: a11 :: a12 :: some (.ref x) :: tl) st Q) : WP Γ μ d cb sb h pc (a0 :: a1 :: a2 :: a3 :: a4 :: a5 :: a6 :: a7 :: a8 :: a9 :: a10 :: a11 :: a12 :: z1 :: tl) (.ref x :: st) Q := wp_astore_g q hd hp (Nat.le_of_ble_eq_true hn) ho k
theorem wp_iinc_0 (q : Nat) (cst : Int32) {tl : Lo} {n : Int} {x : Int32} (hd : decode μ.2.1 pc = .ok (.iinc 0 n, 3)) (hp : pc + 3 = q) (hcst : Int32.ofInt n = cst) (hn : Nat.blt 0 μ.2.2.1 = true) (ho : okSt (some (.int x) :: tl) 0 = true) (k : WP Γ μ d cb sb h q (some (.int (x + cst)) :: tl) st Q) : WP Γ μ d cb sb h pc (some (.int x) :: tl) st Q := wp_iinc_g q cst hd hp hcst rfl (Nat.le_of_ble_eq_true hn) ho k
theorem wp_iinc_1 (q : Nat) (cst : Int32) {a0 : Option Value} {tl : Lo} {n : Int} {x : Int32} (hd : decode μ.2.1 pc = .ok (.iinc 1 n, 3)) (hp : pc + 3 = q) (hcst : Int32.ofInt n = cst) (hn : Nat.blt 1 μ.2.2.1 = true) (ho : okSt (a0 :: some (.int x) :: tl) 1 = true) (k : WP Γ μ d cb sb h q (a0 :: some (.int (x + cst)) :: tl) st Q) : WP Γ μ d cb sb h pc (a0 :: some (.int x) :: tl) st Q := wp_iinc_g q cst hd hp hcst rfl (Nat.le_of_ble_eq_true hn) ho k
theorem wp_iinc_2 (q : Nat) (cst : Int32) {a0 a1 : Option Value} {tl : Lo} {n : Int} {x : Int32} (hd : decode μ.2.1 pc = .ok (.iinc 2 n, 3)) (hp : pc + 3 = q) (hcst : Int32.ofInt n = cst) (hn : Nat.blt 2 μ.2.2.1 = true) (ho : okSt (a0 :: a1 :: some (.int x) :: tl) 2 = true) (k : WP Γ μ d cb sb h q (a0 :: a1 :: some (.int (x + cst)) :: tl) st Q) : WP Γ μ d cb sb h pc (a0 :: a1 :: some (.int x) :: tl) st Q := wp_iinc_g q cst hd hp hcst rfl (Nat.le_of_ble_eq_true hn) ho k
theorem wp_iinc_3 (q : Nat) (cst : Int32) {a0 a1 a2 : Option Value} {tl : Lo} {n : Int} {x : Int32} (hd : decode μ.2.1 pc = .ok (.iinc 3 n, 3)) (hp : pc + 3 = q) (hcst : Int32.ofInt n = cst) (hn : Nat.blt 3 μ.2.2.1 = true) (ho : okSt (a0 :: a1 :: a2 :: some (.int x) :: tl) 3 = true) (k : WP Γ μ d cb sb h q (a0 :: a1 :: a2 :: some (.int (x + cst)) :: tl) st Q) : WP Γ μ d cb sb h pc (a0 :: a1 :: a2 :: some (.int x) :: tl) st Q := wp_iinc_g q cst hd hp hcst rfl (Nat.le_of_ble_eq_true hn) ho k
theorem wp_iinc_4 (q : Nat) (cst : Int32) {a0 a1 a2 a3 : Option Value} {tl : Lo} {n : Int} {x : Int32} (hd : decode μ.2.1 pc = .ok (.iinc 4 n, 3)) (hp : pc + 3 = q) (hcst : Int32.ofInt n = cst) (hn : Nat.blt 4 μ.2.2.1 = true) (ho : okSt (a0 :: a1 :: a2 :: a3 :: some (.int x) :: tl) 4 = true) (k : WP Γ μ d cb sb h q (a0 :: a1 :: a2 :: a3 :: some (.int (x + cst)) :: tl) st Q) : WP Γ μ d cb sb h pc (a0 :: a1 :: a2 :: a3 :: some (.int x) :: tl) st Q := wp_iinc_g q cst hd hp hcst rfl (Nat.le_of_ble_eq_true hn) ho k
theorem wp_iinc_5 (q : Nat) (cst : Int32) {a0 a1 a2 a3 a4 : Option Value} {tl : Lo} {n : Int} {x : Int32} (hd : decode μ.2.1 pc = .ok (.iinc 5 n, 3)) (hp : pc + 3 = q) (hcst : Int32.ofInt n = cst) (hn : Nat.blt 5 μ.2.2.1 = true) (ho : okSt (a0 :: a1 :: a2 :: a3 :: a4 :: some (.int x) :: tl) 5 = true) (k : WP Γ μ d cb sb h q (a0 :: a1 :: a2 :: a3 :: a4 :: some (.int (x + cst)) :: tl) st Q) : WP Γ μ d cb sb h pc (a0 :: a1 :: a2 :: a3 :: a4 :: some (.int x) :: tl) st Q := wp_iinc_g q cst hd hp hcst rfl (Nat.le_of_ble_eq_true hn) ho k
theorem wp_iinc_6 (q : Nat) (cst : Int32) {a0 a1 a2 a3 a4 a5 : Option Value} {tl : Lo} {n : Int} {x : Int32} (hd : decode μ.2.1 pc = .ok (.iinc 6 n, 3)) (hp : pc + 3 = q) (hcst : Int32.ofInt n = cst) (hn : Nat.blt 6 μ.2.2.1 = true) (ho : okSt (a0 :: a1 :: a2 :: a3 :: a4 :: a5 :: some (.int x) :: tl) 6 = true) (k : WP Γ μ d cb sb h q (a0 :: a1 :: a2 :: a3 :: a4 :: a5 :: some (.int (x + cst)) :: tl) st Q) : WP Γ μ d cb sb h pc (a0 :: a1 :: a2 :: a3 :: a4 :: a5 :: some (.int x) :: tl) st Q := wp_iinc_g q cst hd hp hcst rfl (Nat.le_of_ble_eq_true hn) ho k
theorem wp_iinc_7 (q : Nat) (cst : Int32) {a0 a1 a2 a3 a4 a5 a6 : Option Value} {tl : Lo} {n : Int} {x : Int32} (hd : decode μ.2.1 pc = .ok (.iinc 7 n, 3)) (hp : pc + 3 = q) (hcst : Int32.ofInt n = cst) (hn : Nat.blt 7 μ.2.2.1 = true) (ho : okSt (a0 :: a1 :: a2 :: a3 :: a4 :: a5 :: a6 :: some (.int x) :: tl) 7 = true) (k : WP Γ μ d cb sb h q (a0 :: a1 :: a2 :: a3 :: a4 :: a5 :: a6 :: some (.int (x + cst)) :: tl) st Q) : WP Γ μ d cb sb h pc (a0 :: a1 :: a2 :: a3 :: a4 :: a5 :: a6 :: some (.int x) :: tl) st Q := wp_iinc_g q cst hd hp hcst rfl (Nat.le_of_ble_eq_true hn) ho k
theorem wp_iinc_8 (q : Nat) (cst : Int32) {a0 a1 a2 a3 a4 a5 a6 a7 : Option Value} {tl : Lo} {n : Int} {x : Int32} (hd : decode μ.2.1 pc = .ok (.iinc 8 n, 3)) (hp : pc + 3 = q) (hcst : Int32.ofInt n = cst) (hn : Nat.blt 8 μ.2.2.1 = true) (ho : okSt (a0 :: a1 :: a2 :: a3 :: a4 :: a5 :: a6 :: a7 :: some (.int x) :: tl) 8 = true) (k : WP Γ μ d cb sb h q (a0 :: a1 :: a2 :: a3 :: a4 :: a5 :: a6 :: a7 :: some (.int (x + cst)) :: tl) st Q) : WP Γ μ d cb sb h pc (a0 :: a1 :: a2 :: a3 :: a4 :: a5 :: a6 :: a7 :: some (.int x) :: tl) st Q := wp_iinc_g q cst hd hp hcst rfl (Nat.le_of_ble_eq_true hn) ho k
theorem wp_iinc_9 (q : Nat) (cst : Int32) {a0 a1 a2 a3 a4 a5 a6 a7 a8 : Option Value} {tl : Lo} {n : Int} {x : Int32} (hd : decode μ.2.1 pc = .ok (.iinc 9 n, 3)) (hp : pc + 3 = q) (hcst : Int32.ofInt n = cst) (hn : Nat.blt 9 μ.2.2.1 = true) (ho : okSt (a0 :: a1 :: a2 :: a3 :: a4 :: a5 :: a6 :: a7 :: a8 :: some (.int x) :: tl) 9 = true) (k : WP Γ μ d cb sb h q (a0 :: a1 :: a2 :: a3 :: a4 :: a5 :: a6 :: a7 :: a8 :: some (.int (x + cst)) :: tl) st Q) : WP Γ μ d cb sb h pc (a0 :: a1 :: a2 :: a3 :: a4 :: a5 :: a6 :: a7 :: a8 :: some (.int x) :: tl) st Q := wp_iinc_g q cst hd hp hcst rfl (Nat.le_of_ble_eq_true hn) ho k
theorem wp_iinc_10 (q : Nat) (cst : Int32) {a0 a1 a2 a3 a4 a5 a6 a7 a8 a9 : Option Value} {tl : Lo} {n : Int} {x : Int32} (hd : decode μ.2.1 pc = .ok (.iinc 10 n, 3)) (hp : pc + 3 = q) (hcst : Int32.ofInt n = cst) (hn : Nat.blt 10 μ.2.2.1 = true) (ho : okSt (a0 :: a1 :: a2 :: a3 :: a4 :: a5 :: a6 :: a7 :: a8 :: a9 :: some (.int x) :: tl) 10 = true) (k : WP Γ μ d cb sb h q (a0 :: a1 :: a2 :: a3 :: a4 :: a5 :: a6 :: a7 :: a8 :: a9 :: some (.int (x + cst)) :: tl) st Q) : WP Γ μ d cb sb h pc (a0 :: a1 :: a2 :: a3 :: a4 :: a5 :: a6 :: a7 :: a8 :: a9 :: some (.int x) :: tl) st Q := wp_iinc_g q cst hd hp hcst rfl (Nat.le_of_ble_eq_true hn) ho k
theorem wp_iinc_11 (q : Nat) (cst : Int32) {a0 a1 a2 a3 a4 a5 a6 a7 a8 a9 a10 : Option Value} {tl : Lo} {n : Int} {x : Int32} (hd : decode μ.2.1 pc = .ok (.iinc 11 n, 3)) (hp : pc + 3 = q) (hcst : Int32.ofInt n = cst) (hn : Nat.blt 11 μ.2.2.1 = true) (ho : okSt (a0 :: a1 :: a2 :: a3 :: a4 :: a5 :: a6 :: a7 :: a8 :: a9 :: a10 :: some (.int x) :: tl) 11 = true) (k : WP Γ μ d cb sb h q (a0 :: a1 :: a2 :: a3 :: a4 :: a5 :: a6 :: a7 :: a8 :: a9 :: a10 :: some (.int (x + cst)) :: tl) st Q) : WP Γ μ d cb sb h pc (a0 :: a1 :: a2 :: a3 :: a4 :: a5 :: a6 :: a7 :: a8 :: a9 :: a10 :: some (.int x) :: tl) st Q := wp_iinc_g q cst hd hp hcst rfl (Nat.le_of_ble_eq_true hn) ho k
theorem wp_iinc_12 (q : Nat) (cst : Int32) {a0 a1 a2 a3 a4 a5 a6 a7 a8 a9 a10 a11 : Option Value} {tl : Lo} {n : Int} {x : Int32} (hd : decode μ.2.1 pc = .ok (.iinc 12 n, 3)) (hp : pc + 3 = q) (hcst : Int32.ofInt n = cst) (hn : Nat.blt 12 μ.2.2.1 = true) (ho : okSt (a0 :: a1 :: a2 :: a3 :: a4 :: a5 :: a6 :: a7 :: a8 :: a9 :: a10 :: a11 :: some (.int x) :: tl) 12 = true) (k : WP Γ μ d cb sb h q (a0 :: a1 :: a2 :: a3 :: a4 :: a5 :: a6 :: a7 :: a8 :: a9 :: a10 :: a11 :: some (.int (x + cst)) :: tl) st Q) : WP Γ μ d cb sb h pc (a0 :: a1 :: a2 :: a3 :: a4 :: a5 :: a6 :: a7 :: a8 :: a9 :: a10 :: a11 :: some (.int x) :: tl) st Q := wp_iinc_g q cst hd hp hcst rfl (Nat.le_of_ble_eq_true hn) ho k
theorem wp_iinc_13 (q : Nat) (cst : Int32) {a0 a1 a2 a3 a4 a5 a6 a7 a8 a9 a10 a11 a12 : Option Value} {tl : Lo} {n : Int} {x : Int32} (hd : decode μ.2.1 pc = .ok (.iinc 13 n, 3)) (hp : pc + 3 = q) (hcst : Int32.ofInt n = cst) (hn : Nat.blt 13 μ.2.2.1 = true) (ho : okSt (a0 :: a1 :: a2 :: a3 :: a4 :: a5 :: a6 :: a7 :: a8 :: a9 :: a10 :: a11 :: a12 :: some (.int x) :: tl) 13 = true) (k : WP Γ μ d cb sb h q (a0 :: a1 :: a2 :: a3 :: a4 :: a5 :: a6 :: a7 :: a8 :: a9 :: a10 :: a11 :: a12 :: some (.int (x + cst)) :: tl) st Q) : WP Γ μ d cb sb h pc (a0 :: a1 :: a2 :: a3 :: a4 :: a5 :: a6 :: a7 :: a8 :: a9 :: a10 :: a11 :: a12 :: some (.int x) :: tl) st Q := wp_iinc_g q cst hd hp hcst rfl (Nat.le_of_ble_eq_true hn) ho k
end R3
