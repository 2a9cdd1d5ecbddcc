/-! ===== the rules, one an instruction (written by wip/whole/gen/rules.py) ===== -/
theorem J0_iconst {G : jG} {Γ : jΓ} {w : jWd} {pc pc' : Nat} {ls : List (Option Value)} {st : List Value} {n : Int} {v : Int32} (hd : decode (jcc Γ) pc = .ok (.iconst n, 1)) (hv : Int32.ofInt n = v) (hp : pc' = pc + 1) (k : J0 G Γ w pc' ls (.int v :: st)) : J0 G Γ w pc ls (st) := by
  subst hp
  intro p e s m args below meth c H locs lsA Hs hC hP hD hS hl
  exact lv_iconst hC.1 hC.2.1 hd hv (k p e s m args below meth c H locs lsA Hs hC hP hD hS hl)
theorem J0_bipush {G : jG} {Γ : jΓ} {w : jWd} {pc pc' : Nat} {ls : List (Option Value)} {st : List Value} {n : Int} {v : Int32} (hd : decode (jcc Γ) pc = .ok (.bipush n, 2)) (hv : (Int8.ofInt n).toInt32 = v) (hp : pc' = pc + 2) (k : J0 G Γ w pc' ls (.int v :: st)) : J0 G Γ w pc ls (st) := by
  subst hp
  intro p e s m args below meth c H locs lsA Hs hC hP hD hS hl
  exact lv_bipush hC.1 hC.2.1 hd hv (k p e s m args below meth c H locs lsA Hs hC hP hD hS hl)
theorem J0_sipush {G : jG} {Γ : jΓ} {w : jWd} {pc pc' : Nat} {ls : List (Option Value)} {st : List Value} {n : Int} {v : Int32} (hd : decode (jcc Γ) pc = .ok (.sipush n, 3)) (hv : (Int16.ofInt n).toInt32 = v) (hp : pc' = pc + 3) (k : J0 G Γ w pc' ls (.int v :: st)) : J0 G Γ w pc ls (st) := by
  subst hp
  intro p e s m args below meth c H locs lsA Hs hC hP hD hS hl
  exact lv_sipush hC.1 hC.2.1 hd hv (k p e s m args below meth c H locs lsA Hs hC hP hD hS hl)
theorem J0_lconst {G : jG} {Γ : jΓ} {w : jWd} {pc pc' : Nat} {ls : List (Option Value)} {st : List Value} {n : Fin 2} {v : Int64} (hd : decode (jcc Γ) pc = .ok (.lconst n, 1)) (hv : Int64.ofNat (n : Nat) = v) (hp : pc' = pc + 1) (k : J0 G Γ w pc' ls (.long v :: st)) : J0 G Γ w pc ls (st) := by
  subst hp
  intro p e s m args below meth c H locs lsA Hs hC hP hD hS hl
  exact lv_lconst hC.1 hC.2.1 hd hv (k p e s m args below meth c H locs lsA Hs hC hP hD hS hl)
theorem J0_ldc {G : jG} {Γ : jΓ} {w : jWd} {pc pc' : Nat} {ls : List (Option Value)} {st : List Value} {i : Nat} {v : Int32} (hd : decode (jcc Γ) pc = .ok (.ldc i, 2)) (hw : Cond.constant (jown Γ) i v ∈ jTbl) (hp : pc' = pc + 2) (k : J0 G Γ w pc' ls (.int v :: st)) : J0 G Γ w pc ls st := by
  subst hp
  intro p e s m args below meth c H locs lsA Hs hC hP hD hS hl
  exact lv_ldc hC.1 hC.2.1 hC.2.2.2.2.2.1 (hC.2.2.2.2.2.2.1 _ hw) hd (k p e s m args below meth c H locs lsA Hs hC hP hD hS hl)
theorem J0_ldcw {G : jG} {Γ : jΓ} {w : jWd} {pc pc' : Nat} {ls : List (Option Value)} {st : List Value} {i : Nat} {v : Int32} (hd : decode (jcc Γ) pc = .ok (.ldc_w i, 3)) (hw : Cond.constant (jown Γ) i v ∈ jTbl) (hp : pc' = pc + 3) (k : J0 G Γ w pc' ls (.int v :: st)) : J0 G Γ w pc ls st := by
  subst hp
  intro p e s m args below meth c H locs lsA Hs hC hP hD hS hl
  exact lv_ldcw hC.1 hC.2.1 hC.2.2.2.2.2.1 (hC.2.2.2.2.2.2.1 _ hw) hd (k p e s m args below meth c H locs lsA Hs hC hP hD hS hl)
theorem J0_ldc2 {G : jG} {Γ : jΓ} {w : jWd} {pc pc' : Nat} {ls : List (Option Value)} {st : List Value} {i : Nat} {v : Int64} (hd : decode (jcc Γ) pc = .ok (.ldc2_w i, 3)) (hw : Cond.constantLong (jown Γ) i v ∈ jTbl) (hp : pc' = pc + 3) (k : J0 G Γ w pc' ls (.long v :: st)) : J0 G Γ w pc ls st := by
  subst hp
  intro p e s m args below meth c H locs lsA Hs hC hP hD hS hl
  exact lv_ldc2 hC.1 hC.2.1 hC.2.2.2.2.2.1 (hC.2.2.2.2.2.2.1 _ hw) hd (k p e s m args below meth c H locs lsA Hs hC hP hD hS hl)
theorem J0_iadd {G : jG} {Γ : jΓ} {w : jWd} {pc pc' : Nat} {ls : List (Option Value)} {st : List Value} {x y : Int32} (hd : decode (jcc Γ) pc = .ok (.iadd, 1)) (hp : pc' = pc + 1) (k : J0 G Γ w pc' ls (.int (x + y) :: st)) : J0 G Γ w pc ls (.int y :: .int x :: st) := by
  subst hp
  intro p e s m args below meth c H locs lsA Hs hC hP hD hS hl
  exact lv_iadd hC.1 hC.2.1 hd (k p e s m args below meth c H locs lsA Hs hC hP hD hS hl)
theorem J0_isub {G : jG} {Γ : jΓ} {w : jWd} {pc pc' : Nat} {ls : List (Option Value)} {st : List Value} {x y : Int32} (hd : decode (jcc Γ) pc = .ok (.isub, 1)) (hp : pc' = pc + 1) (k : J0 G Γ w pc' ls (.int (x - y) :: st)) : J0 G Γ w pc ls (.int y :: .int x :: st) := by
  subst hp
  intro p e s m args below meth c H locs lsA Hs hC hP hD hS hl
  exact lv_isub hC.1 hC.2.1 hd (k p e s m args below meth c H locs lsA Hs hC hP hD hS hl)
theorem J0_imul {G : jG} {Γ : jΓ} {w : jWd} {pc pc' : Nat} {ls : List (Option Value)} {st : List Value} {x y : Int32} (hd : decode (jcc Γ) pc = .ok (.imul, 1)) (hp : pc' = pc + 1) (k : J0 G Γ w pc' ls (.int (x * y) :: st)) : J0 G Γ w pc ls (.int y :: .int x :: st) := by
  subst hp
  intro p e s m args below meth c H locs lsA Hs hC hP hD hS hl
  exact lv_imul hC.1 hC.2.1 hd (k p e s m args below meth c H locs lsA Hs hC hP hD hS hl)
theorem J0_iand {G : jG} {Γ : jΓ} {w : jWd} {pc pc' : Nat} {ls : List (Option Value)} {st : List Value} {x y : Int32} (hd : decode (jcc Γ) pc = .ok (.iand, 1)) (hp : pc' = pc + 1) (k : J0 G Γ w pc' ls (.int (x &&& y) :: st)) : J0 G Γ w pc ls (.int y :: .int x :: st) := by
  subst hp
  intro p e s m args below meth c H locs lsA Hs hC hP hD hS hl
  exact lv_iand hC.1 hC.2.1 hd (k p e s m args below meth c H locs lsA Hs hC hP hD hS hl)
theorem J0_ior {G : jG} {Γ : jΓ} {w : jWd} {pc pc' : Nat} {ls : List (Option Value)} {st : List Value} {x y : Int32} (hd : decode (jcc Γ) pc = .ok (.ior, 1)) (hp : pc' = pc + 1) (k : J0 G Γ w pc' ls (.int (x ||| y) :: st)) : J0 G Γ w pc ls (.int y :: .int x :: st) := by
  subst hp
  intro p e s m args below meth c H locs lsA Hs hC hP hD hS hl
  exact lv_ior hC.1 hC.2.1 hd (k p e s m args below meth c H locs lsA Hs hC hP hD hS hl)
theorem J0_ixor {G : jG} {Γ : jΓ} {w : jWd} {pc pc' : Nat} {ls : List (Option Value)} {st : List Value} {x y : Int32} (hd : decode (jcc Γ) pc = .ok (.ixor, 1)) (hp : pc' = pc + 1) (k : J0 G Γ w pc' ls (.int (x ^^^ y) :: st)) : J0 G Γ w pc ls (.int y :: .int x :: st) := by
  subst hp
  intro p e s m args below meth c H locs lsA Hs hC hP hD hS hl
  exact lv_ixor hC.1 hC.2.1 hd (k p e s m args below meth c H locs lsA Hs hC hP hD hS hl)
theorem J0_ishl {G : jG} {Γ : jΓ} {w : jWd} {pc pc' : Nat} {ls : List (Option Value)} {st : List Value} {x y : Int32} (hd : decode (jcc Γ) pc = .ok (.ishl, 1)) (hp : pc' = pc + 1) (k : J0 G Γ w pc' ls (.int (x <<< (y &&& 31)) :: st)) : J0 G Γ w pc ls (.int y :: .int x :: st) := by
  subst hp
  intro p e s m args below meth c H locs lsA Hs hC hP hD hS hl
  exact lv_ishl hC.1 hC.2.1 hd (k p e s m args below meth c H locs lsA Hs hC hP hD hS hl)
theorem J0_ishr {G : jG} {Γ : jΓ} {w : jWd} {pc pc' : Nat} {ls : List (Option Value)} {st : List Value} {x y : Int32} (hd : decode (jcc Γ) pc = .ok (.ishr, 1)) (hp : pc' = pc + 1) (k : J0 G Γ w pc' ls (.int (x >>> (y &&& 31)) :: st)) : J0 G Γ w pc ls (.int y :: .int x :: st) := by
  subst hp
  intro p e s m args below meth c H locs lsA Hs hC hP hD hS hl
  exact lv_ishr hC.1 hC.2.1 hd (k p e s m args below meth c H locs lsA Hs hC hP hD hS hl)
theorem J0_iushr {G : jG} {Γ : jΓ} {w : jWd} {pc pc' : Nat} {ls : List (Option Value)} {st : List Value} {x y : Int32} (hd : decode (jcc Γ) pc = .ok (.iushr, 1)) (hp : pc' = pc + 1) (k : J0 G Γ w pc' ls (.int ((x.toUInt32 >>> (y.toUInt32 &&& Int32.toUInt32 31)).toInt32) :: st)) : J0 G Γ w pc ls (.int y :: .int x :: st) := by
  subst hp
  intro p e s m args below meth c H locs lsA Hs hC hP hD hS hl
  exact lv_iushr hC.1 hC.2.1 hd rfl (k p e s m args below meth c H locs lsA Hs hC hP hD hS hl)
theorem J0_idiv {G : jG} {Γ : jΓ} {w : jWd} {pc pc' : Nat} {ls : List (Option Value)} {st : List Value} {x y : Int32} (hd : decode (jcc Γ) pc = .ok (.idiv, 1)) (hne : ¬ y = 0) (hp : pc' = pc + 1) (k : J0 G Γ w pc' ls (.int (x / y) :: st)) : J0 G Γ w pc ls (.int y :: .int x :: st) := by
  subst hp
  intro p e s m args below meth c H locs lsA Hs hC hP hD hS hl
  exact lv_idiv hC.1 hC.2.1 hd hne (k p e s m args below meth c H locs lsA Hs hC hP hD hS hl)
theorem J0_irem {G : jG} {Γ : jΓ} {w : jWd} {pc pc' : Nat} {ls : List (Option Value)} {st : List Value} {x y : Int32} (hd : decode (jcc Γ) pc = .ok (.irem, 1)) (hne : ¬ y = 0) (hp : pc' = pc + 1) (k : J0 G Γ w pc' ls (.int (x - x / y * y) :: st)) : J0 G Γ w pc ls (.int y :: .int x :: st) := by
  subst hp
  intro p e s m args below meth c H locs lsA Hs hC hP hD hS hl
  exact lv_irem hC.1 hC.2.1 hd hne (k p e s m args below meth c H locs lsA Hs hC hP hD hS hl)
theorem J0_ineg {G : jG} {Γ : jΓ} {w : jWd} {pc pc' : Nat} {ls : List (Option Value)} {st : List Value} {x : Int32} (hd : decode (jcc Γ) pc = .ok (.ineg, 1)) (hp : pc' = pc + 1) (k : J0 G Γ w pc' ls (.int (-x) :: st)) : J0 G Γ w pc ls (.int x :: st) := by
  subst hp
  intro p e s m args below meth c H locs lsA Hs hC hP hD hS hl
  exact lv_ineg hC.1 hC.2.1 hd (k p e s m args below meth c H locs lsA Hs hC hP hD hS hl)
theorem J0_ladd {G : jG} {Γ : jΓ} {w : jWd} {pc pc' : Nat} {ls : List (Option Value)} {st : List Value} {x y : Int64} (hd : decode (jcc Γ) pc = .ok (.ladd, 1)) (hp : pc' = pc + 1) (k : J0 G Γ w pc' ls (.long (x + y) :: st)) : J0 G Γ w pc ls (.long y :: .long x :: st) := by
  subst hp
  intro p e s m args below meth c H locs lsA Hs hC hP hD hS hl
  exact lv_ladd hC.1 hC.2.1 hd (k p e s m args below meth c H locs lsA Hs hC hP hD hS hl)
theorem J0_lsub {G : jG} {Γ : jΓ} {w : jWd} {pc pc' : Nat} {ls : List (Option Value)} {st : List Value} {x y : Int64} (hd : decode (jcc Γ) pc = .ok (.lsub, 1)) (hp : pc' = pc + 1) (k : J0 G Γ w pc' ls (.long (x - y) :: st)) : J0 G Γ w pc ls (.long y :: .long x :: st) := by
  subst hp
  intro p e s m args below meth c H locs lsA Hs hC hP hD hS hl
  exact lv_lsub hC.1 hC.2.1 hd (k p e s m args below meth c H locs lsA Hs hC hP hD hS hl)
theorem J0_lmul {G : jG} {Γ : jΓ} {w : jWd} {pc pc' : Nat} {ls : List (Option Value)} {st : List Value} {x y : Int64} (hd : decode (jcc Γ) pc = .ok (.lmul, 1)) (hp : pc' = pc + 1) (k : J0 G Γ w pc' ls (.long (x * y) :: st)) : J0 G Γ w pc ls (.long y :: .long x :: st) := by
  subst hp
  intro p e s m args below meth c H locs lsA Hs hC hP hD hS hl
  exact lv_lmul hC.1 hC.2.1 hd (k p e s m args below meth c H locs lsA Hs hC hP hD hS hl)
theorem J0_land {G : jG} {Γ : jΓ} {w : jWd} {pc pc' : Nat} {ls : List (Option Value)} {st : List Value} {x y : Int64} (hd : decode (jcc Γ) pc = .ok (.land, 1)) (hp : pc' = pc + 1) (k : J0 G Γ w pc' ls (.long (x &&& y) :: st)) : J0 G Γ w pc ls (.long y :: .long x :: st) := by
  subst hp
  intro p e s m args below meth c H locs lsA Hs hC hP hD hS hl
  exact lv_land hC.1 hC.2.1 hd (k p e s m args below meth c H locs lsA Hs hC hP hD hS hl)
theorem J0_lor {G : jG} {Γ : jΓ} {w : jWd} {pc pc' : Nat} {ls : List (Option Value)} {st : List Value} {x y : Int64} (hd : decode (jcc Γ) pc = .ok (.lor, 1)) (hp : pc' = pc + 1) (k : J0 G Γ w pc' ls (.long (x ||| y) :: st)) : J0 G Γ w pc ls (.long y :: .long x :: st) := by
  subst hp
  intro p e s m args below meth c H locs lsA Hs hC hP hD hS hl
  exact lv_lor hC.1 hC.2.1 hd (k p e s m args below meth c H locs lsA Hs hC hP hD hS hl)
theorem J0_ldiv {G : jG} {Γ : jΓ} {w : jWd} {pc pc' : Nat} {ls : List (Option Value)} {st : List Value} {x y : Int64} (hd : decode (jcc Γ) pc = .ok (.ldiv, 1)) (hne : ¬ y = 0) (hp : pc' = pc + 1) (k : J0 G Γ w pc' ls (.long (x / y) :: st)) : J0 G Γ w pc ls (.long y :: .long x :: st) := by
  subst hp
  intro p e s m args below meth c H locs lsA Hs hC hP hD hS hl
  exact lv_ldiv hC.1 hC.2.1 hd hne (k p e s m args below meth c H locs lsA Hs hC hP hD hS hl)
theorem J0_lrem {G : jG} {Γ : jΓ} {w : jWd} {pc pc' : Nat} {ls : List (Option Value)} {st : List Value} {x y : Int64} (hd : decode (jcc Γ) pc = .ok (.lrem, 1)) (hne : ¬ y = 0) (hp : pc' = pc + 1) (k : J0 G Γ w pc' ls (.long (x - x / y * y) :: st)) : J0 G Γ w pc ls (.long y :: .long x :: st) := by
  subst hp
  intro p e s m args below meth c H locs lsA Hs hC hP hD hS hl
  exact lv_lrem hC.1 hC.2.1 hd hne (k p e s m args below meth c H locs lsA Hs hC hP hD hS hl)
theorem J0_lneg {G : jG} {Γ : jΓ} {w : jWd} {pc pc' : Nat} {ls : List (Option Value)} {st : List Value} {x : Int64} (hd : decode (jcc Γ) pc = .ok (.lneg, 1)) (hp : pc' = pc + 1) (k : J0 G Γ w pc' ls (.long (-x) :: st)) : J0 G Γ w pc ls (.long x :: st) := by
  subst hp
  intro p e s m args below meth c H locs lsA Hs hC hP hD hS hl
  exact lv_lneg hC.1 hC.2.1 hd (k p e s m args below meth c H locs lsA Hs hC hP hD hS hl)
theorem J0_lshl {G : jG} {Γ : jΓ} {w : jWd} {pc pc' : Nat} {ls : List (Option Value)} {st : List Value} {x : Int64} {y : Int32} (hd : decode (jcc Γ) pc = .ok (.lshl, 1)) (hp : pc' = pc + 1) (k : J0 G Γ w pc' ls (.long (x <<< (y.toInt64 &&& 63)) :: st)) : J0 G Γ w pc ls (.int y :: .long x :: st) := by
  subst hp
  intro p e s m args below meth c H locs lsA Hs hC hP hD hS hl
  exact lv_lshl hC.1 hC.2.1 hd rfl (k p e s m args below meth c H locs lsA Hs hC hP hD hS hl)
theorem J0_lshr {G : jG} {Γ : jΓ} {w : jWd} {pc pc' : Nat} {ls : List (Option Value)} {st : List Value} {x : Int64} {y : Int32} (hd : decode (jcc Γ) pc = .ok (.lshr, 1)) (hp : pc' = pc + 1) (k : J0 G Γ w pc' ls (.long (x >>> (y.toInt64 &&& 63)) :: st)) : J0 G Γ w pc ls (.int y :: .long x :: st) := by
  subst hp
  intro p e s m args below meth c H locs lsA Hs hC hP hD hS hl
  exact lv_lshr hC.1 hC.2.1 hd rfl (k p e s m args below meth c H locs lsA Hs hC hP hD hS hl)
theorem J0_lushr {G : jG} {Γ : jΓ} {w : jWd} {pc pc' : Nat} {ls : List (Option Value)} {st : List Value} {x : Int64} {y : Int32} (hd : decode (jcc Γ) pc = .ok (.lushr, 1)) (hp : pc' = pc + 1) (k : J0 G Γ w pc' ls (.long ((x.toUInt64 >>> (y.toInt64.toUInt64 &&& Int64.toUInt64 63)).toInt64) :: st)) : J0 G Γ w pc ls (.int y :: .long x :: st) := by
  subst hp
  intro p e s m args below meth c H locs lsA Hs hC hP hD hS hl
  exact lv_lushr hC.1 hC.2.1 hd rfl (k p e s m args below meth c H locs lsA Hs hC hP hD hS hl)
theorem J0_i2l {G : jG} {Γ : jΓ} {w : jWd} {pc pc' : Nat} {ls : List (Option Value)} {st : List Value} {x : Int32} (hd : decode (jcc Γ) pc = .ok (.i2l, 1)) (hp : pc' = pc + 1) (k : J0 G Γ w pc' ls (.long x.toInt64 :: st)) : J0 G Γ w pc ls (.int x :: st) := by
  subst hp
  intro p e s m args below meth c H locs lsA Hs hC hP hD hS hl
  exact lv_i2l hC.1 hC.2.1 hd rfl (k p e s m args below meth c H locs lsA Hs hC hP hD hS hl)
theorem J0_l2i {G : jG} {Γ : jΓ} {w : jWd} {pc pc' : Nat} {ls : List (Option Value)} {st : List Value} {x : Int64} (hd : decode (jcc Γ) pc = .ok (.l2i, 1)) (hp : pc' = pc + 1) (k : J0 G Γ w pc' ls (.int x.toInt32 :: st)) : J0 G Γ w pc ls (.long x :: st) := by
  subst hp
  intro p e s m args below meth c H locs lsA Hs hC hP hD hS hl
  exact lv_l2i hC.1 hC.2.1 hd rfl (k p e s m args below meth c H locs lsA Hs hC hP hD hS hl)
theorem J0_i2b {G : jG} {Γ : jΓ} {w : jWd} {pc pc' : Nat} {ls : List (Option Value)} {st : List Value} {x : Int32} (hd : decode (jcc Γ) pc = .ok (.i2b, 1)) (hp : pc' = pc + 1) (k : J0 G Γ w pc' ls (.int x.toInt8.toInt32 :: st)) : J0 G Γ w pc ls (.int x :: st) := by
  subst hp
  intro p e s m args below meth c H locs lsA Hs hC hP hD hS hl
  exact lv_i2b hC.1 hC.2.1 hd rfl (k p e s m args below meth c H locs lsA Hs hC hP hD hS hl)
theorem J0_i2s {G : jG} {Γ : jΓ} {w : jWd} {pc pc' : Nat} {ls : List (Option Value)} {st : List Value} {x : Int32} (hd : decode (jcc Γ) pc = .ok (.i2s, 1)) (hp : pc' = pc + 1) (k : J0 G Γ w pc' ls (.int x.toInt16.toInt32 :: st)) : J0 G Γ w pc ls (.int x :: st) := by
  subst hp
  intro p e s m args below meth c H locs lsA Hs hC hP hD hS hl
  exact lv_i2s hC.1 hC.2.1 hd rfl (k p e s m args below meth c H locs lsA Hs hC hP hD hS hl)
theorem J0_i2c {G : jG} {Γ : jΓ} {w : jWd} {pc pc' : Nat} {ls : List (Option Value)} {st : List Value} {x : Int32} (hd : decode (jcc Γ) pc = .ok (.i2c, 1)) (hp : pc' = pc + 1) (k : J0 G Γ w pc' ls (.int (x.toUInt32 % 65536).toInt32 :: st)) : J0 G Γ w pc ls (.int x :: st) := by
  subst hp
  intro p e s m args below meth c H locs lsA Hs hC hP hD hS hl
  exact lv_i2c hC.1 hC.2.1 hd rfl (k p e s m args below meth c H locs lsA Hs hC hP hD hS hl)
theorem J0_lcmp {G : jG} {Γ : jΓ} {w : jWd} {pc pc' : Nat} {ls : List (Option Value)} {st : List Value} {x y : Int64} (hd : decode (jcc Γ) pc = .ok (.lcmp, 1)) (hp : pc' = pc + 1) (k : J0 G Γ w pc' ls (.int (lg_cmp x y) :: st)) : J0 G Γ w pc ls (.long y :: .long x :: st) := by
  subst hp
  intro p e s m args below meth c H locs lsA Hs hC hP hD hS hl
  exact W.lcmp hC.1 hC.2.1 hd (k p e s m args below meth c H locs lsA Hs hC hP hD hS hl)
theorem J0_dup {G : jG} {Γ : jΓ} {w : jWd} {pc pc' : Nat} {ls : List (Option Value)} {st : List Value} {v : Value} (hd : decode (jcc Γ) pc = .ok (.dup, 1)) (hv : v.category = 1) (hp : pc' = pc + 1) (k : J0 G Γ w pc' ls (v :: v :: st)) : J0 G Γ w pc ls (v :: st) := by
  subst hp
  intro p e s m args below meth c H locs lsA Hs hC hP hD hS hl
  exact lv_dup hC.1 hC.2.1 hd (by rw [jtr_cat]; exact hv) (k p e s m args below meth c H locs lsA Hs hC hP hD hS hl)
theorem J0_pop {G : jG} {Γ : jΓ} {w : jWd} {pc pc' : Nat} {ls : List (Option Value)} {st : List Value} {v : Value} (hd : decode (jcc Γ) pc = .ok (.pop, 1)) (hv : v.category = 1) (hp : pc' = pc + 1) (k : J0 G Γ w pc' ls (st)) : J0 G Γ w pc ls (v :: st) := by
  subst hp
  intro p e s m args below meth c H locs lsA Hs hC hP hD hS hl
  exact lv_pop hC.1 hC.2.1 hd (by rw [jtr_cat]; exact hv) (k p e s m args below meth c H locs lsA Hs hC hP hD hS hl)
theorem J0_dup2 {G : jG} {Γ : jΓ} {w : jWd} {pc pc' : Nat} {ls : List (Option Value)} {st : List Value} {v u : Value} (hd : decode (jcc Γ) pc = .ok (.dup2, 1)) (hv : v.category = 1) (hu : u.category = 1) (hp : pc' = pc + 1) (k : J0 G Γ w pc' ls (v :: u :: v :: u :: st)) : J0 G Γ w pc ls (v :: u :: st) := by
  subst hp
  intro p e s m args below meth c H locs lsA Hs hC hP hD hS hl
  exact lv_dup2_11 hC.1 hC.2.1 hd (by rw [jtr_cat]; exact hv) (by rw [jtr_cat]; exact hu) (k p e s m args below meth c H locs lsA Hs hC hP hD hS hl)
theorem J0_if_eq {G : jG} {Γ : jΓ} {w : jWd} {pc pc' : Nat} {ls : List (Option Value)} {st : List Value} {x : Int32} {off : Int} (tgt : Nat) (hd : decode (jcc Γ) pc = .ok (.ifCond .eq off, 3)) (ht : (pc : Int) + off = (tgt : Int)) (hp : pc' = pc + 3) (kt : x = 0 → J0 G Γ w tgt ls st) (kf : ¬ x = 0 → J0 G Γ w pc' ls st) : J0 G Γ w pc ls (.int x :: st) := by
  subst hp
  intro p e s m args below meth c H locs lsA Hs hC hP hD hS hl
  exact lv_if_eq hC.1 hC.2.1 hd ht (fun h => kt h p e s m args below meth c H locs lsA Hs hC hP hD hS hl) (fun h => kf h p e s m args below meth c H locs lsA Hs hC hP hD hS hl)
theorem J0_icmp_eq {G : jG} {Γ : jΓ} {w : jWd} {pc pc' : Nat} {ls : List (Option Value)} {st : List Value} {x y : Int32} {off : Int} (tgt : Nat) (hd : decode (jcc Γ) pc = .ok (.if_icmp .eq off, 3)) (ht : (pc : Int) + off = (tgt : Int)) (hp : pc' = pc + 3) (kt : x = y → J0 G Γ w tgt ls st) (kf : ¬ x = y → J0 G Γ w pc' ls st) : J0 G Γ w pc ls (.int y :: .int x :: st) := by
  subst hp
  intro p e s m args below meth c H locs lsA Hs hC hP hD hS hl
  exact lv_icmp_eq hC.1 hC.2.1 hd ht (fun h => kt h p e s m args below meth c H locs lsA Hs hC hP hD hS hl) (fun h => kf h p e s m args below meth c H locs lsA Hs hC hP hD hS hl)
theorem J0_if_ne {G : jG} {Γ : jΓ} {w : jWd} {pc pc' : Nat} {ls : List (Option Value)} {st : List Value} {x : Int32} {off : Int} (tgt : Nat) (hd : decode (jcc Γ) pc = .ok (.ifCond .ne off, 3)) (ht : (pc : Int) + off = (tgt : Int)) (hp : pc' = pc + 3) (kt : x ≠ 0 → J0 G Γ w tgt ls st) (kf : x = 0 → J0 G Γ w pc' ls st) : J0 G Γ w pc ls (.int x :: st) := by
  subst hp
  intro p e s m args below meth c H locs lsA Hs hC hP hD hS hl
  exact lv_if_ne hC.1 hC.2.1 hd ht (fun h => kt h p e s m args below meth c H locs lsA Hs hC hP hD hS hl) (fun h => kf h p e s m args below meth c H locs lsA Hs hC hP hD hS hl)
theorem J0_icmp_ne {G : jG} {Γ : jΓ} {w : jWd} {pc pc' : Nat} {ls : List (Option Value)} {st : List Value} {x y : Int32} {off : Int} (tgt : Nat) (hd : decode (jcc Γ) pc = .ok (.if_icmp .ne off, 3)) (ht : (pc : Int) + off = (tgt : Int)) (hp : pc' = pc + 3) (kt : x ≠ y → J0 G Γ w tgt ls st) (kf : x = y → J0 G Γ w pc' ls st) : J0 G Γ w pc ls (.int y :: .int x :: st) := by
  subst hp
  intro p e s m args below meth c H locs lsA Hs hC hP hD hS hl
  exact lv_icmp_ne hC.1 hC.2.1 hd ht (fun h => kt h p e s m args below meth c H locs lsA Hs hC hP hD hS hl) (fun h => kf h p e s m args below meth c H locs lsA Hs hC hP hD hS hl)
theorem J0_if_lt {G : jG} {Γ : jΓ} {w : jWd} {pc pc' : Nat} {ls : List (Option Value)} {st : List Value} {x : Int32} {off : Int} (tgt : Nat) (hd : decode (jcc Γ) pc = .ok (.ifCond .lt off, 3)) (ht : (pc : Int) + off = (tgt : Int)) (hp : pc' = pc + 3) (kt : x < 0 → J0 G Γ w tgt ls st) (kf : ¬ x < 0 → J0 G Γ w pc' ls st) : J0 G Γ w pc ls (.int x :: st) := by
  subst hp
  intro p e s m args below meth c H locs lsA Hs hC hP hD hS hl
  exact lv_if_lt hC.1 hC.2.1 hd ht (fun h => kt h p e s m args below meth c H locs lsA Hs hC hP hD hS hl) (fun h => kf h p e s m args below meth c H locs lsA Hs hC hP hD hS hl)
theorem J0_icmp_lt {G : jG} {Γ : jΓ} {w : jWd} {pc pc' : Nat} {ls : List (Option Value)} {st : List Value} {x y : Int32} {off : Int} (tgt : Nat) (hd : decode (jcc Γ) pc = .ok (.if_icmp .lt off, 3)) (ht : (pc : Int) + off = (tgt : Int)) (hp : pc' = pc + 3) (kt : x < y → J0 G Γ w tgt ls st) (kf : ¬ x < y → J0 G Γ w pc' ls st) : J0 G Γ w pc ls (.int y :: .int x :: st) := by
  subst hp
  intro p e s m args below meth c H locs lsA Hs hC hP hD hS hl
  exact lv_icmp_lt hC.1 hC.2.1 hd ht (fun h => kt h p e s m args below meth c H locs lsA Hs hC hP hD hS hl) (fun h => kf h p e s m args below meth c H locs lsA Hs hC hP hD hS hl)
theorem J0_if_ge {G : jG} {Γ : jΓ} {w : jWd} {pc pc' : Nat} {ls : List (Option Value)} {st : List Value} {x : Int32} {off : Int} (tgt : Nat) (hd : decode (jcc Γ) pc = .ok (.ifCond .ge off, 3)) (ht : (pc : Int) + off = (tgt : Int)) (hp : pc' = pc + 3) (kt : 0 ≤ x → J0 G Γ w tgt ls st) (kf : ¬ 0 ≤ x → J0 G Γ w pc' ls st) : J0 G Γ w pc ls (.int x :: st) := by
  subst hp
  intro p e s m args below meth c H locs lsA Hs hC hP hD hS hl
  exact lv_if_ge hC.1 hC.2.1 hd ht (fun h => kt h p e s m args below meth c H locs lsA Hs hC hP hD hS hl) (fun h => kf h p e s m args below meth c H locs lsA Hs hC hP hD hS hl)
theorem J0_icmp_ge {G : jG} {Γ : jΓ} {w : jWd} {pc pc' : Nat} {ls : List (Option Value)} {st : List Value} {x y : Int32} {off : Int} (tgt : Nat) (hd : decode (jcc Γ) pc = .ok (.if_icmp .ge off, 3)) (ht : (pc : Int) + off = (tgt : Int)) (hp : pc' = pc + 3) (kt : y ≤ x → J0 G Γ w tgt ls st) (kf : ¬ y ≤ x → J0 G Γ w pc' ls st) : J0 G Γ w pc ls (.int y :: .int x :: st) := by
  subst hp
  intro p e s m args below meth c H locs lsA Hs hC hP hD hS hl
  exact lv_icmp_ge hC.1 hC.2.1 hd ht (fun h => kt h p e s m args below meth c H locs lsA Hs hC hP hD hS hl) (fun h => kf h p e s m args below meth c H locs lsA Hs hC hP hD hS hl)
theorem J0_if_gt {G : jG} {Γ : jΓ} {w : jWd} {pc pc' : Nat} {ls : List (Option Value)} {st : List Value} {x : Int32} {off : Int} (tgt : Nat) (hd : decode (jcc Γ) pc = .ok (.ifCond .gt off, 3)) (ht : (pc : Int) + off = (tgt : Int)) (hp : pc' = pc + 3) (kt : 0 < x → J0 G Γ w tgt ls st) (kf : ¬ 0 < x → J0 G Γ w pc' ls st) : J0 G Γ w pc ls (.int x :: st) := by
  subst hp
  intro p e s m args below meth c H locs lsA Hs hC hP hD hS hl
  exact lv_if_gt hC.1 hC.2.1 hd ht (fun h => kt h p e s m args below meth c H locs lsA Hs hC hP hD hS hl) (fun h => kf h p e s m args below meth c H locs lsA Hs hC hP hD hS hl)
theorem J0_icmp_gt {G : jG} {Γ : jΓ} {w : jWd} {pc pc' : Nat} {ls : List (Option Value)} {st : List Value} {x y : Int32} {off : Int} (tgt : Nat) (hd : decode (jcc Γ) pc = .ok (.if_icmp .gt off, 3)) (ht : (pc : Int) + off = (tgt : Int)) (hp : pc' = pc + 3) (kt : y < x → J0 G Γ w tgt ls st) (kf : ¬ y < x → J0 G Γ w pc' ls st) : J0 G Γ w pc ls (.int y :: .int x :: st) := by
  subst hp
  intro p e s m args below meth c H locs lsA Hs hC hP hD hS hl
  exact lv_icmp_gt hC.1 hC.2.1 hd ht (fun h => kt h p e s m args below meth c H locs lsA Hs hC hP hD hS hl) (fun h => kf h p e s m args below meth c H locs lsA Hs hC hP hD hS hl)
theorem J0_if_le {G : jG} {Γ : jΓ} {w : jWd} {pc pc' : Nat} {ls : List (Option Value)} {st : List Value} {x : Int32} {off : Int} (tgt : Nat) (hd : decode (jcc Γ) pc = .ok (.ifCond .le off, 3)) (ht : (pc : Int) + off = (tgt : Int)) (hp : pc' = pc + 3) (kt : x ≤ 0 → J0 G Γ w tgt ls st) (kf : ¬ x ≤ 0 → J0 G Γ w pc' ls st) : J0 G Γ w pc ls (.int x :: st) := by
  subst hp
  intro p e s m args below meth c H locs lsA Hs hC hP hD hS hl
  exact lv_if_le hC.1 hC.2.1 hd ht (fun h => kt h p e s m args below meth c H locs lsA Hs hC hP hD hS hl) (fun h => kf h p e s m args below meth c H locs lsA Hs hC hP hD hS hl)
theorem J0_icmp_le {G : jG} {Γ : jΓ} {w : jWd} {pc pc' : Nat} {ls : List (Option Value)} {st : List Value} {x y : Int32} {off : Int} (tgt : Nat) (hd : decode (jcc Γ) pc = .ok (.if_icmp .le off, 3)) (ht : (pc : Int) + off = (tgt : Int)) (hp : pc' = pc + 3) (kt : x ≤ y → J0 G Γ w tgt ls st) (kf : ¬ x ≤ y → J0 G Γ w pc' ls st) : J0 G Γ w pc ls (.int y :: .int x :: st) := by
  subst hp
  intro p e s m args below meth c H locs lsA Hs hC hP hD hS hl
  exact lv_icmp_le hC.1 hC.2.1 hd ht (fun h => kt h p e s m args below meth c H locs lsA Hs hC hP hD hS hl) (fun h => kf h p e s m args below meth c H locs lsA Hs hC hP hD hS hl)
theorem J0_goto {G : jG} {Γ : jΓ} {w : jWd} {pc pc' : Nat} {ls : List (Option Value)} {st : List Value} {off : Int} (tgt : Nat) (hd : decode (jcc Γ) pc = .ok (.goto off, 3)) (ht : (pc : Int) + off = (tgt : Int)) (k : J0 G Γ w tgt ls st) : J0 G Γ w pc ls st := by
  intro p e s m args below meth c H locs lsA Hs hC hP hD hS hl
  exact lv_goto hC.1 hC.2.1 hd ht (k p e s m args below meth c H locs lsA Hs hC hP hD hS hl)
theorem J0_tabOut {G : jG} {Γ : jΓ} {w : jWd} {pc pc' : Nat} {ls : List (Option Value)} {st : List Value} {dflt lo hi : Int} {offs : Array Int} {len : Nat} {x : Int32} (tgt : Nat) (hd : decode (jcc Γ) pc = .ok (.tableswitch dflt lo hi offs, len)) (h : x.toInt < lo ∨ hi < x.toInt) (ht : (pc : Int) + dflt = (tgt : Int)) (k : J0 G Γ w tgt ls st) : J0 G Γ w pc ls (.int x :: st) := by
  intro p e s m args below meth c H locs lsA Hs hC hP hD hS hl
  exact lv_tableOut hC.1 hC.2.1 hd h ht (k p e s m args below meth c H locs lsA Hs hC hP hD hS hl)
theorem J0_tabIn {G : jG} {Γ : jΓ} {w : jWd} {pc pc' : Nat} {ls : List (Option Value)} {st : List Value} {dflt lo hi : Int} {offs : Array Int} {len : Nat} {x : Int32} {off : Int} (tgt : Nat) (hd : decode (jcc Γ) pc = .ok (.tableswitch dflt lo hi offs, len)) (h1 : ¬ x.toInt < lo) (h2 : ¬ hi < x.toInt) (ho : offs[(x.toInt - lo).toNat]? = some off) (ht : (pc : Int) + off = (tgt : Int)) (k : J0 G Γ w tgt ls st) : J0 G Γ w pc ls (.int x :: st) := by
  intro p e s m args below meth c H locs lsA Hs hC hP hD hS hl
  exact lv_tableIn hC.1 hC.2.1 hd h1 h2 ho ht (k p e s m args below meth c H locs lsA Hs hC hP hD hS hl)
theorem J0_look {G : jG} {Γ : jΓ} {w : jWd} {pc pc' : Nat} {ls : List (Option Value)} {st : List Value} {dflt : Int} {ps : Array (Int × Int)} {len : Nat} {x : Int32} {off : Int} (tgt : Nat) (hd : decode (jcc Γ) pc = .ok (.lookupswitch dflt ps, len)) (hs : (ps.toList.zip (ps.toList.drop 1)).all (fun (a, next) => a.1 < next.1) = true) (ho : Op.lookupswitch.offset ps.toList dflt x.toInt = off) (ht : (pc : Int) + off = (tgt : Int)) (k : J0 G Γ w tgt ls st) : J0 G Γ w pc ls (.int x :: st) := by
  intro p e s m args below meth c H locs lsA Hs hC hP hD hS hl
  exact lv_lookup hC.1 hC.2.1 hd hs ho ht (k p e s m args below meth c H locs lsA Hs hC hP hD hS hl)
theorem J0_iload_n {G : jG} {Γ : jΓ} {w : jWd} {pc pc' : Nat} {ls : List (Option Value)} {st : List Value} {n : Fin 4} {x : Int32} (hd : decode (jcc Γ) pc = .ok (.iload_n n, 1)) (hv : ls[(n : Nat)]? = some (some (.int x))) (hp : pc' = pc + 1) (k : J0 G Γ w pc' ls (.int x :: st)) : J0 G Γ w pc ls st := by
  subst hp
  intro p e s m args below meth c H locs lsA Hs hC hP hD hS hl
  exact lv_iload_n hC.1 hC.2.1 hd rfl (jL_at hl hv) (k p e s m args below meth c H locs lsA Hs hC hP hD hS hl)
theorem J0_iload {G : jG} {Γ : jΓ} {w : jWd} {pc pc' : Nat} {ls : List (Option Value)} {st : List Value} {i : Nat} {x : Int32} (hd : decode (jcc Γ) pc = .ok (.iload i, 2)) (hv : ls[i]? = some (some (.int x))) (hp : pc' = pc + 2) (k : J0 G Γ w pc' ls (.int x :: st)) : J0 G Γ w pc ls st := by
  subst hp
  intro p e s m args below meth c H locs lsA Hs hC hP hD hS hl
  exact lv_iload hC.1 hC.2.1 hd (jL_at hl hv) (k p e s m args below meth c H locs lsA Hs hC hP hD hS hl)
theorem J0_lload_n {G : jG} {Γ : jΓ} {w : jWd} {pc pc' : Nat} {ls : List (Option Value)} {st : List Value} {n : Fin 4} {x : Int64} (hd : decode (jcc Γ) pc = .ok (.lload_n n, 1)) (hv : ls[(n : Nat)]? = some (some (.long x))) (hp : pc' = pc + 1) (k : J0 G Γ w pc' ls (.long x :: st)) : J0 G Γ w pc ls st := by
  subst hp
  intro p e s m args below meth c H locs lsA Hs hC hP hD hS hl
  exact lv_lload_n hC.1 hC.2.1 hd rfl (jL_at hl hv) (k p e s m args below meth c H locs lsA Hs hC hP hD hS hl)
theorem J0_lload {G : jG} {Γ : jΓ} {w : jWd} {pc pc' : Nat} {ls : List (Option Value)} {st : List Value} {i : Nat} {x : Int64} (hd : decode (jcc Γ) pc = .ok (.lload i, 2)) (hv : ls[i]? = some (some (.long x))) (hp : pc' = pc + 2) (k : J0 G Γ w pc' ls (.long x :: st)) : J0 G Γ w pc ls st := by
  subst hp
  intro p e s m args below meth c H locs lsA Hs hC hP hD hS hl
  exact lv_lload hC.1 hC.2.1 hd (jL_at hl hv) (k p e s m args below meth c H locs lsA Hs hC hP hD hS hl)
theorem J0_aload_n {G : jG} {Γ : jΓ} {w : jWd} {pc pc' : Nat} {ls : List (Option Value)} {st : List Value} {n : Fin 4} {x : Nat} (hd : decode (jcc Γ) pc = .ok (.aload_n n, 1)) (hv : ls[(n : Nat)]? = some (some (.ref x))) (hp : pc' = pc + 1) (k : J0 G Γ w pc' ls (.ref x :: st)) : J0 G Γ w pc ls st := by
  subst hp
  intro p e s m args below meth c H locs lsA Hs hC hP hD hS hl
  exact lv_aload_n hC.1 hC.2.1 hd rfl (jL_at hl hv) (k p e s m args below meth c H locs lsA Hs hC hP hD hS hl)
theorem J0_aload {G : jG} {Γ : jΓ} {w : jWd} {pc pc' : Nat} {ls : List (Option Value)} {st : List Value} {i : Nat} {x : Nat} (hd : decode (jcc Γ) pc = .ok (.aload i, 2)) (hv : ls[i]? = some (some (.ref x))) (hp : pc' = pc + 2) (k : J0 G Γ w pc' ls (.ref x :: st)) : J0 G Γ w pc ls st := by
  subst hp
  intro p e s m args below meth c H locs lsA Hs hC hP hD hS hl
  exact lv_aload hC.1 hC.2.1 hd (jL_at hl hv) (k p e s m args below meth c H locs lsA Hs hC hP hD hS hl)
theorem J0_istore_n {G : jG} {Γ : jΓ} {w : jWd} {pc pc' : Nat} {ls : List (Option Value)} {st : List Value} {n : Fin 4} {x : Int32} {ls' : List (Option Value)} (hd : decode (jcc Γ) pc = .ok (.istore_n n, 1)) (hn : (n : Nat) < jnL Γ) (hs : jSt ls n (.int x) ls') (hp : pc' = pc + 1) (k : J0 G Γ w pc' ls' st) : J0 G Γ w pc ls (.int x :: st) := by
  subst hp
  intro p e s m args below meth c H locs lsA Hs hC hP hD hS hl
  exact lv_istore_n hC.1 hC.2.1 hd rfl hl hn rfl (fun lsB hl2 => k p e s m args below meth c H locs lsB Hs hC hP hD hS (jSt_1 hl2 hs))
theorem J0_istore {G : jG} {Γ : jΓ} {w : jWd} {pc pc' : Nat} {ls : List (Option Value)} {st : List Value} {i : Nat} {x : Int32} {ls' : List (Option Value)} (hd : decode (jcc Γ) pc = .ok (.istore i, 2)) (hn : i < jnL Γ) (hs : jSt ls i (.int x) ls') (hp : pc' = pc + 2) (k : J0 G Γ w pc' ls' st) : J0 G Γ w pc ls (.int x :: st) := by
  subst hp
  intro p e s m args below meth c H locs lsA Hs hC hP hD hS hl
  exact lv_istore hC.1 hC.2.1 hd hl hn rfl (fun lsB hl2 => k p e s m args below meth c H locs lsB Hs hC hP hD hS (jSt_1 hl2 hs))
theorem J0_lstore_n {G : jG} {Γ : jΓ} {w : jWd} {pc pc' : Nat} {ls : List (Option Value)} {st : List Value} {n : Fin 4} {x : Int64} {ls' : List (Option Value)} (hd : decode (jcc Γ) pc = .ok (.lstore_n n, 1)) (hn : (n : Nat) + 1 < jnL Γ) (hs : jSt ls n (.long x) ls') (hp : pc' = pc + 1) (k : J0 G Γ w pc' ls' st) : J0 G Γ w pc ls (.long x :: st) := by
  subst hp
  intro p e s m args below meth c H locs lsA Hs hC hP hD hS hl
  exact lv_lstore_n hC.1 hC.2.1 hd rfl hl hn rfl (fun lsB hl2 => k p e s m args below meth c H locs lsB Hs hC hP hD hS (jSt_2 rfl hl2 hs))
theorem J0_lstore {G : jG} {Γ : jΓ} {w : jWd} {pc pc' : Nat} {ls : List (Option Value)} {st : List Value} {i : Nat} {x : Int64} {ls' : List (Option Value)} (hd : decode (jcc Γ) pc = .ok (.lstore i, 2)) (hn : i + 1 < jnL Γ) (hs : jSt ls i (.long x) ls') (hp : pc' = pc + 2) (k : J0 G Γ w pc' ls' st) : J0 G Γ w pc ls (.long x :: st) := by
  subst hp
  intro p e s m args below meth c H locs lsA Hs hC hP hD hS hl
  exact lv_lstore hC.1 hC.2.1 hd hl hn rfl (fun lsB hl2 => k p e s m args below meth c H locs lsB Hs hC hP hD hS (jSt_2 rfl hl2 hs))
theorem J0_iinc {G : jG} {Γ : jΓ} {w : jWd} {pc pc' : Nat} {ls : List (Option Value)} {st : List Value} {i : Nat} {n : Int} {x : Int32} {ls' : List (Option Value)} (hd : decode (jcc Γ) pc = .ok (.iinc i n, 3)) (hv : ls[i]? = some (some (.int x))) (hn : i < jnL Γ) (hs : jSt ls i (.int (x + Int32.ofInt n)) ls') (hp : pc' = pc + 3) (k : J0 G Γ w pc' ls' st) : J0 G Γ w pc ls st := by
  subst hp
  intro p e s m args below meth c H locs lsA Hs hC hP hD hS hl
  obtain ⟨kk, hk⟩ := List.getElem?_of_mem ((jL_mem G ls 0 (i, jtr G (.int x))).mpr ⟨i, .int x, hv, by simp⟩)
  exact lv_iinc hC.1 hC.2.1 hd hl hk rfl hn rfl (fun lsB hl2 => k p e s m args below meth c H locs lsB Hs hC hP hD hS (jSt_1 hl2 hs))
theorem J0_iret {G : jG} {d : Nat} {own : String} {cc : ByteArray} {nL : Nat} {Q : Option Value → jWd → Prop} {w : jWd} {pc : Nat} {ls : List (Option Value)} {x : Int32} (hd : decode cc pc = .ok (.ireturn, 1)) (h : Q (some (.int x)) w) : J0 G (jM0 G d own cc nL (some .int) Q) w pc ls [.int x] := by
  intro p e s m args below meth c H locs lsA Hs hC hP hD hS hl
  have hH : Hs = s.heap := hC.2.2.2.2.2.2.2.2.2.2
  subst hH
  have hlocks : meth.locks = false := hC.2.2.2.1
  exact W.iret hC.1 hC.2.1 hC.2.2.1 (fun t ht hW => ⟨some (.int x), w, rfl, h, by rw [ht]; exact hP, hD, hS.F ht⟩) hS.2.2 hd hlocks
theorem J0_zret {G : jG} {d : Nat} {own : String} {cc : ByteArray} {nL : Nat} {Q : Option Value → jWd → Prop} {w : jWd} {pc : Nat} {ls : List (Option Value)} {x : Int32} (hd : decode cc pc = .ok (.ireturn, 1)) (hx : x = 0 ∨ x = 1) (h : Q (some (.int x)) w) : J0 G (jM0 G d own cc nL (some .boolean) Q) w pc ls [.int x] := by
  intro p e s m args below meth c H locs lsA Hs hC hP hD hS hl
  have hH : Hs = s.heap := hC.2.2.2.2.2.2.2.2.2.2
  subst hH
  have hlocks : meth.locks = false := hC.2.2.2.1
  have hn : narrow .boolean (.int x) = .int x := by rcases hx with rfl | rfl <;> rfl
  exact W.zret hC.1 hC.2.1 hC.2.2.1 hn (fun t ht hW => ⟨some (.int x), w, rfl, h, by rw [ht]; exact hP, hD, hS.F ht⟩) hS.2.2 hd hlocks
theorem J0_lret {G : jG} {d : Nat} {own : String} {cc : ByteArray} {nL : Nat} {Q : Option Value → jWd → Prop} {w : jWd} {pc : Nat} {ls : List (Option Value)} {x : Int64} (hd : decode cc pc = .ok (.lreturn, 1)) (h : Q (some (.long x)) w) : J0 G (jM0 G d own cc nL (some .long) Q) w pc ls [.long x] := by
  intro p e s m args below meth c H locs lsA Hs hC hP hD hS hl
  have hH : Hs = s.heap := hC.2.2.2.2.2.2.2.2.2.2
  subst hH
  have hlocks : meth.locks = false := hC.2.2.2.1
  exact W.lret hC.1 hC.2.1 hC.2.2.1 (fun t ht hW => ⟨some (.long x), w, rfl, h, by rw [ht]; exact hP, hD, hS.F ht⟩) hS.2.2 hd hlocks
theorem J0_vret {G : jG} {d : Nat} {own : String} {cc : ByteArray} {nL : Nat} {Q : Option Value → jWd → Prop} {w : jWd} {pc : Nat} {ls : List (Option Value)} (hd : decode cc pc = .ok (.return_, 1)) (h : Q none w) : J0 G (jM0 G d own cc nL none Q) w pc ls [] := by
  intro p e s m args below meth c H locs lsA Hs hC hP hD hS hl
  have hH : Hs = s.heap := hC.2.2.2.2.2.2.2.2.2.2
  subst hH
  have hlocks : meth.locks = false := hC.2.2.2.1
  exact W.vret hC.1 hC.2.1 hC.2.2.1 (fun t ht hW => ⟨none, w, rfl, h, by rw [ht]; exact hP, hD, hS.F ht⟩) hS.2.2 hd hlocks
