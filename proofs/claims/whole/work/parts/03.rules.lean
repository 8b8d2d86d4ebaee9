section EVR
variable {G : GW} {M : MW} {R : Room} {E : Nat → LV → List Value → HP → Nat → Nat → Prop} {pc : Nat} {lv : LV} {rest : List Value} {h : HP} {cells slots : Nat}
theorem ev_iconst {n : Int} {v : Int32} (hd : decode M.2.1 pc = .ok (.iconst n, 1)) (hv : Int32.ofInt n = v) (k : ev G M R E (pc + 1) lv (.int v :: rest) h cells slots) : ev G M R E pc lv (rest) h cells slots := by
  intro p e s m args below meth c Q A ads0 C hE ads H locs ls X
  refine lv_iconst C.1.1 C.1.2.1 hd hv ?_
  exact k p e s m args below meth c Q A ads0 C hE ads H locs ls ⟨X.1, X.2.1, by simpa [okl_cons, okv_int, okv_long, okv_null] using X.2.2⟩
theorem ev_bipush {n : Int} {v : Int32} (hd : decode M.2.1 pc = .ok (.bipush n, 2)) (hv : (Int8.ofInt n).toInt32 = v) (k : ev G M R E (pc + 2) lv (.int v :: rest) h cells slots) : ev G M R E pc lv (rest) h cells slots := by
  intro p e s m args below meth c Q A ads0 C hE ads H locs ls X
  refine lv_bipush C.1.1 C.1.2.1 hd hv ?_
  exact k p e s m args below meth c Q A ads0 C hE ads H locs ls ⟨X.1, X.2.1, by simpa [okl_cons, okv_int, okv_long, okv_null] using X.2.2⟩
theorem ev_sipush {n : Int} {v : Int32} (hd : decode M.2.1 pc = .ok (.sipush n, 3)) (hv : (Int16.ofInt n).toInt32 = v) (k : ev G M R E (pc + 3) lv (.int v :: rest) h cells slots) : ev G M R E pc lv (rest) h cells slots := by
  intro p e s m args below meth c Q A ads0 C hE ads H locs ls X
  refine lv_sipush C.1.1 C.1.2.1 hd hv ?_
  exact k p e s m args below meth c Q A ads0 C hE ads H locs ls ⟨X.1, X.2.1, by simpa [okl_cons, okv_int, okv_long, okv_null] using X.2.2⟩
theorem ev_lconst {n : Fin 2} {v : Int64} (hd : decode M.2.1 pc = .ok (.lconst n, 1)) (hv : Int64.ofNat (n : Nat) = v) (k : ev G M R E (pc + 1) lv (.long v :: rest) h cells slots) : ev G M R E pc lv (rest) h cells slots := by
  intro p e s m args below meth c Q A ads0 C hE ads H locs ls X
  refine lv_lconst C.1.1 C.1.2.1 hd hv ?_
  exact k p e s m args below meth c Q A ads0 C hE ads H locs ls ⟨X.1, X.2.1, by simpa [okl_cons, okv_int, okv_long, okv_null] using X.2.2⟩
theorem ev_null  (hd : decode M.2.1 pc = .ok (.aconst_null, 1))  (k : ev G M R E (pc + 1) lv (.null :: rest) h cells slots) : ev G M R E pc lv (rest) h cells slots := by
  intro p e s m args below meth c Q A ads0 C hE ads H locs ls X
  refine lv_null C.1.1 C.1.2.1 hd  ?_
  exact k p e s m args below meth c Q A ads0 C hE ads H locs ls ⟨X.1, X.2.1, by simpa [okl_cons, okv_int, okv_long, okv_null] using X.2.2⟩
theorem ev_iadd {x y : Int32} (hd : decode M.2.1 pc = .ok (.iadd, 1))  (k : ev G M R E (pc + 1) lv (.int (x + y) :: rest) h cells slots) : ev G M R E pc lv (.int y :: .int x :: rest) h cells slots := by
  intro p e s m args below meth c Q A ads0 C hE ads H locs ls X
  refine lv_iadd C.1.1 C.1.2.1 hd  ?_
  exact k p e s m args below meth c Q A ads0 C hE ads H locs ls ⟨X.1, X.2.1, by simpa [okl_cons, okv_int, okv_long, okv_null] using X.2.2⟩
theorem ev_isub {x y : Int32} (hd : decode M.2.1 pc = .ok (.isub, 1))  (k : ev G M R E (pc + 1) lv (.int (x - y) :: rest) h cells slots) : ev G M R E pc lv (.int y :: .int x :: rest) h cells slots := by
  intro p e s m args below meth c Q A ads0 C hE ads H locs ls X
  refine lv_isub C.1.1 C.1.2.1 hd  ?_
  exact k p e s m args below meth c Q A ads0 C hE ads H locs ls ⟨X.1, X.2.1, by simpa [okl_cons, okv_int, okv_long, okv_null] using X.2.2⟩
theorem ev_imul {x y : Int32} (hd : decode M.2.1 pc = .ok (.imul, 1))  (k : ev G M R E (pc + 1) lv (.int (x * y) :: rest) h cells slots) : ev G M R E pc lv (.int y :: .int x :: rest) h cells slots := by
  intro p e s m args below meth c Q A ads0 C hE ads H locs ls X
  refine lv_imul C.1.1 C.1.2.1 hd  ?_
  exact k p e s m args below meth c Q A ads0 C hE ads H locs ls ⟨X.1, X.2.1, by simpa [okl_cons, okv_int, okv_long, okv_null] using X.2.2⟩
theorem ev_iand {x y : Int32} (hd : decode M.2.1 pc = .ok (.iand, 1))  (k : ev G M R E (pc + 1) lv (.int (x &&& y) :: rest) h cells slots) : ev G M R E pc lv (.int y :: .int x :: rest) h cells slots := by
  intro p e s m args below meth c Q A ads0 C hE ads H locs ls X
  refine lv_iand C.1.1 C.1.2.1 hd  ?_
  exact k p e s m args below meth c Q A ads0 C hE ads H locs ls ⟨X.1, X.2.1, by simpa [okl_cons, okv_int, okv_long, okv_null] using X.2.2⟩
theorem ev_ior {x y : Int32} (hd : decode M.2.1 pc = .ok (.ior, 1))  (k : ev G M R E (pc + 1) lv (.int (x ||| y) :: rest) h cells slots) : ev G M R E pc lv (.int y :: .int x :: rest) h cells slots := by
  intro p e s m args below meth c Q A ads0 C hE ads H locs ls X
  refine lv_ior C.1.1 C.1.2.1 hd  ?_
  exact k p e s m args below meth c Q A ads0 C hE ads H locs ls ⟨X.1, X.2.1, by simpa [okl_cons, okv_int, okv_long, okv_null] using X.2.2⟩
theorem ev_ixor {x y : Int32} (hd : decode M.2.1 pc = .ok (.ixor, 1))  (k : ev G M R E (pc + 1) lv (.int (x ^^^ y) :: rest) h cells slots) : ev G M R E pc lv (.int y :: .int x :: rest) h cells slots := by
  intro p e s m args below meth c Q A ads0 C hE ads H locs ls X
  refine lv_ixor C.1.1 C.1.2.1 hd  ?_
  exact k p e s m args below meth c Q A ads0 C hE ads H locs ls ⟨X.1, X.2.1, by simpa [okl_cons, okv_int, okv_long, okv_null] using X.2.2⟩
theorem ev_ishl {x y : Int32} (hd : decode M.2.1 pc = .ok (.ishl, 1))  (k : ev G M R E (pc + 1) lv (.int (x <<< (y &&& 31)) :: rest) h cells slots) : ev G M R E pc lv (.int y :: .int x :: rest) h cells slots := by
  intro p e s m args below meth c Q A ads0 C hE ads H locs ls X
  refine lv_ishl C.1.1 C.1.2.1 hd  ?_
  exact k p e s m args below meth c Q A ads0 C hE ads H locs ls ⟨X.1, X.2.1, by simpa [okl_cons, okv_int, okv_long, okv_null] using X.2.2⟩
theorem ev_ishr {x y : Int32} (hd : decode M.2.1 pc = .ok (.ishr, 1))  (k : ev G M R E (pc + 1) lv (.int (x >>> (y &&& 31)) :: rest) h cells slots) : ev G M R E pc lv (.int y :: .int x :: rest) h cells slots := by
  intro p e s m args below meth c Q A ads0 C hE ads H locs ls X
  refine lv_ishr C.1.1 C.1.2.1 hd  ?_
  exact k p e s m args below meth c Q A ads0 C hE ads H locs ls ⟨X.1, X.2.1, by simpa [okl_cons, okv_int, okv_long, okv_null] using X.2.2⟩
theorem ev_idiv {x y : Int32} (hd : decode M.2.1 pc = .ok (.idiv, 1)) (hne : ¬ y = 0) (k : ev G M R E (pc + 1) lv (.int (x / y) :: rest) h cells slots) : ev G M R E pc lv (.int y :: .int x :: rest) h cells slots := by
  intro p e s m args below meth c Q A ads0 C hE ads H locs ls X
  refine lv_idiv C.1.1 C.1.2.1 hd hne ?_
  exact k p e s m args below meth c Q A ads0 C hE ads H locs ls ⟨X.1, X.2.1, by simpa [okl_cons, okv_int, okv_long, okv_null] using X.2.2⟩
theorem ev_irem {x y : Int32} (hd : decode M.2.1 pc = .ok (.irem, 1)) (hne : ¬ y = 0) (k : ev G M R E (pc + 1) lv (.int (x - x / y * y) :: rest) h cells slots) : ev G M R E pc lv (.int y :: .int x :: rest) h cells slots := by
  intro p e s m args below meth c Q A ads0 C hE ads H locs ls X
  refine lv_irem C.1.1 C.1.2.1 hd hne ?_
  exact k p e s m args below meth c Q A ads0 C hE ads H locs ls ⟨X.1, X.2.1, by simpa [okl_cons, okv_int, okv_long, okv_null] using X.2.2⟩
theorem ev_ineg {x : Int32} (hd : decode M.2.1 pc = .ok (.ineg, 1))  (k : ev G M R E (pc + 1) lv (.int (-x) :: rest) h cells slots) : ev G M R E pc lv (.int x :: rest) h cells slots := by
  intro p e s m args below meth c Q A ads0 C hE ads H locs ls X
  refine lv_ineg C.1.1 C.1.2.1 hd  ?_
  exact k p e s m args below meth c Q A ads0 C hE ads H locs ls ⟨X.1, X.2.1, by simpa [okl_cons, okv_int, okv_long, okv_null] using X.2.2⟩
theorem ev_iushr {x y : Int32} (hd : decode M.2.1 pc = .ok (.iushr, 1))  (k : ev G M R E (pc + 1) lv (.int ((x.toUInt32 >>> (y.toUInt32 &&& Int32.toUInt32 31)).toInt32) :: rest) h cells slots) : ev G M R E pc lv (.int y :: .int x :: rest) h cells slots := by
  intro p e s m args below meth c Q A ads0 C hE ads H locs ls X
  refine lv_iushr C.1.1 C.1.2.1 hd rfl ?_
  exact k p e s m args below meth c Q A ads0 C hE ads H locs ls ⟨X.1, X.2.1, by simpa [okl_cons, okv_int, okv_long, okv_null] using X.2.2⟩
theorem ev_ladd {x y : Int64} (hd : decode M.2.1 pc = .ok (.ladd, 1))  (k : ev G M R E (pc + 1) lv (.long (x + y) :: rest) h cells slots) : ev G M R E pc lv (.long y :: .long x :: rest) h cells slots := by
  intro p e s m args below meth c Q A ads0 C hE ads H locs ls X
  refine lv_ladd C.1.1 C.1.2.1 hd  ?_
  exact k p e s m args below meth c Q A ads0 C hE ads H locs ls ⟨X.1, X.2.1, by simpa [okl_cons, okv_int, okv_long, okv_null] using X.2.2⟩
theorem ev_lsub {x y : Int64} (hd : decode M.2.1 pc = .ok (.lsub, 1))  (k : ev G M R E (pc + 1) lv (.long (x - y) :: rest) h cells slots) : ev G M R E pc lv (.long y :: .long x :: rest) h cells slots := by
  intro p e s m args below meth c Q A ads0 C hE ads H locs ls X
  refine lv_lsub C.1.1 C.1.2.1 hd  ?_
  exact k p e s m args below meth c Q A ads0 C hE ads H locs ls ⟨X.1, X.2.1, by simpa [okl_cons, okv_int, okv_long, okv_null] using X.2.2⟩
theorem ev_lmul {x y : Int64} (hd : decode M.2.1 pc = .ok (.lmul, 1))  (k : ev G M R E (pc + 1) lv (.long (x * y) :: rest) h cells slots) : ev G M R E pc lv (.long y :: .long x :: rest) h cells slots := by
  intro p e s m args below meth c Q A ads0 C hE ads H locs ls X
  refine lv_lmul C.1.1 C.1.2.1 hd  ?_
  exact k p e s m args below meth c Q A ads0 C hE ads H locs ls ⟨X.1, X.2.1, by simpa [okl_cons, okv_int, okv_long, okv_null] using X.2.2⟩
theorem ev_land {x y : Int64} (hd : decode M.2.1 pc = .ok (.land, 1))  (k : ev G M R E (pc + 1) lv (.long (x &&& y) :: rest) h cells slots) : ev G M R E pc lv (.long y :: .long x :: rest) h cells slots := by
  intro p e s m args below meth c Q A ads0 C hE ads H locs ls X
  refine lv_land C.1.1 C.1.2.1 hd  ?_
  exact k p e s m args below meth c Q A ads0 C hE ads H locs ls ⟨X.1, X.2.1, by simpa [okl_cons, okv_int, okv_long, okv_null] using X.2.2⟩
theorem ev_lor {x y : Int64} (hd : decode M.2.1 pc = .ok (.lor, 1))  (k : ev G M R E (pc + 1) lv (.long (x ||| y) :: rest) h cells slots) : ev G M R E pc lv (.long y :: .long x :: rest) h cells slots := by
  intro p e s m args below meth c Q A ads0 C hE ads H locs ls X
  refine lv_lor C.1.1 C.1.2.1 hd  ?_
  exact k p e s m args below meth c Q A ads0 C hE ads H locs ls ⟨X.1, X.2.1, by simpa [okl_cons, okv_int, okv_long, okv_null] using X.2.2⟩
theorem ev_lxor {x y : Int64} (hd : decode M.2.1 pc = .ok (.lxor, 1))  (k : ev G M R E (pc + 1) lv (.long (x ^^^ y) :: rest) h cells slots) : ev G M R E pc lv (.long y :: .long x :: rest) h cells slots := by
  intro p e s m args below meth c Q A ads0 C hE ads H locs ls X
  refine lv_lxor C.1.1 C.1.2.1 hd  ?_
  exact k p e s m args below meth c Q A ads0 C hE ads H locs ls ⟨X.1, X.2.1, by simpa [okl_cons, okv_int, okv_long, okv_null] using X.2.2⟩
theorem ev_lneg {x : Int64} (hd : decode M.2.1 pc = .ok (.lneg, 1))  (k : ev G M R E (pc + 1) lv (.long (-x) :: rest) h cells slots) : ev G M R E pc lv (.long x :: rest) h cells slots := by
  intro p e s m args below meth c Q A ads0 C hE ads H locs ls X
  refine lv_lneg C.1.1 C.1.2.1 hd  ?_
  exact k p e s m args below meth c Q A ads0 C hE ads H locs ls ⟨X.1, X.2.1, by simpa [okl_cons, okv_int, okv_long, okv_null] using X.2.2⟩
theorem ev_lushr {x : Int64} {y : Int32} (hd : decode M.2.1 pc = .ok (.lushr, 1))  (k : ev G M R E (pc + 1) lv (.long ((x.toUInt64 >>> (y.toInt64.toUInt64 &&& Int64.toUInt64 63)).toInt64) :: rest) h cells slots) : ev G M R E pc lv (.int y :: .long x :: rest) h cells slots := by
  intro p e s m args below meth c Q A ads0 C hE ads H locs ls X
  refine lv_lushr C.1.1 C.1.2.1 hd rfl ?_
  exact k p e s m args below meth c Q A ads0 C hE ads H locs ls ⟨X.1, X.2.1, by simpa [okl_cons, okv_int, okv_long, okv_null] using X.2.2⟩
theorem ev_lshl {x : Int64} {y : Int32} (hd : decode M.2.1 pc = .ok (.lshl, 1))  (k : ev G M R E (pc + 1) lv (.long (x <<< (y.toInt64 &&& 63)) :: rest) h cells slots) : ev G M R E pc lv (.int y :: .long x :: rest) h cells slots := by
  intro p e s m args below meth c Q A ads0 C hE ads H locs ls X
  refine lv_lshl C.1.1 C.1.2.1 hd rfl ?_
  exact k p e s m args below meth c Q A ads0 C hE ads H locs ls ⟨X.1, X.2.1, by simpa [okl_cons, okv_int, okv_long, okv_null] using X.2.2⟩
theorem ev_lshr {x : Int64} {y : Int32} (hd : decode M.2.1 pc = .ok (.lshr, 1))  (k : ev G M R E (pc + 1) lv (.long (x >>> (y.toInt64 &&& 63)) :: rest) h cells slots) : ev G M R E pc lv (.int y :: .long x :: rest) h cells slots := by
  intro p e s m args below meth c Q A ads0 C hE ads H locs ls X
  refine lv_lshr C.1.1 C.1.2.1 hd rfl ?_
  exact k p e s m args below meth c Q A ads0 C hE ads H locs ls ⟨X.1, X.2.1, by simpa [okl_cons, okv_int, okv_long, okv_null] using X.2.2⟩
theorem ev_i2l {x : Int32} (hd : decode M.2.1 pc = .ok (.i2l, 1))  (k : ev G M R E (pc + 1) lv (.long x.toInt64 :: rest) h cells slots) : ev G M R E pc lv (.int x :: rest) h cells slots := by
  intro p e s m args below meth c Q A ads0 C hE ads H locs ls X
  refine lv_i2l C.1.1 C.1.2.1 hd rfl ?_
  exact k p e s m args below meth c Q A ads0 C hE ads H locs ls ⟨X.1, X.2.1, by simpa [okl_cons, okv_int, okv_long, okv_null] using X.2.2⟩
theorem ev_l2i {x : Int64} (hd : decode M.2.1 pc = .ok (.l2i, 1))  (k : ev G M R E (pc + 1) lv (.int x.toInt32 :: rest) h cells slots) : ev G M R E pc lv (.long x :: rest) h cells slots := by
  intro p e s m args below meth c Q A ads0 C hE ads H locs ls X
  refine lv_l2i C.1.1 C.1.2.1 hd rfl ?_
  exact k p e s m args below meth c Q A ads0 C hE ads H locs ls ⟨X.1, X.2.1, by simpa [okl_cons, okv_int, okv_long, okv_null] using X.2.2⟩
theorem ev_i2b {x : Int32} (hd : decode M.2.1 pc = .ok (.i2b, 1))  (k : ev G M R E (pc + 1) lv (.int x.toInt8.toInt32 :: rest) h cells slots) : ev G M R E pc lv (.int x :: rest) h cells slots := by
  intro p e s m args below meth c Q A ads0 C hE ads H locs ls X
  refine lv_i2b C.1.1 C.1.2.1 hd rfl ?_
  exact k p e s m args below meth c Q A ads0 C hE ads H locs ls ⟨X.1, X.2.1, by simpa [okl_cons, okv_int, okv_long, okv_null] using X.2.2⟩
theorem ev_i2s {x : Int32} (hd : decode M.2.1 pc = .ok (.i2s, 1))  (k : ev G M R E (pc + 1) lv (.int x.toInt16.toInt32 :: rest) h cells slots) : ev G M R E pc lv (.int x :: rest) h cells slots := by
  intro p e s m args below meth c Q A ads0 C hE ads H locs ls X
  refine lv_i2s C.1.1 C.1.2.1 hd rfl ?_
  exact k p e s m args below meth c Q A ads0 C hE ads H locs ls ⟨X.1, X.2.1, by simpa [okl_cons, okv_int, okv_long, okv_null] using X.2.2⟩
theorem ev_lcmp {x y : Int64} (hd : decode M.2.1 pc = .ok (.lcmp, 1))  (k : ev G M R E (pc + 1) lv (.int (lg_cmp x y) :: rest) h cells slots) : ev G M R E pc lv (.long y :: .long x :: rest) h cells slots := by
  intro p e s m args below meth c Q A ads0 C hE ads H locs ls X
  refine W.lcmp C.1.1 C.1.2.1 hd  ?_
  exact k p e s m args below meth c Q A ads0 C hE ads H locs ls ⟨X.1, X.2.1, by simpa [okl_cons, okv_int, okv_long, okv_null] using X.2.2⟩
theorem ev_ldc {index : Nat} {v : Int32} (hd : decode M.2.1 pc = .ok (.ldc index, 2)) (hc : Jvm.Cond.constant M.1.cls index v ∈ Tb) (k : ev G M R E (pc + 2) lv (.int v :: rest) h cells slots) : ev G M R E pc lv rest h cells slots := by
  intro p e s m args below meth c Q A ads0 C hE ads H locs ls X
  refine lv_ldc C.1.1 C.1.2.1 C.1.2.2.2.2.1 (C.1.2.2.2.2.2.1 _ hc) hd ?_
  exact k p e s m args below meth c Q A ads0 C hE ads H locs ls ⟨X.1, X.2.1, by simpa [okl_cons, okv_int, okv_long, okv_null] using X.2.2⟩
theorem ev_ldc2 {index : Nat} {v : Int64} (hd : decode M.2.1 pc = .ok (.ldc2_w index, 3)) (hc : Jvm.Cond.constantLong M.1.cls index v ∈ Tb) (k : ev G M R E (pc + 3) lv (.long v :: rest) h cells slots) : ev G M R E pc lv rest h cells slots := by
  intro p e s m args below meth c Q A ads0 C hE ads H locs ls X
  refine lv_ldc2 C.1.1 C.1.2.1 C.1.2.2.2.2.1 (C.1.2.2.2.2.2.1 _ hc) hd ?_
  exact k p e s m args below meth c Q A ads0 C hE ads H locs ls ⟨X.1, X.2.1, by simpa [okl_cons, okv_int, okv_long, okv_null] using X.2.2⟩
theorem ev_ldcw {index : Nat} {v : Int32} (hd : decode M.2.1 pc = .ok (.ldc_w index, 3)) (hc : Jvm.Cond.constant M.1.cls index v ∈ Tb) (k : ev G M R E (pc + 3) lv (.int v :: rest) h cells slots) : ev G M R E pc lv rest h cells slots := by
  intro p e s m args below meth c Q A ads0 C hE ads H locs ls X
  refine lv_ldcw C.1.1 C.1.2.1 C.1.2.2.2.2.1 (C.1.2.2.2.2.2.1 _ hc) hd ?_
  exact k p e s m args below meth c Q A ads0 C hE ads H locs ls ⟨X.1, X.2.1, by simpa [okl_cons, okv_int, okv_long, okv_null] using X.2.2⟩
theorem ev_dup {va : Value} (hd : decode M.2.1 pc = .ok (.dup, 1)) (hva : va.category = 1) (k : ev G M R E (pc + 1) lv (va :: va :: rest) h cells slots) : ev G M R E pc lv (va :: rest) h cells slots := by
  intro p e s m args below meth c Q A ads0 C hE ads H locs ls X
  refine lv_dup C.1.1 C.1.2.1 hd ((rv_cat _ _ _).trans hva) ?_
  exact k p e s m args below meth c Q A ads0 C hE ads H locs ls ⟨X.1, X.2.1, by have o := X.2.2; simp only [okl_cons] at o ⊢; exact ⟨o.1, o.1, o.2⟩⟩
theorem ev_pop {va : Value} (hd : decode M.2.1 pc = .ok (.pop, 1)) (hva : va.category = 1) (k : ev G M R E (pc + 1) lv (rest) h cells slots) : ev G M R E pc lv (va :: rest) h cells slots := by
  intro p e s m args below meth c Q A ads0 C hE ads H locs ls X
  refine lv_pop C.1.1 C.1.2.1 hd ((rv_cat _ _ _).trans hva) ?_
  exact k p e s m args below meth c Q A ads0 C hE ads H locs ls ⟨X.1, X.2.1, by have o := X.2.2; simp only [okl_cons] at o ⊢; exact o.2⟩
theorem ev_dup_x1 {va vb : Value} (hd : decode M.2.1 pc = .ok (.dup_x1, 1)) (hva : va.category = 1) (hvb : vb.category = 1) (k : ev G M R E (pc + 1) lv (va :: vb :: va :: rest) h cells slots) : ev G M R E pc lv (va :: vb :: rest) h cells slots := by
  intro p e s m args below meth c Q A ads0 C hE ads H locs ls X
  refine lv_dup_x1 C.1.1 C.1.2.1 hd ((rv_cat _ _ _).trans hva) ((rv_cat _ _ _).trans hvb) ?_
  exact k p e s m args below meth c Q A ads0 C hE ads H locs ls ⟨X.1, X.2.1, by have o := X.2.2; simp only [okl_cons] at o ⊢; exact ⟨o.1, o.2.1, o.1, o.2.2⟩⟩
theorem ev_dup_x2 {va vb vd : Value} (hd : decode M.2.1 pc = .ok (.dup_x2, 1)) (hva : va.category = 1) (hvb : vb.category = 1) (hvd : vd.category = 1) (k : ev G M R E (pc + 1) lv (va :: vb :: vd :: va :: rest) h cells slots) : ev G M R E pc lv (va :: vb :: vd :: rest) h cells slots := by
  intro p e s m args below meth c Q A ads0 C hE ads H locs ls X
  refine lv_dup_x2 C.1.1 C.1.2.1 hd ((rv_cat _ _ _).trans hva) ((rv_cat _ _ _).trans hvb) ((rv_cat _ _ _).trans hvd) ?_
  exact k p e s m args below meth c Q A ads0 C hE ads H locs ls ⟨X.1, X.2.1, by have o := X.2.2; simp only [okl_cons] at o ⊢; exact ⟨o.1, o.2.1, o.2.2.1, o.1, o.2.2.2⟩⟩
theorem ev_dup2 {va vb : Value} (hd : decode M.2.1 pc = .ok (.dup2, 1)) (hva : va.category = 1) (hvb : vb.category = 1) (k : ev G M R E (pc + 1) lv (va :: vb :: va :: vb :: rest) h cells slots) : ev G M R E pc lv (va :: vb :: rest) h cells slots := by
  intro p e s m args below meth c Q A ads0 C hE ads H locs ls X
  refine lv_dup2_11 C.1.1 C.1.2.1 hd ((rv_cat _ _ _).trans hva) ((rv_cat _ _ _).trans hvb) ?_
  exact k p e s m args below meth c Q A ads0 C hE ads H locs ls ⟨X.1, X.2.1, by have o := X.2.2; simp only [okl_cons] at o ⊢; exact ⟨o.1, o.2.1, o.1, o.2.1, o.2.2⟩⟩
theorem ev_dup2_2 {va : Value} (hd : decode M.2.1 pc = .ok (.dup2, 1)) (hva : va.category = 2) (k : ev G M R E (pc + 1) lv (va :: va :: rest) h cells slots) : ev G M R E pc lv (va :: rest) h cells slots := by
  intro p e s m args below meth c Q A ads0 C hE ads H locs ls X
  refine lv_dup2_2 C.1.1 C.1.2.1 hd ((rv_cat _ _ _).trans hva) ?_
  exact k p e s m args below meth c Q A ads0 C hE ads H locs ls ⟨X.1, X.2.1, by have o := X.2.2; simp only [okl_cons] at o ⊢; exact ⟨o.1, o.1, o.2⟩⟩
theorem ev_pop2_2 {va : Value} (hd : decode M.2.1 pc = .ok (.pop2, 1)) (hva : va.category = 2) (k : ev G M R E (pc + 1) lv (rest) h cells slots) : ev G M R E pc lv (va :: rest) h cells slots := by
  intro p e s m args below meth c Q A ads0 C hE ads H locs ls X
  refine lv_pop2_2 C.1.1 C.1.2.1 hd ((rv_cat _ _ _).trans hva) ?_
  exact k p e s m args below meth c Q A ads0 C hE ads H locs ls ⟨X.1, X.2.1, by have o := X.2.2; simp only [okl_cons] at o ⊢; exact o.2⟩
theorem ev_if_eq {x : Int32} {off : Int} {tgt : Nat} (hd : decode M.2.1 pc = .ok (.ifCond .eq off, 3)) (ht : (pc : Int) + off = (tgt : Int)) (kt : x = 0 → ev G M R E tgt lv rest h cells slots) (kf : ¬ x = 0 → ev G M R E (pc + 3) lv rest h cells slots) : ev G M R E pc lv (.int x :: rest) h cells slots := by
  intro p e s m args below meth c Q A ads0 C hE ads H locs ls X
  refine lv_if_eq C.1.1 C.1.2.1 hd ht (fun z => ?_) (fun z => ?_)
  · exact kt z p e s m args below meth c Q A ads0 C hE ads H locs ls ⟨X.1, X.2.1, by simpa [okl_cons, okv_int, okv_long, okv_null] using X.2.2⟩
  · exact kf z p e s m args below meth c Q A ads0 C hE ads H locs ls ⟨X.1, X.2.1, by simpa [okl_cons, okv_int, okv_long, okv_null] using X.2.2⟩
theorem ev_if_ne {x : Int32} {off : Int} {tgt : Nat} (hd : decode M.2.1 pc = .ok (.ifCond .ne off, 3)) (ht : (pc : Int) + off = (tgt : Int)) (kt : ¬ x = 0 → ev G M R E tgt lv rest h cells slots) (kf : x = 0 → ev G M R E (pc + 3) lv rest h cells slots) : ev G M R E pc lv (.int x :: rest) h cells slots := by
  intro p e s m args below meth c Q A ads0 C hE ads H locs ls X
  refine lv_if_ne C.1.1 C.1.2.1 hd ht (fun z => ?_) (fun z => ?_)
  · exact kt z p e s m args below meth c Q A ads0 C hE ads H locs ls ⟨X.1, X.2.1, by simpa [okl_cons, okv_int, okv_long, okv_null] using X.2.2⟩
  · exact kf z p e s m args below meth c Q A ads0 C hE ads H locs ls ⟨X.1, X.2.1, by simpa [okl_cons, okv_int, okv_long, okv_null] using X.2.2⟩
theorem ev_if_lt {x : Int32} {off : Int} {tgt : Nat} (hd : decode M.2.1 pc = .ok (.ifCond .lt off, 3)) (ht : (pc : Int) + off = (tgt : Int)) (kt : x < 0 → ev G M R E tgt lv rest h cells slots) (kf : ¬ x < 0 → ev G M R E (pc + 3) lv rest h cells slots) : ev G M R E pc lv (.int x :: rest) h cells slots := by
  intro p e s m args below meth c Q A ads0 C hE ads H locs ls X
  refine lv_if_lt C.1.1 C.1.2.1 hd ht (fun z => ?_) (fun z => ?_)
  · exact kt z p e s m args below meth c Q A ads0 C hE ads H locs ls ⟨X.1, X.2.1, by simpa [okl_cons, okv_int, okv_long, okv_null] using X.2.2⟩
  · exact kf z p e s m args below meth c Q A ads0 C hE ads H locs ls ⟨X.1, X.2.1, by simpa [okl_cons, okv_int, okv_long, okv_null] using X.2.2⟩
theorem ev_if_ge {x : Int32} {off : Int} {tgt : Nat} (hd : decode M.2.1 pc = .ok (.ifCond .ge off, 3)) (ht : (pc : Int) + off = (tgt : Int)) (kt : 0 ≤ x → ev G M R E tgt lv rest h cells slots) (kf : ¬ 0 ≤ x → ev G M R E (pc + 3) lv rest h cells slots) : ev G M R E pc lv (.int x :: rest) h cells slots := by
  intro p e s m args below meth c Q A ads0 C hE ads H locs ls X
  refine lv_if_ge C.1.1 C.1.2.1 hd ht (fun z => ?_) (fun z => ?_)
  · exact kt z p e s m args below meth c Q A ads0 C hE ads H locs ls ⟨X.1, X.2.1, by simpa [okl_cons, okv_int, okv_long, okv_null] using X.2.2⟩
  · exact kf z p e s m args below meth c Q A ads0 C hE ads H locs ls ⟨X.1, X.2.1, by simpa [okl_cons, okv_int, okv_long, okv_null] using X.2.2⟩
theorem ev_if_gt {x : Int32} {off : Int} {tgt : Nat} (hd : decode M.2.1 pc = .ok (.ifCond .gt off, 3)) (ht : (pc : Int) + off = (tgt : Int)) (kt : 0 < x → ev G M R E tgt lv rest h cells slots) (kf : ¬ 0 < x → ev G M R E (pc + 3) lv rest h cells slots) : ev G M R E pc lv (.int x :: rest) h cells slots := by
  intro p e s m args below meth c Q A ads0 C hE ads H locs ls X
  refine lv_if_gt C.1.1 C.1.2.1 hd ht (fun z => ?_) (fun z => ?_)
  · exact kt z p e s m args below meth c Q A ads0 C hE ads H locs ls ⟨X.1, X.2.1, by simpa [okl_cons, okv_int, okv_long, okv_null] using X.2.2⟩
  · exact kf z p e s m args below meth c Q A ads0 C hE ads H locs ls ⟨X.1, X.2.1, by simpa [okl_cons, okv_int, okv_long, okv_null] using X.2.2⟩
theorem ev_if_le {x : Int32} {off : Int} {tgt : Nat} (hd : decode M.2.1 pc = .ok (.ifCond .le off, 3)) (ht : (pc : Int) + off = (tgt : Int)) (kt : x ≤ 0 → ev G M R E tgt lv rest h cells slots) (kf : ¬ x ≤ 0 → ev G M R E (pc + 3) lv rest h cells slots) : ev G M R E pc lv (.int x :: rest) h cells slots := by
  intro p e s m args below meth c Q A ads0 C hE ads H locs ls X
  refine lv_if_le C.1.1 C.1.2.1 hd ht (fun z => ?_) (fun z => ?_)
  · exact kt z p e s m args below meth c Q A ads0 C hE ads H locs ls ⟨X.1, X.2.1, by simpa [okl_cons, okv_int, okv_long, okv_null] using X.2.2⟩
  · exact kf z p e s m args below meth c Q A ads0 C hE ads H locs ls ⟨X.1, X.2.1, by simpa [okl_cons, okv_int, okv_long, okv_null] using X.2.2⟩
theorem ev_icmp_eq {x y : Int32} {off : Int} {tgt : Nat} (hd : decode M.2.1 pc = .ok (.if_icmp .eq off, 3)) (ht : (pc : Int) + off = (tgt : Int)) (kt : x = y → ev G M R E tgt lv rest h cells slots) (kf : ¬ x = y → ev G M R E (pc + 3) lv rest h cells slots) : ev G M R E pc lv (.int y :: .int x :: rest) h cells slots := by
  intro p e s m args below meth c Q A ads0 C hE ads H locs ls X
  refine lv_icmp_eq C.1.1 C.1.2.1 hd ht (fun z => ?_) (fun z => ?_)
  · exact kt z p e s m args below meth c Q A ads0 C hE ads H locs ls ⟨X.1, X.2.1, by simpa [okl_cons, okv_int, okv_long, okv_null] using X.2.2⟩
  · exact kf z p e s m args below meth c Q A ads0 C hE ads H locs ls ⟨X.1, X.2.1, by simpa [okl_cons, okv_int, okv_long, okv_null] using X.2.2⟩
theorem ev_icmp_ne {x y : Int32} {off : Int} {tgt : Nat} (hd : decode M.2.1 pc = .ok (.if_icmp .ne off, 3)) (ht : (pc : Int) + off = (tgt : Int)) (kt : ¬ x = y → ev G M R E tgt lv rest h cells slots) (kf : x = y → ev G M R E (pc + 3) lv rest h cells slots) : ev G M R E pc lv (.int y :: .int x :: rest) h cells slots := by
  intro p e s m args below meth c Q A ads0 C hE ads H locs ls X
  refine lv_icmp_ne C.1.1 C.1.2.1 hd ht (fun z => ?_) (fun z => ?_)
  · exact kt z p e s m args below meth c Q A ads0 C hE ads H locs ls ⟨X.1, X.2.1, by simpa [okl_cons, okv_int, okv_long, okv_null] using X.2.2⟩
  · exact kf z p e s m args below meth c Q A ads0 C hE ads H locs ls ⟨X.1, X.2.1, by simpa [okl_cons, okv_int, okv_long, okv_null] using X.2.2⟩
theorem ev_icmp_lt {x y : Int32} {off : Int} {tgt : Nat} (hd : decode M.2.1 pc = .ok (.if_icmp .lt off, 3)) (ht : (pc : Int) + off = (tgt : Int)) (kt : x < y → ev G M R E tgt lv rest h cells slots) (kf : ¬ x < y → ev G M R E (pc + 3) lv rest h cells slots) : ev G M R E pc lv (.int y :: .int x :: rest) h cells slots := by
  intro p e s m args below meth c Q A ads0 C hE ads H locs ls X
  refine lv_icmp_lt C.1.1 C.1.2.1 hd ht (fun z => ?_) (fun z => ?_)
  · exact kt z p e s m args below meth c Q A ads0 C hE ads H locs ls ⟨X.1, X.2.1, by simpa [okl_cons, okv_int, okv_long, okv_null] using X.2.2⟩
  · exact kf z p e s m args below meth c Q A ads0 C hE ads H locs ls ⟨X.1, X.2.1, by simpa [okl_cons, okv_int, okv_long, okv_null] using X.2.2⟩
theorem ev_icmp_ge {x y : Int32} {off : Int} {tgt : Nat} (hd : decode M.2.1 pc = .ok (.if_icmp .ge off, 3)) (ht : (pc : Int) + off = (tgt : Int)) (kt : y ≤ x → ev G M R E tgt lv rest h cells slots) (kf : ¬ y ≤ x → ev G M R E (pc + 3) lv rest h cells slots) : ev G M R E pc lv (.int y :: .int x :: rest) h cells slots := by
  intro p e s m args below meth c Q A ads0 C hE ads H locs ls X
  refine lv_icmp_ge C.1.1 C.1.2.1 hd ht (fun z => ?_) (fun z => ?_)
  · exact kt z p e s m args below meth c Q A ads0 C hE ads H locs ls ⟨X.1, X.2.1, by simpa [okl_cons, okv_int, okv_long, okv_null] using X.2.2⟩
  · exact kf z p e s m args below meth c Q A ads0 C hE ads H locs ls ⟨X.1, X.2.1, by simpa [okl_cons, okv_int, okv_long, okv_null] using X.2.2⟩
theorem ev_icmp_gt {x y : Int32} {off : Int} {tgt : Nat} (hd : decode M.2.1 pc = .ok (.if_icmp .gt off, 3)) (ht : (pc : Int) + off = (tgt : Int)) (kt : y < x → ev G M R E tgt lv rest h cells slots) (kf : ¬ y < x → ev G M R E (pc + 3) lv rest h cells slots) : ev G M R E pc lv (.int y :: .int x :: rest) h cells slots := by
  intro p e s m args below meth c Q A ads0 C hE ads H locs ls X
  refine lv_icmp_gt C.1.1 C.1.2.1 hd ht (fun z => ?_) (fun z => ?_)
  · exact kt z p e s m args below meth c Q A ads0 C hE ads H locs ls ⟨X.1, X.2.1, by simpa [okl_cons, okv_int, okv_long, okv_null] using X.2.2⟩
  · exact kf z p e s m args below meth c Q A ads0 C hE ads H locs ls ⟨X.1, X.2.1, by simpa [okl_cons, okv_int, okv_long, okv_null] using X.2.2⟩
theorem ev_icmp_le {x y : Int32} {off : Int} {tgt : Nat} (hd : decode M.2.1 pc = .ok (.if_icmp .le off, 3)) (ht : (pc : Int) + off = (tgt : Int)) (kt : x ≤ y → ev G M R E tgt lv rest h cells slots) (kf : ¬ x ≤ y → ev G M R E (pc + 3) lv rest h cells slots) : ev G M R E pc lv (.int y :: .int x :: rest) h cells slots := by
  intro p e s m args below meth c Q A ads0 C hE ads H locs ls X
  refine lv_icmp_le C.1.1 C.1.2.1 hd ht (fun z => ?_) (fun z => ?_)
  · exact kt z p e s m args below meth c Q A ads0 C hE ads H locs ls ⟨X.1, X.2.1, by simpa [okl_cons, okv_int, okv_long, okv_null] using X.2.2⟩
  · exact kf z p e s m args below meth c Q A ads0 C hE ads H locs ls ⟨X.1, X.2.1, by simpa [okl_cons, okv_int, okv_long, okv_null] using X.2.2⟩
theorem ev_goto {off : Int} {tgt : Nat} (hd : decode M.2.1 pc = .ok (.goto off, 3)) (ht : (pc : Int) + off = (tgt : Int)) (k : ev G M R E tgt lv rest h cells slots) : ev G M R E pc lv rest h cells slots := by
  intro p e s m args below meth c Q A ads0 C hE ads H locs ls X
  refine lv_goto C.1.1 C.1.2.1 hd ht ?_
  exact k p e s m args below meth c Q A ads0 C hE ads H locs ls X
theorem ev_ifnonnull {x : Nat} {off : Int} {tgt : Nat} (hd : decode M.2.1 pc = .ok (.ifnonnull off, 3)) (ht : (pc : Int) + off = (tgt : Int)) (k : ev G M R E tgt lv rest h cells slots) : ev G M R E pc lv (.ref x :: rest) h cells slots := by
  intro p e s m args below meth c Q A ads0 C hE ads H locs ls X
  refine lv_ifnonnull C.1.1 C.1.2.1 hd ht ?_
  exact k p e s m args below meth c Q A ads0 C hE ads H locs ls ⟨X.1, X.2.1, by have o := X.2.2; rw [okl_cons] at o; exact o.2⟩
theorem ev_ifnull {x : Nat} {off : Int} (hd : decode M.2.1 pc = .ok (.ifnull off, 3))  (k : ev G M R E (pc + 3) lv rest h cells slots) : ev G M R E pc lv (.ref x :: rest) h cells slots := by
  intro p e s m args below meth c Q A ads0 C hE ads H locs ls X
  refine lv_ifnull C.1.1 C.1.2.1 hd  ?_
  exact k p e s m args below meth c Q A ads0 C hE ads H locs ls ⟨X.1, X.2.1, by have o := X.2.2; rw [okl_cons] at o; exact o.2⟩
theorem ev_ifnullN {x : Nat} {off : Int} {tgt : Nat} (hd : decode M.2.1 pc = .ok (.ifnull off, 3)) (ht : (pc : Int) + off = (tgt : Int)) (k : ev G M R E tgt lv rest h cells slots) : ev G M R E pc lv (.null :: rest) h cells slots := by
  intro p e s m args below meth c Q A ads0 C hE ads H locs ls X
  refine lv_ifnullN C.1.1 C.1.2.1 hd ht ?_
  exact k p e s m args below meth c Q A ads0 C hE ads H locs ls ⟨X.1, X.2.1, by have o := X.2.2; rw [okl_cons] at o; exact o.2⟩
theorem ev_ifnonnullN {x : Nat} {off : Int} (hd : decode M.2.1 pc = .ok (.ifnonnull off, 3))  (k : ev G M R E (pc + 3) lv rest h cells slots) : ev G M R E pc lv (.null :: rest) h cells slots := by
  intro p e s m args below meth c Q A ads0 C hE ads H locs ls X
  refine lv_ifnonnullN C.1.1 C.1.2.1 hd  ?_
  exact k p e s m args below meth c Q A ads0 C hE ads H locs ls ⟨X.1, X.2.1, by have o := X.2.2; rw [okl_cons] at o; exact o.2⟩
theorem ev_tableOut {dflt lo hi : Int} {offs : Array Int} {len : Nat} {x : Int32} {tgt : Nat} (hd : decode M.2.1 pc = .ok (.tableswitch dflt lo hi offs, len)) (hx : x.toInt < lo ∨ hi < x.toInt) (ht : (pc : Int) + dflt = (tgt : Int)) (k : ev G M R E tgt lv rest h cells slots) : ev G M R E pc lv (.int x :: rest) h cells slots := by
  intro p e s m args below meth c Q A ads0 C hE ads H locs ls X
  refine lv_tableOut C.1.1 C.1.2.1 hd hx ht ?_
  exact k p e s m args below meth c Q A ads0 C hE ads H locs ls ⟨X.1, X.2.1, by have o := X.2.2; rw [okl_cons] at o; exact o.2⟩
theorem ev_tableIn {dflt lo hi : Int} {offs : Array Int} {len : Nat} {x : Int32} {off : Int} {tgt : Nat} (hd : decode M.2.1 pc = .ok (.tableswitch dflt lo hi offs, len)) (h1 : ¬ x.toInt < lo) (h2 : ¬ hi < x.toInt) (ho : offs[(x.toInt - lo).toNat]? = some off) (ht : (pc : Int) + off = (tgt : Int)) (k : ev G M R E tgt lv rest h cells slots) : ev G M R E pc lv (.int x :: rest) h cells slots := by
  intro p e s m args below meth c Q A ads0 C hE ads H locs ls X
  refine lv_tableIn C.1.1 C.1.2.1 hd h1 h2 ho ht ?_
  exact k p e s m args below meth c Q A ads0 C hE ads H locs ls ⟨X.1, X.2.1, by have o := X.2.2; rw [okl_cons] at o; exact o.2⟩
theorem ev_lookup {dflt : Int} {ps : Array (Int × Int)} {len : Nat} {x : Int32} {off : Int} {tgt : Nat} (hd : decode M.2.1 pc = .ok (.lookupswitch dflt ps, len)) (hp : (ps.toList.zip (ps.toList.drop 1)).all (fun (a, next) => a.1 < next.1) = true) (ho : Op.lookupswitch.offset ps.toList dflt x.toInt = off) (ht : (pc : Int) + off = (tgt : Int)) (k : ev G M R E tgt lv rest h cells slots) : ev G M R E pc lv (.int x :: rest) h cells slots := by
  intro p e s m args below meth c Q A ads0 C hE ads H locs ls X
  refine lv_lookup C.1.1 C.1.2.1 hd hp ho ht ?_
  exact k p e s m args below meth c Q A ads0 C hE ads H locs ls ⟨X.1, X.2.1, by have o := X.2.2; rw [okl_cons] at o; exact o.2⟩
theorem ev_iload_n {k4 : Fin 4} {i : Nat} {x : Int32} (hd : decode M.2.1 pc = .ok (.iload_n k4, 1)) (hi : (k4 : Nat) = i) (hl : lg lv i = some (.int x)) (k : ev G M R E (pc + 1) lv (.int x :: rest) h cells slots) : ev G M R E pc lv rest h cells slots := by
  intro p e s m args below meth c Q A ads0 C hE ads H locs ls X
  refine lv_iload_n C.1.1 C.1.2.1 hd hi (lg_at X.2.1.1 hl) ?_
  exact k p e s m args below meth c Q A ads0 C hE ads H locs ls ⟨X.1, X.2.1, okl_cons.mpr ⟨X.2.1.2 _ (lg_mem hl), X.2.2⟩⟩
theorem ev_iload {i : Nat} {x : Int32} (hd : decode M.2.1 pc = .ok (.iload i, 2))  (hl : lg lv i = some (.int x)) (k : ev G M R E (pc + 2) lv (.int x :: rest) h cells slots) : ev G M R E pc lv rest h cells slots := by
  intro p e s m args below meth c Q A ads0 C hE ads H locs ls X
  refine lv_iload C.1.1 C.1.2.1 hd  (lg_at X.2.1.1 hl) ?_
  exact k p e s m args below meth c Q A ads0 C hE ads H locs ls ⟨X.1, X.2.1, okl_cons.mpr ⟨X.2.1.2 _ (lg_mem hl), X.2.2⟩⟩
theorem ev_lload_n {k4 : Fin 4} {i : Nat} {x : Int64} (hd : decode M.2.1 pc = .ok (.lload_n k4, 1)) (hi : (k4 : Nat) = i) (hl : lg lv i = some (.long x)) (k : ev G M R E (pc + 1) lv (.long x :: rest) h cells slots) : ev G M R E pc lv rest h cells slots := by
  intro p e s m args below meth c Q A ads0 C hE ads H locs ls X
  refine lv_lload_n C.1.1 C.1.2.1 hd hi (lg_at X.2.1.1 hl) ?_
  exact k p e s m args below meth c Q A ads0 C hE ads H locs ls ⟨X.1, X.2.1, okl_cons.mpr ⟨X.2.1.2 _ (lg_mem hl), X.2.2⟩⟩
theorem ev_lload {i : Nat} {x : Int64} (hd : decode M.2.1 pc = .ok (.lload i, 2))  (hl : lg lv i = some (.long x)) (k : ev G M R E (pc + 2) lv (.long x :: rest) h cells slots) : ev G M R E pc lv rest h cells slots := by
  intro p e s m args below meth c Q A ads0 C hE ads H locs ls X
  refine lv_lload C.1.1 C.1.2.1 hd  (lg_at X.2.1.1 hl) ?_
  exact k p e s m args below meth c Q A ads0 C hE ads H locs ls ⟨X.1, X.2.1, okl_cons.mpr ⟨X.2.1.2 _ (lg_mem hl), X.2.2⟩⟩
theorem ev_aload_n {k4 : Fin 4} {i : Nat} {x : Nat} (hd : decode M.2.1 pc = .ok (.aload_n k4, 1)) (hi : (k4 : Nat) = i) (hl : lg lv i = some (.ref x)) (k : ev G M R E (pc + 1) lv (.ref x :: rest) h cells slots) : ev G M R E pc lv rest h cells slots := by
  intro p e s m args below meth c Q A ads0 C hE ads H locs ls X
  refine lv_aload_n C.1.1 C.1.2.1 hd hi (lg_at X.2.1.1 hl) ?_
  exact k p e s m args below meth c Q A ads0 C hE ads H locs ls ⟨X.1, X.2.1, okl_cons.mpr ⟨X.2.1.2 _ (lg_mem hl), X.2.2⟩⟩
theorem ev_aload {i : Nat} {x : Nat} (hd : decode M.2.1 pc = .ok (.aload i, 2))  (hl : lg lv i = some (.ref x)) (k : ev G M R E (pc + 2) lv (.ref x :: rest) h cells slots) : ev G M R E pc lv rest h cells slots := by
  intro p e s m args below meth c Q A ads0 C hE ads H locs ls X
  refine lv_aload C.1.1 C.1.2.1 hd  (lg_at X.2.1.1 hl) ?_
  exact k p e s m args below meth c Q A ads0 C hE ads H locs ls ⟨X.1, X.2.1, okl_cons.mpr ⟨X.2.1.2 _ (lg_mem hl), X.2.2⟩⟩
theorem ev_aload_nN {k4 : Fin 4} {i : Nat}  (hd : decode M.2.1 pc = .ok (.aload_n k4, 1)) (hi : (k4 : Nat) = i) (hl : lg lv i = some (.null)) (k : ev G M R E (pc + 1) lv (.null :: rest) h cells slots) : ev G M R E pc lv rest h cells slots := by
  intro p e s m args below meth c Q A ads0 C hE ads H locs ls X
  refine lv_aload_nN C.1.1 C.1.2.1 hd hi (lg_at X.2.1.1 hl) ?_
  exact k p e s m args below meth c Q A ads0 C hE ads H locs ls ⟨X.1, X.2.1, okl_cons.mpr ⟨X.2.1.2 _ (lg_mem hl), X.2.2⟩⟩
theorem ev_aloadN {i : Nat}  (hd : decode M.2.1 pc = .ok (.aload i, 2))  (hl : lg lv i = some (.null)) (k : ev G M R E (pc + 2) lv (.null :: rest) h cells slots) : ev G M R E pc lv rest h cells slots := by
  intro p e s m args below meth c Q A ads0 C hE ads H locs ls X
  refine lv_aloadN C.1.1 C.1.2.1 hd  (lg_at X.2.1.1 hl) ?_
  exact k p e s m args below meth c Q A ads0 C hE ads H locs ls ⟨X.1, X.2.1, okl_cons.mpr ⟨X.2.1.2 _ (lg_mem hl), X.2.2⟩⟩
theorem ev_istore_n {k4 : Fin 4} {i : Nat} {x : Int32} (hd : decode M.2.1 pc = .ok (.istore_n k4, 1)) (hi : (k4 : Nat) = i) (hn : i < M.2.2.1) (k : ev G M R E (pc + 1) (ls1 lv i (.int x)) rest h cells slots) : ev G M R E pc lv (.int x :: rest) h cells slots := by
  intro p e s m args below meth c Q A ads0 C hE ads H locs ls X
  refine lv_istore_n (lv' := lvr ads G.2.2.2.1 (ls1 lv i (.int x))) C.1.1 C.1.2.1 hd hi X.2.1.1 hn (ls1_r ads G.2.2.2.1 lv i (.int x)) (fun ls' hl' => ?_)
  exact k p e s m args below meth c Q A ads0 C hE ads H locs ls' ⟨X.1, ⟨hl', ls1_ok X.2.1.2 (okl_cons.mp X.2.2).1⟩, (okl_cons.mp X.2.2).2⟩
theorem ev_istore {i : Nat} {x : Int32} (hd : decode M.2.1 pc = .ok (.istore i, 2))  (hn : i < M.2.2.1) (k : ev G M R E (pc + 2) (ls1 lv i (.int x)) rest h cells slots) : ev G M R E pc lv (.int x :: rest) h cells slots := by
  intro p e s m args below meth c Q A ads0 C hE ads H locs ls X
  refine lv_istore (lv' := lvr ads G.2.2.2.1 (ls1 lv i (.int x))) C.1.1 C.1.2.1 hd  X.2.1.1 hn (ls1_r ads G.2.2.2.1 lv i (.int x)) (fun ls' hl' => ?_)
  exact k p e s m args below meth c Q A ads0 C hE ads H locs ls' ⟨X.1, ⟨hl', ls1_ok X.2.1.2 (okl_cons.mp X.2.2).1⟩, (okl_cons.mp X.2.2).2⟩
theorem ev_lstore_n {k4 : Fin 4} {i : Nat} {x : Int64} (hd : decode M.2.1 pc = .ok (.lstore_n k4, 1)) (hi : (k4 : Nat) = i) (hn : i + 1 < M.2.2.1) (k : ev G M R E (pc + 1) (ls2 lv i (.long x)) rest h cells slots) : ev G M R E pc lv (.long x :: rest) h cells slots := by
  intro p e s m args below meth c Q A ads0 C hE ads H locs ls X
  refine lv_lstore_n (lv' := lvr ads G.2.2.2.1 (ls2 lv i (.long x))) C.1.1 C.1.2.1 hd hi X.2.1.1 hn (ls2_r ads G.2.2.2.1 lv i (.long x)) (fun ls' hl' => ?_)
  exact k p e s m args below meth c Q A ads0 C hE ads H locs ls' ⟨X.1, ⟨hl', ls2_ok X.2.1.2 (okl_cons.mp X.2.2).1⟩, (okl_cons.mp X.2.2).2⟩
theorem ev_lstore {i : Nat} {x : Int64} (hd : decode M.2.1 pc = .ok (.lstore i, 2))  (hn : i + 1 < M.2.2.1) (k : ev G M R E (pc + 2) (ls2 lv i (.long x)) rest h cells slots) : ev G M R E pc lv (.long x :: rest) h cells slots := by
  intro p e s m args below meth c Q A ads0 C hE ads H locs ls X
  refine lv_lstore (lv' := lvr ads G.2.2.2.1 (ls2 lv i (.long x))) C.1.1 C.1.2.1 hd  X.2.1.1 hn (ls2_r ads G.2.2.2.1 lv i (.long x)) (fun ls' hl' => ?_)
  exact k p e s m args below meth c Q A ads0 C hE ads H locs ls' ⟨X.1, ⟨hl', ls2_ok X.2.1.2 (okl_cons.mp X.2.2).1⟩, (okl_cons.mp X.2.2).2⟩
theorem ev_astore_n {k4 : Fin 4} {i : Nat} {x : Nat} (hd : decode M.2.1 pc = .ok (.astore_n k4, 1)) (hi : (k4 : Nat) = i) (hn : i < M.2.2.1) (k : ev G M R E (pc + 1) (ls1 lv i (.ref x)) rest h cells slots) : ev G M R E pc lv (.ref x :: rest) h cells slots := by
  intro p e s m args below meth c Q A ads0 C hE ads H locs ls X
  refine lv_astore_n (lv' := lvr ads G.2.2.2.1 (ls1 lv i (.ref x))) C.1.1 C.1.2.1 hd hi X.2.1.1 hn (ls1_r ads G.2.2.2.1 lv i (.ref x)) (fun ls' hl' => ?_)
  exact k p e s m args below meth c Q A ads0 C hE ads H locs ls' ⟨X.1, ⟨hl', ls1_ok X.2.1.2 (okl_cons.mp X.2.2).1⟩, (okl_cons.mp X.2.2).2⟩
theorem ev_astore {i : Nat} {x : Nat} (hd : decode M.2.1 pc = .ok (.astore i, 2))  (hn : i < M.2.2.1) (k : ev G M R E (pc + 2) (ls1 lv i (.ref x)) rest h cells slots) : ev G M R E pc lv (.ref x :: rest) h cells slots := by
  intro p e s m args below meth c Q A ads0 C hE ads H locs ls X
  refine lv_astore (lv' := lvr ads G.2.2.2.1 (ls1 lv i (.ref x))) C.1.1 C.1.2.1 hd  X.2.1.1 hn (ls1_r ads G.2.2.2.1 lv i (.ref x)) (fun ls' hl' => ?_)
  exact k p e s m args below meth c Q A ads0 C hE ads H locs ls' ⟨X.1, ⟨hl', ls1_ok X.2.1.2 (okl_cons.mp X.2.2).1⟩, (okl_cons.mp X.2.2).2⟩
theorem ev_astore_nN {k4 : Fin 4} {i : Nat}  (hd : decode M.2.1 pc = .ok (.astore_n k4, 1)) (hi : (k4 : Nat) = i) (hn : i < M.2.2.1) (k : ev G M R E (pc + 1) (ls1 lv i (.null)) rest h cells slots) : ev G M R E pc lv (.null :: rest) h cells slots := by
  intro p e s m args below meth c Q A ads0 C hE ads H locs ls X
  refine lv_astore_nN (lv' := lvr ads G.2.2.2.1 (ls1 lv i (.null))) C.1.1 C.1.2.1 hd hi X.2.1.1 hn (ls1_r ads G.2.2.2.1 lv i (.null)) (fun ls' hl' => ?_)
  exact k p e s m args below meth c Q A ads0 C hE ads H locs ls' ⟨X.1, ⟨hl', ls1_ok X.2.1.2 (okl_cons.mp X.2.2).1⟩, (okl_cons.mp X.2.2).2⟩
theorem ev_astoreN {i : Nat}  (hd : decode M.2.1 pc = .ok (.astore i, 2))  (hn : i < M.2.2.1) (k : ev G M R E (pc + 2) (ls1 lv i (.null)) rest h cells slots) : ev G M R E pc lv (.null :: rest) h cells slots := by
  intro p e s m args below meth c Q A ads0 C hE ads H locs ls X
  refine lv_astoreN (lv' := lvr ads G.2.2.2.1 (ls1 lv i (.null))) C.1.1 C.1.2.1 hd  X.2.1.1 hn (ls1_r ads G.2.2.2.1 lv i (.null)) (fun ls' hl' => ?_)
  exact k p e s m args below meth c Q A ads0 C hE ads H locs ls' ⟨X.1, ⟨hl', ls1_ok X.2.1.2 (okl_cons.mp X.2.2).1⟩, (okl_cons.mp X.2.2).2⟩
theorem ev_iinc {i : Nat} {n : Int} {x c0 : Int32} (hd : decode M.2.1 pc = .ok (.iinc i n, 3)) (hc0 : Int32.ofInt n = c0) (hl : lg lv i = some (.int x)) (hn : i < M.2.2.1) (k : ev G M R E (pc + 3) (ls1 lv i (.int (x + c0))) rest h cells slots) : ev G M R E pc lv rest h cells slots := by
  subst hc0
  intro p e s m args below meth c Q A ads0 C hE ads H locs ls X
  obtain ⟨j, hj⟩ := List.getElem?_of_mem (lg_mem hl)
  have hj' : (lvr ads G.2.2.2.1 lv)[j]? = some (i, .int x) := by simp [lvr, hj, rv]
  refine lv_iinc (v := x + Int32.ofInt n) (lv' := lvr ads G.2.2.2.1 (ls1 lv i (.int (x + Int32.ofInt n)))) C.1.1 C.1.2.1 hd X.2.1.1 hj' rfl hn (ls1_r ads G.2.2.2.1 lv i (.int (x + Int32.ofInt n))) (fun ls' hl' => ?_)
  exact k p e s m args below meth c Q A ads0 C hE ads H locs ls' ⟨X.1, ⟨hl', ls1_ok X.2.1.2 okv_int⟩, X.2.2⟩
theorem ev_exit {st : List Value} (h0 : E pc lv st h cells slots) : ev G M R E pc lv st h cells slots := by
  intro p e s m args below meth c Q A ads0 C hE ads H locs ls X
  exact hE pc lv st h cells slots ads H locs ls h0 X
theorem ev_trans {E' : Nat → LV → List Value → HP → Nat → Nat → Prop} {st : List Value} (h1 : ev G M R E pc lv st h cells slots) (h2 : ∀ pc lv st h cells slots, E pc lv st h cells slots → ev G M R E' pc lv st h cells slots) : ev G M R E' pc lv st h cells slots := by
  intro p e s m args below meth c Q A ads0 C hE ads H locs ls X
  exact h1 p e s m args below meth c Q A ads0 C (fun pc lv st h cells slots ads H locs ls hx hw => h2 pc lv st h cells slots hx p e s m args below meth c Q A ads0 C hE ads H locs ls hw) ads H locs ls X
end EVR
