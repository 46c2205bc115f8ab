section TRB
variable {C : CtxT} {kb nb pc pc' : Nat} {lv : List (Option Value)} {st : List Value} {w : List va_E}

theorem Tr.iconst {n : Int} {v : Int32} (hd : decode C.2.1.2.1 pc = .ok (.iconst n, 1)) (hv : Int32.ofInt n = v) (hp : pc + 1 = pc') (k : Tr C kb nb pc' lv (.int v :: st) w) : Tr C kb nb pc lv (st) w := by
  subst hp
  exact Tr.pure (fun hx hb k => lv_iconst hx hb hd hv k) k
theorem Tr.bipush {n : Int} {v : Int32} (hd : decode C.2.1.2.1 pc = .ok (.bipush n, 2)) (hv : (Int8.ofInt n).toInt32 = v) (hp : pc + 2 = pc') (k : Tr C kb nb pc' lv (.int v :: st) w) : Tr C kb nb pc lv (st) w := by
  subst hp
  exact Tr.pure (fun hx hb k => lv_bipush hx hb hd hv k) k
theorem Tr.sipush {n : Int} {v : Int32} (hd : decode C.2.1.2.1 pc = .ok (.sipush n, 3)) (hv : (Int16.ofInt n).toInt32 = v) (hp : pc + 3 = pc') (k : Tr C kb nb pc' lv (.int v :: st) w) : Tr C kb nb pc lv (st) w := by
  subst hp
  exact Tr.pure (fun hx hb k => lv_sipush hx hb hd hv k) k
theorem Tr.lconst {n : Fin 2} {v : Int64} (hd : decode C.2.1.2.1 pc = .ok (.lconst n, 1)) (hv : Int64.ofNat (n : Nat) = v) (hp : pc + 1 = pc') (k : Tr C kb nb pc' lv (.long v :: st) w) : Tr C kb nb pc lv (st) w := by
  subst hp
  exact Tr.pure (fun hx hb k => lv_lconst hx hb hd hv k) k
theorem Tr.iadd {x y : Int32} (hd : decode C.2.1.2.1 pc = .ok (.iadd, 1)) (hp : pc + 1 = pc') (k : Tr C kb nb pc' lv (.int (x + y) :: st) w) : Tr C kb nb pc lv (.int y :: .int x :: st) w := by
  subst hp
  exact Tr.pure (fun hx hb k => lv_iadd hx hb hd k) k
theorem Tr.isub {x y : Int32} (hd : decode C.2.1.2.1 pc = .ok (.isub, 1)) (hp : pc + 1 = pc') (k : Tr C kb nb pc' lv (.int (x - y) :: st) w) : Tr C kb nb pc lv (.int y :: .int x :: st) w := by
  subst hp
  exact Tr.pure (fun hx hb k => lv_isub hx hb hd k) k
theorem Tr.imul {x y : Int32} (hd : decode C.2.1.2.1 pc = .ok (.imul, 1)) (hp : pc + 1 = pc') (k : Tr C kb nb pc' lv (.int (x * y) :: st) w) : Tr C kb nb pc lv (.int y :: .int x :: st) w := by
  subst hp
  exact Tr.pure (fun hx hb k => lv_imul hx hb hd k) k
theorem Tr.iand {x y : Int32} (hd : decode C.2.1.2.1 pc = .ok (.iand, 1)) (hp : pc + 1 = pc') (k : Tr C kb nb pc' lv (.int (x &&& y) :: st) w) : Tr C kb nb pc lv (.int y :: .int x :: st) w := by
  subst hp
  exact Tr.pure (fun hx hb k => lv_iand hx hb hd k) k
theorem Tr.ior {x y : Int32} (hd : decode C.2.1.2.1 pc = .ok (.ior, 1)) (hp : pc + 1 = pc') (k : Tr C kb nb pc' lv (.int (x ||| y) :: st) w) : Tr C kb nb pc lv (.int y :: .int x :: st) w := by
  subst hp
  exact Tr.pure (fun hx hb k => lv_ior hx hb hd k) k
theorem Tr.ixor {x y : Int32} (hd : decode C.2.1.2.1 pc = .ok (.ixor, 1)) (hp : pc + 1 = pc') (k : Tr C kb nb pc' lv (.int (x ^^^ y) :: st) w) : Tr C kb nb pc lv (.int y :: .int x :: st) w := by
  subst hp
  exact Tr.pure (fun hx hb k => lv_ixor hx hb hd k) k
theorem Tr.ishl {x y : Int32} (hd : decode C.2.1.2.1 pc = .ok (.ishl, 1)) (hp : pc + 1 = pc') (k : Tr C kb nb pc' lv (.int (x <<< (y &&& 31)) :: st) w) : Tr C kb nb pc lv (.int y :: .int x :: st) w := by
  subst hp
  exact Tr.pure (fun hx hb k => lv_ishl hx hb hd k) k
theorem Tr.ishr {x y : Int32} (hd : decode C.2.1.2.1 pc = .ok (.ishr, 1)) (hp : pc + 1 = pc') (k : Tr C kb nb pc' lv (.int (x >>> (y &&& 31)) :: st) w) : Tr C kb nb pc lv (.int y :: .int x :: st) w := by
  subst hp
  exact Tr.pure (fun hx hb k => lv_ishr hx hb hd k) k
theorem Tr.iushr {x y v : Int32} (hd : decode C.2.1.2.1 pc = .ok (.iushr, 1)) (hv : (x.toUInt32 >>> (y.toUInt32 &&& Int32.toUInt32 31)).toInt32 = v) (hp : pc + 1 = pc') (k : Tr C kb nb pc' lv (.int v :: st) w) : Tr C kb nb pc lv (.int y :: .int x :: st) w := by
  subst hp
  exact Tr.pure (fun hx hb k => lv_iushr hx hb hd hv k) k
theorem Tr.idiv {x y : Int32} (hd : decode C.2.1.2.1 pc = .ok (.idiv, 1)) (hne : ¬ y = 0) (hp : pc + 1 = pc') (k : Tr C kb nb pc' lv (.int (x / y) :: st) w) : Tr C kb nb pc lv (.int y :: .int x :: st) w := by
  subst hp
  exact Tr.pure (fun hx hb k => lv_idiv hx hb hd hne k) k
theorem Tr.irem {x y : Int32} (hd : decode C.2.1.2.1 pc = .ok (.irem, 1)) (hne : ¬ y = 0) (hp : pc + 1 = pc') (k : Tr C kb nb pc' lv (.int (x - x / y * y) :: st) w) : Tr C kb nb pc lv (.int y :: .int x :: st) w := by
  subst hp
  exact Tr.pure (fun hx hb k => lv_irem hx hb hd hne k) k
theorem Tr.ladd {x y : Int64} (hd : decode C.2.1.2.1 pc = .ok (.ladd, 1)) (hp : pc + 1 = pc') (k : Tr C kb nb pc' lv (.long (x + y) :: st) w) : Tr C kb nb pc lv (.long y :: .long x :: st) w := by
  subst hp
  exact Tr.pure (fun hx hb k => lv_ladd hx hb hd k) k
theorem Tr.lsub {x y : Int64} (hd : decode C.2.1.2.1 pc = .ok (.lsub, 1)) (hp : pc + 1 = pc') (k : Tr C kb nb pc' lv (.long (x - y) :: st) w) : Tr C kb nb pc lv (.long y :: .long x :: st) w := by
  subst hp
  exact Tr.pure (fun hx hb k => lv_lsub hx hb hd k) k
theorem Tr.lmul {x y : Int64} (hd : decode C.2.1.2.1 pc = .ok (.lmul, 1)) (hp : pc + 1 = pc') (k : Tr C kb nb pc' lv (.long (x * y) :: st) w) : Tr C kb nb pc lv (.long y :: .long x :: st) w := by
  subst hp
  exact Tr.pure (fun hx hb k => lv_lmul hx hb hd k) k
theorem Tr.land {x y : Int64} (hd : decode C.2.1.2.1 pc = .ok (.land, 1)) (hp : pc + 1 = pc') (k : Tr C kb nb pc' lv (.long (x &&& y) :: st) w) : Tr C kb nb pc lv (.long y :: .long x :: st) w := by
  subst hp
  exact Tr.pure (fun hx hb k => lv_land hx hb hd k) k
theorem Tr.lor {x y : Int64} (hd : decode C.2.1.2.1 pc = .ok (.lor, 1)) (hp : pc + 1 = pc') (k : Tr C kb nb pc' lv (.long (x ||| y) :: st) w) : Tr C kb nb pc lv (.long y :: .long x :: st) w := by
  subst hp
  exact Tr.pure (fun hx hb k => lv_lor hx hb hd k) k
theorem Tr.ldiv {x y : Int64} (hd : decode C.2.1.2.1 pc = .ok (.ldiv, 1)) (hne : ¬ y = 0) (hp : pc + 1 = pc') (k : Tr C kb nb pc' lv (.long (x / y) :: st) w) : Tr C kb nb pc lv (.long y :: .long x :: st) w := by
  subst hp
  exact Tr.pure (fun hx hb k => lv_ldiv hx hb hd hne k) k
theorem Tr.lrem {x y : Int64} (hd : decode C.2.1.2.1 pc = .ok (.lrem, 1)) (hne : ¬ y = 0) (hp : pc + 1 = pc') (k : Tr C kb nb pc' lv (.long (x - x / y * y) :: st) w) : Tr C kb nb pc lv (.long y :: .long x :: st) w := by
  subst hp
  exact Tr.pure (fun hx hb k => lv_lrem hx hb hd hne k) k
theorem Tr.lshl {x v : Int64} {y : Int32} (hd : decode C.2.1.2.1 pc = .ok (.lshl, 1)) (hv : x <<< (y.toInt64 &&& 63) = v) (hp : pc + 1 = pc') (k : Tr C kb nb pc' lv (.long v :: st) w) : Tr C kb nb pc lv (.int y :: .long x :: st) w := by
  subst hp
  exact Tr.pure (fun hx hb k => lv_lshl hx hb hd hv k) k
theorem Tr.i2l {x : Int32} {v : Int64} (hd : decode C.2.1.2.1 pc = .ok (.i2l, 1)) (hv : x.toInt64 = v) (hp : pc + 1 = pc') (k : Tr C kb nb pc' lv (.long v :: st) w) : Tr C kb nb pc lv (.int x :: st) w := by
  subst hp
  exact Tr.pure (fun hx hb k => lv_i2l hx hb hd hv k) k
theorem Tr.l2i {x : Int64} {v : Int32} (hd : decode C.2.1.2.1 pc = .ok (.l2i, 1)) (hv : x.toInt32 = v) (hp : pc + 1 = pc') (k : Tr C kb nb pc' lv (.int v :: st) w) : Tr C kb nb pc lv (.long x :: st) w := by
  subst hp
  exact Tr.pure (fun hx hb k => lv_l2i hx hb hd hv k) k
theorem Tr.i2b {x v : Int32} (hd : decode C.2.1.2.1 pc = .ok (.i2b, 1)) (hv : x.toInt8.toInt32 = v) (hp : pc + 1 = pc') (k : Tr C kb nb pc' lv (.int v :: st) w) : Tr C kb nb pc lv (.int x :: st) w := by
  subst hp
  exact Tr.pure (fun hx hb k => lv_i2b hx hb hd hv k) k
theorem Tr.i2c {x v : Int32} (hd : decode C.2.1.2.1 pc = .ok (.i2c, 1)) (hv : (x.toUInt32 % 65536).toInt32 = v) (hp : pc + 1 = pc') (k : Tr C kb nb pc' lv (.int v :: st) w) : Tr C kb nb pc lv (.int x :: st) w := by
  subst hp
  exact Tr.pure (fun hx hb k => lv_i2c hx hb hd hv k) k
theorem Tr.lcmp {x y : Int64} (hd : decode C.2.1.2.1 pc = .ok (.lcmp, 1)) (hp : pc + 1 = pc') (k : Tr C kb nb pc' lv (.int (lg_cmp x y) :: st) w) : Tr C kb nb pc lv (.long y :: .long x :: st) w := by
  subst hp
  exact Tr.pure (fun hx hb k => W.lcmp hx hb hd k) k
theorem Tr.dup {a : Value} (hd : decode C.2.1.2.1 pc = .ok (.dup, 1)) (ha : a.category = 1) (hp : pc + 1 = pc') (k : Tr C kb nb pc' lv (a :: a :: st) w) : Tr C kb nb pc lv (a :: st) w := by
  subst hp
  exact Tr.pure (fun hx hb k => lv_dup hx hb hd ha k) k
theorem Tr.pop {a : Value} (hd : decode C.2.1.2.1 pc = .ok (.pop, 1)) (ha : a.category = 1) (hp : pc + 1 = pc') (k : Tr C kb nb pc' lv (st) w) : Tr C kb nb pc lv (a :: st) w := by
  subst hp
  exact Tr.pure (fun hx hb k => lv_pop hx hb hd ha k) k
theorem Tr.dup2 {a b : Value} (hd : decode C.2.1.2.1 pc = .ok (.dup2, 1)) (ha : a.category = 1) (hb2 : b.category = 1) (hp : pc + 1 = pc') (k : Tr C kb nb pc' lv (a :: b :: a :: b :: st) w) : Tr C kb nb pc lv (a :: b :: st) w := by
  subst hp
  exact Tr.pure (fun hx hb k => lv_dup2_11 hx hb hd ha hb2 k) k
theorem nI_mul (a b : Nat) : nI a * nI b = nI (a * b) := by
  induction b with
  | zero => simp [nI_0]
  | succ b ih => rw [nI_succ, Int32.mul_add, ih, Int32.mul_one, nI_add, Nat.mul_succ]
theorem Tr.iaddN {a b : Nat} (hd : decode C.2.1.2.1 pc = .ok (.iadd, 1)) (hp : pc + 1 = pc') (k : Tr C kb nb pc' lv (.int (nI (a + b)) :: st) w) : Tr C kb nb pc lv (.int (nI b) :: .int (nI a) :: st) w := by
  rw [← nI_add] at k
  exact Tr.iadd hd hp k
theorem Tr.imulN {a b : Nat} (hd : decode C.2.1.2.1 pc = .ok (.imul, 1)) (hp : pc + 1 = pc') (k : Tr C kb nb pc' lv (.int (nI (a * b)) :: st) w) : Tr C kb nb pc lv (.int (nI b) :: .int (nI a) :: st) w := by
  rw [← nI_mul] at k
  exact Tr.imul hd hp k
theorem Tr.iload_n {n : Fin 4} {i : Nat} {x : Int32} (hd : decode C.2.1.2.1 pc = .ok (.iload_n n, 1)) (hi : (n : Nat) = i) (hv : lv[i]? = some (some (.int x))) (hp : pc + 1 = pc') (k : Tr C kb nb pc' lv (.int x :: st) w) : Tr C kb nb pc lv st w := by
  subst hp
  exact Tr.read hv (fun hx hb hl k => lv_iload_n hx hb hd hi hl k) k
theorem Tr.iload {i : Nat} {x : Int32} (hd : decode C.2.1.2.1 pc = .ok (.iload i, 2)) (hv : lv[i]? = some (some (.int x))) (hp : pc + 2 = pc') (k : Tr C kb nb pc' lv (.int x :: st) w) : Tr C kb nb pc lv st w := by
  subst hp
  exact Tr.read hv (fun hx hb hl k => lv_iload hx hb hd hl k) k
theorem Tr.lload_n {n : Fin 4} {i : Nat} {x : Int64} (hd : decode C.2.1.2.1 pc = .ok (.lload_n n, 1)) (hi : (n : Nat) = i) (hv : lv[i]? = some (some (.long x))) (hp : pc + 1 = pc') (k : Tr C kb nb pc' lv (.long x :: st) w) : Tr C kb nb pc lv st w := by
  subst hp
  exact Tr.read hv (fun hx hb hl k => lv_lload_n hx hb hd hi hl k) k
theorem Tr.lload {i : Nat} {x : Int64} (hd : decode C.2.1.2.1 pc = .ok (.lload i, 2)) (hv : lv[i]? = some (some (.long x))) (hp : pc + 2 = pc') (k : Tr C kb nb pc' lv (.long x :: st) w) : Tr C kb nb pc lv st w := by
  subst hp
  exact Tr.read hv (fun hx hb hl k => lv_lload hx hb hd hl k) k
theorem Tr.aload_n {n : Fin 4} {i : Nat} {x : Nat} (hd : decode C.2.1.2.1 pc = .ok (.aload_n n, 1)) (hi : (n : Nat) = i) (hv : lv[i]? = some (some (.ref x))) (hp : pc + 1 = pc') (k : Tr C kb nb pc' lv (.ref x :: st) w) : Tr C kb nb pc lv st w := by
  subst hp
  exact Tr.read hv (fun hx hb hl k => lv_aload_n hx hb hd hi hl k) k
theorem Tr.aload {i : Nat} {x : Nat} (hd : decode C.2.1.2.1 pc = .ok (.aload i, 2)) (hv : lv[i]? = some (some (.ref x))) (hp : pc + 2 = pc') (k : Tr C kb nb pc' lv (.ref x :: st) w) : Tr C kb nb pc lv st w := by
  subst hp
  exact Tr.read hv (fun hx hb hl k => lv_aload hx hb hd hl k) k
theorem Tr.istore_n {n : Fin 4} {i : Nat} {x : Int32} (hd : decode C.2.1.2.1 pc = .ok (.istore_n n, 1)) (hi : (n : Nat) = i) (hn : Nat.ble (i + 1) C.2.1.2.2.1 = true) (ho : okS lv i = true) (hp : pc + 1 = pc') (k : Tr C kb nb pc' (lv.set i (some (.int x))) st w) : Tr C kb nb pc lv (.int x :: st) w := by
  subst hp
  intro p l e s m args below meth c R Z hC hR H locs cells slots ls h1 h2 h3 h4 h5
  exact lv_istore_n hC.1 hC.2.1 hd hi (lvh_has h5) (Nat.le_of_ble_eq_true hn) rfl (fun ls' hl => k p l e s m args below meth c R Z hC hR H locs cells slots ls' h1 h2 h3 h4 (lvh_set1 ho hl))
theorem Tr.istore {i : Nat} {x : Int32} (hd : decode C.2.1.2.1 pc = .ok (.istore i, 2)) (hn : Nat.ble (i + 1) C.2.1.2.2.1 = true) (ho : okS lv i = true) (hp : pc + 2 = pc') (k : Tr C kb nb pc' (lv.set i (some (.int x))) st w) : Tr C kb nb pc lv (.int x :: st) w := by
  subst hp
  intro p l e s m args below meth c R Z hC hR H locs cells slots ls h1 h2 h3 h4 h5
  exact lv_istore hC.1 hC.2.1 hd (lvh_has h5) (Nat.le_of_ble_eq_true hn) rfl (fun ls' hl => k p l e s m args below meth c R Z hC hR H locs cells slots ls' h1 h2 h3 h4 (lvh_set1 ho hl))
theorem Tr.lstore_n {n : Fin 4} {i : Nat} {x : Int64} (hd : decode C.2.1.2.1 pc = .ok (.lstore_n n, 1)) (hi : (n : Nat) = i) (hn : Nat.ble (i + 2) C.2.1.2.2.1 = true) (ho : okS lv i = true) (hp : pc + 1 = pc') (k : Tr C kb nb pc' ((lv.set i (some (.long x))).set (i + 1) none) st w) : Tr C kb nb pc lv (.long x :: st) w := by
  subst hp
  intro p l e s m args below meth c R Z hC hR H locs cells slots ls h1 h2 h3 h4 h5
  exact lv_lstore_n hC.1 hC.2.1 hd hi (lvh_has h5) (Nat.le_of_ble_eq_true hn) rfl (fun ls' hl => k p l e s m args below meth c R Z hC hR H locs cells slots ls' h1 h2 h3 h4 (lvh_set2 ho hl))
theorem Tr.lstore {i : Nat} {x : Int64} (hd : decode C.2.1.2.1 pc = .ok (.lstore i, 2)) (hn : Nat.ble (i + 2) C.2.1.2.2.1 = true) (ho : okS lv i = true) (hp : pc + 2 = pc') (k : Tr C kb nb pc' ((lv.set i (some (.long x))).set (i + 1) none) st w) : Tr C kb nb pc lv (.long x :: st) w := by
  subst hp
  intro p l e s m args below meth c R Z hC hR H locs cells slots ls h1 h2 h3 h4 h5
  exact lv_lstore hC.1 hC.2.1 hd (lvh_has h5) (Nat.le_of_ble_eq_true hn) rfl (fun ls' hl => k p l e s m args below meth c R Z hC hR H locs cells slots ls' h1 h2 h3 h4 (lvh_set2 ho hl))
theorem Tr.astore_n {n : Fin 4} {i : Nat} {x : Nat} (hd : decode C.2.1.2.1 pc = .ok (.astore_n n, 1)) (hi : (n : Nat) = i) (hn : Nat.ble (i + 1) C.2.1.2.2.1 = true) (ho : okS lv i = true) (hp : pc + 1 = pc') (k : Tr C kb nb pc' (lv.set i (some (.ref x))) st w) : Tr C kb nb pc lv (.ref x :: st) w := by
  subst hp
  intro p l e s m args below meth c R Z hC hR H locs cells slots ls h1 h2 h3 h4 h5
  exact lv_astore_n hC.1 hC.2.1 hd hi (lvh_has h5) (Nat.le_of_ble_eq_true hn) rfl (fun ls' hl => k p l e s m args below meth c R Z hC hR H locs cells slots ls' h1 h2 h3 h4 (lvh_set1 ho hl))
theorem Tr.astore {i : Nat} {x : Nat} (hd : decode C.2.1.2.1 pc = .ok (.astore i, 2)) (hn : Nat.ble (i + 1) C.2.1.2.2.1 = true) (ho : okS lv i = true) (hp : pc + 2 = pc') (k : Tr C kb nb pc' (lv.set i (some (.ref x))) st w) : Tr C kb nb pc lv (.ref x :: st) w := by
  subst hp
  intro p l e s m args below meth c R Z hC hR H locs cells slots ls h1 h2 h3 h4 h5
  exact lv_astore hC.1 hC.2.1 hd (lvh_has h5) (Nat.le_of_ble_eq_true hn) rfl (fun ls' hl => k p l e s m args below meth c R Z hC hR H locs cells slots ls' h1 h2 h3 h4 (lvh_set1 ho hl))
theorem Tr.iinc {i : Nat} {n : Int} {x v : Int32} (hd : decode C.2.1.2.1 pc = .ok (.iinc i n, 3)) (hv : lv[i]? = some (some (.int x))) (he : x + Int32.ofInt n = v) (hn : Nat.ble (i + 1) C.2.1.2.2.1 = true) (ho : okS lv i = true) (hp : pc + 3 = pc') (k : Tr C kb nb pc' (lv.set i (some (.int v))) st w) : Tr C kb nb pc lv st w := by
  subst hp
  intro p l e s m args below meth c R Z hC hR H locs cells slots ls h1 h2 h3 h4 h5
  have hm := lvp_in lv 0 i _ hv
  rw [Nat.zero_add] at hm
  obtain ⟨j, hj⟩ := List.getElem?_of_mem hm
  exact lv_iinc hC.1 hC.2.1 hd (lvh_has h5) hj he (Nat.le_of_ble_eq_true hn) rfl (fun ls' hl => k p l e s m args below meth c R Z hC hR H locs cells slots ls' h1 h2 h3 h4 (lvh_set1 ho hl))
theorem Tr.iincN {i a : Nat} (hd : decode C.2.1.2.1 pc = .ok (.iinc i 1, 3)) (hv : lv[i]? = some (some (.int (nI a)))) (hn : Nat.ble (i + 1) C.2.1.2.2.1 = true) (ho : okS lv i = true) (hp : pc + 3 = pc') (k : Tr C kb nb pc' (lv.set i (some (.int (nI (a + 1))))) st w) : Tr C kb nb pc lv st w :=
  Tr.iinc hd hv (by rw [nI_succ]; rfl) hn ho hp k
theorem Tr.goto {off : Int} (hd : decode C.2.1.2.1 pc = .ok (.goto off, 3)) (ht : (pc : Int) + off = (pc' : Int)) (k : Tr C kb nb pc' lv st w) : Tr C kb nb pc lv st w :=
  Tr.pure (fun hx hb k => lv_goto hx hb hd ht k) k
theorem Tr.if_eq {x : Int32} {off : Int} {tgt : Nat} (hd : decode C.2.1.2.1 pc = .ok (.ifCond .eq off, 3)) (ht : (pc : Int) + off = (tgt : Int)) (hp : pc + 3 = pc') (kt : x = 0 → Tr C kb nb tgt lv st w) (kf : ¬ x = 0 → Tr C kb nb pc' lv st w) : Tr C kb nb pc lv (.int x :: st) w := by
  subst hp
  intro p l e s m args below meth c R Z hC hR H locs cells slots ls h1 h2 h3 h4 h5
  exact lv_if_eq hC.1 hC.2.1 hd ht (fun q => kt q p l e s m args below meth c R Z hC hR H locs cells slots ls h1 h2 h3 h4 h5) (fun q => kf q p l e s m args below meth c R Z hC hR H locs cells slots ls h1 h2 h3 h4 h5)
theorem Tr.icmp_eq {x y : Int32} {off : Int} {tgt : Nat} (hd : decode C.2.1.2.1 pc = .ok (.if_icmp .eq off, 3)) (ht : (pc : Int) + off = (tgt : Int)) (hp : pc + 3 = pc') (kt : x = y → Tr C kb nb tgt lv st w) (kf : ¬ x = y → Tr C kb nb pc' lv st w) : Tr C kb nb pc lv (.int y :: .int x :: st) w := by
  subst hp
  intro p l e s m args below meth c R Z hC hR H locs cells slots ls h1 h2 h3 h4 h5
  exact lv_icmp_eq hC.1 hC.2.1 hd ht (fun q => kt q p l e s m args below meth c R Z hC hR H locs cells slots ls h1 h2 h3 h4 h5) (fun q => kf q p l e s m args below meth c R Z hC hR H locs cells slots ls h1 h2 h3 h4 h5)
theorem Tr.if_ne {x : Int32} {off : Int} {tgt : Nat} (hd : decode C.2.1.2.1 pc = .ok (.ifCond .ne off, 3)) (ht : (pc : Int) + off = (tgt : Int)) (hp : pc + 3 = pc') (kt : ¬ x = 0 → Tr C kb nb tgt lv st w) (kf : x = 0 → Tr C kb nb pc' lv st w) : Tr C kb nb pc lv (.int x :: st) w := by
  subst hp
  intro p l e s m args below meth c R Z hC hR H locs cells slots ls h1 h2 h3 h4 h5
  exact lv_if_ne hC.1 hC.2.1 hd ht (fun q => kt q p l e s m args below meth c R Z hC hR H locs cells slots ls h1 h2 h3 h4 h5) (fun q => kf q p l e s m args below meth c R Z hC hR H locs cells slots ls h1 h2 h3 h4 h5)
theorem Tr.icmp_ne {x y : Int32} {off : Int} {tgt : Nat} (hd : decode C.2.1.2.1 pc = .ok (.if_icmp .ne off, 3)) (ht : (pc : Int) + off = (tgt : Int)) (hp : pc + 3 = pc') (kt : ¬ x = y → Tr C kb nb tgt lv st w) (kf : x = y → Tr C kb nb pc' lv st w) : Tr C kb nb pc lv (.int y :: .int x :: st) w := by
  subst hp
  intro p l e s m args below meth c R Z hC hR H locs cells slots ls h1 h2 h3 h4 h5
  exact lv_icmp_ne hC.1 hC.2.1 hd ht (fun q => kt q p l e s m args below meth c R Z hC hR H locs cells slots ls h1 h2 h3 h4 h5) (fun q => kf q p l e s m args below meth c R Z hC hR H locs cells slots ls h1 h2 h3 h4 h5)
theorem Tr.if_lt {x : Int32} {off : Int} {tgt : Nat} (hd : decode C.2.1.2.1 pc = .ok (.ifCond .lt off, 3)) (ht : (pc : Int) + off = (tgt : Int)) (hp : pc + 3 = pc') (kt : x < 0 → Tr C kb nb tgt lv st w) (kf : ¬ x < 0 → Tr C kb nb pc' lv st w) : Tr C kb nb pc lv (.int x :: st) w := by
  subst hp
  intro p l e s m args below meth c R Z hC hR H locs cells slots ls h1 h2 h3 h4 h5
  exact lv_if_lt hC.1 hC.2.1 hd ht (fun q => kt q p l e s m args below meth c R Z hC hR H locs cells slots ls h1 h2 h3 h4 h5) (fun q => kf q p l e s m args below meth c R Z hC hR H locs cells slots ls h1 h2 h3 h4 h5)
theorem Tr.icmp_lt {x y : Int32} {off : Int} {tgt : Nat} (hd : decode C.2.1.2.1 pc = .ok (.if_icmp .lt off, 3)) (ht : (pc : Int) + off = (tgt : Int)) (hp : pc + 3 = pc') (kt : x < y → Tr C kb nb tgt lv st w) (kf : ¬ x < y → Tr C kb nb pc' lv st w) : Tr C kb nb pc lv (.int y :: .int x :: st) w := by
  subst hp
  intro p l e s m args below meth c R Z hC hR H locs cells slots ls h1 h2 h3 h4 h5
  exact lv_icmp_lt hC.1 hC.2.1 hd ht (fun q => kt q p l e s m args below meth c R Z hC hR H locs cells slots ls h1 h2 h3 h4 h5) (fun q => kf q p l e s m args below meth c R Z hC hR H locs cells slots ls h1 h2 h3 h4 h5)
theorem Tr.if_ge {x : Int32} {off : Int} {tgt : Nat} (hd : decode C.2.1.2.1 pc = .ok (.ifCond .ge off, 3)) (ht : (pc : Int) + off = (tgt : Int)) (hp : pc + 3 = pc') (kt : 0 ≤ x → Tr C kb nb tgt lv st w) (kf : ¬ 0 ≤ x → Tr C kb nb pc' lv st w) : Tr C kb nb pc lv (.int x :: st) w := by
  subst hp
  intro p l e s m args below meth c R Z hC hR H locs cells slots ls h1 h2 h3 h4 h5
  exact lv_if_ge hC.1 hC.2.1 hd ht (fun q => kt q p l e s m args below meth c R Z hC hR H locs cells slots ls h1 h2 h3 h4 h5) (fun q => kf q p l e s m args below meth c R Z hC hR H locs cells slots ls h1 h2 h3 h4 h5)
theorem Tr.icmp_ge {x y : Int32} {off : Int} {tgt : Nat} (hd : decode C.2.1.2.1 pc = .ok (.if_icmp .ge off, 3)) (ht : (pc : Int) + off = (tgt : Int)) (hp : pc + 3 = pc') (kt : y ≤ x → Tr C kb nb tgt lv st w) (kf : ¬ y ≤ x → Tr C kb nb pc' lv st w) : Tr C kb nb pc lv (.int y :: .int x :: st) w := by
  subst hp
  intro p l e s m args below meth c R Z hC hR H locs cells slots ls h1 h2 h3 h4 h5
  exact lv_icmp_ge hC.1 hC.2.1 hd ht (fun q => kt q p l e s m args below meth c R Z hC hR H locs cells slots ls h1 h2 h3 h4 h5) (fun q => kf q p l e s m args below meth c R Z hC hR H locs cells slots ls h1 h2 h3 h4 h5)
theorem Tr.if_gt {x : Int32} {off : Int} {tgt : Nat} (hd : decode C.2.1.2.1 pc = .ok (.ifCond .gt off, 3)) (ht : (pc : Int) + off = (tgt : Int)) (hp : pc + 3 = pc') (kt : 0 < x → Tr C kb nb tgt lv st w) (kf : ¬ 0 < x → Tr C kb nb pc' lv st w) : Tr C kb nb pc lv (.int x :: st) w := by
  subst hp
  intro p l e s m args below meth c R Z hC hR H locs cells slots ls h1 h2 h3 h4 h5
  exact lv_if_gt hC.1 hC.2.1 hd ht (fun q => kt q p l e s m args below meth c R Z hC hR H locs cells slots ls h1 h2 h3 h4 h5) (fun q => kf q p l e s m args below meth c R Z hC hR H locs cells slots ls h1 h2 h3 h4 h5)
theorem Tr.icmp_gt {x y : Int32} {off : Int} {tgt : Nat} (hd : decode C.2.1.2.1 pc = .ok (.if_icmp .gt off, 3)) (ht : (pc : Int) + off = (tgt : Int)) (hp : pc + 3 = pc') (kt : y < x → Tr C kb nb tgt lv st w) (kf : ¬ y < x → Tr C kb nb pc' lv st w) : Tr C kb nb pc lv (.int y :: .int x :: st) w := by
  subst hp
  intro p l e s m args below meth c R Z hC hR H locs cells slots ls h1 h2 h3 h4 h5
  exact lv_icmp_gt hC.1 hC.2.1 hd ht (fun q => kt q p l e s m args below meth c R Z hC hR H locs cells slots ls h1 h2 h3 h4 h5) (fun q => kf q p l e s m args below meth c R Z hC hR H locs cells slots ls h1 h2 h3 h4 h5)
theorem Tr.if_le {x : Int32} {off : Int} {tgt : Nat} (hd : decode C.2.1.2.1 pc = .ok (.ifCond .le off, 3)) (ht : (pc : Int) + off = (tgt : Int)) (hp : pc + 3 = pc') (kt : x ≤ 0 → Tr C kb nb tgt lv st w) (kf : ¬ x ≤ 0 → Tr C kb nb pc' lv st w) : Tr C kb nb pc lv (.int x :: st) w := by
  subst hp
  intro p l e s m args below meth c R Z hC hR H locs cells slots ls h1 h2 h3 h4 h5
  exact lv_if_le hC.1 hC.2.1 hd ht (fun q => kt q p l e s m args below meth c R Z hC hR H locs cells slots ls h1 h2 h3 h4 h5) (fun q => kf q p l e s m args below meth c R Z hC hR H locs cells slots ls h1 h2 h3 h4 h5)
theorem Tr.icmp_le {x y : Int32} {off : Int} {tgt : Nat} (hd : decode C.2.1.2.1 pc = .ok (.if_icmp .le off, 3)) (ht : (pc : Int) + off = (tgt : Int)) (hp : pc + 3 = pc') (kt : x ≤ y → Tr C kb nb tgt lv st w) (kf : ¬ x ≤ y → Tr C kb nb pc' lv st w) : Tr C kb nb pc lv (.int y :: .int x :: st) w := by
  subst hp
  intro p l e s m args below meth c R Z hC hR H locs cells slots ls h1 h2 h3 h4 h5
  exact lv_icmp_le hC.1 hC.2.1 hd ht (fun q => kt q p l e s m args below meth c R Z hC hR H locs cells slots ls h1 h2 h3 h4 h5) (fun q => kf q p l e s m args below meth c R Z hC hR H locs cells slots ls h1 h2 h3 h4 h5)
theorem nI_inj {a b : Nat} (ha : a < 2 ^ 31) (hb : b < 2 ^ 31) (h : nI a = nI b) : a = b := by
  have := congrArg Int32.toInt h
  rw [nI_toInt ha, nI_toInt hb] at this
  omega
theorem nI_eq_iff {a b : Nat} (ha : a < 2 ^ 31) (hb : b < 2 ^ 31) : nI a = nI b ↔ a = b := ⟨nI_inj ha hb, fun h => by rw [h]⟩
theorem nI_lt_iff {a b : Nat} (ha : a < 2 ^ 31) (hb : b < 2 ^ 31) : nI a < nI b ↔ a < b := by
  rw [Int32.lt_iff_toInt_lt, nI_toInt ha, nI_toInt hb]; omega
theorem nI_le_iff {a b : Nat} (ha : a < 2 ^ 31) (hb : b < 2 ^ 31) : nI a ≤ nI b ↔ a ≤ b := by
  rw [Int32.le_iff_toInt_le, nI_toInt ha, nI_toInt hb]; omega
theorem Tr.icmp_eqN {a b : Nat} {off : Int} {tgt : Nat} (hd : decode C.2.1.2.1 pc = .ok (.if_icmp .eq off, 3)) (ht : (pc : Int) + off = (tgt : Int)) (hp : pc + 3 = pc') (ha : a < 2 ^ 31) (hb : b < 2 ^ 31) (kt : a = b → Tr C kb nb tgt lv st w) (kf : ¬ a = b → Tr C kb nb pc' lv st w) : Tr C kb nb pc lv (.int (nI b) :: .int (nI a) :: st) w :=
  Tr.icmp_eq hd ht hp (fun q => kt ((nI_eq_iff ha hb).mp q)) (fun q => kf (fun z => q ((nI_eq_iff ha hb).mpr z)))
theorem Tr.icmp_neN {a b : Nat} {off : Int} {tgt : Nat} (hd : decode C.2.1.2.1 pc = .ok (.if_icmp .ne off, 3)) (ht : (pc : Int) + off = (tgt : Int)) (hp : pc + 3 = pc') (ha : a < 2 ^ 31) (hb : b < 2 ^ 31) (kt : ¬ a = b → Tr C kb nb tgt lv st w) (kf : a = b → Tr C kb nb pc' lv st w) : Tr C kb nb pc lv (.int (nI b) :: .int (nI a) :: st) w :=
  Tr.icmp_ne hd ht hp (fun q => kt (fun z => q ((nI_eq_iff ha hb).mpr z))) (fun q => kf ((nI_eq_iff ha hb).mp q))
theorem Tr.icmp_ltN {a b : Nat} {off : Int} {tgt : Nat} (hd : decode C.2.1.2.1 pc = .ok (.if_icmp .lt off, 3)) (ht : (pc : Int) + off = (tgt : Int)) (hp : pc + 3 = pc') (ha : a < 2 ^ 31) (hb : b < 2 ^ 31) (kt : a < b → Tr C kb nb tgt lv st w) (kf : b ≤ a → Tr C kb nb pc' lv st w) : Tr C kb nb pc lv (.int (nI b) :: .int (nI a) :: st) w :=
  Tr.icmp_lt hd ht hp (fun q => kt ((nI_lt_iff ha hb).mp q)) (fun q => kf (Nat.le_of_not_lt (fun z => q ((nI_lt_iff ha hb).mpr z))))
theorem Tr.icmp_geN {a b : Nat} {off : Int} {tgt : Nat} (hd : decode C.2.1.2.1 pc = .ok (.if_icmp .ge off, 3)) (ht : (pc : Int) + off = (tgt : Int)) (hp : pc + 3 = pc') (ha : a < 2 ^ 31) (hb : b < 2 ^ 31) (kt : b ≤ a → Tr C kb nb tgt lv st w) (kf : a < b → Tr C kb nb pc' lv st w) : Tr C kb nb pc lv (.int (nI b) :: .int (nI a) :: st) w :=
  Tr.icmp_ge hd ht hp (fun q => kt ((nI_le_iff hb ha).mp q)) (fun q => kf (Nat.lt_of_not_le (fun z => q ((nI_le_iff hb ha).mpr z))))
theorem Tr.icmp_gtN {a b : Nat} {off : Int} {tgt : Nat} (hd : decode C.2.1.2.1 pc = .ok (.if_icmp .gt off, 3)) (ht : (pc : Int) + off = (tgt : Int)) (hp : pc + 3 = pc') (ha : a < 2 ^ 31) (hb : b < 2 ^ 31) (kt : b < a → Tr C kb nb tgt lv st w) (kf : a ≤ b → Tr C kb nb pc' lv st w) : Tr C kb nb pc lv (.int (nI b) :: .int (nI a) :: st) w :=
  Tr.icmp_gt hd ht hp (fun q => kt ((nI_lt_iff hb ha).mp q)) (fun q => kf (Nat.le_of_not_lt (fun z => q ((nI_lt_iff hb ha).mpr z))))
theorem Tr.icmp_leN {a b : Nat} {off : Int} {tgt : Nat} (hd : decode C.2.1.2.1 pc = .ok (.if_icmp .le off, 3)) (ht : (pc : Int) + off = (tgt : Int)) (hp : pc + 3 = pc') (ha : a < 2 ^ 31) (hb : b < 2 ^ 31) (kt : a ≤ b → Tr C kb nb tgt lv st w) (kf : b < a → Tr C kb nb pc' lv st w) : Tr C kb nb pc lv (.int (nI b) :: .int (nI a) :: st) w :=
  Tr.icmp_le hd ht hp (fun q => kt ((nI_le_iff ha hb).mp q)) (fun q => kf (Nat.lt_of_not_le (fun z => q ((nI_le_iff ha hb).mpr z))))
def bI (b : Bool) : Int32 := if b then 1 else 0
theorem bI_0 {b : Bool} : bI b = 0 ↔ b = false := by cases b <;> simp [bI] 
theorem bI_n {b : Bool} : ¬ bI b = 0 ↔ b = true := by cases b <;> simp [bI]
theorem bI_nar (b : Bool) : narrow .boolean (.int (bI b)) = .int (bI b) := by cases b <;> rfl
theorem Tr.if_eqB {b : Bool} {off : Int} {tgt : Nat} (hd : decode C.2.1.2.1 pc = .ok (.ifCond .eq off, 3)) (ht : (pc : Int) + off = (tgt : Int)) (hp : pc + 3 = pc') (kt : b = false → Tr C kb nb tgt lv st w) (kf : b = true → Tr C kb nb pc' lv st w) : Tr C kb nb pc lv (.int (bI b) :: st) w :=
  Tr.if_eq hd ht hp (fun q => kt (bI_0.mp q)) (fun q => kf (bI_n.mp q))
theorem Tr.if_neB {b : Bool} {off : Int} {tgt : Nat} (hd : decode C.2.1.2.1 pc = .ok (.ifCond .ne off, 3)) (ht : (pc : Int) + off = (tgt : Int)) (hp : pc + 3 = pc') (kt : b = true → Tr C kb nb tgt lv st w) (kf : b = false → Tr C kb nb pc' lv st w) : Tr C kb nb pc lv (.int (bI b) :: st) w :=
  Tr.if_ne hd ht hp (fun q => kt (bI_n.mp q)) (fun q => kf (bI_0.mp q))
theorem Tr.tsOut {dflt lo hi : Int} {offs : Array Int} {len : Nat} {x : Int32} {tgt : Nat} (hd : decode C.2.1.2.1 pc = .ok (.tableswitch dflt lo hi offs, len)) (h : x.toInt < lo ∨ hi < x.toInt) (ht : (pc : Int) + dflt = (tgt : Int)) (k : Tr C kb nb tgt lv st w) : Tr C kb nb pc lv (.int x :: st) w :=
  Tr.pure (fun hx hb k => lv_tableOut hx hb hd h ht k) k
theorem Tr.tsIn {dflt lo hi : Int} {offs : Array Int} {len : Nat} {x : Int32} {off : Int} {tgt : Nat} (hd : decode C.2.1.2.1 pc = .ok (.tableswitch dflt lo hi offs, len)) (h1 : ¬ x.toInt < lo) (h2 : ¬ hi < x.toInt) (ho : offs[(x.toInt - lo).toNat]? = some off) (ht : (pc : Int) + off = (tgt : Int)) (k : Tr C kb nb tgt lv st w) : Tr C kb nb pc lv (.int x :: st) w :=
  Tr.pure (fun hx hb k => lv_tableIn hx hb hd h1 h2 ho ht k) k
theorem Tr.lsw {dflt : Int} {ps : Array (Int × Int)} {len : Nat} {x : Int32} {off : Int} {tgt : Nat} (hd : decode C.2.1.2.1 pc = .ok (.lookupswitch dflt ps, len)) (hq : (ps.toList.zip (ps.toList.drop 1)).all (fun (a, next) => a.1 < next.1) = true) (ho : Op.lookupswitch.offset ps.toList dflt x.toInt = off) (ht : (pc : Int) + off = (tgt : Int)) (k : Tr C kb nb tgt lv st w) : Tr C kb nb pc lv (.int x :: st) w :=
  Tr.pure (fun hx hb k => lv_lookup hx hb hd hq ho ht k) k
theorem Tr.ldc {idx : Nat} {v : Int32} (hd : decode C.2.1.2.1 pc = .ok (.ldc idx, 2)) (hc : Cond.constant C.2.1.1.cls idx v ∈ tbW) (hp : pc + 2 = pc') (k : Tr C kb nb pc' lv (.int v :: st) w) : Tr C kb nb pc lv st w := by
  subst hp
  exact Tr.tabs (fun hx hb ho ht k => lv_ldc hx hb ho (ht _ hc) hd k) k
theorem Tr.ldcw {idx : Nat} {v : Int32} (hd : decode C.2.1.2.1 pc = .ok (.ldc_w idx, 3)) (hc : Cond.constant C.2.1.1.cls idx v ∈ tbW) (hp : pc + 3 = pc') (k : Tr C kb nb pc' lv (.int v :: st) w) : Tr C kb nb pc lv st w := by
  subst hp
  exact Tr.tabs (fun hx hb ho ht k => lv_ldcw hx hb ho (ht _ hc) hd k) k
theorem Tr.ldc2 {idx : Nat} {v : Int64} (hd : decode C.2.1.2.1 pc = .ok (.ldc2_w idx, 3)) (hc : Cond.constantLong C.2.1.1.cls idx v ∈ tbW) (hp : pc + 3 = pc') (k : Tr C kb nb pc' lv (.long v :: st) w) : Tr C kb nb pc lv st w := by
  subst hp
  exact Tr.tabs (fun hx hb ho ht k => lv_ldc2 hx hb ho (ht _ hc) hd k) k
theorem Tr.ldcS {idx i : Nat} (hd : decode C.2.1.2.1 pc = .ok (.ldc idx, 2)) (hs : (C.2.1.1.cls, idx, i) ∈ strT) (hp : pc + 2 = pc') (k : Tr C kb nb pc' lv (.ref (C.1.2.2 i) :: st) w) : Tr C kb nb pc lv st w := by
  subst hp
  intro p l e s m args below meth c R Z hC hR H locs cells slots ls h1 h2 h3 h4 h5
  obtain ⟨hx, hb, hml, hown, hts, hK, hnm, hRm, hI, hG⟩ := id hC
  exact va_ldcS hx hb hown (hG.2.1 _ hs) hd (k p l e s m args below meth c R Z hC hR H locs cells slots ls h1 h2 h3 h4 h5)
/-- the same picture in other words -/
theorem Tr.pic {w' : List va_E} (h : w = w') (k : Tr C kb nb pc lv st w') : Tr C kb nb pc lv st w := h ▸ k
theorem Tr.eqs {lv' : List (Option Value)} {st' : List Value} {w' : List va_E} (h1 : lv = lv') (h2 : st = st') (h3 : w = w') (k : Tr C kb nb pc lv' st' w') : Tr C kb nb pc lv st w := by rw [h1, h2, h3]; exact k
theorem Tr.top {x y : Int32} (h : x = y) (k : Tr C kb nb pc lv (.int y :: st) w) : Tr C kb nb pc lv (.int x :: st) w := h ▸ k
-- ends
theorem Tr.ret (hd : decode C.2.1.2.1 pc = .ok (.return_, 1)) (hr : C.2.1.2.2.2.1 = none) (h0 : C.2.2.2.1 = none) (hw : w = C.2.2.2.2) : Tr C kb nb pc lv [] w := by
  subst hw
  intro p l e s m args below meth c R Z hC hR H locs cells slots ls h1 h2 h3 h4 h5
  exact hR pc ls H locs cells slots [] h3 h4 (by omega) (by omega) (Or.inl ⟨h0, rfl, hd, hr⟩)
theorem Tr.iret {x : Int32} {ty : FieldType} (hd : decode C.2.1.2.1 pc = .ok (.ireturn, 1)) (hr : C.2.1.2.2.2.1 = some ty) (hn : narrow ty (.int x) = .int x) (h0 : C.2.2.2.1 = some (.int x)) (hw : w = C.2.2.2.2) : Tr C kb nb pc lv [.int x] w := by
  subst hw
  intro p l e s m args below meth c R Z hC hR H locs cells slots ls h1 h2 h3 h4 h5
  exact hR pc ls H locs cells slots _ h3 h4 (by omega) (by omega) (Or.inr (Or.inl ⟨x, ty, h0, rfl, hd, hr, hn⟩))
theorem Tr.lret {x : Int64} (hd : decode C.2.1.2.1 pc = .ok (.lreturn, 1)) (hr : C.2.1.2.2.2.1 = some .long) (h0 : C.2.2.2.1 = some (.long x)) (hw : w = C.2.2.2.2) : Tr C kb nb pc lv [.long x] w := by
  subst hw
  intro p l e s m args below meth c R Z hC hR H locs cells slots ls h1 h2 h3 h4 h5
  exact hR pc ls H locs cells slots _ h3 h4 (by omega) (by omega) (Or.inr (Or.inr ⟨x, h0, rfl, hd, hr⟩))
-- fields
def FAt (own : String) (idx ci k : Nat) : Prop := ∃ (Cn : String) (T : u_T) (N : Nat), vwCl[ci]? = some (Cn, T, N) ∧ k < N ∧ (∀ w ∈ u_ws Cn T N, w ∈ tbW) ∧ Cond.fieldLink own idx (T k).1 (T k).2.1 (T k).2.2.1 ∈ tbW
def PAt (own : String) (idx ci k : Nat) (ty : FieldType) (fin : Bool) : Prop := ∃ (Cn : String) (T : u_T) (N : Nat) (ty0 : Nat → FieldType), vwCl[ci]? = some (Cn, T, N) ∧ k < N ∧ (∀ w ∈ u_ws Cn T N, w ∈ tbW) ∧ Cond.fieldLink own idx (T k).1 (T k).2.1 (T k).2.2.1 ∈ tbW ∧ (∀ j, j < N → parseFieldDescriptor (T j).2.2.1 = some (ty0 j)) ∧ (∀ a, a < N → ∀ b, b < N → a ≠ b → (T a).2.1 ≠ (T b).2.1) ∧ (T k).2.2.2 = fin ∧ ty0 k = ty ∧ (fin = true → (T k).1 = own)
theorem Tr.getf {idx ci k q : Nat} {fs : List Value} {v : Value} (hd : decode C.2.1.2.1 pc = .ok (.getfield idx, 3)) (hf : FAt C.2.1.1.cls idx ci k) (hw : w[q]? = some (.inr (ci, fs))) (hv : fs[k]? = some v) (hp : pc + 3 = pc') (kk : Tr C kb nb pc' lv (v :: st) w) : Tr C kb nb pc lv (.ref (C.2.2.1 q) :: st) w := by
  subst hp
  intro p l e s m args below meth c R Z hC hR H locs cells slots ls h1 h2 h3 h4 h5
  obtain ⟨hx, hb, hml, hown, hts, hK, hnm, hRm, hI, hG⟩ := id hC
  obtain ⟨Cn, T, N, g1, g2, g3, g4⟩ := hf
  exact va_get (D := C.1.1) hx hb hts g3 hown hK h3.1 q (prs_at hw) g1 k g2 (hts _ g4) (fun _ z => z) hv hd (kk p l e s m args below meth c R Z hC hR H locs cells slots ls h1 h2 h3 h4 h5)
theorem Pic.set {E : EnvT} {ad : Nat → Nat} {H H1 : Heap} {q : Nat} {e : va_E} (h : Pic E ad w H) (h1 : va_P E.1 vwCl ((prs ad 0 w).set q (ad q, e)) H1) (hz : H1.size = H.size) : Pic E ad (w.set q e) H1 := by
  refine ⟨?_, fun j => ?_⟩
  · rw [prs_set, Nat.zero_add]; exact h1
  · rw [List.length_set, hz]; exact h.2 j
theorem Tr.putf {idx ci k q : Nat} {ty : FieldType} {fs : List Value} {v : Value} (hd : decode C.2.1.2.1 pc = .ok (.putfield idx, 3)) (hf : PAt C.2.1.1.cls idx ci k ty false) (hw : w[q]? = some (.inr (ci, fs))) (hn : narrow ty v = v) (hfit : fits ty v = true) (hl : Nat.ble (k + 1) fs.length = true) (hp : pc + 3 = pc') (kk : Tr C kb nb pc' lv st (w.set q (.inr (ci, fs.set k v)))) : Tr C kb nb pc lv (v :: .ref (C.2.2.1 q) :: st) w := by
  subst hp
  intro p l e s m args below meth c R Z hC hR H locs cells slots ls h1 h2 h3 h4 h5
  obtain ⟨hx, hb, hml, hown, hts, hK, hnm, hRm, hI, hG⟩ := id hC
  obtain ⟨Cn, T, N, ty0, g1, g2, g3, g4, g5, g6, g7, g8, -⟩ := hf
  have hap := va_apart (own := C.2.1.1.cls) hts g3 ty0 g5 g6 hK g1
  obtain ⟨r, y1, cell, q1, q2, q3, q4⟩ := h3.1 q _ (prs_at hw)
  have hr : r = (Cn, T, N) := Option.some.inj (y1.symm.trans g1)
  subst hr
  obtain ⟨hS, hfc, kC, hkC, hkind⟩ := hK.1 ci _ g1
  obtain ⟨cf, kf, fi, f, hi, hsl⟩ := hS k g2
  have hlay := hts _ (g3 _ (u_in_lay g2))
  unfold u_lay at hlay
  rw [if_neg (by rw [g7]; decide)] at hlay
  have hst := (u_facts hfc hkC (u_lays hts g3 g2) hi).1
  have h6 := u_store hfc hkC hkind hlay hi (by rw [g5 k g2, g8]) hn hfit
  refine W.putK hx hb (f := f) ⟨hown, hts _ g4, ⟨_, _, _, hi⟩, hst⟩ (by rw [q2]; exact h6) q1 q3 (by rw [hsl]; exact k2_hasslot (q4 k g2)) rfl rfl hd fun H' e1 e2 e3 => ?_
  rw [hsl] at e1 ⊢
  exact kk p l e s m args below meth c R Z hC hR H' _ cells slots ls h1 h2 (h3.set (h3.1.set (prs_D hI) (prs_at hw) ⟨_, g1, t_OB.to (V := updV (vp_V fs) k v) ⟨_, e1, q2, q3, t_set q4 hap g2 v⟩ (fun j _ => vp_updV_set (Nat.le_of_ble_eq_true hl) v j)⟩ e3) e2) (h4.put e2 e3 ⟨q, rfl⟩) h5
theorem Tr.putF {idx ci k q : Nat} {ty : FieldType} {fs : List Value} {v : Value} (hd : decode C.2.1.2.1 pc = .ok (.putfield idx, 3)) (hf : PAt C.2.1.1.cls idx ci k ty true) (hw : w[q]? = some (.inr (ci, fs))) (hin : C.2.1.1.name = "<init>") (hn : narrow ty v = v) (hfit : fits ty v = true) (hl : Nat.ble (k + 1) fs.length = true) (hp : pc + 3 = pc') (kk : Tr C kb nb pc' lv st (w.set q (.inr (ci, fs.set k v)))) : Tr C kb nb pc lv (v :: .ref (C.2.2.1 q) :: st) w := by
  subst hp
  intro p l e s m args below meth c R Z hC hR H locs cells slots ls h1 h2 h3 h4 h5
  obtain ⟨hx, hb, hml, hown, hts, hK, hnm, hRm, hI, hG⟩ := id hC
  obtain ⟨Cn, T, N, ty0, g1, g2, g3, g4, g5, g6, g7, g8, g9⟩ := hf
  have hap := va_apart (own := C.2.1.1.cls) hts g3 ty0 g5 g6 hK g1
  obtain ⟨r, y1, cell, q1, q2, q3, q4⟩ := h3.1 q _ (prs_at hw)
  have hr : r = (Cn, T, N) := Option.some.inj (y1.symm.trans g1)
  subst hr
  obtain ⟨hS, hfc, kC, hkC, hkind⟩ := hK.1 ci _ g1
  obtain ⟨cf, kf, fi, f, hi, hsl⟩ := hS k g2
  have hlay := hts _ (g3 _ (u_in_lay g2))
  unfold u_lay at hlay
  rw [if_pos g7] at hlay
  have hst := (u_facts hfc hkC (u_lays hts g3 g2) hi).1
  have hcf : m.cls = cf := by
    obtain ⟨_, _, c', _, _, _, -, -, hf', -, -, -, hown2, -⟩ := Cond.laysFinal_spec hlay
    have e1 : c' = cf := by have := hi.symm.trans hf'; simp at this; exact this.1.symm
    rw [g9 rfl] at hown2
    rw [← e1]; exact Option.some.inj (hown.symm.trans hown2)
  have h6 := u_fits hfc hkC hkind (Or.inr hlay) hi (by rw [g5 k g2, g8]) hn hfit
  refine W.putFinK hx hb hown (hts _ g4) hi hst hcf (by rw [hnm]; exact hin) (by rw [q2]; exact h6) q1 q3 (by rw [hsl]; exact k2_hasslot (q4 k g2)) rfl rfl hd fun H' e1 e2 e3 => ?_
  rw [hsl] at e1 ⊢
  exact kk p l e s m args below meth c R Z hC hR H' _ cells slots ls h1 h2 (h3.set (h3.1.set (prs_D hI) (prs_at hw) ⟨_, g1, t_OB.to (V := updV (vp_V fs) k v) ⟨_, e1, q2, q3, t_set q4 hap g2 v⟩ (fun j _ => vp_updV_set (Nat.le_of_ble_eq_true hl) v j)⟩ e3) e2) (h4.put e2 e3 ⟨q, rfl⟩) h5
-- arrays
abbrev aI (E : EnvT) (n : Nat) (f : Nat → Int32) : va_E := .inl (E.2.1 0, n, .inl f)
abbrev aJ (E : EnvT) (n : Nat) (f : Nat → Int64) : va_E := .inl (E.2.1 1, n, .inr (.inl f))
abbrev aB (E : EnvT) (n : Nat) (f : Nat → Int32) : va_E := .inl (E.2.1 2, n, .inl f)
abbrev aZ (E : EnvT) (n : Nat) (f : Nat → Int32) : va_E := .inl (E.2.1 3, n, .inl f)
abbrev aR (E : EnvT) (j n : Nat) (f : Nat → Option Nat) : va_E := .inl (E.2.1 j, n, .inr (.inr (.inr (.inr f))))
theorem Tr.iald {q n : Nat} {f : Nat → Int32} {i : Int32} (hd : decode C.2.1.2.1 pc = .ok (.iaload, 1)) (hw : w[q]? = some (aI C.1 n f)) (hin : vp_in i n) (hp : pc + 1 = pc') (kk : Tr C kb nb pc' lv (.int (f i.toNatClampNeg) :: st) w) : Tr C kb nb pc lv (.int i :: .ref (C.2.2.1 q) :: st) w := by
  subst hp
  intro p l e s m args below meth c R Z hC hR H locs cells slots ls h1 h2 h3 h4 h5
  obtain ⟨hx, hb, hml, hown, hts, hK, hnm, hRm, hI, hG⟩ := id hC
  exact va_iald hx hb hK h3.1 q 0 (prs_at hw) rfl hin hd (kk p l e s m args below meth c R Z hC hR H locs cells slots ls h1 h2 h3 h4 h5)
theorem Tr.ialdN {q n a : Nat} {f : Nat → Int32} (hd : decode C.2.1.2.1 pc = .ok (.iaload, 1)) (hw : w[q]? = some (aI C.1 n f)) (ha : a < n) (hn : n < 2 ^ 31) (hp : pc + 1 = pc') (kk : Tr C kb nb pc' lv (.int (f a) :: st) w) : Tr C kb nb pc lv (.int (nI a) :: .ref (C.2.2.1 q) :: st) w :=
  Tr.iald hd hw (vp_in_nI ha hn) hp (by rw [nI_clamp (by omega)]; exact kk)
theorem Tr.bald {q n : Nat} {f : Nat → Int32} {i : Int32} (hd : decode C.2.1.2.1 pc = .ok (.baload, 1)) (hw : w[q]? = some (aB C.1 n f)) (hin : vp_in i n) (hp : pc + 1 = pc') (kk : Tr C kb nb pc' lv (.int (f i.toNatClampNeg) :: st) w) : Tr C kb nb pc lv (.int i :: .ref (C.2.2.1 q) :: st) w := by
  subst hp
  intro p l e s m args below meth c R Z hC hR H locs cells slots ls h1 h2 h3 h4 h5
  obtain ⟨hx, hb, hml, hown, hts, hK, hnm, hRm, hI, hG⟩ := id hC
  exact va_bald hx hb hK h3.1 q 2 (prs_at hw) rfl hin hd (kk p l e s m args below meth c R Z hC hR H locs cells slots ls h1 h2 h3 h4 h5)
theorem Tr.baldN {q n a : Nat} {f : Nat → Int32} (hd : decode C.2.1.2.1 pc = .ok (.baload, 1)) (hw : w[q]? = some (aB C.1 n f)) (ha : a < n) (hn : n < 2 ^ 31) (hp : pc + 1 = pc') (kk : Tr C kb nb pc' lv (.int (f a) :: st) w) : Tr C kb nb pc lv (.int (nI a) :: .ref (C.2.2.1 q) :: st) w :=
  Tr.bald hd hw (vp_in_nI ha hn) hp (by rw [nI_clamp (by omega)]; exact kk)
theorem Tr.zald {q n : Nat} {f : Nat → Int32} {i : Int32} (hd : decode C.2.1.2.1 pc = .ok (.baload, 1)) (hw : w[q]? = some (aZ C.1 n f)) (hin : vp_in i n) (hp : pc + 1 = pc') (kk : Tr C kb nb pc' lv (.int (f i.toNatClampNeg) :: st) w) : Tr C kb nb pc lv (.int i :: .ref (C.2.2.1 q) :: st) w := by
  subst hp
  intro p l e s m args below meth c R Z hC hR H locs cells slots ls h1 h2 h3 h4 h5
  obtain ⟨hx, hb, hml, hown, hts, hK, hnm, hRm, hI, hG⟩ := id hC
  exact va_zald hx hb hK h3.1 q 3 (prs_at hw) rfl hin hd (kk p l e s m args below meth c R Z hC hR H locs cells slots ls h1 h2 h3 h4 h5)
theorem Tr.zaldN {q n a : Nat} {f : Nat → Int32} (hd : decode C.2.1.2.1 pc = .ok (.baload, 1)) (hw : w[q]? = some (aZ C.1 n f)) (ha : a < n) (hn : n < 2 ^ 31) (hp : pc + 1 = pc') (kk : Tr C kb nb pc' lv (.int (f a) :: st) w) : Tr C kb nb pc lv (.int (nI a) :: .ref (C.2.2.1 q) :: st) w :=
  Tr.zald hd hw (vp_in_nI ha hn) hp (by rw [nI_clamp (by omega)]; exact kk)
theorem Tr.lald {q n : Nat} {f : Nat → Int64} {i : Int32} (hd : decode C.2.1.2.1 pc = .ok (.laload, 1)) (hw : w[q]? = some (aJ C.1 n f)) (hin : vp_in i n) (hp : pc + 1 = pc') (kk : Tr C kb nb pc' lv (.long (f i.toNatClampNeg) :: st) w) : Tr C kb nb pc lv (.int i :: .ref (C.2.2.1 q) :: st) w := by
  subst hp
  intro p l e s m args below meth c R Z hC hR H locs cells slots ls h1 h2 h3 h4 h5
  obtain ⟨hx, hb, hml, hown, hts, hK, hnm, hRm, hI, hG⟩ := id hC
  exact va_lald hx hb hK h3.1 q 1 (prs_at hw) rfl hin hd (kk p l e s m args below meth c R Z hC hR H locs cells slots ls h1 h2 h3 h4 h5)
theorem Tr.laldN {q n a : Nat} {f : Nat → Int64} (hd : decode C.2.1.2.1 pc = .ok (.laload, 1)) (hw : w[q]? = some (aJ C.1 n f)) (ha : a < n) (hn : n < 2 ^ 31) (hp : pc + 1 = pc') (kk : Tr C kb nb pc' lv (.long (f a) :: st) w) : Tr C kb nb pc lv (.int (nI a) :: .ref (C.2.2.1 q) :: st) w :=
  Tr.lald hd hw (vp_in_nI ha hn) hp (by rw [nI_clamp (by omega)]; exact kk)
theorem Tr.iast {q n : Nat} {f : Nat → Int32} {i : Int32} {x : Int32} (hd : decode C.2.1.2.1 pc = .ok (.iastore, 1)) (hw : w[q]? = some (aI C.1 n f)) (hin : vp_in i n) (hp : pc + 1 = pc') (kk : Tr C kb nb pc' lv st (w.set q (aI C.1 n (upd f i.toNatClampNeg x)))) : Tr C kb nb pc lv (.int x :: .int i :: .ref (C.2.2.1 q) :: st) w := by
  subst hp
  intro p l e s m args below meth c R Z hC hR H locs cells slots ls h1 h2 h3 h4 h5
  obtain ⟨hx, hb, hml, hown, hts, hK, hnm, hRm, hI, hG⟩ := id hC
  refine W.iast hx hb (h3.1 q _ (prs_at hw)) ((hK.2 0 _ rfl).1 n (fun j => .int (f j))) (fun z => by cases z) (by show ¬ (i < 0 ∨ (arrV _ _ _).slots.size ≤ _); rw [arrV_size]; exact hin) rfl rfl hd fun H1 y z oq => ?_
  refine kk p l e s m args below meth c R Z hC hR H1 _ cells slots ls h1 h2 (h3.set (h3.1.set (prs_D hI) (prs_at hw) ?_ oq) z) (h4.put z oq ⟨q, rfl⟩) h5
  show H1[C.2.2.1 q]? = some (vp_cell _ _)
  rw [y, vp_cell_i, vp_cell_i, arrV_store]
  congr 2
  funext z
  by_cases hz : z = i.toNatClampNeg
  · subst hz
    simp [updV, upd]
    try rfl
  · simp [updV, upd, hz]
theorem Tr.iastN {q n a : Nat} {f : Nat → Int32} {x : Int32} (hd : decode C.2.1.2.1 pc = .ok (.iastore, 1)) (hw : w[q]? = some (aI C.1 n f)) (ha : a < n) (hn : n < 2 ^ 31) (hp : pc + 1 = pc') (kk : Tr C kb nb pc' lv st (w.set q (aI C.1 n (upd f a x)))) : Tr C kb nb pc lv (.int x :: .int (nI a) :: .ref (C.2.2.1 q) :: st) w :=
  Tr.iast hd hw (vp_in_nI ha hn) hp (by rw [nI_clamp (by omega)]; exact kk)
theorem Tr.bast {q n : Nat} {f : Nat → Int32} {i : Int32} {x : Int32} (hd : decode C.2.1.2.1 pc = .ok (.bastore, 1)) (hw : w[q]? = some (aB C.1 n f)) (hin : vp_in i n) (hp : pc + 1 = pc') (kk : Tr C kb nb pc' lv st (w.set q (aB C.1 n (upd f i.toNatClampNeg (vp_nar .byte x))))) : Tr C kb nb pc lv (.int x :: .int i :: .ref (C.2.2.1 q) :: st) w := by
  subst hp
  intro p l e s m args below meth c R Z hC hR H locs cells slots ls h1 h2 h3 h4 h5
  obtain ⟨hx, hb, hml, hown, hts, hK, hnm, hRm, hI, hG⟩ := id hC
  refine W.bast hx hb (h3.1 q _ (prs_at hw)) ((hK.2 2 _ rfl).1 n (fun j => .int (f j))) (fun z => by cases z) (by show ¬ (i < 0 ∨ (arrV _ _ _).slots.size ≤ _); rw [arrV_size]; exact hin) rfl rfl hd fun H1 y z oq => ?_
  refine kk p l e s m args below meth c R Z hC hR H1 _ cells slots ls h1 h2 (h3.set (h3.1.set (prs_D hI) (prs_at hw) ?_ oq) z) (h4.put z oq ⟨q, rfl⟩) h5
  show H1[C.2.2.1 q]? = some (vp_cell _ _)
  rw [y, vp_cell_i, vp_cell_i, arrV_store]
  congr 2
  funext z
  by_cases hz : z = i.toNatClampNeg
  · subst hz
    simp [updV, upd, vp_nar]
    try rfl
  · simp [updV, upd, vp_nar, hz]
theorem Tr.bastN {q n a : Nat} {f : Nat → Int32} {x : Int32} (hd : decode C.2.1.2.1 pc = .ok (.bastore, 1)) (hw : w[q]? = some (aB C.1 n f)) (ha : a < n) (hn : n < 2 ^ 31) (hp : pc + 1 = pc') (kk : Tr C kb nb pc' lv st (w.set q (aB C.1 n (upd f a (vp_nar .byte x))))) : Tr C kb nb pc lv (.int x :: .int (nI a) :: .ref (C.2.2.1 q) :: st) w :=
  Tr.bast hd hw (vp_in_nI ha hn) hp (by rw [nI_clamp (by omega)]; exact kk)
theorem Tr.zast {q n : Nat} {f : Nat → Int32} {i : Int32} {x : Int32} (hd : decode C.2.1.2.1 pc = .ok (.bastore, 1)) (hw : w[q]? = some (aZ C.1 n f)) (hin : vp_in i n) (hp : pc + 1 = pc') (kk : Tr C kb nb pc' lv st (w.set q (aZ C.1 n (upd f i.toNatClampNeg (vp_nar .boolean x))))) : Tr C kb nb pc lv (.int x :: .int i :: .ref (C.2.2.1 q) :: st) w := by
  subst hp
  intro p l e s m args below meth c R Z hC hR H locs cells slots ls h1 h2 h3 h4 h5
  obtain ⟨hx, hb, hml, hown, hts, hK, hnm, hRm, hI, hG⟩ := id hC
  refine W.zast hx hb (h3.1 q _ (prs_at hw)) ((hK.2 3 _ rfl).1 n (fun j => .int (f j))) (fun z => by cases z) (by show ¬ (i < 0 ∨ (arrV _ _ _).slots.size ≤ _); rw [arrV_size]; exact hin) rfl rfl hd fun H1 y z oq => ?_
  refine kk p l e s m args below meth c R Z hC hR H1 _ cells slots ls h1 h2 (h3.set (h3.1.set (prs_D hI) (prs_at hw) ?_ oq) z) (h4.put z oq ⟨q, rfl⟩) h5
  show H1[C.2.2.1 q]? = some (vp_cell _ _)
  rw [y, vp_cell_i, vp_cell_i, arrV_store]
  congr 2
  funext z
  by_cases hz : z = i.toNatClampNeg
  · subst hz
    simp [updV, upd, vp_nar]
    try rfl
  · simp [updV, upd, vp_nar, hz]
theorem Tr.zastN {q n a : Nat} {f : Nat → Int32} {x : Int32} (hd : decode C.2.1.2.1 pc = .ok (.bastore, 1)) (hw : w[q]? = some (aZ C.1 n f)) (ha : a < n) (hn : n < 2 ^ 31) (hp : pc + 1 = pc') (kk : Tr C kb nb pc' lv st (w.set q (aZ C.1 n (upd f a (vp_nar .boolean x))))) : Tr C kb nb pc lv (.int x :: .int (nI a) :: .ref (C.2.2.1 q) :: st) w :=
  Tr.zast hd hw (vp_in_nI ha hn) hp (by rw [nI_clamp (by omega)]; exact kk)
theorem Tr.last {q n : Nat} {f : Nat → Int64} {i : Int32} {x : Int64} (hd : decode C.2.1.2.1 pc = .ok (.lastore, 1)) (hw : w[q]? = some (aJ C.1 n f)) (hin : vp_in i n) (hp : pc + 1 = pc') (kk : Tr C kb nb pc' lv st (w.set q (aJ C.1 n (vp_updL f i.toNatClampNeg x)))) : Tr C kb nb pc lv (.long x :: .int i :: .ref (C.2.2.1 q) :: st) w := by
  subst hp
  intro p l e s m args below meth c R Z hC hR H locs cells slots ls h1 h2 h3 h4 h5
  obtain ⟨hx, hb, hml, hown, hts, hK, hnm, hRm, hI, hG⟩ := id hC
  refine W.last hx hb (h3.1 q _ (prs_at hw)) ((hK.2 1 _ rfl).1 n (fun j => .long (f j))) (fun z => by cases z) (by show ¬ (i < 0 ∨ (arrV _ _ _).slots.size ≤ _); rw [arrV_size]; exact hin) rfl rfl hd fun H1 y z oq => ?_
  refine kk p l e s m args below meth c R Z hC hR H1 _ cells slots ls h1 h2 (h3.set (h3.1.set (prs_D hI) (prs_at hw) ?_ oq) z) (h4.put z oq ⟨q, rfl⟩) h5
  show H1[C.2.2.1 q]? = some (vp_cell _ _)
  rw [y, vp_cell_l, vp_cell_l, arrV_store]
  congr 2
  funext z
  by_cases hz : z = i.toNatClampNeg
  · subst hz
    simp [updV, vp_updL]
    try rfl
  · simp [updV, vp_updL, hz]
theorem Tr.lastN {q n a : Nat} {f : Nat → Int64} {x : Int64} (hd : decode C.2.1.2.1 pc = .ok (.lastore, 1)) (hw : w[q]? = some (aJ C.1 n f)) (ha : a < n) (hn : n < 2 ^ 31) (hp : pc + 1 = pc') (kk : Tr C kb nb pc' lv st (w.set q (aJ C.1 n (vp_updL f a x)))) : Tr C kb nb pc lv (.long x :: .int (nI a) :: .ref (C.2.2.1 q) :: st) w :=
  Tr.last hd hw (vp_in_nI ha hn) hp (by rw [nI_clamp (by omega)]; exact kk)
theorem Tr.alen {q n : Nat} {cA : ClassId} {t : Nat} {ty : FieldType} {x : (Nat → Int32) ⊕ (Nat → Int64) ⊕ (Nat → UInt32) ⊕ (Nat → UInt64) ⊕ (Nat → Option Nat)} (hd : decode C.2.1.2.1 pc = .ok (.arraylength, 1)) (hw : w[q]? = some (.inl (cA, n, x))) (ht : (tysE C.1)[t]? = some (cA, ty)) (hp : pc + 1 = pc') (kk : Tr C kb nb pc' lv (.int (nI n) :: st) w) : Tr C kb nb pc lv (.ref (C.2.2.1 q) :: st) w := by
  subst hp
  intro p l e s m args below meth c R Z hC hR H locs cells slots ls h1 h2 h3 h4 h5
  obtain ⟨hx, hb, hml, hown, hts, hK, hnm, hRm, hI, hG⟩ := id hC
  exact va_alen hx hb hK h3.1 q t (prs_at hw) ht rfl hd (kk p l e s m args below meth c R Z hC hR H locs cells slots ls h1 h2 h3 h4 h5)
theorem Tr.aald {q n a j r : Nat} {Cn : String} {f : Nat → Option Nat} (hd : decode C.2.1.2.1 pc = .ok (.aaload, 1)) (hw : w[q]? = some (aR C.1 j n f)) (ht : (tysE C.1)[j]? = some (C.1.2.1 j, .object Cn)) (ha : a < n) (hn : n < 2 ^ 31) (hr : f a = some r) (hp : pc + 1 = pc') (kk : Tr C kb nb pc' lv (.ref r :: st) w) : Tr C kb nb pc lv (.int (nI a) :: .ref (C.2.2.1 q) :: st) w := by
  subst hp
  intro p l e s m args below meth c R Z hC hR H locs cells slots ls h1 h2 h3 h4 h5
  obtain ⟨hx, hb, hml, hown, hts, hK, hnm, hRm, hI, hG⟩ := id hC
  refine va_aldq hx hb hK h3.1 q j (prs_at hw) ht (vp_in_nI ha hn) hd ?_
  rw [nI_clamp (by omega), hr]
  exact kk p l e s m args below meth c R Z hC hR H locs cells slots ls h1 h2 h3 h4 h5
theorem Pic.push {E : EnvT} {ad : Nat → Nat} {H H1 : Heap} {e : va_E} (h : Pic E ad w H) (hz : H1.size = H.size + 1) (hq : ∀ q : Nat, q < H.size → H1[q]? = H[q]?) (he : va_at E.1 vwCl (H.size, e) H1) : Pic E ad (w ++ [e]) H1 := by
  have h0 : ad w.length = H.size := by have := h.2 0; simpa using this
  refine ⟨?_, fun j => ?_⟩
  · rw [prs_app, Nat.zero_add]
    refine (h.1.kept (fun k x hx => hq x.1 ((h.1 k x hx).lt))).app (fun k x hx => ?_)
    have hk : k < 1 := (List.getElem?_eq_some_iff.mp hx).1
    have hk0 : k = 0 := by omega
    subst hk0
    cases hx
    rw [h0]
    exact he
  · rw [List.length_append, List.length_singleton, hz, show w.length + 1 + j = w.length + (1 + j) by omega, h.2 (1 + j)]
    omega
theorem va_S.grow {A : Nat → Prop} {H0 H H1 : Heap} {locs : List Loc} (h : va_S A H0 H locs) (hz : H1.size = H.size + 1) (hq : ∀ q : Nat, q < H.size → H1[q]? = H[q]?) : va_S A H0 H1 locs :=
  ⟨Nat.le_trans h.1 (by omega), fun x h1 h2 => (hq x (Nat.lt_of_lt_of_le h1 h.1)).trans (h.2.1 x h1 h2), h.2.2⟩
/-- what stands for a new object: class, links, fields' types -/
def NAt (own : String) (idx ci N : Nat) (fs : List Value) : Prop := ∃ (Cn : String) (T : u_T) (ty0 : Nat → FieldType), vwCl[ci]? = some (Cn, T, N) ∧ (∀ w ∈ u_ws Cn T N, w ∈ tbW) ∧ Cond.classLink own idx Cn ∈ tbW ∧ Cond.instantiable Cn N ∈ tbW ∧ Cond.initialized Cn ∈ tbW ∧ (∀ j, j < N → parseFieldDescriptor (T j).2.2.1 = some (ty0 j)) ∧ ∀ j, j < N → defaultValue (ty0 j) = vp_V fs j
theorem Tr.new {idx ci N kb' nb' : Nat} {fs : List Value} (hd : decode C.2.1.2.1 pc = .ok (.new idx, 3)) (hf : NAt C.2.1.1.cls idx ci N fs) (hk : kb' + 1 = kb) (hn : nb' + N = nb) (hp : pc + 3 = pc') (kk : Tr C kb' nb' pc' lv (.ref (C.2.2.1 w.length) :: st) (w ++ [.inr (ci, fs)])) : Tr C kb nb pc lv st w := by
  subst hp
  intro p l e s m args below meth c R Z hC hR H locs cells slots ls h1 h2 h3 h4 h5
  obtain ⟨hx, hb, hml, hown, hts, hK, hnm, hRm, hI, hG⟩ := id hC
  obtain ⟨Cn, T, ty0, g1, g2, g3, g4, g5, g6, g7⟩ := hf
  have hKn := hK.1 ci _ g1
  have h0 : C.2.2.1 w.length = H.size := by have := h3.2 0; simpa using this
  refine W.newcK hx hb hown (hts _ g3) (hts _ g4) (hts _ g5) rfl hd (by rw [hRm]; show cells + 1 ≤ _; simp only [rmD]; omega) (by rw [hRm]; simp only [rmD]; omega) hKn.2.1 rfl fun H1 kC hkC e1 z1 o1 => ?_
  have := kk p l e s m args below meth c R Z hC hR H1 locs (cells + 1) (slots + N) ls (by omega) (by omega) (h3.push z1 o1 ⟨_, g1, (u_born ty0 hts g2 hKn hkC e1 g6).to g7⟩) (h4.grow z1 o1) h5
  rw [h0] at this
  exact this
theorem Tr.newI {n kb' nb' : Nat} (hd : decode C.2.1.2.1 pc = .ok (.newarray .int, 2)) (hc : Cond.arrayClass .int ∈ tbW) (hl : n ≤ 100000) (hk : kb' + 1 = kb) (hn : nb' + n = nb) (hp : pc + 2 = pc') (kk : Tr C kb' nb' pc' lv (.ref (C.2.2.1 w.length) :: st) (w ++ [aI C.1 n (fun _ => 0)])) : Tr C kb nb pc lv (.int (nI n) :: st) w := by
  subst hp
  intro p l e s m args below meth c R Z hC hR H locs cells slots ls h1 h2 h3 h4 h5
  obtain ⟨hx, hb, hml, hown, hts, hK, hnm, hRm, hI, hG⟩ := id hC
  have h0 : C.2.2.1 w.length = H.size := by have := h3.2 0; simpa using this
  have hty : newarray.typeOf .int = .int := rfl
  refine va_newaK (N := n) hx hb (by rw [hty]; exact hts _ hc) rfl hd rfl (nI_pos (by omega)) (nI_clamp (by omega)) (by rw [hty]; show n * _ ≤ _; simp only [componentBytes]; omega) (by rw [hRm]; simp only [rmD]; omega) (by rw [hRm]; simp only [rmD]; omega) rfl fun H1 cA e1 z1 o1 hAr hNm => ?_
  have hcA : cA = C.1.2.1 0 := by
    have q : va_RA s (C.1.2.1 0) .int := (hK.2 0 _ rfl).2
    exact Option.some.inj (hNm.symm.trans q)
  subst hcA
  have := kk p l e s m args below meth c R Z hC hR H1 locs (cells + 1) (slots + n) ls (by omega) (by omega) (h3.push z1 o1 (by show H1[H.size]? = some (vp_cell _ _); rw [vp_cell_i]; exact e1)) (h4.grow z1 o1) h5
  rw [h0] at this
  exact this
theorem Tr.newJ {n kb' nb' : Nat} (hd : decode C.2.1.2.1 pc = .ok (.newarray .long, 2)) (hc : Cond.arrayClass .long ∈ tbW) (hl : n ≤ 100000) (hk : kb' + 1 = kb) (hn : nb' + n = nb) (hp : pc + 2 = pc') (kk : Tr C kb' nb' pc' lv (.ref (C.2.2.1 w.length) :: st) (w ++ [aJ C.1 n (fun _ => 0)])) : Tr C kb nb pc lv (.int (nI n) :: st) w := by
  subst hp
  intro p l e s m args below meth c R Z hC hR H locs cells slots ls h1 h2 h3 h4 h5
  obtain ⟨hx, hb, hml, hown, hts, hK, hnm, hRm, hI, hG⟩ := id hC
  have h0 : C.2.2.1 w.length = H.size := by have := h3.2 0; simpa using this
  have hty : newarray.typeOf .long = .long := rfl
  refine va_newaK (N := n) hx hb (by rw [hty]; exact hts _ hc) rfl hd rfl (nI_pos (by omega)) (nI_clamp (by omega)) (by rw [hty]; show n * _ ≤ _; simp only [componentBytes]; omega) (by rw [hRm]; simp only [rmD]; omega) (by rw [hRm]; simp only [rmD]; omega) rfl fun H1 cA e1 z1 o1 hAr hNm => ?_
  have hcA : cA = C.1.2.1 1 := by
    have q : va_RA s (C.1.2.1 1) .long := (hK.2 1 _ rfl).2
    exact Option.some.inj (hNm.symm.trans q)
  subst hcA
  have := kk p l e s m args below meth c R Z hC hR H1 locs (cells + 1) (slots + n) ls (by omega) (by omega) (h3.push z1 o1 (by show H1[H.size]? = some (vp_cell _ _); rw [vp_cell_l]; exact e1)) (h4.grow z1 o1) h5
  rw [h0] at this
  exact this
theorem Tr.newB {n kb' nb' : Nat} (hd : decode C.2.1.2.1 pc = .ok (.newarray .byte, 2)) (hc : Cond.arrayClass .byte ∈ tbW) (hl : n ≤ 100000) (hk : kb' + 1 = kb) (hn : nb' + n = nb) (hp : pc + 2 = pc') (kk : Tr C kb' nb' pc' lv (.ref (C.2.2.1 w.length) :: st) (w ++ [aB C.1 n (fun _ => 0)])) : Tr C kb nb pc lv (.int (nI n) :: st) w := by
  subst hp
  intro p l e s m args below meth c R Z hC hR H locs cells slots ls h1 h2 h3 h4 h5
  obtain ⟨hx, hb, hml, hown, hts, hK, hnm, hRm, hI, hG⟩ := id hC
  have h0 : C.2.2.1 w.length = H.size := by have := h3.2 0; simpa using this
  have hty : newarray.typeOf .byte = .byte := rfl
  refine va_newaK (N := n) hx hb (by rw [hty]; exact hts _ hc) rfl hd rfl (nI_pos (by omega)) (nI_clamp (by omega)) (by rw [hty]; show n * _ ≤ _; simp only [componentBytes]; omega) (by rw [hRm]; simp only [rmD]; omega) (by rw [hRm]; simp only [rmD]; omega) rfl fun H1 cA e1 z1 o1 hAr hNm => ?_
  have hcA : cA = C.1.2.1 2 := by
    have q : va_RA s (C.1.2.1 2) .byte := (hK.2 2 _ rfl).2
    exact Option.some.inj (hNm.symm.trans q)
  subst hcA
  have := kk p l e s m args below meth c R Z hC hR H1 locs (cells + 1) (slots + n) ls (by omega) (by omega) (h3.push z1 o1 (by show H1[H.size]? = some (vp_cell _ _); rw [vp_cell_i]; exact e1)) (h4.grow z1 o1) h5
  rw [h0] at this
  exact this
theorem Tr.newZ {n kb' nb' : Nat} (hd : decode C.2.1.2.1 pc = .ok (.newarray .boolean, 2)) (hc : Cond.arrayClass .boolean ∈ tbW) (hl : n ≤ 100000) (hk : kb' + 1 = kb) (hn : nb' + n = nb) (hp : pc + 2 = pc') (kk : Tr C kb' nb' pc' lv (.ref (C.2.2.1 w.length) :: st) (w ++ [aZ C.1 n (fun _ => 0)])) : Tr C kb nb pc lv (.int (nI n) :: st) w := by
  subst hp
  intro p l e s m args below meth c R Z hC hR H locs cells slots ls h1 h2 h3 h4 h5
  obtain ⟨hx, hb, hml, hown, hts, hK, hnm, hRm, hI, hG⟩ := id hC
  have h0 : C.2.2.1 w.length = H.size := by have := h3.2 0; simpa using this
  have hty : newarray.typeOf .boolean = .boolean := rfl
  refine va_newaK (N := n) hx hb (by rw [hty]; exact hts _ hc) rfl hd rfl (nI_pos (by omega)) (nI_clamp (by omega)) (by rw [hty]; show n * _ ≤ _; simp only [componentBytes]; omega) (by rw [hRm]; simp only [rmD]; omega) (by rw [hRm]; simp only [rmD]; omega) rfl fun H1 cA e1 z1 o1 hAr hNm => ?_
  have hcA : cA = C.1.2.1 3 := by
    have q : va_RA s (C.1.2.1 3) .boolean := (hK.2 3 _ rfl).2
    exact Option.some.inj (hNm.symm.trans q)
  subst hcA
  have := kk p l e s m args below meth c R Z hC hR H1 locs (cells + 1) (slots + n) ls (by omega) (by omega) (h3.push z1 o1 (by show H1[H.size]? = some (vp_cell _ _); rw [vp_cell_i]; exact e1)) (h4.grow z1 o1) h5
  rw [h0] at this
  exact this
theorem Tr.newR {idx n j kb' nb' : Nat} {Cn : String} (hd : decode C.2.1.2.1 pc = .ok (.anewarray idx, 3)) (hc : Cond.classLink C.2.1.1.cls idx Cn ∈ tbW) (ho : Cn = "OwnedByGuests$Course" ∨ Cn = "OwnedByGuests$Scene") (ht : (tysE C.1)[j]? = some (C.1.2.1 j, .object Cn)) (hl : n ≤ 100000) (hk : kb' + 1 = kb) (hn : nb' + n = nb) (hp : pc + 3 = pc') (kk : Tr C kb' nb' pc' lv (.ref (C.2.2.1 w.length) :: st) (w ++ [aR C.1 j n (fun _ => none)])) : Tr C kb nb pc lv (.int (nI n) :: st) w := by
  subst hp
  intro p l e s m args below meth c R Z hC hR H locs cells slots ls h1 h2 h3 h4 h5
  obtain ⟨hx, hb, hml, hown, hts, hK, hnm, hRm, hI, hG⟩ := id hC
  have h0 : C.2.2.1 w.length = H.size := by have := h3.2 0; simpa using this
  have hao : va_AO Cn s := by rcases ho with rfl | rfl; exact hG.2.2.2.2.2.2.2.2.2.1; exact hG.2.2.2.2.2.2.2.2.2.2.1
  have hc9 : (nI n).toNatClampNeg = n := nI_clamp (by omega)
  refine W.anew hx hb hown (hts _ hc) (va_AO.use hao) rfl hd rfl (nI_pos (by omega)) (by rw [hc9]; omega) (by rw [hRm]; simp only [rmD]; omega) (by rw [hc9, hRm]; simp only [rmD]; omega) fun cA kA comp f1 f2 f3 f4 => ?_
  rw [hc9]
  have hcA : cA = C.1.2.1 j := by
    obtain ⟨_, _, _, _, _, q⟩ := (hK.2 j _ ht).2
    exact Option.some.inj (f1.symm.trans q)
  subst hcA
  have := kk p l e s m args below meth c R Z hC hR _ locs (cells + 1) (slots + n) ls (by omega) (by omega) (h3.push (H1 := H.push { cls := C.1.2.1 j, slots := Array.replicate n .null, vm := .none }) (by rw [Array.size_push]) (fun q hq => by rw [Array.getElem?_push, if_neg (Nat.ne_of_lt hq)]) (by show _ = some (vp_cell _ _); rw [vp_cell_q, Array.getElem?_push_size, arrV_new]; rfl)) (h4.grow (by rw [Array.size_push]) (fun q hq => by rw [Array.getElem?_push, if_neg (Nat.ne_of_lt hq)])) h5
  rw [h0] at this
  exact this
theorem Tr.aast {q n a j qk ci : Nat} {r : vw_C} {vs : List Value} {f : Nat → Option Nat} (hd : decode C.2.1.2.1 pc = .ok (.aastore, 1)) (hw : w[q]? = some (aR C.1 j n f)) (ht : (tysE C.1)[j]? = some (C.1.2.1 j, .object r.1)) (hv : w[qk]? = some (.inr (ci, vs))) (hc : vwCl[ci]? = some r) (ha : a < n) (hn : n < 2 ^ 31) (hp : pc + 1 = pc') (kk : Tr C kb nb pc' lv st (w.set q (aR C.1 j n (va_up f a (some (C.2.2.1 qk)))))) : Tr C kb nb pc lv (.ref (C.2.2.1 qk) :: .int (nI a) :: .ref (C.2.2.1 q) :: st) w := by
  subst hp
  intro p l e s m args below meth c R Z hC hR H locs cells slots ls h1 h2 h3 h4 h5
  obtain ⟨hx, hb, hml, hown, hts, hK, hnm, hRm, hI, hG⟩ := id hC
  obtain ⟨r', hr', cellV, g1, g2, g3, -⟩ := h3.1 qk _ (prs_at hv)
  have hcls := (hK.1 ci r hc).2
  obtain ⟨kA, comp, k1, k2, k3, -⟩ := (hK.2 j _ ht).2
  have hcomp : comp = C.1.1.1 ci := Option.some.inj (k3.symm.trans hcls.1)
  subst hcomp
  obtain ⟨kC, hkC, -⟩ := id hcls.2
  have hc9 : (nI a).toNatClampNeg = a := nI_clamp (by omega)
  refine W.aast hx hb (h3.1 q _ (prs_at hw)) (fun z h => by cases h) (fun h => by cases h) k1 k2 rfl hkC ⟨nI_pos (by omega), by show _ < (arrV _ _ _).slots.size; rw [arrV_size, hc9]; exact ha⟩ g1 (fun z h => by rw [g3] at h; cases h) (by rw [g2]; exact hkC) (by rw [g2]; exact va_assign hcls) rfl rfl hd fun H1 y z oq => ?_
  refine kk p l e s m args below meth c R Z hC hR H1 _ cells slots ls h1 h2 (h3.set (h3.1.set (prs_D hI) (prs_at hw) ?_ oq) z) (h4.put z oq ⟨q, rfl⟩) h5
  show H1[C.2.2.1 q]? = some (vp_cell _ _)
  rw [y, hc9, vp_cell_q, vp_cell_q, arrV_store]
  congr 2
  funext z
  by_cases hz : z = a
  · subst hz
    simp [updV, va_up, va_rf]
  · simp [updV, va_up, hz]
end TRB
