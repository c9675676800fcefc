/-! the rows over the one judgement -/
section ZGB
variable {G : zgG} {Z : zgZ} {R : Room} {cc : ByteArray} {own : String} {ret : Option FieldType} {nL : Nat} {Ts : List Cond} {k n : Nat} {ws : va_W} {pc : Nat} {L : List (Nat × Value)} {rest : List Value}
theorem zg_pc (pc' : Nat) (h : pc = pc') (K : zgGd G Z R k n nL ws pc' L rest) : zgGd G Z R k n nL ws pc L rest := by subst h; exact K
theorem zg_loc (js : List Nat) {L' : List (Nat × Value)} (h : lv_pick L js = L') (K : zgGd G Z R k n nL ws pc L' rest) : zgGd G Z R k n nL ws pc L rest :=
  fun H locs ls hP hD hS hl => K H locs ls hP hD hS (lv_sub hl js h)
theorem zg_ws {ws' : va_W} (h : ws = ws') (K : zgGd G Z R k n nL ws' pc L rest) : zgGd G Z R k n nL ws pc L rest := by subst h; exact K
theorem zg_wide {k' n' : Nat} (h1 : k ≤ k') (h2 : n ≤ n') (K : zgGd G Z R k' n' nL ws pc L rest) : zgGd G Z R k n nL ws pc L rest :=
  fun H locs ls hP hD hS hl => W.widen h1 h2 (K H locs ls hP hD hS hl)
theorem zg_perm (js : List Nat) (hn : va_nd js = true) {ws' : va_W} (h : js.map (fun i => ws[i]?) = ws'.map some) (h2 : js.filterMap (fun i => ws[i]?) = ws') (K : zgGd G Z R k n nL ws' pc L rest) : zgGd G Z R k n nL ws pc L rest :=
  fun H locs ls hP hD hS hl => K H locs ls (hP.sub js h2) (hD.sub js hn h) hS hl

theorem zg_iconst (X : zgCx G Z cc own ret nL Ts) {i : Int} {v : Int32} (hd : decode cc pc = .ok (.iconst i, 1)) (hv : Int32.ofInt i = v) (K : zgGd G Z R k n nL ws (pc + 1) L (.int v :: rest)) : zgGd G Z R k n nL ws pc L rest :=
  fun H locs ls hP hD hS hl => lv_iconst X.1 X.2.1 hd hv (K H locs ls hP hD hS hl)
theorem zg_bipush (X : zgCx G Z cc own ret nL Ts) {i : Int} {v : Int32} (hd : decode cc pc = .ok (.bipush i, 2)) (hv : (Int8.ofInt i).toInt32 = v) (K : zgGd G Z R k n nL ws (pc + 2) L (.int v :: rest)) : zgGd G Z R k n nL ws pc L rest :=
  fun H locs ls hP hD hS hl => lv_bipush X.1 X.2.1 hd hv (K H locs ls hP hD hS hl)
theorem zg_sipush (X : zgCx G Z cc own ret nL Ts) {i : Int} {v : Int32} (hd : decode cc pc = .ok (.sipush i, 3)) (hv : (Int16.ofInt i).toInt32 = v) (K : zgGd G Z R k n nL ws (pc + 3) L (.int v :: rest)) : zgGd G Z R k n nL ws pc L rest :=
  fun H locs ls hP hD hS hl => lv_sipush X.1 X.2.1 hd hv (K H locs ls hP hD hS hl)
theorem zg_lconst (X : zgCx G Z cc own ret nL Ts) {i : Fin 2} {v : Int64} (hd : decode cc pc = .ok (.lconst i, 1)) (hv : Int64.ofNat (i : Nat) = v) (K : zgGd G Z R k n nL ws (pc + 1) L (.long v :: rest)) : zgGd G Z R k n nL ws pc L rest :=
  fun H locs ls hP hD hS hl => lv_lconst X.1 X.2.1 hd hv (K H locs ls hP hD hS hl)
theorem zg_ldc2 (X : zgCx G Z cc own ret nL Ts) {index : Nat} {v : Int64} (hd : decode cc pc = .ok (.ldc2_w index, 3)) (hc : Jvm.Cond.constantLong own index v ∈ Ts) (K : zgGd G Z R k n nL ws (pc + 3) L (.long v :: rest)) : zgGd G Z R k n nL ws pc L rest :=
  fun H locs ls hP hD hS hl => lv_ldc2 X.1 X.2.1 X.2.2.2.2.1 (X.2.2.2.2.2.1 _ hc) hd (K H locs ls hP hD hS hl)
theorem zg_iload_n (X : zgCx G Z cc own ret nL Ts) {q : Fin 4} {i : Nat} {x : Int32} (hd : decode cc pc = .ok (.iload_n q, 1)) (hi : (q : Nat) = i) (j : Nat) (hj : L[j]? = some (i, .int x)) (K : zgGd G Z R k n nL ws (pc + 1) L (.int x :: rest)) : zgGd G Z R k n nL ws pc L rest :=
  fun H locs ls hP hD hS hl => lv_iload_n X.1 X.2.1 hd hi (lv_at hl j hj) (K H locs ls hP hD hS hl)
theorem zg_iload (X : zgCx G Z cc own ret nL Ts) {i : Nat} {x : Int32} (hd : decode cc pc = .ok (.iload i, 2)) (j : Nat) (hj : L[j]? = some (i, .int x)) (K : zgGd G Z R k n nL ws (pc + 2) L (.int x :: rest)) : zgGd G Z R k n nL ws pc L rest :=
  fun H locs ls hP hD hS hl => lv_iload X.1 X.2.1 hd (lv_at hl j hj) (K H locs ls hP hD hS hl)
theorem zg_lload_n (X : zgCx G Z cc own ret nL Ts) {q : Fin 4} {i : Nat} {x : Int64} (hd : decode cc pc = .ok (.lload_n q, 1)) (hi : (q : Nat) = i) (j : Nat) (hj : L[j]? = some (i, .long x)) (K : zgGd G Z R k n nL ws (pc + 1) L (.long x :: rest)) : zgGd G Z R k n nL ws pc L rest :=
  fun H locs ls hP hD hS hl => lv_lload_n X.1 X.2.1 hd hi (lv_at hl j hj) (K H locs ls hP hD hS hl)
theorem zg_lload (X : zgCx G Z cc own ret nL Ts) {i : Nat} {x : Int64} (hd : decode cc pc = .ok (.lload i, 2)) (j : Nat) (hj : L[j]? = some (i, .long x)) (K : zgGd G Z R k n nL ws (pc + 2) L (.long x :: rest)) : zgGd G Z R k n nL ws pc L rest :=
  fun H locs ls hP hD hS hl => lv_lload X.1 X.2.1 hd (lv_at hl j hj) (K H locs ls hP hD hS hl)
theorem zg_aload_n (X : zgCx G Z cc own ret nL Ts) {q : Fin 4} {i : Nat} {x : Nat} (hd : decode cc pc = .ok (.aload_n q, 1)) (hi : (q : Nat) = i) (j : Nat) (hj : L[j]? = some (i, .ref x)) (K : zgGd G Z R k n nL ws (pc + 1) L (.ref x :: rest)) : zgGd G Z R k n nL ws pc L rest :=
  fun H locs ls hP hD hS hl => lv_aload_n X.1 X.2.1 hd hi (lv_at hl j hj) (K H locs ls hP hD hS hl)
theorem zg_aload (X : zgCx G Z cc own ret nL Ts) {i : Nat} {x : Nat} (hd : decode cc pc = .ok (.aload i, 2)) (j : Nat) (hj : L[j]? = some (i, .ref x)) (K : zgGd G Z R k n nL ws (pc + 2) L (.ref x :: rest)) : zgGd G Z R k n nL ws pc L rest :=
  fun H locs ls hP hD hS hl => lv_aload X.1 X.2.1 hd (lv_at hl j hj) (K H locs ls hP hD hS hl)
theorem zg_dload_n (X : zgCx G Z cc own ret nL Ts) {q : Fin 4} {i : Nat} {x : UInt64} (hd : decode cc pc = .ok (.dload_n q, 1)) (hi : (q : Nat) = i) (j : Nat) (hj : L[j]? = some (i, .double x)) (K : zgGd G Z R k n nL ws (pc + 1) L (.double x :: rest)) : zgGd G Z R k n nL ws pc L rest :=
  fun H locs ls hP hD hS hl => lv_dload_n X.1 X.2.1 hd hi (lv_at hl j hj) (K H locs ls hP hD hS hl)
theorem zg_dload (X : zgCx G Z cc own ret nL Ts) {i : Nat} {x : UInt64} (hd : decode cc pc = .ok (.dload i, 2)) (j : Nat) (hj : L[j]? = some (i, .double x)) (K : zgGd G Z R k n nL ws (pc + 2) L (.double x :: rest)) : zgGd G Z R k n nL ws pc L rest :=
  fun H locs ls hP hD hS hl => lv_dload X.1 X.2.1 hd (lv_at hl j hj) (K H locs ls hP hD hS hl)
theorem zg_istore_n (X : zgCx G Z cc own ret nL Ts) {q : Fin 4} {i : Nat} {x : Int32} {L' : List (Nat × Value)} (hd : decode cc pc = .ok (.istore_n q, 1)) (hi : (q : Nat) = i) (hn : i < nL) (hL : (i, Value.int x) :: L.filter (fun q => !(q.1 == i) && !(q.1 + 1 == i && q.2.category == 2)) = L') (K : zgGd G Z R k n nL ws (pc + 1) L' rest) : zgGd G Z R k n nL ws pc L (.int x :: rest) :=
  fun H locs ls hP hD hS hl => lv_istore_n X.1 X.2.1 hd hi hl hn hL (fun ls hl => K H locs ls hP hD hS hl)
theorem zg_istore (X : zgCx G Z cc own ret nL Ts) {i : Nat} {x : Int32} {L' : List (Nat × Value)} (hd : decode cc pc = .ok (.istore i, 2)) (hn : i < nL) (hL : (i, Value.int x) :: L.filter (fun q => !(q.1 == i) && !(q.1 + 1 == i && q.2.category == 2)) = L') (K : zgGd G Z R k n nL ws (pc + 2) L' rest) : zgGd G Z R k n nL ws pc L (.int x :: rest) :=
  fun H locs ls hP hD hS hl => lv_istore X.1 X.2.1 hd hl hn hL (fun ls hl => K H locs ls hP hD hS hl)
theorem zg_lstore_n (X : zgCx G Z cc own ret nL Ts) {q : Fin 4} {i : Nat} {x : Int64} {L' : List (Nat × Value)} (hd : decode cc pc = .ok (.lstore_n q, 1)) (hi : (q : Nat) = i) (hn : i + 1 < nL) (hL : (i, Value.long x) :: L.filter (fun q => !(q.1 == i) && (!(q.1 == i + 1) && !(q.1 + 1 == i && q.2.category == 2))) = L') (K : zgGd G Z R k n nL ws (pc + 1) L' rest) : zgGd G Z R k n nL ws pc L (.long x :: rest) :=
  fun H locs ls hP hD hS hl => lv_lstore_n X.1 X.2.1 hd hi hl hn hL (fun ls hl => K H locs ls hP hD hS hl)
theorem zg_lstore (X : zgCx G Z cc own ret nL Ts) {i : Nat} {x : Int64} {L' : List (Nat × Value)} (hd : decode cc pc = .ok (.lstore i, 2)) (hn : i + 1 < nL) (hL : (i, Value.long x) :: L.filter (fun q => !(q.1 == i) && (!(q.1 == i + 1) && !(q.1 + 1 == i && q.2.category == 2))) = L') (K : zgGd G Z R k n nL ws (pc + 2) L' rest) : zgGd G Z R k n nL ws pc L (.long x :: rest) :=
  fun H locs ls hP hD hS hl => lv_lstore X.1 X.2.1 hd hl hn hL (fun ls hl => K H locs ls hP hD hS hl)
theorem zg_astore_n (X : zgCx G Z cc own ret nL Ts) {q : Fin 4} {i : Nat} {x : Nat} {L' : List (Nat × Value)} (hd : decode cc pc = .ok (.astore_n q, 1)) (hi : (q : Nat) = i) (hn : i < nL) (hL : (i, Value.ref x) :: L.filter (fun q => !(q.1 == i) && !(q.1 + 1 == i && q.2.category == 2)) = L') (K : zgGd G Z R k n nL ws (pc + 1) L' rest) : zgGd G Z R k n nL ws pc L (.ref x :: rest) :=
  fun H locs ls hP hD hS hl => lv_astore_n X.1 X.2.1 hd hi hl hn hL (fun ls hl => K H locs ls hP hD hS hl)
theorem zg_astore (X : zgCx G Z cc own ret nL Ts) {i : Nat} {x : Nat} {L' : List (Nat × Value)} (hd : decode cc pc = .ok (.astore i, 2)) (hn : i < nL) (hL : (i, Value.ref x) :: L.filter (fun q => !(q.1 == i) && !(q.1 + 1 == i && q.2.category == 2)) = L') (K : zgGd G Z R k n nL ws (pc + 2) L' rest) : zgGd G Z R k n nL ws pc L (.ref x :: rest) :=
  fun H locs ls hP hD hS hl => lv_astore X.1 X.2.1 hd hl hn hL (fun ls hl => K H locs ls hP hD hS hl)
theorem zg_dstore_n (X : zgCx G Z cc own ret nL Ts) {q : Fin 4} {i : Nat} {x : UInt64} {L' : List (Nat × Value)} (hd : decode cc pc = .ok (.dstore_n q, 1)) (hi : (q : Nat) = i) (hn : i + 1 < nL) (hL : (i, Value.double x) :: L.filter (fun q => !(q.1 == i) && (!(q.1 == i + 1) && !(q.1 + 1 == i && q.2.category == 2))) = L') (K : zgGd G Z R k n nL ws (pc + 1) L' rest) : zgGd G Z R k n nL ws pc L (.double x :: rest) :=
  fun H locs ls hP hD hS hl => lv_dstore_n X.1 X.2.1 hd hi hl hn hL (fun ls hl => K H locs ls hP hD hS hl)
theorem zg_dstore (X : zgCx G Z cc own ret nL Ts) {i : Nat} {x : UInt64} {L' : List (Nat × Value)} (hd : decode cc pc = .ok (.dstore i, 2)) (hn : i + 1 < nL) (hL : (i, Value.double x) :: L.filter (fun q => !(q.1 == i) && (!(q.1 == i + 1) && !(q.1 + 1 == i && q.2.category == 2))) = L') (K : zgGd G Z R k n nL ws (pc + 2) L' rest) : zgGd G Z R k n nL ws pc L (.double x :: rest) :=
  fun H locs ls hP hD hS hl => lv_dstore X.1 X.2.1 hd hl hn hL (fun ls hl => K H locs ls hP hD hS hl)
theorem zg_iinc (X : zgCx G Z cc own ret nL Ts) {i j : Nat} {d : Int} {x v : Int32} {L' : List (Nat × Value)} (hd : decode cc pc = .ok (.iinc i d, 3)) (hj : L[j]? = some (i, .int x)) (hv : x + Int32.ofInt d = v) (hn : i < nL) (hL : (i, Value.int v) :: L.filter (fun q => !(q.1 == i) && !(q.1 + 1 == i && q.2.category == 2)) = L') (K : zgGd G Z R k n nL ws (pc + 3) L' rest) : zgGd G Z R k n nL ws pc L rest :=
  fun H locs ls hP hD hS hl => lv_iinc X.1 X.2.1 hd hl hj hv hn hL (fun ls hl => K H locs ls hP hD hS hl)
theorem zg_iadd (X : zgCx G Z cc own ret nL Ts) {x y : Int32} (hd : decode cc pc = .ok (.iadd, 1)) (K : zgGd G Z R k n nL ws (pc + 1) L (.int (x + y) :: rest)) : zgGd G Z R k n nL ws pc L (.int y :: .int x :: rest) :=
  fun H locs ls hP hD hS hl => lv_iadd X.1 X.2.1 hd (K H locs ls hP hD hS hl)
theorem zg_isub (X : zgCx G Z cc own ret nL Ts) {x y : Int32} (hd : decode cc pc = .ok (.isub, 1)) (K : zgGd G Z R k n nL ws (pc + 1) L (.int (x - y) :: rest)) : zgGd G Z R k n nL ws pc L (.int y :: .int x :: rest) :=
  fun H locs ls hP hD hS hl => lv_isub X.1 X.2.1 hd (K H locs ls hP hD hS hl)
theorem zg_imul (X : zgCx G Z cc own ret nL Ts) {x y : Int32} (hd : decode cc pc = .ok (.imul, 1)) (K : zgGd G Z R k n nL ws (pc + 1) L (.int (x * y) :: rest)) : zgGd G Z R k n nL ws pc L (.int y :: .int x :: rest) :=
  fun H locs ls hP hD hS hl => lv_imul X.1 X.2.1 hd (K H locs ls hP hD hS hl)
theorem zg_iand (X : zgCx G Z cc own ret nL Ts) {x y : Int32} (hd : decode cc pc = .ok (.iand, 1)) (K : zgGd G Z R k n nL ws (pc + 1) L (.int (x &&& y) :: rest)) : zgGd G Z R k n nL ws pc L (.int y :: .int x :: rest) :=
  fun H locs ls hP hD hS hl => lv_iand X.1 X.2.1 hd (K H locs ls hP hD hS hl)
theorem zg_ior (X : zgCx G Z cc own ret nL Ts) {x y : Int32} (hd : decode cc pc = .ok (.ior, 1)) (K : zgGd G Z R k n nL ws (pc + 1) L (.int (x ||| y) :: rest)) : zgGd G Z R k n nL ws pc L (.int y :: .int x :: rest) :=
  fun H locs ls hP hD hS hl => lv_ior X.1 X.2.1 hd (K H locs ls hP hD hS hl)
theorem zg_ixor (X : zgCx G Z cc own ret nL Ts) {x y : Int32} (hd : decode cc pc = .ok (.ixor, 1)) (K : zgGd G Z R k n nL ws (pc + 1) L (.int (x ^^^ y) :: rest)) : zgGd G Z R k n nL ws pc L (.int y :: .int x :: rest) :=
  fun H locs ls hP hD hS hl => lv_ixor X.1 X.2.1 hd (K H locs ls hP hD hS hl)
theorem zg_ishl (X : zgCx G Z cc own ret nL Ts) {x y : Int32} (hd : decode cc pc = .ok (.ishl, 1)) (K : zgGd G Z R k n nL ws (pc + 1) L (.int (x <<< (y &&& 31)) :: rest)) : zgGd G Z R k n nL ws pc L (.int y :: .int x :: rest) :=
  fun H locs ls hP hD hS hl => lv_ishl X.1 X.2.1 hd (K H locs ls hP hD hS hl)
theorem zg_ishr (X : zgCx G Z cc own ret nL Ts) {x y : Int32} (hd : decode cc pc = .ok (.ishr, 1)) (K : zgGd G Z R k n nL ws (pc + 1) L (.int (x >>> (y &&& 31)) :: rest)) : zgGd G Z R k n nL ws pc L (.int y :: .int x :: rest) :=
  fun H locs ls hP hD hS hl => lv_ishr X.1 X.2.1 hd (K H locs ls hP hD hS hl)
theorem zg_idiv (X : zgCx G Z cc own ret nL Ts) {x y : Int32} (hd : decode cc pc = .ok (.idiv, 1)) (hne : ¬ y = 0) (K : zgGd G Z R k n nL ws (pc + 1) L (.int (x / y) :: rest)) : zgGd G Z R k n nL ws pc L (.int y :: .int x :: rest) :=
  fun H locs ls hP hD hS hl => lv_idiv X.1 X.2.1 hd hne (K H locs ls hP hD hS hl)
theorem zg_irem (X : zgCx G Z cc own ret nL Ts) {x y : Int32} (hd : decode cc pc = .ok (.irem, 1)) (hne : ¬ y = 0) (K : zgGd G Z R k n nL ws (pc + 1) L (.int (x - x / y * y) :: rest)) : zgGd G Z R k n nL ws pc L (.int y :: .int x :: rest) :=
  fun H locs ls hP hD hS hl => lv_irem X.1 X.2.1 hd hne (K H locs ls hP hD hS hl)
theorem zg_ladd (X : zgCx G Z cc own ret nL Ts) {x y : Int64} (hd : decode cc pc = .ok (.ladd, 1)) (K : zgGd G Z R k n nL ws (pc + 1) L (.long (x + y) :: rest)) : zgGd G Z R k n nL ws pc L (.long y :: .long x :: rest) :=
  fun H locs ls hP hD hS hl => lv_ladd X.1 X.2.1 hd (K H locs ls hP hD hS hl)
theorem zg_lmul (X : zgCx G Z cc own ret nL Ts) {x y : Int64} (hd : decode cc pc = .ok (.lmul, 1)) (K : zgGd G Z R k n nL ws (pc + 1) L (.long (x * y) :: rest)) : zgGd G Z R k n nL ws pc L (.long y :: .long x :: rest) :=
  fun H locs ls hP hD hS hl => lv_lmul X.1 X.2.1 hd (K H locs ls hP hD hS hl)
theorem zg_i2l (X : zgCx G Z cc own ret nL Ts) {x : Int32} (hd : decode cc pc = .ok (.i2l, 1)) (K : zgGd G Z R k n nL ws (pc + 1) L (.long x.toInt64 :: rest)) : zgGd G Z R k n nL ws pc L (.int x :: rest) :=
  fun H locs ls hP hD hS hl => lv_i2l X.1 X.2.1 hd rfl (K H locs ls hP hD hS hl)
theorem zg_i2c (X : zgCx G Z cc own ret nL Ts) {x : Int32} (hd : decode cc pc = .ok (.i2c, 1)) (K : zgGd G Z R k n nL ws (pc + 1) L (.int (x.toUInt32 % 65536).toInt32 :: rest)) : zgGd G Z R k n nL ws pc L (.int x :: rest) :=
  fun H locs ls hP hD hS hl => lv_i2c X.1 X.2.1 hd rfl (K H locs ls hP hD hS hl)
theorem zg_i2b (X : zgCx G Z cc own ret nL Ts) {x : Int32} (hd : decode cc pc = .ok (.i2b, 1)) (K : zgGd G Z R k n nL ws (pc + 1) L (.int x.toInt8.toInt32 :: rest)) : zgGd G Z R k n nL ws pc L (.int x :: rest) :=
  fun H locs ls hP hD hS hl => lv_i2b X.1 X.2.1 hd rfl (K H locs ls hP hD hS hl)
theorem zg_lcmp (X : zgCx G Z cc own ret nL Ts) {x y : Int64} (hd : decode cc pc = .ok (.lcmp, 1)) (K : zgGd G Z R k n nL ws (pc + 1) L (.int (lg_cmp x y) :: rest)) : zgGd G Z R k n nL ws pc L (.long y :: .long x :: rest) :=
  fun H locs ls hP hD hS hl => W.lcmp X.1 X.2.1 hd (K H locs ls hP hD hS hl)
theorem zg_i2d (X : zgCx G Z cc own ret nL Ts) {x : Int32} (hd : decode cc pc = .ok (.i2d, 1)) (K : zgGd G Z R k n nL ws (pc + 1) L (.double (FP.i2d x) :: rest)) : zgGd G Z R k n nL ws pc L (.int x :: rest) :=
  fun H locs ls hP hD hS hl => lv_i2d X.1 X.2.1 hd (K H locs ls hP hD hS hl)
theorem zg_ddiv (X : zgCx G Z cc own ret nL Ts) {x y : UInt64} (hd : decode cc pc = .ok (.ddiv, 1)) (hne : vf_n64 (FP.ddiv x y)) (K : zgGd G Z R k n nL ws (pc + 1) L (.double (FP.ddiv x y) :: rest)) : zgGd G Z R k n nL ws pc L (.double y :: .double x :: rest) :=
  fun H locs ls hP hD hS hl => lv_ddiv X.1 X.2.1 hd hne (K H locs ls hP hD hS hl)
theorem zg_dcmp (X : zgCx G Z cc own ret nL Ts) {x y : UInt64} {op : CmpOp} (hd : decode cc pc = .ok (.dcmp op, 1)) (K : zgGd G Z R k n nL ws (pc + 1) L (.int (Op.cmpValue (FP.dcmp x y) op) :: rest)) : zgGd G Z R k n nL ws pc L (.double y :: .double x :: rest) :=
  fun H locs ls hP hD hS hl => lv_dcmp X.1 X.2.1 hd (K H locs ls hP hD hS hl)
theorem zg_dup (X : zgCx G Z cc own ret nL Ts) {v : Value} (hd : decode cc pc = .ok (.dup, 1)) (hv : v.category = 1) (K : zgGd G Z R k n nL ws (pc + 1) L (v :: v :: rest)) : zgGd G Z R k n nL ws pc L (v :: rest) :=
  fun H locs ls hP hD hS hl => lv_dup X.1 X.2.1 hd hv (K H locs ls hP hD hS hl)
theorem zg_dup2 (X : zgCx G Z cc own ret nL Ts) {v w : Value} (hd : decode cc pc = .ok (.dup2, 1)) (hv : v.category = 1) (hw : w.category = 1) (K : zgGd G Z R k n nL ws (pc + 1) L (v :: w :: v :: w :: rest)) : zgGd G Z R k n nL ws pc L (v :: w :: rest) :=
  fun H locs ls hP hD hS hl => lv_dup2_11 X.1 X.2.1 hd hv hw (K H locs ls hP hD hS hl)
theorem zg_pop (X : zgCx G Z cc own ret nL Ts) {v : Value} (hd : decode cc pc = .ok (.pop, 1)) (hv : v.category = 1) (K : zgGd G Z R k n nL ws (pc + 1) L rest) : zgGd G Z R k n nL ws pc L (v :: rest) :=
  fun H locs ls hP hD hS hl => lv_pop X.1 X.2.1 hd hv (K H locs ls hP hD hS hl)
theorem zg_if_eq (X : zgCx G Z cc own ret nL Ts) {x : Int32} {off : Int} {tgt : Nat} (hd : decode cc pc = .ok (.ifCond .eq off, 3)) (ht : (pc : Int) + off = (tgt : Int)) (Kt : x = 0 → zgGd G Z R k n nL ws tgt L rest) (Kf : ¬ x = 0 → zgGd G Z R k n nL ws (pc + 3) L rest) : zgGd G Z R k n nL ws pc L (.int x :: rest) :=
  fun H locs ls hP hD hS hl => lv_if_eq X.1 X.2.1 hd ht (fun z => Kt z H locs ls hP hD hS hl) (fun z => Kf z H locs ls hP hD hS hl)
theorem zg_if_ne (X : zgCx G Z cc own ret nL Ts) {x : Int32} {off : Int} {tgt : Nat} (hd : decode cc pc = .ok (.ifCond .ne off, 3)) (ht : (pc : Int) + off = (tgt : Int)) (Kt : ¬ x = 0 → zgGd G Z R k n nL ws tgt L rest) (Kf : x = 0 → zgGd G Z R k n nL ws (pc + 3) L rest) : zgGd G Z R k n nL ws pc L (.int x :: rest) :=
  fun H locs ls hP hD hS hl => lv_if_ne X.1 X.2.1 hd ht (fun z => Kt z H locs ls hP hD hS hl) (fun z => Kf z H locs ls hP hD hS hl)
theorem zg_if_lt (X : zgCx G Z cc own ret nL Ts) {x : Int32} {off : Int} {tgt : Nat} (hd : decode cc pc = .ok (.ifCond .lt off, 3)) (ht : (pc : Int) + off = (tgt : Int)) (Kt : x < 0 → zgGd G Z R k n nL ws tgt L rest) (Kf : ¬ x < 0 → zgGd G Z R k n nL ws (pc + 3) L rest) : zgGd G Z R k n nL ws pc L (.int x :: rest) :=
  fun H locs ls hP hD hS hl => lv_if_lt X.1 X.2.1 hd ht (fun z => Kt z H locs ls hP hD hS hl) (fun z => Kf z H locs ls hP hD hS hl)
theorem zg_if_ge (X : zgCx G Z cc own ret nL Ts) {x : Int32} {off : Int} {tgt : Nat} (hd : decode cc pc = .ok (.ifCond .ge off, 3)) (ht : (pc : Int) + off = (tgt : Int)) (Kt : 0 ≤ x → zgGd G Z R k n nL ws tgt L rest) (Kf : ¬ 0 ≤ x → zgGd G Z R k n nL ws (pc + 3) L rest) : zgGd G Z R k n nL ws pc L (.int x :: rest) :=
  fun H locs ls hP hD hS hl => lv_if_ge X.1 X.2.1 hd ht (fun z => Kt z H locs ls hP hD hS hl) (fun z => Kf z H locs ls hP hD hS hl)
theorem zg_if_gt (X : zgCx G Z cc own ret nL Ts) {x : Int32} {off : Int} {tgt : Nat} (hd : decode cc pc = .ok (.ifCond .gt off, 3)) (ht : (pc : Int) + off = (tgt : Int)) (Kt : 0 < x → zgGd G Z R k n nL ws tgt L rest) (Kf : ¬ 0 < x → zgGd G Z R k n nL ws (pc + 3) L rest) : zgGd G Z R k n nL ws pc L (.int x :: rest) :=
  fun H locs ls hP hD hS hl => lv_if_gt X.1 X.2.1 hd ht (fun z => Kt z H locs ls hP hD hS hl) (fun z => Kf z H locs ls hP hD hS hl)
theorem zg_if_le (X : zgCx G Z cc own ret nL Ts) {x : Int32} {off : Int} {tgt : Nat} (hd : decode cc pc = .ok (.ifCond .le off, 3)) (ht : (pc : Int) + off = (tgt : Int)) (Kt : x ≤ 0 → zgGd G Z R k n nL ws tgt L rest) (Kf : ¬ x ≤ 0 → zgGd G Z R k n nL ws (pc + 3) L rest) : zgGd G Z R k n nL ws pc L (.int x :: rest) :=
  fun H locs ls hP hD hS hl => lv_if_le X.1 X.2.1 hd ht (fun z => Kt z H locs ls hP hD hS hl) (fun z => Kf z H locs ls hP hD hS hl)
theorem zg_icmp_eq (X : zgCx G Z cc own ret nL Ts) {x y : Int32} {off : Int} {tgt : Nat} (hd : decode cc pc = .ok (.if_icmp .eq off, 3)) (ht : (pc : Int) + off = (tgt : Int)) (Kt : x = y → zgGd G Z R k n nL ws tgt L rest) (Kf : ¬ x = y → zgGd G Z R k n nL ws (pc + 3) L rest) : zgGd G Z R k n nL ws pc L (.int y :: .int x :: rest) :=
  fun H locs ls hP hD hS hl => lv_icmp_eq X.1 X.2.1 hd ht (fun z => Kt z H locs ls hP hD hS hl) (fun z => Kf z H locs ls hP hD hS hl)
theorem zg_icmp_ne (X : zgCx G Z cc own ret nL Ts) {x y : Int32} {off : Int} {tgt : Nat} (hd : decode cc pc = .ok (.if_icmp .ne off, 3)) (ht : (pc : Int) + off = (tgt : Int)) (Kt : ¬ x = y → zgGd G Z R k n nL ws tgt L rest) (Kf : x = y → zgGd G Z R k n nL ws (pc + 3) L rest) : zgGd G Z R k n nL ws pc L (.int y :: .int x :: rest) :=
  fun H locs ls hP hD hS hl => lv_icmp_ne X.1 X.2.1 hd ht (fun z => Kt z H locs ls hP hD hS hl) (fun z => Kf z H locs ls hP hD hS hl)
theorem zg_icmp_lt (X : zgCx G Z cc own ret nL Ts) {x y : Int32} {off : Int} {tgt : Nat} (hd : decode cc pc = .ok (.if_icmp .lt off, 3)) (ht : (pc : Int) + off = (tgt : Int)) (Kt : x < y → zgGd G Z R k n nL ws tgt L rest) (Kf : ¬ x < y → zgGd G Z R k n nL ws (pc + 3) L rest) : zgGd G Z R k n nL ws pc L (.int y :: .int x :: rest) :=
  fun H locs ls hP hD hS hl => lv_icmp_lt X.1 X.2.1 hd ht (fun z => Kt z H locs ls hP hD hS hl) (fun z => Kf z H locs ls hP hD hS hl)
theorem zg_icmp_ge (X : zgCx G Z cc own ret nL Ts) {x y : Int32} {off : Int} {tgt : Nat} (hd : decode cc pc = .ok (.if_icmp .ge off, 3)) (ht : (pc : Int) + off = (tgt : Int)) (Kt : y ≤ x → zgGd G Z R k n nL ws tgt L rest) (Kf : ¬ y ≤ x → zgGd G Z R k n nL ws (pc + 3) L rest) : zgGd G Z R k n nL ws pc L (.int y :: .int x :: rest) :=
  fun H locs ls hP hD hS hl => lv_icmp_ge X.1 X.2.1 hd ht (fun z => Kt z H locs ls hP hD hS hl) (fun z => Kf z H locs ls hP hD hS hl)
theorem zg_icmp_gt (X : zgCx G Z cc own ret nL Ts) {x y : Int32} {off : Int} {tgt : Nat} (hd : decode cc pc = .ok (.if_icmp .gt off, 3)) (ht : (pc : Int) + off = (tgt : Int)) (Kt : y < x → zgGd G Z R k n nL ws tgt L rest) (Kf : ¬ y < x → zgGd G Z R k n nL ws (pc + 3) L rest) : zgGd G Z R k n nL ws pc L (.int y :: .int x :: rest) :=
  fun H locs ls hP hD hS hl => lv_icmp_gt X.1 X.2.1 hd ht (fun z => Kt z H locs ls hP hD hS hl) (fun z => Kf z H locs ls hP hD hS hl)
theorem zg_icmp_le (X : zgCx G Z cc own ret nL Ts) {x y : Int32} {off : Int} {tgt : Nat} (hd : decode cc pc = .ok (.if_icmp .le off, 3)) (ht : (pc : Int) + off = (tgt : Int)) (Kt : x ≤ y → zgGd G Z R k n nL ws tgt L rest) (Kf : ¬ x ≤ y → zgGd G Z R k n nL ws (pc + 3) L rest) : zgGd G Z R k n nL ws pc L (.int y :: .int x :: rest) :=
  fun H locs ls hP hD hS hl => lv_icmp_le X.1 X.2.1 hd ht (fun z => Kt z H locs ls hP hD hS hl) (fun z => Kf z H locs ls hP hD hS hl)
theorem zg_goto (X : zgCx G Z cc own ret nL Ts) {off : Int} {tgt : Nat} (hd : decode cc pc = .ok (.goto off, 3)) (ht : (pc : Int) + off = (tgt : Int)) (K : zgGd G Z R k n nL ws tgt L rest) : zgGd G Z R k n nL ws pc L rest :=
  fun H locs ls hP hD hS hl => lv_goto X.1 X.2.1 hd ht (K H locs ls hP hD hS hl)
theorem zg_tblI (X : zgCx G Z cc own ret nL Ts) {dflt lo hi : Int} {offs : Array Int} {len : Nat} {x : Int32} {off : Int} {tgt : Nat} (hd : decode cc pc = .ok (.tableswitch dflt lo hi offs, len)) (h1 : ¬ x.toInt < lo) (h2 : ¬ hi < x.toInt) (ho : offs[(x.toInt - lo).toNat]? = some off) (ht : (pc : Int) + off = (tgt : Int)) (K : zgGd G Z R k n nL ws tgt L rest) : zgGd G Z R k n nL ws pc L (.int x :: rest) :=
  fun H locs ls hP hD hS hl => lv_tableIn X.1 X.2.1 hd h1 h2 ho ht (K H locs ls hP hD hS hl)
theorem zg_tblO (X : zgCx G Z cc own ret nL Ts) {dflt lo hi : Int} {offs : Array Int} {len : Nat} {x : Int32} {tgt : Nat} (hd : decode cc pc = .ok (.tableswitch dflt lo hi offs, len)) (h : x.toInt < lo ∨ hi < x.toInt) (ht : (pc : Int) + dflt = (tgt : Int)) (K : zgGd G Z R k n nL ws tgt L rest) : zgGd G Z R k n nL ws pc L (.int x :: rest) :=
  fun H locs ls hP hD hS hl => lv_tableOut X.1 X.2.1 hd h ht (K H locs ls hP hD hS hl)
theorem zg_nullN (X : zgCx G Z cc own ret nL Ts) {off : Int} {tgt : Nat} (hd : decode cc pc = .ok (.ifnull off, 3)) (ht : (pc : Int) + off = (tgt : Int)) (K : zgGd G Z R k n nL ws tgt L rest) : zgGd G Z R k n nL ws pc L (.null :: rest) :=
  fun H locs ls hP hD hS hl => lv_ifnullN X.1 X.2.1 hd ht (K H locs ls hP hD hS hl)
theorem zg_null (X : zgCx G Z cc own ret nL Ts) {x : Nat} {off : Int} (hd : decode cc pc = .ok (.ifnull off, 3)) (K : zgGd G Z R k n nL ws (pc + 3) L rest) : zgGd G Z R k n nL ws pc L (.ref x :: rest) :=
  fun H locs ls hP hD hS hl => lv_ifnull X.1 X.2.1 hd (K H locs ls hP hD hS hl)
theorem zg_get (X : zgCx G Z cc own ret nL Ts) {C : String} {T : u_T} {N ci index a : Nat} {fs : List Value} {v : Value} (q0 : Nat) (f : Nat) (hin : ∀ w ∈ u_ws C T N, w ∈ Ts) (he : ws[q0]? = some (a, .inr (ci, fs))) (hc : vwCl[ci]? = some (C, T, N)) (hk : f < N) (hlink : Cond.fieldLink own index (T f).1 (T f).2.1 (T f).2.2.1 ∈ Ts) (hv : fs[f]? = some v) (hd : decode cc pc = .ok (.getfield index, 3)) (K : zgGd G Z R k n nL ws (pc + 3) L (v :: rest)) : zgGd G Z R k n nL ws pc L (.ref a :: rest) :=
  fun H locs ls hP hD hS hl => va_get (D := G.2.1) (C := C) (T := T) (N := N) X.1 X.2.1 X.2.2.2.2.2.1 hin X.2.2.2.2.1 X.2.2.2.2.2.2.2.1 hP q0 he hc f hk (X.2.2.2.2.2.1 _ hlink) (fun _ h9 => h9) hv hd (K H locs ls hP hD hS hl)
theorem zg_put (X : zgCx G Z cc own ret nL Ts) {C : String} {T : u_T} {N ci index a : Nat} {fs : List Value} {v : Value} {ty : FieldType} {ws' : va_W} (q0 : Nat) (f : Nat) (hin : ∀ w ∈ u_ws C T N, w ∈ Ts) (ty0 : Nat → FieldType) (hty : ∀ k, k < N → parseFieldDescriptor (T k).2.2.1 = some (ty0 k)) (hnm : ∀ a, a < N → ∀ b, b < N → a ≠ b → (T a).2.1 ≠ (T b).2.1) (he : ws[q0]? = some (a, .inr (ci, fs))) (hc : vwCl[ci]? = some (C, T, N)) (hk : f < N) (hlink : Cond.fieldLink own index (T f).1 (T f).2.1 (T f).2.2.1 ∈ Ts) (hfin : (T f).2.2.2 = false) (hdd : parseFieldDescriptor (T f).2.2.1 = some ty) (hn : narrow ty v = v) (hfit : fits ty v = true) (hlen : f < fs.length) (hw : ws.set q0 (a, .inr (ci, fs.set f v)) = ws') (hd : decode cc pc = .ok (.putfield index, 3)) (K : zgGd G Z R k n nL ws' (pc + 3) L rest) : zgGd G Z R k n nL ws pc L (v :: .ref a :: rest) := by
  subst hw
  exact fun H locs ls hP hD hS hl => va_put (D := G.2.1) (C := C) (T := T) (N := N) X.1 X.2.1 X.2.2.2.2.2.1 hin ty0 hty hnm X.2.2.2.2.1 X.2.2.2.2.2.2.2.1 hP hD hS q0 he hc f hk (X.2.2.2.2.2.1 _ hlink) (fun _ h9 => h9) hfin hdd hn hfit hlen hd (fun H locs hP hD hS => K H locs ls hP hD hS hl)
theorem zg_putF (X : zgCx G Z cc own ret nL Ts) (hini : (zZt Z).name = "<init>") {C : String} {T : u_T} {N ci index a : Nat} {fs : List Value} {v : Value} {ty : FieldType} {ws' : va_W} (q0 : Nat) (f : Nat) (hin : ∀ w ∈ u_ws C T N, w ∈ Ts) (ty0 : Nat → FieldType) (hty : ∀ k, k < N → parseFieldDescriptor (T k).2.2.1 = some (ty0 k)) (hnm : ∀ a, a < N → ∀ b, b < N → a ≠ b → (T a).2.1 ≠ (T b).2.1) (he : ws[q0]? = some (a, .inr (ci, fs))) (hc : vwCl[ci]? = some (C, T, N)) (hk : f < N) (hlink : Cond.fieldLink own index (T f).1 (T f).2.1 (T f).2.2.1 ∈ Ts) (hfin : (T f).2.2.2 = true) (hdecl : (T f).1 = own) (hdd : parseFieldDescriptor (T f).2.2.1 = some ty) (hn : narrow ty v = v) (hfit : fits ty v = true) (hlen : f < fs.length) (hw : ws.set q0 (a, .inr (ci, fs.set f v)) = ws') (hd : decode cc pc = .ok (.putfield index, 3)) (K : zgGd G Z R k n nL ws' (pc + 3) L rest) : zgGd G Z R k n nL ws pc L (v :: .ref a :: rest) := by
  subst hw
  exact fun H locs ls hP hD hS hl => va_putF (D := G.2.1) (C := C) (T := T) (N := N) X.1 X.2.1 X.2.2.2.2.2.1 hin ty0 hty hnm X.2.2.2.2.1 X.2.2.2.2.2.2.2.1 hP hD hS q0 he hc f hk (X.2.2.2.2.2.1 _ hlink) (fun _ h9 => h9) hfin hini hdecl hdd hn hfit hlen hd (fun H locs hP hD hS => K H locs ls hP hD hS hl)
theorem zg_getN (X : zgCx G Z cc own ret nL Ts) {C host : String} {T : u_T} {N ci index a : Nat} {fs : List Value} {v : Value} (q0 : Nat) (f : Nat) (hin : ∀ w ∈ u_ws C T N, w ∈ Ts) (he : ws[q0]? = some (a, .inr (ci, fs))) (hc : vwCl[ci]? = some (C, T, N)) (hk : f < N) (hlink : (own, index, (T f).1, (T f).2.1, (T f).2.2.1, host) ∈ zgNF) (hv : fs[f]? = some v) (hd : decode cc pc = .ok (.getfield index, 3)) (K : zgGd G Z R k n nL ws (pc + 3) L (v :: rest)) : zgGd G Z R k n nL ws pc L (.ref a :: rest) :=
  fun H locs ls hP hD hS hl => va_getN (D := G.2.1) (C := C) (T := T) (N := N) X.1 X.2.1 X.2.2.2.2.2.1 hin X.2.2.2.2.1 X.2.2.2.2.2.2.2.1 hP q0 he hc f hk (va_Nw.use rfl (X.ex.nf _ hlink)) (fun _ h9 => h9) hv hd (K H locs ls hP hD hS hl)
theorem zg_putN (X : zgCx G Z cc own ret nL Ts) {C host : String} {T : u_T} {N ci index a : Nat} {fs : List Value} {v : Value} {ty : FieldType} {ws' : va_W} (q0 : Nat) (f : Nat) (hin : ∀ w ∈ u_ws C T N, w ∈ Ts) (ty0 : Nat → FieldType) (hty : ∀ k, k < N → parseFieldDescriptor (T k).2.2.1 = some (ty0 k)) (hnm : ∀ a, a < N → ∀ b, b < N → a ≠ b → (T a).2.1 ≠ (T b).2.1) (he : ws[q0]? = some (a, .inr (ci, fs))) (hc : vwCl[ci]? = some (C, T, N)) (hk : f < N) (hlink : (own, index, (T f).1, (T f).2.1, (T f).2.2.1, host) ∈ zgNF) (hfin : (T f).2.2.2 = false) (hdd : parseFieldDescriptor (T f).2.2.1 = some ty) (hn : narrow ty v = v) (hfit : fits ty v = true) (hlen : f < fs.length) (hw : ws.set q0 (a, .inr (ci, fs.set f v)) = ws') (hd : decode cc pc = .ok (.putfield index, 3)) (K : zgGd G Z R k n nL ws' (pc + 3) L rest) : zgGd G Z R k n nL ws pc L (v :: .ref a :: rest) := by
  subst hw
  exact fun H locs ls hP hD hS hl => va_putN (D := G.2.1) (C := C) (T := T) (N := N) X.1 X.2.1 X.2.2.2.2.2.1 hin ty0 hty hnm X.2.2.2.2.1 X.2.2.2.2.2.2.2.1 hP hD hS q0 he hc f hk (va_Nw.use rfl (X.ex.nf _ hlink)) (fun _ h9 => h9) hfin hdd hn hfit hlen hd (fun H locs hP hD hS => K H locs ls hP hD hS hl)
theorem zg_iald (X : zgCx G Z cc own ret nL Ts) {a N : Nat} {f : Nat → Int32} {i : Int32} (q0 : Nat) (he : ws[q0]? = some (a, .inl (G.2.2.1, N, .inl f))) (hin : vp_in i N) (hd : decode cc pc = .ok (.iaload, 1)) (K : zgGd G Z R k n nL ws (pc + 1) L (.int (f i.toNatClampNeg) :: rest)) : zgGd G Z R k n nL ws pc L (.int i :: .ref a :: rest) :=
  fun H locs ls hP hD hS hl => va_iald X.1 X.2.1 X.2.2.2.2.2.2.2.1 hP q0 0 he rfl hin hd (K H locs ls hP hD hS hl)
theorem zg_iast (X : zgCx G Z cc own ret nL Ts) {a N : Nat} {f : Nat → Int32} {i x : Int32} {ws' : va_W} (q0 : Nat) (he : ws[q0]? = some (a, .inl (G.2.2.1, N, .inl f))) (hin : vp_in i N) (hw : ws.set q0 (a, .inl (G.2.2.1, N, .inl (upd f i.toNatClampNeg x))) = ws') (hd : decode cc pc = .ok (.iastore, 1)) (K : zgGd G Z R k n nL ws' (pc + 1) L rest) : zgGd G Z R k n nL ws pc L (.int x :: .int i :: .ref a :: rest) := by
  subst hw
  exact fun H locs ls hP hD hS hl => va_iast X.1 X.2.1 X.2.2.2.2.2.2.2.1 hP hD hS q0 0 he rfl hin hd (fun H locs hP hD hS => K H locs ls hP hD hS hl)
theorem zg_lald (X : zgCx G Z cc own ret nL Ts) {a N : Nat} {f : Nat → Int64} {i : Int32} (q0 : Nat) (he : ws[q0]? = some (a, .inl (G.2.2.2.2.1, N, .inr (.inl f)))) (hin : vp_in i N) (hd : decode cc pc = .ok (.laload, 1)) (K : zgGd G Z R k n nL ws (pc + 1) L (.long (f i.toNatClampNeg) :: rest)) : zgGd G Z R k n nL ws pc L (.int i :: .ref a :: rest) :=
  fun H locs ls hP hD hS hl => va_lald X.1 X.2.1 X.2.2.2.2.2.2.2.1 hP q0 2 he rfl hin hd (K H locs ls hP hD hS hl)
theorem zg_last (X : zgCx G Z cc own ret nL Ts) {a N : Nat} {f : Nat → Int64} {i : Int32} {x : Int64} {ws' : va_W} (q0 : Nat) (he : ws[q0]? = some (a, .inl (G.2.2.2.2.1, N, .inr (.inl f)))) (hin : vp_in i N) (hw : ws.set q0 (a, .inl (G.2.2.2.2.1, N, .inr (.inl (vp_updL f i.toNatClampNeg x)))) = ws') (hd : decode cc pc = .ok (.lastore, 1)) (K : zgGd G Z R k n nL ws' (pc + 1) L rest) : zgGd G Z R k n nL ws pc L (.long x :: .int i :: .ref a :: rest) := by
  subst hw
  exact fun H locs ls hP hD hS hl => va_last X.1 X.2.1 X.2.2.2.2.2.2.2.1 hP hD hS q0 2 he rfl hin hd (fun H locs hP hD hS => K H locs ls hP hD hS hl)
theorem zg_aald (X : zgCx G Z cc own ret nL Ts) {a N : Nat} {f : Nat → Option Nat} {i : Int32} {v : Value} (q0 : Nat) (he : ws[q0]? = some (a, .inl (G.2.2.2.1, N, .inr (.inr (.inr (.inr f)))))) (hin : vp_in i N) (hv : va_rf (f i.toNatClampNeg) = v) (hd : decode cc pc = .ok (.aaload, 1)) (K : zgGd G Z R k n nL ws (pc + 1) L (v :: rest)) : zgGd G Z R k n nL ws pc L (.int i :: .ref a :: rest) := by
  subst hv
  exact fun H locs ls hP hD hS hl => va_aldq X.1 X.2.1 X.2.2.2.2.2.2.2.1 hP q0 1 he rfl hin hd (K H locs ls hP hD hS hl)
theorem zg_aast (X : zgCx G Z cc own ret nL Ts) {a b N : Nat} {f : Nat → Option Nat} {i : Int32} {vs : List Value} {ws' : va_W} (q0 qk : Nat) (he : ws[q0]? = some (a, .inl (G.2.2.2.1, N, .inr (.inr (.inr (.inr f)))))) (hv : ws[qk]? = some (b, .inr (5, vs))) (hin : vp_in i N) (hw : ws.set q0 (a, .inl (G.2.2.2.1, N, .inr (.inr (.inr (.inr (va_up f i.toNatClampNeg (some b))))))) = ws') (hd : decode cc pc = .ok (.aastore, 1)) (K : zgGd G Z R k n nL ws' (pc + 1) L rest) : zgGd G Z R k n nL ws pc L (.ref b :: .int i :: .ref a :: rest) := by
  subst hw
  exact fun H locs ls hP hD hS hl => va_astq (r := (RX6, TX6, 7)) X.1 X.2.1 X.2.2.2.2.2.2.2.1 hP hD hS q0 1 qk 5 he rfl hv rfl hin hd (fun H locs hP hD hS => K H locs ls hP hD hS hl)
theorem zg_alen (X : zgCx G Z cc own ret nL Ts) {a N : Nat} {u : (Nat → Int32) ⊕ (Nat → Int64) ⊕ (Nat → UInt32) ⊕ (Nat → UInt64) ⊕ (Nat → Option Nat)} {cA : ClassId} {ty : FieldType} {v : Int32} (q0 t0 : Nat) (he : ws[q0]? = some (a, .inl (cA, N, u))) (ht : (zgTys G)[t0]? = some (cA, ty)) (hv : Int32.ofNat N = v) (hd : decode cc pc = .ok (.arraylength, 1)) (K : zgGd G Z R k n nL ws (pc + 1) L (.int v :: rest)) : zgGd G Z R k n nL ws pc L (.ref a :: rest) :=
  fun H locs ls hP hD hS hl => va_alen X.1 X.2.1 X.2.2.2.2.2.2.2.1 hP q0 t0 he ht hv hd (K H locs ls hP hD hS hl)
theorem zg_new (X : zgCx G Z cc own ret nL Ts) {C : String} {T : u_T} {N ci index : Nat} {fs : List Value} (hin : ∀ w ∈ u_ws C T N, w ∈ Ts) (ty : Nat → FieldType) (hty : ∀ k, k < N → parseFieldDescriptor (T k).2.2.1 = some (ty k)) (hcl : Cond.classLink own index C ∈ Ts) (hinst : Cond.instantiable C N ∈ Ts) (hini : Cond.initialized C ∈ Ts) (hc : vwCl[ci]? = some (C, T, N)) (hfs : ∀ j, j < N → defaultValue (ty j) = vp_V fs j) (hcells : k + 1 ≤ R.cells) (hslots : n + N ≤ R.slots) (hd : decode cc pc = .ok (.new index, 3)) (K : ∀ q : Nat, zgGd G Z R (k + 1) (n + N) nL (ws ++ [(q, .inr (ci, fs))]) (pc + 3) L (.ref q :: rest)) : zgGd G Z R k n nL ws pc L rest :=
  fun H locs ls hP hD hS hl => va_new (C := C) (T := T) (N := N) X.1 X.2.1 X.2.2.2.2.2.1 hin ty hty X.2.2.2.2.1 (X.2.2.2.2.2.1 _ hcl) (X.2.2.2.2.2.1 _ hinst) (X.2.2.2.2.2.1 _ hini) X.2.2.2.2.2.2.2.1 hP hD hS X.2.2.2.2.2.2.2.2.1 hc hfs hcells hslots hd (fun q H hP hD hS => K q H locs ls hP hD hS hl)
theorem zg_newi (X : zgCx G Z cc own ret nL Ts) {i : Int32} {N : Nat} (harr : Cond.arrayClass .int ∈ Ts) (hn : ¬ i < 0) (hN : i.toNatClampNeg = N) (hbytes : N * 4 ≤ 536870912) (hcells : k + 1 ≤ R.cells) (hslots : n + N ≤ R.slots) (hd : decode cc pc = .ok (.newarray .int, 2)) (K : ∀ q : Nat, zgGd G Z R (k + 1) (n + N) nL (ws ++ [(q, .inl (G.2.2.1, N, .inl (fun _ => 0)))]) (pc + 2) L (.ref q :: rest)) : zgGd G Z R k n nL ws pc L (.int i :: rest) :=
  fun H locs ls hP hD hS hl => va_newa (atype := .int) (a0 := (N, .inl (fun _ => 0))) X.1 X.2.1 (X.2.2.2.2.2.1 _ harr) rfl X.2.2.2.2.2.2.2.1 hP hD hS X.2.2.2.2.2.2.2.2.1 (fun _ => rfl) hn hN hbytes hcells hslots hd (fun q cA H hK hP hD hS => by
    have h1 := (hK.2 3 (cA, .int) rfl).2
    have h2 := (hK.2 0 (G.2.2.1, .int) rfl).2
    have h3 : cA = G.2.2.1 := Option.some.inj (h1.symm.trans h2)
    rw [h3] at hP hD
    exact K q H locs ls hP hD hS hl)
theorem zg_newl (X : zgCx G Z cc own ret nL Ts) {i : Int32} {N : Nat} (harr : Cond.arrayClass .long ∈ Ts) (hn : ¬ i < 0) (hN : i.toNatClampNeg = N) (hbytes : N * 8 ≤ 536870912) (hcells : k + 1 ≤ R.cells) (hslots : n + N ≤ R.slots) (hd : decode cc pc = .ok (.newarray .long, 2)) (K : ∀ q : Nat, zgGd G Z R (k + 1) (n + N) nL (ws ++ [(q, .inl (G.2.2.2.2.1, N, .inr (.inl (fun _ => 0))))]) (pc + 2) L (.ref q :: rest)) : zgGd G Z R k n nL ws pc L (.int i :: rest) :=
  fun H locs ls hP hD hS hl => va_newa (atype := .long) (a0 := (N, .inr (.inl (fun _ => 0)))) X.1 X.2.1 (X.2.2.2.2.2.1 _ harr) rfl X.2.2.2.2.2.2.2.1 hP hD hS X.2.2.2.2.2.2.2.2.1 (fun _ => rfl) hn hN hbytes hcells hslots hd (fun q cA H hK hP hD hS => by
    have h1 := (hK.2 3 (cA, .long) rfl).2
    have h2 := (hK.2 2 (G.2.2.2.2.1, .long) rfl).2
    have h3 : cA = G.2.2.2.2.1 := Option.some.inj (h1.symm.trans h2)
    rw [h3] at hP hD
    exact K q H locs ls hP hD hS hl)
theorem zg_newS (X : zgCx G Z cc own ret nL Ts) {index : Nat} {i : Int32} {N : Nat} (hcl : Cond.classLink own index "TelexReceiver$Saved" ∈ Ts) (hn : ¬ i < 0) (hN : i.toNatClampNeg = N) (hbytes : N * 4 ≤ 536870912) (hcells : k + 1 ≤ R.cells) (hslots : n + N ≤ R.slots) (hd : decode cc pc = .ok (.anewarray index, 3)) (K : ∀ q : Nat, zgGd G Z R (k + 1) (n + N) nL (ws ++ [(q, .inl (G.2.2.2.1, N, .inr (.inr (.inr (.inr (fun _ => none))))))]) (pc + 3) L (.ref q :: rest)) : zgGd G Z R k n nL ws pc L (.int i :: rest) :=
  fun H locs ls hP hD hS hl => va_newq X.1 X.2.1 X.2.2.2.2.1 (X.2.2.2.2.2.1 _ hcl) X.ex.ao X.2.2.2.2.2.2.2.1 hP hD hS X.2.2.2.2.2.2.2.2.1 hn hN hbytes hcells hslots hd (fun q cA H hK hP hD hS => by
    obtain ⟨-, -, -, -, -, h1⟩ := (hK.2 3 (cA, .object "TelexReceiver$Saved") rfl).2
    obtain ⟨-, -, -, -, -, h2⟩ := (hK.2 1 (G.2.2.2.1, .object "TelexReceiver$Saved") rfl).2
    have h3 : cA = G.2.2.2.1 := Option.some.inj (h1.symm.trans h2)
    rw [h3] at hP hD
    exact K q H locs ls hP hD hS hl)
theorem zg_objInit (X : zgCx G Z cc own ret nL Ts) {index a : Nat} (hlink : Cond.methodLink own index Lib.objectInit ∈ Ts) (hinst : Cond.instanceMethod Lib.objectInit ∈ Ts) (hcode : Cond.code Lib.objectInit ⟨#[0xb1]⟩ 1 none ∈ Ts) (hfr : 1 ≤ R.frames) (hlo : (rest.map fun v => v.category).sum + 12 ≤ R.locals) (hd : decode cc pc = .ok (.invokespecial index, 3)) (K : zgGd G Z R k n nL ws (pc + 3) L rest) : zgGd G Z R k n nL ws pc L (.ref a :: rest) :=
  fun H locs ls hP hD hS hl => W.objInit X.1 X.2.1 X.2.2.2.2.1 (X.2.2.2.2.2.1 _ hlink) (X.2.2.2.2.2.1 _ hinst) (X.2.2.2.2.2.1 _ hcode) rfl (hl.1.trans X.2.2.2.1.symm) rfl hd hfr (by show 2 * 0 + _ + 12 ≤ _; omega) (K H locs ls hP hD hS hl)
end ZGB
