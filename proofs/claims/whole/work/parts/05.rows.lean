section Rows
variable {X : XT} {Y : YT} {Z : ZT} {Q : State → Prop} {g : St} {pc : Nat} {lv lv' : List (Nat × Value)} {st : List Value} {cc : ByteArray} {own : String} {ret : Option FieldType} {F L nL : Nat}

theorem x_iconst (C : CX X nL Y Z cc own ret F L) {n : Int} {v : Int32} (hd : decode cc pc = .ok (.iconst n, 1)) (hv : Int32.ofInt n = v) (k : WX X nL Y Z Q g (pc + 1) lv (.int v :: st)) : WX X nL Y Z Q g pc lv (st) := by
  obtain ⟨p, l, e, R, s, m, args, below, meth, c⟩ := X
  exact fun H locs ls hP hS hl => lv_iconst C.1 C.2.1 hd hv (k H locs ls hP hS hl)
theorem x_bipush (C : CX X nL Y Z cc own ret F L) {n : Int} {v : Int32} (hd : decode cc pc = .ok (.bipush n, 2)) (hv : (Int8.ofInt n).toInt32 = v) (k : WX X nL Y Z Q g (pc + 2) lv (.int v :: st)) : WX X nL Y Z Q g pc lv (st) := by
  obtain ⟨p, l, e, R, s, m, args, below, meth, c⟩ := X
  exact fun H locs ls hP hS hl => lv_bipush C.1 C.2.1 hd hv (k H locs ls hP hS hl)
theorem x_sipush (C : CX X nL Y Z cc own ret F L) {n : Int} {v : Int32} (hd : decode cc pc = .ok (.sipush n, 3)) (hv : (Int16.ofInt n).toInt32 = v) (k : WX X nL Y Z Q g (pc + 3) lv (.int v :: st)) : WX X nL Y Z Q g pc lv (st) := by
  obtain ⟨p, l, e, R, s, m, args, below, meth, c⟩ := X
  exact fun H locs ls hP hS hl => lv_sipush C.1 C.2.1 hd hv (k H locs ls hP hS hl)
theorem x_lconst (C : CX X nL Y Z cc own ret F L) {n : Fin 2} {v : Int64} (hd : decode cc pc = .ok (.lconst n, 1)) (hv : Int64.ofNat (n : Nat) = v) (k : WX X nL Y Z Q g (pc + 1) lv (.long v :: st)) : WX X nL Y Z Q g pc lv (st) := by
  obtain ⟨p, l, e, R, s, m, args, below, meth, c⟩ := X
  exact fun H locs ls hP hS hl => lv_lconst C.1 C.2.1 hd hv (k H locs ls hP hS hl)
theorem x_ldc (C : CX X nL Y Z cc own ret F L) {index : Nat} {v : Int32} (hd : decode cc pc = .ok (.ldc index, 2)) (hw : Cond.constant own index v ∈ TT) (k : WX X nL Y Z Q g (pc + 2) lv (.int v :: st)) : WX X nL Y Z Q g pc lv (st) := by
  obtain ⟨p, l, e, R, s, m, args, below, meth, c⟩ := X
  exact fun H locs ls hP hS hl => lv_ldc C.1 C.2.1 C.2.2.2.1 (C.2.2.2.2.1 _ hw) hd (k H locs ls hP hS hl)
theorem x_ldcw (C : CX X nL Y Z cc own ret F L) {index : Nat} {v : Int32} (hd : decode cc pc = .ok (.ldc_w index, 3)) (hw : Cond.constant own index v ∈ TT) (k : WX X nL Y Z Q g (pc + 3) lv (.int v :: st)) : WX X nL Y Z Q g pc lv (st) := by
  obtain ⟨p, l, e, R, s, m, args, below, meth, c⟩ := X
  exact fun H locs ls hP hS hl => lv_ldcw C.1 C.2.1 C.2.2.2.1 (C.2.2.2.2.1 _ hw) hd (k H locs ls hP hS hl)
theorem x_iload (C : CX X nL Y Z cc own ret F L) {i : Nat} {x : Int32} (hd : decode cc pc = .ok (.iload i, 2)) (j : Nat)   (hj : lv[j]? = some (i, .int x)) (k : WX X nL Y Z Q g (pc + 2) lv (.int x :: st)) : WX X nL Y Z Q g pc lv (st) := by
  obtain ⟨p, l, e, R, s, m, args, below, meth, c⟩ := X
  exact fun H locs ls hP hS hl => lv_iload C.1 C.2.1 hd (lv_at hl j hj) (k H locs ls hP hS hl)
theorem x_iload_n (C : CX X nL Y Z cc own ret F L) {k0 : Fin 4} {i : Nat} {x : Int32} (hd : decode cc pc = .ok (.iload_n k0, 1)) (j : Nat)    (hi : (k0 : Nat) = i) (hj : lv[j]? = some (i, .int x)) (k : WX X nL Y Z Q g (pc + 1) lv (.int x :: st)) : WX X nL Y Z Q g pc lv (st) := by
  obtain ⟨p, l, e, R, s, m, args, below, meth, c⟩ := X
  exact fun H locs ls hP hS hl => lv_iload_n C.1 C.2.1 hd hi (lv_at hl j hj) (k H locs ls hP hS hl)
theorem x_istore (C : CX X nL Y Z cc own ret F L) {i : Nat} {x : Int32}  (hd : decode cc pc = .ok (.istore i, 2)) (hn : i < nL) (hl : (i, Value.int x) :: lv.filter (fun q => !(q.1 == i) && !(q.1 + 1 == i && q.2.category == 2)) = lv') (k : WX X nL Y Z Q g (pc + 2) lv' st) : WX X nL Y Z Q g pc lv (.int x :: st) := by
  obtain ⟨p, l, e, R, s, m, args, below, meth, c⟩ := X
  exact fun H locs ls hP hS h => lv_istore C.1 C.2.1 hd h hn hl (fun ls' h' => k H locs ls' hP hS h')
theorem x_istore_n (C : CX X nL Y Z cc own ret F L) {i : Nat} {x : Int32} {k0 : Fin 4} (hd : decode cc pc = .ok (.istore_n k0, 1)) (hi : (k0 : Nat) = i) (hn : i < nL) (hl : (i, Value.int x) :: lv.filter (fun q => !(q.1 == i) && !(q.1 + 1 == i && q.2.category == 2)) = lv') (k : WX X nL Y Z Q g (pc + 1) lv' st) : WX X nL Y Z Q g pc lv (.int x :: st) := by
  obtain ⟨p, l, e, R, s, m, args, below, meth, c⟩ := X
  exact fun H locs ls hP hS h => lv_istore_n C.1 C.2.1 hd hi h hn hl (fun ls' h' => k H locs ls' hP hS h')
theorem x_lload (C : CX X nL Y Z cc own ret F L) {i : Nat} {x : Int64} (hd : decode cc pc = .ok (.lload i, 2)) (j : Nat)   (hj : lv[j]? = some (i, .long x)) (k : WX X nL Y Z Q g (pc + 2) lv (.long x :: st)) : WX X nL Y Z Q g pc lv (st) := by
  obtain ⟨p, l, e, R, s, m, args, below, meth, c⟩ := X
  exact fun H locs ls hP hS hl => lv_lload C.1 C.2.1 hd (lv_at hl j hj) (k H locs ls hP hS hl)
theorem x_lload_n (C : CX X nL Y Z cc own ret F L) {k0 : Fin 4} {i : Nat} {x : Int64} (hd : decode cc pc = .ok (.lload_n k0, 1)) (j : Nat)    (hi : (k0 : Nat) = i) (hj : lv[j]? = some (i, .long x)) (k : WX X nL Y Z Q g (pc + 1) lv (.long x :: st)) : WX X nL Y Z Q g pc lv (st) := by
  obtain ⟨p, l, e, R, s, m, args, below, meth, c⟩ := X
  exact fun H locs ls hP hS hl => lv_lload_n C.1 C.2.1 hd hi (lv_at hl j hj) (k H locs ls hP hS hl)
theorem x_lstore (C : CX X nL Y Z cc own ret F L) {i : Nat} {x : Int64}  (hd : decode cc pc = .ok (.lstore i, 2)) (hn : i + 1 < nL) (hl : (i, Value.long x) :: lv.filter (fun q => !(q.1 == i) && (!(q.1 == i + 1) && !(q.1 + 1 == i && q.2.category == 2))) = lv') (k : WX X nL Y Z Q g (pc + 2) lv' st) : WX X nL Y Z Q g pc lv (.long x :: st) := by
  obtain ⟨p, l, e, R, s, m, args, below, meth, c⟩ := X
  exact fun H locs ls hP hS h => lv_lstore C.1 C.2.1 hd h hn hl (fun ls' h' => k H locs ls' hP hS h')
theorem x_lstore_n (C : CX X nL Y Z cc own ret F L) {i : Nat} {x : Int64} {k0 : Fin 4} (hd : decode cc pc = .ok (.lstore_n k0, 1)) (hi : (k0 : Nat) = i) (hn : i + 1 < nL) (hl : (i, Value.long x) :: lv.filter (fun q => !(q.1 == i) && (!(q.1 == i + 1) && !(q.1 + 1 == i && q.2.category == 2))) = lv') (k : WX X nL Y Z Q g (pc + 1) lv' st) : WX X nL Y Z Q g pc lv (.long x :: st) := by
  obtain ⟨p, l, e, R, s, m, args, below, meth, c⟩ := X
  exact fun H locs ls hP hS h => lv_lstore_n C.1 C.2.1 hd hi h hn hl (fun ls' h' => k H locs ls' hP hS h')
theorem x_aload (C : CX X nL Y Z cc own ret F L) {i : Nat} {x : Nat} (hd : decode cc pc = .ok (.aload i, 2)) (j : Nat)   (hj : lv[j]? = some (i, .ref x)) (k : WX X nL Y Z Q g (pc + 2) lv (.ref x :: st)) : WX X nL Y Z Q g pc lv (st) := by
  obtain ⟨p, l, e, R, s, m, args, below, meth, c⟩ := X
  exact fun H locs ls hP hS hl => lv_aload C.1 C.2.1 hd (lv_at hl j hj) (k H locs ls hP hS hl)
theorem x_aload_n (C : CX X nL Y Z cc own ret F L) {k0 : Fin 4} {i : Nat} {x : Nat} (hd : decode cc pc = .ok (.aload_n k0, 1)) (j : Nat)    (hi : (k0 : Nat) = i) (hj : lv[j]? = some (i, .ref x)) (k : WX X nL Y Z Q g (pc + 1) lv (.ref x :: st)) : WX X nL Y Z Q g pc lv (st) := by
  obtain ⟨p, l, e, R, s, m, args, below, meth, c⟩ := X
  exact fun H locs ls hP hS hl => lv_aload_n C.1 C.2.1 hd hi (lv_at hl j hj) (k H locs ls hP hS hl)
theorem x_astore (C : CX X nL Y Z cc own ret F L) {i : Nat} {x : Nat}  (hd : decode cc pc = .ok (.astore i, 2)) (hn : i < nL) (hl : (i, Value.ref x) :: lv.filter (fun q => !(q.1 == i) && !(q.1 + 1 == i && q.2.category == 2)) = lv') (k : WX X nL Y Z Q g (pc + 2) lv' st) : WX X nL Y Z Q g pc lv (.ref x :: st) := by
  obtain ⟨p, l, e, R, s, m, args, below, meth, c⟩ := X
  exact fun H locs ls hP hS h => lv_astore C.1 C.2.1 hd h hn hl (fun ls' h' => k H locs ls' hP hS h')
theorem x_astore_n (C : CX X nL Y Z cc own ret F L) {i : Nat} {x : Nat} {k0 : Fin 4} (hd : decode cc pc = .ok (.astore_n k0, 1)) (hi : (k0 : Nat) = i) (hn : i < nL) (hl : (i, Value.ref x) :: lv.filter (fun q => !(q.1 == i) && !(q.1 + 1 == i && q.2.category == 2)) = lv') (k : WX X nL Y Z Q g (pc + 1) lv' st) : WX X nL Y Z Q g pc lv (.ref x :: st) := by
  obtain ⟨p, l, e, R, s, m, args, below, meth, c⟩ := X
  exact fun H locs ls hP hS h => lv_astore_n C.1 C.2.1 hd hi h hn hl (fun ls' h' => k H locs ls' hP hS h')
theorem x_iinc (C : CX X nL Y Z cc own ret F L) {i : Nat} {n : Int} {x v : Int32} (hd : decode cc pc = .ok (.iinc i n, 3)) (j : Nat) (hj : lv[j]? = some (i, .int x)) (hv : x + Int32.ofInt n = v) (hn : i < nL) (hl : (i, Value.int v) :: lv.filter (fun q => !(q.1 == i) && !(q.1 + 1 == i && q.2.category == 2)) = lv') (k : WX X nL Y Z Q g (pc + 3) lv' st) : WX X nL Y Z Q g pc lv st := by
  obtain ⟨p, l, e, R, s, m, args, below, meth, c⟩ := X
  exact fun H locs ls hP hS h => lv_iinc C.1 C.2.1 hd h hj hv hn hl (fun ls' h' => k H locs ls' hP hS h')
theorem x_iadd (C : CX X nL Y Z cc own ret F L) {x y : Int32} (hd : decode cc pc = .ok (.iadd, 1))  (k : WX X nL Y Z Q g (pc + 1) lv (.int (x + y) :: st)) : WX X nL Y Z Q g pc lv (.int y :: .int x :: st) := by
  obtain ⟨p, l, e, R, s, m, args, below, meth, c⟩ := X
  exact fun H locs ls hP hS hl => lv_iadd C.1 C.2.1 hd (k H locs ls hP hS hl)
theorem x_isub (C : CX X nL Y Z cc own ret F L) {x y : Int32} (hd : decode cc pc = .ok (.isub, 1))  (k : WX X nL Y Z Q g (pc + 1) lv (.int (x - y) :: st)) : WX X nL Y Z Q g pc lv (.int y :: .int x :: st) := by
  obtain ⟨p, l, e, R, s, m, args, below, meth, c⟩ := X
  exact fun H locs ls hP hS hl => lv_isub C.1 C.2.1 hd (k H locs ls hP hS hl)
theorem x_imul (C : CX X nL Y Z cc own ret F L) {x y : Int32} (hd : decode cc pc = .ok (.imul, 1))  (k : WX X nL Y Z Q g (pc + 1) lv (.int (x * y) :: st)) : WX X nL Y Z Q g pc lv (.int y :: .int x :: st) := by
  obtain ⟨p, l, e, R, s, m, args, below, meth, c⟩ := X
  exact fun H locs ls hP hS hl => lv_imul C.1 C.2.1 hd (k H locs ls hP hS hl)
theorem x_iand (C : CX X nL Y Z cc own ret F L) {x y : Int32} (hd : decode cc pc = .ok (.iand, 1))  (k : WX X nL Y Z Q g (pc + 1) lv (.int (x &&& y) :: st)) : WX X nL Y Z Q g pc lv (.int y :: .int x :: st) := by
  obtain ⟨p, l, e, R, s, m, args, below, meth, c⟩ := X
  exact fun H locs ls hP hS hl => lv_iand C.1 C.2.1 hd (k H locs ls hP hS hl)
theorem x_ior (C : CX X nL Y Z cc own ret F L) {x y : Int32} (hd : decode cc pc = .ok (.ior, 1))  (k : WX X nL Y Z Q g (pc + 1) lv (.int (x ||| y) :: st)) : WX X nL Y Z Q g pc lv (.int y :: .int x :: st) := by
  obtain ⟨p, l, e, R, s, m, args, below, meth, c⟩ := X
  exact fun H locs ls hP hS hl => lv_ior C.1 C.2.1 hd (k H locs ls hP hS hl)
theorem x_ishl (C : CX X nL Y Z cc own ret F L) {x y : Int32} (hd : decode cc pc = .ok (.ishl, 1))  (k : WX X nL Y Z Q g (pc + 1) lv (.int (x <<< (y &&& 31)) :: st)) : WX X nL Y Z Q g pc lv (.int y :: .int x :: st) := by
  obtain ⟨p, l, e, R, s, m, args, below, meth, c⟩ := X
  exact fun H locs ls hP hS hl => lv_ishl C.1 C.2.1 hd (k H locs ls hP hS hl)
theorem x_ishr (C : CX X nL Y Z cc own ret F L) {x y : Int32} (hd : decode cc pc = .ok (.ishr, 1))  (k : WX X nL Y Z Q g (pc + 1) lv (.int (x >>> (y &&& 31)) :: st)) : WX X nL Y Z Q g pc lv (.int y :: .int x :: st) := by
  obtain ⟨p, l, e, R, s, m, args, below, meth, c⟩ := X
  exact fun H locs ls hP hS hl => lv_ishr C.1 C.2.1 hd (k H locs ls hP hS hl)
theorem x_idiv (C : CX X nL Y Z cc own ret F L) {x y : Int32} (hd : decode cc pc = .ok (.idiv, 1)) (hy : ¬ y = 0) (k : WX X nL Y Z Q g (pc + 1) lv (.int (x / y) :: st)) : WX X nL Y Z Q g pc lv (.int y :: .int x :: st) := by
  obtain ⟨p, l, e, R, s, m, args, below, meth, c⟩ := X
  exact fun H locs ls hP hS hl => lv_idiv C.1 C.2.1 hd hy (k H locs ls hP hS hl)
theorem x_irem (C : CX X nL Y Z cc own ret F L) {x y : Int32} (hd : decode cc pc = .ok (.irem, 1)) (hy : ¬ y = 0) (k : WX X nL Y Z Q g (pc + 1) lv (.int (x - x / y * y) :: st)) : WX X nL Y Z Q g pc lv (.int y :: .int x :: st) := by
  obtain ⟨p, l, e, R, s, m, args, below, meth, c⟩ := X
  exact fun H locs ls hP hS hl => lv_irem C.1 C.2.1 hd hy (k H locs ls hP hS hl)
theorem x_ladd (C : CX X nL Y Z cc own ret F L) {x y : Int64} (hd : decode cc pc = .ok (.ladd, 1))  (k : WX X nL Y Z Q g (pc + 1) lv (.long (x + y) :: st)) : WX X nL Y Z Q g pc lv (.long y :: .long x :: st) := by
  obtain ⟨p, l, e, R, s, m, args, below, meth, c⟩ := X
  exact fun H locs ls hP hS hl => lv_ladd C.1 C.2.1 hd (k H locs ls hP hS hl)
theorem x_lmul (C : CX X nL Y Z cc own ret F L) {x y : Int64} (hd : decode cc pc = .ok (.lmul, 1))  (k : WX X nL Y Z Q g (pc + 1) lv (.long (x * y) :: st)) : WX X nL Y Z Q g pc lv (.long y :: .long x :: st) := by
  obtain ⟨p, l, e, R, s, m, args, below, meth, c⟩ := X
  exact fun H locs ls hP hS hl => lv_lmul C.1 C.2.1 hd (k H locs ls hP hS hl)
theorem x_iushr (C : CX X nL Y Z cc own ret F L) {x y : Int32} (hd : decode cc pc = .ok (.iushr, 1))  (k : WX X nL Y Z Q g (pc + 1) lv (.int ((x.toUInt32 >>> (y.toUInt32 &&& Int32.toUInt32 31)).toInt32) :: st)) : WX X nL Y Z Q g pc lv (.int y :: .int x :: st) := by
  obtain ⟨p, l, e, R, s, m, args, below, meth, c⟩ := X
  exact fun H locs ls hP hS hl => lv_iushr C.1 C.2.1 hd rfl (k H locs ls hP hS hl)
theorem x_i2b (C : CX X nL Y Z cc own ret F L) {x : Int32} (hd : decode cc pc = .ok (.i2b, 1))  (k : WX X nL Y Z Q g (pc + 1) lv (.int (x.toInt8.toInt32) :: st)) : WX X nL Y Z Q g pc lv (.int x :: st) := by
  obtain ⟨p, l, e, R, s, m, args, below, meth, c⟩ := X
  exact fun H locs ls hP hS hl => lv_i2b C.1 C.2.1 hd rfl (k H locs ls hP hS hl)
theorem x_i2s (C : CX X nL Y Z cc own ret F L) {x : Int32} (hd : decode cc pc = .ok (.i2s, 1))  (k : WX X nL Y Z Q g (pc + 1) lv (.int (x.toInt16.toInt32) :: st)) : WX X nL Y Z Q g pc lv (.int x :: st) := by
  obtain ⟨p, l, e, R, s, m, args, below, meth, c⟩ := X
  exact fun H locs ls hP hS hl => lv_i2s C.1 C.2.1 hd rfl (k H locs ls hP hS hl)
theorem x_i2l (C : CX X nL Y Z cc own ret F L) {x : Int32} (hd : decode cc pc = .ok (.i2l, 1))  (k : WX X nL Y Z Q g (pc + 1) lv (.long (x.toInt64) :: st)) : WX X nL Y Z Q g pc lv (.int x :: st) := by
  obtain ⟨p, l, e, R, s, m, args, below, meth, c⟩ := X
  exact fun H locs ls hP hS hl => lv_i2l C.1 C.2.1 hd rfl (k H locs ls hP hS hl)
theorem x_dup (C : CX X nL Y Z cc own ret F L) {v : Value} (hd : decode cc pc = .ok (.dup, 1)) (hv : v.category = 1) (k : WX X nL Y Z Q g (pc + 1) lv (v :: v :: st)) : WX X nL Y Z Q g pc lv (v :: st) := by
  obtain ⟨p, l, e, R, s, m, args, below, meth, c⟩ := X
  exact fun H locs ls hP hS hl => lv_dup C.1 C.2.1 hd hv (k H locs ls hP hS hl)
theorem x_goto (C : CX X nL Y Z cc own ret F L) {off : Int} (hd : decode cc pc = .ok (.goto off, 3)) (tgt : Nat) (ht : (pc : Int) + off = (tgt : Int)) (k : WX X nL Y Z Q g tgt lv st) : WX X nL Y Z Q g pc lv st := by
  obtain ⟨p, l, e, R, s, m, args, below, meth, c⟩ := X
  exact fun H locs ls hP hS hl => lv_goto C.1 C.2.1 hd ht (k H locs ls hP hS hl)
theorem x_icmp_eq (C : CX X nL Y Z cc own ret F L) {off : Int} {x y : Int32} (hd : decode cc pc = .ok (.if_icmp .eq off, 3)) (tgt : Nat) (ht : (pc : Int) + off = (tgt : Int)) (kt : x = y → WX X nL Y Z Q g tgt lv st) (kf : ¬ x = y → WX X nL Y Z Q g (pc + 3) lv st) : WX X nL Y Z Q g pc lv (.int y :: .int x :: st) := by
  obtain ⟨p, l, e, R, s, m, args, below, meth, c⟩ := X
  exact fun H locs ls hP hS hl => lv_icmp_eq C.1 C.2.1 hd ht (fun h => kt h H locs ls hP hS hl) (fun h => kf h H locs ls hP hS hl)
theorem x_ifeq (C : CX X nL Y Z cc own ret F L) {off : Int} {x : Int32} (hd : decode cc pc = .ok (.ifCond .eq off, 3)) (tgt : Nat) (ht : (pc : Int) + off = (tgt : Int)) (kt : x = 0 → WX X nL Y Z Q g tgt lv st) (kf : ¬ x = 0 → WX X nL Y Z Q g (pc + 3) lv st) : WX X nL Y Z Q g pc lv (.int x :: st) := by
  obtain ⟨p, l, e, R, s, m, args, below, meth, c⟩ := X
  exact fun H locs ls hP hS hl => lv_if_eq C.1 C.2.1 hd ht (fun h => kt h H locs ls hP hS hl) (fun h => kf h H locs ls hP hS hl)
theorem x_icmp_ne (C : CX X nL Y Z cc own ret F L) {off : Int} {x y : Int32} (hd : decode cc pc = .ok (.if_icmp .ne off, 3)) (tgt : Nat) (ht : (pc : Int) + off = (tgt : Int)) (kt : ¬ x = y → WX X nL Y Z Q g tgt lv st) (kf : x = y → WX X nL Y Z Q g (pc + 3) lv st) : WX X nL Y Z Q g pc lv (.int y :: .int x :: st) := by
  obtain ⟨p, l, e, R, s, m, args, below, meth, c⟩ := X
  exact fun H locs ls hP hS hl => lv_icmp_ne C.1 C.2.1 hd ht (fun h => kt h H locs ls hP hS hl) (fun h => kf h H locs ls hP hS hl)
theorem x_ifne (C : CX X nL Y Z cc own ret F L) {off : Int} {x : Int32} (hd : decode cc pc = .ok (.ifCond .ne off, 3)) (tgt : Nat) (ht : (pc : Int) + off = (tgt : Int)) (kt : ¬ x = 0 → WX X nL Y Z Q g tgt lv st) (kf : x = 0 → WX X nL Y Z Q g (pc + 3) lv st) : WX X nL Y Z Q g pc lv (.int x :: st) := by
  obtain ⟨p, l, e, R, s, m, args, below, meth, c⟩ := X
  exact fun H locs ls hP hS hl => lv_if_ne C.1 C.2.1 hd ht (fun h => kt h H locs ls hP hS hl) (fun h => kf h H locs ls hP hS hl)
theorem x_icmp_lt (C : CX X nL Y Z cc own ret F L) {off : Int} {x y : Int32} (hd : decode cc pc = .ok (.if_icmp .lt off, 3)) (tgt : Nat) (ht : (pc : Int) + off = (tgt : Int)) (kt : x < y → WX X nL Y Z Q g tgt lv st) (kf : ¬ x < y → WX X nL Y Z Q g (pc + 3) lv st) : WX X nL Y Z Q g pc lv (.int y :: .int x :: st) := by
  obtain ⟨p, l, e, R, s, m, args, below, meth, c⟩ := X
  exact fun H locs ls hP hS hl => lv_icmp_lt C.1 C.2.1 hd ht (fun h => kt h H locs ls hP hS hl) (fun h => kf h H locs ls hP hS hl)
theorem x_iflt (C : CX X nL Y Z cc own ret F L) {off : Int} {x : Int32} (hd : decode cc pc = .ok (.ifCond .lt off, 3)) (tgt : Nat) (ht : (pc : Int) + off = (tgt : Int)) (kt : x < 0 → WX X nL Y Z Q g tgt lv st) (kf : ¬ x < 0 → WX X nL Y Z Q g (pc + 3) lv st) : WX X nL Y Z Q g pc lv (.int x :: st) := by
  obtain ⟨p, l, e, R, s, m, args, below, meth, c⟩ := X
  exact fun H locs ls hP hS hl => lv_if_lt C.1 C.2.1 hd ht (fun h => kt h H locs ls hP hS hl) (fun h => kf h H locs ls hP hS hl)
theorem x_icmp_ge (C : CX X nL Y Z cc own ret F L) {off : Int} {x y : Int32} (hd : decode cc pc = .ok (.if_icmp .ge off, 3)) (tgt : Nat) (ht : (pc : Int) + off = (tgt : Int)) (kt : y ≤ x → WX X nL Y Z Q g tgt lv st) (kf : ¬ y ≤ x → WX X nL Y Z Q g (pc + 3) lv st) : WX X nL Y Z Q g pc lv (.int y :: .int x :: st) := by
  obtain ⟨p, l, e, R, s, m, args, below, meth, c⟩ := X
  exact fun H locs ls hP hS hl => lv_icmp_ge C.1 C.2.1 hd ht (fun h => kt h H locs ls hP hS hl) (fun h => kf h H locs ls hP hS hl)
theorem x_ifge (C : CX X nL Y Z cc own ret F L) {off : Int} {x : Int32} (hd : decode cc pc = .ok (.ifCond .ge off, 3)) (tgt : Nat) (ht : (pc : Int) + off = (tgt : Int)) (kt : 0 ≤ x → WX X nL Y Z Q g tgt lv st) (kf : ¬ 0 ≤ x → WX X nL Y Z Q g (pc + 3) lv st) : WX X nL Y Z Q g pc lv (.int x :: st) := by
  obtain ⟨p, l, e, R, s, m, args, below, meth, c⟩ := X
  exact fun H locs ls hP hS hl => lv_if_ge C.1 C.2.1 hd ht (fun h => kt h H locs ls hP hS hl) (fun h => kf h H locs ls hP hS hl)
theorem x_icmp_gt (C : CX X nL Y Z cc own ret F L) {off : Int} {x y : Int32} (hd : decode cc pc = .ok (.if_icmp .gt off, 3)) (tgt : Nat) (ht : (pc : Int) + off = (tgt : Int)) (kt : y < x → WX X nL Y Z Q g tgt lv st) (kf : ¬ y < x → WX X nL Y Z Q g (pc + 3) lv st) : WX X nL Y Z Q g pc lv (.int y :: .int x :: st) := by
  obtain ⟨p, l, e, R, s, m, args, below, meth, c⟩ := X
  exact fun H locs ls hP hS hl => lv_icmp_gt C.1 C.2.1 hd ht (fun h => kt h H locs ls hP hS hl) (fun h => kf h H locs ls hP hS hl)
theorem x_ifgt (C : CX X nL Y Z cc own ret F L) {off : Int} {x : Int32} (hd : decode cc pc = .ok (.ifCond .gt off, 3)) (tgt : Nat) (ht : (pc : Int) + off = (tgt : Int)) (kt : 0 < x → WX X nL Y Z Q g tgt lv st) (kf : ¬ 0 < x → WX X nL Y Z Q g (pc + 3) lv st) : WX X nL Y Z Q g pc lv (.int x :: st) := by
  obtain ⟨p, l, e, R, s, m, args, below, meth, c⟩ := X
  exact fun H locs ls hP hS hl => lv_if_gt C.1 C.2.1 hd ht (fun h => kt h H locs ls hP hS hl) (fun h => kf h H locs ls hP hS hl)
theorem x_icmp_le (C : CX X nL Y Z cc own ret F L) {off : Int} {x y : Int32} (hd : decode cc pc = .ok (.if_icmp .le off, 3)) (tgt : Nat) (ht : (pc : Int) + off = (tgt : Int)) (kt : x ≤ y → WX X nL Y Z Q g tgt lv st) (kf : ¬ x ≤ y → WX X nL Y Z Q g (pc + 3) lv st) : WX X nL Y Z Q g pc lv (.int y :: .int x :: st) := by
  obtain ⟨p, l, e, R, s, m, args, below, meth, c⟩ := X
  exact fun H locs ls hP hS hl => lv_icmp_le C.1 C.2.1 hd ht (fun h => kt h H locs ls hP hS hl) (fun h => kf h H locs ls hP hS hl)
theorem x_ifle (C : CX X nL Y Z cc own ret F L) {off : Int} {x : Int32} (hd : decode cc pc = .ok (.ifCond .le off, 3)) (tgt : Nat) (ht : (pc : Int) + off = (tgt : Int)) (kt : x ≤ 0 → WX X nL Y Z Q g tgt lv st) (kf : ¬ x ≤ 0 → WX X nL Y Z Q g (pc + 3) lv st) : WX X nL Y Z Q g pc lv (.int x :: st) := by
  obtain ⟨p, l, e, R, s, m, args, below, meth, c⟩ := X
  exact fun H locs ls hP hS hl => lv_if_le C.1 C.2.1 hd ht (fun h => kt h H locs ls hP hS hl) (fun h => kf h H locs ls hP hS hl)
theorem i32_ne {x v : Int32} {z : Int} (h : ¬ x = v) (hv : v.toInt = z) : x.toInt ≠ z := fun e => h (Int32.toInt_inj.mp (e.trans hv.symm))
theorem x_tabAt (C : CX X nL Y Z cc own ret F L) {dflt lo hi : Int} {offs : Array Int} {len : Nat} {x v : Int32} {off : Int} (hd : decode cc pc = .ok (.tableswitch dflt lo hi offs, len)) (hx : x = v) (h1 : ¬ v.toInt < lo) (h2 : ¬ hi < v.toInt) (ho : offs[(v.toInt - lo).toNat]? = some off) (tgt : Nat) (ht : (pc : Int) + off = (tgt : Int)) (k : WX X nL Y Z Q g tgt lv st) : WX X nL Y Z Q g pc lv (.int x :: st) := by
  subst hx
  obtain ⟨p, l, e, R, s, m, args, below, meth, c⟩ := X
  exact fun H locs ls hP hS hl => lv_tableIn C.1 C.2.1 hd h1 h2 ho ht (k H locs ls hP hS hl)
theorem x_tabOut (C : CX X nL Y Z cc own ret F L) {dflt lo hi : Int} {offs : Array Int} {len : Nat} {x : Int32} (hd : decode cc pc = .ok (.tableswitch dflt lo hi offs, len)) (hx : x.toInt < lo ∨ hi < x.toInt) (tgt : Nat) (ht : (pc : Int) + dflt = (tgt : Int)) (k : WX X nL Y Z Q g tgt lv st) : WX X nL Y Z Q g pc lv (.int x :: st) := by
  obtain ⟨p, l, e, R, s, m, args, below, meth, c⟩ := X
  exact fun H locs ls hP hS hl => lv_tableOut C.1 C.2.1 hd hx ht (k H locs ls hP hS hl)
theorem x_look (C : CX X nL Y Z cc own ret F L) {dflt : Int} {ps : Array (Int × Int)} {len : Nat} {x : Int32} {off : Int} (hd : decode cc pc = .ok (.lookupswitch dflt ps, len)) (hp : (ps.toList.zip (ps.toList.drop 1)).all (fun (a, next) => a.1 < next.1) = true) (ho : Op.lookupswitch.offset ps.toList dflt x.toInt = off) (tgt : Nat) (ht : (pc : Int) + off = (tgt : Int)) (k : WX X nL Y Z Q g tgt lv st) : WX X nL Y Z Q g pc lv (.int x :: st) := by
  obtain ⟨p, l, e, R, s, m, args, below, meth, c⟩ := X
  exact fun H locs ls hP hS hl => lv_lookup C.1 C.2.1 hd hp ho ht (k H locs ls hP hS hl)
def bI (p : Prop) [Decidable p] : Int32 := if p then 1 else 0
theorem bI_01 (p : Prop) [Decidable p] : bI p = 0 ∨ bI p = 1 := by
  unfold bI
  by_cases h : p
  · exact Or.inr (if_pos h)
  · exact Or.inl (if_neg h)
theorem bI_t {p : Prop} [Decidable p] (h : p) : bI p = 1 := if_pos h
theorem bI_f {p : Prop} [Decidable p] (h : ¬ p) : bI p = 0 := if_neg h
theorem bI_0 {p : Prop} [Decidable p] : bI p = 0 ↔ ¬ p := ⟨fun e h => by rw [bI_t h] at e; exact absurd e (by decide), bI_f⟩
theorem bI_n0 {p : Prop} [Decidable p] : ¬ bI p = 0 ↔ p := ⟨fun e => Decidable.byContradiction (fun h => e (bI_f h)), fun h e => by rw [bI_t h] at e; exact absurd e (by decide)⟩
theorem x_ifeqB (C : CX X nL Y Z cc own ret F L) {off : Int} {q : Prop} [Decidable q] (hd : decode cc pc = .ok (.ifCond .eq off, 3)) (tgt : Nat) (ht : (pc : Int) + off = (tgt : Int)) (kt : ¬ q → WX X nL Y Z Q g tgt lv st) (kf : q → WX X nL Y Z Q g (pc + 3) lv st) : WX X nL Y Z Q g pc lv (.int (bI q) :: st) := x_ifeq C hd tgt ht (fun h => kt (bI_0.mp h)) (fun h => kf (bI_n0.mp h))
theorem x_ifneB (C : CX X nL Y Z cc own ret F L) {off : Int} {q : Prop} [Decidable q] (hd : decode cc pc = .ok (.ifCond .ne off, 3)) (tgt : Nat) (ht : (pc : Int) + off = (tgt : Int)) (kt : q → WX X nL Y Z Q g tgt lv st) (kf : ¬ q → WX X nL Y Z Q g (pc + 3) lv st) : WX X nL Y Z Q g pc lv (.int (bI q) :: st) := x_ifne C hd tgt ht (fun h => kt (bI_n0.mp h)) (fun h => kf (bI_0.mp h))
end Rows
section Heap
variable {X : XT} {Y : YT} {Z : ZT} {Q : State → Prop} {g : St} {pc : Nat} {lv lv' : List (Nat × Value)} {st : List Value} {cc : ByteArray} {own : String} {ret : Option FieldType} {F L nL : Nat}
theorem x_get (C : CX X nL Y Z cc own ret F L) {k : Nat} (hk : k < Y.1) {ci : Nat} {fs : List Value} (hE : Y.2.1 Z k (sr Y g k) = .inr (ci, fs)) {Cn : String} {T : u_T} {N : Nat} (hc : cls[ci]? = some (Cn, T, N)) (hin : ∀ w ∈ u_ws Cn T N, w ∈ TT) (j : Nat) (hj : j < N) {index : Nat} (hw : Cond.fieldLink own index (T j).1 (T j).2.1 (T j).2.2.1 ∈ TT) {v : Value} (hv : fs[j]? = some v) (hd : decode cc pc = .ok (.getfield index, 3)) (kk : WX X nL Y Z Q g (pc + 3) lv (v :: st)) : WX X nL Y Z Q g pc lv (.ref (Z.2.1 k) :: st) := by
  obtain ⟨p, l, e, R, s, m, args, below, meth, c⟩ := X
  intro H locs ls hP hS hl
  obtain ⟨hx, hb, hml, hown, hts, -, -, -, -, hK, hI, -⟩ := C
  exact va_get hx hb hts hin hown hK hP k (by rw [sw_at hk, hE]) hc j hj (hts _ hw) (fun _ h => h) hv hd (kk H locs ls hP hS hl)
theorem x_put (C : CX X nL Y Z cc own ret F L) {k : Nat} (hk : k < Y.1) {ci : Nat} {fs : (Nat → Int32) → List Value} (hE : ∀ r, Y.2.1 Z k r = .inr (ci, fs r)) {Cn : String} {T : u_T} {N : Nat} (hc : cls[ci]? = some (Cn, T, N)) (hin : ∀ w ∈ u_ws Cn T N, w ∈ TT) (ty0 : Nat → FieldType) (hty : ∀ k, k < N → parseFieldDescriptor (T k).2.2.1 = some (ty0 k)) (hnm : ∀ a, a < N → ∀ b, b < N → a ≠ b → (T a).2.1 ≠ (T b).2.1) (j : Nat) (hj : j < N) (hfin : (T j).2.2.2 = false) {index : Nat} (hw : Cond.fieldLink own index (T j).1 (T j).2.1 (T j).2.2.1 ∈ TT) {v : Int32} (hn : narrow (ty0 j) (.int v) = .int v) (hfit : fits (ty0 j) (.int v) = true) (hlen : ∀ r, j < (fs r).length) (hfs : ∀ r, (fs r).set j (.int v) = fs (upd r j v)) (ho : sOk Y k j) (hd : decode cc pc = .ok (.putfield index, 3)) (kk : WX X nL Y Z Q (up g (Y.2.2.1 k) (Y.2.2.2 k j) v) (pc + 3) lv st) : WX X nL Y Z Q g pc lv (.int v :: .ref (Z.2.1 k) :: st) := by
  obtain ⟨p, l, e, R, s, m, args, below, meth, c⟩ := X
  intro H locs ls hP hS hl
  obtain ⟨hx, hb, hml, hown, hts, -, -, -, -, hK, hI, -⟩ := C
  refine va_put hx hb hts hin ty0 hty hnm hown hK hP (sD hI g) hS k (fs := fs (sr Y g k)) (by rw [sw_at hk, hE]) hc j hj (hts _ hw) (fun _ h => h) hfin (hty j hj) hn hfit (hlen _) hd (fun H1 locs1 hP1 _ hS1 => ?_)
  rw [hfs, ← hE, sw_set ho hk] at hP1
  exact kk H1 locs1 ls hP1 hS1 hl
theorem x_iald (C : CX X nL Y Z cc own ret F L) {k : Nat} (hk : k < Y.1) {n : Nat} {r : Nat → Int32} (hE : Y.2.1 Z k (sr Y g k) = .inl (Z.2.2.1 0, n, .inl r)) {x : Int32} (j : Nat) (hx : x = nI j) (hj : j < n) (hn : n < 2 ^ 31) (hd : decode cc pc = .ok (.iaload, 1)) (kk : WX X nL Y Z Q g (pc + 1) lv (.int (r j) :: st)) : WX X nL Y Z Q g pc lv (.int x :: .ref (Z.2.1 k) :: st) := by
  subst hx
  obtain ⟨p, l, e, R, s, m, args, below, meth, c⟩ := X
  intro H locs ls hP hS hl
  obtain ⟨hx, hb, hml, hown, hts, -, -, -, -, hK, hI, -⟩ := C
  have h := kk H locs ls hP hS hl
  rw [← nI_clamp (n := j) (Nat.lt_trans hj hn)] at h
  exact va_iald hx hb hK hP k 0 (by rw [sw_at hk, hE]) rfl (vp_in_nI hj hn) hd h
theorem x_bald (C : CX X nL Y Z cc own ret F L) {k : Nat} (hk : k < Y.1) {n : Nat} {r : Nat → Int32} (hE : Y.2.1 Z k (sr Y g k) = .inl (Z.2.2.1 1, n, .inl r)) {x : Int32} (j : Nat) (hx : x = nI j) (hj : j < n) (hn : n < 2 ^ 31) (hd : decode cc pc = .ok (.baload, 1)) (kk : WX X nL Y Z Q g (pc + 1) lv (.int (r j) :: st)) : WX X nL Y Z Q g pc lv (.int x :: .ref (Z.2.1 k) :: st) := by
  subst hx
  obtain ⟨p, l, e, R, s, m, args, below, meth, c⟩ := X
  intro H locs ls hP hS hl
  obtain ⟨hx, hb, hml, hown, hts, -, -, -, -, hK, hI, -⟩ := C
  have h := kk H locs ls hP hS hl
  rw [← nI_clamp (n := j) (Nat.lt_trans hj hn)] at h
  exact va_bald hx hb hK hP k 1 (by rw [sw_at hk, hE]) rfl (vp_in_nI hj hn) hd h
theorem tr_upd {n j : Nat} {f : Nat → Int32} {v : Int32} (h : j < n) : upd (tr n f) j v = tr n (upd f j v) := by
  funext i
  by_cases hi : i = j
  · subst hi; simp [upd, tr, h]
  · simp [upd, tr, hi]
theorem x_iast (C : CX X nL Y Z cc own ret F L) {k : Nat} (hk : k < Y.1) {n : Nat} (hE : ∀ r, Y.2.1 Z k r = .inl (Z.2.2.1 0, n, .inl (tr n r))) {x v : Int32} (j : Nat) (hx : x = nI j) (hj : j < n) (hn : n < 2 ^ 31) (ho : sOk Y k j) (hd : decode cc pc = .ok (.iastore, 1)) (kk : WX X nL Y Z Q (up g (Y.2.2.1 k) (Y.2.2.2 k j) v) (pc + 1) lv st) : WX X nL Y Z Q g pc lv (.int v :: .int x :: .ref (Z.2.1 k) :: st) := by
  subst hx
  obtain ⟨p, l, e, R, s, m, args, below, meth, c⟩ := X
  intro H locs ls hP hS hl
  obtain ⟨hx, hb, hml, hown, hts, -, -, -, -, hK, hI, -⟩ := C
  refine va_iast hx hb hK hP (sD hI g) hS k 0 (f := tr n (sr Y g k)) (by rw [sw_at hk, hE]) rfl (vp_in_nI hj hn) hd (fun H1 locs1 hP1 _ hS1 => ?_)
  rw [nI_clamp (Nat.lt_trans hj hn), tr_upd hj, ← hE, sw_set ho hk] at hP1
  exact kk H1 locs1 ls hP1 hS1 hl
theorem x_bast (C : CX X nL Y Z cc own ret F L) {k : Nat} (hk : k < Y.1) {n : Nat} (hE : ∀ r, Y.2.1 Z k r = .inl (Z.2.2.1 1, n, .inl (tr n r))) {x v : Int32} (j : Nat) (hx : x = nI j) (hj : j < n) (hn : n < 2 ^ 31) (ho : sOk Y k j) (hd : decode cc pc = .ok (.bastore, 1)) (kk : WX X nL Y Z Q (up g (Y.2.2.1 k) (Y.2.2.2 k j) (v.toInt8.toInt32)) (pc + 1) lv st) : WX X nL Y Z Q g pc lv (.int v :: .int x :: .ref (Z.2.1 k) :: st) := by
  subst hx
  obtain ⟨p, l, e, R, s, m, args, below, meth, c⟩ := X
  intro H locs ls hP hS hl
  obtain ⟨hx, hb, hml, hown, hts, -, -, -, -, hK, hI, -⟩ := C
  refine va_bast hx hb hK hP (sD hI g) hS k 1 (f := tr n (sr Y g k)) (by rw [sw_at hk, hE]) rfl (vp_in_nI hj hn) hd (fun H1 locs1 hP1 _ hS1 => ?_)
  rw [nI_clamp (Nat.lt_trans hj hn), tr_upd hj, vp_nar_byte, ← hE, sw_set ho hk] at hP1
  exact kk H1 locs1 ls hP1 hS1 hl
theorem x_aald (C : CX X nL Y Z cc own ret F L) {k : Nat} (hk : k < Y.1) (t0 : Nat) {cA : ClassId} {Cn : String} {n : Nat} {f : Nat → Option Nat} (hE : Y.2.1 Z k (sr Y g k) = .inl (cA, n, .inr (.inr (.inr (.inr f))))) (ht : (tys Z)[t0]? = some (cA, .object Cn)) {x : Int32} (j : Nat) (hx : x = nI j) (hj : j < n) (hn : n < 2 ^ 31) {a : Nat} (hf : f j = some a) (hd : decode cc pc = .ok (.aaload, 1)) (kk : WX X nL Y Z Q g (pc + 1) lv (.ref a :: st)) : WX X nL Y Z Q g pc lv (.int x :: .ref (Z.2.1 k) :: st) := by
  subst hx
  obtain ⟨p, l, e, R, s, m, args, below, meth, c⟩ := X
  intro H locs ls hP hS hl
  obtain ⟨hx, hb, hml, hown, hts, -, -, -, -, hK, hI, -⟩ := C
  refine va_aldq hx hb hK hP k t0 (by rw [sw_at hk, hE]) ht (vp_in_nI hj hn) hd ?_
  rw [nI_clamp (Nat.lt_trans hj hn), hf]
  exact kk H locs ls hP hS hl
theorem x_alen (C : CX X nL Y Z cc own ret F L) {k : Nat} (hk : k < Y.1) (t0 : Nat) {cA : ClassId} {x : vp_A} (hE : Y.2.1 Z k (sr Y g k) = .inl (cA, x)) {ty : FieldType} (ht : (tys Z)[t0]? = some (cA, ty)) {v : Int32} (hv : Int32.ofNat x.1 = v) (hd : decode cc pc = .ok (.arraylength, 1)) (kk : WX X nL Y Z Q g (pc + 1) lv (.int v :: st)) : WX X nL Y Z Q g pc lv (.ref (Z.2.1 k) :: st) := by
  obtain ⟨p, l, e, R, s, m, args, below, meth, c⟩ := X
  intro H locs ls hP hS hl
  obtain ⟨hx, hb, hml, hown, hts, -, -, -, -, hK, hI, -⟩ := C
  exact va_alen hx hb hK hP k t0 (by rw [sw_at hk, hE]) ht hv hd (kk H locs ls hP hS hl)
/-! returns -/
theorem x_iret (C : CX X nL Y Z cc own (some .int) F L) {x r : Int32} {g' : St} (hr : x = r) (hg : g = g') (hd : decode cc pc = .ok (.ireturn, 1)) : WX X nL Y Z (QX X Y Z (QcI Y Z r g')) g pc lv [.int x] := by
  subst hr; subst hg
  obtain ⟨p, l, e, R, s, m, args, below, meth, c⟩ := X
  intro H locs ls hP hS hl
  obtain ⟨hx, hb, hml, hown, hts, hrt, hlk, -⟩ := C
  exact W.iret hx hb hrt (fun t ht hW => ⟨⟨x, g, rfl, ⟨rfl, rfl⟩, by show va_P _ _ _ t.heap; rw [ht]; exact hP⟩, hS.F ht⟩) hS.2.2 hd hlk
theorem x_zret (C : CX X nL Y Z cc own (some .boolean) F L) {x r : Int32} {g' : St} (hn : x = 0 ∨ x = 1) (hr : x = r) (hg : g = g') (hd : decode cc pc = .ok (.ireturn, 1)) : WX X nL Y Z (QX X Y Z (QcI Y Z r g')) g pc lv [.int x] := by
  subst hr; subst hg
  obtain ⟨p, l, e, R, s, m, args, below, meth, c⟩ := X
  intro H locs ls hP hS hl
  obtain ⟨hx, hb, hml, hown, hts, hrt, hlk, -⟩ := C
  exact W.zret hx hb hrt (by rcases hn with rfl | rfl <;> rfl) (fun t ht hW => ⟨⟨x, g, rfl, ⟨rfl, rfl⟩, by show va_P _ _ _ t.heap; rw [ht]; exact hP⟩, hS.F ht⟩) hS.2.2 hd hlk
theorem x_lret (C : CX X nL Y Z cc own (some .long) F L) {x r : Int64} {g' : St} (hr : x = r) (hg : g = g') (hd : decode cc pc = .ok (.lreturn, 1)) : WX X nL Y Z (QX X Y Z (QcL Y Z r g')) g pc lv [.long x] := by
  subst hr; subst hg
  obtain ⟨p, l, e, R, s, m, args, below, meth, c⟩ := X
  intro H locs ls hP hS hl
  obtain ⟨hx, hb, hml, hown, hts, hrt, hlk, -⟩ := C
  exact W.lret hx hb hrt (fun t ht hW => ⟨⟨x, g, rfl, ⟨rfl, rfl⟩, by show va_P _ _ _ t.heap; rw [ht]; exact hP⟩, hS.F ht⟩) hS.2.2 hd hlk
theorem x_vret (C : CX X nL Y Z cc own none F L) {g' : St} (hg : g = g') (hd : decode cc pc = .ok (.return_, 1)) : WX X nL Y Z (QX X Y Z (QcV Y Z g')) g pc lv [] := by
  subst hg
  obtain ⟨p, l, e, R, s, m, args, below, meth, c⟩ := X
  intro H locs ls hP hS hl
  obtain ⟨hx, hb, hml, hown, hts, hrt, hlk, -⟩ := C
  exact W.vret hx hb hrt (fun t ht hW => ⟨⟨g, rfl, rfl, by show va_P _ _ _ t.heap; rw [ht]; exact hP⟩, hS.F ht⟩) hS.2.2 hd hlk
theorem x_aret {Cn : String} (C : CX X nL Y Z cc own (some (.object Cn)) F L) {a r : Nat} {g' : St} (hr : a = r) (hg : g = g') (hd : decode cc pc = .ok (.areturn, 1)) : WX X nL Y Z (QX X Y Z (QcR Y Z r g')) g pc lv [.ref a] := by
  subst hr; subst hg
  obtain ⟨p, l, e, R, s, m, args, below, meth, c⟩ := X
  intro H locs ls hP hS hl
  obtain ⟨hx, hb, hml, hown, hts, hrt, hlk, -⟩ := C
  exact W.aret hx hb hrt (Or.inl ⟨_, rfl⟩) (Or.inr ⟨_, rfl⟩) (fun t ht hW => ⟨⟨g, a, rfl, rfl, rfl, by show va_P _ _ _ t.heap; rw [ht]; exact hP⟩, hS.F ht⟩) hS.2.2 hd hlk
/-! Math.max, Math.min -/
theorem x_max (C : CX X nL Y Z cc own ret F L) {index : Nat} (hw : Cond.methodLink own index Lib.Math.max.name ∈ TT) (hF : 1 ≤ F) (hL : (st.map fun v => v.category).sum + 13 ≤ L) {x y : Int32} (hd : decode cc pc = .ok (.invokestatic index, 3)) (kk : WX X nL Y Z Q g (pc + 3) lv (.int (if x < y then y else x) :: st)) : WX X nL Y Z Q g pc lv (.int y :: .int x :: st) := by
  obtain ⟨p, l, e, R, s, m, args, below, meth, c⟩ := X
  intro H locs ls hP hS hl
  obtain ⟨hx, hb, hml, hown, hts, -, -, hFr, hLo, hK, hI, -⟩ := C
  exact va_mmax hx hb (hml.trans hl.1.symm) hown (hts _ hw) (hts _ k_248) (hts _ k_8) (hts _ k_249) (Nat.le_trans hF hFr) (Nat.le_trans hL hLo) (Nat.zero_le _) (Nat.zero_le _) hd (kk H locs ls hP hS hl)
theorem x_min (C : CX X nL Y Z cc own ret F L) {index : Nat} (hw : Cond.methodLink own index Lib.Math.min.name ∈ TT) (hF : 1 ≤ F) (hL : (st.map fun v => v.category).sum + 13 ≤ L) {x y : Int32} (hd : decode cc pc = .ok (.invokestatic index, 3)) (kk : WX X nL Y Z Q g (pc + 3) lv (.int (if y < x then y else x) :: st)) : WX X nL Y Z Q g pc lv (.int y :: .int x :: st) := by
  obtain ⟨p, l, e, R, s, m, args, below, meth, c⟩ := X
  intro H locs ls hP hS hl
  obtain ⟨hx, hb, hml, hown, hts, -, -, hFr, hLo, hK, hI, -⟩ := C
  exact va_mmin hx hb (hml.trans hl.1.symm) hown (hts _ hw) (hts _ k_316) (hts _ k_8) (hts _ k_317) (Nat.le_trans hF hFr) (Nat.le_trans hL hLo) (Nat.zero_le _) (Nat.zero_le _) hd (kk H locs ls hP hS hl)
end Heap
section Calls
variable {X : XT} {Y : YT} {Z : ZT} {Q : State → Prop} {g g' : St} {pc : Nat} {lv lv' : List (Nat × Value)} {st st0 : List Value} {cc cc' : ByteArray} {own : String} {ret ret' : Option FieldType} {F L nL F' L' maxL' n k index : Nat} {y : MethodName} {As : List Value}
theorem code_in {cc : ByteArray} {maxL : Nat} {ret : Option FieldType} (h : Cond.code y cc maxL ret ∈ TT) : GoodIn TT (Cond.code y cc maxL ret :: TT) := tt_good (fun _ h => h) (List.forall_mem_cons.mpr ⟨h, fun _ h => h⟩)
theorem x_callVi (C : CX X nL Y Z cc own ret F L) {r : Int32} (hM : CT Y Z y cc' maxL' ret' F' L' (.ref (Z.2.1 k) :: As) g (QcI Y Z r g')) (hi : MI y cc' maxL' ret' n) (hw : Cond.methodLink own index y ∈ TT) (hk : k < Y.1) {ci : Nat} {fs : List Value} (hE : Y.2.1 Z k (sr Y g k) = .inr (ci, fs)) {T : u_T} {N : Nat} (hc : cls[ci]? = some (y.cls, T, N)) (hR : F' + 1 ≤ F ∧ 8 + (maxL' + 11) + L' ≤ L) (hn : As.length = n) (hst : As.reverse ++ .ref (Z.2.1 k) :: st = st0) (hcat : (st.map fun v => v.category).sum ≤ 8) (hd : decode cc pc = .ok (.invokevirtual index, 3)) (kk : WX X nL Y Z Q g' (pc + 3) lv (.int r :: st)) : WX X nL Y Z Q g pc lv st0 := by
  subst hst
  obtain ⟨p, l, e, R, s, m, args, below, meth, c⟩ := X
  intro H locs ls hP hS hl
  obtain ⟨hx, hb, hml, hown, hts, -, -, hFr, hLo, hK, hI, hEn⟩ := C
  refine va_calli (va_runV (As := As) (rest := st) ⟨hx, hb, hml, hown, hts⟩ (hM l) ⟨callB_of n hts (code_in hi.2.2.2.1) rfl rfl rfl (hts _ hi.2.2.1) (hts _ hw) hi.2.2.2.2 ⟨Nat.le_trans hR.1 hFr, Nat.le_trans hR.2 hLo⟩, hts _ hi.1, hts _ hi.2.1⟩ ⟨SysAt.blind, va_recv hK hP hc (by rw [sw_at hk, hE]), fun U hU hW => ⟨rfl, by rw [hU]; exact hP, va_K.moved hW.alike hK, hI, by rw [hU]; exact (hEn.kept hS.2.1).warm hW⟩⟩ rfl hn hl.1 rfl (lv_room hcat) hd ⟨Nat.zero_le _, Nat.zero_le _⟩) hS (fun q _ h => h) (fun q h => h) (fun r1 u t H1 locs1 ht hvm hq hB _ _ hS1 => ?_)
  obtain ⟨rfl, rfl⟩ := hq
  have hB : va_P Z.1 cls (sw Y Z _) t.heap := hB
  rw [ht] at hB
  exact kk H1 locs1 ls hB hS1 hl
theorem x_callSi (C : CX X nL Y Z cc own ret F L) {r : Int32} (hM : CT Y Z y cc' maxL' ret' F' L' As g (QcI Y Z r g')) (hi : MS y cc' maxL' ret' n) (hw : Cond.methodLink own index y ∈ TT) (hR : F' + 1 ≤ F ∧ 8 + (maxL' + 11) + L' ≤ L) (hn : As.length = n) (hst : As.reverse ++ st = st0) (hcat : (st.map fun v => v.category).sum ≤ 8) (hd : decode cc pc = .ok (.invokestatic index, 3)) (kk : WX X nL Y Z Q g' (pc + 3) lv (.int r :: st)) : WX X nL Y Z Q g pc lv st0 := by
  subst hst
  obtain ⟨p, l, e, R, s, m, args, below, meth, c⟩ := X
  intro H locs ls hP hS hl
  obtain ⟨hx, hb, hml, hown, hts, -, -, hFr, hLo, hK, hI, hEn⟩ := C
  refine va_calli (va_runS (As := As) (rest := st) ⟨hx, hb, hml, hown, hts⟩ (hM l) ⟨callB_of n hts (code_in hi.2.2.1) rfl rfl rfl (hts _ hi.2.1) (hts _ hw) hi.2.2.2 ⟨Nat.le_trans hR.1 hFr, Nat.le_trans hR.2 hLo⟩, hts _ hi.1⟩ ⟨SysAt.blind, fun U hU hW => ⟨rfl, by rw [hU]; exact hP, va_K.moved hW.alike hK, hI, by rw [hU]; exact (hEn.kept hS.2.1).warm hW⟩⟩ rfl hn hl.1 rfl (lv_room hcat) hd ⟨Nat.zero_le _, Nat.zero_le _⟩) hS (fun q _ h => h) (fun q h => h) (fun r1 u t H1 locs1 ht hvm hq hB _ _ hS1 => ?_)
  obtain ⟨rfl, rfl⟩ := hq
  have hB : va_P Z.1 cls (sw Y Z _) t.heap := hB
  rw [ht] at hB
  exact kk H1 locs1 ls hB hS1 hl
theorem x_callNi (C : CX X nL Y Z cc own ret F L) {r : Int32} (hM : CT Y Z y cc' maxL' ret' F' L' As g (QcI Y Z r g')) (hi : MS y cc' maxL' ret' n) {host : String} (hw : (own, index, y, host) ∈ nestM) (hR : F' + 1 ≤ F ∧ 8 + (maxL' + 11) + L' ≤ L) (hn : As.length = n) (hst : As.reverse ++ st = st0) (hcat : (st.map fun v => v.category).sum ≤ 8) (hd : decode cc pc = .ok (.invokestatic index, 3)) (kk : WX X nL Y Z Q g' (pc + 3) lv (.int r :: st)) : WX X nL Y Z Q g pc lv st0 := by
  subst hst
  obtain ⟨p, l, e, R, s, m, args, below, meth, c⟩ := X
  intro H locs ls hP hS hl
  obtain ⟨hx, hb, hml, hown, hts, -, -, hFr, hLo, hK, hI, hEn⟩ := C
  refine va_calli (va_runSN (As := As) (rest := st) ⟨hx, hb, hml, hown, hts⟩ (hM l) ⟨va_cnB n hts (code_in hi.2.2.1) rfl rfl rfl (hEn.2.2.2.2.2.2.2.1 _ hw) (hts _ hi.2.1) hi.2.2.2 ⟨Nat.le_trans hR.1 hFr, Nat.le_trans hR.2 hLo⟩, hts _ hi.1, trivial⟩ ⟨SysAt.blind, fun U hU hW => ⟨rfl, by rw [hU]; exact hP, va_K.moved hW.alike hK, hI, by rw [hU]; exact (hEn.kept hS.2.1).warm hW⟩⟩ rfl hn hl.1 rfl (lv_room hcat) hd ⟨Nat.zero_le _, Nat.zero_le _⟩) hS (fun q _ h => h) (fun q h => h) (fun r1 u t H1 locs1 ht hvm hq hB _ _ hS1 => ?_)
  obtain ⟨rfl, rfl⟩ := hq
  have hB : va_P Z.1 cls (sw Y Z _) t.heap := hB
  rw [ht] at hB
  exact kk H1 locs1 ls hB hS1 hl
theorem x_callVl (C : CX X nL Y Z cc own ret F L) {r : Int64} (hM : CT Y Z y cc' maxL' ret' F' L' (.ref (Z.2.1 k) :: As) g (QcL Y Z r g')) (hi : MI y cc' maxL' ret' n) (hw : Cond.methodLink own index y ∈ TT) (hk : k < Y.1) {ci : Nat} {fs : List Value} (hE : Y.2.1 Z k (sr Y g k) = .inr (ci, fs)) {T : u_T} {N : Nat} (hc : cls[ci]? = some (y.cls, T, N)) (hR : F' + 1 ≤ F ∧ 8 + (maxL' + 11) + L' ≤ L) (hn : As.length = n) (hst : As.reverse ++ .ref (Z.2.1 k) :: st = st0) (hcat : (st.map fun v => v.category).sum ≤ 8) (hd : decode cc pc = .ok (.invokevirtual index, 3)) (kk : WX X nL Y Z Q g' (pc + 3) lv (.long r :: st)) : WX X nL Y Z Q g pc lv st0 := by
  subst hst
  obtain ⟨p, l, e, R, s, m, args, below, meth, c⟩ := X
  intro H locs ls hP hS hl
  obtain ⟨hx, hb, hml, hown, hts, -, -, hFr, hLo, hK, hI, hEn⟩ := C
  refine va_calll (va_runV (As := As) (rest := st) ⟨hx, hb, hml, hown, hts⟩ (hM l) ⟨callB_of n hts (code_in hi.2.2.2.1) rfl rfl rfl (hts _ hi.2.2.1) (hts _ hw) hi.2.2.2.2 ⟨Nat.le_trans hR.1 hFr, Nat.le_trans hR.2 hLo⟩, hts _ hi.1, hts _ hi.2.1⟩ ⟨SysAt.blind, va_recv hK hP hc (by rw [sw_at hk, hE]), fun U hU hW => ⟨rfl, by rw [hU]; exact hP, va_K.moved hW.alike hK, hI, by rw [hU]; exact (hEn.kept hS.2.1).warm hW⟩⟩ rfl hn hl.1 rfl (lv_room hcat) hd ⟨Nat.zero_le _, Nat.zero_le _⟩) hS (fun q _ h => h) (fun q h => h) (fun r1 u t H1 locs1 ht hvm hq hB _ _ hS1 => ?_)
  obtain ⟨rfl, rfl⟩ := hq
  have hB : va_P Z.1 cls (sw Y Z _) t.heap := hB
  rw [ht] at hB
  exact kk H1 locs1 ls hB hS1 hl
theorem x_callSl (C : CX X nL Y Z cc own ret F L) {r : Int64} (hM : CT Y Z y cc' maxL' ret' F' L' As g (QcL Y Z r g')) (hi : MS y cc' maxL' ret' n) (hw : Cond.methodLink own index y ∈ TT) (hR : F' + 1 ≤ F ∧ 8 + (maxL' + 11) + L' ≤ L) (hn : As.length = n) (hst : As.reverse ++ st = st0) (hcat : (st.map fun v => v.category).sum ≤ 8) (hd : decode cc pc = .ok (.invokestatic index, 3)) (kk : WX X nL Y Z Q g' (pc + 3) lv (.long r :: st)) : WX X nL Y Z Q g pc lv st0 := by
  subst hst
  obtain ⟨p, l, e, R, s, m, args, below, meth, c⟩ := X
  intro H locs ls hP hS hl
  obtain ⟨hx, hb, hml, hown, hts, -, -, hFr, hLo, hK, hI, hEn⟩ := C
  refine va_calll (va_runS (As := As) (rest := st) ⟨hx, hb, hml, hown, hts⟩ (hM l) ⟨callB_of n hts (code_in hi.2.2.1) rfl rfl rfl (hts _ hi.2.1) (hts _ hw) hi.2.2.2 ⟨Nat.le_trans hR.1 hFr, Nat.le_trans hR.2 hLo⟩, hts _ hi.1⟩ ⟨SysAt.blind, fun U hU hW => ⟨rfl, by rw [hU]; exact hP, va_K.moved hW.alike hK, hI, by rw [hU]; exact (hEn.kept hS.2.1).warm hW⟩⟩ rfl hn hl.1 rfl (lv_room hcat) hd ⟨Nat.zero_le _, Nat.zero_le _⟩) hS (fun q _ h => h) (fun q h => h) (fun r1 u t H1 locs1 ht hvm hq hB _ _ hS1 => ?_)
  obtain ⟨rfl, rfl⟩ := hq
  have hB : va_P Z.1 cls (sw Y Z _) t.heap := hB
  rw [ht] at hB
  exact kk H1 locs1 ls hB hS1 hl
theorem x_callNl (C : CX X nL Y Z cc own ret F L) {r : Int64} (hM : CT Y Z y cc' maxL' ret' F' L' As g (QcL Y Z r g')) (hi : MS y cc' maxL' ret' n) {host : String} (hw : (own, index, y, host) ∈ nestM) (hR : F' + 1 ≤ F ∧ 8 + (maxL' + 11) + L' ≤ L) (hn : As.length = n) (hst : As.reverse ++ st = st0) (hcat : (st.map fun v => v.category).sum ≤ 8) (hd : decode cc pc = .ok (.invokestatic index, 3)) (kk : WX X nL Y Z Q g' (pc + 3) lv (.long r :: st)) : WX X nL Y Z Q g pc lv st0 := by
  subst hst
  obtain ⟨p, l, e, R, s, m, args, below, meth, c⟩ := X
  intro H locs ls hP hS hl
  obtain ⟨hx, hb, hml, hown, hts, -, -, hFr, hLo, hK, hI, hEn⟩ := C
  refine va_calll (va_runSN (As := As) (rest := st) ⟨hx, hb, hml, hown, hts⟩ (hM l) ⟨va_cnB n hts (code_in hi.2.2.1) rfl rfl rfl (hEn.2.2.2.2.2.2.2.1 _ hw) (hts _ hi.2.1) hi.2.2.2 ⟨Nat.le_trans hR.1 hFr, Nat.le_trans hR.2 hLo⟩, hts _ hi.1, trivial⟩ ⟨SysAt.blind, fun U hU hW => ⟨rfl, by rw [hU]; exact hP, va_K.moved hW.alike hK, hI, by rw [hU]; exact (hEn.kept hS.2.1).warm hW⟩⟩ rfl hn hl.1 rfl (lv_room hcat) hd ⟨Nat.zero_le _, Nat.zero_le _⟩) hS (fun q _ h => h) (fun q h => h) (fun r1 u t H1 locs1 ht hvm hq hB _ _ hS1 => ?_)
  obtain ⟨rfl, rfl⟩ := hq
  have hB : va_P Z.1 cls (sw Y Z _) t.heap := hB
  rw [ht] at hB
  exact kk H1 locs1 ls hB hS1 hl
theorem x_callVv (C : CX X nL Y Z cc own ret F L) (hM : CT Y Z y cc' maxL' ret' F' L' (.ref (Z.2.1 k) :: As) g (QcV Y Z g')) (hi : MI y cc' maxL' ret' n) (hw : Cond.methodLink own index y ∈ TT) (hk : k < Y.1) {ci : Nat} {fs : List Value} (hE : Y.2.1 Z k (sr Y g k) = .inr (ci, fs)) {T : u_T} {N : Nat} (hc : cls[ci]? = some (y.cls, T, N)) (hR : F' + 1 ≤ F ∧ 8 + (maxL' + 11) + L' ≤ L) (hn : As.length = n) (hst : As.reverse ++ .ref (Z.2.1 k) :: st = st0) (hcat : (st.map fun v => v.category).sum ≤ 8) (hd : decode cc pc = .ok (.invokevirtual index, 3)) (kk : WX X nL Y Z Q g' (pc + 3) lv (st)) : WX X nL Y Z Q g pc lv st0 := by
  subst hst
  obtain ⟨p, l, e, R, s, m, args, below, meth, c⟩ := X
  intro H locs ls hP hS hl
  obtain ⟨hx, hb, hml, hown, hts, -, -, hFr, hLo, hK, hI, hEn⟩ := C
  refine va_callv (va_runV (As := As) (rest := st) ⟨hx, hb, hml, hown, hts⟩ (hM l) ⟨callB_of n hts (code_in hi.2.2.2.1) rfl rfl rfl (hts _ hi.2.2.1) (hts _ hw) hi.2.2.2.2 ⟨Nat.le_trans hR.1 hFr, Nat.le_trans hR.2 hLo⟩, hts _ hi.1, hts _ hi.2.1⟩ ⟨SysAt.blind, va_recv hK hP hc (by rw [sw_at hk, hE]), fun U hU hW => ⟨rfl, by rw [hU]; exact hP, va_K.moved hW.alike hK, hI, by rw [hU]; exact (hEn.kept hS.2.1).warm hW⟩⟩ rfl hn hl.1 rfl (lv_room hcat) hd ⟨Nat.zero_le _, Nat.zero_le _⟩) hS (fun q _ h => h) (fun q h => h) (fun u t H1 locs1 ht hvm hq hB _ _ hS1 => ?_)
  subst hq
  have hB : va_P Z.1 cls (sw Y Z _) t.heap := hB
  rw [ht] at hB
  exact kk H1 locs1 ls hB hS1 hl
theorem x_callSv (C : CX X nL Y Z cc own ret F L) (hM : CT Y Z y cc' maxL' ret' F' L' As g (QcV Y Z g')) (hi : MS y cc' maxL' ret' n) (hw : Cond.methodLink own index y ∈ TT) (hR : F' + 1 ≤ F ∧ 8 + (maxL' + 11) + L' ≤ L) (hn : As.length = n) (hst : As.reverse ++ st = st0) (hcat : (st.map fun v => v.category).sum ≤ 8) (hd : decode cc pc = .ok (.invokestatic index, 3)) (kk : WX X nL Y Z Q g' (pc + 3) lv (st)) : WX X nL Y Z Q g pc lv st0 := by
  subst hst
  obtain ⟨p, l, e, R, s, m, args, below, meth, c⟩ := X
  intro H locs ls hP hS hl
  obtain ⟨hx, hb, hml, hown, hts, -, -, hFr, hLo, hK, hI, hEn⟩ := C
  refine va_callv (va_runS (As := As) (rest := st) ⟨hx, hb, hml, hown, hts⟩ (hM l) ⟨callB_of n hts (code_in hi.2.2.1) rfl rfl rfl (hts _ hi.2.1) (hts _ hw) hi.2.2.2 ⟨Nat.le_trans hR.1 hFr, Nat.le_trans hR.2 hLo⟩, hts _ hi.1⟩ ⟨SysAt.blind, fun U hU hW => ⟨rfl, by rw [hU]; exact hP, va_K.moved hW.alike hK, hI, by rw [hU]; exact (hEn.kept hS.2.1).warm hW⟩⟩ rfl hn hl.1 rfl (lv_room hcat) hd ⟨Nat.zero_le _, Nat.zero_le _⟩) hS (fun q _ h => h) (fun q h => h) (fun u t H1 locs1 ht hvm hq hB _ _ hS1 => ?_)
  subst hq
  have hB : va_P Z.1 cls (sw Y Z _) t.heap := hB
  rw [ht] at hB
  exact kk H1 locs1 ls hB hS1 hl
theorem x_callNv (C : CX X nL Y Z cc own ret F L) (hM : CT Y Z y cc' maxL' ret' F' L' As g (QcV Y Z g')) (hi : MS y cc' maxL' ret' n) {host : String} (hw : (own, index, y, host) ∈ nestM) (hR : F' + 1 ≤ F ∧ 8 + (maxL' + 11) + L' ≤ L) (hn : As.length = n) (hst : As.reverse ++ st = st0) (hcat : (st.map fun v => v.category).sum ≤ 8) (hd : decode cc pc = .ok (.invokestatic index, 3)) (kk : WX X nL Y Z Q g' (pc + 3) lv (st)) : WX X nL Y Z Q g pc lv st0 := by
  subst hst
  obtain ⟨p, l, e, R, s, m, args, below, meth, c⟩ := X
  intro H locs ls hP hS hl
  obtain ⟨hx, hb, hml, hown, hts, -, -, hFr, hLo, hK, hI, hEn⟩ := C
  refine va_callv (va_runSN (As := As) (rest := st) ⟨hx, hb, hml, hown, hts⟩ (hM l) ⟨va_cnB n hts (code_in hi.2.2.1) rfl rfl rfl (hEn.2.2.2.2.2.2.2.1 _ hw) (hts _ hi.2.1) hi.2.2.2 ⟨Nat.le_trans hR.1 hFr, Nat.le_trans hR.2 hLo⟩, hts _ hi.1, trivial⟩ ⟨SysAt.blind, fun U hU hW => ⟨rfl, by rw [hU]; exact hP, va_K.moved hW.alike hK, hI, by rw [hU]; exact (hEn.kept hS.2.1).warm hW⟩⟩ rfl hn hl.1 rfl (lv_room hcat) hd ⟨Nat.zero_le _, Nat.zero_le _⟩) hS (fun q _ h => h) (fun q h => h) (fun u t H1 locs1 ht hvm hq hB _ _ hS1 => ?_)
  subst hq
  have hB : va_P Z.1 cls (sw Y Z _) t.heap := hB
  rw [ht] at hB
  exact kk H1 locs1 ls hB hS1 hl
theorem x_callVr (C : CX X nL Y Z cc own ret F L) {r : Nat} (hM : CT Y Z y cc' maxL' ret' F' L' (.ref (Z.2.1 k) :: As) g (QcR Y Z r g')) (hi : MI y cc' maxL' ret' n) (hw : Cond.methodLink own index y ∈ TT) (hk : k < Y.1) {ci : Nat} {fs : List Value} (hE : Y.2.1 Z k (sr Y g k) = .inr (ci, fs)) {T : u_T} {N : Nat} (hc : cls[ci]? = some (y.cls, T, N)) (hR : F' + 1 ≤ F ∧ 8 + (maxL' + 11) + L' ≤ L) (hn : As.length = n) (hst : As.reverse ++ .ref (Z.2.1 k) :: st = st0) (hcat : (st.map fun v => v.category).sum ≤ 8) (hd : decode cc pc = .ok (.invokevirtual index, 3)) (kk : WX X nL Y Z Q g' (pc + 3) lv (.ref r :: st)) : WX X nL Y Z Q g pc lv st0 := by
  subst hst
  obtain ⟨p, l, e, R, s, m, args, below, meth, c⟩ := X
  intro H locs ls hP hS hl
  obtain ⟨hx, hb, hml, hown, hts, -, -, hFr, hLo, hK, hI, hEn⟩ := C
  refine va_callr (va_runV (As := As) (rest := st) ⟨hx, hb, hml, hown, hts⟩ (hM l) ⟨callB_of n hts (code_in hi.2.2.2.1) rfl rfl rfl (hts _ hi.2.2.1) (hts _ hw) hi.2.2.2.2 ⟨Nat.le_trans hR.1 hFr, Nat.le_trans hR.2 hLo⟩, hts _ hi.1, hts _ hi.2.1⟩ ⟨SysAt.blind, va_recv hK hP hc (by rw [sw_at hk, hE]), fun U hU hW => ⟨rfl, by rw [hU]; exact hP, va_K.moved hW.alike hK, hI, by rw [hU]; exact (hEn.kept hS.2.1).warm hW⟩⟩ rfl hn hl.1 rfl (lv_room hcat) hd ⟨Nat.zero_le _, Nat.zero_le _⟩) hS (fun q _ h => h) (fun q h => h) (fun u a1 t H1 locs1 ht hvm hq hB _ _ hS1 => ?_)
  obtain rfl := hq; obtain ⟨rfl, hB⟩ := hB
  have hB : va_P Z.1 cls (sw Y Z _) t.heap := hB
  rw [ht] at hB
  exact kk H1 locs1 ls hB hS1 hl
theorem x_callSr (C : CX X nL Y Z cc own ret F L) {r : Nat} (hM : CT Y Z y cc' maxL' ret' F' L' As g (QcR Y Z r g')) (hi : MS y cc' maxL' ret' n) (hw : Cond.methodLink own index y ∈ TT) (hR : F' + 1 ≤ F ∧ 8 + (maxL' + 11) + L' ≤ L) (hn : As.length = n) (hst : As.reverse ++ st = st0) (hcat : (st.map fun v => v.category).sum ≤ 8) (hd : decode cc pc = .ok (.invokestatic index, 3)) (kk : WX X nL Y Z Q g' (pc + 3) lv (.ref r :: st)) : WX X nL Y Z Q g pc lv st0 := by
  subst hst
  obtain ⟨p, l, e, R, s, m, args, below, meth, c⟩ := X
  intro H locs ls hP hS hl
  obtain ⟨hx, hb, hml, hown, hts, -, -, hFr, hLo, hK, hI, hEn⟩ := C
  refine va_callr (va_runS (As := As) (rest := st) ⟨hx, hb, hml, hown, hts⟩ (hM l) ⟨callB_of n hts (code_in hi.2.2.1) rfl rfl rfl (hts _ hi.2.1) (hts _ hw) hi.2.2.2 ⟨Nat.le_trans hR.1 hFr, Nat.le_trans hR.2 hLo⟩, hts _ hi.1⟩ ⟨SysAt.blind, fun U hU hW => ⟨rfl, by rw [hU]; exact hP, va_K.moved hW.alike hK, hI, by rw [hU]; exact (hEn.kept hS.2.1).warm hW⟩⟩ rfl hn hl.1 rfl (lv_room hcat) hd ⟨Nat.zero_le _, Nat.zero_le _⟩) hS (fun q _ h => h) (fun q h => h) (fun u a1 t H1 locs1 ht hvm hq hB _ _ hS1 => ?_)
  obtain rfl := hq; obtain ⟨rfl, hB⟩ := hB
  have hB : va_P Z.1 cls (sw Y Z _) t.heap := hB
  rw [ht] at hB
  exact kk H1 locs1 ls hB hS1 hl
theorem x_callNr (C : CX X nL Y Z cc own ret F L) {r : Nat} (hM : CT Y Z y cc' maxL' ret' F' L' As g (QcR Y Z r g')) (hi : MS y cc' maxL' ret' n) {host : String} (hw : (own, index, y, host) ∈ nestM) (hR : F' + 1 ≤ F ∧ 8 + (maxL' + 11) + L' ≤ L) (hn : As.length = n) (hst : As.reverse ++ st = st0) (hcat : (st.map fun v => v.category).sum ≤ 8) (hd : decode cc pc = .ok (.invokestatic index, 3)) (kk : WX X nL Y Z Q g' (pc + 3) lv (.ref r :: st)) : WX X nL Y Z Q g pc lv st0 := by
  subst hst
  obtain ⟨p, l, e, R, s, m, args, below, meth, c⟩ := X
  intro H locs ls hP hS hl
  obtain ⟨hx, hb, hml, hown, hts, -, -, hFr, hLo, hK, hI, hEn⟩ := C
  refine va_callr (va_runSN (As := As) (rest := st) ⟨hx, hb, hml, hown, hts⟩ (hM l) ⟨va_cnB n hts (code_in hi.2.2.1) rfl rfl rfl (hEn.2.2.2.2.2.2.2.1 _ hw) (hts _ hi.2.1) hi.2.2.2 ⟨Nat.le_trans hR.1 hFr, Nat.le_trans hR.2 hLo⟩, hts _ hi.1, trivial⟩ ⟨SysAt.blind, fun U hU hW => ⟨rfl, by rw [hU]; exact hP, va_K.moved hW.alike hK, hI, by rw [hU]; exact (hEn.kept hS.2.1).warm hW⟩⟩ rfl hn hl.1 rfl (lv_room hcat) hd ⟨Nat.zero_le _, Nat.zero_le _⟩) hS (fun q _ h => h) (fun q h => h) (fun u a1 t H1 locs1 ht hvm hq hB _ _ hS1 => ?_)
  obtain rfl := hq; obtain ⟨rfl, hB⟩ := hB
  have hB : va_P Z.1 cls (sw Y Z _) t.heap := hB
  rw [ht] at hB
  exact kk H1 locs1 ls hB hS1 hl
end Calls
