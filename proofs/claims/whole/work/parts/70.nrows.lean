/-! constructors: the machine at a place, over a list of cells that grows -/
theorem ka_int : Cond.arrayClass .int ∈ TT := tt_i 65 (by decide +kernel) (by decide +kernel)
theorem ka_byte : Cond.arrayClass .byte ∈ TT := tt_i 142 (by decide +kernel) (by decide +kernel)
theorem k_obj : Cond.code objectInit ⟨#[0xb1]⟩ 1 none ∈ TT := tt_i 22 (by decide +kernel) (by decide +kernel)
def AO3 (U : State) : Prop := va_AO "TunnelPeace$Person" U ∧ va_AO "TunnelPeace$Sheet" U ∧ va_AO "java/lang/String" U
theorem AO3.moved {u U : State} (hvm : u.vm.Alike U.vm) (h : AO3 u) : AO3 U := ⟨h.1.moved hvm, h.2.1.moved hvm, h.2.2.moved hvm⟩
def CN (X : XT) (nL : Nat) (Z : ZT) (A : Nat → Prop) (cc : ByteArray) (own : String) (F L NC NS : Nat) : Prop :=
  match X with
  | (p, l, e, R, s, m, args, below, meth, c) => p.tables.exec = Jvm.exec ∧ c.code = cc ∧ c.maxLocals = nL ∧ s.vm.findClass own = some m.cls ∧ (∀ w ∈ TT, w.before args s = true) ∧ meth.locks = false ∧ F ≤ R.frames ∧ L ≤ R.locals ∧ NC ≤ R.cells ∧ NS ≤ R.slots ∧ va_K Z.1 cls (tys Z) s ∧ (∀ q, s.heap.size ≤ q → A q) ∧ EnvF A Z s s.heap ∧ AO3 s
def NI (X : XT) : Prop :=
  match X with
  | (_, _, _, _, _, _, _, _, meth, _) => meth.sig.returnType = none ∧ meth.name = "<init>"
def WN (X : XT) (nL : Nat) (Z : ZT) (A : Nat → Prop) (Q : State → Prop) (ws : va_W) (kc ks pc : Nat) (lv : List (Nat × Value)) (st : List Value) : Prop :=
  match X with
  | (p, l, e, R, s, m, args, below, meth, c) => ∀ (H : Heap) (locs : List Loc) (ls : Array Slot), va_P Z.1 cls ws H → va_D A ws → va_S A s.heap H locs → lv_has ls nL lv → W p l e R s m args below meth c H locs kc ks Q (F0 m pc ls st)
/-- a constructor's contract: from the cells ws0 (itself and what it is given) to post u -/
def CTi (Z : ZT) (y : MethodName) (cc : ByteArray) (maxL F L mc ms : Nat) (av : List Value) (ws0 : va_W) (post : (Nat → Nat) → va_W) : Prop :=
  ∀ (l : Launch) (sz : Nat), Met l y (Cond.code y cc maxL none :: TT) { frames := F, cells := mc, slots := ms, locals := L } (va_Pc av (fun U => U.heap.size = sz ∧ va_P Z.1 cls ws0 U.heap ∧ va_K Z.1 cls (tys Z) U ∧ va_D (fun _ => True) ws0 ∧ EnvF (va_A ws0 sz) Z U U.heap ∧ AO3 U)) (va_Qv (fun _ : Nat → Nat => True) (fun u t => va_P Z.1 cls (post u) t.heap ∧ va_D (va_A ws0 sz) (post u)) (va_A ws0 sz)) mc ms (va_A ws0 sz)
def QN (X : XT) (Z : ZT) (A : Nat → Prop) (mc ms : Nat) (post : (Nat → Nat) → va_W) : State → Prop :=
  match X with
  | (_, _, _, _, s, _, args, below, _, _) => MQ below (va_Qv (fun _ : Nat → Nat => True) (fun u t => va_P Z.1 cls (post u) t.heap ∧ va_D A (post u)) A) args s mc ms A
theorem CTi.mk {Z : ZT} {y : MethodName} {cc : ByteArray} {maxL F L mc ms : Nat} {av : List Value} {ws0 : va_W} {post : (Nat → Nat) → va_W} (own : String) (hy : plainName y.cls = true) (ho : y.cls = own) (hnm : y.name = "<init>") (hn : (lg_sl av).length ≤ maxL)
    (body : ∀ (X : XT) (A : Nat → Prop), CN X maxL Z A cc own F L mc ms → NI X → WN X maxL Z A (QN X Z A mc ms post) ws0 0 0 0 (lv_args 0 av) []) : CTi Z y cc maxL F L mc ms av ws0 post := by
  intro l sz
  refine Met.ofW (cc := cc) (maxL := maxL) (ret := none) hy rfl ?_
  intro p e s m args below meth c s₁ B hml hv
  obtain ⟨rfl, hsz, hP, hK, hD0, hE, hO⟩ := hv
  have hts := atoms_spec (ws := Cond.code y cc maxL none :: TT) B.pre
  have hown : s.vm.findClass own = some m.cls := by rw [← ho]; exact findClass_of_methodNamed B.named
  have hin : meth.name = "<init>" := (name_of_methodNamed B.named B.method).1.trans hnm
  subst hsz
  have hD := hD0.self (sz := s.heap.size)
  rw [lg_entry_eq]
  exact body (p, l, e, _, s, m, av.toArray, below, meth, c) (va_A ws0 s.heap.size) ⟨B.exec, B.bytes, hml, hown, fun w hw => hts w (List.mem_cons_of_mem _ hw), B.notSynchronized, Nat.le_refl _, Nat.le_refl _, Nat.le_refl _, Nat.le_refl _, hK, fun q h => Or.inr h, hE, hO⟩ ⟨B.returns, hin⟩ s.heap [] _ hP hD va_S.rf (lv_entry av hn)
section NRows
variable {X : XT} {Z : ZT} {A : Nat → Prop} {Q : State → Prop} {ws ws' : va_W} {kc ks pc : Nat} {lv lv' : List (Nat × Value)} {st : List Value} {cc : ByteArray} {own : String} {F L NC NS nL index : Nat}
theorem n_iconst (C : CN X nL Z A cc own F L NC NS) {n : Int} {v : Int32} (hd : decode cc pc = .ok (.iconst n, 1)) (hv : Int32.ofInt n = v) (k : WN X nL Z A Q ws kc ks (pc + 1) lv (.int v :: st)) : WN X nL Z A Q ws kc ks pc lv (st) := by
  obtain ⟨p, l, e, R, s, m, args, below, meth, c⟩ := X
  exact fun H locs ls hP hD hS hl => lv_iconst C.1 C.2.1 hd hv (k H locs ls hP hD hS hl)
theorem n_bipush (C : CN X nL Z A cc own F L NC NS) {n : Int} {v : Int32} (hd : decode cc pc = .ok (.bipush n, 2)) (hv : (Int8.ofInt n).toInt32 = v) (k : WN X nL Z A Q ws kc ks (pc + 2) lv (.int v :: st)) : WN X nL Z A Q ws kc ks pc lv (st) := by
  obtain ⟨p, l, e, R, s, m, args, below, meth, c⟩ := X
  exact fun H locs ls hP hD hS hl => lv_bipush C.1 C.2.1 hd hv (k H locs ls hP hD hS hl)
theorem n_sipush (C : CN X nL Z A cc own F L NC NS) {n : Int} {v : Int32} (hd : decode cc pc = .ok (.sipush n, 3)) (hv : (Int16.ofInt n).toInt32 = v) (k : WN X nL Z A Q ws kc ks (pc + 3) lv (.int v :: st)) : WN X nL Z A Q ws kc ks pc lv (st) := by
  obtain ⟨p, l, e, R, s, m, args, below, meth, c⟩ := X
  exact fun H locs ls hP hD hS hl => lv_sipush C.1 C.2.1 hd hv (k H locs ls hP hD hS hl)
theorem n_iload_n (C : CN X nL Z A cc own F L NC NS) {k0 : Fin 4} {i : Nat} {x : Int32} (hd : decode cc pc = .ok (.iload_n k0, 1)) (j : Nat)    (hi : (k0 : Nat) = i) (hj : lv[j]? = some (i, .int x)) (k : WN X nL Z A Q ws kc ks (pc + 1) lv (.int x :: st)) : WN X nL Z A Q ws kc ks pc lv (st) := by
  obtain ⟨p, l, e, R, s, m, args, below, meth, c⟩ := X
  exact fun H locs ls hP hD hS hl => lv_iload_n C.1 C.2.1 hd hi (lv_at hl j hj) (k H locs ls hP hD hS hl)
theorem n_istore_n (C : CN X nL Z A cc own F L NC NS) {i : Nat} {x : Int32} {k0 : Fin 4} (hd : decode cc pc = .ok (.istore_n k0, 1)) (hi : (k0 : Nat) = i) (hn : i < nL) (hl : (i, Value.int x) :: lv.filter (fun q => !(q.1 == i) && !(q.1 + 1 == i && q.2.category == 2)) = lv') (k : WN X nL Z A Q ws kc ks (pc + 1) lv' st) : WN X nL Z A Q ws kc ks pc lv (.int x :: st) := by
  obtain ⟨p, l, e, R, s, m, args, below, meth, c⟩ := X
  exact fun H locs ls hP hD hS h => lv_istore_n C.1 C.2.1 hd hi h hn hl (fun ls' h' => k H locs ls' hP hD hS h')
theorem n_aload_n (C : CN X nL Z A cc own F L NC NS) {k0 : Fin 4} {i : Nat} {x : Nat} (hd : decode cc pc = .ok (.aload_n k0, 1)) (j : Nat)    (hi : (k0 : Nat) = i) (hj : lv[j]? = some (i, .ref x)) (k : WN X nL Z A Q ws kc ks (pc + 1) lv (.ref x :: st)) : WN X nL Z A Q ws kc ks pc lv (st) := by
  obtain ⟨p, l, e, R, s, m, args, below, meth, c⟩ := X
  exact fun H locs ls hP hD hS hl => lv_aload_n C.1 C.2.1 hd hi (lv_at hl j hj) (k H locs ls hP hD hS hl)
theorem n_astore_n (C : CN X nL Z A cc own F L NC NS) {i : Nat} {x : Nat} {k0 : Fin 4} (hd : decode cc pc = .ok (.astore_n k0, 1)) (hi : (k0 : Nat) = i) (hn : i < nL) (hl : (i, Value.ref x) :: lv.filter (fun q => !(q.1 == i) && !(q.1 + 1 == i && q.2.category == 2)) = lv') (k : WN X nL Z A Q ws kc ks (pc + 1) lv' st) : WN X nL Z A Q ws kc ks pc lv (.ref x :: st) := by
  obtain ⟨p, l, e, R, s, m, args, below, meth, c⟩ := X
  exact fun H locs ls hP hD hS h => lv_astore_n C.1 C.2.1 hd hi h hn hl (fun ls' h' => k H locs ls' hP hD hS h')
theorem n_iinc (C : CN X nL Z A cc own F L NC NS) {i : Nat} {n : Int} {x v : Int32} (hd : decode cc pc = .ok (.iinc i n, 3)) (j : Nat) (hj : lv[j]? = some (i, .int x)) (hv : x + Int32.ofInt n = v) (hn : i < nL) (hl : (i, Value.int v) :: lv.filter (fun q => !(q.1 == i) && !(q.1 + 1 == i && q.2.category == 2)) = lv') (k : WN X nL Z A Q ws kc ks (pc + 3) lv' st) : WN X nL Z A Q ws kc ks pc lv st := by
  obtain ⟨p, l, e, R, s, m, args, below, meth, c⟩ := X
  exact fun H locs ls hP hD hS h => lv_iinc C.1 C.2.1 hd h hj hv hn hl (fun ls' h' => k H locs ls' hP hD hS h')
theorem n_iadd (C : CN X nL Z A cc own F L NC NS) {x y : Int32} (hd : decode cc pc = .ok (.iadd, 1))  (k : WN X nL Z A Q ws kc ks (pc + 1) lv (.int (x + y) :: st)) : WN X nL Z A Q ws kc ks pc lv (.int y :: .int x :: st) := by
  obtain ⟨p, l, e, R, s, m, args, below, meth, c⟩ := X
  exact fun H locs ls hP hD hS hl => lv_iadd C.1 C.2.1 hd (k H locs ls hP hD hS hl)
theorem n_dup (C : CN X nL Z A cc own F L NC NS) {v : Value} (hd : decode cc pc = .ok (.dup, 1)) (hv : v.category = 1) (k : WN X nL Z A Q ws kc ks (pc + 1) lv (v :: v :: st)) : WN X nL Z A Q ws kc ks pc lv (v :: st) := by
  obtain ⟨p, l, e, R, s, m, args, below, meth, c⟩ := X
  exact fun H locs ls hP hD hS hl => lv_dup C.1 C.2.1 hd hv (k H locs ls hP hD hS hl)
theorem n_goto (C : CN X nL Z A cc own F L NC NS) {off : Int} (hd : decode cc pc = .ok (.goto off, 3)) (tgt : Nat) (ht : (pc : Int) + off = (tgt : Int)) (k : WN X nL Z A Q ws kc ks tgt lv st) : WN X nL Z A Q ws kc ks pc lv st := by
  obtain ⟨p, l, e, R, s, m, args, below, meth, c⟩ := X
  exact fun H locs ls hP hD hS hl => lv_goto C.1 C.2.1 hd ht (k H locs ls hP hD hS hl)
theorem n_icmp_ge (C : CN X nL Z A cc own F L NC NS) {off : Int} {x y : Int32} (hd : decode cc pc = .ok (.if_icmp .ge off, 3)) (tgt : Nat) (ht : (pc : Int) + off = (tgt : Int)) (kt : y ≤ x → WN X nL Z A Q ws kc ks tgt lv st) (kf : ¬ y ≤ x → WN X nL Z A Q ws kc ks (pc + 3) lv st) : WN X nL Z A Q ws kc ks pc lv (.int y :: .int x :: st) := by
  obtain ⟨p, l, e, R, s, m, args, below, meth, c⟩ := X
  exact fun H locs ls hP hD hS hl => lv_icmp_ge C.1 C.2.1 hd ht (fun h => kt h H locs ls hP hD hS hl) (fun h => kf h H locs ls hP hD hS hl)
theorem n_lv (ks_ : List Nat) (h : lv_pick lv ks_ = lv') (k : WN X nL Z A Q ws kc ks pc lv' st) : WN X nL Z A Q ws kc ks pc lv st := by
  obtain ⟨p, l, e, R, s, m, args, below, meth, c⟩ := X
  exact fun H locs ls hP hD hS hl => k H locs ls hP hD hS (lv_sub hl ks_ h)
theorem n_topi {x x' : Int32} (h : x = x') (k : WN X nL Z A Q ws kc ks pc lv (.int x' :: st)) : WN X nL Z A Q ws kc ks pc lv (.int x :: st) := h ▸ k
theorem n_ws (h : ws = ws') (k : WN X nL Z A Q ws' kc ks pc lv st) : WN X nL Z A Q ws kc ks pc lv st := h ▸ k
theorem n_perm (is : List Nat) (hn : va_nd is = true) (hs : is.map (fun i => ws[i]?) = ws'.map some) (k : WN X nL Z A Q ws' kc ks pc lv st) : WN X nL Z A Q ws kc ks pc lv st := by
  obtain ⟨p, l, e, R, s, m, args, below, meth, c⟩ := X
  refine fun H locs ls hP hD hS hl => k H locs ls (hP.sub is ?_) (hD.sub is hn hs) hS hl
  have h1 := congrArg (fun z => z.filterMap id) hs
  simpa [List.filterMap_map] using h1
theorem n_new (C : CN X nL Z A cc own F L NC NS) (ci : Nat) {Cn : String} {T : u_T} {N : Nat} {fs : List Value} (hin : ∀ w ∈ u_ws Cn T N, w ∈ TT) (ty : Nat → FieldType) (hty : ∀ k, k < N → parseFieldDescriptor (T k).2.2.1 = some (ty k)) (hcl : Cond.classLink own index Cn ∈ TT) (hinst : Cond.instantiable Cn N ∈ TT) (hini : Cond.initialized Cn ∈ TT) (hc : cls[ci]? = some (Cn, T, N)) (hfs : ∀ j, j < N → defaultValue (ty j) = vp_V fs j) (h1 : kc + 1 ≤ NC) (h2 : ks + N ≤ NS) (hd : decode cc pc = .ok (.new index, 3)) (kk : ∀ q, WN X nL Z A Q (ws ++ [(q, .inr (ci, fs))]) (kc + 1) (ks + N) (pc + 3) lv (.ref q :: st)) : WN X nL Z A Q ws kc ks pc lv st := by
  obtain ⟨p, l, e, R, s, m, args, below, meth, c⟩ := X
  intro H locs ls hP hD hS hl
  obtain ⟨hx, hb, hml, hown, hts, -, -, -, hNC, hNS, hK, hA, -, -⟩ := C
  exact va_new (ci := ci) (fs := fs) hx hb hts hin ty hty hown (hts _ hcl) (hts _ hinst) (hts _ hini) hK hP hD hS hA hc hfs (Nat.le_trans h1 hNC) (Nat.le_trans h2 hNS) hd (fun q H1 hP hD hS => kk q H1 locs ls hP hD hS hl)
theorem n_newI (C : CN X nL Z A cc own F L NC NS) {n : Int32} (N : Nat) (hn : ¬ n < 0) (hN : n.toNatClampNeg = N) (hby : N * componentBytes .int ≤ 536870912) (h1 : kc + 1 ≤ NC) (h2 : ks + N ≤ NS) (hd : decode cc pc = .ok (.newarray .int, 2)) (kk : ∀ q, WN X nL Z A Q (ws ++ [(q, .inl (Z.2.2.1 0, N, .inl (fun _ => 0)))]) (kc + 1) (ks + N) (pc + 2) lv (.ref q :: st)) : WN X nL Z A Q ws kc ks pc lv (.int n :: st) := by
  obtain ⟨p, l, e, R, s, m, args, below, meth, c⟩ := X
  intro H locs ls hP hD hS hl
  obtain ⟨hx, hb, hml, hown, hts, -, -, -, hNC, hNS, hK, hA, -, -⟩ := C
  refine va_newa (atype := .int) (ty := .int) (a0 := (N, .inl (fun _ => 0))) hx hb (hts _ ka_int) rfl hK hP hD hS hA (fun _ => rfl) hn hN hby (Nat.le_trans h1 hNC) (Nat.le_trans h2 hNS) hd (fun q cA H1 hK1 hP hD hS => ?_)
  have e1 : s.vm.findClass ("[" ++ FieldType.int.toString) = some cA := (hK1.2 5 (cA, .int) rfl).2
  have e2 : s.vm.findClass ("[" ++ FieldType.int.toString) = some (Z.2.2.1 0) := (hK.2 0 (Z.2.2.1 0, .int) rfl).2
  have e3 : cA = Z.2.2.1 0 := Option.some.inj (e1.symm.trans e2)
  subst e3
  exact kk q H1 locs ls hP hD hS hl
theorem n_newB (C : CN X nL Z A cc own F L NC NS) {n : Int32} (N : Nat) (hn : ¬ n < 0) (hN : n.toNatClampNeg = N) (hby : N * componentBytes .byte ≤ 536870912) (h1 : kc + 1 ≤ NC) (h2 : ks + N ≤ NS) (hd : decode cc pc = .ok (.newarray .byte, 2)) (kk : ∀ q, WN X nL Z A Q (ws ++ [(q, .inl (Z.2.2.1 1, N, .inl (fun _ => 0)))]) (kc + 1) (ks + N) (pc + 2) lv (.ref q :: st)) : WN X nL Z A Q ws kc ks pc lv (.int n :: st) := by
  obtain ⟨p, l, e, R, s, m, args, below, meth, c⟩ := X
  intro H locs ls hP hD hS hl
  obtain ⟨hx, hb, hml, hown, hts, -, -, -, hNC, hNS, hK, hA, -, -⟩ := C
  refine va_newa (atype := .byte) (ty := .byte) (a0 := (N, .inl (fun _ => 0))) hx hb (hts _ ka_byte) rfl hK hP hD hS hA (fun _ => rfl) hn hN hby (Nat.le_trans h1 hNC) (Nat.le_trans h2 hNS) hd (fun q cA H1 hK1 hP hD hS => ?_)
  have e1 : s.vm.findClass ("[" ++ FieldType.byte.toString) = some cA := (hK1.2 5 (cA, .byte) rfl).2
  have e2 : s.vm.findClass ("[" ++ FieldType.byte.toString) = some (Z.2.2.1 1) := (hK.2 1 (Z.2.2.1 1, .byte) rfl).2
  have e3 : cA = Z.2.2.1 1 := Option.some.inj (e1.symm.trans e2)
  subst e3
  exact kk q H1 locs ls hP hD hS hl
theorem n_newQ (C : CN X nL Z A cc own F L NC NS) (t : Nat) {Cn : String} (ht : (tys Z)[t]? = some (Z.2.2.1 t, .object Cn)) (hO : ∀ U, AO3 U → va_AO Cn U) (hcl : Cond.classLink own index Cn ∈ TT) {n : Int32} (N : Nat) (hn : ¬ n < 0) (hN : n.toNatClampNeg = N) (hby : N * 4 ≤ 536870912) (h1 : kc + 1 ≤ NC) (h2 : ks + N ≤ NS) (hd : decode cc pc = .ok (.anewarray index, 3)) (kk : ∀ q, WN X nL Z A Q (ws ++ [(q, .inl (Z.2.2.1 t, N, .inr (.inr (.inr (.inr (fun _ => none))))))]) (kc + 1) (ks + N) (pc + 3) lv (.ref q :: st)) : WN X nL Z A Q ws kc ks pc lv (.int n :: st) := by
  obtain ⟨p, l, e, R, s, m, args, below, meth, c⟩ := X
  intro H locs ls hP hD hS hl
  obtain ⟨hx, hb, hml, hown, hts, -, -, -, hNC, hNS, hK, hA, -, hAO⟩ := C
  refine va_newq hx hb hown (hts _ hcl) (hO s hAO) hK hP hD hS hA hn hN hby (Nat.le_trans h1 hNC) (Nat.le_trans h2 hNS) hd (fun q cA H1 hK1 hP hD hS => ?_)
  obtain ⟨-, -, -, -, -, e1⟩ := (hK1.2 5 (cA, .object Cn) rfl).2
  obtain ⟨-, -, -, -, -, e2⟩ := (hK.2 t (Z.2.2.1 t, .object Cn) ht).2
  have e3 : cA = Z.2.2.1 t := Option.some.inj (e1.symm.trans e2)
  subst e3
  exact kk q H1 locs ls hP hD hS hl
theorem n_put (C : CN X nL Z A cc own F L NC NS) (q0 : Nat) {a ci : Nat} {fs : List Value} {Cn : String} {T : u_T} {N : Nat} (he : ws[q0]? = some (a, .inr (ci, fs))) (hc : cls[ci]? = some (Cn, T, N)) (hin : ∀ w ∈ u_ws Cn T N, w ∈ TT) (ty0 : Nat → FieldType) (hty : ∀ k, k < N → parseFieldDescriptor (T k).2.2.1 = some (ty0 k)) (hnm : ∀ a, a < N → ∀ b, b < N → a ≠ b → (T a).2.1 ≠ (T b).2.1) (k : Nat) (hk : k < N) (hfin : (T k).2.2.2 = false) (hw : Cond.fieldLink own index (T k).1 (T k).2.1 (T k).2.2.1 ∈ TT) {v : Value} (hn : narrow (ty0 k) v = v) (hfit : fits (ty0 k) v = true) (hl0 : k < fs.length) (hws : ws.set q0 (a, .inr (ci, fs.set k v)) = ws') (hd : decode cc pc = .ok (.putfield index, 3)) (kk : WN X nL Z A Q ws' kc ks (pc + 3) lv st) : WN X nL Z A Q ws kc ks pc lv (v :: .ref a :: st) := by
  subst hws
  obtain ⟨p, l, e, R, s, m, args, below, meth, c⟩ := X
  intro H locs ls hP hD hS hl
  obtain ⟨hx, hb, hml, hown, hts, -, -, -, -, -, hK, -, -, -⟩ := C
  exact va_put hx hb hts hin ty0 hty hnm hown hK hP hD hS q0 he hc k hk (hts _ hw) (fun _ h => h) hfin (hty k hk) hn hfit hl0 hd (fun H1 locs1 hP hD hS => kk H1 locs1 ls hP hD hS hl)
theorem n_putF (C : CN X nL Z A cc own F L NC NS) (I : NI X) (q0 : Nat) {a ci : Nat} {fs : List Value} {Cn : String} {T : u_T} {N : Nat} (he : ws[q0]? = some (a, .inr (ci, fs))) (hc : cls[ci]? = some (Cn, T, N)) (hin : ∀ w ∈ u_ws Cn T N, w ∈ TT) (ty0 : Nat → FieldType) (hty : ∀ k, k < N → parseFieldDescriptor (T k).2.2.1 = some (ty0 k)) (hnm : ∀ a, a < N → ∀ b, b < N → a ≠ b → (T a).2.1 ≠ (T b).2.1) (k : Nat) (hk : k < N) (hfin : (T k).2.2.2 = true) (hdecl : (T k).1 = own) (hw : Cond.fieldLink own index (T k).1 (T k).2.1 (T k).2.2.1 ∈ TT) {v : Value} (hn : narrow (ty0 k) v = v) (hfit : fits (ty0 k) v = true) (hl0 : k < fs.length) (hws : ws.set q0 (a, .inr (ci, fs.set k v)) = ws') (hd : decode cc pc = .ok (.putfield index, 3)) (kk : WN X nL Z A Q ws' kc ks (pc + 3) lv st) : WN X nL Z A Q ws kc ks pc lv (v :: .ref a :: st) := by
  subst hws
  obtain ⟨p, l, e, R, s, m, args, below, meth, c⟩ := X
  intro H locs ls hP hD hS hl
  obtain ⟨hx, hb, hml, hown, hts, -, -, -, -, -, hK, -, -, -⟩ := C
  exact va_putF hx hb hts hin ty0 hty hnm hown hK hP hD hS q0 he hc k hk (hts _ hw) (fun _ h => h) hfin I.2 hdecl (hty k hk) hn hfit hl0 hd (fun H1 locs1 hP hD hS => kk H1 locs1 ls hP hD hS hl)
theorem n_get (C : CN X nL Z A cc own F L NC NS) (q0 : Nat) {a ci : Nat} {fs : List Value} {Cn : String} {T : u_T} {N : Nat} (he : ws[q0]? = some (a, .inr (ci, fs))) (hc : cls[ci]? = some (Cn, T, N)) (hin : ∀ w ∈ u_ws Cn T N, w ∈ TT) (k : Nat) (hk : k < N) (hw : Cond.fieldLink own index (T k).1 (T k).2.1 (T k).2.2.1 ∈ TT) {v : Value} (hv : fs[k]? = some v) (hd : decode cc pc = .ok (.getfield index, 3)) (kk : WN X nL Z A Q ws kc ks (pc + 3) lv (v :: st)) : WN X nL Z A Q ws kc ks pc lv (.ref a :: st) := by
  obtain ⟨p, l, e, R, s, m, args, below, meth, c⟩ := X
  intro H locs ls hP hD hS hl
  obtain ⟨hx, hb, hml, hown, hts, -, -, -, -, -, hK, -, -, -⟩ := C
  exact va_get hx hb hts hin hown hK hP q0 he hc k hk (hts _ hw) (fun _ h => h) hv hd (kk H locs ls hP hD hS hl)
theorem n_iast (C : CN X nL Z A cc own F L NC NS) (q0 : Nat) {a N : Nat} {f : Nat → Int32} (he : ws[q0]? = some (a, .inl (Z.2.2.1 0, N, .inl f))) {i x : Int32} (j : Nat) (hi : i = nI j) (hj : j < N) (hN : N < 2 ^ 31) (hws : ws.set q0 (a, .inl (Z.2.2.1 0, N, .inl (upd f j x))) = ws') (hd : decode cc pc = .ok (.iastore, 1)) (kk : WN X nL Z A Q ws' kc ks (pc + 1) lv st) : WN X nL Z A Q ws kc ks pc lv (.int x :: .int i :: .ref a :: st) := by
  subst hws; subst hi
  obtain ⟨p, l, e, R, s, m, args, below, meth, c⟩ := X
  intro H locs ls hP hD hS hl
  obtain ⟨hx, hb, hml, hown, hts, -, -, -, -, -, hK, -, -, -⟩ := C
  refine va_iast hx hb hK hP hD hS q0 0 he rfl (vp_in_nI hj hN) hd (fun H1 locs1 hP hD hS => ?_)
  rw [nI_clamp (by omega)] at hP hD
  exact kk H1 locs1 ls hP hD hS hl
theorem n_aast (C : CN X nL Z A cc own F L NC NS) (q0 t qk : Nat) {a N ci v : Nat} {vs : List Value} {r : vw_C} {f : Nat → Option Nat} (he : ws[q0]? = some (a, .inl (Z.2.2.1 t, N, .inr (.inr (.inr (.inr f)))))) (ht : (tys Z)[t]? = some (Z.2.2.1 t, .object r.1)) (hv : ws[qk]? = some (v, .inr (ci, vs))) (hc : cls[ci]? = some r) {i : Int32} (j : Nat) (hi : i = nI j) (hj : j < N) (hN : N < 2 ^ 31) (hws : ws.set q0 (a, .inl (Z.2.2.1 t, N, .inr (.inr (.inr (.inr (va_up f j (some v))))))) = ws') (hd : decode cc pc = .ok (.aastore, 1)) (kk : WN X nL Z A Q ws' kc ks (pc + 1) lv st) : WN X nL Z A Q ws kc ks pc lv (.ref v :: .int i :: .ref a :: st) := by
  subst hws; subst hi
  obtain ⟨p, l, e, R, s, m, args, below, meth, c⟩ := X
  intro H locs ls hP hD hS hl
  obtain ⟨hx, hb, hml, hown, hts, -, -, -, -, -, hK, -, -, -⟩ := C
  refine va_astq hx hb hK hP hD hS q0 t qk ci he ht hv hc (vp_in_nI hj hN) hd (fun H1 locs1 hP hD hS => ?_)
  rw [nI_clamp (by omega)] at hP hD
  exact kk H1 locs1 ls hP hD hS hl
theorem n_aastT (C : CN X nL Z A cc own F L NC NS) (q0 : Nat) {a N : Nat} (i0 : Nat) (h13 : i0 < 13) {f : Nat → Option Nat} (he : ws[q0]? = some (a, .inl (Z.2.2.1 4, N, .inr (.inr (.inr (.inr f)))))) {i : Int32} (j : Nat) (hi : i = nI j) (hj : j < N) (hN : N < 2 ^ 31) (hws : ws.set q0 (a, .inl (Z.2.2.1 4, N, .inr (.inr (.inr (.inr (va_up f j (some (Z.2.2.2.2.1 i0)))))))) = ws') (hd : decode cc pc = .ok (.aastore, 1)) (kk : WN X nL Z A Q ws' kc ks (pc + 1) lv st) : WN X nL Z A Q ws kc ks pc lv (.ref (Z.2.2.2.2.1 i0) :: .int i :: .ref a :: st) := by
  subst hws; subst hi
  obtain ⟨p, l, e, R, s, m, args, below, meth, c⟩ := X
  intro H locs ls hP hD hS hl
  obtain ⟨hx, hb, hml, hown, hts, -, -, -, -, -, hK, -, hE, -⟩ := C
  refine vb_astq (C := "java/lang/String") hx hb hK hP hD hS q0 4 he rfl (va_Orecv (hE.2.2.2.2.2.2.2.2.1 i0 h13).1 hS) (fun comp c0 h1 h2 => ?_) (vp_in_nI hj hN) hd (fun H1 locs1 hP hD hS => ?_)
  · have h3 : comp = c0 := Option.some.inj (h1.symm.trans h2)
    subst h3
    exact va_asg _ _
  · rw [nI_clamp (by omega)] at hP hD
    exact kk H1 locs1 ls hP hD hS hl
theorem n_ldcS (C : CN X nL Z A cc own F L NC NS) (hd : decode cc pc = .ok (.ldc index, 2)) (j : Nat) {tx : String} {i : Nat} (hj : txRef[j]? = some (own, index, tx, i)) (kk : WN X nL Z A Q ws kc ks (pc + 2) lv (.ref (Z.2.2.2.2.1 i) :: st)) : WN X nL Z A Q ws kc ks pc lv st := by
  obtain ⟨p, l, e, R, s, m, args, below, meth, c⟩ := X
  intro H locs ls hP hD hS hl
  obtain ⟨hx, hb, hml, hown, hts, -, -, -, -, -, hK, -, hE, -⟩ := C
  exact va_ldcS hx hb hown (hE.2.2.2.2.2.2.2.2.2 _ (List.mem_of_getElem? hj)) hd (kk H locs ls hP hD hS hl)
theorem n_obj (C : CN X nL Z A cc own F L NC NS) (hw : Cond.methodLink own index objectInit ∈ TT) (hF : 1 ≤ F) (hL : (st.map fun v => v.category).sum + 12 ≤ L) {a : Nat} (hd : decode cc pc = .ok (.invokespecial index, 3)) (kk : WN X nL Z A Q ws kc ks (pc + 3) lv st) : WN X nL Z A Q ws kc ks pc lv (.ref a :: st) := by
  obtain ⟨p, l, e, R, s, m, args, below, meth, c⟩ := X
  intro H locs ls hP hD hS hl
  obtain ⟨hx, hb, hml, hown, hts, -, hFr, hLo, -, -, hK, -, hE, -⟩ := C
  exact W.objInit hx hb hown (hts _ hw) (hts _ k_21) (hts _ k_obj) rfl (by rw [hml]; exact hl.1) rfl hd (Nat.le_trans hF hFr) (by show 2 * 0 + _ + 12 ≤ _; omega) (kk H locs ls hP hD hS hl)
theorem n_vret (C : CN X nL Z A cc own F L NC NS) (I : NI X) {post : (Nat → Nat) → va_W} (u : Nat → Nat) (hw : ws = post u) (hd : decode cc pc = .ok (.return_, 1)) : WN X nL Z A (QN X Z A kc ks post) ws kc ks pc lv [] := by
  subst hw
  obtain ⟨p, l, e, R, s, m, args, below, meth, c⟩ := X
  intro H locs ls hP hD hS hl
  obtain ⟨hx, hb, hml, hown, hts, hlk, -, -, -, -, hK, -, hE, -⟩ := C
  exact W.vret hx hb I.1 (fun t ht hW => ⟨⟨u, rfl, trivial, by rw [ht]; exact hP, hD⟩, hS.F ht⟩) hS.2.2 hd hlk
theorem n_init (C : CN X nL Z A cc own F L NC NS) {y : MethodName} {cc' : ByteArray} {maxL' F' L' mc ms n a : Nat} {As : List Value} {ws0 wr : va_W} {post : (Nat → Nat) → va_W} {st0 : List Value} (hM : CTi Z y cc' maxL' F' L' mc ms (.ref a :: As) ws0 post) (hi : MC y cc' maxL' n) (hw : Cond.methodLink own index y ∈ TT) (hR : F' + 1 ≤ F ∧ 8 + (maxL' + 11) + L' ≤ L) (hn : As.length = n) (hst : As.reverse ++ .ref a :: st = st0) (hcat : (st.map fun v => v.category).sum ≤ 8) (hd : decode cc pc = .ok (.invokespecial index, 3)) (isC isR : List Nat) (hC : isC.map (fun i => ws[i]?) = ws0.map some) (hRr : isR.map (fun i => ws[i]?) = wr.map some) (hnc : va_nd isC = true) (hnr : va_nd isR = true) (hdis : ∀ i ∈ isR, i ∉ isC) (hC2 : isC.filterMap (fun i => ws[i]?) = ws0) (h1 : kc + mc ≤ NC) (h2 : ks + ms ≤ NS) (kk : ∀ u, WN X nL Z A Q (wr ++ post u) (kc + mc) (ks + ms) (pc + 3) lv st) : WN X nL Z A Q ws kc ks pc lv st0 := by
  subst hst
  obtain ⟨p, l, e, R, s, m, args, below, meth, c⟩ := X
  intro H locs ls hP hD hS hl
  obtain ⟨hx, hb, hml, hown, hts, -, hFr, hLo, hNC, hNS, hK, hA, hE, hO⟩ := C
  have hPc := hP.sub (ws' := ws0) isC hC2
  have hDc := hD.sub (ws' := ws0) isC hnc hC
  have hFc := va_free (wc := ws0) hD hS hA isC hC
  refine va_callv (va_runI (As := As) (rest := st) ⟨hx, hb, hml, hown, hts⟩ (hM l H.size) (cwI n hts (code_in hi.2.2.1) rfl rfl rfl (hts _ hi.2.1) (hts _ hw) (hts _ hi.1) hi.2.2.2.1 hi.2.2.2.2 ⟨Nat.le_trans hR.1 hFr, Nat.le_trans hR.2 hLo⟩) ⟨fun a U g mk q => by obtain ⟨q0, q1, qP, qK, qD, qE, qO⟩ := q; exact ⟨q0, q1, qP, va_K.moved (u := U) (U := U.calling g mk a) (Vm.Alike.refl U.vm) qK, qD, EnvF.same (u := U) (U := U.calling g mk a) rfl qE, AO3.moved (u := U) (U := U.calling g mk a) (Vm.Alike.refl U.vm) qO⟩, fun U hU hW => ⟨rfl, by rw [hU], by rw [hU]; exact hPc, va_K.moved hW.alike hK, hDc.weaken (fun _ _ _ _ => trivial), by rw [hU]; exact ((hE.kept hS.2.1).narrow hFc).warm hW, hO.moved hW.alike⟩⟩ rfl hn hl.1 rfl (lv_room hcat) hd ⟨Nat.le_trans h1 hNC, Nat.le_trans h2 hNS⟩) hS (fun q _ h => hFc q h) hFc (fun u t H1 locs1 ht hvm _ hB _ hk1 hS => ?_)
  obtain ⟨hP1, hD1⟩ := hB
  rw [ht] at hP1
  obtain ⟨hP, hD⟩ := va_join (wr := wr) (w1 := post u) hP hD isC isR hC hRr hnr hdis hk1 hFc hP1 hD1
  exact kk u H1 locs1 ls hP hD hS hl
theorem n_initN (C : CN X nL Z A cc own F L NC NS) {y : MethodName} {cc' : ByteArray} {maxL' F' L' mc ms n a : Nat} {As : List Value} {ws0 wr : va_W} {post : (Nat → Nat) → va_W} {st0 : List Value} (hM : CTi Z y cc' maxL' F' L' mc ms (.ref a :: As) ws0 post) (hi : MC y cc' maxL' n) {host : String} (hw : (own, index, y, host) ∈ nestM) (hR : F' + 1 ≤ F ∧ 8 + (maxL' + 11) + L' ≤ L) (hn : As.length = n) (hst : As.reverse ++ .ref a :: st = st0) (hcat : (st.map fun v => v.category).sum ≤ 8) (hd : decode cc pc = .ok (.invokespecial index, 3)) (isC isR : List Nat) (hC : isC.map (fun i => ws[i]?) = ws0.map some) (hRr : isR.map (fun i => ws[i]?) = wr.map some) (hnc : va_nd isC = true) (hnr : va_nd isR = true) (hdis : ∀ i ∈ isR, i ∉ isC) (hC2 : isC.filterMap (fun i => ws[i]?) = ws0) (h1 : kc + mc ≤ NC) (h2 : ks + ms ≤ NS) (kk : ∀ u, WN X nL Z A Q (wr ++ post u) (kc + mc) (ks + ms) (pc + 3) lv st) : WN X nL Z A Q ws kc ks pc lv st0 := by
  subst hst
  obtain ⟨p, l, e, R, s, m, args, below, meth, c⟩ := X
  intro H locs ls hP hD hS hl
  obtain ⟨hx, hb, hml, hown, hts, -, hFr, hLo, hNC, hNS, hK, hA, hE, hO⟩ := C
  have hPc := hP.sub (ws' := ws0) isC hC2
  have hDc := hD.sub (ws' := ws0) isC hnc hC
  have hFc := va_free (wc := ws0) hD hS hA isC hC
  refine va_callv (va_runIN (As := As) (rest := st) ⟨hx, hb, hml, hown, hts⟩ (hM l H.size) ⟨va_cnB n hts (code_in hi.2.2.1) rfl rfl rfl (hE.2.2.2.2.2.2.2.1 _ hw) (hts _ hi.2.1) hi.2.2.2.2 ⟨Nat.le_trans hR.1 hFr, Nat.le_trans hR.2 hLo⟩, hi.2.2.2.1, hts _ hi.1⟩ ⟨fun a U g mk q => by obtain ⟨q0, q1, qP, qK, qD, qE, qO⟩ := q; exact ⟨q0, q1, qP, va_K.moved (u := U) (U := U.calling g mk a) (Vm.Alike.refl U.vm) qK, qD, EnvF.same (u := U) (U := U.calling g mk a) rfl qE, AO3.moved (u := U) (U := U.calling g mk a) (Vm.Alike.refl U.vm) qO⟩, fun U hU hW => ⟨rfl, by rw [hU], by rw [hU]; exact hPc, va_K.moved hW.alike hK, hDc.weaken (fun _ _ _ _ => trivial), by rw [hU]; exact ((hE.kept hS.2.1).narrow hFc).warm hW, hO.moved hW.alike⟩⟩ rfl hn hl.1 rfl (lv_room hcat) hd ⟨Nat.le_trans h1 hNC, Nat.le_trans h2 hNS⟩) hS (fun q _ h => hFc q h) hFc (fun u t H1 locs1 ht hvm _ hB _ hk1 hS => ?_)
  obtain ⟨hP1, hD1⟩ := hB
  rw [ht] at hP1
  obtain ⟨hP, hD⟩ := va_join (wr := wr) (w1 := post u) hP hD isC isR hC hRr hnr hdis hk1 hFc hP1 hD1
  exact kk u H1 locs1 ls hP hD hS hl
end NRows
