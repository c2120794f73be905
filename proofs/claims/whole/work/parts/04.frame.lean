/-! a state: sections of rows of ints; a shape: how many cells, what each holds of its row, which section, which place there -/
abbrev St : Type := Nat → Nat → Int32
abbrev ZT : Type := va_G × (Nat → Nat) × (Nat → ClassId) × (Nat → Nat) × (Nat → Nat) × (Nat → Nat)
abbrev YT : Type := Nat × (ZT → Nat → (Nat → Int32) → va_E) × (Nat → Nat) × (Nat → Nat → Nat)
def up (g : St) (t n : Nat) (v : Int32) : St := va_up g t (upd (g t) n v)
def tr (n : Nat) (f : Nat → Int32) : Nat → Int32 := fun j => if j < n then f j else 0
def sr (Y : YT) (g : St) (k : Nat) : Nat → Int32 := fun j => g (Y.2.2.1 k) (Y.2.2.2 k j)
def sw (Y : YT) (Z : ZT) (g : St) : va_W := (List.range Y.1).map (fun k => (Z.2.1 k, Y.2.1 Z k (sr Y g k)))
def sA (Y : YT) (Z : ZT) : Nat → Prop := fun q => ∃ k, k < Y.1 ∧ q = Z.2.1 k
def sI (Y : YT) (Z : ZT) : Prop := ∀ i j, i < Y.1 → j < Y.1 → Z.2.1 i = Z.2.1 j → i = j
theorem sw_at {Y : YT} {Z : ZT} {g : St} {k : Nat} (h : k < Y.1) : (sw Y Z g)[k]? = some (Z.2.1 k, Y.2.1 Z k (sr Y g k)) := by
  simp [sw, h]
theorem sw_of {Y : YT} {Z : ZT} {g : St} {k : Nat} {q : Nat × va_E} (h : (sw Y Z g)[k]? = some q) : k < Y.1 ∧ q = (Z.2.1 k, Y.2.1 Z k (sr Y g k)) := by
  by_cases hk : k < Y.1
  · rw [sw_at hk] at h
    exact ⟨hk, (Option.some.inj h).symm⟩
  · rw [List.getElem?_eq_none (by simp [sw]; omega)] at h
    cases h
theorem sD {Y : YT} {Z : ZT} (h : sI Y Z) (g : St) : va_D (sA Y Z) (sw Y Z g) := by
  refine ⟨fun i j p q hi hj e => ?_, fun k q hk => ?_⟩
  · obtain ⟨h1, rfl⟩ := sw_of hi
    obtain ⟨h2, rfl⟩ := sw_of hj
    exact h i j h1 h2 e
  · obtain ⟨h1, rfl⟩ := sw_of hk
    exact ⟨k, h1, rfl⟩
/-- place j of cell k has a place of its own in its section -/
def sOk (Y : YT) (k j : Nat) : Prop := ∀ (Z : ZT) (g : St) (v : Int32) (k' : Nat), k' < Y.1 → Y.2.1 Z k' (sr Y (up g (Y.2.2.1 k) (Y.2.2.2 k j) v) k') = if k' = k then Y.2.1 Z k (upd (sr Y g k) j v) else Y.2.1 Z k' (sr Y g k')
theorem sw_set {Y : YT} {Z : ZT} {g : St} {k j : Nat} {v : Int32} (ho : sOk Y k j) (hk : k < Y.1) : (sw Y Z g).set k (Z.2.1 k, Y.2.1 Z k (upd (sr Y g k) j v)) = sw Y Z (up g (Y.2.2.1 k) (Y.2.2.2 k j) v) := by
  apply List.ext_getElem?
  intro i
  by_cases hi : i < Y.1
  · rw [sw_at hi, ho Z g v i hi]
    by_cases h : i = k
    · subst h
      rw [if_pos rfl, List.getElem?_set_self (by simp [sw]; exact hi)]
    · rw [if_neg h, List.getElem?_set_ne (fun e => h e.symm), sw_at hi]
  · rw [List.getElem?_eq_none (by simp [sw]; omega), List.getElem?_eq_none (by simp [sw]; omega)]
/-! what a method finds outside its world: static arrays, words of the nest, text constants -/
def nestF : List (String × Nat × String × String × String × String) := [("TunnelPeace$Person", 67, "TunnelPeace", "MOST_OF", "[I", "TunnelPeace"), ("TunnelPeace$Forecast", 56, "TunnelPeace", "MOST_OF", "[I", "TunnelPeace"), ("TunnelPeace$Tunnel", 122, "TunnelPeace", "MOST_OF", "[I", "TunnelPeace"), ("TunnelPeace$Tape", 110, "TunnelPeace", "MOST_OF", "[I", "TunnelPeace"), ("TunnelPeace$Person", 38, "TunnelPeace", "KIND_ABOVE", "[I", "TunnelPeace"), ("TunnelPeace$Sheet", 28, "TunnelPeace", "MOST_OF", "[I", "TunnelPeace")]
def nestM : List (String × Nat × MethodName × String) := [("TunnelPeace$Tunnel", 37, y_Pe_init, "TunnelPeace"), ("TunnelPeace", 37, y_Ta_init, "TunnelPeace"), ("TunnelPeace", 52, y_Sh_init, "TunnelPeace"), ("TunnelPeace$Person", 34, y_TP_within, "TunnelPeace"), ("TunnelPeace$Sheet", 31, y_TP_within, "TunnelPeace")]
def eMost : Nat → Value := fun j => .int (([6, 1, 15, 99, 9, 9999] : List Int32).getD j 0)
def eAbove : Nat → Value := fun j => .int (([-1, 0, 0, 2, 3, 0, 1] : List Int32).getD j 0)
def txLen : List Nat := [5, 4, 8, 7, 7, 7, 5, 5, 6, 2, 6, 4, 3]
def txByt : List (List Int32) := [[112, 108, 97, 99, 101], [103, 117, 110, 115], [109, 101, 114, 99, 104, 97, 110, 116], [115, 111, 108, 100, 105, 101, 114], [103, 101, 110, 101, 114, 97, 108], [109, 97, 114, 115, 104, 97, 108], [99, 104, 105, 108, 100], [98, 114, 105, 100, 101], [119, 97, 108, 107, 101, 114], [97, 116], [115, 101, 97, 115, 111, 110], [98, 97, 103, 115], [109, 101, 116]]
def txRef : List (String × Nat × String × Nat) := [("TunnelPeace$Tape", 25, "place", 0), ("TunnelPeace$Tape", 35, "guns", 1), ("TunnelPeace$Tape", 96, "merchant", 2), ("TunnelPeace$Tape", 98, "soldier", 3), ("TunnelPeace$Tape", 100, "general", 4), ("TunnelPeace$Tape", 102, "marshal", 5), ("TunnelPeace$Tape", 104, "child", 6), ("TunnelPeace$Tape", 106, "bride", 7), ("TunnelPeace$Tape", 108, "walker", 8), ("TunnelPeace$Tape", 80, "at", 9), ("TunnelPeace$Tape", 86, "season", 10), ("TunnelPeace$Tape", 88, "bags", 11), ("TunnelPeace$Tape", 90, "met", 12), ("TunnelPeaceModel", 27, "walker", 8), ("TunnelPeaceModel", 29, "merchant", 2), ("TunnelPeaceModel", 31, "soldier", 3), ("TunnelPeaceModel", 33, "general", 4), ("TunnelPeaceModel", 35, "marshal", 5), ("TunnelPeaceModel", 37, "child", 6), ("TunnelPeaceModel", 39, "bride", 7), ("TunnelPeaceModel", 283, "at", 9), ("TunnelPeaceModel", 288, "season", 10), ("TunnelPeaceModel", 290, "bags", 11), ("TunnelPeaceModel", 292, "met", 12), ("TunnelPeaceModel", 301, "place", 0), ("TunnelPeaceModel", 303, "guns", 1)]
def tS (adK adV : Nat → Nat) (A : Nat → Prop) (U : State) (H : Heap) : Prop := ∀ i : Nat, i < 13 → va_O "java/lang/String" (adK i) A U H ∧ va_OF "java/lang/String" "coder" "B" (.int 0) (adK i) A U H ∧ va_OF "java/lang/String" "value" "[B" (.ref (adV i)) (adK i) A U H ∧ va_T .byte (adV i) (txLen.getD i 0) (fun j => .int ((txByt.getD i []).getD j 0)) A U H
def EnvF (A : Nat → Prop) (Z : ZT) (U : State) (H : Heap) : Prop :=
  va_Z "TunnelPeace" "MOST_OF" "[I" (.ref (Z.2.2.2.1 0)) A U H ∧ va_T .int (Z.2.2.2.1 0) 6 eMost A U H ∧
  va_Z "TunnelPeace" "KIND_ABOVE" "[I" (.ref (Z.2.2.2.1 1)) A U H ∧ va_T .int (Z.2.2.2.1 1) 7 eAbove A U H ∧
  va_Z "java/lang/String" "COMPACT_STRINGS" "Z" (.int 1) A U H ∧ va_Zq "jdk/internal/util/Preconditions" "SIOOBE_FORMATTER" "Ljava/util/function/BiFunction;" A U H ∧
  (∀ q ∈ nestF, va_Nw (.fieldLinkNest q.1 q.2.1 q.2.2.1 q.2.2.2.1 q.2.2.2.2.1 q.2.2.2.2.2) U) ∧ (∀ q ∈ nestM, va_Nw (.methodLinkNest q.1 q.2.1 q.2.2.1 q.2.2.2) U) ∧
  tS Z.2.2.2.2.1 Z.2.2.2.2.2 A U H ∧ ∀ q ∈ txRef, vk_R q.1 q.2.1 q.2.2.1 (Z.2.2.2.2.1 q.2.2.2) U
theorem EnvF.kept {A : Nat → Prop} {Z : ZT} {U : State} {H H1 : Heap} (h : EnvF A Z U H) (hq : ∀ a : Nat, a < H.size → ¬ A a → H1[a]? = H[a]?) : EnvF A Z U H1 := by
  obtain ⟨h1, h2, h3, h4, h5, h6, h7, h8, h9, h10⟩ := h
  exact ⟨h1.kept hq, h2.kept hq, h3.kept hq, h4.kept hq, h5.kept hq, h6.kept hq, h7, h8, fun i hi => ⟨(h9 i hi).1.kept hq, (h9 i hi).2.1.kept hq, (h9 i hi).2.2.1.kept hq, (h9 i hi).2.2.2.kept hq⟩, h10⟩
theorem EnvF.narrow {A B : Nat → Prop} {Z : ZT} {U : State} {H : Heap} (h : EnvF A Z U H) (hq : ∀ q, B q → A q) : EnvF B Z U H := by
  obtain ⟨h1, h2, h3, h4, h5, h6, h7, h8, h9, h10⟩ := h
  exact ⟨h1.narrow hq, h2.narrow hq, h3.narrow hq, h4.narrow hq, h5.narrow hq, h6.narrow hq, h7, h8, fun i hi => ⟨(h9 i hi).1.narrow hq, (h9 i hi).2.1.narrow hq, (h9 i hi).2.2.1.narrow hq, (h9 i hi).2.2.2.narrow hq⟩, h10⟩
theorem EnvF.warm {A : Nat → Prop} {Z : ZT} {s U : State} {H : Heap} (hW : s.WarmedH U.vm) (h : EnvF A Z s H) : EnvF A Z U H := by
  obtain ⟨h1, h2, h3, h4, h5, h6, h7, h8, h9, h10⟩ := h
  have ha := hW.alike
  exact ⟨h1.moved ha, h2.moved ha, h3.moved ha, h4.moved ha, h5.moved ha, h6.moved ha, fun q hq => va_Nw.warmF hW (h7 q hq), fun q hq => va_Nw.warmM hW (h8 q hq), fun i hi => ⟨va_O.moved ha (h9 i hi).1, va_OF.moved ha (h9 i hi).2.1, va_OF.moved ha (h9 i hi).2.2.1, va_T.moved ha (h9 i hi).2.2.2⟩, fun q hq => vk_R.warm hW (h10 q hq)⟩
theorem EnvF.same {A : Nat → Prop} {Z : ZT} {u U : State} {H : Heap} (hv : U.vm = u.vm) (h : EnvF A Z u H) : EnvF A Z U H := by
  obtain ⟨h1, h2, h3, h4, h5, h6, h7, h8, h9, h10⟩ := h
  have ha : u.vm.Alike U.vm := by rw [hv]; exact Vm.Alike.refl u.vm
  exact ⟨h1.moved ha, h2.moved ha, h3.moved ha, h4.moved ha, h5.moved ha, h6.moved ha, fun q hq => va_Nw.same rfl hv.symm (h7 q hq), fun q hq => va_Nw.same rfl hv.symm (h8 q hq), fun i hi => ⟨va_O.moved ha (h9 i hi).1, va_OF.moved ha (h9 i hi).2.1, va_OF.moved ha (h9 i hi).2.2.1, va_T.moved ha (h9 i hi).2.2.2⟩, fun q hq => vk_R.same hv (h10 q hq)⟩
abbrev tys (Z : ZT) : List (ClassId × FieldType) := [(Z.2.2.1 0, .int), (Z.2.2.1 1, .byte), (Z.2.2.1 2, .object "TunnelPeace$Person"), (Z.2.2.1 3, .object "TunnelPeace$Sheet"), (Z.2.2.1 4, .object "java/lang/String")]
def SysAt (Y : YT) (Z : ZT) (g : St) (U : State) : Prop := va_P Z.1 cls (sw Y Z g) U.heap ∧ va_K Z.1 cls (tys Z) U ∧ sI Y Z ∧ EnvF (sA Y Z) Z U U.heap

theorem SysAt.blind {Y : YT} {Z : ZT} {g : St} {av : List Value} : FrameBlind (va_Pc av (fun U => SysAt Y Z g U)) := fun a U f mk q => by
  obtain ⟨q0, qP, qK, qI, qE⟩ := q
  exact ⟨q0, qP, va_K.moved (u := U) (U := U.calling f mk a) (Vm.Alike.refl U.vm) qK, qI, EnvF.same (u := U) (U := U.calling f mk a) rfl qE⟩
/-! the machine at a place of a method: program, launch, environment, room, start, method, arguments, below, method, code -/
abbrev XT : Type := Program × Launch × Env × Room × State × MethodId × Array Value × List Frame × Method × Code
def CX (X : XT) (nL : Nat) (Y : YT) (Z : ZT) (cc : ByteArray) (own : String) (ret : Option FieldType) (F L : Nat) : Prop :=
  match X with
  | (p, l, e, R, s, m, args, below, meth, c) => p.tables.exec = Jvm.exec ∧ c.code = cc ∧ c.maxLocals = nL ∧ s.vm.findClass own = some m.cls ∧ (∀ w ∈ TT, w.before args s = true) ∧ meth.sig.returnType = ret ∧ meth.locks = false ∧ F ≤ R.frames ∧ L ≤ R.locals ∧ va_K Z.1 cls (tys Z) s ∧ sI Y Z ∧ EnvF (sA Y Z) Z s s.heap
def WX (X : XT) (nL : Nat) (Y : YT) (Z : ZT) (Q : State → Prop) (g : St) (pc : Nat) (lv : List (Nat × Value)) (st : List Value) : Prop :=
  match X with
  | (p, l, e, R, s, m, args, below, meth, c) => ∀ (H : Heap) (locs : List Loc) (ls : Array Slot), va_P Z.1 cls (sw Y Z g) H → va_S (sA Y Z) s.heap H locs → lv_has ls nL lv → W p l e R s m args below meth c H locs 0 0 Q (F0 m pc ls st)
def QcI (Y : YT) (Z : ZT) (r : Int32) (g' : St) : Array Value → State → Outcome → State → Prop := va_Qi (fun (x : Int32) (u : St) => x = r ∧ u = g') (fun u t => va_P Z.1 cls (sw Y Z u) t.heap) (sA Y Z)
def QcL (Y : YT) (Z : ZT) (r : Int64) (g' : St) : Array Value → State → Outcome → State → Prop := va_Ql (fun (x : Int64) (u : St) => x = r ∧ u = g') (fun u t => va_P Z.1 cls (sw Y Z u) t.heap) (sA Y Z)
def QcV (Y : YT) (Z : ZT) (g' : St) : Array Value → State → Outcome → State → Prop := va_Qv (fun (u : St) => u = g') (fun u t => va_P Z.1 cls (sw Y Z u) t.heap) (sA Y Z)
def QcR (Y : YT) (Z : ZT) (r : Nat) (g' : St) : Array Value → State → Outcome → State → Prop := va_Qr (fun (u : St) => u = g') (fun u a t => a = r ∧ va_P Z.1 cls (sw Y Z u) t.heap) (sA Y Z)
def QX (X : XT) (Y : YT) (Z : ZT) (Qc : Array Value → State → Outcome → State → Prop) : State → Prop :=
  match X with
  | (_, _, _, _, s, _, args, below, _, _) => MQ below Qc args s 0 0 (sA Y Z)
/-- a contract: any launch, any caller; from the state g with these arguments -/
def CT (Y : YT) (Z : ZT) (y : MethodName) (cc : ByteArray) (maxL : Nat) (ret : Option FieldType) (F L : Nat) (av : List Value) (g : St) (Qc : Array Value → State → Outcome → State → Prop) : Prop :=
  ∀ l : Launch, Met l y (Cond.code y cc maxL ret :: TT) { frames := F, cells := 0, slots := 0, locals := L } (va_Pc av (fun U => SysAt Y Z g U)) Qc 0 0 (sA Y Z)
theorem CT.mk {Y : YT} {Z : ZT} {y : MethodName} {cc : ByteArray} {maxL : Nat} {ret : Option FieldType} {F L : Nat} {av : List Value} {g : St} {Qc : Array Value → State → Outcome → State → Prop} (own : String) (hy : plainName y.cls = true) (ho : y.cls = own) (hn : (lg_sl av).length ≤ maxL)
    (body : ∀ X : XT, CX X maxL Y Z cc own ret F L → WX X maxL Y Z (QX X Y Z Qc) g 0 (lv_args 0 av) []) : CT Y Z y cc maxL ret F L av g Qc := by
  intro l
  refine Met.ofW (cc := cc) (maxL := maxL) (ret := ret) hy rfl ?_
  intro p e s m args below meth c s₁ B hml hv
  obtain ⟨rfl, hP, hK, hI, hE⟩ := hv
  have hts := atoms_spec (ws := Cond.code y cc maxL ret :: TT) B.pre
  have hown : s.vm.findClass own = some m.cls := by rw [← ho]; exact findClass_of_methodNamed B.named
  rw [lg_entry_eq]
  exact body (p, l, e, _, s, m, av.toArray, below, meth, c) ⟨B.exec, B.bytes, hml, hown, fun w hw => hts w (List.mem_cons_of_mem _ hw), B.returns, B.notSynchronized, Nat.le_refl _, Nat.le_refl _, hK, hI, hE⟩ s.heap [] _ hP va_S.rf (lv_entry av hn)
