/-! contracts that leave a part of the state open -/
def QkI (Y : YT) (Z : ZT) (r : Int32) (K : St → Prop) : Array Value → State → Outcome → State → Prop := va_Qi (fun (x : Int32) (u : St) => x = r ∧ K u) (fun u t => va_P Z.1 cls (sw Y Z u) t.heap) (sA Y Z)
def QkV (Y : YT) (Z : ZT) (K : St → Prop) : Array Value → State → Outcome → State → Prop := va_Qv (fun (u : St) => K u) (fun u t => va_P Z.1 cls (sw Y Z u) t.heap) (sA Y Z)
section KRows
variable {X : XT} {Y : YT} {Z : ZT} {Q : State → Prop} {g : St} {K : St → Prop} {pc : Nat} {lv lv' : List (Nat × Value)} {st st0 : List Value} {cc cc' : ByteArray} {own : String} {ret ret' : Option FieldType} {F L nL F' L' maxL' n k index : Nat} {y : MethodName} {As : List Value}
theorem x_iretK (C : CX X nL Y Z cc own (some .int) F L) {x r : Int32} (hr : x = r) (hg : K g) (hd : decode cc pc = .ok (.ireturn, 1)) : WX X nL Y Z (QX X Y Z (QkI Y Z r K)) g pc lv [.int x] := by
  subst hr
  obtain ⟨p, l, e, R, s, m, args, below, meth, c⟩ := X
  intro H locs ls hP hS hl
  obtain ⟨hx, hb, hml, hown, hts, hrt, hlk, -⟩ := C
  exact W.iret hx hb hrt (fun t ht hW => ⟨⟨x, g, rfl, ⟨rfl, hg⟩, by show va_P _ _ _ t.heap; rw [ht]; exact hP⟩, hS.F ht⟩) hS.2.2 hd hlk
theorem x_zretK (C : CX X nL Y Z cc own (some .boolean) F L) {x r : Int32} (hn : x = 0 ∨ x = 1) (hr : x = r) (hg : K g) (hd : decode cc pc = .ok (.ireturn, 1)) : WX X nL Y Z (QX X Y Z (QkI Y Z r K)) g pc lv [.int x] := by
  subst hr
  obtain ⟨p, l, e, R, s, m, args, below, meth, c⟩ := X
  intro H locs ls hP hS hl
  obtain ⟨hx, hb, hml, hown, hts, hrt, hlk, -⟩ := C
  exact W.zret hx hb hrt (by rcases hn with rfl | rfl <;> rfl) (fun t ht hW => ⟨⟨x, g, rfl, ⟨rfl, hg⟩, by show va_P _ _ _ t.heap; rw [ht]; exact hP⟩, hS.F ht⟩) hS.2.2 hd hlk
theorem x_vretK (C : CX X nL Y Z cc own none F L) (hg : K g) (hd : decode cc pc = .ok (.return_, 1)) : WX X nL Y Z (QX X Y Z (QkV Y Z K)) g pc lv [] := by
  obtain ⟨p, l, e, R, s, m, args, below, meth, c⟩ := X
  intro H locs ls hP hS hl
  obtain ⟨hx, hb, hml, hown, hts, hrt, hlk, -⟩ := C
  exact W.vret hx hb hrt (fun t ht hW => ⟨⟨g, rfl, hg, by show va_P _ _ _ t.heap; rw [ht]; exact hP⟩, hS.F ht⟩) hS.2.2 hd hlk
theorem x_callVki (C : CX X nL Y Z cc own ret F L) {r : Int32} (hM : CT Y Z y cc' maxL' ret' F' L' (.ref (Z.2.1 k) :: As) g (QkI Y Z r K)) (hi : MI y cc' maxL' ret' n) (hw : Cond.methodLink own index y ∈ TT) (hk : k < Y.1) {ci : Nat} {fs : List Value} (hE : Y.2.1 Z k (sr Y g k) = .inr (ci, fs)) {T : u_T} {N : Nat} (hc : cls[ci]? = some (y.cls, T, N)) (hR : F' + 1 ≤ F ∧ 8 + (maxL' + 11) + L' ≤ L) (hn : As.length = n) (hst : As.reverse ++ .ref (Z.2.1 k) :: st = st0) (hcat : (st.map fun v => v.category).sum ≤ 8) (hd : decode cc pc = .ok (.invokevirtual index, 3)) (kk : ∀ u, K u → WX X nL Y Z Q u (pc + 3) lv (.int r :: st)) : WX X nL Y Z Q g pc lv st0 := by
  subst hst
  obtain ⟨p, l, e, R, s, m, args, below, meth, c⟩ := X
  intro H locs ls hP hS hl
  obtain ⟨hx, hb, hml, hown, hts, -, -, hFr, hLo, hK, hI, hEn⟩ := C
  refine va_calli (va_runV (As := As) (rest := st) ⟨hx, hb, hml, hown, hts⟩ (hM l) ⟨callB_of n hts (code_in hi.2.2.2.1) rfl rfl rfl (hts _ hi.2.2.1) (hts _ hw) hi.2.2.2.2 ⟨Nat.le_trans hR.1 hFr, Nat.le_trans hR.2 hLo⟩, hts _ hi.1, hts _ hi.2.1⟩ ⟨SysAt.blind, va_recv hK hP hc (by rw [sw_at hk, hE]), fun U hU hW => ⟨rfl, by rw [hU]; exact hP, va_K.moved hW.alike hK, hI, by rw [hU]; exact (hEn.kept hS.2.1).warm hW⟩⟩ rfl hn hl.1 rfl (lv_room hcat) hd ⟨Nat.zero_le _, Nat.zero_le _⟩) hS (fun q _ h => h) (fun q h => h) (fun r1 u t H1 locs1 ht hvm hq hB _ _ hS1 => ?_)
  obtain ⟨rfl, hq⟩ := hq
  have hB : va_P Z.1 cls (sw Y Z _) t.heap := hB
  rw [ht] at hB
  exact kk u hq H1 locs1 ls hB hS1 hl
theorem x_callVkv (C : CX X nL Y Z cc own ret F L) (hM : CT Y Z y cc' maxL' ret' F' L' (.ref (Z.2.1 k) :: As) g (QkV Y Z K)) (hi : MI y cc' maxL' ret' n) (hw : Cond.methodLink own index y ∈ TT) (hk : k < Y.1) {ci : Nat} {fs : List Value} (hE : Y.2.1 Z k (sr Y g k) = .inr (ci, fs)) {T : u_T} {N : Nat} (hc : cls[ci]? = some (y.cls, T, N)) (hR : F' + 1 ≤ F ∧ 8 + (maxL' + 11) + L' ≤ L) (hn : As.length = n) (hst : As.reverse ++ .ref (Z.2.1 k) :: st = st0) (hcat : (st.map fun v => v.category).sum ≤ 8) (hd : decode cc pc = .ok (.invokevirtual index, 3)) (kk : ∀ u, K u → WX X nL Y Z Q u (pc + 3) lv st) : WX X nL Y Z Q g pc lv st0 := by
  subst hst
  obtain ⟨p, l, e, R, s, m, args, below, meth, c⟩ := X
  intro H locs ls hP hS hl
  obtain ⟨hx, hb, hml, hown, hts, -, -, hFr, hLo, hK, hI, hEn⟩ := C
  refine va_callv (va_runV (As := As) (rest := st) ⟨hx, hb, hml, hown, hts⟩ (hM l) ⟨callB_of n hts (code_in hi.2.2.2.1) rfl rfl rfl (hts _ hi.2.2.1) (hts _ hw) hi.2.2.2.2 ⟨Nat.le_trans hR.1 hFr, Nat.le_trans hR.2 hLo⟩, hts _ hi.1, hts _ hi.2.1⟩ ⟨SysAt.blind, va_recv hK hP hc (by rw [sw_at hk, hE]), fun U hU hW => ⟨rfl, by rw [hU]; exact hP, va_K.moved hW.alike hK, hI, by rw [hU]; exact (hEn.kept hS.2.1).warm hW⟩⟩ rfl hn hl.1 rfl (lv_room hcat) hd ⟨Nat.zero_le _, Nat.zero_le _⟩) hS (fun q _ h => h) (fun q h => h) (fun u t H1 locs1 ht hvm hq hB _ _ hS1 => ?_)
  have hB : va_P Z.1 cls (sw Y Z _) t.heap := hB
  rw [ht] at hB
  exact kk u hq H1 locs1 ls hB hS1 hl
end KRows
/-! searches -/
def fdo (P : Nat → Bool) : Nat → Nat → Option Nat
  | 0, _ => none
  | k + 1, i => if P i = true then some i else fdo P k (i + 1)
theorem fdo_t {P : Nat → Bool} {N i : Nat} (hi : i < N) (h : P i = true) : fdo P (N - i) i = some i := by
  rw [show N - i = (N - (i + 1)) + 1 by omega]
  unfold fdo
  rw [if_pos h]
theorem fdo_n {P : Nat → Bool} {N i : Nat} (hi : i < N) (h : ¬ P i = true) : fdo P (N - i) i = fdo P (N - (i + 1)) (i + 1) := by
  rw [show N - i = (N - (i + 1)) + 1 by omega]
  conv => lhs; unfold fdo
  rw [if_neg h]
theorem fdo_e {P P' : Nat → Bool} {k : Nat} : ∀ {i : Nat}, (∀ j, i ≤ j → j < i + k → P j = P' j) → fdo P k i = fdo P' k i := by
  induction k with
  | zero => intro i h; rfl
  | succ k ih =>
    intro i h
    unfold fdo
    rw [h i (by omega) (by omega), ih (fun j h1 h2 => h j (by omega) (by omega))]
def fO (P : Nat → Nat → Bool) (M : Nat) : Nat → Nat → Option Nat
  | 0, _ => none
  | k + 1, m => match fdo (P m) M 0 with
    | some s => some s
    | none => fO P M k (m + 1)
theorem fO_t {P : Nat → Nat → Bool} {M N m s : Nat} (hm : m < N) (h : fdo (P m) M 0 = some s) : fO P M (N - m) m = some s := by
  rw [show N - m = (N - (m + 1)) + 1 by omega]
  unfold fO
  rw [h]
theorem fO_n {P : Nat → Nat → Bool} {M N m : Nat} (hm : m < N) (h : fdo (P m) M 0 = none) : fO P M (N - m) m = fO P M (N - (m + 1)) (m + 1) := by
  rw [show N - m = (N - (m + 1)) + 1 by omega]
  conv => lhs; unfold fO
  rw [h]
def fdn (P : Nat → Bool) : Nat → Int32
  | 0 => -1
  | k + 1 => if P k = true then nI k else fdn P k
def bst (V : Nat → Int32) : Nat → Int32 × Int32
  | 0 => (0, 100)
  | c + 1 => if V c < (bst V c).2 then (nI c, V c) else bst V c
def kapN (V : Nat → Int32) (a : Int32) : Nat → Bool
  | 0 => true
  | i + 1 => kapN V a i && decide (V (i + 1) = a)
theorem kapN_f {V : Nat → Int32} {a : Int32} {i m : Nat} (hi : i < m) (h : ¬ V (i + 1) = a) : kapN V a m = false := by
  induction m with
  | zero => omega
  | succ m ih =>
    unfold kapN
    by_cases e : i = m
    · subst e; simp [h]
    · rw [ih (by omega), Bool.false_and]
theorem kapN_s {V : Nat → Int32} {a : Int32} {i : Nat} (h1 : kapN V a i = true) (h : V (i + 1) = a) : kapN V a (i + 1) = true := by
  unfold kapN
  rw [h1, h]
  simp
def vatN (P : Nat → Bool) : Nat → Int32
  | 0 => 0
  | v + 1 => if P v = true then vatN P v ||| bit v else vatN P v
/-- one goes as the numbers tell, for so many days -/
def gatN (nu r : Nat → Int32) (p : Nat) : Nat → Bool
  | 0 => true
  | i + 1 => gatN nu r p i && (decide (nu i = -1) || decide (nu i = dysR r (i + 1) (pI p 2)))
theorem gatN_f {nu r : Nat → Int32} {p i m : Nat} (hi : i < m) (h : ¬ nu i = -1) (h2 : ¬ nu i = dysR r (i + 1) (pI p 2)) : gatN nu r p m = false := by
  induction m with
  | zero => omega
  | succ m ih =>
    unfold gatN
    by_cases e : i = m
    · subst e; simp [h, h2]
    · rw [ih (by omega), Bool.false_and]
theorem gatN_s {nu r : Nat → Int32} {p i : Nat} (h1 : gatN nu r p i = true) (h : nu i = -1 ∨ nu i = dysR r (i + 1) (pI p 2)) : gatN nu r p (i + 1) = true := by
  unfold gatN
  rw [h1]
  rcases h with h | h
  · rw [h]; simp
  · rw [← h]; simp
theorem gatN_e {nu r r' : Nat → Int32} {n p m : Nat} (h : eqv n r r') (hn : sz r = n) (hp : p < n) : gatN nu r p m = gatN nu r' p m := by
  induction m with
  | zero => rfl
  | succ m ih => unfold gatN; rw [ih, (dysR_e h hn).at hp (f := 2) (by omega)]
def zerN (r : Nat → Int32) : Nat → Nat → Int32
  | 0 => r
  | i + 1 => upd (zerN r i) i 0
def cutv (b v : Int32) : Int32 := if b = 8 then v.toInt8.toInt32 else if b = 16 then v.toInt16.toInt32 else v
theorem va_idn {g : St} {t t' : Nat} {R : Nat → Int32} (h : t' ≠ t) : va_up (va_up g t R) t' (g t') = va_up g t R := by
  funext j
  by_cases e : j = t'
  · subst e; rw [va_up_self, va_up_ne _ _ h]
  · rw [va_up_ne _ _ e]
def bc (x : Int32) : Int32 :=
  let u := fun (a : Int32) (k : Int32) => (a.toUInt32 >>> (k.toUInt32 &&& Int32.toUInt32 31)).toInt32
  let a := x - (u x 1 &&& 1431655765)
  let b := (a &&& 858993459) + (u a 2 &&& 858993459)
  let c := (b + u b 4) &&& 252645135
  let d := c + u c 8
  let e := d + u d 16
  e &&& 63
