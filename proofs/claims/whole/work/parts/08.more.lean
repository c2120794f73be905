def mOf (j : Nat) : Int32 := ([6, 1, 15, 99, 9, 9999] : List Int32).getD j 0
def kAb (j : Nat) : Int32 := ([-1, 0, 0, 2, 3, 0, 1] : List Int32).getD j 0
section More
variable {X : XT} {Y : YT} {Z : ZT} {Q : State → Prop} {g : St} {pc : Nat} {lv lv' : List (Nat × Value)} {st : List Value} {cc : ByteArray} {own : String} {ret : Option FieldType} {F L nL index : Nat}
theorem up_vb {g : St} {t t' n : Nat} {R R' : Nat → Int32} {v : Int32} (h : t ≠ t') : up (va_up (va_up g t R) t' R') t n v = va_up (va_up g t' R') t (upd R n v) := by
  funext a b
  simp only [up, va_up]
  by_cases h1 : a = t
  · subst h1; simp [h]
  · by_cases h2 : a = t'
    · subst h2; simp [h1]
    · simp [h1, h2]
theorem x_getst0 (C : CX X nL Y Z cc own ret F L) (hw : Cond.fieldLink own index "TunnelPeace" "MOST_OF" "[I" ∈ TT) (hd : decode cc pc = .ok (.getstatic index, 3)) (kk : WX X nL Y Z Q g (pc + 3) lv (.ref (Z.2.2.2.1 0) :: st)) : WX X nL Y Z Q g pc lv st := by
  obtain ⟨p, l, e, R, s, m, args, below, meth, c⟩ := X
  intro H locs ls hP hS hl
  obtain ⟨hx, hb, hml, hown, hts, -, -, -, -, hK, hI, hEn⟩ := C
  exact va_gets hx hb hEn.1 hS hown (hts _ hw) (fun _ h => h) hd (kk H locs ls hP hS hl)
theorem x_getst0N (C : CX X nL Y Z cc own ret F L) (hw : (own, index, "TunnelPeace", "MOST_OF", "[I", "TunnelPeace") ∈ nestF) (hd : decode cc pc = .ok (.getstatic index, 3)) (kk : WX X nL Y Z Q g (pc + 3) lv (.ref (Z.2.2.2.1 0) :: st)) : WX X nL Y Z Q g pc lv st := by
  obtain ⟨p, l, e, R, s, m, args, below, meth, c⟩ := X
  intro H locs ls hP hS hl
  obtain ⟨hx, hb, hml, hown, hts, -, -, -, -, hK, hI, hEn⟩ := C
  exact va_getsN hx hb hEn.1 hS hown (va_Nw.use rfl (hEn.2.2.2.2.2.2.1 _ hw)) (fun _ h => h) hd (kk H locs ls hP hS hl)
theorem x_getst1N (C : CX X nL Y Z cc own ret F L) (hw : (own, index, "TunnelPeace", "KIND_ABOVE", "[I", "TunnelPeace") ∈ nestF) (hd : decode cc pc = .ok (.getstatic index, 3)) (kk : WX X nL Y Z Q g (pc + 3) lv (.ref (Z.2.2.2.1 1) :: st)) : WX X nL Y Z Q g pc lv st := by
  obtain ⟨p, l, e, R, s, m, args, below, meth, c⟩ := X
  intro H locs ls hP hS hl
  obtain ⟨hx, hb, hml, hown, hts, -, -, -, -, hK, hI, hEn⟩ := C
  exact va_getsN hx hb hEn.2.2.1 hS hown (va_Nw.use rfl (hEn.2.2.2.2.2.2.1 _ hw)) (fun _ h => h) hd (kk H locs ls hP hS hl)
theorem x_stld0 (C : CX X nL Y Z cc own ret F L) (j : Nat) {x v : Int32} (hx : x = nI j) (hj : j < 6) (hv : mOf j = v) (hd : decode cc pc = .ok (.iaload, 1)) (kk : WX X nL Y Z Q g (pc + 1) lv (.int v :: st)) : WX X nL Y Z Q g pc lv (.int x :: .ref (Z.2.2.2.1 0) :: st) := by
  subst hx; subst hv
  obtain ⟨p, l, e, R, s, m, args, below, meth, c⟩ := X
  intro H locs ls hP hS hl
  obtain ⟨hx, hb, hml, hown, hts, -, -, -, -, hK, hI, hEn⟩ := C
  exact va_ti hx hb hEn.2.1 hS (vp_in_nI hj (by decide)) (by rw [nI_clamp (by omega)]; rfl) hd (kk H locs ls hP hS hl)
theorem x_stld1 (C : CX X nL Y Z cc own ret F L) (j : Nat) {x v : Int32} (hx : x = nI j) (hj : j < 7) (hv : kAb j = v) (hd : decode cc pc = .ok (.iaload, 1)) (kk : WX X nL Y Z Q g (pc + 1) lv (.int v :: st)) : WX X nL Y Z Q g pc lv (.int x :: .ref (Z.2.2.2.1 1) :: st) := by
  subst hx; subst hv
  obtain ⟨p, l, e, R, s, m, args, below, meth, c⟩ := X
  intro H locs ls hP hS hl
  obtain ⟨hx, hb, hml, hown, hts, -, -, -, -, hK, hI, hEn⟩ := C
  exact va_ti hx hb hEn.2.2.2.1 hS (vp_in_nI hj (by decide)) (by rw [nI_clamp (by omega)]; rfl) hd (kk H locs ls hP hS hl)
theorem x_ldcS (C : CX X nL Y Z cc own ret F L) (hd : decode cc pc = .ok (.ldc index, 2)) (j : Nat) {tx : String} {i : Nat} (hj : txRef[j]? = some (own, index, tx, i)) (kk : WX X nL Y Z Q g (pc + 2) lv (.ref (Z.2.2.2.2.1 i) :: st)) : WX X nL Y Z Q g pc lv st := by
  obtain ⟨p, l, e, R, s, m, args, below, meth, c⟩ := X
  intro H locs ls hP hS hl
  obtain ⟨hx, hb, hml, hown, hts, -, -, -, -, hK, hI, hEn⟩ := C
  exact va_ldcS hx hb hown (hEn.2.2.2.2.2.2.2.2.2 _ (List.mem_of_getElem? hj)) hd (kk H locs ls hP hS hl)
end More
def mx (a b : Int32) : Int32 := if a < b then b else a
def mn (a b : Int32) : Int32 := if b < a then b else a
section More2
variable {X : XT} {Y : YT} {Z : ZT} {Q : State → Prop} {g : St} {pc : Nat} {lv lv' : List (Nat × Value)} {st : List Value} {cc : ByteArray} {own : String} {ret : Option FieldType} {F L nL index : Nat}
theorem x_dup2 (C : CX X nL Y Z cc own ret F L) {v w : Value} (hd : decode cc pc = .ok (.dup2, 1)) (hv : v.category = 1) (hw : w.category = 1) (k : WX X nL Y Z Q g (pc + 1) lv (v :: w :: v :: w :: st)) : WX X nL Y Z Q g pc lv (v :: w :: st) := by
  obtain ⟨p, l, e, R, s, m, args, below, meth, c⟩ := X
  exact fun H locs ls hP hS hl => lv_dup2_11 C.1 C.2.1 hd hv hw (k H locs ls hP hS hl)
theorem x_mx (C : CX X nL Y Z cc own ret F L) (hw : Cond.methodLink own index Lib.Math.max.name ∈ TT) (hF : 1 ≤ F) (hL : (st.map fun v => v.category).sum + 13 ≤ L) {x y : Int32} (hd : decode cc pc = .ok (.invokestatic index, 3)) (kk : WX X nL Y Z Q g (pc + 3) lv (.int (mx x y) :: st)) : WX X nL Y Z Q g pc lv (.int y :: .int x :: st) := x_max C hw hF hL hd kk
theorem x_mn (C : CX X nL Y Z cc own ret F L) (hw : Cond.methodLink own index Lib.Math.min.name ∈ TT) (hF : 1 ≤ F) (hL : (st.map fun v => v.category).sum + 13 ≤ L) {x y : Int32} (hd : decode cc pc = .ok (.invokestatic index, 3)) (kk : WX X nL Y Z Q g (pc + 3) lv (.int (mn x y) :: st)) : WX X nL Y Z Q g pc lv (.int y :: .int x :: st) := x_min C hw hF hL hd kk
end More2
