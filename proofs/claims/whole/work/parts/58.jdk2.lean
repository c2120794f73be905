section Tw
variable {X : XT} {Y : YT} {Z : ZT} {Q : State → Prop} {g : St} {pc : Nat} {lv lv' : List (Nat × Value)} {st : List Value} {cc : ByteArray} {own : String} {ret : Option FieldType} {F L nL index : Nat}
theorem x_ldcSw (C : CX X nL Y Z cc own ret F L) (hd : decode cc pc = .ok (.ldc_w index, 3)) (j : Nat) {tx : String} {i : Nat} (hj : txRef[j]? = some (own, index, tx, i)) (kk : WX X nL Y Z Q g (pc + 3) lv (.ref (Z.2.2.2.2.1 i) :: st)) : WX X nL Y Z Q g pc lv st := by
  obtain ⟨p, l, e, R, s, m, args, below, meth, c⟩ := X
  intro H locs ls hP hS hl
  obtain ⟨hx, hb, hml, hown, hts, -, -, -, -, hK, hI, hEn⟩ := C
  obtain ⟨h1, h2⟩ := hEn.2.2.2.2.2.2.2.2.2 _ (List.mem_of_getElem? hj)
  intro T hT V
  obtain ⟨t, a1, b1⟩ := kk H locs ls hP hS hl T hT V
  exact ⟨t, V.ldcStringW hx hown (text := tx) (a := Z.2.2.2.2.1 i) h1 h2 (g := F0 m pc ls st) rfl (by rw [hb]; exact hd) t a1, b1⟩
end Tw
