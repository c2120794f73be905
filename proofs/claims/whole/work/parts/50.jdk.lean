/-! the texts' methods: String.length, charAt over the constants, for both shapes -/
section Tx
variable {X : XT} {Y : YT} {Z : ZT} {Q : State → Prop} {g : St} {pc : Nat} {lv lv' : List (Nat × Value)} {st : List Value} {cc : ByteArray} {own : String} {ret : Option FieldType} {F L nL index : Nat}
theorem x_txcod (C : CX X nL Y Z cc own ret F L) {i : Nat} (hi : i < 13) (hw : Cond.fieldLink own index "java/lang/String" "coder" "B" ∈ TT) (hd : decode cc pc = .ok (.getfield index, 3)) (kk : WX X nL Y Z Q g (pc + 3) lv (.int 0 :: st)) : WX X nL Y Z Q g pc lv (.ref (Z.2.2.2.2.1 i) :: st) := by
  obtain ⟨p, l, e, R, s, m, args, below, meth, c⟩ := X
  intro H locs ls hP hS hl
  obtain ⟨hx, hb, hml, hown, hts, -, -, -, -, hK, hI, hEn⟩ := C
  exact vk_getf hx hb (hEn.2.2.2.2.2.2.2.2.1 i hi).2.1 hS hown (hts _ hw) (fun _ h => h) hd (kk H locs ls hP hS hl)
theorem x_txval (C : CX X nL Y Z cc own ret F L) {i : Nat} (hi : i < 13) (hw : Cond.fieldLink own index "java/lang/String" "value" "[B" ∈ TT) (hd : decode cc pc = .ok (.getfield index, 3)) (kk : WX X nL Y Z Q g (pc + 3) lv (.ref (Z.2.2.2.2.2 i) :: st)) : WX X nL Y Z Q g pc lv (.ref (Z.2.2.2.2.1 i) :: st) := by
  obtain ⟨p, l, e, R, s, m, args, below, meth, c⟩ := X
  intro H locs ls hP hS hl
  obtain ⟨hx, hb, hml, hown, hts, -, -, -, -, hK, hI, hEn⟩ := C
  exact vk_getf hx hb (hEn.2.2.2.2.2.2.2.2.1 i hi).2.2.1 hS hown (hts _ hw) (fun _ h => h) hd (kk H locs ls hP hS hl)
theorem x_tvlen (C : CX X nL Y Z cc own ret F L) {i : Nat} (hi : i < 13) (hd : decode cc pc = .ok (.arraylength, 1)) (kk : WX X nL Y Z Q g (pc + 1) lv (.int (nI (txLen.getD i 0)) :: st)) : WX X nL Y Z Q g pc lv (.ref (Z.2.2.2.2.2 i) :: st) := by
  obtain ⟨p, l, e, R, s, m, args, below, meth, c⟩ := X
  intro H locs ls hP hS hl
  obtain ⟨hx, hb, hml, hown, hts, -, -, -, -, hK, hI, hEn⟩ := C
  exact va_tlen hx hb (hEn.2.2.2.2.2.2.2.2.1 i hi).2.2.2 hS rfl hd (kk H locs ls hP hS hl)
theorem x_tvb (C : CX X nL Y Z cc own ret F L) {i k : Nat} (hi : i < 13) (hk : k < txLen.getD i 0) (hL : txLen.getD i 0 < 2 ^ 31) (hd : decode cc pc = .ok (.baload, 1)) (kk : WX X nL Y Z Q g (pc + 1) lv (.int ((txByt.getD i []).getD k 0) :: st)) : WX X nL Y Z Q g pc lv (.int (nI k) :: .ref (Z.2.2.2.2.2 i) :: st) := by
  obtain ⟨p, l, e, R, s, m, args, below, meth, c⟩ := X
  intro H locs ls hP hS hl
  obtain ⟨hx, hb, hml, hown, hts, -, -, -, -, hK, hI, hEn⟩ := C
  exact va_tb hx hb (hEn.2.2.2.2.2.2.2.2.1 i hi).2.2.2 hS (vp_in_nI hk hL) (by rw [nI_clamp (by omega)]) hd (kk H locs ls hP hS hl)
theorem x_cmps (C : CX X nL Y Z cc own ret F L) (hw : Cond.fieldLink own index "java/lang/String" "COMPACT_STRINGS" "Z" ∈ TT) (hd : decode cc pc = .ok (.getstatic index, 3)) (kk : WX X nL Y Z Q g (pc + 3) lv (.int 1 :: st)) : WX X nL Y Z Q g pc lv st := by
  obtain ⟨p, l, e, R, s, m, args, below, meth, c⟩ := X
  intro H locs ls hP hS hl
  obtain ⟨hx, hb, hml, hown, hts, -, -, -, -, hK, hI, hEn⟩ := C
  exact va_gets hx hb hEn.2.2.2.2.1 hS hown (hts _ hw) (fun _ h => h) hd (kk H locs ls hP hS hl)
theorem x_fmt (C : CX X nL Y Z cc own ret F L) (hw : Cond.fieldLink own index "jdk/internal/util/Preconditions" "SIOOBE_FORMATTER" "Ljava/util/function/BiFunction;" ∈ TT) (hd : decode cc pc = .ok (.getstatic index, 3)) (k0 : WX X nL Y Z Q g (pc + 3) lv (.null :: st)) (k1 : ∀ t : Nat, WX X nL Y Z Q g (pc + 3) lv (.ref t :: st)) : WX X nL Y Z Q g pc lv st := by
  obtain ⟨p, l, e, R, s, m, args, below, meth, c⟩ := X
  intro H locs ls hP hS hl
  obtain ⟨hx, hb, hml, hown, hts, -, -, -, -, hK, hI, hEn⟩ := C
  rcases hEn.2.2.2.2.2.1 with h | ⟨t, h⟩
  · exact va_gets hx hb h hS hown (hts _ hw) (fun _ h => h) hd (k0 H locs ls hP hS hl)
  · exact va_gets hx hb h hS hown (hts _ hw) (fun _ h => h) hd (k1 t H locs ls hP hS hl)
theorem x_i2c (C : CX X nL Y Z cc own ret F L) {x v : Int32} (hd : decode cc pc = .ok (.i2c, 1)) (hv : (x.toUInt32 % 65536).toInt32 = v) (k : WX X nL Y Z Q g (pc + 1) lv (.int v :: st)) : WX X nL Y Z Q g pc lv (.int x :: st) := by
  obtain ⟨p, l, e, R, s, m, args, below, meth, c⟩ := X
  exact fun H locs ls hP hS hl => lv_i2c C.1 C.2.1 hd hv (k H locs ls hP hS hl)
theorem x_tret {ty : FieldType} (C : CX X nL Y Z cc own (some ty) F L) {x r : Int32} {g' : St} (hn : narrow ty (.int x) = .int x) (hr : x = r) (hg : g = g') (hd : decode cc pc = .ok (.ireturn, 1)) : WX X nL Y Z (QX X Y Z (QcI Y Z r g')) g pc lv [.int x] := by
  subst hr; subst hg
  obtain ⟨p, l, e, R, s, m, args, below, meth, c⟩ := X
  intro H locs ls hP hS hl
  obtain ⟨hx, hb, hml, hown, hts, hrt, hlk, -⟩ := C
  exact W.zret hx hb hrt hn (fun t ht hW => ⟨⟨x, g, rfl, ⟨rfl, rfl⟩, by show va_P _ _ _ t.heap; rw [ht]; exact hP⟩, hS.F ht⟩) hS.2.2 hd hlk
theorem x_callTi {y : MethodName} {cc' : ByteArray} {maxL' : Nat} {ret' : Option FieldType} {F' L' n : Nat} {As : List Value} {g' : St} {st0 : List Value} (C : CX X nL Y Z cc own ret F L) {r : Int32} {i : Nat} (hi13 : i < 13) (hM : CT Y Z y cc' maxL' ret' F' L' (.ref (Z.2.2.2.2.1 i) :: As) g (QcI Y Z r g')) (hi : MI y cc' maxL' ret' n) (hw : Cond.methodLink own index y ∈ TT) (hc : y.cls = "java/lang/String") (hR : F' + 1 ≤ F ∧ 8 + (maxL' + 11) + L' ≤ L) (hn : As.length = n) (hst : As.reverse ++ .ref (Z.2.2.2.2.1 i) :: st = st0) (hcat : (st.map fun v => v.category).sum ≤ 8) (hd : decode cc pc = .ok (.invokevirtual index, 3)) (kk : WX X nL Y Z Q g' (pc + 3) lv (.int r :: st)) : WX X nL Y Z Q g pc lv st0 := by
  subst hst
  obtain ⟨p, l, e, R, s, m, args, below, meth, c⟩ := X
  intro H locs ls hP hS hl
  obtain ⟨hx, hb, hml, hown, hts, -, -, hFr, hLo, hK, hI, hEn⟩ := C
  refine va_calli (va_runV (As := As) (rest := st) ⟨hx, hb, hml, hown, hts⟩ (hM l) ⟨callB_of n hts (code_in hi.2.2.2.1) rfl rfl rfl (hts _ hi.2.2.1) (hts _ hw) hi.2.2.2.2 ⟨Nat.le_trans hR.1 hFr, Nat.le_trans hR.2 hLo⟩, hts _ hi.1, hts _ hi.2.1⟩ ⟨SysAt.blind, by rw [hc]; exact va_Orecv (hEn.2.2.2.2.2.2.2.2.1 i hi13).1 hS, fun U hU hW => ⟨rfl, by rw [hU]; exact hP, va_K.moved hW.alike hK, hI, by rw [hU]; exact (hEn.kept hS.2.1).warm hW⟩⟩ rfl hn hl.1 rfl (lv_room hcat) hd ⟨Nat.zero_le _, Nat.zero_le _⟩) hS (fun q _ h => h) (fun q h => h) (fun r1 u t H1 locs1 ht hvm hq hB _ _ hS1 => ?_)
  obtain ⟨rfl, rfl⟩ := hq
  have hB : va_P Z.1 cls (sw Y Z _) t.heap := hB
  rw [ht] at hB
  exact kk H1 locs1 ls hB hS1 hl
theorem x_pop (C : CX X nL Y Z cc own ret F L) {v : Value} (hd : decode cc pc = .ok (.pop, 1)) (hv : v.category = 1) (k : WX X nL Y Z Q g (pc + 1) lv st) : WX X nL Y Z Q g pc lv (v :: st) := by
  obtain ⟨p, l, e, R, s, m, args, below, meth, c⟩ := X
  exact fun H locs ls hP hS hl => lv_pop C.1 C.2.1 hd hv (k H locs ls hP hS hl)
end Tx
theorem tx_small : ∀ i, i < 13 → txLen.getD i 0 ≤ 8 := by decide
def tch (i k : Nat) : Int32 := (txByt.getD i []).getD k 0
theorem tch_all : ∀ i, i < 13 → ∀ k, k < 8 → tch i k &&& 255 = tch i k := by decide +kernel
theorem c_JP_checkIndex_0 (Y : YT) (Z : ZT) (k n : Nat) (hk : k < n) (hn : n < 2 ^ 31) (g : St) : CT Y Z y_JP_checkIndex b_JP_checkIndex 3 (some .int) 0 0 [.int (nI k), .int (nI n), .null] g (QcI Y Z (nI k) g) := by
  refine CT.mk "jdk/internal/util/Preconditions" (by decide) rfl (Nat.le_of_ble_eq_true rfl) (fun X C => ?_)
  refine x_lv [0, 1] (lv' := [(0, .int (nI k)), (1, .int (nI n))]) rfl ?_
  refine x_iload_n C d_JP_checkIndex_0 0 rfl rfl ?_
  refine x_iflt C d_JP_checkIndex_1 9 (by decide) (fun h => absurd h (nI_pos (by omega))) (fun _ => ?_)
  refine x_iload_n C d_JP_checkIndex_4 0 rfl rfl ?_
  refine x_iload_n C d_JP_checkIndex_5 1 rfl rfl ?_
  refine x_icmp_lt C d_JP_checkIndex_6 16 (by decide) (fun _ => ?_) (fun h => absurd (nI_lt hk hn) h)
  refine x_iload_n C d_JP_checkIndex_16 0 rfl rfl ?_
  exact x_iret C rfl rfl d_JP_checkIndex_17
theorem c_JP_checkIndex_1 (Y : YT) (Z : ZT) (k n t : Nat) (hk : k < n) (hn : n < 2 ^ 31) (g : St) : CT Y Z y_JP_checkIndex b_JP_checkIndex 3 (some .int) 0 0 [.int (nI k), .int (nI n), .ref t] g (QcI Y Z (nI k) g) := by
  refine CT.mk "jdk/internal/util/Preconditions" (by decide) rfl (Nat.le_of_ble_eq_true rfl) (fun X C => ?_)
  refine x_lv [0, 1] (lv' := [(0, .int (nI k)), (1, .int (nI n))]) rfl ?_
  refine x_iload_n C d_JP_checkIndex_0 0 rfl rfl ?_
  refine x_iflt C d_JP_checkIndex_1 9 (by decide) (fun h => absurd h (nI_pos (by omega))) (fun _ => ?_)
  refine x_iload_n C d_JP_checkIndex_4 0 rfl rfl ?_
  refine x_iload_n C d_JP_checkIndex_5 1 rfl rfl ?_
  refine x_icmp_lt C d_JP_checkIndex_6 16 (by decide) (fun _ => ?_) (fun h => absurd (nI_lt hk hn) h)
  refine x_iload_n C d_JP_checkIndex_16 0 rfl rfl ?_
  exact x_iret C rfl rfl d_JP_checkIndex_17
theorem c_JS_checkIndex (Y : YT) (Z : ZT) (k n : Nat) (hk : k < n) (hn : n < 2 ^ 31) (g : St) : CT Y Z y_JS_checkIndex b_JS_checkIndex 2 none 1 22 [.int (nI k), .int (nI n)] g (QcV Y Z g) := by
  refine CT.mk "java/lang/String" (by decide) rfl (Nat.le_of_ble_eq_true rfl) (fun X C => ?_)
  refine x_lv [0, 1] (lv' := [(0, .int (nI k)), (1, .int (nI n))]) rfl ?_
  refine x_iload_n C d_JS_checkIndex_0 0 rfl rfl ?_
  refine x_iload_n C d_JS_checkIndex_1 1 rfl rfl ?_
  refine x_fmt C k_615 d_JS_checkIndex_2 ?_ (fun t => ?_)
  · refine x_callSi C (c_JP_checkIndex_0 Y Z k n hk hn g) mi_JP_checkIndex k_617 (As := [.int (nI k), .int (nI n), .null]) ⟨Nat.le_of_ble_eq_true rfl, Nat.le_of_ble_eq_true rfl⟩ rfl rfl (Nat.le_of_ble_eq_true rfl) d_JS_checkIndex_5 ?_
    refine x_pop C d_JS_checkIndex_8 rfl ?_
    exact x_vret C rfl d_JS_checkIndex_9
  · refine x_callSi C (c_JP_checkIndex_1 Y Z k n t hk hn g) mi_JP_checkIndex k_617 (As := [.int (nI k), .int (nI n), .ref t]) ⟨Nat.le_of_ble_eq_true rfl, Nat.le_of_ble_eq_true rfl⟩ rfl rfl (Nat.le_of_ble_eq_true rfl) d_JS_checkIndex_5 ?_
    refine x_pop C d_JS_checkIndex_8 rfl ?_
    exact x_vret C rfl d_JS_checkIndex_9
theorem c_JL_charAt (Y : YT) (Z : ZT) (i k : Nat) (hi : i < 13) (hk : k < txLen.getD i 0) (g : St) : CT Y Z y_JL_charAt b_JL_charAt 2 (some .char) 2 43 [.ref (Z.2.2.2.2.2 i), .int (nI k)] g (QcI Y Z (tch i k) g) := by
  have hL := tx_small i hi
  refine CT.mk "java/lang/StringLatin1" (by decide) rfl (Nat.le_of_ble_eq_true rfl) (fun X C => ?_)
  refine x_lv [0, 1] (lv' := [(0, .ref (Z.2.2.2.2.2 i)), (1, .int (nI k))]) rfl ?_
  refine x_iload_n C d_JL_charAt_0 1 rfl rfl ?_
  refine x_aload_n C d_JL_charAt_1 0 rfl rfl ?_
  refine x_tvlen C hi d_JL_charAt_2 ?_
  refine x_callSv C (c_JS_checkIndex Y Z k _ hk (by omega) g) mi_JS_checkIndex k_612 (As := [.int (nI k), .int (nI (txLen.getD i 0))]) ⟨Nat.le_of_ble_eq_true rfl, Nat.le_of_ble_eq_true rfl⟩ rfl rfl (Nat.le_of_ble_eq_true rfl) d_JL_charAt_3 ?_
  refine x_aload_n C d_JL_charAt_6 0 rfl rfl ?_
  refine x_iload_n C d_JL_charAt_7 1 rfl rfl ?_
  refine x_tvb C hi hk (by omega) d_JL_charAt_8 ?_
  refine x_sipush C d_JL_charAt_9 (v := 255) (by decide) ?_
  refine x_iand C d_JL_charAt_12 ?_
  refine x_i2c C d_JL_charAt_13 (sc_c2 _) ?_
  exact x_tret C (sc_nar _) (tch_all i hi k (by omega)) rfl d_JL_charAt_14
theorem c_JS_isLatin1 (Y : YT) (Z : ZT) (i : Nat) (hi : i < 13) (g : St) : CT Y Z y_JS_isLatin1 b_JS_isLatin1 1 (some .boolean) 0 0 [.ref (Z.2.2.2.2.1 i)] g (QcI Y Z 1 g) := by
  refine CT.mk "java/lang/String" (by decide) rfl (Nat.le_of_ble_eq_true rfl) (fun X C => ?_)
  refine x_lv [0] (lv' := [(0, .ref (Z.2.2.2.2.1 i))]) rfl ?_
  refine x_cmps C k_599 d_JS_isLatin1_0 ?_
  refine x_ifeq C d_JS_isLatin1_3 17 (by decide) (fun h => absurd h (by decide)) (fun _ => ?_)
  refine x_aload_n C d_JS_isLatin1_6 0 rfl rfl ?_
  refine x_txcod C hi k_1263 d_JS_isLatin1_7 ?_
  refine x_ifne C d_JS_isLatin1_10 17 (by decide) (fun h => absurd rfl h) (fun _ => ?_)
  refine x_iconst C d_JS_isLatin1_13 (v := 1) (by decide) ?_
  refine x_goto C d_JS_isLatin1_14 18 (by decide) ?_
  exact x_zret C (by decide) rfl rfl d_JS_isLatin1_18
theorem c_JS_charAt (Y : YT) (Z : ZT) (i k : Nat) (hi : i < 13) (hk : k < txLen.getD i 0) (g : St) : CT Y Z y_JS_charAt b_JS_charAt 2 (some .char) 3 64 [.ref (Z.2.2.2.2.1 i), .int (nI k)] g (QcI Y Z (tch i k) g) := by
  have hL := tx_small i hi
  refine CT.mk "java/lang/String" (by decide) rfl (Nat.le_of_ble_eq_true rfl) (fun X C => ?_)
  refine x_lv [0, 1] (lv' := [(0, .ref (Z.2.2.2.2.1 i)), (1, .int (nI k))]) rfl ?_
  refine x_aload_n C d_JS_charAt_0 0 rfl rfl ?_
  refine x_callTi C hi (c_JS_isLatin1 Y Z i hi g) mi_JS_isLatin1 k_605 rfl (As := []) ⟨Nat.le_of_ble_eq_true rfl, Nat.le_of_ble_eq_true rfl⟩ rfl rfl (Nat.le_of_ble_eq_true rfl) d_JS_charAt_1 ?_
  refine x_ifeq C d_JS_charAt_4 16 (by decide) (fun h => absurd h (by decide)) (fun _ => ?_)
  refine x_aload_n C d_JS_charAt_7 0 rfl rfl ?_
  refine x_txval C hi k_1262 d_JS_charAt_8 ?_
  refine x_iload_n C d_JS_charAt_11 1 rfl rfl ?_
  refine x_callSi C (c_JL_charAt Y Z i k hi hk g) mi_JL_charAt k_609 (As := [.ref (Z.2.2.2.2.2 i), .int (nI k)]) ⟨Nat.le_of_ble_eq_true rfl, Nat.le_of_ble_eq_true rfl⟩ rfl rfl (Nat.le_of_ble_eq_true rfl) d_JS_charAt_12 ?_
  exact x_tret C (by rw [← tch_all i hi k (by omega)]; exact sc_nar _) rfl rfl d_JS_charAt_15
theorem c_JS_coder (Y : YT) (Z : ZT) (i : Nat) (hi : i < 13) (g : St) : CT Y Z y_JS_coder b_JS_coder 1 (some .byte) 0 0 [.ref (Z.2.2.2.2.1 i)] g (QcI Y Z 0 g) := by
  refine CT.mk "java/lang/String" (by decide) rfl (Nat.le_of_ble_eq_true rfl) (fun X C => ?_)
  refine x_lv [0] (lv' := [(0, .ref (Z.2.2.2.2.1 i))]) rfl ?_
  refine x_cmps C k_599 d_JS_coder_0 ?_
  refine x_ifeq C d_JS_coder_3 13 (by decide) (fun h => absurd h (by decide)) (fun _ => ?_)
  refine x_aload_n C d_JS_coder_6 0 rfl rfl ?_
  refine x_txcod C hi k_1263 d_JS_coder_7 ?_
  refine x_goto C d_JS_coder_10 14 (by decide) ?_
  exact x_tret C rfl rfl rfl d_JS_coder_14
theorem c_JS_length (Y : YT) (Z : ZT) (i : Nat) (hi : i < 13) (g : St) : CT Y Z y_JS_length b_JS_length 1 (some .int) 1 20 [.ref (Z.2.2.2.2.1 i)] g (QcI Y Z (nI (txLen.getD i 0)) g) := by
  have hL := tx_small i hi
  refine CT.mk "java/lang/String" (by decide) rfl (Nat.le_of_ble_eq_true rfl) (fun X C => ?_)
  refine x_lv [0] (lv' := [(0, .ref (Z.2.2.2.2.1 i))]) rfl ?_
  refine x_aload_n C d_JS_length_0 0 rfl rfl ?_
  refine x_txval C hi k_1262 d_JS_length_1 ?_
  refine x_tvlen C hi d_JS_length_4 ?_
  refine x_aload_n C d_JS_length_5 0 rfl rfl ?_
  refine x_callTi C hi (c_JS_coder Y Z i hi g) mi_JS_coder k_595 rfl (As := []) ⟨Nat.le_of_ble_eq_true rfl, Nat.le_of_ble_eq_true rfl⟩ rfl rfl (Nat.le_of_ble_eq_true rfl) d_JS_length_6 ?_
  refine x_ishr C d_JS_length_9 ?_
  exact x_iret C (sc_shr0 (by omega)) rfl d_JS_length_10
