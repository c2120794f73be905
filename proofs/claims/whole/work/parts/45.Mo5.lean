section Lc
variable {X : XT} {Y : YT} {Z : ZT} {Q : State → Prop} {g : St} {pc : Nat} {lv : List (Nat × Value)} {st : List Value} {cc : ByteArray} {own : String} {ret : Option FieldType} {F L nL : Nat}
theorem x_lcmp (C : CX X nL Y Z cc own ret F L) {x y : Int64} (hd : decode cc pc = .ok (.lcmp, 1)) (k : WX X nL Y Z Q g (pc + 1) lv (.int (lg_cmp x y) :: st)) : WX X nL Y Z Q g pc lv (.long y :: .long x :: st) := by
  obtain ⟨p, l, e, R, s, m, args, below, meth, c⟩ := X
  exact fun H locs ls hP hS hl => W.lcmp C.1 C.2.1 hd (k H locs ls hP hS hl)
end Lc
def abv (k : Int32) : Int32 := if k = 0 then -1 else if k = 3 then 2 else if k = 4 then 3 else if k = 6 then 1 else 0
theorem va_id3 {g : St} {a b c t : Nat} {A B D : Nat → Int32} (h : t ≠ a) (h' : t ≠ b) (h2 : t ≠ c) : va_up (va_up (va_up (va_up g a A) b B) c D) t (g t) = va_up (va_up (va_up g a A) b B) c D := by
  have := va_idn (g := va_up (va_up g a A) b B) (t := c) (t' := t) (R := D) h2
  rw [va_up_ne _ _ h', va_up_ne _ _ h] at this
  exact this
def zerM (r : Nat → Int32) (s : Nat) : Nat → Nat → Int32
  | 0 => r
  | i + 1 => upd (zerM r s i) (40 * s + i) 0
theorem drsM_1 {r : Nat → Int32} {k : Nat} : drsM r k 1 = r 1 := by
  induction k with
  | zero => rfl
  | succ k ih => exact (dayM_1 (by omega) (by omega)).trans ((drnR_01 (by omega)).trans ih)
theorem fa_orI (a b : Nat) : nI a ||| nI b = nI (a ||| b) := by
  apply Int32.toBitVec_inj.1
  show BitVec.ofNat 32 a ||| BitVec.ofNat 32 b = BitVec.ofNat 32 (a ||| b)
  apply BitVec.eq_of_getLsbD_eq
  intro i hi
  simp [hi]
theorem sea_lt {r : Nat → Int32} {n : Nat} (hn : n ≤ 8) : ∃ x, x < 2 ^ n ∧ seaN r n = nI x := by
  induction n with
  | zero => exact ⟨0, by decide, rfl⟩
  | succ n ih =>
    obtain ⟨x, hx, e⟩ := ih (by omega)
    have hp : 2 ^ (n + 1) = 2 * 2 ^ n := by rw [Nat.pow_succ]; omega
    unfold seaN
    split
    · refine ⟨x + 2 ^ n, by omega, ?_⟩
      rw [e]
      unfold bit
      rw [shl_n (by omega)]
      have h1 := Nat.two_pow_add_eq_or_of_lt hx 1
      rw [Nat.mul_one] at h1
      show nI x ||| nI (2 ^ n) = _
      rw [Nat.add_comm, h1, Nat.or_comm]
      exact fa_orI _ _
    · exact ⟨x, by omega, e⟩

set_option maxRecDepth 100000 in
set_option maxHeartbeats 600000 in
theorem c_Mo_cutTo (Z : ZT) (v b : Int32) (g : St)  : CT yM Z y_Mo_cutTo b_Mo_cutTo 2 (some (.int)) 0 0 [.int (v), .int (b)] (g) (QcI yM Z (cutv b v) (g)) := by
  refine CT.mk "TunnelPeaceModel" (by decide) rfl (Nat.le_of_ble_eq_true rfl) (fun X C => ?_)
  refine x_lv [0, 1] (lv' := [(0, .int (v)), (1, .int (b))]) rfl ?_
  refine x_iload_n C d_Mo_cutTo_0 1 rfl rfl ?_
  refine x_bipush C d_Mo_cutTo_1 (v := 8) (by decide) ?_
  refine x_icmp_ne C d_Mo_cutTo_3 11 (by decide) (fun c_1 => ?_) (fun c_1 => ?_)
  · have nc_1 := Ne.symm c_1
    refine x_iload_n C d_Mo_cutTo_11 1 rfl rfl ?_
    refine x_bipush C d_Mo_cutTo_12 (v := 16) (by decide) ?_
    refine x_icmp_ne C d_Mo_cutTo_14 22 (by decide) (fun c_2 => ?_) (fun c_2 => ?_)
    · have nc_2 := Ne.symm c_2
      refine x_iload_n C d_Mo_cutTo_22 0 rfl rfl ?_
      exact x_iret C (by simp [cutv, *]) rfl d_Mo_cutTo_23
    · refine x_iload_n C d_Mo_cutTo_17 0 rfl rfl ?_
      refine x_i2s C d_Mo_cutTo_18 ?_
      refine x_goto C d_Mo_cutTo_19 23 (by decide) ?_
      exact x_iret C (by simp [cutv, *]) rfl d_Mo_cutTo_23
  · refine x_iload_n C d_Mo_cutTo_6 0 rfl rfl ?_
    refine x_i2b C d_Mo_cutTo_7 ?_
    refine x_goto C d_Mo_cutTo_8 23 (by decide) ?_
    exact x_iret C (by simp [cutv, *]) rfl d_Mo_cutTo_23

set_option maxRecDepth 100000 in
set_option maxHeartbeats 600000 in
theorem c_Mo_above (Z : ZT) (k : Int32) (g : St)  : CT yM Z y_Mo_above b_Mo_above 1 (some (.int)) 0 0 [.int (k)] (g) (QcI yM Z (abv k) (g)) := by
  refine CT.mk "TunnelPeaceModel" (by decide) rfl (Nat.le_of_ble_eq_true rfl) (fun X C => ?_)
  refine x_lv [0] (lv' := [(0, .int (k))]) rfl ?_
  refine x_iload_n C d_Mo_above_0 0 rfl rfl ?_
  refine x_ifne C d_Mo_above_1 8 (by decide) (fun c_1 => ?_) (fun c_1 => ?_)
  · refine x_iload_n C d_Mo_above_8 0 rfl rfl ?_
    refine x_iconst C d_Mo_above_9 (v := 3) (by decide) ?_
    refine x_icmp_ne C d_Mo_above_10 17 (by decide) (fun c_2 => ?_) (fun c_2 => ?_)
    · have nc_2 := Ne.symm c_2
      refine x_iload_n C d_Mo_above_17 0 rfl rfl ?_
      refine x_iconst C d_Mo_above_18 (v := 4) (by decide) ?_
      refine x_icmp_ne C d_Mo_above_19 26 (by decide) (fun c_3 => ?_) (fun c_3 => ?_)
      · have nc_3 := Ne.symm c_3
        refine x_iload_n C d_Mo_above_26 0 rfl rfl ?_
        refine x_bipush C d_Mo_above_27 (v := 6) (by decide) ?_
        refine x_icmp_ne C d_Mo_above_29 36 (by decide) (fun c_4 => ?_) (fun c_4 => ?_)
        · have nc_4 := Ne.symm c_4
          refine x_iconst C d_Mo_above_36 (v := 0) (by decide) ?_
          exact x_iret C (by simp [abv, *]) rfl d_Mo_above_37
        · refine x_iconst C d_Mo_above_32 (v := 1) (by decide) ?_
          refine x_goto C d_Mo_above_33 37 (by decide) ?_
          exact x_iret C (by simp [abv, *]) rfl d_Mo_above_37
      · refine x_iconst C d_Mo_above_22 (v := 3) (by decide) ?_
        refine x_goto C d_Mo_above_23 37 (by decide) ?_
        exact x_iret C (by simp [abv, *]) rfl d_Mo_above_37
    · refine x_iconst C d_Mo_above_13 (v := 2) (by decide) ?_
      refine x_goto C d_Mo_above_14 37 (by decide) ?_
      exact x_iret C (by simp [abv, *]) rfl d_Mo_above_37
  · refine x_iconst C d_Mo_above_4 (v := -1) (by decide) ?_
    refine x_goto C d_Mo_above_5 37 (by decide) ?_
    exact x_iret C (by simp [abv, *]) rfl d_Mo_above_37

set_option maxRecDepth 100000 in
set_option maxHeartbeats 600000 in
theorem c_Mo_isUnder (Z : ZT) (k : Nat) (hk : k < 7) (w : Int32) (g : St)  : CT yM Z y_Mo_isUnder b_Mo_isUnder 3 (some (.boolean)) 1 20 [.int (nI k), .int (w)] (g) (QcI yM Z (bI (isU (nI k) w = true)) (g)) := by
  refine CT.mk "TunnelPeaceModel" (by decide) rfl (Nat.le_of_ble_eq_true rfl) (fun X C => ?_)
  refine x_lv [0, 1] (lv' := [(0, .int (nI k)), (1, .int (w))]) rfl ?_
  rcases (show k = 0 ∨ k = 1 ∨ k = 2 ∨ k = 3 ∨ k = 4 ∨ k = 5 ∨ k = 6 by omega) with rfl | rfl | rfl | rfl | rfl | rfl | rfl
  · refine x_iload_n C d_Mo_isUnder_0 0 rfl rfl ?_
    refine x_istore_n C d_Mo_isUnder_1 rfl (by decide) (lv' := [(2, .int (nI 0)), (0, .int (nI 0)), (1, .int (w))]) rfl ?_
    refine x_iload_n C d_Mo_isUnder_2 0 rfl rfl ?_
    refine x_iflt C d_Mo_isUnder_3 19 (by decide) (fun c_1 => ?_) (fun c_1 => ?_)
    · exact absurd c_1 (by decide)
    · have nc_1 := Int32.not_lt.mp c_1
      refine x_iload_n C d_Mo_isUnder_6 0 rfl rfl ?_
      refine x_iload_n C d_Mo_isUnder_7 2 rfl rfl ?_
      refine x_icmp_eq C d_Mo_isUnder_8 19 (by decide) (fun c_2 => ?_) (fun c_2 => ?_)
      · refine x_iload_n C d_Mo_isUnder_19 0 rfl rfl ?_
        refine x_iflt C d_Mo_isUnder_20 27 (by decide) (fun c_3 => ?_) (fun c_3 => ?_)
        · exact absurd c_3 (by decide)
        · have nc_3 := Int32.not_lt.mp c_3
          refine x_iconst C d_Mo_isUnder_23 (v := 1) (by decide) ?_
          refine x_goto C d_Mo_isUnder_24 28 (by decide) ?_
          exact x_zret C (by decide) (bI_t (by subst w; decide)).symm rfl d_Mo_isUnder_28
      · have nc_2 := Ne.symm c_2
        refine x_iload_n C d_Mo_isUnder_11 0 rfl rfl ?_
        refine x_callSi C (c_Mo_above Z (nI 0) (g)) mi_Mo_above k_1214 (As := [.int (nI 0)]) ⟨Nat.le_of_ble_eq_true rfl, Nat.le_of_ble_eq_true rfl⟩ rfl rfl (Nat.le_of_ble_eq_true rfl) d_Mo_isUnder_12 ?_
        refine x_topi (x' := (-1)) (by decide) ?_
        refine x_istore_n C d_Mo_isUnder_15 rfl (by decide) (lv' := [(2, .int ((-1))), (0, .int (nI 0)), (1, .int (w))]) rfl ?_
        refine x_goto C d_Mo_isUnder_16 2 (by decide) ?_
        refine x_iload_n C d_Mo_isUnder_2 0 rfl rfl ?_
        refine x_iflt C d_Mo_isUnder_3 19 (by decide) (fun c_4 => ?_) (fun c_4 => ?_)
        · have nc_4 := Int32.not_le.mpr c_4
          refine x_iload_n C d_Mo_isUnder_19 0 rfl rfl ?_
          refine x_iflt C d_Mo_isUnder_20 27 (by decide) (fun c_5 => ?_) (fun c_5 => ?_)
          · have nc_5 := Int32.not_le.mpr c_5
            refine x_iconst C d_Mo_isUnder_27 (v := 0) (by decide) ?_
            exact x_zret C (by decide) (bI_f (show ¬ isU (0 : Int32) w = true by simp [isU, *]; exact (show w ≠ nI 0 by assumption))).symm rfl d_Mo_isUnder_28
          · exact absurd c_5 (by decide)
        · exact absurd c_4 (by decide)
  · refine x_iload_n C d_Mo_isUnder_0 0 rfl rfl ?_
    refine x_istore_n C d_Mo_isUnder_1 rfl (by decide) (lv' := [(2, .int (nI 1)), (0, .int (nI 1)), (1, .int (w))]) rfl ?_
    refine x_iload_n C d_Mo_isUnder_2 0 rfl rfl ?_
    refine x_iflt C d_Mo_isUnder_3 19 (by decide) (fun c_6 => ?_) (fun c_6 => ?_)
    · exact absurd c_6 (by decide)
    · have nc_6 := Int32.not_lt.mp c_6
      refine x_iload_n C d_Mo_isUnder_6 0 rfl rfl ?_
      refine x_iload_n C d_Mo_isUnder_7 2 rfl rfl ?_
      refine x_icmp_eq C d_Mo_isUnder_8 19 (by decide) (fun c_7 => ?_) (fun c_7 => ?_)
      · refine x_iload_n C d_Mo_isUnder_19 0 rfl rfl ?_
        refine x_iflt C d_Mo_isUnder_20 27 (by decide) (fun c_8 => ?_) (fun c_8 => ?_)
        · exact absurd c_8 (by decide)
        · have nc_8 := Int32.not_lt.mp c_8
          refine x_iconst C d_Mo_isUnder_23 (v := 1) (by decide) ?_
          refine x_goto C d_Mo_isUnder_24 28 (by decide) ?_
          exact x_zret C (by decide) (bI_t (by subst w; decide)).symm rfl d_Mo_isUnder_28
      · have nc_7 := Ne.symm c_7
        refine x_iload_n C d_Mo_isUnder_11 0 rfl rfl ?_
        refine x_callSi C (c_Mo_above Z (nI 1) (g)) mi_Mo_above k_1214 (As := [.int (nI 1)]) ⟨Nat.le_of_ble_eq_true rfl, Nat.le_of_ble_eq_true rfl⟩ rfl rfl (Nat.le_of_ble_eq_true rfl) d_Mo_isUnder_12 ?_
        refine x_topi (x' := 0) (by decide) ?_
        refine x_istore_n C d_Mo_isUnder_15 rfl (by decide) (lv' := [(2, .int (0)), (0, .int (nI 1)), (1, .int (w))]) rfl ?_
        refine x_goto C d_Mo_isUnder_16 2 (by decide) ?_
        refine x_iload_n C d_Mo_isUnder_2 0 rfl rfl ?_
        refine x_iflt C d_Mo_isUnder_3 19 (by decide) (fun c_9 => ?_) (fun c_9 => ?_)
        · exact absurd c_9 (by decide)
        · have nc_9 := Int32.not_lt.mp c_9
          refine x_iload_n C d_Mo_isUnder_6 0 rfl rfl ?_
          refine x_iload_n C d_Mo_isUnder_7 2 rfl rfl ?_
          refine x_icmp_eq C d_Mo_isUnder_8 19 (by decide) (fun c_10 => ?_) (fun c_10 => ?_)
          · replace c_10 := Eq.symm c_10
            refine x_iload_n C d_Mo_isUnder_19 0 rfl rfl ?_
            refine x_iflt C d_Mo_isUnder_20 27 (by decide) (fun c_11 => ?_) (fun c_11 => ?_)
            · exact absurd c_11 (by decide)
            · have nc_11 := Int32.not_lt.mp c_11
              refine x_iconst C d_Mo_isUnder_23 (v := 1) (by decide) ?_
              refine x_goto C d_Mo_isUnder_24 28 (by decide) ?_
              exact x_zret C (by decide) (bI_t (by subst w; decide)).symm rfl d_Mo_isUnder_28
          · have nc_10 := Ne.symm c_10
            refine x_iload_n C d_Mo_isUnder_11 0 rfl rfl ?_
            refine x_callSi C (c_Mo_above Z 0 (g)) mi_Mo_above k_1214 (As := [.int (0)]) ⟨Nat.le_of_ble_eq_true rfl, Nat.le_of_ble_eq_true rfl⟩ rfl rfl (Nat.le_of_ble_eq_true rfl) d_Mo_isUnder_12 ?_
            refine x_topi (x' := (-1)) (by decide) ?_
            refine x_istore_n C d_Mo_isUnder_15 rfl (by decide) (lv' := [(2, .int ((-1))), (0, .int (nI 1)), (1, .int (w))]) rfl ?_
            refine x_goto C d_Mo_isUnder_16 2 (by decide) ?_
            refine x_iload_n C d_Mo_isUnder_2 0 rfl rfl ?_
            refine x_iflt C d_Mo_isUnder_3 19 (by decide) (fun c_12 => ?_) (fun c_12 => ?_)
            · have nc_12 := Int32.not_le.mpr c_12
              refine x_iload_n C d_Mo_isUnder_19 0 rfl rfl ?_
              refine x_iflt C d_Mo_isUnder_20 27 (by decide) (fun c_13 => ?_) (fun c_13 => ?_)
              · have nc_13 := Int32.not_le.mpr c_13
                refine x_iconst C d_Mo_isUnder_27 (v := 0) (by decide) ?_
                exact x_zret C (by decide) (bI_f (show ¬ isU (1 : Int32) w = true by simp [isU, *]; exact (show w ≠ nI 1 by assumption))).symm rfl d_Mo_isUnder_28
              · exact absurd c_13 (by decide)
            · exact absurd c_12 (by decide)
  · refine x_iload_n C d_Mo_isUnder_0 0 rfl rfl ?_
    refine x_istore_n C d_Mo_isUnder_1 rfl (by decide) (lv' := [(2, .int (nI 2)), (0, .int (nI 2)), (1, .int (w))]) rfl ?_
    refine x_iload_n C d_Mo_isUnder_2 0 rfl rfl ?_
    refine x_iflt C d_Mo_isUnder_3 19 (by decide) (fun c_14 => ?_) (fun c_14 => ?_)
    · exact absurd c_14 (by decide)
    · have nc_14 := Int32.not_lt.mp c_14
      refine x_iload_n C d_Mo_isUnder_6 0 rfl rfl ?_
      refine x_iload_n C d_Mo_isUnder_7 2 rfl rfl ?_
      refine x_icmp_eq C d_Mo_isUnder_8 19 (by decide) (fun c_15 => ?_) (fun c_15 => ?_)
      · refine x_iload_n C d_Mo_isUnder_19 0 rfl rfl ?_
        refine x_iflt C d_Mo_isUnder_20 27 (by decide) (fun c_16 => ?_) (fun c_16 => ?_)
        · exact absurd c_16 (by decide)
        · have nc_16 := Int32.not_lt.mp c_16
          refine x_iconst C d_Mo_isUnder_23 (v := 1) (by decide) ?_
          refine x_goto C d_Mo_isUnder_24 28 (by decide) ?_
          exact x_zret C (by decide) (bI_t (by subst w; decide)).symm rfl d_Mo_isUnder_28
      · have nc_15 := Ne.symm c_15
        refine x_iload_n C d_Mo_isUnder_11 0 rfl rfl ?_
        refine x_callSi C (c_Mo_above Z (nI 2) (g)) mi_Mo_above k_1214 (As := [.int (nI 2)]) ⟨Nat.le_of_ble_eq_true rfl, Nat.le_of_ble_eq_true rfl⟩ rfl rfl (Nat.le_of_ble_eq_true rfl) d_Mo_isUnder_12 ?_
        refine x_topi (x' := 0) (by decide) ?_
        refine x_istore_n C d_Mo_isUnder_15 rfl (by decide) (lv' := [(2, .int (0)), (0, .int (nI 2)), (1, .int (w))]) rfl ?_
        refine x_goto C d_Mo_isUnder_16 2 (by decide) ?_
        refine x_iload_n C d_Mo_isUnder_2 0 rfl rfl ?_
        refine x_iflt C d_Mo_isUnder_3 19 (by decide) (fun c_17 => ?_) (fun c_17 => ?_)
        · exact absurd c_17 (by decide)
        · have nc_17 := Int32.not_lt.mp c_17
          refine x_iload_n C d_Mo_isUnder_6 0 rfl rfl ?_
          refine x_iload_n C d_Mo_isUnder_7 2 rfl rfl ?_
          refine x_icmp_eq C d_Mo_isUnder_8 19 (by decide) (fun c_18 => ?_) (fun c_18 => ?_)
          · replace c_18 := Eq.symm c_18
            refine x_iload_n C d_Mo_isUnder_19 0 rfl rfl ?_
            refine x_iflt C d_Mo_isUnder_20 27 (by decide) (fun c_19 => ?_) (fun c_19 => ?_)
            · exact absurd c_19 (by decide)
            · have nc_19 := Int32.not_lt.mp c_19
              refine x_iconst C d_Mo_isUnder_23 (v := 1) (by decide) ?_
              refine x_goto C d_Mo_isUnder_24 28 (by decide) ?_
              exact x_zret C (by decide) (bI_t (by subst w; decide)).symm rfl d_Mo_isUnder_28
          · have nc_18 := Ne.symm c_18
            refine x_iload_n C d_Mo_isUnder_11 0 rfl rfl ?_
            refine x_callSi C (c_Mo_above Z 0 (g)) mi_Mo_above k_1214 (As := [.int (0)]) ⟨Nat.le_of_ble_eq_true rfl, Nat.le_of_ble_eq_true rfl⟩ rfl rfl (Nat.le_of_ble_eq_true rfl) d_Mo_isUnder_12 ?_
            refine x_topi (x' := (-1)) (by decide) ?_
            refine x_istore_n C d_Mo_isUnder_15 rfl (by decide) (lv' := [(2, .int ((-1))), (0, .int (nI 2)), (1, .int (w))]) rfl ?_
            refine x_goto C d_Mo_isUnder_16 2 (by decide) ?_
            refine x_iload_n C d_Mo_isUnder_2 0 rfl rfl ?_
            refine x_iflt C d_Mo_isUnder_3 19 (by decide) (fun c_20 => ?_) (fun c_20 => ?_)
            · have nc_20 := Int32.not_le.mpr c_20
              refine x_iload_n C d_Mo_isUnder_19 0 rfl rfl ?_
              refine x_iflt C d_Mo_isUnder_20 27 (by decide) (fun c_21 => ?_) (fun c_21 => ?_)
              · have nc_21 := Int32.not_le.mpr c_21
                refine x_iconst C d_Mo_isUnder_27 (v := 0) (by decide) ?_
                exact x_zret C (by decide) (bI_f (show ¬ isU (2 : Int32) w = true by simp [isU, *]; exact (show w ≠ nI 2 by assumption))).symm rfl d_Mo_isUnder_28
              · exact absurd c_21 (by decide)
            · exact absurd c_20 (by decide)
  · refine x_iload_n C d_Mo_isUnder_0 0 rfl rfl ?_
    refine x_istore_n C d_Mo_isUnder_1 rfl (by decide) (lv' := [(2, .int (nI 3)), (0, .int (nI 3)), (1, .int (w))]) rfl ?_
    refine x_iload_n C d_Mo_isUnder_2 0 rfl rfl ?_
    refine x_iflt C d_Mo_isUnder_3 19 (by decide) (fun c_22 => ?_) (fun c_22 => ?_)
    · exact absurd c_22 (by decide)
    · have nc_22 := Int32.not_lt.mp c_22
      refine x_iload_n C d_Mo_isUnder_6 0 rfl rfl ?_
      refine x_iload_n C d_Mo_isUnder_7 2 rfl rfl ?_
      refine x_icmp_eq C d_Mo_isUnder_8 19 (by decide) (fun c_23 => ?_) (fun c_23 => ?_)
      · refine x_iload_n C d_Mo_isUnder_19 0 rfl rfl ?_
        refine x_iflt C d_Mo_isUnder_20 27 (by decide) (fun c_24 => ?_) (fun c_24 => ?_)
        · exact absurd c_24 (by decide)
        · have nc_24 := Int32.not_lt.mp c_24
          refine x_iconst C d_Mo_isUnder_23 (v := 1) (by decide) ?_
          refine x_goto C d_Mo_isUnder_24 28 (by decide) ?_
          exact x_zret C (by decide) (bI_t (by subst w; decide)).symm rfl d_Mo_isUnder_28
      · have nc_23 := Ne.symm c_23
        refine x_iload_n C d_Mo_isUnder_11 0 rfl rfl ?_
        refine x_callSi C (c_Mo_above Z (nI 3) (g)) mi_Mo_above k_1214 (As := [.int (nI 3)]) ⟨Nat.le_of_ble_eq_true rfl, Nat.le_of_ble_eq_true rfl⟩ rfl rfl (Nat.le_of_ble_eq_true rfl) d_Mo_isUnder_12 ?_
        refine x_topi (x' := 2) (by decide) ?_
        refine x_istore_n C d_Mo_isUnder_15 rfl (by decide) (lv' := [(2, .int (2)), (0, .int (nI 3)), (1, .int (w))]) rfl ?_
        refine x_goto C d_Mo_isUnder_16 2 (by decide) ?_
        refine x_iload_n C d_Mo_isUnder_2 0 rfl rfl ?_
        refine x_iflt C d_Mo_isUnder_3 19 (by decide) (fun c_25 => ?_) (fun c_25 => ?_)
        · exact absurd c_25 (by decide)
        · have nc_25 := Int32.not_lt.mp c_25
          refine x_iload_n C d_Mo_isUnder_6 0 rfl rfl ?_
          refine x_iload_n C d_Mo_isUnder_7 2 rfl rfl ?_
          refine x_icmp_eq C d_Mo_isUnder_8 19 (by decide) (fun c_26 => ?_) (fun c_26 => ?_)
          · replace c_26 := Eq.symm c_26
            refine x_iload_n C d_Mo_isUnder_19 0 rfl rfl ?_
            refine x_iflt C d_Mo_isUnder_20 27 (by decide) (fun c_27 => ?_) (fun c_27 => ?_)
            · exact absurd c_27 (by decide)
            · have nc_27 := Int32.not_lt.mp c_27
              refine x_iconst C d_Mo_isUnder_23 (v := 1) (by decide) ?_
              refine x_goto C d_Mo_isUnder_24 28 (by decide) ?_
              exact x_zret C (by decide) (bI_t (by subst w; decide)).symm rfl d_Mo_isUnder_28
          · have nc_26 := Ne.symm c_26
            refine x_iload_n C d_Mo_isUnder_11 0 rfl rfl ?_
            refine x_callSi C (c_Mo_above Z 2 (g)) mi_Mo_above k_1214 (As := [.int (2)]) ⟨Nat.le_of_ble_eq_true rfl, Nat.le_of_ble_eq_true rfl⟩ rfl rfl (Nat.le_of_ble_eq_true rfl) d_Mo_isUnder_12 ?_
            refine x_topi (x' := 0) (by decide) ?_
            refine x_istore_n C d_Mo_isUnder_15 rfl (by decide) (lv' := [(2, .int (0)), (0, .int (nI 3)), (1, .int (w))]) rfl ?_
            refine x_goto C d_Mo_isUnder_16 2 (by decide) ?_
            refine x_iload_n C d_Mo_isUnder_2 0 rfl rfl ?_
            refine x_iflt C d_Mo_isUnder_3 19 (by decide) (fun c_28 => ?_) (fun c_28 => ?_)
            · exact absurd c_28 (by decide)
            · have nc_28 := Int32.not_lt.mp c_28
              refine x_iload_n C d_Mo_isUnder_6 0 rfl rfl ?_
              refine x_iload_n C d_Mo_isUnder_7 2 rfl rfl ?_
              refine x_icmp_eq C d_Mo_isUnder_8 19 (by decide) (fun c_29 => ?_) (fun c_29 => ?_)
              · replace c_29 := Eq.symm c_29
                refine x_iload_n C d_Mo_isUnder_19 0 rfl rfl ?_
                refine x_iflt C d_Mo_isUnder_20 27 (by decide) (fun c_30 => ?_) (fun c_30 => ?_)
                · exact absurd c_30 (by decide)
                · have nc_30 := Int32.not_lt.mp c_30
                  refine x_iconst C d_Mo_isUnder_23 (v := 1) (by decide) ?_
                  refine x_goto C d_Mo_isUnder_24 28 (by decide) ?_
                  exact x_zret C (by decide) (bI_t (by subst w; decide)).symm rfl d_Mo_isUnder_28
              · have nc_29 := Ne.symm c_29
                refine x_iload_n C d_Mo_isUnder_11 0 rfl rfl ?_
                refine x_callSi C (c_Mo_above Z 0 (g)) mi_Mo_above k_1214 (As := [.int (0)]) ⟨Nat.le_of_ble_eq_true rfl, Nat.le_of_ble_eq_true rfl⟩ rfl rfl (Nat.le_of_ble_eq_true rfl) d_Mo_isUnder_12 ?_
                refine x_topi (x' := (-1)) (by decide) ?_
                refine x_istore_n C d_Mo_isUnder_15 rfl (by decide) (lv' := [(2, .int ((-1))), (0, .int (nI 3)), (1, .int (w))]) rfl ?_
                refine x_goto C d_Mo_isUnder_16 2 (by decide) ?_
                refine x_iload_n C d_Mo_isUnder_2 0 rfl rfl ?_
                refine x_iflt C d_Mo_isUnder_3 19 (by decide) (fun c_31 => ?_) (fun c_31 => ?_)
                · have nc_31 := Int32.not_le.mpr c_31
                  refine x_iload_n C d_Mo_isUnder_19 0 rfl rfl ?_
                  refine x_iflt C d_Mo_isUnder_20 27 (by decide) (fun c_32 => ?_) (fun c_32 => ?_)
                  · have nc_32 := Int32.not_le.mpr c_32
                    refine x_iconst C d_Mo_isUnder_27 (v := 0) (by decide) ?_
                    exact x_zret C (by decide) (bI_f (show ¬ isU (3 : Int32) w = true by simp [isU, *]; exact (show w ≠ nI 3 by assumption))).symm rfl d_Mo_isUnder_28
                  · exact absurd c_32 (by decide)
                · exact absurd c_31 (by decide)
  · refine x_iload_n C d_Mo_isUnder_0 0 rfl rfl ?_
    refine x_istore_n C d_Mo_isUnder_1 rfl (by decide) (lv' := [(2, .int (nI 4)), (0, .int (nI 4)), (1, .int (w))]) rfl ?_
    refine x_iload_n C d_Mo_isUnder_2 0 rfl rfl ?_
    refine x_iflt C d_Mo_isUnder_3 19 (by decide) (fun c_33 => ?_) (fun c_33 => ?_)
    · exact absurd c_33 (by decide)
    · have nc_33 := Int32.not_lt.mp c_33
      refine x_iload_n C d_Mo_isUnder_6 0 rfl rfl ?_
      refine x_iload_n C d_Mo_isUnder_7 2 rfl rfl ?_
      refine x_icmp_eq C d_Mo_isUnder_8 19 (by decide) (fun c_34 => ?_) (fun c_34 => ?_)
      · refine x_iload_n C d_Mo_isUnder_19 0 rfl rfl ?_
        refine x_iflt C d_Mo_isUnder_20 27 (by decide) (fun c_35 => ?_) (fun c_35 => ?_)
        · exact absurd c_35 (by decide)
        · have nc_35 := Int32.not_lt.mp c_35
          refine x_iconst C d_Mo_isUnder_23 (v := 1) (by decide) ?_
          refine x_goto C d_Mo_isUnder_24 28 (by decide) ?_
          exact x_zret C (by decide) (bI_t (by subst w; decide)).symm rfl d_Mo_isUnder_28
      · have nc_34 := Ne.symm c_34
        refine x_iload_n C d_Mo_isUnder_11 0 rfl rfl ?_
        refine x_callSi C (c_Mo_above Z (nI 4) (g)) mi_Mo_above k_1214 (As := [.int (nI 4)]) ⟨Nat.le_of_ble_eq_true rfl, Nat.le_of_ble_eq_true rfl⟩ rfl rfl (Nat.le_of_ble_eq_true rfl) d_Mo_isUnder_12 ?_
        refine x_topi (x' := 3) (by decide) ?_
        refine x_istore_n C d_Mo_isUnder_15 rfl (by decide) (lv' := [(2, .int (3)), (0, .int (nI 4)), (1, .int (w))]) rfl ?_
        refine x_goto C d_Mo_isUnder_16 2 (by decide) ?_
        refine x_iload_n C d_Mo_isUnder_2 0 rfl rfl ?_
        refine x_iflt C d_Mo_isUnder_3 19 (by decide) (fun c_36 => ?_) (fun c_36 => ?_)
        · exact absurd c_36 (by decide)
        · have nc_36 := Int32.not_lt.mp c_36
          refine x_iload_n C d_Mo_isUnder_6 0 rfl rfl ?_
          refine x_iload_n C d_Mo_isUnder_7 2 rfl rfl ?_
          refine x_icmp_eq C d_Mo_isUnder_8 19 (by decide) (fun c_37 => ?_) (fun c_37 => ?_)
          · replace c_37 := Eq.symm c_37
            refine x_iload_n C d_Mo_isUnder_19 0 rfl rfl ?_
            refine x_iflt C d_Mo_isUnder_20 27 (by decide) (fun c_38 => ?_) (fun c_38 => ?_)
            · exact absurd c_38 (by decide)
            · have nc_38 := Int32.not_lt.mp c_38
              refine x_iconst C d_Mo_isUnder_23 (v := 1) (by decide) ?_
              refine x_goto C d_Mo_isUnder_24 28 (by decide) ?_
              exact x_zret C (by decide) (bI_t (by subst w; decide)).symm rfl d_Mo_isUnder_28
          · have nc_37 := Ne.symm c_37
            refine x_iload_n C d_Mo_isUnder_11 0 rfl rfl ?_
            refine x_callSi C (c_Mo_above Z 3 (g)) mi_Mo_above k_1214 (As := [.int (3)]) ⟨Nat.le_of_ble_eq_true rfl, Nat.le_of_ble_eq_true rfl⟩ rfl rfl (Nat.le_of_ble_eq_true rfl) d_Mo_isUnder_12 ?_
            refine x_topi (x' := 2) (by decide) ?_
            refine x_istore_n C d_Mo_isUnder_15 rfl (by decide) (lv' := [(2, .int (2)), (0, .int (nI 4)), (1, .int (w))]) rfl ?_
            refine x_goto C d_Mo_isUnder_16 2 (by decide) ?_
            refine x_iload_n C d_Mo_isUnder_2 0 rfl rfl ?_
            refine x_iflt C d_Mo_isUnder_3 19 (by decide) (fun c_39 => ?_) (fun c_39 => ?_)
            · exact absurd c_39 (by decide)
            · have nc_39 := Int32.not_lt.mp c_39
              refine x_iload_n C d_Mo_isUnder_6 0 rfl rfl ?_
              refine x_iload_n C d_Mo_isUnder_7 2 rfl rfl ?_
              refine x_icmp_eq C d_Mo_isUnder_8 19 (by decide) (fun c_40 => ?_) (fun c_40 => ?_)
              · replace c_40 := Eq.symm c_40
                refine x_iload_n C d_Mo_isUnder_19 0 rfl rfl ?_
                refine x_iflt C d_Mo_isUnder_20 27 (by decide) (fun c_41 => ?_) (fun c_41 => ?_)
                · exact absurd c_41 (by decide)
                · have nc_41 := Int32.not_lt.mp c_41
                  refine x_iconst C d_Mo_isUnder_23 (v := 1) (by decide) ?_
                  refine x_goto C d_Mo_isUnder_24 28 (by decide) ?_
                  exact x_zret C (by decide) (bI_t (by subst w; decide)).symm rfl d_Mo_isUnder_28
              · have nc_40 := Ne.symm c_40
                refine x_iload_n C d_Mo_isUnder_11 0 rfl rfl ?_
                refine x_callSi C (c_Mo_above Z 2 (g)) mi_Mo_above k_1214 (As := [.int (2)]) ⟨Nat.le_of_ble_eq_true rfl, Nat.le_of_ble_eq_true rfl⟩ rfl rfl (Nat.le_of_ble_eq_true rfl) d_Mo_isUnder_12 ?_
                refine x_topi (x' := 0) (by decide) ?_
                refine x_istore_n C d_Mo_isUnder_15 rfl (by decide) (lv' := [(2, .int (0)), (0, .int (nI 4)), (1, .int (w))]) rfl ?_
                refine x_goto C d_Mo_isUnder_16 2 (by decide) ?_
                refine x_iload_n C d_Mo_isUnder_2 0 rfl rfl ?_
                refine x_iflt C d_Mo_isUnder_3 19 (by decide) (fun c_42 => ?_) (fun c_42 => ?_)
                · exact absurd c_42 (by decide)
                · have nc_42 := Int32.not_lt.mp c_42
                  refine x_iload_n C d_Mo_isUnder_6 0 rfl rfl ?_
                  refine x_iload_n C d_Mo_isUnder_7 2 rfl rfl ?_
                  refine x_icmp_eq C d_Mo_isUnder_8 19 (by decide) (fun c_43 => ?_) (fun c_43 => ?_)
                  · replace c_43 := Eq.symm c_43
                    refine x_iload_n C d_Mo_isUnder_19 0 rfl rfl ?_
                    refine x_iflt C d_Mo_isUnder_20 27 (by decide) (fun c_44 => ?_) (fun c_44 => ?_)
                    · exact absurd c_44 (by decide)
                    · have nc_44 := Int32.not_lt.mp c_44
                      refine x_iconst C d_Mo_isUnder_23 (v := 1) (by decide) ?_
                      refine x_goto C d_Mo_isUnder_24 28 (by decide) ?_
                      exact x_zret C (by decide) (bI_t (by subst w; decide)).symm rfl d_Mo_isUnder_28
                  · have nc_43 := Ne.symm c_43
                    refine x_iload_n C d_Mo_isUnder_11 0 rfl rfl ?_
                    refine x_callSi C (c_Mo_above Z 0 (g)) mi_Mo_above k_1214 (As := [.int (0)]) ⟨Nat.le_of_ble_eq_true rfl, Nat.le_of_ble_eq_true rfl⟩ rfl rfl (Nat.le_of_ble_eq_true rfl) d_Mo_isUnder_12 ?_
                    refine x_topi (x' := (-1)) (by decide) ?_
                    refine x_istore_n C d_Mo_isUnder_15 rfl (by decide) (lv' := [(2, .int ((-1))), (0, .int (nI 4)), (1, .int (w))]) rfl ?_
                    refine x_goto C d_Mo_isUnder_16 2 (by decide) ?_
                    refine x_iload_n C d_Mo_isUnder_2 0 rfl rfl ?_
                    refine x_iflt C d_Mo_isUnder_3 19 (by decide) (fun c_45 => ?_) (fun c_45 => ?_)
                    · have nc_45 := Int32.not_le.mpr c_45
                      refine x_iload_n C d_Mo_isUnder_19 0 rfl rfl ?_
                      refine x_iflt C d_Mo_isUnder_20 27 (by decide) (fun c_46 => ?_) (fun c_46 => ?_)
                      · have nc_46 := Int32.not_le.mpr c_46
                        refine x_iconst C d_Mo_isUnder_27 (v := 0) (by decide) ?_
                        exact x_zret C (by decide) (bI_f (show ¬ isU (4 : Int32) w = true by simp [isU, *]; exact (show w ≠ nI 4 by assumption))).symm rfl d_Mo_isUnder_28
                      · exact absurd c_46 (by decide)
                    · exact absurd c_45 (by decide)
  · refine x_iload_n C d_Mo_isUnder_0 0 rfl rfl ?_
    refine x_istore_n C d_Mo_isUnder_1 rfl (by decide) (lv' := [(2, .int (nI 5)), (0, .int (nI 5)), (1, .int (w))]) rfl ?_
    refine x_iload_n C d_Mo_isUnder_2 0 rfl rfl ?_
    refine x_iflt C d_Mo_isUnder_3 19 (by decide) (fun c_47 => ?_) (fun c_47 => ?_)
    · exact absurd c_47 (by decide)
    · have nc_47 := Int32.not_lt.mp c_47
      refine x_iload_n C d_Mo_isUnder_6 0 rfl rfl ?_
      refine x_iload_n C d_Mo_isUnder_7 2 rfl rfl ?_
      refine x_icmp_eq C d_Mo_isUnder_8 19 (by decide) (fun c_48 => ?_) (fun c_48 => ?_)
      · refine x_iload_n C d_Mo_isUnder_19 0 rfl rfl ?_
        refine x_iflt C d_Mo_isUnder_20 27 (by decide) (fun c_49 => ?_) (fun c_49 => ?_)
        · exact absurd c_49 (by decide)
        · have nc_49 := Int32.not_lt.mp c_49
          refine x_iconst C d_Mo_isUnder_23 (v := 1) (by decide) ?_
          refine x_goto C d_Mo_isUnder_24 28 (by decide) ?_
          exact x_zret C (by decide) (bI_t (by subst w; decide)).symm rfl d_Mo_isUnder_28
      · have nc_48 := Ne.symm c_48
        refine x_iload_n C d_Mo_isUnder_11 0 rfl rfl ?_
        refine x_callSi C (c_Mo_above Z (nI 5) (g)) mi_Mo_above k_1214 (As := [.int (nI 5)]) ⟨Nat.le_of_ble_eq_true rfl, Nat.le_of_ble_eq_true rfl⟩ rfl rfl (Nat.le_of_ble_eq_true rfl) d_Mo_isUnder_12 ?_
        refine x_topi (x' := 0) (by decide) ?_
        refine x_istore_n C d_Mo_isUnder_15 rfl (by decide) (lv' := [(2, .int (0)), (0, .int (nI 5)), (1, .int (w))]) rfl ?_
        refine x_goto C d_Mo_isUnder_16 2 (by decide) ?_
        refine x_iload_n C d_Mo_isUnder_2 0 rfl rfl ?_
        refine x_iflt C d_Mo_isUnder_3 19 (by decide) (fun c_50 => ?_) (fun c_50 => ?_)
        · exact absurd c_50 (by decide)
        · have nc_50 := Int32.not_lt.mp c_50
          refine x_iload_n C d_Mo_isUnder_6 0 rfl rfl ?_
          refine x_iload_n C d_Mo_isUnder_7 2 rfl rfl ?_
          refine x_icmp_eq C d_Mo_isUnder_8 19 (by decide) (fun c_51 => ?_) (fun c_51 => ?_)
          · replace c_51 := Eq.symm c_51
            refine x_iload_n C d_Mo_isUnder_19 0 rfl rfl ?_
            refine x_iflt C d_Mo_isUnder_20 27 (by decide) (fun c_52 => ?_) (fun c_52 => ?_)
            · exact absurd c_52 (by decide)
            · have nc_52 := Int32.not_lt.mp c_52
              refine x_iconst C d_Mo_isUnder_23 (v := 1) (by decide) ?_
              refine x_goto C d_Mo_isUnder_24 28 (by decide) ?_
              exact x_zret C (by decide) (bI_t (by subst w; decide)).symm rfl d_Mo_isUnder_28
          · have nc_51 := Ne.symm c_51
            refine x_iload_n C d_Mo_isUnder_11 0 rfl rfl ?_
            refine x_callSi C (c_Mo_above Z 0 (g)) mi_Mo_above k_1214 (As := [.int (0)]) ⟨Nat.le_of_ble_eq_true rfl, Nat.le_of_ble_eq_true rfl⟩ rfl rfl (Nat.le_of_ble_eq_true rfl) d_Mo_isUnder_12 ?_
            refine x_topi (x' := (-1)) (by decide) ?_
            refine x_istore_n C d_Mo_isUnder_15 rfl (by decide) (lv' := [(2, .int ((-1))), (0, .int (nI 5)), (1, .int (w))]) rfl ?_
            refine x_goto C d_Mo_isUnder_16 2 (by decide) ?_
            refine x_iload_n C d_Mo_isUnder_2 0 rfl rfl ?_
            refine x_iflt C d_Mo_isUnder_3 19 (by decide) (fun c_53 => ?_) (fun c_53 => ?_)
            · have nc_53 := Int32.not_le.mpr c_53
              refine x_iload_n C d_Mo_isUnder_19 0 rfl rfl ?_
              refine x_iflt C d_Mo_isUnder_20 27 (by decide) (fun c_54 => ?_) (fun c_54 => ?_)
              · have nc_54 := Int32.not_le.mpr c_54
                refine x_iconst C d_Mo_isUnder_27 (v := 0) (by decide) ?_
                exact x_zret C (by decide) (bI_f (show ¬ isU (5 : Int32) w = true by simp [isU, *]; exact (show w ≠ nI 5 by assumption))).symm rfl d_Mo_isUnder_28
              · exact absurd c_54 (by decide)
            · exact absurd c_53 (by decide)
  · refine x_iload_n C d_Mo_isUnder_0 0 rfl rfl ?_
    refine x_istore_n C d_Mo_isUnder_1 rfl (by decide) (lv' := [(2, .int (nI 6)), (0, .int (nI 6)), (1, .int (w))]) rfl ?_
    refine x_iload_n C d_Mo_isUnder_2 0 rfl rfl ?_
    refine x_iflt C d_Mo_isUnder_3 19 (by decide) (fun c_55 => ?_) (fun c_55 => ?_)
    · exact absurd c_55 (by decide)
    · have nc_55 := Int32.not_lt.mp c_55
      refine x_iload_n C d_Mo_isUnder_6 0 rfl rfl ?_
      refine x_iload_n C d_Mo_isUnder_7 2 rfl rfl ?_
      refine x_icmp_eq C d_Mo_isUnder_8 19 (by decide) (fun c_56 => ?_) (fun c_56 => ?_)
      · refine x_iload_n C d_Mo_isUnder_19 0 rfl rfl ?_
        refine x_iflt C d_Mo_isUnder_20 27 (by decide) (fun c_57 => ?_) (fun c_57 => ?_)
        · exact absurd c_57 (by decide)
        · have nc_57 := Int32.not_lt.mp c_57
          refine x_iconst C d_Mo_isUnder_23 (v := 1) (by decide) ?_
          refine x_goto C d_Mo_isUnder_24 28 (by decide) ?_
          exact x_zret C (by decide) (bI_t (by subst w; decide)).symm rfl d_Mo_isUnder_28
      · have nc_56 := Ne.symm c_56
        refine x_iload_n C d_Mo_isUnder_11 0 rfl rfl ?_
        refine x_callSi C (c_Mo_above Z (nI 6) (g)) mi_Mo_above k_1214 (As := [.int (nI 6)]) ⟨Nat.le_of_ble_eq_true rfl, Nat.le_of_ble_eq_true rfl⟩ rfl rfl (Nat.le_of_ble_eq_true rfl) d_Mo_isUnder_12 ?_
        refine x_topi (x' := 1) (by decide) ?_
        refine x_istore_n C d_Mo_isUnder_15 rfl (by decide) (lv' := [(2, .int (1)), (0, .int (nI 6)), (1, .int (w))]) rfl ?_
        refine x_goto C d_Mo_isUnder_16 2 (by decide) ?_
        refine x_iload_n C d_Mo_isUnder_2 0 rfl rfl ?_
        refine x_iflt C d_Mo_isUnder_3 19 (by decide) (fun c_58 => ?_) (fun c_58 => ?_)
        · exact absurd c_58 (by decide)
        · have nc_58 := Int32.not_lt.mp c_58
          refine x_iload_n C d_Mo_isUnder_6 0 rfl rfl ?_
          refine x_iload_n C d_Mo_isUnder_7 2 rfl rfl ?_
          refine x_icmp_eq C d_Mo_isUnder_8 19 (by decide) (fun c_59 => ?_) (fun c_59 => ?_)
          · replace c_59 := Eq.symm c_59
            refine x_iload_n C d_Mo_isUnder_19 0 rfl rfl ?_
            refine x_iflt C d_Mo_isUnder_20 27 (by decide) (fun c_60 => ?_) (fun c_60 => ?_)
            · exact absurd c_60 (by decide)
            · have nc_60 := Int32.not_lt.mp c_60
              refine x_iconst C d_Mo_isUnder_23 (v := 1) (by decide) ?_
              refine x_goto C d_Mo_isUnder_24 28 (by decide) ?_
              exact x_zret C (by decide) (bI_t (by subst w; decide)).symm rfl d_Mo_isUnder_28
          · have nc_59 := Ne.symm c_59
            refine x_iload_n C d_Mo_isUnder_11 0 rfl rfl ?_
            refine x_callSi C (c_Mo_above Z 1 (g)) mi_Mo_above k_1214 (As := [.int (1)]) ⟨Nat.le_of_ble_eq_true rfl, Nat.le_of_ble_eq_true rfl⟩ rfl rfl (Nat.le_of_ble_eq_true rfl) d_Mo_isUnder_12 ?_
            refine x_topi (x' := 0) (by decide) ?_
            refine x_istore_n C d_Mo_isUnder_15 rfl (by decide) (lv' := [(2, .int (0)), (0, .int (nI 6)), (1, .int (w))]) rfl ?_
            refine x_goto C d_Mo_isUnder_16 2 (by decide) ?_
            refine x_iload_n C d_Mo_isUnder_2 0 rfl rfl ?_
            refine x_iflt C d_Mo_isUnder_3 19 (by decide) (fun c_61 => ?_) (fun c_61 => ?_)
            · exact absurd c_61 (by decide)
            · have nc_61 := Int32.not_lt.mp c_61
              refine x_iload_n C d_Mo_isUnder_6 0 rfl rfl ?_
              refine x_iload_n C d_Mo_isUnder_7 2 rfl rfl ?_
              refine x_icmp_eq C d_Mo_isUnder_8 19 (by decide) (fun c_62 => ?_) (fun c_62 => ?_)
              · replace c_62 := Eq.symm c_62
                refine x_iload_n C d_Mo_isUnder_19 0 rfl rfl ?_
                refine x_iflt C d_Mo_isUnder_20 27 (by decide) (fun c_63 => ?_) (fun c_63 => ?_)
                · exact absurd c_63 (by decide)
                · have nc_63 := Int32.not_lt.mp c_63
                  refine x_iconst C d_Mo_isUnder_23 (v := 1) (by decide) ?_
                  refine x_goto C d_Mo_isUnder_24 28 (by decide) ?_
                  exact x_zret C (by decide) (bI_t (by subst w; decide)).symm rfl d_Mo_isUnder_28
              · have nc_62 := Ne.symm c_62
                refine x_iload_n C d_Mo_isUnder_11 0 rfl rfl ?_
                refine x_callSi C (c_Mo_above Z 0 (g)) mi_Mo_above k_1214 (As := [.int (0)]) ⟨Nat.le_of_ble_eq_true rfl, Nat.le_of_ble_eq_true rfl⟩ rfl rfl (Nat.le_of_ble_eq_true rfl) d_Mo_isUnder_12 ?_
                refine x_topi (x' := (-1)) (by decide) ?_
                refine x_istore_n C d_Mo_isUnder_15 rfl (by decide) (lv' := [(2, .int ((-1))), (0, .int (nI 6)), (1, .int (w))]) rfl ?_
                refine x_goto C d_Mo_isUnder_16 2 (by decide) ?_
                refine x_iload_n C d_Mo_isUnder_2 0 rfl rfl ?_
                refine x_iflt C d_Mo_isUnder_3 19 (by decide) (fun c_64 => ?_) (fun c_64 => ?_)
                · have nc_64 := Int32.not_le.mpr c_64
                  refine x_iload_n C d_Mo_isUnder_19 0 rfl rfl ?_
                  refine x_iflt C d_Mo_isUnder_20 27 (by decide) (fun c_65 => ?_) (fun c_65 => ?_)
                  · have nc_65 := Int32.not_le.mpr c_65
                    refine x_iconst C d_Mo_isUnder_27 (v := 0) (by decide) ?_
                    exact x_zret C (by decide) (bI_f (show ¬ isU (6 : Int32) w = true by simp [isU, *]; exact (show w ≠ nI 6 by assumption))).symm rfl d_Mo_isUnder_28
                  · exact absurd c_65 (by decide)
                · exact absurd c_64 (by decide)

set_option maxRecDepth 100000 in
set_option maxHeartbeats 600000 in
theorem c_Mo_as (Z : ZT) (s k : Int32) (g : St)  (hk : okR (g 0)) (hkd : ∀ i, i < sz (g 0) → ∃ k, k < 7 ∧ g 0 (pI i 0) = nI k) (hsp : ∀ j, j < 10 → g 0 (10 + j) = -1 ∨ ∃ q, q < sz (g 0) ∧ g 0 (10 + j) = nI q) : CT yM Z y_Mo_as b_Mo_as 4 (some (.int)) 2 43 [.ref (Z.2.1 (0)), .int (s), .int (k)] (g) (QkI yM Z (if ¬ ((0 ≤ s ∧ s ≤ 9) ∧ (0 ≤ k ∧ k ≤ 6)) then (-1000001) else if g 0 (10 + s.toNatClampNeg) < 0 then (-1000006) else if isU (g 0 (pI (g 0 (10 + s.toNatClampNeg)).toNatClampNeg 0)) k = true then g 0 (10 + s.toNatClampNeg) else (-1000003)) (fun u => ∃ ρ : Nat → Int32, u = va_up (if ¬ ((0 ≤ s ∧ s ≤ 9) ∧ (0 ≤ k ∧ k ≤ 6)) then va_up g 4 (mfnR (g 4) 0) else if g 0 (10 + s.toNatClampNeg) < 0 then va_up g 4 (mfnR (g 4) 5) else if isU (g 0 (pI (g 0 (10 + s.toNatClampNeg)).toNatClampNeg 0)) k = true then g else va_up g 4 (mfnR (g 4) 2)) 2 ρ)) := by
  refine CT.mk "TunnelPeaceModel" (by decide) rfl (Nat.le_of_ble_eq_true rfl) (fun X C => ?_)
  refine x_lv [0, 1, 2] (lv' := [(0, .ref (Z.2.1 (0))), (1, .int (s)), (2, .int (k))]) rfl ?_
  have hk0 := hk
  obtain ⟨⟨n, hn8, hn⟩, dd, hdd, hd⟩ := hk
  refine x_iload_n C d_Mo_as_0 1 rfl rfl ?_
  refine x_callSi C (c_Mo_isSpot Z s (g)) mi_Mo_isSpot k_1204 (As := [.int (s)]) ⟨Nat.le_of_ble_eq_true rfl, Nat.le_of_ble_eq_true rfl⟩ rfl rfl (Nat.le_of_ble_eq_true rfl) d_Mo_as_1 ?_
  refine x_ifeqB C d_Mo_as_4 14 (by decide) (fun c_1 => ?_) (fun c_1 => ?_)
  · refine x_aload_n C d_Mo_as_14 0 rfl rfl ?_
    refine x_ldc C d_Mo_as_15 k_866 ?_
    refine x_callVi C (c_Mo_finding_0 Z (g) _ rfl) mi_Mo_finding k_867 (show 0 < 12 by omega) (m_0 Z _) rfl (As := [.int ((-1000001))]) ⟨Nat.le_of_ble_eq_true rfl, Nat.le_of_ble_eq_true rfl⟩ rfl rfl (Nat.le_of_ble_eq_true rfl) d_Mo_as_17 ?_
    exact x_iretK C (by first | with_reducible rfl | (simp [*, -hd]; done) | (simp [*]; done) | (simp_all; done)) (kfinM (G' := va_up g 4 (mfnR (g 4) 0)) (by first | with_reducible rfl | (simp [*, -hd]; done) | (simp [*]; done) | (simp_all; done)) (va_idn (by omega)).symm) d_Mo_as_20
  · obtain ⟨sq, hsq, rfl⟩ := in_le (n := 9) c_1 (by decide)
    have hcs : (nI sq).toNatClampNeg = sq := nI_clamp (by omega)
    refine x_iload_n C d_Mo_as_7 2 rfl rfl ?_
    refine x_callSi C (c_Mo_isKind Z k (g)) mi_Mo_isKind k_889 (As := [.int (k)]) ⟨Nat.le_of_ble_eq_true rfl, Nat.le_of_ble_eq_true rfl⟩ rfl rfl (Nat.le_of_ble_eq_true rfl) d_Mo_as_8 ?_
    refine x_ifneB C d_Mo_as_11 21 (by decide) (fun c_2 => ?_) (fun c_2 => ?_)
    · refine x_aload_n C d_Mo_as_21 0 rfl rfl ?_
      refine gf_Mo_now C k_791 d_Mo_as_22 ?_
      refine x_bipush C d_Mo_as_25 (v := 10) (by decide) ?_
      refine x_iload_n C d_Mo_as_27 1 rfl rfl ?_
      refine x_iadd C d_Mo_as_28 ?_
      refine x_topi (x' := nI (10 + sq)) (nI_add 10 _) ?_
      refine al_m_now C (10 + sq) (v := g 0 (10 + sq)) rfl (by first | omega | (simp only [pI]; omega)) rfl d_Mo_as_29 ?_
      refine x_istore_n C d_Mo_as_30 rfl (by decide) (lv' := [(3, .int (g 0 (10 + sq))), (0, .ref (Z.2.1 (0))), (1, .int (nI sq)), (2, .int (k))]) rfl ?_
      refine x_iload_n C d_Mo_as_31 0 rfl rfl ?_
      refine x_ifge C d_Mo_as_32 42 (by decide) (fun c_3 => ?_) (fun c_3 => ?_)
      · have nc_3 := Int32.not_lt.mpr c_3
        obtain ⟨hq, hhq, eh⟩ : ∃ q, q < n ∧ g 0 (10 + sq) = nI q := by rcases hsp sq (by omega) with z | ⟨q, hq, z⟩; exact absurd (show g 0 (10 + sq) < 0 by rw [z]; decide) (by assumption); exact ⟨q, by rw [sz_of hn hn8] at hq; exact hq, z⟩
        have hch : (nI hq).toNatClampNeg = hq := nI_clamp (by omega)
        obtain ⟨kk, hkk7, hkk⟩ := hkd hq (by rw [sz_of hn hn8]; omega)
        have hng : ¬ nI hq < 0 := nI_pos (by omega)
        refine x_lve (lv' := [(3, .int (nI hq)), (0, .ref (Z.2.1 (0))), (1, .int (nI sq)), (2, .int (k))]) (by rw [eh]) ?_
        refine x_aload_n C d_Mo_as_42 1 rfl rfl ?_
        refine x_iload_n C d_Mo_as_43 0 rfl rfl ?_
        refine x_iconst C d_Mo_as_44 (v := 0) (by decide) ?_
        refine x_callVi C (c_Mo_personIs Z hq 0 (by omega) (by omega) (g) _ hkk) mi_Mo_personIs k_919 (show 0 < 12 by omega) (m_0 Z _) rfl (As := [.int (nI hq), .int (0)]) ⟨Nat.le_of_ble_eq_true rfl, Nat.le_of_ble_eq_true rfl⟩ rfl rfl (Nat.le_of_ble_eq_true rfl) d_Mo_as_45 ?_
        refine x_iload_n C d_Mo_as_48 3 rfl rfl ?_
        refine x_callSi C (c_Mo_isUnder Z kk hkk7 k (g)) mi_Mo_isUnder k_1211 (As := [.int (nI kk), .int (k)]) ⟨Nat.le_of_ble_eq_true rfl, Nat.le_of_ble_eq_true rfl⟩ rfl rfl (Nat.le_of_ble_eq_true rfl) d_Mo_as_49 ?_
        refine x_ifeqB C d_Mo_as_52 59 (by decide) (fun c_4 => ?_) (fun c_4 => ?_)
        · refine x_aload_n C d_Mo_as_59 1 rfl rfl ?_
          refine x_ldcw C d_Mo_as_60 k_1217 ?_
          refine x_callVi C (c_Mo_finding_2 Z (g) _ rfl) mi_Mo_finding k_867 (show 0 < 12 by omega) (m_0 Z _) rfl (As := [.int ((-1000003))]) ⟨Nat.le_of_ble_eq_true rfl, Nat.le_of_ble_eq_true rfl⟩ rfl rfl (Nat.le_of_ble_eq_true rfl) d_Mo_as_63 ?_
          exact x_iretK C (by first | with_reducible rfl | (simp [*, -hd]; done) | (simp [*]; done) | (simp_all; done)) (kfinM (G' := va_up g 4 (mfnR (g 4) 2)) (by first | with_reducible rfl | (simp [*, -hd]; done) | (simp [*]; done) | (simp_all; done)) (va_idn (by omega)).symm) d_Mo_as_66
        · refine x_iload_n C d_Mo_as_55 0 rfl rfl ?_
          refine x_goto C d_Mo_as_56 66 (by decide) ?_
          exact x_iretK C (by first | with_reducible rfl | (simp [*, -hd]; done) | (simp [*]; done) | (simp_all; done)) (kfinM (G' := g) (by first | with_reducible rfl | (simp [*, -hd]; done) | (simp [*]; done) | (simp_all; done)) (va_id g 2).symm) d_Mo_as_66
      · have nc_3 := Int32.not_le.mp c_3
        refine x_aload_n C d_Mo_as_35 1 rfl rfl ?_
        refine x_ldc C d_Mo_as_36 k_1106 ?_
        refine x_callVi C (c_Mo_finding_5 Z (g) _ rfl) mi_Mo_finding k_867 (show 0 < 12 by omega) (m_0 Z _) rfl (As := [.int ((-1000006))]) ⟨Nat.le_of_ble_eq_true rfl, Nat.le_of_ble_eq_true rfl⟩ rfl rfl (Nat.le_of_ble_eq_true rfl) d_Mo_as_38 ?_
        exact x_iretK C (by first | with_reducible rfl | (simp [*, -hd]; done) | (simp [*]; done) | (simp_all; done)) (kfinM (G' := va_up g 4 (mfnR (g 4) 5)) (by first | with_reducible rfl | (simp [*, -hd]; done) | (simp [*]; done) | (simp_all; done)) (va_idn (by omega)).symm) d_Mo_as_41
    · refine x_aload_n C d_Mo_as_14 0 rfl rfl ?_
      refine x_ldc C d_Mo_as_15 k_866 ?_
      refine x_callVi C (c_Mo_finding_0 Z (g) _ rfl) mi_Mo_finding k_867 (show 0 < 12 by omega) (m_0 Z _) rfl (As := [.int ((-1000001))]) ⟨Nat.le_of_ble_eq_true rfl, Nat.le_of_ble_eq_true rfl⟩ rfl rfl (Nat.le_of_ble_eq_true rfl) d_Mo_as_17 ?_
      exact x_iretK C (by first | with_reducible rfl | (simp [*, -hd]; done) | (simp [*]; done) | (simp_all; done)) (kfinM (G' := va_up g 4 (mfnR (g 4) 0)) (by first | with_reducible rfl | (simp [*, -hd]; done) | (simp [*]; done) | (simp_all; done)) (va_idn (by omega)).symm) d_Mo_as_20

set_option maxRecDepth 100000 in
set_option maxHeartbeats 600000 in
theorem c_Mo_hold (Z : ZT) (s p : Int32) (g : St)  (hk : okR (g 0)) : CT yM Z y_Mo_hold b_Mo_hold 3 (some (.int)) 2 43 [.ref (Z.2.1 (0)), .int (s), .int (p)] (g) (QkI yM Z (if (0 ≤ s ∧ s ≤ 9) ∧ (p = -1 ∨ (0 ≤ p ∧ p < g 0 1)) then 1 else (-1000001)) (fun u => ∃ ρ : Nat → Int32, u = va_up (if (0 ≤ s ∧ s ≤ 9) ∧ (p = -1 ∨ (0 ≤ p ∧ p < g 0 1)) then va_up g 0 (upd (g 0) (10 + s.toNatClampNeg) p) else va_up g 4 (mfnR (g 4) 0)) 2 ρ)) := by
  refine CT.mk "TunnelPeaceModel" (by decide) rfl (Nat.le_of_ble_eq_true rfl) (fun X C => ?_)
  refine x_lv [0, 1, 2] (lv' := [(0, .ref (Z.2.1 (0))), (1, .int (s)), (2, .int (p))]) rfl ?_
  have hk0 := hk
  obtain ⟨⟨n, hn8, hn⟩, dd, hdd, hd⟩ := hk
  refine x_iload_n C d_Mo_hold_0 1 rfl rfl ?_
  refine x_callSi C (c_Mo_isSpot Z s (g)) mi_Mo_isSpot k_1204 (As := [.int (s)]) ⟨Nat.le_of_ble_eq_true rfl, Nat.le_of_ble_eq_true rfl⟩ rfl rfl (Nat.le_of_ble_eq_true rfl) d_Mo_hold_1 ?_
  refine x_ifeqB C d_Mo_hold_4 20 (by decide) (fun c_1 => ?_) (fun c_1 => ?_)
  · refine x_aload_n C d_Mo_hold_20 0 rfl rfl ?_
    refine x_ldc C d_Mo_hold_21 k_866 ?_
    refine x_callVi C (c_Mo_finding_0 Z (g) _ rfl) mi_Mo_finding k_867 (show 0 < 12 by omega) (m_0 Z _) rfl (As := [.int ((-1000001))]) ⟨Nat.le_of_ble_eq_true rfl, Nat.le_of_ble_eq_true rfl⟩ rfl rfl (Nat.le_of_ble_eq_true rfl) d_Mo_hold_23 ?_
    exact x_iretK C (by first | with_reducible rfl | (simp [*, -hd]; done) | (simp [*]; done) | (simp_all; done)) (kfinM (G' := va_up g 4 (mfnR (g 4) 0)) (by first | with_reducible rfl | (simp [*, -hd]; done) | (simp [*]; done) | (simp_all; done)) (va_idn (by omega)).symm) d_Mo_hold_26
  · obtain ⟨sq, hsq, rfl⟩ := in_le (n := 9) c_1 (by decide)
    have hcs : (nI sq).toNatClampNeg = sq := nI_clamp (by omega)
    refine x_iload_n C d_Mo_hold_7 2 rfl rfl ?_
    refine x_iconst C d_Mo_hold_8 (v := -1) (by decide) ?_
    refine x_icmp_eq C d_Mo_hold_9 27 (by decide) (fun c_2 => ?_) (fun c_2 => ?_)
    · refine x_aload_n C d_Mo_hold_27 0 rfl rfl ?_
      refine gf_Mo_now C k_791 d_Mo_hold_28 ?_
      refine x_bipush C d_Mo_hold_31 (v := 10) (by decide) ?_
      refine x_iload_n C d_Mo_hold_33 1 rfl rfl ?_
      refine x_iadd C d_Mo_hold_34 ?_
      refine x_topi (x' := nI (10 + sq)) (nI_add 10 _) ?_
      refine x_iload_n C d_Mo_hold_35 2 rfl rfl ?_
      refine as_m_now C (10 + sq) (v := p) rfl (by first | omega | (simp only [pI]; omega)) (G := va_up g 0 (upd (g 0) (10 + sq) p)) rfl d_Mo_hold_36 ?_
      refine x_iconst C d_Mo_hold_37 (v := 1) (by decide) ?_
      exact x_iretK C (by first | with_reducible rfl | (simp [*, -hd]; done) | (simp [*]; done) | (simp_all; done)) (kfinM (G' := va_up g 0 (upd (g 0) (10 + sq) p)) (by first | with_reducible rfl | (simp [*, -hd]; done) | (simp [*]; done) | (simp_all; done)) (va_idn (by omega)).symm) d_Mo_hold_38
    · have nc_2 := Ne.symm c_2
      refine x_aload_n C d_Mo_hold_12 0 rfl rfl ?_
      refine x_iload_n C d_Mo_hold_13 2 rfl rfl ?_
      refine x_callVi C (c_Mo_isPerson Z p n (by omega) (g) hn) mi_Mo_isPerson k_907 (show 0 < 12 by omega) (m_0 Z _) rfl (As := [.int (p)]) ⟨Nat.le_of_ble_eq_true rfl, Nat.le_of_ble_eq_true rfl⟩ rfl rfl (Nat.le_of_ble_eq_true rfl) d_Mo_hold_14 ?_
      refine x_ifneB C d_Mo_hold_17 27 (by decide) (fun c_3 => ?_) (fun c_3 => ?_)
      · refine x_aload_n C d_Mo_hold_27 0 rfl rfl ?_
        refine gf_Mo_now C k_791 d_Mo_hold_28 ?_
        refine x_bipush C d_Mo_hold_31 (v := 10) (by decide) ?_
        refine x_iload_n C d_Mo_hold_33 1 rfl rfl ?_
        refine x_iadd C d_Mo_hold_34 ?_
        refine x_topi (x' := nI (10 + sq)) (nI_add 10 _) ?_
        refine x_iload_n C d_Mo_hold_35 2 rfl rfl ?_
        refine as_m_now C (10 + sq) (v := p) rfl (by first | omega | (simp only [pI]; omega)) (G := va_up g 0 (upd (g 0) (10 + sq) p)) rfl d_Mo_hold_36 ?_
        refine x_iconst C d_Mo_hold_37 (v := 1) (by decide) ?_
        exact x_iretK C (by first | with_reducible rfl | (simp [*, -hd]; done) | (simp [*]; done) | (simp_all; done)) (kfinM (G' := va_up g 0 (upd (g 0) (10 + sq) p)) (by first | with_reducible rfl | (simp [*, -hd]; done) | (simp [*]; done) | (simp_all; done)) (va_idn (by omega)).symm) d_Mo_hold_38
      · refine x_aload_n C d_Mo_hold_20 0 rfl rfl ?_
        refine x_ldc C d_Mo_hold_21 k_866 ?_
        refine x_callVi C (c_Mo_finding_0 Z (g) _ rfl) mi_Mo_finding k_867 (show 0 < 12 by omega) (m_0 Z _) rfl (As := [.int ((-1000001))]) ⟨Nat.le_of_ble_eq_true rfl, Nat.le_of_ble_eq_true rfl⟩ rfl rfl (Nat.le_of_ble_eq_true rfl) d_Mo_hold_23 ?_
        exact x_iretK C (by first | with_reducible rfl | (simp [*, -hd]; done) | (simp [*]; done) | (simp_all; done)) (kfinM (G' := va_up g 4 (mfnR (g 4) 0)) (by first | with_reducible rfl | (simp [*, -hd]; done) | (simp [*]; done) | (simp_all; done)) (va_idn (by omega)).symm) d_Mo_hold_26

set_option maxRecDepth 100000 in
set_option maxHeartbeats 600000 in
theorem c_Mo_sheet (Z : ZT) (s b m : Int32) (g : St)  (hk : okR (g 0)) : CT yM Z y_Mo_sheet b_Mo_sheet 5 (some (.int)) 2 42 [.ref (Z.2.1 (0)), .int (s), .int (b), .int (m)] (g) (QkI yM Z (if ¬ ((0 ≤ s ∧ s ≤ 3) ∧ (b = 0 ∨ b = 8 ∨ b = 16 ∨ b = 32)) then (-1000001) else if m < 0 then (-1000007) else if 40 < m then (-1000001) else if b = 0 then 0 else m) (fun u => ∃ ρ : Nat → Int32, u = va_up (if ¬ ((0 ≤ s ∧ s ≤ 3) ∧ (b = 0 ∨ b = 8 ∨ b = 16 ∨ b = 32)) then va_up g 4 (mfnR (g 4) 0) else if m < 0 then va_up g 4 (mfnR (g 4) 6) else if 40 < m then va_up g 4 (mfnR (g 4) 0) else va_up (va_up (va_up g 8 (upd (g 8) s.toNatClampNeg b)) 9 (upd (g 9) s.toNatClampNeg (if b = 0 then 0 else m))) 10 (zerM (g 10) s.toNatClampNeg 40)) 2 ρ)) := by
  refine CT.mk "TunnelPeaceModel" (by decide) rfl (Nat.le_of_ble_eq_true rfl) (fun X C => ?_)
  refine x_lv [0, 1, 2, 3] (lv' := [(0, .ref (Z.2.1 (0))), (1, .int (s)), (2, .int (b)), (3, .int (m))]) rfl ?_
  have hk0 := hk
  obtain ⟨⟨n, hn8, hn⟩, dd, hdd, hd⟩ := hk
  refine x_iload_n C d_Mo_sheet_0 1 rfl rfl ?_
  refine x_callSi C (c_Mo_isSheet Z s (g)) mi_Mo_isSheet k_1103 (As := [.int (s)]) ⟨Nat.le_of_ble_eq_true rfl, Nat.le_of_ble_eq_true rfl⟩ rfl rfl (Nat.le_of_ble_eq_true rfl) d_Mo_sheet_1 ?_
  refine x_ifeqB C d_Mo_sheet_4 29 (by decide) (fun c_1 => ?_) (fun c_1 => ?_)
  · refine x_aload_n C d_Mo_sheet_29 0 rfl rfl ?_
    refine x_ldc C d_Mo_sheet_30 k_866 ?_
    refine x_callVi C (c_Mo_finding_0 Z (g) _ rfl) mi_Mo_finding k_867 (show 0 < 12 by omega) (m_0 Z _) rfl (As := [.int ((-1000001))]) ⟨Nat.le_of_ble_eq_true rfl, Nat.le_of_ble_eq_true rfl⟩ rfl rfl (Nat.le_of_ble_eq_true rfl) d_Mo_sheet_32 ?_
    exact x_iretK C (by first | with_reducible rfl | (simp [*, -hd]; done) | (simp [*]; done) | (simp_all; done)) (kfinM (G' := va_up g 4 (mfnR (g 4) 0)) (by first | with_reducible rfl | (simp [*, -hd]; done) | (simp [*]; done) | (simp_all; done)) (va_idn (by omega)).symm) d_Mo_sheet_35
  · obtain ⟨sq, hsq, rfl⟩ := in_le (n := 3) c_1 (by decide)
    have hcs : (nI sq).toNatClampNeg = sq := nI_clamp (by omega)
    refine x_iload_n C d_Mo_sheet_7 2 rfl rfl ?_
    refine x_ifeq C d_Mo_sheet_8 36 (by decide) (fun c_2 => ?_) (fun c_2 => ?_)
    · refine x_iload_n C d_Mo_sheet_36 3 rfl rfl ?_
      refine x_ifge C d_Mo_sheet_37 48 (by decide) (fun c_3 => ?_) (fun c_3 => ?_)
      · have nc_3 := Int32.not_lt.mpr c_3
        refine x_iload_n C d_Mo_sheet_48 3 rfl rfl ?_
        refine x_bipush C d_Mo_sheet_49 (v := 40) (by decide) ?_
        refine x_icmp_le C d_Mo_sheet_51 61 (by decide) (fun c_4 => ?_) (fun c_4 => ?_)
        · have nc_4 := Int32.not_lt.mpr c_4
          refine x_aload_n C d_Mo_sheet_61 0 rfl rfl ?_
          refine gf_Mo_widths C k_807 d_Mo_sheet_62 ?_
          refine x_iload_n C d_Mo_sheet_65 1 rfl rfl ?_
          refine x_iload_n C d_Mo_sheet_66 2 rfl rfl ?_
          refine as_m_widths C sq (v := b) rfl (by first | omega | (simp only [pI]; omega)) (G := va_up g 8 (upd (g 8) sq b)) rfl d_Mo_sheet_67 ?_
          refine x_aload_n C d_Mo_sheet_68 0 rfl rfl ?_
          refine gf_Mo_sizes C k_808 d_Mo_sheet_69 ?_
          refine x_iload_n C d_Mo_sheet_72 1 rfl rfl ?_
          refine x_iload_n C d_Mo_sheet_73 2 rfl rfl ?_
          refine x_ifne C d_Mo_sheet_74 81 (by decide) (fun c_5 => ?_) (fun c_5 => ?_)
          · refine x_iload_n C d_Mo_sheet_81 3 rfl rfl ?_
            refine as_m_sizes C sq (v := m) rfl (by first | omega | (simp only [pI]; omega)) (G := va_up (va_up g 8 (upd (g 8) sq b)) 9 (upd (g 9) sq m)) (congrArg (fun z => va_up _ _ (upd z _ _)) (va_up_ne _ _ (by omega))) d_Mo_sheet_82 ?_
            refine x_iconst C d_Mo_sheet_83 (v := 0) (by decide) ?_
            refine x_topi (show (0 : Int32) = nI 0 by decide) ?_
            refine x_istore C d_Mo_sheet_84 (by decide) (lv' := [(4, .int (nI 0)), (0, .ref (Z.2.1 (0))), (1, .int (nI sq)), (2, .int (b)), (3, .int (m))]) rfl ?_
            have LP_86 : ∀ (f_ i : Nat), i ≤ 40 → 40 - i < f_ → WX X 5 yM Z (QX X yM Z (QkI yM Z (if ¬ ((0 ≤ (nI sq) ∧ (nI sq) ≤ 3) ∧ (b = 0 ∨ b = 8 ∨ b = 16 ∨ b = 32)) then (-1000001) else if m < 0 then (-1000007) else if 40 < m then (-1000001) else if b = 0 then 0 else m) (fun u => ∃ ρ : Nat → Int32, u = va_up (if ¬ ((0 ≤ (nI sq) ∧ (nI sq) ≤ 3) ∧ (b = 0 ∨ b = 8 ∨ b = 16 ∨ b = 32)) then va_up g 4 (mfnR (g 4) 0) else if m < 0 then va_up g 4 (mfnR (g 4) 6) else if 40 < m then va_up g 4 (mfnR (g 4) 0) else va_up (va_up (va_up g 8 (upd (g 8) (nI sq).toNatClampNeg b)) 9 (upd (g 9) (nI sq).toNatClampNeg (if b = 0 then 0 else m))) 10 (zerM (g 10) (nI sq).toNatClampNeg 40)) 2 ρ))) (va_up (va_up (va_up g 8 (upd (g 8) sq b)) 9 (upd (g 9) sq (if b = 0 then 0 else m))) 10 (zerM (g 10) sq (i))) 86 [(4, .int (nI i)), (0, .ref (Z.2.1 (0))), (1, .int (nI sq)), (2, .int (b)), (3, .int (m))] [] := by
              intro f_
              induction f_ with
              | zero => intro i h1_ h2_; exact absurd h2_ (Nat.not_lt_zero _)
              | succ f_ ih_86 =>
                intro i hi_86 hf_86
                refine x_iload C d_Mo_sheet_86 0 rfl ?_
                refine x_bipush C d_Mo_sheet_88 (v := 40) (by decide) ?_
                refine x_icmp_ge C d_Mo_sheet_90 112 (by decide) (fun c_6 => ?_) (fun c_6 => ?_)
                · have nc_6 := Int32.not_lt.mpr c_6
                  have mc_6 : 40 ≤ i := (nI_leI (by omega) (by omega)).mp (show nI 40 ≤ nI i from c_6)
                  have e_i : 40 = i := by omega
                  subst e_i
                  refine x_aload_n C d_Mo_sheet_112 1 rfl rfl ?_
                  refine gf_Mo_sizes C k_808 d_Mo_sheet_113 ?_
                  refine x_iload_n C d_Mo_sheet_116 2 rfl rfl ?_
                  refine al_m_sizes C sq (v := if b = 0 then 0 else m) rfl (by first | omega | (simp only [pI]; omega)) (Eq.trans (congrFun (Eq.trans (va_up_ne _ _ (by omega)) (va_up_self _ _ _)) _) pk_us) d_Mo_sheet_117 ?_
                  exact x_iretK C (by first | with_reducible rfl | (simp [*, -hd]; done) | (simp [*]; done) | (simp_all; done)) (kfinM (G' := va_up (va_up (va_up g 8 (upd (g 8) sq b)) 9 (upd (g 9) sq (if b = 0 then 0 else m))) 10 (zerM (g 10) sq (40))) (by first | with_reducible rfl | (simp [*, -hd]; done) | (simp [*]; done)) (va_id3 (by decide) (by decide) (by decide)).symm) d_Mo_sheet_118
                · have nc_6 := Int32.not_le.mp c_6
                  have mc_6 : ¬ 40 ≤ i := fun z_ => (show ¬ nI 40 ≤ nI i from c_6) ((nI_leI (by omega) (by omega)).mpr z_)
                  refine x_aload_n C d_Mo_sheet_93 1 rfl rfl ?_
                  refine gf_Mo_numbers C k_809 d_Mo_sheet_94 ?_
                  refine x_bipush C d_Mo_sheet_97 (v := 40) (by decide) ?_
                  refine x_iload_n C d_Mo_sheet_99 2 rfl rfl ?_
                  refine x_imul C d_Mo_sheet_100 ?_
                  refine x_topi (x' := nI (40 * sq)) (pk_mul 40 _) ?_
                  refine x_iload C d_Mo_sheet_101 0 rfl ?_
                  refine x_iadd C d_Mo_sheet_103 ?_
                  refine x_topi (x' := nI (40 * sq + i)) (nI_add _ _) ?_
                  refine x_iconst C d_Mo_sheet_104 (v := 0) (by decide) ?_
                  refine as_m_numbers C (40 * sq + i) (v := 0) rfl (by first | omega | (simp only [pI]; omega)) (G := va_up (va_up (va_up g 8 (upd (g 8) sq b)) 9 (upd (g 9) sq (if b = 0 then 0 else m))) 10 (upd (zerM (g 10) sq (i)) (40 * sq + i) 0)) up_va d_Mo_sheet_105 ?_
                  refine x_iinc C d_Mo_sheet_106 0 rfl (v := nI (i + 1)) (nI_1 _) (by decide) (lv' := [(4, .int (nI (i + 1))), (0, .ref (Z.2.1 (0))), (1, .int (nI sq)), (2, .int (b)), (3, .int (m))]) rfl ?_
                  refine x_goto C d_Mo_sheet_109 86 (by decide) ?_
                  refine x_eqg (g' := va_up (va_up (va_up g 8 (upd (g 8) sq b)) 9 (upd (g 9) sq (if b = 0 then 0 else m))) 10 (zerM (g 10) sq (i + 1))) rfl ?_
                  exact ih_86 (i + 1) (by omega) (by omega)
            refine x_eqg (g' := va_up (va_up (va_up g 8 (upd (g 8) sq b)) 9 (upd (g 9) sq (if b = 0 then 0 else m))) 10 (zerM (g 10) sq (0))) (by first | contradiction | ((first | rw [if_pos (by assumption)] | rw [if_neg (by assumption)]); exact (va_idnn (a := 8) (b := 9) (t := 10) (by decide) (by decide)).symm)) ?_
            exact LP_86 (40 + 1) 0 (Nat.zero_le _) (by omega)
          · refine x_iconst C d_Mo_sheet_77 (v := 0) (by decide) ?_
            refine x_goto C d_Mo_sheet_78 82 (by decide) ?_
            refine as_m_sizes C sq (v := 0) rfl (by first | omega | (simp only [pI]; omega)) (G := va_up (va_up g 8 (upd (g 8) sq b)) 9 (upd (g 9) sq 0)) (congrArg (fun z => va_up _ _ (upd z _ _)) (va_up_ne _ _ (by omega))) d_Mo_sheet_82 ?_
            refine x_iconst C d_Mo_sheet_83 (v := 0) (by decide) ?_
            refine x_topi (show (0 : Int32) = nI 0 by decide) ?_
            refine x_istore C d_Mo_sheet_84 (by decide) (lv' := [(4, .int (nI 0)), (0, .ref (Z.2.1 (0))), (1, .int (nI sq)), (2, .int (b)), (3, .int (m))]) rfl ?_
            have LP_86 : ∀ (f_ i : Nat), i ≤ 40 → 40 - i < f_ → WX X 5 yM Z (QX X yM Z (QkI yM Z (if ¬ ((0 ≤ (nI sq) ∧ (nI sq) ≤ 3) ∧ (b = 0 ∨ b = 8 ∨ b = 16 ∨ b = 32)) then (-1000001) else if m < 0 then (-1000007) else if 40 < m then (-1000001) else if b = 0 then 0 else m) (fun u => ∃ ρ : Nat → Int32, u = va_up (if ¬ ((0 ≤ (nI sq) ∧ (nI sq) ≤ 3) ∧ (b = 0 ∨ b = 8 ∨ b = 16 ∨ b = 32)) then va_up g 4 (mfnR (g 4) 0) else if m < 0 then va_up g 4 (mfnR (g 4) 6) else if 40 < m then va_up g 4 (mfnR (g 4) 0) else va_up (va_up (va_up g 8 (upd (g 8) (nI sq).toNatClampNeg b)) 9 (upd (g 9) (nI sq).toNatClampNeg (if b = 0 then 0 else m))) 10 (zerM (g 10) (nI sq).toNatClampNeg 40)) 2 ρ))) (va_up (va_up (va_up g 8 (upd (g 8) sq b)) 9 (upd (g 9) sq (if b = 0 then 0 else m))) 10 (zerM (g 10) sq (i))) 86 [(4, .int (nI i)), (0, .ref (Z.2.1 (0))), (1, .int (nI sq)), (2, .int (b)), (3, .int (m))] [] := by
              intro f_
              induction f_ with
              | zero => intro i h1_ h2_; exact absurd h2_ (Nat.not_lt_zero _)
              | succ f_ ih_86 =>
                intro i hi_86 hf_86
                refine x_iload C d_Mo_sheet_86 0 rfl ?_
                refine x_bipush C d_Mo_sheet_88 (v := 40) (by decide) ?_
                refine x_icmp_ge C d_Mo_sheet_90 112 (by decide) (fun c_7 => ?_) (fun c_7 => ?_)
                · have nc_7 := Int32.not_lt.mpr c_7
                  have mc_7 : 40 ≤ i := (nI_leI (by omega) (by omega)).mp (show nI 40 ≤ nI i from c_7)
                  have e_i : 40 = i := by omega
                  subst e_i
                  refine x_aload_n C d_Mo_sheet_112 1 rfl rfl ?_
                  refine gf_Mo_sizes C k_808 d_Mo_sheet_113 ?_
                  refine x_iload_n C d_Mo_sheet_116 2 rfl rfl ?_
                  refine al_m_sizes C sq (v := if b = 0 then 0 else m) rfl (by first | omega | (simp only [pI]; omega)) (Eq.trans (congrFun (Eq.trans (va_up_ne _ _ (by omega)) (va_up_self _ _ _)) _) pk_us) d_Mo_sheet_117 ?_
                  exact x_iretK C (by first | with_reducible rfl | (simp [*, -hd]; done) | (simp [*]; done) | (simp_all; done)) (kfinM (G' := va_up (va_up (va_up g 8 (upd (g 8) sq b)) 9 (upd (g 9) sq (if b = 0 then 0 else m))) 10 (zerM (g 10) sq (40))) (by first | with_reducible rfl | (simp [*, -hd]; done) | (simp [*]; done)) (va_id3 (by decide) (by decide) (by decide)).symm) d_Mo_sheet_118
                · have nc_7 := Int32.not_le.mp c_7
                  have mc_7 : ¬ 40 ≤ i := fun z_ => (show ¬ nI 40 ≤ nI i from c_7) ((nI_leI (by omega) (by omega)).mpr z_)
                  refine x_aload_n C d_Mo_sheet_93 1 rfl rfl ?_
                  refine gf_Mo_numbers C k_809 d_Mo_sheet_94 ?_
                  refine x_bipush C d_Mo_sheet_97 (v := 40) (by decide) ?_
                  refine x_iload_n C d_Mo_sheet_99 2 rfl rfl ?_
                  refine x_imul C d_Mo_sheet_100 ?_
                  refine x_topi (x' := nI (40 * sq)) (pk_mul 40 _) ?_
                  refine x_iload C d_Mo_sheet_101 0 rfl ?_
                  refine x_iadd C d_Mo_sheet_103 ?_
                  refine x_topi (x' := nI (40 * sq + i)) (nI_add _ _) ?_
                  refine x_iconst C d_Mo_sheet_104 (v := 0) (by decide) ?_
                  refine as_m_numbers C (40 * sq + i) (v := 0) rfl (by first | omega | (simp only [pI]; omega)) (G := va_up (va_up (va_up g 8 (upd (g 8) sq b)) 9 (upd (g 9) sq (if b = 0 then 0 else m))) 10 (upd (zerM (g 10) sq (i)) (40 * sq + i) 0)) up_va d_Mo_sheet_105 ?_
                  refine x_iinc C d_Mo_sheet_106 0 rfl (v := nI (i + 1)) (nI_1 _) (by decide) (lv' := [(4, .int (nI (i + 1))), (0, .ref (Z.2.1 (0))), (1, .int (nI sq)), (2, .int (b)), (3, .int (m))]) rfl ?_
                  refine x_goto C d_Mo_sheet_109 86 (by decide) ?_
                  refine x_eqg (g' := va_up (va_up (va_up g 8 (upd (g 8) sq b)) 9 (upd (g 9) sq (if b = 0 then 0 else m))) 10 (zerM (g 10) sq (i + 1))) rfl ?_
                  exact ih_86 (i + 1) (by omega) (by omega)
            refine x_eqg (g' := va_up (va_up (va_up g 8 (upd (g 8) sq b)) 9 (upd (g 9) sq (if b = 0 then 0 else m))) 10 (zerM (g 10) sq (0))) (by first | contradiction | ((first | rw [if_pos (by assumption)] | rw [if_neg (by assumption)]); exact (va_idnn (a := 8) (b := 9) (t := 10) (by decide) (by decide)).symm)) ?_
            exact LP_86 (40 + 1) 0 (Nat.zero_le _) (by omega)
        · have nc_4 := Int32.not_le.mp c_4
          refine x_aload_n C d_Mo_sheet_54 0 rfl rfl ?_
          refine x_ldc C d_Mo_sheet_55 k_866 ?_
          refine x_callVi C (c_Mo_finding_0 Z (g) _ rfl) mi_Mo_finding k_867 (show 0 < 12 by omega) (m_0 Z _) rfl (As := [.int ((-1000001))]) ⟨Nat.le_of_ble_eq_true rfl, Nat.le_of_ble_eq_true rfl⟩ rfl rfl (Nat.le_of_ble_eq_true rfl) d_Mo_sheet_57 ?_
          exact x_iretK C (by first | with_reducible rfl | (simp [*, -hd]; done) | (simp [*]; done) | (simp_all; done)) (kfinM (G' := va_up g 4 (mfnR (g 4) 0)) (by first | with_reducible rfl | (simp [*, -hd]; done) | (simp [*]; done) | (simp_all; done)) (va_idn (by omega)).symm) d_Mo_sheet_60
      · have nc_3 := Int32.not_le.mp c_3
        refine x_aload_n C d_Mo_sheet_40 0 rfl rfl ?_
        refine x_ldcw C d_Mo_sheet_41 k_1222 ?_
        refine x_callVi C (c_Mo_finding_6 Z (g) _ rfl) mi_Mo_finding k_867 (show 0 < 12 by omega) (m_0 Z _) rfl (As := [.int ((-1000007))]) ⟨Nat.le_of_ble_eq_true rfl, Nat.le_of_ble_eq_true rfl⟩ rfl rfl (Nat.le_of_ble_eq_true rfl) d_Mo_sheet_44 ?_
        exact x_iretK C (by first | with_reducible rfl | (simp [*, -hd]; done) | (simp [*]; done) | (simp_all; done)) (kfinM (G' := va_up g 4 (mfnR (g 4) 6)) (by first | with_reducible rfl | (simp [*, -hd]; done) | (simp [*]; done) | (simp_all; done)) (va_idn (by omega)).symm) d_Mo_sheet_47
    · refine x_iload_n C d_Mo_sheet_11 2 rfl rfl ?_
      refine x_bipush C d_Mo_sheet_12 (v := 8) (by decide) ?_
      refine x_icmp_eq C d_Mo_sheet_14 36 (by decide) (fun c_8 => ?_) (fun c_8 => ?_)
      · refine x_iload_n C d_Mo_sheet_36 3 rfl rfl ?_
        refine x_ifge C d_Mo_sheet_37 48 (by decide) (fun c_9 => ?_) (fun c_9 => ?_)
        · have nc_9 := Int32.not_lt.mpr c_9
          refine x_iload_n C d_Mo_sheet_48 3 rfl rfl ?_
          refine x_bipush C d_Mo_sheet_49 (v := 40) (by decide) ?_
          refine x_icmp_le C d_Mo_sheet_51 61 (by decide) (fun c_10 => ?_) (fun c_10 => ?_)
          · have nc_10 := Int32.not_lt.mpr c_10
            refine x_aload_n C d_Mo_sheet_61 0 rfl rfl ?_
            refine gf_Mo_widths C k_807 d_Mo_sheet_62 ?_
            refine x_iload_n C d_Mo_sheet_65 1 rfl rfl ?_
            refine x_iload_n C d_Mo_sheet_66 2 rfl rfl ?_
            refine as_m_widths C sq (v := b) rfl (by first | omega | (simp only [pI]; omega)) (G := va_up g 8 (upd (g 8) sq b)) rfl d_Mo_sheet_67 ?_
            refine x_aload_n C d_Mo_sheet_68 0 rfl rfl ?_
            refine gf_Mo_sizes C k_808 d_Mo_sheet_69 ?_
            refine x_iload_n C d_Mo_sheet_72 1 rfl rfl ?_
            refine x_iload_n C d_Mo_sheet_73 2 rfl rfl ?_
            refine x_ifne C d_Mo_sheet_74 81 (by decide) (fun c_11 => ?_) (fun c_11 => ?_)
            · refine x_iload_n C d_Mo_sheet_81 3 rfl rfl ?_
              refine as_m_sizes C sq (v := m) rfl (by first | omega | (simp only [pI]; omega)) (G := va_up (va_up g 8 (upd (g 8) sq b)) 9 (upd (g 9) sq m)) (congrArg (fun z => va_up _ _ (upd z _ _)) (va_up_ne _ _ (by omega))) d_Mo_sheet_82 ?_
              refine x_iconst C d_Mo_sheet_83 (v := 0) (by decide) ?_
              refine x_topi (show (0 : Int32) = nI 0 by decide) ?_
              refine x_istore C d_Mo_sheet_84 (by decide) (lv' := [(4, .int (nI 0)), (0, .ref (Z.2.1 (0))), (1, .int (nI sq)), (2, .int (b)), (3, .int (m))]) rfl ?_
              have LP_86 : ∀ (f_ i : Nat), i ≤ 40 → 40 - i < f_ → WX X 5 yM Z (QX X yM Z (QkI yM Z (if ¬ ((0 ≤ (nI sq) ∧ (nI sq) ≤ 3) ∧ (b = 0 ∨ b = 8 ∨ b = 16 ∨ b = 32)) then (-1000001) else if m < 0 then (-1000007) else if 40 < m then (-1000001) else if b = 0 then 0 else m) (fun u => ∃ ρ : Nat → Int32, u = va_up (if ¬ ((0 ≤ (nI sq) ∧ (nI sq) ≤ 3) ∧ (b = 0 ∨ b = 8 ∨ b = 16 ∨ b = 32)) then va_up g 4 (mfnR (g 4) 0) else if m < 0 then va_up g 4 (mfnR (g 4) 6) else if 40 < m then va_up g 4 (mfnR (g 4) 0) else va_up (va_up (va_up g 8 (upd (g 8) (nI sq).toNatClampNeg b)) 9 (upd (g 9) (nI sq).toNatClampNeg (if b = 0 then 0 else m))) 10 (zerM (g 10) (nI sq).toNatClampNeg 40)) 2 ρ))) (va_up (va_up (va_up g 8 (upd (g 8) sq b)) 9 (upd (g 9) sq (if b = 0 then 0 else m))) 10 (zerM (g 10) sq (i))) 86 [(4, .int (nI i)), (0, .ref (Z.2.1 (0))), (1, .int (nI sq)), (2, .int (b)), (3, .int (m))] [] := by
                intro f_
                induction f_ with
                | zero => intro i h1_ h2_; exact absurd h2_ (Nat.not_lt_zero _)
                | succ f_ ih_86 =>
                  intro i hi_86 hf_86
                  refine x_iload C d_Mo_sheet_86 0 rfl ?_
                  refine x_bipush C d_Mo_sheet_88 (v := 40) (by decide) ?_
                  refine x_icmp_ge C d_Mo_sheet_90 112 (by decide) (fun c_12 => ?_) (fun c_12 => ?_)
                  · have nc_12 := Int32.not_lt.mpr c_12
                    have mc_12 : 40 ≤ i := (nI_leI (by omega) (by omega)).mp (show nI 40 ≤ nI i from c_12)
                    have e_i : 40 = i := by omega
                    subst e_i
                    refine x_aload_n C d_Mo_sheet_112 1 rfl rfl ?_
                    refine gf_Mo_sizes C k_808 d_Mo_sheet_113 ?_
                    refine x_iload_n C d_Mo_sheet_116 2 rfl rfl ?_
                    refine al_m_sizes C sq (v := if b = 0 then 0 else m) rfl (by first | omega | (simp only [pI]; omega)) (Eq.trans (congrFun (Eq.trans (va_up_ne _ _ (by omega)) (va_up_self _ _ _)) _) pk_us) d_Mo_sheet_117 ?_
                    exact x_iretK C (by first | with_reducible rfl | (simp [*, -hd]; done) | (simp [*]; done) | (simp_all; done)) (kfinM (G' := va_up (va_up (va_up g 8 (upd (g 8) sq b)) 9 (upd (g 9) sq (if b = 0 then 0 else m))) 10 (zerM (g 10) sq (40))) (by first | with_reducible rfl | (simp [*, -hd]; done) | (simp [*]; done)) (va_id3 (by decide) (by decide) (by decide)).symm) d_Mo_sheet_118
                  · have nc_12 := Int32.not_le.mp c_12
                    have mc_12 : ¬ 40 ≤ i := fun z_ => (show ¬ nI 40 ≤ nI i from c_12) ((nI_leI (by omega) (by omega)).mpr z_)
                    refine x_aload_n C d_Mo_sheet_93 1 rfl rfl ?_
                    refine gf_Mo_numbers C k_809 d_Mo_sheet_94 ?_
                    refine x_bipush C d_Mo_sheet_97 (v := 40) (by decide) ?_
                    refine x_iload_n C d_Mo_sheet_99 2 rfl rfl ?_
                    refine x_imul C d_Mo_sheet_100 ?_
                    refine x_topi (x' := nI (40 * sq)) (pk_mul 40 _) ?_
                    refine x_iload C d_Mo_sheet_101 0 rfl ?_
                    refine x_iadd C d_Mo_sheet_103 ?_
                    refine x_topi (x' := nI (40 * sq + i)) (nI_add _ _) ?_
                    refine x_iconst C d_Mo_sheet_104 (v := 0) (by decide) ?_
                    refine as_m_numbers C (40 * sq + i) (v := 0) rfl (by first | omega | (simp only [pI]; omega)) (G := va_up (va_up (va_up g 8 (upd (g 8) sq b)) 9 (upd (g 9) sq (if b = 0 then 0 else m))) 10 (upd (zerM (g 10) sq (i)) (40 * sq + i) 0)) up_va d_Mo_sheet_105 ?_
                    refine x_iinc C d_Mo_sheet_106 0 rfl (v := nI (i + 1)) (nI_1 _) (by decide) (lv' := [(4, .int (nI (i + 1))), (0, .ref (Z.2.1 (0))), (1, .int (nI sq)), (2, .int (b)), (3, .int (m))]) rfl ?_
                    refine x_goto C d_Mo_sheet_109 86 (by decide) ?_
                    refine x_eqg (g' := va_up (va_up (va_up g 8 (upd (g 8) sq b)) 9 (upd (g 9) sq (if b = 0 then 0 else m))) 10 (zerM (g 10) sq (i + 1))) rfl ?_
                    exact ih_86 (i + 1) (by omega) (by omega)
              refine x_eqg (g' := va_up (va_up (va_up g 8 (upd (g 8) sq b)) 9 (upd (g 9) sq (if b = 0 then 0 else m))) 10 (zerM (g 10) sq (0))) (by first | contradiction | ((first | rw [if_pos (by assumption)] | rw [if_neg (by assumption)]); exact (va_idnn (a := 8) (b := 9) (t := 10) (by decide) (by decide)).symm)) ?_
              exact LP_86 (40 + 1) 0 (Nat.zero_le _) (by omega)
            · refine x_iconst C d_Mo_sheet_77 (v := 0) (by decide) ?_
              refine x_goto C d_Mo_sheet_78 82 (by decide) ?_
              refine as_m_sizes C sq (v := 0) rfl (by first | omega | (simp only [pI]; omega)) (G := va_up (va_up g 8 (upd (g 8) sq b)) 9 (upd (g 9) sq 0)) (congrArg (fun z => va_up _ _ (upd z _ _)) (va_up_ne _ _ (by omega))) d_Mo_sheet_82 ?_
              refine x_iconst C d_Mo_sheet_83 (v := 0) (by decide) ?_
              refine x_topi (show (0 : Int32) = nI 0 by decide) ?_
              refine x_istore C d_Mo_sheet_84 (by decide) (lv' := [(4, .int (nI 0)), (0, .ref (Z.2.1 (0))), (1, .int (nI sq)), (2, .int (b)), (3, .int (m))]) rfl ?_
              have LP_86 : ∀ (f_ i : Nat), i ≤ 40 → 40 - i < f_ → WX X 5 yM Z (QX X yM Z (QkI yM Z (if ¬ ((0 ≤ (nI sq) ∧ (nI sq) ≤ 3) ∧ (b = 0 ∨ b = 8 ∨ b = 16 ∨ b = 32)) then (-1000001) else if m < 0 then (-1000007) else if 40 < m then (-1000001) else if b = 0 then 0 else m) (fun u => ∃ ρ : Nat → Int32, u = va_up (if ¬ ((0 ≤ (nI sq) ∧ (nI sq) ≤ 3) ∧ (b = 0 ∨ b = 8 ∨ b = 16 ∨ b = 32)) then va_up g 4 (mfnR (g 4) 0) else if m < 0 then va_up g 4 (mfnR (g 4) 6) else if 40 < m then va_up g 4 (mfnR (g 4) 0) else va_up (va_up (va_up g 8 (upd (g 8) (nI sq).toNatClampNeg b)) 9 (upd (g 9) (nI sq).toNatClampNeg (if b = 0 then 0 else m))) 10 (zerM (g 10) (nI sq).toNatClampNeg 40)) 2 ρ))) (va_up (va_up (va_up g 8 (upd (g 8) sq b)) 9 (upd (g 9) sq (if b = 0 then 0 else m))) 10 (zerM (g 10) sq (i))) 86 [(4, .int (nI i)), (0, .ref (Z.2.1 (0))), (1, .int (nI sq)), (2, .int (b)), (3, .int (m))] [] := by
                intro f_
                induction f_ with
                | zero => intro i h1_ h2_; exact absurd h2_ (Nat.not_lt_zero _)
                | succ f_ ih_86 =>
                  intro i hi_86 hf_86
                  refine x_iload C d_Mo_sheet_86 0 rfl ?_
                  refine x_bipush C d_Mo_sheet_88 (v := 40) (by decide) ?_
                  refine x_icmp_ge C d_Mo_sheet_90 112 (by decide) (fun c_13 => ?_) (fun c_13 => ?_)
                  · have nc_13 := Int32.not_lt.mpr c_13
                    have mc_13 : 40 ≤ i := (nI_leI (by omega) (by omega)).mp (show nI 40 ≤ nI i from c_13)
                    have e_i : 40 = i := by omega
                    subst e_i
                    refine x_aload_n C d_Mo_sheet_112 1 rfl rfl ?_
                    refine gf_Mo_sizes C k_808 d_Mo_sheet_113 ?_
                    refine x_iload_n C d_Mo_sheet_116 2 rfl rfl ?_
                    refine al_m_sizes C sq (v := if b = 0 then 0 else m) rfl (by first | omega | (simp only [pI]; omega)) (Eq.trans (congrFun (Eq.trans (va_up_ne _ _ (by omega)) (va_up_self _ _ _)) _) pk_us) d_Mo_sheet_117 ?_
                    exact x_iretK C (by first | with_reducible rfl | (simp [*, -hd]; done) | (simp [*]; done) | (simp_all; done)) (kfinM (G' := va_up (va_up (va_up g 8 (upd (g 8) sq b)) 9 (upd (g 9) sq (if b = 0 then 0 else m))) 10 (zerM (g 10) sq (40))) (by first | with_reducible rfl | (simp [*, -hd]; done) | (simp [*]; done)) (va_id3 (by decide) (by decide) (by decide)).symm) d_Mo_sheet_118
                  · have nc_13 := Int32.not_le.mp c_13
                    have mc_13 : ¬ 40 ≤ i := fun z_ => (show ¬ nI 40 ≤ nI i from c_13) ((nI_leI (by omega) (by omega)).mpr z_)
                    refine x_aload_n C d_Mo_sheet_93 1 rfl rfl ?_
                    refine gf_Mo_numbers C k_809 d_Mo_sheet_94 ?_
                    refine x_bipush C d_Mo_sheet_97 (v := 40) (by decide) ?_
                    refine x_iload_n C d_Mo_sheet_99 2 rfl rfl ?_
                    refine x_imul C d_Mo_sheet_100 ?_
                    refine x_topi (x' := nI (40 * sq)) (pk_mul 40 _) ?_
                    refine x_iload C d_Mo_sheet_101 0 rfl ?_
                    refine x_iadd C d_Mo_sheet_103 ?_
                    refine x_topi (x' := nI (40 * sq + i)) (nI_add _ _) ?_
                    refine x_iconst C d_Mo_sheet_104 (v := 0) (by decide) ?_
                    refine as_m_numbers C (40 * sq + i) (v := 0) rfl (by first | omega | (simp only [pI]; omega)) (G := va_up (va_up (va_up g 8 (upd (g 8) sq b)) 9 (upd (g 9) sq (if b = 0 then 0 else m))) 10 (upd (zerM (g 10) sq (i)) (40 * sq + i) 0)) up_va d_Mo_sheet_105 ?_
                    refine x_iinc C d_Mo_sheet_106 0 rfl (v := nI (i + 1)) (nI_1 _) (by decide) (lv' := [(4, .int (nI (i + 1))), (0, .ref (Z.2.1 (0))), (1, .int (nI sq)), (2, .int (b)), (3, .int (m))]) rfl ?_
                    refine x_goto C d_Mo_sheet_109 86 (by decide) ?_
                    refine x_eqg (g' := va_up (va_up (va_up g 8 (upd (g 8) sq b)) 9 (upd (g 9) sq (if b = 0 then 0 else m))) 10 (zerM (g 10) sq (i + 1))) rfl ?_
                    exact ih_86 (i + 1) (by omega) (by omega)
              refine x_eqg (g' := va_up (va_up (va_up g 8 (upd (g 8) sq b)) 9 (upd (g 9) sq (if b = 0 then 0 else m))) 10 (zerM (g 10) sq (0))) (by first | contradiction | ((first | rw [if_pos (by assumption)] | rw [if_neg (by assumption)]); exact (va_idnn (a := 8) (b := 9) (t := 10) (by decide) (by decide)).symm)) ?_
              exact LP_86 (40 + 1) 0 (Nat.zero_le _) (by omega)
          · have nc_10 := Int32.not_le.mp c_10
            refine x_aload_n C d_Mo_sheet_54 0 rfl rfl ?_
            refine x_ldc C d_Mo_sheet_55 k_866 ?_
            refine x_callVi C (c_Mo_finding_0 Z (g) _ rfl) mi_Mo_finding k_867 (show 0 < 12 by omega) (m_0 Z _) rfl (As := [.int ((-1000001))]) ⟨Nat.le_of_ble_eq_true rfl, Nat.le_of_ble_eq_true rfl⟩ rfl rfl (Nat.le_of_ble_eq_true rfl) d_Mo_sheet_57 ?_
            exact x_iretK C (by first | with_reducible rfl | (simp [*, -hd]; done) | (simp [*]; done) | (simp_all; done)) (kfinM (G' := va_up g 4 (mfnR (g 4) 0)) (by first | with_reducible rfl | (simp [*, -hd]; done) | (simp [*]; done) | (simp_all; done)) (va_idn (by omega)).symm) d_Mo_sheet_60
        · have nc_9 := Int32.not_le.mp c_9
          refine x_aload_n C d_Mo_sheet_40 0 rfl rfl ?_
          refine x_ldcw C d_Mo_sheet_41 k_1222 ?_
          refine x_callVi C (c_Mo_finding_6 Z (g) _ rfl) mi_Mo_finding k_867 (show 0 < 12 by omega) (m_0 Z _) rfl (As := [.int ((-1000007))]) ⟨Nat.le_of_ble_eq_true rfl, Nat.le_of_ble_eq_true rfl⟩ rfl rfl (Nat.le_of_ble_eq_true rfl) d_Mo_sheet_44 ?_
          exact x_iretK C (by first | with_reducible rfl | (simp [*, -hd]; done) | (simp [*]; done) | (simp_all; done)) (kfinM (G' := va_up g 4 (mfnR (g 4) 6)) (by first | with_reducible rfl | (simp [*, -hd]; done) | (simp [*]; done) | (simp_all; done)) (va_idn (by omega)).symm) d_Mo_sheet_47
      · have nc_8 := Ne.symm c_8
        refine x_iload_n C d_Mo_sheet_17 2 rfl rfl ?_
        refine x_bipush C d_Mo_sheet_18 (v := 16) (by decide) ?_
        refine x_icmp_eq C d_Mo_sheet_20 36 (by decide) (fun c_14 => ?_) (fun c_14 => ?_)
        · refine x_iload_n C d_Mo_sheet_36 3 rfl rfl ?_
          refine x_ifge C d_Mo_sheet_37 48 (by decide) (fun c_15 => ?_) (fun c_15 => ?_)
          · have nc_15 := Int32.not_lt.mpr c_15
            refine x_iload_n C d_Mo_sheet_48 3 rfl rfl ?_
            refine x_bipush C d_Mo_sheet_49 (v := 40) (by decide) ?_
            refine x_icmp_le C d_Mo_sheet_51 61 (by decide) (fun c_16 => ?_) (fun c_16 => ?_)
            · have nc_16 := Int32.not_lt.mpr c_16
              refine x_aload_n C d_Mo_sheet_61 0 rfl rfl ?_
              refine gf_Mo_widths C k_807 d_Mo_sheet_62 ?_
              refine x_iload_n C d_Mo_sheet_65 1 rfl rfl ?_
              refine x_iload_n C d_Mo_sheet_66 2 rfl rfl ?_
              refine as_m_widths C sq (v := b) rfl (by first | omega | (simp only [pI]; omega)) (G := va_up g 8 (upd (g 8) sq b)) rfl d_Mo_sheet_67 ?_
              refine x_aload_n C d_Mo_sheet_68 0 rfl rfl ?_
              refine gf_Mo_sizes C k_808 d_Mo_sheet_69 ?_
              refine x_iload_n C d_Mo_sheet_72 1 rfl rfl ?_
              refine x_iload_n C d_Mo_sheet_73 2 rfl rfl ?_
              refine x_ifne C d_Mo_sheet_74 81 (by decide) (fun c_17 => ?_) (fun c_17 => ?_)
              · refine x_iload_n C d_Mo_sheet_81 3 rfl rfl ?_
                refine as_m_sizes C sq (v := m) rfl (by first | omega | (simp only [pI]; omega)) (G := va_up (va_up g 8 (upd (g 8) sq b)) 9 (upd (g 9) sq m)) (congrArg (fun z => va_up _ _ (upd z _ _)) (va_up_ne _ _ (by omega))) d_Mo_sheet_82 ?_
                refine x_iconst C d_Mo_sheet_83 (v := 0) (by decide) ?_
                refine x_topi (show (0 : Int32) = nI 0 by decide) ?_
                refine x_istore C d_Mo_sheet_84 (by decide) (lv' := [(4, .int (nI 0)), (0, .ref (Z.2.1 (0))), (1, .int (nI sq)), (2, .int (b)), (3, .int (m))]) rfl ?_
                have LP_86 : ∀ (f_ i : Nat), i ≤ 40 → 40 - i < f_ → WX X 5 yM Z (QX X yM Z (QkI yM Z (if ¬ ((0 ≤ (nI sq) ∧ (nI sq) ≤ 3) ∧ (b = 0 ∨ b = 8 ∨ b = 16 ∨ b = 32)) then (-1000001) else if m < 0 then (-1000007) else if 40 < m then (-1000001) else if b = 0 then 0 else m) (fun u => ∃ ρ : Nat → Int32, u = va_up (if ¬ ((0 ≤ (nI sq) ∧ (nI sq) ≤ 3) ∧ (b = 0 ∨ b = 8 ∨ b = 16 ∨ b = 32)) then va_up g 4 (mfnR (g 4) 0) else if m < 0 then va_up g 4 (mfnR (g 4) 6) else if 40 < m then va_up g 4 (mfnR (g 4) 0) else va_up (va_up (va_up g 8 (upd (g 8) (nI sq).toNatClampNeg b)) 9 (upd (g 9) (nI sq).toNatClampNeg (if b = 0 then 0 else m))) 10 (zerM (g 10) (nI sq).toNatClampNeg 40)) 2 ρ))) (va_up (va_up (va_up g 8 (upd (g 8) sq b)) 9 (upd (g 9) sq (if b = 0 then 0 else m))) 10 (zerM (g 10) sq (i))) 86 [(4, .int (nI i)), (0, .ref (Z.2.1 (0))), (1, .int (nI sq)), (2, .int (b)), (3, .int (m))] [] := by
                  intro f_
                  induction f_ with
                  | zero => intro i h1_ h2_; exact absurd h2_ (Nat.not_lt_zero _)
                  | succ f_ ih_86 =>
                    intro i hi_86 hf_86
                    refine x_iload C d_Mo_sheet_86 0 rfl ?_
                    refine x_bipush C d_Mo_sheet_88 (v := 40) (by decide) ?_
                    refine x_icmp_ge C d_Mo_sheet_90 112 (by decide) (fun c_18 => ?_) (fun c_18 => ?_)
                    · have nc_18 := Int32.not_lt.mpr c_18
                      have mc_18 : 40 ≤ i := (nI_leI (by omega) (by omega)).mp (show nI 40 ≤ nI i from c_18)
                      have e_i : 40 = i := by omega
                      subst e_i
                      refine x_aload_n C d_Mo_sheet_112 1 rfl rfl ?_
                      refine gf_Mo_sizes C k_808 d_Mo_sheet_113 ?_
                      refine x_iload_n C d_Mo_sheet_116 2 rfl rfl ?_
                      refine al_m_sizes C sq (v := if b = 0 then 0 else m) rfl (by first | omega | (simp only [pI]; omega)) (Eq.trans (congrFun (Eq.trans (va_up_ne _ _ (by omega)) (va_up_self _ _ _)) _) pk_us) d_Mo_sheet_117 ?_
                      exact x_iretK C (by first | with_reducible rfl | (simp [*, -hd]; done) | (simp [*]; done) | (simp_all; done)) (kfinM (G' := va_up (va_up (va_up g 8 (upd (g 8) sq b)) 9 (upd (g 9) sq (if b = 0 then 0 else m))) 10 (zerM (g 10) sq (40))) (by first | with_reducible rfl | (simp [*, -hd]; done) | (simp [*]; done)) (va_id3 (by decide) (by decide) (by decide)).symm) d_Mo_sheet_118
                    · have nc_18 := Int32.not_le.mp c_18
                      have mc_18 : ¬ 40 ≤ i := fun z_ => (show ¬ nI 40 ≤ nI i from c_18) ((nI_leI (by omega) (by omega)).mpr z_)
                      refine x_aload_n C d_Mo_sheet_93 1 rfl rfl ?_
                      refine gf_Mo_numbers C k_809 d_Mo_sheet_94 ?_
                      refine x_bipush C d_Mo_sheet_97 (v := 40) (by decide) ?_
                      refine x_iload_n C d_Mo_sheet_99 2 rfl rfl ?_
                      refine x_imul C d_Mo_sheet_100 ?_
                      refine x_topi (x' := nI (40 * sq)) (pk_mul 40 _) ?_
                      refine x_iload C d_Mo_sheet_101 0 rfl ?_
                      refine x_iadd C d_Mo_sheet_103 ?_
                      refine x_topi (x' := nI (40 * sq + i)) (nI_add _ _) ?_
                      refine x_iconst C d_Mo_sheet_104 (v := 0) (by decide) ?_
                      refine as_m_numbers C (40 * sq + i) (v := 0) rfl (by first | omega | (simp only [pI]; omega)) (G := va_up (va_up (va_up g 8 (upd (g 8) sq b)) 9 (upd (g 9) sq (if b = 0 then 0 else m))) 10 (upd (zerM (g 10) sq (i)) (40 * sq + i) 0)) up_va d_Mo_sheet_105 ?_
                      refine x_iinc C d_Mo_sheet_106 0 rfl (v := nI (i + 1)) (nI_1 _) (by decide) (lv' := [(4, .int (nI (i + 1))), (0, .ref (Z.2.1 (0))), (1, .int (nI sq)), (2, .int (b)), (3, .int (m))]) rfl ?_
                      refine x_goto C d_Mo_sheet_109 86 (by decide) ?_
                      refine x_eqg (g' := va_up (va_up (va_up g 8 (upd (g 8) sq b)) 9 (upd (g 9) sq (if b = 0 then 0 else m))) 10 (zerM (g 10) sq (i + 1))) rfl ?_
                      exact ih_86 (i + 1) (by omega) (by omega)
                refine x_eqg (g' := va_up (va_up (va_up g 8 (upd (g 8) sq b)) 9 (upd (g 9) sq (if b = 0 then 0 else m))) 10 (zerM (g 10) sq (0))) (by first | contradiction | ((first | rw [if_pos (by assumption)] | rw [if_neg (by assumption)]); exact (va_idnn (a := 8) (b := 9) (t := 10) (by decide) (by decide)).symm)) ?_
                exact LP_86 (40 + 1) 0 (Nat.zero_le _) (by omega)
              · refine x_iconst C d_Mo_sheet_77 (v := 0) (by decide) ?_
                refine x_goto C d_Mo_sheet_78 82 (by decide) ?_
                refine as_m_sizes C sq (v := 0) rfl (by first | omega | (simp only [pI]; omega)) (G := va_up (va_up g 8 (upd (g 8) sq b)) 9 (upd (g 9) sq 0)) (congrArg (fun z => va_up _ _ (upd z _ _)) (va_up_ne _ _ (by omega))) d_Mo_sheet_82 ?_
                refine x_iconst C d_Mo_sheet_83 (v := 0) (by decide) ?_
                refine x_topi (show (0 : Int32) = nI 0 by decide) ?_
                refine x_istore C d_Mo_sheet_84 (by decide) (lv' := [(4, .int (nI 0)), (0, .ref (Z.2.1 (0))), (1, .int (nI sq)), (2, .int (b)), (3, .int (m))]) rfl ?_
                have LP_86 : ∀ (f_ i : Nat), i ≤ 40 → 40 - i < f_ → WX X 5 yM Z (QX X yM Z (QkI yM Z (if ¬ ((0 ≤ (nI sq) ∧ (nI sq) ≤ 3) ∧ (b = 0 ∨ b = 8 ∨ b = 16 ∨ b = 32)) then (-1000001) else if m < 0 then (-1000007) else if 40 < m then (-1000001) else if b = 0 then 0 else m) (fun u => ∃ ρ : Nat → Int32, u = va_up (if ¬ ((0 ≤ (nI sq) ∧ (nI sq) ≤ 3) ∧ (b = 0 ∨ b = 8 ∨ b = 16 ∨ b = 32)) then va_up g 4 (mfnR (g 4) 0) else if m < 0 then va_up g 4 (mfnR (g 4) 6) else if 40 < m then va_up g 4 (mfnR (g 4) 0) else va_up (va_up (va_up g 8 (upd (g 8) (nI sq).toNatClampNeg b)) 9 (upd (g 9) (nI sq).toNatClampNeg (if b = 0 then 0 else m))) 10 (zerM (g 10) (nI sq).toNatClampNeg 40)) 2 ρ))) (va_up (va_up (va_up g 8 (upd (g 8) sq b)) 9 (upd (g 9) sq (if b = 0 then 0 else m))) 10 (zerM (g 10) sq (i))) 86 [(4, .int (nI i)), (0, .ref (Z.2.1 (0))), (1, .int (nI sq)), (2, .int (b)), (3, .int (m))] [] := by
                  intro f_
                  induction f_ with
                  | zero => intro i h1_ h2_; exact absurd h2_ (Nat.not_lt_zero _)
                  | succ f_ ih_86 =>
                    intro i hi_86 hf_86
                    refine x_iload C d_Mo_sheet_86 0 rfl ?_
                    refine x_bipush C d_Mo_sheet_88 (v := 40) (by decide) ?_
                    refine x_icmp_ge C d_Mo_sheet_90 112 (by decide) (fun c_19 => ?_) (fun c_19 => ?_)
                    · have nc_19 := Int32.not_lt.mpr c_19
                      have mc_19 : 40 ≤ i := (nI_leI (by omega) (by omega)).mp (show nI 40 ≤ nI i from c_19)
                      have e_i : 40 = i := by omega
                      subst e_i
                      refine x_aload_n C d_Mo_sheet_112 1 rfl rfl ?_
                      refine gf_Mo_sizes C k_808 d_Mo_sheet_113 ?_
                      refine x_iload_n C d_Mo_sheet_116 2 rfl rfl ?_
                      refine al_m_sizes C sq (v := if b = 0 then 0 else m) rfl (by first | omega | (simp only [pI]; omega)) (Eq.trans (congrFun (Eq.trans (va_up_ne _ _ (by omega)) (va_up_self _ _ _)) _) pk_us) d_Mo_sheet_117 ?_
                      exact x_iretK C (by first | with_reducible rfl | (simp [*, -hd]; done) | (simp [*]; done) | (simp_all; done)) (kfinM (G' := va_up (va_up (va_up g 8 (upd (g 8) sq b)) 9 (upd (g 9) sq (if b = 0 then 0 else m))) 10 (zerM (g 10) sq (40))) (by first | with_reducible rfl | (simp [*, -hd]; done) | (simp [*]; done)) (va_id3 (by decide) (by decide) (by decide)).symm) d_Mo_sheet_118
                    · have nc_19 := Int32.not_le.mp c_19
                      have mc_19 : ¬ 40 ≤ i := fun z_ => (show ¬ nI 40 ≤ nI i from c_19) ((nI_leI (by omega) (by omega)).mpr z_)
                      refine x_aload_n C d_Mo_sheet_93 1 rfl rfl ?_
                      refine gf_Mo_numbers C k_809 d_Mo_sheet_94 ?_
                      refine x_bipush C d_Mo_sheet_97 (v := 40) (by decide) ?_
                      refine x_iload_n C d_Mo_sheet_99 2 rfl rfl ?_
                      refine x_imul C d_Mo_sheet_100 ?_
                      refine x_topi (x' := nI (40 * sq)) (pk_mul 40 _) ?_
                      refine x_iload C d_Mo_sheet_101 0 rfl ?_
                      refine x_iadd C d_Mo_sheet_103 ?_
                      refine x_topi (x' := nI (40 * sq + i)) (nI_add _ _) ?_
                      refine x_iconst C d_Mo_sheet_104 (v := 0) (by decide) ?_
                      refine as_m_numbers C (40 * sq + i) (v := 0) rfl (by first | omega | (simp only [pI]; omega)) (G := va_up (va_up (va_up g 8 (upd (g 8) sq b)) 9 (upd (g 9) sq (if b = 0 then 0 else m))) 10 (upd (zerM (g 10) sq (i)) (40 * sq + i) 0)) up_va d_Mo_sheet_105 ?_
                      refine x_iinc C d_Mo_sheet_106 0 rfl (v := nI (i + 1)) (nI_1 _) (by decide) (lv' := [(4, .int (nI (i + 1))), (0, .ref (Z.2.1 (0))), (1, .int (nI sq)), (2, .int (b)), (3, .int (m))]) rfl ?_
                      refine x_goto C d_Mo_sheet_109 86 (by decide) ?_
                      refine x_eqg (g' := va_up (va_up (va_up g 8 (upd (g 8) sq b)) 9 (upd (g 9) sq (if b = 0 then 0 else m))) 10 (zerM (g 10) sq (i + 1))) rfl ?_
                      exact ih_86 (i + 1) (by omega) (by omega)
                refine x_eqg (g' := va_up (va_up (va_up g 8 (upd (g 8) sq b)) 9 (upd (g 9) sq (if b = 0 then 0 else m))) 10 (zerM (g 10) sq (0))) (by first | contradiction | ((first | rw [if_pos (by assumption)] | rw [if_neg (by assumption)]); exact (va_idnn (a := 8) (b := 9) (t := 10) (by decide) (by decide)).symm)) ?_
                exact LP_86 (40 + 1) 0 (Nat.zero_le _) (by omega)
            · have nc_16 := Int32.not_le.mp c_16
              refine x_aload_n C d_Mo_sheet_54 0 rfl rfl ?_
              refine x_ldc C d_Mo_sheet_55 k_866 ?_
              refine x_callVi C (c_Mo_finding_0 Z (g) _ rfl) mi_Mo_finding k_867 (show 0 < 12 by omega) (m_0 Z _) rfl (As := [.int ((-1000001))]) ⟨Nat.le_of_ble_eq_true rfl, Nat.le_of_ble_eq_true rfl⟩ rfl rfl (Nat.le_of_ble_eq_true rfl) d_Mo_sheet_57 ?_
              exact x_iretK C (by first | with_reducible rfl | (simp [*, -hd]; done) | (simp [*]; done) | (simp_all; done)) (kfinM (G' := va_up g 4 (mfnR (g 4) 0)) (by first | with_reducible rfl | (simp [*, -hd]; done) | (simp [*]; done) | (simp_all; done)) (va_idn (by omega)).symm) d_Mo_sheet_60
          · have nc_15 := Int32.not_le.mp c_15
            refine x_aload_n C d_Mo_sheet_40 0 rfl rfl ?_
            refine x_ldcw C d_Mo_sheet_41 k_1222 ?_
            refine x_callVi C (c_Mo_finding_6 Z (g) _ rfl) mi_Mo_finding k_867 (show 0 < 12 by omega) (m_0 Z _) rfl (As := [.int ((-1000007))]) ⟨Nat.le_of_ble_eq_true rfl, Nat.le_of_ble_eq_true rfl⟩ rfl rfl (Nat.le_of_ble_eq_true rfl) d_Mo_sheet_44 ?_
            exact x_iretK C (by first | with_reducible rfl | (simp [*, -hd]; done) | (simp [*]; done) | (simp_all; done)) (kfinM (G' := va_up g 4 (mfnR (g 4) 6)) (by first | with_reducible rfl | (simp [*, -hd]; done) | (simp [*]; done) | (simp_all; done)) (va_idn (by omega)).symm) d_Mo_sheet_47
        · have nc_14 := Ne.symm c_14
          refine x_iload_n C d_Mo_sheet_23 2 rfl rfl ?_
          refine x_bipush C d_Mo_sheet_24 (v := 32) (by decide) ?_
          refine x_icmp_eq C d_Mo_sheet_26 36 (by decide) (fun c_20 => ?_) (fun c_20 => ?_)
          · refine x_iload_n C d_Mo_sheet_36 3 rfl rfl ?_
            refine x_ifge C d_Mo_sheet_37 48 (by decide) (fun c_21 => ?_) (fun c_21 => ?_)
            · have nc_21 := Int32.not_lt.mpr c_21
              refine x_iload_n C d_Mo_sheet_48 3 rfl rfl ?_
              refine x_bipush C d_Mo_sheet_49 (v := 40) (by decide) ?_
              refine x_icmp_le C d_Mo_sheet_51 61 (by decide) (fun c_22 => ?_) (fun c_22 => ?_)
              · have nc_22 := Int32.not_lt.mpr c_22
                refine x_aload_n C d_Mo_sheet_61 0 rfl rfl ?_
                refine gf_Mo_widths C k_807 d_Mo_sheet_62 ?_
                refine x_iload_n C d_Mo_sheet_65 1 rfl rfl ?_
                refine x_iload_n C d_Mo_sheet_66 2 rfl rfl ?_
                refine as_m_widths C sq (v := b) rfl (by first | omega | (simp only [pI]; omega)) (G := va_up g 8 (upd (g 8) sq b)) rfl d_Mo_sheet_67 ?_
                refine x_aload_n C d_Mo_sheet_68 0 rfl rfl ?_
                refine gf_Mo_sizes C k_808 d_Mo_sheet_69 ?_
                refine x_iload_n C d_Mo_sheet_72 1 rfl rfl ?_
                refine x_iload_n C d_Mo_sheet_73 2 rfl rfl ?_
                refine x_ifne C d_Mo_sheet_74 81 (by decide) (fun c_23 => ?_) (fun c_23 => ?_)
                · refine x_iload_n C d_Mo_sheet_81 3 rfl rfl ?_
                  refine as_m_sizes C sq (v := m) rfl (by first | omega | (simp only [pI]; omega)) (G := va_up (va_up g 8 (upd (g 8) sq b)) 9 (upd (g 9) sq m)) (congrArg (fun z => va_up _ _ (upd z _ _)) (va_up_ne _ _ (by omega))) d_Mo_sheet_82 ?_
                  refine x_iconst C d_Mo_sheet_83 (v := 0) (by decide) ?_
                  refine x_topi (show (0 : Int32) = nI 0 by decide) ?_
                  refine x_istore C d_Mo_sheet_84 (by decide) (lv' := [(4, .int (nI 0)), (0, .ref (Z.2.1 (0))), (1, .int (nI sq)), (2, .int (b)), (3, .int (m))]) rfl ?_
                  have LP_86 : ∀ (f_ i : Nat), i ≤ 40 → 40 - i < f_ → WX X 5 yM Z (QX X yM Z (QkI yM Z (if ¬ ((0 ≤ (nI sq) ∧ (nI sq) ≤ 3) ∧ (b = 0 ∨ b = 8 ∨ b = 16 ∨ b = 32)) then (-1000001) else if m < 0 then (-1000007) else if 40 < m then (-1000001) else if b = 0 then 0 else m) (fun u => ∃ ρ : Nat → Int32, u = va_up (if ¬ ((0 ≤ (nI sq) ∧ (nI sq) ≤ 3) ∧ (b = 0 ∨ b = 8 ∨ b = 16 ∨ b = 32)) then va_up g 4 (mfnR (g 4) 0) else if m < 0 then va_up g 4 (mfnR (g 4) 6) else if 40 < m then va_up g 4 (mfnR (g 4) 0) else va_up (va_up (va_up g 8 (upd (g 8) (nI sq).toNatClampNeg b)) 9 (upd (g 9) (nI sq).toNatClampNeg (if b = 0 then 0 else m))) 10 (zerM (g 10) (nI sq).toNatClampNeg 40)) 2 ρ))) (va_up (va_up (va_up g 8 (upd (g 8) sq b)) 9 (upd (g 9) sq (if b = 0 then 0 else m))) 10 (zerM (g 10) sq (i))) 86 [(4, .int (nI i)), (0, .ref (Z.2.1 (0))), (1, .int (nI sq)), (2, .int (b)), (3, .int (m))] [] := by
                    intro f_
                    induction f_ with
                    | zero => intro i h1_ h2_; exact absurd h2_ (Nat.not_lt_zero _)
                    | succ f_ ih_86 =>
                      intro i hi_86 hf_86
                      refine x_iload C d_Mo_sheet_86 0 rfl ?_
                      refine x_bipush C d_Mo_sheet_88 (v := 40) (by decide) ?_
                      refine x_icmp_ge C d_Mo_sheet_90 112 (by decide) (fun c_24 => ?_) (fun c_24 => ?_)
                      · have nc_24 := Int32.not_lt.mpr c_24
                        have mc_24 : 40 ≤ i := (nI_leI (by omega) (by omega)).mp (show nI 40 ≤ nI i from c_24)
                        have e_i : 40 = i := by omega
                        subst e_i
                        refine x_aload_n C d_Mo_sheet_112 1 rfl rfl ?_
                        refine gf_Mo_sizes C k_808 d_Mo_sheet_113 ?_
                        refine x_iload_n C d_Mo_sheet_116 2 rfl rfl ?_
                        refine al_m_sizes C sq (v := if b = 0 then 0 else m) rfl (by first | omega | (simp only [pI]; omega)) (Eq.trans (congrFun (Eq.trans (va_up_ne _ _ (by omega)) (va_up_self _ _ _)) _) pk_us) d_Mo_sheet_117 ?_
                        exact x_iretK C (by first | with_reducible rfl | (simp [*, -hd]; done) | (simp [*]; done) | (simp_all; done)) (kfinM (G' := va_up (va_up (va_up g 8 (upd (g 8) sq b)) 9 (upd (g 9) sq (if b = 0 then 0 else m))) 10 (zerM (g 10) sq (40))) (by first | with_reducible rfl | (simp [*, -hd]; done) | (simp [*]; done)) (va_id3 (by decide) (by decide) (by decide)).symm) d_Mo_sheet_118
                      · have nc_24 := Int32.not_le.mp c_24
                        have mc_24 : ¬ 40 ≤ i := fun z_ => (show ¬ nI 40 ≤ nI i from c_24) ((nI_leI (by omega) (by omega)).mpr z_)
                        refine x_aload_n C d_Mo_sheet_93 1 rfl rfl ?_
                        refine gf_Mo_numbers C k_809 d_Mo_sheet_94 ?_
                        refine x_bipush C d_Mo_sheet_97 (v := 40) (by decide) ?_
                        refine x_iload_n C d_Mo_sheet_99 2 rfl rfl ?_
                        refine x_imul C d_Mo_sheet_100 ?_
                        refine x_topi (x' := nI (40 * sq)) (pk_mul 40 _) ?_
                        refine x_iload C d_Mo_sheet_101 0 rfl ?_
                        refine x_iadd C d_Mo_sheet_103 ?_
                        refine x_topi (x' := nI (40 * sq + i)) (nI_add _ _) ?_
                        refine x_iconst C d_Mo_sheet_104 (v := 0) (by decide) ?_
                        refine as_m_numbers C (40 * sq + i) (v := 0) rfl (by first | omega | (simp only [pI]; omega)) (G := va_up (va_up (va_up g 8 (upd (g 8) sq b)) 9 (upd (g 9) sq (if b = 0 then 0 else m))) 10 (upd (zerM (g 10) sq (i)) (40 * sq + i) 0)) up_va d_Mo_sheet_105 ?_
                        refine x_iinc C d_Mo_sheet_106 0 rfl (v := nI (i + 1)) (nI_1 _) (by decide) (lv' := [(4, .int (nI (i + 1))), (0, .ref (Z.2.1 (0))), (1, .int (nI sq)), (2, .int (b)), (3, .int (m))]) rfl ?_
                        refine x_goto C d_Mo_sheet_109 86 (by decide) ?_
                        refine x_eqg (g' := va_up (va_up (va_up g 8 (upd (g 8) sq b)) 9 (upd (g 9) sq (if b = 0 then 0 else m))) 10 (zerM (g 10) sq (i + 1))) rfl ?_
                        exact ih_86 (i + 1) (by omega) (by omega)
                  refine x_eqg (g' := va_up (va_up (va_up g 8 (upd (g 8) sq b)) 9 (upd (g 9) sq (if b = 0 then 0 else m))) 10 (zerM (g 10) sq (0))) (by first | contradiction | ((first | rw [if_pos (by assumption)] | rw [if_neg (by assumption)]); exact (va_idnn (a := 8) (b := 9) (t := 10) (by decide) (by decide)).symm)) ?_
                  exact LP_86 (40 + 1) 0 (Nat.zero_le _) (by omega)
                · refine x_iconst C d_Mo_sheet_77 (v := 0) (by decide) ?_
                  refine x_goto C d_Mo_sheet_78 82 (by decide) ?_
                  refine as_m_sizes C sq (v := 0) rfl (by first | omega | (simp only [pI]; omega)) (G := va_up (va_up g 8 (upd (g 8) sq b)) 9 (upd (g 9) sq 0)) (congrArg (fun z => va_up _ _ (upd z _ _)) (va_up_ne _ _ (by omega))) d_Mo_sheet_82 ?_
                  refine x_iconst C d_Mo_sheet_83 (v := 0) (by decide) ?_
                  refine x_topi (show (0 : Int32) = nI 0 by decide) ?_
                  refine x_istore C d_Mo_sheet_84 (by decide) (lv' := [(4, .int (nI 0)), (0, .ref (Z.2.1 (0))), (1, .int (nI sq)), (2, .int (b)), (3, .int (m))]) rfl ?_
                  have LP_86 : ∀ (f_ i : Nat), i ≤ 40 → 40 - i < f_ → WX X 5 yM Z (QX X yM Z (QkI yM Z (if ¬ ((0 ≤ (nI sq) ∧ (nI sq) ≤ 3) ∧ (b = 0 ∨ b = 8 ∨ b = 16 ∨ b = 32)) then (-1000001) else if m < 0 then (-1000007) else if 40 < m then (-1000001) else if b = 0 then 0 else m) (fun u => ∃ ρ : Nat → Int32, u = va_up (if ¬ ((0 ≤ (nI sq) ∧ (nI sq) ≤ 3) ∧ (b = 0 ∨ b = 8 ∨ b = 16 ∨ b = 32)) then va_up g 4 (mfnR (g 4) 0) else if m < 0 then va_up g 4 (mfnR (g 4) 6) else if 40 < m then va_up g 4 (mfnR (g 4) 0) else va_up (va_up (va_up g 8 (upd (g 8) (nI sq).toNatClampNeg b)) 9 (upd (g 9) (nI sq).toNatClampNeg (if b = 0 then 0 else m))) 10 (zerM (g 10) (nI sq).toNatClampNeg 40)) 2 ρ))) (va_up (va_up (va_up g 8 (upd (g 8) sq b)) 9 (upd (g 9) sq (if b = 0 then 0 else m))) 10 (zerM (g 10) sq (i))) 86 [(4, .int (nI i)), (0, .ref (Z.2.1 (0))), (1, .int (nI sq)), (2, .int (b)), (3, .int (m))] [] := by
                    intro f_
                    induction f_ with
                    | zero => intro i h1_ h2_; exact absurd h2_ (Nat.not_lt_zero _)
                    | succ f_ ih_86 =>
                      intro i hi_86 hf_86
                      refine x_iload C d_Mo_sheet_86 0 rfl ?_
                      refine x_bipush C d_Mo_sheet_88 (v := 40) (by decide) ?_
                      refine x_icmp_ge C d_Mo_sheet_90 112 (by decide) (fun c_25 => ?_) (fun c_25 => ?_)
                      · have nc_25 := Int32.not_lt.mpr c_25
                        have mc_25 : 40 ≤ i := (nI_leI (by omega) (by omega)).mp (show nI 40 ≤ nI i from c_25)
                        have e_i : 40 = i := by omega
                        subst e_i
                        refine x_aload_n C d_Mo_sheet_112 1 rfl rfl ?_
                        refine gf_Mo_sizes C k_808 d_Mo_sheet_113 ?_
                        refine x_iload_n C d_Mo_sheet_116 2 rfl rfl ?_
                        refine al_m_sizes C sq (v := if b = 0 then 0 else m) rfl (by first | omega | (simp only [pI]; omega)) (Eq.trans (congrFun (Eq.trans (va_up_ne _ _ (by omega)) (va_up_self _ _ _)) _) pk_us) d_Mo_sheet_117 ?_
                        exact x_iretK C (by first | with_reducible rfl | (simp [*, -hd]; done) | (simp [*]; done) | (simp_all; done)) (kfinM (G' := va_up (va_up (va_up g 8 (upd (g 8) sq b)) 9 (upd (g 9) sq (if b = 0 then 0 else m))) 10 (zerM (g 10) sq (40))) (by first | with_reducible rfl | (simp [*, -hd]; done) | (simp [*]; done)) (va_id3 (by decide) (by decide) (by decide)).symm) d_Mo_sheet_118
                      · have nc_25 := Int32.not_le.mp c_25
                        have mc_25 : ¬ 40 ≤ i := fun z_ => (show ¬ nI 40 ≤ nI i from c_25) ((nI_leI (by omega) (by omega)).mpr z_)
                        refine x_aload_n C d_Mo_sheet_93 1 rfl rfl ?_
                        refine gf_Mo_numbers C k_809 d_Mo_sheet_94 ?_
                        refine x_bipush C d_Mo_sheet_97 (v := 40) (by decide) ?_
                        refine x_iload_n C d_Mo_sheet_99 2 rfl rfl ?_
                        refine x_imul C d_Mo_sheet_100 ?_
                        refine x_topi (x' := nI (40 * sq)) (pk_mul 40 _) ?_
                        refine x_iload C d_Mo_sheet_101 0 rfl ?_
                        refine x_iadd C d_Mo_sheet_103 ?_
                        refine x_topi (x' := nI (40 * sq + i)) (nI_add _ _) ?_
                        refine x_iconst C d_Mo_sheet_104 (v := 0) (by decide) ?_
                        refine as_m_numbers C (40 * sq + i) (v := 0) rfl (by first | omega | (simp only [pI]; omega)) (G := va_up (va_up (va_up g 8 (upd (g 8) sq b)) 9 (upd (g 9) sq (if b = 0 then 0 else m))) 10 (upd (zerM (g 10) sq (i)) (40 * sq + i) 0)) up_va d_Mo_sheet_105 ?_
                        refine x_iinc C d_Mo_sheet_106 0 rfl (v := nI (i + 1)) (nI_1 _) (by decide) (lv' := [(4, .int (nI (i + 1))), (0, .ref (Z.2.1 (0))), (1, .int (nI sq)), (2, .int (b)), (3, .int (m))]) rfl ?_
                        refine x_goto C d_Mo_sheet_109 86 (by decide) ?_
                        refine x_eqg (g' := va_up (va_up (va_up g 8 (upd (g 8) sq b)) 9 (upd (g 9) sq (if b = 0 then 0 else m))) 10 (zerM (g 10) sq (i + 1))) rfl ?_
                        exact ih_86 (i + 1) (by omega) (by omega)
                  refine x_eqg (g' := va_up (va_up (va_up g 8 (upd (g 8) sq b)) 9 (upd (g 9) sq (if b = 0 then 0 else m))) 10 (zerM (g 10) sq (0))) (by first | contradiction | ((first | rw [if_pos (by assumption)] | rw [if_neg (by assumption)]); exact (va_idnn (a := 8) (b := 9) (t := 10) (by decide) (by decide)).symm)) ?_
                  exact LP_86 (40 + 1) 0 (Nat.zero_le _) (by omega)
              · have nc_22 := Int32.not_le.mp c_22
                refine x_aload_n C d_Mo_sheet_54 0 rfl rfl ?_
                refine x_ldc C d_Mo_sheet_55 k_866 ?_
                refine x_callVi C (c_Mo_finding_0 Z (g) _ rfl) mi_Mo_finding k_867 (show 0 < 12 by omega) (m_0 Z _) rfl (As := [.int ((-1000001))]) ⟨Nat.le_of_ble_eq_true rfl, Nat.le_of_ble_eq_true rfl⟩ rfl rfl (Nat.le_of_ble_eq_true rfl) d_Mo_sheet_57 ?_
                exact x_iretK C (by first | with_reducible rfl | (simp [*, -hd]; done) | (simp [*]; done) | (simp_all; done)) (kfinM (G' := va_up g 4 (mfnR (g 4) 0)) (by first | with_reducible rfl | (simp [*, -hd]; done) | (simp [*]; done) | (simp_all; done)) (va_idn (by omega)).symm) d_Mo_sheet_60
            · have nc_21 := Int32.not_le.mp c_21
              refine x_aload_n C d_Mo_sheet_40 0 rfl rfl ?_
              refine x_ldcw C d_Mo_sheet_41 k_1222 ?_
              refine x_callVi C (c_Mo_finding_6 Z (g) _ rfl) mi_Mo_finding k_867 (show 0 < 12 by omega) (m_0 Z _) rfl (As := [.int ((-1000007))]) ⟨Nat.le_of_ble_eq_true rfl, Nat.le_of_ble_eq_true rfl⟩ rfl rfl (Nat.le_of_ble_eq_true rfl) d_Mo_sheet_44 ?_
              exact x_iretK C (by first | with_reducible rfl | (simp [*, -hd]; done) | (simp [*]; done) | (simp_all; done)) (kfinM (G' := va_up g 4 (mfnR (g 4) 6)) (by first | with_reducible rfl | (simp [*, -hd]; done) | (simp [*]; done) | (simp_all; done)) (va_idn (by omega)).symm) d_Mo_sheet_47
          · have nc_20 := Ne.symm c_20
            refine x_aload_n C d_Mo_sheet_29 0 rfl rfl ?_
            refine x_ldc C d_Mo_sheet_30 k_866 ?_
            refine x_callVi C (c_Mo_finding_0 Z (g) _ rfl) mi_Mo_finding k_867 (show 0 < 12 by omega) (m_0 Z _) rfl (As := [.int ((-1000001))]) ⟨Nat.le_of_ble_eq_true rfl, Nat.le_of_ble_eq_true rfl⟩ rfl rfl (Nat.le_of_ble_eq_true rfl) d_Mo_sheet_32 ?_
            exact x_iretK C (by first | with_reducible rfl | (simp [*, -hd]; done) | (simp [*]; done) | (simp_all; done)) (kfinM (G' := va_up g 4 (mfnR (g 4) 0)) (by first | with_reducible rfl | (simp [*, -hd]; done) | (simp [*]; done) | (simp_all; done)) (va_idn (by omega)).symm) d_Mo_sheet_35

set_option maxRecDepth 100000 in
set_option maxHeartbeats 600000 in
theorem c_Mo_write (Z : ZT) (s i v : Int32) (g : St)  (hk : okR (g 0)) (hS : ∀ s, s < 4 → ∃ L, L ≤ 40 ∧ g 9 s = nI L) : CT yM Z y_Mo_write b_Mo_write 4 (some (.int)) 2 42 [.ref (Z.2.1 (0)), .int (s), .int (i), .int (v)] (g) (QkI yM Z (if ¬ (0 ≤ s ∧ s ≤ 3) then (-1000001) else if g 8 s.toNatClampNeg = 0 then (-1000006) else if ¬ (0 ≤ i ∧ i ≤ g 9 s.toNatClampNeg - 1) then (-1000001) else 1) (fun u => ∃ ρ : Nat → Int32, u = va_up (if ¬ (0 ≤ s ∧ s ≤ 3) then va_up g 4 (mfnR (g 4) 0) else if g 8 s.toNatClampNeg = 0 then va_up g 4 (mfnR (g 4) 5) else if ¬ (0 ≤ i ∧ i ≤ g 9 s.toNatClampNeg - 1) then va_up g 4 (mfnR (g 4) 0) else va_up g 10 (upd (g 10) (40 * s.toNatClampNeg + i.toNatClampNeg) (cutv (g 8 s.toNatClampNeg) v))) 2 ρ)) := by
  refine CT.mk "TunnelPeaceModel" (by decide) rfl (Nat.le_of_ble_eq_true rfl) (fun X C => ?_)
  refine x_lv [0, 1, 2, 3] (lv' := [(0, .ref (Z.2.1 (0))), (1, .int (s)), (2, .int (i)), (3, .int (v))]) rfl ?_
  have hk0 := hk
  obtain ⟨⟨n, hn8, hn⟩, dd, hdd, hd⟩ := hk
  refine x_iload_n C d_Mo_write_0 1 rfl rfl ?_
  refine x_callSi C (c_Mo_isSheet Z s (g)) mi_Mo_isSheet k_1103 (As := [.int (s)]) ⟨Nat.le_of_ble_eq_true rfl, Nat.le_of_ble_eq_true rfl⟩ rfl rfl (Nat.le_of_ble_eq_true rfl) d_Mo_write_1 ?_
  refine x_ifneB C d_Mo_write_4 14 (by decide) (fun c_1 => ?_) (fun c_1 => ?_)
  · obtain ⟨sq, hsq, rfl⟩ := in_le (n := 3) c_1 (by decide)
    have hcs : (nI sq).toNatClampNeg = sq := nI_clamp (by omega)
    obtain ⟨L, hL4, hL⟩ := hS sq (by omega)
    refine x_aload_n C d_Mo_write_14 0 rfl rfl ?_
    refine gf_Mo_widths C k_807 d_Mo_write_15 ?_
    refine x_iload_n C d_Mo_write_18 1 rfl rfl ?_
    refine al_m_widths C sq (v := g 8 sq) rfl (by first | omega | (simp only [pI]; omega)) rfl d_Mo_write_19 ?_
    refine x_ifne C d_Mo_write_20 30 (by decide) (fun c_2 => ?_) (fun c_2 => ?_)
    · refine x_iload_n C d_Mo_write_30 2 rfl rfl ?_
      refine x_iconst C d_Mo_write_31 (v := 0) (by decide) ?_
      refine x_aload_n C d_Mo_write_32 0 rfl rfl ?_
      refine gf_Mo_sizes C k_808 d_Mo_write_33 ?_
      refine x_iload_n C d_Mo_write_36 1 rfl rfl ?_
      refine al_m_sizes C sq (v := nI L) rfl (by first | omega | (simp only [pI]; omega)) hL d_Mo_write_37 ?_
      refine x_iconst C d_Mo_write_38 (v := 1) (by decide) ?_
      refine x_isub C d_Mo_write_39 ?_
      refine x_callSi C (c_Mo_within Z i 0 ((nI L) - 1) (g)) mi_Mo_within k_859 (As := [.int (i), .int (0), .int ((nI L) - 1)]) ⟨Nat.le_of_ble_eq_true rfl, Nat.le_of_ble_eq_true rfl⟩ rfl rfl (Nat.le_of_ble_eq_true rfl) d_Mo_write_40 ?_
      refine x_ifneB C d_Mo_write_43 53 (by decide) (fun c_3 => ?_) (fun c_3 => ?_)
      · obtain ⟨iq, hiq, rfl⟩ := in_lt1 (by assumption) hL4
        have hci : (nI iq).toNatClampNeg = iq := nI_clamp (by omega)
        refine x_aload_n C d_Mo_write_53 0 rfl rfl ?_
        refine gf_Mo_numbers C k_809 d_Mo_write_54 ?_
        refine x_bipush C d_Mo_write_57 (v := 40) (by decide) ?_
        refine x_iload_n C d_Mo_write_59 1 rfl rfl ?_
        refine x_imul C d_Mo_write_60 ?_
        refine x_topi (x' := nI (40 * sq)) (pk_mul 40 _) ?_
        refine x_iload_n C d_Mo_write_61 2 rfl rfl ?_
        refine x_iadd C d_Mo_write_62 ?_
        refine x_topi (x' := nI (40 * sq + iq)) (nI_add _ _) ?_
        refine x_iload_n C d_Mo_write_63 3 rfl rfl ?_
        refine x_aload_n C d_Mo_write_64 0 rfl rfl ?_
        refine gf_Mo_widths C k_807 d_Mo_write_65 ?_
        refine x_iload_n C d_Mo_write_68 1 rfl rfl ?_
        refine al_m_widths C sq (v := g 8 sq) rfl (by first | omega | (simp only [pI]; omega)) rfl d_Mo_write_69 ?_
        refine x_callSi C (c_Mo_cutTo Z v (g 8 sq) (g)) mi_Mo_cutTo k_1227 (As := [.int (v), .int (g 8 sq)]) ⟨Nat.le_of_ble_eq_true rfl, Nat.le_of_ble_eq_true rfl⟩ rfl rfl (Nat.le_of_ble_eq_true rfl) d_Mo_write_70 ?_
        refine as_m_numbers C (40 * sq + iq) (v := cutv (g 8 sq) v) rfl (by first | omega | (simp only [pI]; omega)) (G := va_up g 10 (upd (g 10) (40 * sq + iq) (cutv (g 8 sq) v))) rfl d_Mo_write_73 ?_
        refine x_iconst C d_Mo_write_74 (v := 1) (by decide) ?_
        exact x_iretK C (by first | with_reducible rfl | (simp [*, -hd]; done) | (simp [*]; done) | (simp_all; done)) (kfinM (G' := va_up g 10 (upd (g 10) (40 * sq + iq) (cutv (g 8 sq) v))) (by first | with_reducible rfl | (simp [*, -hd]; done) | (simp [*]; done) | (simp_all; done)) (va_idn (by omega)).symm) d_Mo_write_75
      · refine x_aload_n C d_Mo_write_46 0 rfl rfl ?_
        refine x_ldc C d_Mo_write_47 k_866 ?_
        refine x_callVi C (c_Mo_finding_0 Z (g) _ rfl) mi_Mo_finding k_867 (show 0 < 12 by omega) (m_0 Z _) rfl (As := [.int ((-1000001))]) ⟨Nat.le_of_ble_eq_true rfl, Nat.le_of_ble_eq_true rfl⟩ rfl rfl (Nat.le_of_ble_eq_true rfl) d_Mo_write_49 ?_
        exact x_iretK C (by first | with_reducible rfl | (simp [*, -hd]; done) | (simp [*]; done) | (simp_all; done)) (kfinM (G' := va_up g 4 (mfnR (g 4) 0)) (by first | with_reducible rfl | (simp [*, -hd]; done) | (simp [*]; done) | (simp_all; done)) (va_idn (by omega)).symm) d_Mo_write_52
    · refine x_aload_n C d_Mo_write_23 0 rfl rfl ?_
      refine x_ldc C d_Mo_write_24 k_1106 ?_
      refine x_callVi C (c_Mo_finding_5 Z (g) _ rfl) mi_Mo_finding k_867 (show 0 < 12 by omega) (m_0 Z _) rfl (As := [.int ((-1000006))]) ⟨Nat.le_of_ble_eq_true rfl, Nat.le_of_ble_eq_true rfl⟩ rfl rfl (Nat.le_of_ble_eq_true rfl) d_Mo_write_26 ?_
      exact x_iretK C (by first | with_reducible rfl | (simp [*, -hd]; done) | (simp [*]; done) | (simp_all; done)) (kfinM (G' := va_up g 4 (mfnR (g 4) 5)) (by first | with_reducible rfl | (simp [*, -hd]; done) | (simp [*]; done) | (simp_all; done)) (va_idn (by omega)).symm) d_Mo_write_29
  · refine x_aload_n C d_Mo_write_7 0 rfl rfl ?_
    refine x_ldc C d_Mo_write_8 k_866 ?_
    refine x_callVi C (c_Mo_finding_0 Z (g) _ rfl) mi_Mo_finding k_867 (show 0 < 12 by omega) (m_0 Z _) rfl (As := [.int ((-1000001))]) ⟨Nat.le_of_ble_eq_true rfl, Nat.le_of_ble_eq_true rfl⟩ rfl rfl (Nat.le_of_ble_eq_true rfl) d_Mo_write_10 ?_
    exact x_iretK C (by first | with_reducible rfl | (simp [*, -hd]; done) | (simp [*]; done) | (simp_all; done)) (kfinM (G' := va_up g 4 (mfnR (g 4) 0)) (by first | with_reducible rfl | (simp [*, -hd]; done) | (simp [*]; done) | (simp_all; done)) (va_idn (by omega)).symm) d_Mo_write_13

set_option maxRecDepth 100000 in
set_option maxHeartbeats 600000 in
theorem c_Mo_lacks_a (Z : ZT) (s x : Int32) (h1 : ¬ (0 ≤ s ∧ s ≤ 3)) (g : St)  : CT yM Z y_Mo_lacks b_Mo_lacks 3 (some (.int)) 2 42 [.ref (Z.2.1 (0)), .int (s), .int (x)] (g) (QcI yM Z ((-1000001)) (g)) := by
  refine CT.mk "TunnelPeaceModel" (by decide) rfl (Nat.le_of_ble_eq_true rfl) (fun X C => ?_)
  refine x_lv [0, 1, 2] (lv' := [(0, .ref (Z.2.1 (0))), (1, .int (s)), (2, .int (x))]) rfl ?_
  refine x_iload_n C d_Mo_lacks_0 1 rfl rfl ?_
  refine x_callSi C (c_Mo_isSheet Z s (g)) mi_Mo_isSheet k_1103 (As := [.int (s)]) ⟨Nat.le_of_ble_eq_true rfl, Nat.le_of_ble_eq_true rfl⟩ rfl rfl (Nat.le_of_ble_eq_true rfl) d_Mo_lacks_1 ?_
  refine x_ifneB C d_Mo_lacks_4 12 (by decide) (fun c_1 => ?_) (fun c_1 => ?_)
  · exact absurd c_1 h1
  · refine x_ldc C d_Mo_lacks_7 k_866 ?_
    refine x_goto C d_Mo_lacks_9 36 (by decide) ?_
    exact x_iret C rfl rfl d_Mo_lacks_36

set_option maxRecDepth 100000 in
set_option maxHeartbeats 600000 in
theorem c_Mo_lacks_b (Z : ZT) (s : Nat) (hs : s < 4) (x : Int32) (g : St)  (h2 : g 8 s = 0) : CT yM Z y_Mo_lacks b_Mo_lacks 3 (some (.int)) 2 42 [.ref (Z.2.1 (0)), .int (nI s), .int (x)] (g) (QcI yM Z ((-1000006)) (g)) := by
  refine CT.mk "TunnelPeaceModel" (by decide) rfl (Nat.le_of_ble_eq_true rfl) (fun X C => ?_)
  refine x_lv [0, 1, 2] (lv' := [(0, .ref (Z.2.1 (0))), (1, .int (nI s)), (2, .int (x))]) rfl ?_
  refine x_iload_n C d_Mo_lacks_0 1 rfl rfl ?_
  refine x_callSi C (c_Mo_isSheet Z (nI s) (g)) mi_Mo_isSheet k_1103 (As := [.int (nI s)]) ⟨Nat.le_of_ble_eq_true rfl, Nat.le_of_ble_eq_true rfl⟩ rfl rfl (Nat.le_of_ble_eq_true rfl) d_Mo_lacks_1 ?_
  refine x_ifneB C d_Mo_lacks_4 12 (by decide) (fun c_1 => ?_) (fun c_1 => ?_)
  · refine x_aload_n C d_Mo_lacks_12 0 rfl rfl ?_
    refine gf_Mo_widths C k_807 d_Mo_lacks_13 ?_
    refine x_iload_n C d_Mo_lacks_16 1 rfl rfl ?_
    refine al_m_widths C s (v := g 8 s) rfl (by first | omega | (simp only [pI]; omega)) rfl d_Mo_lacks_17 ?_
    refine x_ifne C d_Mo_lacks_18 26 (by decide) (fun c_2 => ?_) (fun c_2 => ?_)
    · exact absurd h2 c_2
    · refine x_ldc C d_Mo_lacks_21 k_1106 ?_
      refine x_goto C d_Mo_lacks_23 36 (by decide) ?_
      exact x_iret C rfl rfl d_Mo_lacks_36
  · exact absurd (show 0 ≤ nI s ∧ nI s ≤ 3 from ⟨nI_pos' (by omega), nI_le (b := 3) (by omega) (by decide)⟩) c_1

set_option maxRecDepth 100000 in
set_option maxHeartbeats 600000 in
theorem c_Mo_lacks_c (Z : ZT) (s : Nat) (hs : s < 4) (g : St)  (h2 : ¬ g 8 s = 0) : CT yM Z y_Mo_lacks b_Mo_lacks 3 (some (.int)) 2 42 [.ref (Z.2.1 (0)), .int (nI s), .int (1)] (g) (QcI yM Z (0) (g)) := by
  refine CT.mk "TunnelPeaceModel" (by decide) rfl (Nat.le_of_ble_eq_true rfl) (fun X C => ?_)
  refine x_lv [0, 1, 2] (lv' := [(0, .ref (Z.2.1 (0))), (1, .int (nI s)), (2, .int (1))]) rfl ?_
  refine x_iload_n C d_Mo_lacks_0 1 rfl rfl ?_
  refine x_callSi C (c_Mo_isSheet Z (nI s) (g)) mi_Mo_isSheet k_1103 (As := [.int (nI s)]) ⟨Nat.le_of_ble_eq_true rfl, Nat.le_of_ble_eq_true rfl⟩ rfl rfl (Nat.le_of_ble_eq_true rfl) d_Mo_lacks_1 ?_
  refine x_ifneB C d_Mo_lacks_4 12 (by decide) (fun c_1 => ?_) (fun c_1 => ?_)
  · refine x_aload_n C d_Mo_lacks_12 0 rfl rfl ?_
    refine gf_Mo_widths C k_807 d_Mo_lacks_13 ?_
    refine x_iload_n C d_Mo_lacks_16 1 rfl rfl ?_
    refine al_m_widths C s (v := g 8 s) rfl (by first | omega | (simp only [pI]; omega)) rfl d_Mo_lacks_17 ?_
    refine x_ifne C d_Mo_lacks_18 26 (by decide) (fun c_2 => ?_) (fun c_2 => ?_)
    · refine x_iload_n C d_Mo_lacks_26 2 rfl rfl ?_
      refine x_ifeq C d_Mo_lacks_27 34 (by decide) (fun c_3 => ?_) (fun c_3 => ?_)
      · exact absurd c_3 (by decide)
      · refine x_iconst C d_Mo_lacks_30 (v := 0) (by decide) ?_
        refine x_goto C d_Mo_lacks_31 36 (by decide) ?_
        exact x_iret C rfl rfl d_Mo_lacks_36
    · exact absurd c_2 h2
  · exact absurd (show 0 ≤ nI s ∧ nI s ≤ 3 from ⟨nI_pos' (by omega), nI_le (b := 3) (by omega) (by decide)⟩) c_1

set_option maxRecDepth 100000 in
set_option maxHeartbeats 600000 in
theorem c_Mo_lacks_d (Z : ZT) (s : Nat) (hs : s < 4) (g : St)  (h2 : ¬ g 8 s = 0) : CT yM Z y_Mo_lacks b_Mo_lacks 3 (some (.int)) 2 42 [.ref (Z.2.1 (0)), .int (nI s), .int (0)] (g) (QcI yM Z ((-1000001)) (g)) := by
  refine CT.mk "TunnelPeaceModel" (by decide) rfl (Nat.le_of_ble_eq_true rfl) (fun X C => ?_)
  refine x_lv [0, 1, 2] (lv' := [(0, .ref (Z.2.1 (0))), (1, .int (nI s)), (2, .int (0))]) rfl ?_
  refine x_iload_n C d_Mo_lacks_0 1 rfl rfl ?_
  refine x_callSi C (c_Mo_isSheet Z (nI s) (g)) mi_Mo_isSheet k_1103 (As := [.int (nI s)]) ⟨Nat.le_of_ble_eq_true rfl, Nat.le_of_ble_eq_true rfl⟩ rfl rfl (Nat.le_of_ble_eq_true rfl) d_Mo_lacks_1 ?_
  refine x_ifneB C d_Mo_lacks_4 12 (by decide) (fun c_1 => ?_) (fun c_1 => ?_)
  · refine x_aload_n C d_Mo_lacks_12 0 rfl rfl ?_
    refine gf_Mo_widths C k_807 d_Mo_lacks_13 ?_
    refine x_iload_n C d_Mo_lacks_16 1 rfl rfl ?_
    refine al_m_widths C s (v := g 8 s) rfl (by first | omega | (simp only [pI]; omega)) rfl d_Mo_lacks_17 ?_
    refine x_ifne C d_Mo_lacks_18 26 (by decide) (fun c_2 => ?_) (fun c_2 => ?_)
    · refine x_iload_n C d_Mo_lacks_26 2 rfl rfl ?_
      refine x_ifeq C d_Mo_lacks_27 34 (by decide) (fun c_3 => ?_) (fun c_3 => ?_)
      · refine x_ldc C d_Mo_lacks_34 k_866 ?_
        exact x_iret C rfl rfl d_Mo_lacks_36
      · exact absurd c_3 (by decide)
    · exact absurd c_2 h2
  · exact absurd (show 0 ≤ nI s ∧ nI s ≤ 3 from ⟨nI_pos' (by omega), nI_le (b := 3) (by omega) (by decide)⟩) c_1

set_option maxRecDepth 100000 in
set_option maxHeartbeats 600000 in
theorem c_Mo_load (Z : ZT) (s : Int32) (g : St)  (hk : okR (g 0)) (hS : ∀ s, s < 4 → ∃ L, L ≤ 40 ∧ g 9 s = nI L) : CT yM Z y_Mo_load b_Mo_load 3 (some (.int)) 3 64 [.ref (Z.2.1 (0)), .int (s)] (g) (QkI yM Z (if ¬ (0 ≤ s ∧ s ≤ 3) then (-1000001) else if g 8 s.toNatClampNeg = 0 then (-1000006) else nI (gvF (nuM (g 10) s.toNatClampNeg) (min (g 9 s.toNatClampNeg).toNatClampNeg (sz (g 0))) 0)) (fun u => ∃ ρ : Nat → Int32, u = va_up (if ¬ (0 ≤ s ∧ s ≤ 3) then va_up g 4 (mfnR (g 4) 0) else if g 8 s.toNatClampNeg = 0 then va_up g 4 (mfnR (g 4) 5) else va_up g 0 (gvN (nuM (g 10) s.toNatClampNeg) (g 0) (gvF (nuM (g 10) s.toNatClampNeg) (min (g 9 s.toNatClampNeg).toNatClampNeg (sz (g 0))) 0))) 2 ρ)) := by
  refine CT.mk "TunnelPeaceModel" (by decide) rfl (Nat.le_of_ble_eq_true rfl) (fun X C => ?_)
  refine x_lv [0, 1] (lv' := [(0, .ref (Z.2.1 (0))), (1, .int (s))]) rfl ?_
  have hk0 := hk
  obtain ⟨⟨n, hn8, hn⟩, dd, hdd, hd⟩ := hk
  by_cases t_1 : 0 ≤ s ∧ s ≤ 3
  · obtain ⟨sq, hsq, rfl⟩ := in_le (n := 3) t_1 (by decide)
    have hcs : (nI sq).toNatClampNeg = sq := nI_clamp (by omega)
    obtain ⟨L, hL4, hL⟩ := hS sq (by omega)
    have hcL : (nI L).toNatClampNeg = L := nI_clamp (by omega)
    by_cases t_2 : g 8 sq = 0
    · skip
      refine x_aload_n C d_Mo_load_0 0 rfl rfl ?_
      refine x_iload_n C d_Mo_load_1 1 rfl rfl ?_
      refine x_iconst C d_Mo_load_2 (v := 1) (by decide) ?_
      refine x_callVi C (c_Mo_lacks_b Z sq (by omega) 1 (g) (by assumption)) mi_Mo_lacks k_1099 (show 0 < 12 by omega) (m_0 Z _) rfl (As := [.int (nI sq), .int (1)]) ⟨Nat.le_of_ble_eq_true rfl, Nat.le_of_ble_eq_true rfl⟩ rfl rfl (Nat.le_of_ble_eq_true rfl) d_Mo_load_3 ?_
      refine x_ifeq C d_Mo_load_6 20 (by decide) (fun c_3 => ?_) (fun c_3 => ?_)
      · exact absurd c_3 (by decide)
      · refine x_aload_n C d_Mo_load_9 0 rfl rfl ?_
        refine x_aload_n C d_Mo_load_10 0 rfl rfl ?_
        refine x_iload_n C d_Mo_load_11 1 rfl rfl ?_
        refine x_iconst C d_Mo_load_12 (v := 1) (by decide) ?_
        refine x_callVi C (c_Mo_lacks_b Z sq (by omega) 1 (g) (by assumption)) mi_Mo_lacks k_1099 (show 0 < 12 by omega) (m_0 Z _) rfl (As := [.int (nI sq), .int (1)]) ⟨Nat.le_of_ble_eq_true rfl, Nat.le_of_ble_eq_true rfl⟩ rfl rfl (Nat.le_of_ble_eq_true rfl) d_Mo_load_13 ?_
        refine x_callVi C (c_Mo_finding_5 Z (g) _ rfl) mi_Mo_finding k_867 (show 0 < 12 by omega) (m_0 Z _) rfl (As := [.int ((-1000006))]) ⟨Nat.le_of_ble_eq_true rfl, Nat.le_of_ble_eq_true rfl⟩ rfl rfl (Nat.le_of_ble_eq_true rfl) d_Mo_load_16 ?_
        exact x_iretK C (by first | with_reducible rfl | (simp [*, -hd]; done) | (simp [*]; done) | (simp_all; done)) (kfinM (G' := va_up g 4 (mfnR (g 4) 5)) (by first | with_reducible rfl | (simp [*, -hd]; done) | (simp [*]; done) | (simp_all; done)) (va_idn (by omega)).symm) d_Mo_load_19
    · skip
      refine x_aload_n C d_Mo_load_0 0 rfl rfl ?_
      refine x_iload_n C d_Mo_load_1 1 rfl rfl ?_
      refine x_iconst C d_Mo_load_2 (v := 1) (by decide) ?_
      refine x_callVi C (c_Mo_lacks_c Z sq (by omega) (g) (by assumption)) mi_Mo_lacks k_1099 (show 0 < 12 by omega) (m_0 Z _) rfl (As := [.int (nI sq), .int (1)]) ⟨Nat.le_of_ble_eq_true rfl, Nat.le_of_ble_eq_true rfl⟩ rfl rfl (Nat.le_of_ble_eq_true rfl) d_Mo_load_3 ?_
      refine x_ifeq C d_Mo_load_6 20 (by decide) (fun c_4 => ?_) (fun c_4 => ?_)
      · obtain ⟨N, hN⟩ : ∃ N, min L (sz (g 0)) = N := ⟨_, rfl⟩
        have hN2 : N = min L n := by rw [← hN, sz_of hn hn8]
        refine x_iconst C d_Mo_load_20 (v := 0) (by decide) ?_
        refine x_topi (show (0 : Int32) = nI 0 by decide) ?_
        refine x_istore_n C d_Mo_load_21 rfl (by decide) (lv' := [(2, .int (nI 0)), (0, .ref (Z.2.1 (0))), (1, .int (nI sq))]) rfl ?_
        have LP_22 : ∀ (f_ i : Nat), i ≤ N → N - i < f_ → (gvF (nuM (g 10) sq) N 0 = gvF (nuM (g 10) sq) (N - i) i) → WX X 3 yM Z (QX X yM Z (QkI yM Z (if ¬ (0 ≤ (nI sq) ∧ (nI sq) ≤ 3) then (-1000001) else if g 8 (nI sq).toNatClampNeg = 0 then (-1000006) else nI (gvF (nuM (g 10) (nI sq).toNatClampNeg) (min (g 9 (nI sq).toNatClampNeg).toNatClampNeg (sz (g 0))) 0)) (fun u => ∃ ρ : Nat → Int32, u = va_up (if ¬ (0 ≤ (nI sq) ∧ (nI sq) ≤ 3) then va_up g 4 (mfnR (g 4) 0) else if g 8 (nI sq).toNatClampNeg = 0 then va_up g 4 (mfnR (g 4) 5) else va_up g 0 (gvN (nuM (g 10) (nI sq).toNatClampNeg) (g 0) (gvF (nuM (g 10) (nI sq).toNatClampNeg) (min (g 9 (nI sq).toNatClampNeg).toNatClampNeg (sz (g 0))) 0))) 2 ρ))) (va_up g 0 (gvN (nuM (g 10) sq) (g 0) (i))) 22 [(2, .int (nI i)), (0, .ref (Z.2.1 (0))), (1, .int (nI sq))] [] := by
          intro f_
          induction f_ with
          | zero => intro i h1_ h2_ _; exact absurd h2_ (Nat.not_lt_zero _)
          | succ f_ ih_22 =>
            intro i hi_22 hf_22 hy_22
            refine x_iload_n C d_Mo_load_22 0 rfl rfl ?_
            refine x_aload_n C d_Mo_load_23 1 rfl rfl ?_
            refine gf_Mo_sizes C k_808 d_Mo_load_24 ?_
            refine x_iload_n C d_Mo_load_27 2 rfl rfl ?_
            refine al_m_sizes C sq (v := nI L) rfl (by first | omega | (simp only [pI]; omega)) (Eq.trans (congrFun (va_up_ne _ _ (by omega)) _) hL) d_Mo_load_28 ?_
            refine x_icmp_ge C d_Mo_load_29 84 (by decide) (fun c_5 => ?_) (fun c_5 => ?_)
            · have nc_5 := Int32.not_lt.mpr c_5
              have mc_5 : L ≤ i := (nI_leI (by omega) (by omega)).mp (show nI L ≤ nI i from c_5)
              refine x_iload_n C d_Mo_load_84 0 rfl rfl ?_
              exact x_iretK C (by simp only [hcs, hL, hcL]; rw [if_neg (not_not_intro (by assumption)), if_neg (by assumption), hN, hy_22]; first | rw [gv_end (by omega)] | rw [gv_bad (by omega) (by assumption)]) (kfinM (G' := va_up g 0 (gvN (nuM (g 10) sq) (g 0) (i))) (by simp only [hcs, hL, hcL]; rw [if_neg (not_not_intro (by assumption)), if_neg (by assumption), hN, hy_22]; first | rw [gv_end (by omega)] | rw [gv_bad (by omega) (by assumption)]) (va_idn (by omega)).symm) d_Mo_load_85
            · have nc_5 := Int32.not_le.mp c_5
              have mc_5 : ¬ L ≤ i := fun z_ => (show ¬ nI L ≤ nI i from c_5) ((nI_leI (by omega) (by omega)).mpr z_)
              refine x_aload_n C d_Mo_load_32 1 rfl rfl ?_
              refine x_iload_n C d_Mo_load_33 0 rfl rfl ?_
              refine x_callVi C (c_Mo_isPerson Z (nI i) n (by omega) (va_up g 0 (gvN (nuM (g 10) sq) (g 0) (i))) (Eq.trans (Eq.trans (congrFun (va_up_self _ _ _) _) (gvN_hd (by decide))) hn)) mi_Mo_isPerson k_907 (show 0 < 12 by omega) (m_0 Z _) rfl (As := [.int (nI i)]) ⟨Nat.le_of_ble_eq_true rfl, Nat.le_of_ble_eq_true rfl⟩ rfl rfl (Nat.le_of_ble_eq_true rfl) d_Mo_load_34 ?_
              refine x_ifeqB C d_Mo_load_37 84 (by decide) (fun c_6 => ?_) (fun c_6 => ?_)
              · have mc_6 := has_f c_6 (by omega) (by omega)
                refine x_iload_n C d_Mo_load_84 0 rfl rfl ?_
                exact x_iretK C (by simp only [hcs, hL, hcL]; rw [if_neg (not_not_intro (by assumption)), if_neg (by assumption), hN, hy_22]; first | rw [gv_end (by omega)] | rw [gv_bad (by omega) (by assumption)]) (kfinM (G' := va_up g 0 (gvN (nuM (g 10) sq) (g 0) (i))) (by simp only [hcs, hL, hcL]; rw [if_neg (not_not_intro (by assumption)), if_neg (by assumption), hN, hy_22]; first | rw [gv_end (by omega)] | rw [gv_bad (by omega) (by assumption)]) (va_idn (by omega)).symm) d_Mo_load_85
              · have mc_6 := has_t c_6 (by omega) (by omega)
                refine x_aload_n C d_Mo_load_40 1 rfl rfl ?_
                refine gf_Mo_numbers C k_809 d_Mo_load_41 ?_
                refine x_bipush C d_Mo_load_44 (v := 40) (by decide) ?_
                refine x_iload_n C d_Mo_load_46 2 rfl rfl ?_
                refine x_imul C d_Mo_load_47 ?_
                refine x_topi (x' := nI (40 * sq)) (pk_mul 40 _) ?_
                refine x_iload_n C d_Mo_load_48 0 rfl rfl ?_
                refine x_iadd C d_Mo_load_49 ?_
                refine x_topi (x' := nI (40 * sq + i)) (nI_add _ _) ?_
                refine al_m_numbers C (40 * sq + i) (v := g 10 (40 * sq + i)) rfl (by first | omega | (simp only [pI]; omega)) (congrFun (va_up_ne _ _ (by omega)) _) d_Mo_load_50 ?_
                refine x_callSi C (c_Mo_isMany Z (g 10 (40 * sq + i)) (va_up g 0 (gvN (nuM (g 10) sq) (g 0) (i)))) mi_Mo_isMany k_856 (As := [.int (g 10 (40 * sq + i))]) ⟨Nat.le_of_ble_eq_true rfl, Nat.le_of_ble_eq_true rfl⟩ rfl rfl (Nat.le_of_ble_eq_true rfl) d_Mo_load_51 ?_
                refine x_ifeqB C d_Mo_load_54 84 (by decide) (fun c_7 => ?_) (fun c_7 => ?_)
                · refine x_iload_n C d_Mo_load_84 0 rfl rfl ?_
                  exact x_iretK C (by simp only [hcs, hL, hcL]; rw [if_neg (not_not_intro (by assumption)), if_neg (by assumption), hN, hy_22]; first | rw [gv_end (by omega)] | rw [gv_bad (by omega) (by assumption)]) (kfinM (G' := va_up g 0 (gvN (nuM (g 10) sq) (g 0) (i))) (by simp only [hcs, hL, hcL]; rw [if_neg (not_not_intro (by assumption)), if_neg (by assumption), hN, hy_22]; first | rw [gv_end (by omega)] | rw [gv_bad (by omega) (by assumption)]) (va_idn (by omega)).symm) d_Mo_load_85
                · refine x_aload_n C d_Mo_load_57 1 rfl rfl ?_
                  refine gf_Mo_now C k_791 d_Mo_load_58 ?_
                  refine x_iload_n C d_Mo_load_61 0 rfl rfl ?_
                  refine x_iconst C d_Mo_load_62 (v := 3) (by decide) ?_
                  refine x_callSi C (c_Mo_personAt Z i 3 (va_up g 0 (gvN (nuM (g 10) sq) (g 0) (i)))) mi_Mo_personAt k_897 (As := [.int (nI i), .int (3)]) ⟨Nat.le_of_ble_eq_true rfl, Nat.le_of_ble_eq_true rfl⟩ rfl rfl (Nat.le_of_ble_eq_true rfl) d_Mo_load_63 ?_
                  refine x_aload_n C d_Mo_load_66 1 rfl rfl ?_
                  refine gf_Mo_numbers C k_809 d_Mo_load_67 ?_
                  refine x_bipush C d_Mo_load_70 (v := 40) (by decide) ?_
                  refine x_iload_n C d_Mo_load_72 2 rfl rfl ?_
                  refine x_imul C d_Mo_load_73 ?_
                  refine x_topi (x' := nI (40 * sq)) (pk_mul 40 _) ?_
                  refine x_iload_n C d_Mo_load_74 0 rfl rfl ?_
                  refine x_iadd C d_Mo_load_75 ?_
                  refine x_topi (x' := nI (40 * sq + i)) (nI_add _ _) ?_
                  refine al_m_numbers C (40 * sq + i) (v := g 10 (40 * sq + i)) rfl (by first | omega | (simp only [pI]; omega)) (congrFun (va_up_ne _ _ (by omega)) _) d_Mo_load_76 ?_
                  refine as_m_now C (pI i 3) (v := g 10 (40 * sq + i)) rfl (by first | omega | (simp only [pI]; omega)) (G := va_up g 0 (upd (gvN (nuM (g 10) sq) (g 0) (i)) (pI i 3) (g 10 (40 * sq + i)))) up_va d_Mo_load_77 ?_
                  refine x_iinc C d_Mo_load_78 0 rfl (v := nI (i + 1)) (nI_1 _) (by decide) (lv' := [(2, .int (nI (i + 1))), (0, .ref (Z.2.1 (0))), (1, .int (nI sq))]) rfl ?_
                  refine x_goto C d_Mo_load_81 22 (by decide) ?_
                  refine x_eqg (g' := va_up g 0 (gvN (nuM (g 10) sq) (g 0) (i + 1))) rfl ?_
                  exact ih_22 (i + 1) (by omega) (by omega) (hy_22.trans (gv_s (by omega) (by assumption)))
        refine x_eqg (g' := va_up g 0 (gvN (nuM (g 10) sq) (g 0) (0))) (va_id g 0).symm ?_
        exact LP_22 (N + 1) 0 (Nat.zero_le _) (by omega) rfl
      · exact absurd c_4 (by decide)
  · skip
    refine x_aload_n C d_Mo_load_0 0 rfl rfl ?_
    refine x_iload_n C d_Mo_load_1 1 rfl rfl ?_
    refine x_iconst C d_Mo_load_2 (v := 1) (by decide) ?_
    refine x_callVi C (c_Mo_lacks_a Z s 1 (by assumption) (g)) mi_Mo_lacks k_1099 (show 0 < 12 by omega) (m_0 Z _) rfl (As := [.int (s), .int (1)]) ⟨Nat.le_of_ble_eq_true rfl, Nat.le_of_ble_eq_true rfl⟩ rfl rfl (Nat.le_of_ble_eq_true rfl) d_Mo_load_3 ?_
    refine x_ifeq C d_Mo_load_6 20 (by decide) (fun c_8 => ?_) (fun c_8 => ?_)
    · exact absurd c_8 (by decide)
    · refine x_aload_n C d_Mo_load_9 0 rfl rfl ?_
      refine x_aload_n C d_Mo_load_10 0 rfl rfl ?_
      refine x_iload_n C d_Mo_load_11 1 rfl rfl ?_
      refine x_iconst C d_Mo_load_12 (v := 1) (by decide) ?_
      refine x_callVi C (c_Mo_lacks_a Z s 1 (by assumption) (g)) mi_Mo_lacks k_1099 (show 0 < 12 by omega) (m_0 Z _) rfl (As := [.int (s), .int (1)]) ⟨Nat.le_of_ble_eq_true rfl, Nat.le_of_ble_eq_true rfl⟩ rfl rfl (Nat.le_of_ble_eq_true rfl) d_Mo_load_13 ?_
      refine x_callVi C (c_Mo_finding_0 Z (g) _ rfl) mi_Mo_finding k_867 (show 0 < 12 by omega) (m_0 Z _) rfl (As := [.int ((-1000001))]) ⟨Nat.le_of_ble_eq_true rfl, Nat.le_of_ble_eq_true rfl⟩ rfl rfl (Nat.le_of_ble_eq_true rfl) d_Mo_load_16 ?_
      exact x_iretK C (by first | with_reducible rfl | (simp [*, -hd]; done) | (simp [*]; done) | (simp_all; done)) (kfinM (G' := va_up g 4 (mfnR (g 4) 0)) (by first | with_reducible rfl | (simp [*, -hd]; done) | (simp [*]; done) | (simp_all; done)) (va_idn (by omega)).symm) d_Mo_load_19

set_option maxRecDepth 100000 in
set_option maxHeartbeats 600000 in
theorem c_Mo_judge (Z : ZT) (s : Int32) (g : St)  (hk : okR (g 0)) (hS : ∀ s, s < 4 → ∃ L, L ≤ 40 ∧ g 9 s = nI L) : CT yM Z y_Mo_judge b_Mo_judge 3 (some (.int)) 3 64 [.ref (Z.2.1 (0)), .int (s)] (g) (QkI yM Z (if ¬ (0 ≤ s ∧ s ≤ 3) then (-1000001) else if g 8 s.toNatClampNeg = 0 then (-1000006) else oI (fdo (fun i_ => !(decide (i_ < sz (g 0)) && decide (g 0 (pI i_ 2) = nuM (g 10) s.toNatClampNeg i_))) (g 9 s.toNatClampNeg).toNatClampNeg 0) + 1) (fun u => ∃ ρ : Nat → Int32, u = va_up (if ¬ (0 ≤ s ∧ s ≤ 3) then va_up g 4 (mfnR (g 4) 0) else if g 8 s.toNatClampNeg = 0 then va_up g 4 (mfnR (g 4) 5) else g) 2 ρ)) := by
  refine CT.mk "TunnelPeaceModel" (by decide) rfl (Nat.le_of_ble_eq_true rfl) (fun X C => ?_)
  refine x_lv [0, 1] (lv' := [(0, .ref (Z.2.1 (0))), (1, .int (s))]) rfl ?_
  have hk0 := hk
  obtain ⟨⟨n, hn8, hn⟩, dd, hdd, hd⟩ := hk
  have hsz := sz_of hn hn8
  by_cases t_1 : 0 ≤ s ∧ s ≤ 3
  · obtain ⟨sq, hsq, rfl⟩ := in_le (n := 3) t_1 (by decide)
    have hcs : (nI sq).toNatClampNeg = sq := nI_clamp (by omega)
    obtain ⟨L, hL4, hL⟩ := hS sq (by omega)
    have hcL : (nI L).toNatClampNeg = L := nI_clamp (by omega)
    by_cases t_2 : g 8 sq = 0
    · skip
      refine x_aload_n C d_Mo_judge_0 0 rfl rfl ?_
      refine x_iload_n C d_Mo_judge_1 1 rfl rfl ?_
      refine x_iconst C d_Mo_judge_2 (v := 1) (by decide) ?_
      refine x_callVi C (c_Mo_lacks_b Z sq (by omega) 1 (g) (by assumption)) mi_Mo_lacks k_1099 (show 0 < 12 by omega) (m_0 Z _) rfl (As := [.int (nI sq), .int (1)]) ⟨Nat.le_of_ble_eq_true rfl, Nat.le_of_ble_eq_true rfl⟩ rfl rfl (Nat.le_of_ble_eq_true rfl) d_Mo_judge_3 ?_
      refine x_ifeq C d_Mo_judge_6 20 (by decide) (fun c_3 => ?_) (fun c_3 => ?_)
      · exact absurd c_3 (by decide)
      · refine x_aload_n C d_Mo_judge_9 0 rfl rfl ?_
        refine x_aload_n C d_Mo_judge_10 0 rfl rfl ?_
        refine x_iload_n C d_Mo_judge_11 1 rfl rfl ?_
        refine x_iconst C d_Mo_judge_12 (v := 1) (by decide) ?_
        refine x_callVi C (c_Mo_lacks_b Z sq (by omega) 1 (g) (by assumption)) mi_Mo_lacks k_1099 (show 0 < 12 by omega) (m_0 Z _) rfl (As := [.int (nI sq), .int (1)]) ⟨Nat.le_of_ble_eq_true rfl, Nat.le_of_ble_eq_true rfl⟩ rfl rfl (Nat.le_of_ble_eq_true rfl) d_Mo_judge_13 ?_
        refine x_callVi C (c_Mo_finding_5 Z (g) _ rfl) mi_Mo_finding k_867 (show 0 < 12 by omega) (m_0 Z _) rfl (As := [.int ((-1000006))]) ⟨Nat.le_of_ble_eq_true rfl, Nat.le_of_ble_eq_true rfl⟩ rfl rfl (Nat.le_of_ble_eq_true rfl) d_Mo_judge_16 ?_
        exact x_iretK C (by first | with_reducible rfl | (simp [*, -hd]; done) | (simp [*]; done) | (simp_all; done)) (kfinM (G' := va_up g 4 (mfnR (g 4) 5)) (by first | with_reducible rfl | (simp [*, -hd]; done) | (simp [*]; done) | (simp_all; done)) (va_idn (by omega)).symm) d_Mo_judge_19
    · skip
      refine x_aload_n C d_Mo_judge_0 0 rfl rfl ?_
      refine x_iload_n C d_Mo_judge_1 1 rfl rfl ?_
      refine x_iconst C d_Mo_judge_2 (v := 1) (by decide) ?_
      refine x_callVi C (c_Mo_lacks_c Z sq (by omega) (g) (by assumption)) mi_Mo_lacks k_1099 (show 0 < 12 by omega) (m_0 Z _) rfl (As := [.int (nI sq), .int (1)]) ⟨Nat.le_of_ble_eq_true rfl, Nat.le_of_ble_eq_true rfl⟩ rfl rfl (Nat.le_of_ble_eq_true rfl) d_Mo_judge_3 ?_
      refine x_ifeq C d_Mo_judge_6 20 (by decide) (fun c_4 => ?_) (fun c_4 => ?_)
      · refine x_iconst C d_Mo_judge_20 (v := 0) (by decide) ?_
        refine x_topi (show (0 : Int32) = nI 0 by decide) ?_
        refine x_istore_n C d_Mo_judge_21 rfl (by decide) (lv' := [(2, .int (nI 0)), (0, .ref (Z.2.1 (0))), (1, .int (nI sq))]) rfl ?_
        have LP_22 : ∀ (f_ i : Nat), i ≤ L → L - i < f_ → (fdo (fun i_ => !(decide (i_ < sz (g 0)) && decide (g 0 (pI i_ 2) = nuM (g 10) sq i_))) L 0 = fdo (fun i_ => !(decide (i_ < sz (g 0)) && decide (g 0 (pI i_ 2) = nuM (g 10) sq i_))) (L - i) i) → WX X 3 yM Z (QX X yM Z (QkI yM Z (if ¬ (0 ≤ (nI sq) ∧ (nI sq) ≤ 3) then (-1000001) else if g 8 (nI sq).toNatClampNeg = 0 then (-1000006) else oI (fdo (fun i_ => !(decide (i_ < sz (g 0)) && decide (g 0 (pI i_ 2) = nuM (g 10) (nI sq).toNatClampNeg i_))) (g 9 (nI sq).toNatClampNeg).toNatClampNeg 0) + 1) (fun u => ∃ ρ : Nat → Int32, u = va_up (if ¬ (0 ≤ (nI sq) ∧ (nI sq) ≤ 3) then va_up g 4 (mfnR (g 4) 0) else if g 8 (nI sq).toNatClampNeg = 0 then va_up g 4 (mfnR (g 4) 5) else g) 2 ρ))) (g) 22 [(2, .int (nI i)), (0, .ref (Z.2.1 (0))), (1, .int (nI sq))] [] := by
          intro f_
          induction f_ with
          | zero => intro i h1_ h2_ _; exact absurd h2_ (Nat.not_lt_zero _)
          | succ f_ ih_22 =>
            intro i hi_22 hf_22 hy_22
            refine x_iload_n C d_Mo_judge_22 0 rfl rfl ?_
            refine x_aload_n C d_Mo_judge_23 1 rfl rfl ?_
            refine gf_Mo_sizes C k_808 d_Mo_judge_24 ?_
            refine x_iload_n C d_Mo_judge_27 2 rfl rfl ?_
            refine al_m_sizes C sq (v := nI L) rfl (by first | omega | (simp only [pI]; omega)) hL d_Mo_judge_28 ?_
            refine x_icmp_ge C d_Mo_judge_29 66 (by decide) (fun c_5 => ?_) (fun c_5 => ?_)
            · have nc_5 := Int32.not_lt.mpr c_5
              have mc_5 : L ≤ i := (nI_leI (by omega) (by omega)).mp (show nI L ≤ nI i from c_5)
              refine x_iload_n C d_Mo_judge_66 0 rfl rfl ?_
              refine x_aload_n C d_Mo_judge_67 1 rfl rfl ?_
              refine gf_Mo_sizes C k_808 d_Mo_judge_68 ?_
              refine x_iload_n C d_Mo_judge_71 2 rfl rfl ?_
              refine al_m_sizes C sq (v := nI L) rfl (by first | omega | (simp only [pI]; omega)) hL d_Mo_judge_72 ?_
              refine x_icmp_ne C d_Mo_judge_73 80 (by decide) (fun c_6 => ?_) (fun c_6 => ?_)
              · have nc_6 := Ne.symm c_6
                have mc_6 : ¬ i = L := fun z_ => (show ¬ nI i = nI L from c_6) ((nI_eq (by omega) (by omega)).mpr z_)
                refine x_iconst C d_Mo_judge_80 (v := 1) (by decide) ?_
                refine x_iload_n C d_Mo_judge_81 0 rfl rfl ?_
                refine x_iadd C d_Mo_judge_82 ?_
                exact x_iretK C (by simp only [hcs, hL, hcL]; rw [if_neg (not_not_intro (by assumption)), if_neg (by assumption), hy_22]; rw [fdo_t (by omega) (by first | (simp [hsz, nuM, *]; done) | (simp [hsz]; omega))]; exact Int32.add_comm _ _) (kfinM (G' := g) (by simp only [hcs]; rw [if_neg (not_not_intro (by assumption)), if_neg (by assumption)]) (va_id g 2).symm) d_Mo_judge_83
              · have mc_6 : i = L := (nI_eq (by omega) (by omega)).mp (show nI i = nI L from c_6)
                refine x_iconst C d_Mo_judge_76 (v := 0) (by decide) ?_
                refine x_goto C d_Mo_judge_77 83 (by decide) ?_
                exact x_iretK C (by simp only [hcs, hL, hcL]; rw [if_neg (not_not_intro (by assumption)), if_neg (by assumption), hy_22]; rw [show L = i by omega, Nat.sub_self]; show (0 : Int32) = oI none + 1; decide) (kfinM (G' := g) (by simp only [hcs]; rw [if_neg (not_not_intro (by assumption)), if_neg (by assumption)]) (va_id g 2).symm) d_Mo_judge_83
            · have nc_5 := Int32.not_le.mp c_5
              have mc_5 : ¬ L ≤ i := fun z_ => (show ¬ nI L ≤ nI i from c_5) ((nI_leI (by omega) (by omega)).mpr z_)
              refine x_aload_n C d_Mo_judge_32 1 rfl rfl ?_
              refine x_iload_n C d_Mo_judge_33 0 rfl rfl ?_
              refine x_callVi C (c_Mo_isPerson Z (nI i) n (by omega) (g) hn) mi_Mo_isPerson k_907 (show 0 < 12 by omega) (m_0 Z _) rfl (As := [.int (nI i)]) ⟨Nat.le_of_ble_eq_true rfl, Nat.le_of_ble_eq_true rfl⟩ rfl rfl (Nat.le_of_ble_eq_true rfl) d_Mo_judge_34 ?_
              refine x_ifeqB C d_Mo_judge_37 66 (by decide) (fun c_7 => ?_) (fun c_7 => ?_)
              · have mc_7 := has_f c_7 (by omega) (by omega)
                refine x_iload_n C d_Mo_judge_66 0 rfl rfl ?_
                refine x_aload_n C d_Mo_judge_67 1 rfl rfl ?_
                refine gf_Mo_sizes C k_808 d_Mo_judge_68 ?_
                refine x_iload_n C d_Mo_judge_71 2 rfl rfl ?_
                refine al_m_sizes C sq (v := nI L) rfl (by first | omega | (simp only [pI]; omega)) hL d_Mo_judge_72 ?_
                refine x_icmp_ne C d_Mo_judge_73 80 (by decide) (fun c_8 => ?_) (fun c_8 => ?_)
                · have nc_8 := Ne.symm c_8
                  have mc_8 : ¬ i = L := fun z_ => (show ¬ nI i = nI L from c_8) ((nI_eq (by omega) (by omega)).mpr z_)
                  refine x_iconst C d_Mo_judge_80 (v := 1) (by decide) ?_
                  refine x_iload_n C d_Mo_judge_81 0 rfl rfl ?_
                  refine x_iadd C d_Mo_judge_82 ?_
                  exact x_iretK C (by simp only [hcs, hL, hcL]; rw [if_neg (not_not_intro (by assumption)), if_neg (by assumption), hy_22]; rw [fdo_t (by omega) (by first | (simp [hsz, nuM, *]; done) | (simp [hsz]; omega))]; exact Int32.add_comm _ _) (kfinM (G' := g) (by simp only [hcs]; rw [if_neg (not_not_intro (by assumption)), if_neg (by assumption)]) (va_id g 2).symm) d_Mo_judge_83
                · have mc_8 : i = L := (nI_eq (by omega) (by omega)).mp (show nI i = nI L from c_8)
                  refine x_iconst C d_Mo_judge_76 (v := 0) (by decide) ?_
                  refine x_goto C d_Mo_judge_77 83 (by decide) ?_
                  exact x_iretK C (by simp only [hcs, hL, hcL]; rw [if_neg (not_not_intro (by assumption)), if_neg (by assumption), hy_22]; rw [show L = i by omega, Nat.sub_self]; show (0 : Int32) = oI none + 1; decide) (kfinM (G' := g) (by simp only [hcs]; rw [if_neg (not_not_intro (by assumption)), if_neg (by assumption)]) (va_id g 2).symm) d_Mo_judge_83
              · have mc_7 := has_t c_7 (by omega) (by omega)
                refine x_aload_n C d_Mo_judge_40 1 rfl rfl ?_
                refine gf_Mo_numbers C k_809 d_Mo_judge_41 ?_
                refine x_bipush C d_Mo_judge_44 (v := 40) (by decide) ?_
                refine x_iload_n C d_Mo_judge_46 2 rfl rfl ?_
                refine x_imul C d_Mo_judge_47 ?_
                refine x_topi (x' := nI (40 * sq)) (pk_mul 40 _) ?_
                refine x_iload_n C d_Mo_judge_48 0 rfl rfl ?_
                refine x_iadd C d_Mo_judge_49 ?_
                refine x_topi (x' := nI (40 * sq + i)) (nI_add _ _) ?_
                refine al_m_numbers C (40 * sq + i) (v := g 10 (40 * sq + i)) rfl (by first | omega | (simp only [pI]; omega)) rfl d_Mo_judge_50 ?_
                refine x_aload_n C d_Mo_judge_51 1 rfl rfl ?_
                refine x_iload_n C d_Mo_judge_52 0 rfl rfl ?_
                refine x_iconst C d_Mo_judge_53 (v := 2) (by decide) ?_
                refine x_callVi C (c_Mo_personIs Z i 2 (by omega) (by omega) (g) _ rfl) mi_Mo_personIs k_919 (show 0 < 12 by omega) (m_0 Z _) rfl (As := [.int (nI i), .int (2)]) ⟨Nat.le_of_ble_eq_true rfl, Nat.le_of_ble_eq_true rfl⟩ rfl rfl (Nat.le_of_ble_eq_true rfl) d_Mo_judge_54 ?_
                refine x_icmp_ne C d_Mo_judge_57 66 (by decide) (fun c_9 => ?_) (fun c_9 => ?_)
                · have nc_9 := Ne.symm c_9
                  refine x_iload_n C d_Mo_judge_66 0 rfl rfl ?_
                  refine x_aload_n C d_Mo_judge_67 1 rfl rfl ?_
                  refine gf_Mo_sizes C k_808 d_Mo_judge_68 ?_
                  refine x_iload_n C d_Mo_judge_71 2 rfl rfl ?_
                  refine al_m_sizes C sq (v := nI L) rfl (by first | omega | (simp only [pI]; omega)) hL d_Mo_judge_72 ?_
                  refine x_icmp_ne C d_Mo_judge_73 80 (by decide) (fun c_10 => ?_) (fun c_10 => ?_)
                  · have nc_10 := Ne.symm c_10
                    have mc_10 : ¬ i = L := fun z_ => (show ¬ nI i = nI L from c_10) ((nI_eq (by omega) (by omega)).mpr z_)
                    refine x_iconst C d_Mo_judge_80 (v := 1) (by decide) ?_
                    refine x_iload_n C d_Mo_judge_81 0 rfl rfl ?_
                    refine x_iadd C d_Mo_judge_82 ?_
                    exact x_iretK C (by simp only [hcs, hL, hcL]; rw [if_neg (not_not_intro (by assumption)), if_neg (by assumption), hy_22]; rw [fdo_t (by omega) (by first | (simp [hsz, nuM, *]; done) | (simp [hsz]; omega))]; exact Int32.add_comm _ _) (kfinM (G' := g) (by simp only [hcs]; rw [if_neg (not_not_intro (by assumption)), if_neg (by assumption)]) (va_id g 2).symm) d_Mo_judge_83
                  · have mc_10 : i = L := (nI_eq (by omega) (by omega)).mp (show nI i = nI L from c_10)
                    refine x_iconst C d_Mo_judge_76 (v := 0) (by decide) ?_
                    refine x_goto C d_Mo_judge_77 83 (by decide) ?_
                    exact x_iretK C (by simp only [hcs, hL, hcL]; rw [if_neg (not_not_intro (by assumption)), if_neg (by assumption), hy_22]; rw [show L = i by omega, Nat.sub_self]; show (0 : Int32) = oI none + 1; decide) (kfinM (G' := g) (by simp only [hcs]; rw [if_neg (not_not_intro (by assumption)), if_neg (by assumption)]) (va_id g 2).symm) d_Mo_judge_83
                · refine x_iinc C d_Mo_judge_60 0 rfl (v := nI (i + 1)) (nI_1 _) (by decide) (lv' := [(2, .int (nI (i + 1))), (0, .ref (Z.2.1 (0))), (1, .int (nI sq))]) rfl ?_
                  refine x_goto C d_Mo_judge_63 22 (by decide) ?_
                  exact ih_22 (i + 1) (by omega) (by omega) (hy_22.trans (fdo_n (by omega) (by first | (simp [hsz, nuM, *]; done) | (simp [hsz, nuM, *]; omega))))
        exact LP_22 (L + 1) 0 (Nat.zero_le _) (by omega) rfl
      · exact absurd c_4 (by decide)
  · skip
    refine x_aload_n C d_Mo_judge_0 0 rfl rfl ?_
    refine x_iload_n C d_Mo_judge_1 1 rfl rfl ?_
    refine x_iconst C d_Mo_judge_2 (v := 1) (by decide) ?_
    refine x_callVi C (c_Mo_lacks_a Z s 1 (by assumption) (g)) mi_Mo_lacks k_1099 (show 0 < 12 by omega) (m_0 Z _) rfl (As := [.int (s), .int (1)]) ⟨Nat.le_of_ble_eq_true rfl, Nat.le_of_ble_eq_true rfl⟩ rfl rfl (Nat.le_of_ble_eq_true rfl) d_Mo_judge_3 ?_
    refine x_ifeq C d_Mo_judge_6 20 (by decide) (fun c_11 => ?_) (fun c_11 => ?_)
    · exact absurd c_11 (by decide)
    · refine x_aload_n C d_Mo_judge_9 0 rfl rfl ?_
      refine x_aload_n C d_Mo_judge_10 0 rfl rfl ?_
      refine x_iload_n C d_Mo_judge_11 1 rfl rfl ?_
      refine x_iconst C d_Mo_judge_12 (v := 1) (by decide) ?_
      refine x_callVi C (c_Mo_lacks_a Z s 1 (by assumption) (g)) mi_Mo_lacks k_1099 (show 0 < 12 by omega) (m_0 Z _) rfl (As := [.int (s), .int (1)]) ⟨Nat.le_of_ble_eq_true rfl, Nat.le_of_ble_eq_true rfl⟩ rfl rfl (Nat.le_of_ble_eq_true rfl) d_Mo_judge_13 ?_
      refine x_callVi C (c_Mo_finding_0 Z (g) _ rfl) mi_Mo_finding k_867 (show 0 < 12 by omega) (m_0 Z _) rfl (As := [.int ((-1000001))]) ⟨Nat.le_of_ble_eq_true rfl, Nat.le_of_ble_eq_true rfl⟩ rfl rfl (Nat.le_of_ble_eq_true rfl) d_Mo_judge_16 ?_
      exact x_iretK C (by first | with_reducible rfl | (simp [*, -hd]; done) | (simp [*]; done) | (simp_all; done)) (kfinM (G' := va_up g 4 (mfnR (g 4) 0)) (by first | with_reducible rfl | (simp [*, -hd]; done) | (simp [*]; done) | (simp_all; done)) (va_idn (by omega)).symm) d_Mo_judge_19

set_option maxRecDepth 100000 in
set_option maxHeartbeats 600000 in
theorem c_Mo_image (Z : ZT)  (g : St)  (hk : okR (g 0)) : CT yM Z y_Mo_image b_Mo_image 1 (some (.int)) 1 22 [.ref (Z.2.1 (0))] (g) (QkI yM Z (1) (fun u => ∃ ρ : Nat → Int32, u = va_up (va_up (va_up g 1 (c68 (g 0) (g 1))) 3 (upd (g 3) 3 1)) 2 ρ)) := by
  refine CT.mk "TunnelPeaceModel" (by decide) rfl (Nat.le_of_ble_eq_true rfl) (fun X C => ?_)
  refine x_lv [0] (lv' := [(0, .ref (Z.2.1 (0)))]) rfl ?_
  have hk0 := hk
  obtain ⟨⟨n, hn8, hn⟩, dd, hdd, hd⟩ := hk
  refine x_aload_n C d_Mo_image_0 0 rfl rfl ?_
  refine gf_Mo_now C k_791 d_Mo_image_1 ?_
  refine x_aload_n C d_Mo_image_4 0 rfl rfl ?_
  refine gf_Mo_kept C k_792 d_Mo_image_5 ?_
  refine x_callSv C (c_Mo_copyRow_01 Z (g) _ _ rfl rfl) mi_Mo_copyRow k_1021 (As := [.ref (Z.2.1 (1)), .ref (Z.2.1 (2))]) ⟨Nat.le_of_ble_eq_true rfl, Nat.le_of_ble_eq_true rfl⟩ rfl rfl (Nat.le_of_ble_eq_true rfl) d_Mo_image_8 ?_
  refine x_aload_n C d_Mo_image_11 0 rfl rfl ?_
  refine x_iconst C d_Mo_image_12 (v := 1) (by decide) ?_
  refine pf_Mo_isKept C (v := 1) (by decide) (G := va_up (va_up g 1 (c68 (g 0) (g 1))) 3 (upd (g 3) 3 1)) (congrArg (fun z => va_up _ _ (upd z _ _)) (va_up_ne _ _ (by omega))) k_794 d_Mo_image_13 ?_
  refine x_iconst C d_Mo_image_16 (v := 1) (by decide) ?_
  exact x_iretK C rfl (kfinM (G' := va_up (va_up g 1 (c68 (g 0) (g 1))) 3 (upd (g 3) 3 1)) (by first | with_reducible rfl | (simp [*, -hd]; done) | (simp [*]; done) | (simp_all; done)) (va_idnn (by omega) (by omega)).symm) d_Mo_image_17

set_option maxRecDepth 100000 in
set_option maxHeartbeats 600000 in
theorem c_Mo_undo (Z : ZT)  (g : St)  (hk : okR (g 0)) : CT yM Z y_Mo_undo b_Mo_undo 1 (some (.int)) 1 22 [.ref (Z.2.1 (0))] (g) (QkI yM Z (if g 3 3 = 0 then (-1000004) else g 1 0) (fun u => ∃ ρ : Nat → Int32, u = va_up (if g 3 3 = 0 then va_up g 4 (mfnR (g 4) 3) else va_up g 0 (c68 (g 1) (g 0))) 2 ρ)) := by
  refine CT.mk "TunnelPeaceModel" (by decide) rfl (Nat.le_of_ble_eq_true rfl) (fun X C => ?_)
  refine x_lv [0] (lv' := [(0, .ref (Z.2.1 (0)))]) rfl ?_
  have hk0 := hk
  obtain ⟨⟨n, hn8, hn⟩, dd, hdd, hd⟩ := hk
  refine x_aload_n C d_Mo_undo_0 0 rfl rfl ?_
  refine gf_Mo_isKept C (v := g 3 3) rfl k_794 d_Mo_undo_1 ?_
  refine x_ifne C d_Mo_undo_4 14 (by decide) (fun c_1 => ?_) (fun c_1 => ?_)
  · refine x_aload_n C d_Mo_undo_14 0 rfl rfl ?_
    refine gf_Mo_kept C k_792 d_Mo_undo_15 ?_
    refine x_aload_n C d_Mo_undo_18 0 rfl rfl ?_
    refine gf_Mo_now C k_791 d_Mo_undo_19 ?_
    refine x_callSv C (c_Mo_copyRow_10 Z (g) _ _ rfl rfl) mi_Mo_copyRow k_1021 (As := [.ref (Z.2.1 (2)), .ref (Z.2.1 (1))]) ⟨Nat.le_of_ble_eq_true rfl, Nat.le_of_ble_eq_true rfl⟩ rfl rfl (Nat.le_of_ble_eq_true rfl) d_Mo_undo_22 ?_
    refine x_aload_n C d_Mo_undo_25 0 rfl rfl ?_
    refine gf_Mo_now C k_791 d_Mo_undo_26 ?_
    refine x_iconst C d_Mo_undo_29 (v := 0) (by decide) ?_
    refine al_m_now C 0 (v := g 1 0) (by decide) (by first | omega | (simp only [pI]; omega)) (Eq.trans (congrFun (va_up_self _ _ _) _) (c68_hd (by decide))) d_Mo_undo_30 ?_
    exact x_iretK C (by first | with_reducible rfl | (simp [*, -hd]; done) | (simp [*]; done) | (simp_all; done)) (kfinM (G' := va_up g 0 (c68 (g 1) (g 0))) (by first | with_reducible rfl | (simp [*, -hd]; done) | (simp [*]; done) | (simp_all; done)) (va_idn (by omega)).symm) d_Mo_undo_31
  · refine x_aload_n C d_Mo_undo_7 0 rfl rfl ?_
    refine x_ldc C d_Mo_undo_8 k_1048 ?_
    refine x_callVi C (c_Mo_finding_3 Z (g) _ rfl) mi_Mo_finding k_867 (show 0 < 12 by omega) (m_0 Z _) rfl (As := [.int ((-1000004))]) ⟨Nat.le_of_ble_eq_true rfl, Nat.le_of_ble_eq_true rfl⟩ rfl rfl (Nat.le_of_ble_eq_true rfl) d_Mo_undo_10 ?_
    exact x_iretK C (by first | with_reducible rfl | (simp [*, -hd]; done) | (simp [*]; done) | (simp_all; done)) (kfinM (G' := va_up g 4 (mfnR (g 4) 3)) (by first | with_reducible rfl | (simp [*, -hd]; done) | (simp [*]; done) | (simp_all; done)) (va_idn (by omega)).symm) d_Mo_undo_13

set_option maxRecDepth 100000 in
set_option maxHeartbeats 600000 in
theorem c_Mo_tear (Z : ZT)  (g : St)  (hk : okR (g 0)) : CT yM Z y_Mo_tear b_Mo_tear 2 (some (.int)) 0 0 [.ref (Z.2.1 (0))] (g) (QkI yM Z (if g 3 3 = 0 then 0 else 1) (fun u => ∃ ρ : Nat → Int32, u = va_up (va_up g 3 (upd (g 3) 3 0)) 2 ρ)) := by
  refine CT.mk "TunnelPeaceModel" (by decide) rfl (Nat.le_of_ble_eq_true rfl) (fun X C => ?_)
  refine x_lv [0] (lv' := [(0, .ref (Z.2.1 (0)))]) rfl ?_
  have hk0 := hk
  obtain ⟨⟨n, hn8, hn⟩, dd, hdd, hd⟩ := hk
  refine x_aload_n C d_Mo_tear_0 0 rfl rfl ?_
  refine gf_Mo_isKept C (v := g 3 3) rfl k_794 d_Mo_tear_1 ?_
  refine x_ifeq C d_Mo_tear_4 11 (by decide) (fun c_1 => ?_) (fun c_1 => ?_)
  · refine x_iconst C d_Mo_tear_11 (v := 0) (by decide) ?_
    refine x_istore_n C d_Mo_tear_12 rfl (by decide) (lv' := [(1, .int (0)), (0, .ref (Z.2.1 (0)))]) rfl ?_
    refine x_aload_n C d_Mo_tear_13 1 rfl rfl ?_
    refine x_iconst C d_Mo_tear_14 (v := 0) (by decide) ?_
    refine pf_Mo_isKept C (v := 0) (by decide) (G := va_up g 3 (upd (g 3) 3 0)) rfl k_794 d_Mo_tear_15 ?_
    refine x_iload_n C d_Mo_tear_18 0 rfl rfl ?_
    exact x_iretK C (by first | with_reducible rfl | (simp [*, -hd]; done) | (simp [*]; done) | (simp_all; done)) (kfinM (G' := va_up g 3 (upd (g 3) 3 0)) (by first | with_reducible rfl | (simp [*, -hd]; done) | (simp [*]; done) | (simp_all; done)) (va_idn (by omega)).symm) d_Mo_tear_19
  · refine x_iconst C d_Mo_tear_7 (v := 1) (by decide) ?_
    refine x_goto C d_Mo_tear_8 12 (by decide) ?_
    refine x_istore_n C d_Mo_tear_12 rfl (by decide) (lv' := [(1, .int (1)), (0, .ref (Z.2.1 (0)))]) rfl ?_
    refine x_aload_n C d_Mo_tear_13 1 rfl rfl ?_
    refine x_iconst C d_Mo_tear_14 (v := 0) (by decide) ?_
    refine pf_Mo_isKept C (v := 0) (by decide) (G := va_up g 3 (upd (g 3) 3 0)) rfl k_794 d_Mo_tear_15 ?_
    refine x_iload_n C d_Mo_tear_18 0 rfl rfl ?_
    exact x_iretK C (by first | with_reducible rfl | (simp [*, -hd]; done) | (simp [*]; done) | (simp_all; done)) (kfinM (G' := va_up g 3 (upd (g 3) 3 0)) (by first | with_reducible rfl | (simp [*, -hd]; done) | (simp [*]; done) | (simp_all; done)) (va_idn (by omega)).symm) d_Mo_tear_19

set_option maxRecDepth 100000 in
set_option maxHeartbeats 600000 in
theorem c_Mo_wipe (Z : ZT)  (g : St)  (hk : okR (g 0)) : CT yM Z y_Mo_wipe b_Mo_wipe 2 (some (.int)) 0 0 [.ref (Z.2.1 (0))] (g) (QkI yM Z (g 3 6) (fun u => ∃ ρ : Nat → Int32, u = va_up (va_up g 3 (upd (g 3) 6 0)) 2 ρ)) := by
  refine CT.mk "TunnelPeaceModel" (by decide) rfl (Nat.le_of_ble_eq_true rfl) (fun X C => ?_)
  refine x_lv [0] (lv' := [(0, .ref (Z.2.1 (0)))]) rfl ?_
  have hk0 := hk
  obtain ⟨⟨n, hn8, hn⟩, dd, hdd, hd⟩ := hk
  refine x_aload_n C d_Mo_wipe_0 0 rfl rfl ?_
  refine gf_Mo_taped C (v := g 3 6) rfl k_797 d_Mo_wipe_1 ?_
  refine x_istore_n C d_Mo_wipe_4 rfl (by decide) (lv' := [(1, .int (g 3 6)), (0, .ref (Z.2.1 (0)))]) rfl ?_
  refine x_aload_n C d_Mo_wipe_5 1 rfl rfl ?_
  refine x_iconst C d_Mo_wipe_6 (v := 0) (by decide) ?_
  refine pf_Mo_taped C (v := 0) (G := va_up g 3 (upd (g 3) 6 0)) rfl k_797 d_Mo_wipe_7 ?_
  refine x_iload_n C d_Mo_wipe_10 0 rfl rfl ?_
  exact x_iretK C rfl (kfinM (G' := va_up g 3 (upd (g 3) 6 0)) (by first | with_reducible rfl | (simp [*, -hd]; done) | (simp [*]; done) | (simp_all; done)) (va_idn (by omega)).symm) d_Mo_wipe_11

theorem in_m1 {x : Int32} (h : -1 ≤ x ∧ x ≤ 6) : ∃ j, j ≤ 7 ∧ x + 1 = nI j := by
  have h1 := h.1
  have h2 := h.2
  rw [fa_leI] at h1 h2
  have e1 : (-1 : Int32).toInt = -1 := by decide
  have e2 : (6 : Int32).toInt = 6 := by decide
  rw [e1] at h1
  rw [e2] at h2
  refine ⟨(x.toInt + 1).toNat, by omega, ?_⟩
  apply Int32.toInt_inj.mp
  rw [nI_toInt (by omega)]
  have hx : (x + 1).toInt = x.toInt + 1 := by
    rw [Int32.toInt_add]
    have e3 : (1 : Int32).toInt = 1 := by decide
    rw [e3]
    exact Int.bmod_eq_of_le (by omega) (by omega)
  rw [hx]
  omega

set_option maxRecDepth 100000 in
set_option maxHeartbeats 600000 in
theorem c_Mo_status (Z : ZT) (w : Int32) (g : St)  (hk : okR (g 0)) : CT yM Z y_Mo_status b_Mo_status 2 (some (.int)) 1 22 [.ref (Z.2.1 (0)), .int (w)] (g) (QkI yM Z (if -1 ≤ w ∧ w ≤ 6 then g 4 (w + 1).toNatClampNeg else (-1000001)) (fun u => ∃ ρ : Nat → Int32, u = va_up (if -1 ≤ w ∧ w ≤ 6 then g else va_up g 4 (mfnR (g 4) 0)) 2 ρ)) := by
  refine CT.mk "TunnelPeaceModel" (by decide) rfl (Nat.le_of_ble_eq_true rfl) (fun X C => ?_)
  refine x_lv [0, 1] (lv' := [(0, .ref (Z.2.1 (0))), (1, .int (w))]) rfl ?_
  have hk0 := hk
  obtain ⟨⟨n, hn8, hn⟩, dd, hdd, hd⟩ := hk
  refine x_iload_n C d_Mo_status_0 1 rfl rfl ?_
  refine x_iconst C d_Mo_status_1 (v := -1) (by decide) ?_
  refine x_bipush C d_Mo_status_2 (v := 6) (by decide) ?_
  refine x_callSi C (c_Mo_within Z w (-1) 6 (g)) mi_Mo_within k_859 (As := [.int (w), .int ((-1)), .int (6)]) ⟨Nat.le_of_ble_eq_true rfl, Nat.le_of_ble_eq_true rfl⟩ rfl rfl (Nat.le_of_ble_eq_true rfl) d_Mo_status_4 ?_
  refine x_ifeqB C d_Mo_status_7 21 (by decide) (fun c_1 => ?_) (fun c_1 => ?_)
  · refine x_aload_n C d_Mo_status_21 0 rfl rfl ?_
    refine x_ldc C d_Mo_status_22 k_866 ?_
    refine x_callVi C (c_Mo_finding_0 Z (g) _ rfl) mi_Mo_finding k_867 (show 0 < 12 by omega) (m_0 Z _) rfl (As := [.int ((-1000001))]) ⟨Nat.le_of_ble_eq_true rfl, Nat.le_of_ble_eq_true rfl⟩ rfl rfl (Nat.le_of_ble_eq_true rfl) d_Mo_status_24 ?_
    exact x_iretK C (by first | with_reducible rfl | (simp [*, -hd]; done) | (simp [*]; done) | (simp_all; done)) (kfinM (G' := va_up g 4 (mfnR (g 4) 0)) (by first | with_reducible rfl | (simp [*, -hd]; done) | (simp [*]; done) | (simp_all; done)) (va_idn (by omega)).symm) d_Mo_status_27
  · obtain ⟨wq, hwq, hwq1⟩ := in_m1 (by assumption)
    have hcw : (w + 1).toNatClampNeg = wq := by rw [hwq1]; exact nI_clamp (by omega)
    refine x_aload_n C d_Mo_status_10 0 rfl rfl ?_
    refine gf_Mo_found C k_795 d_Mo_status_11 ?_
    refine x_iload_n C d_Mo_status_14 1 rfl rfl ?_
    refine x_iconst C d_Mo_status_15 (v := 1) (by decide) ?_
    refine x_iadd C d_Mo_status_16 ?_
    refine x_topi (x' := nI wq) hwq1 ?_
    refine al_m_found C wq (v := g 4 wq) rfl (by first | omega | (simp only [pI]; omega)) rfl d_Mo_status_17 ?_
    refine x_goto C d_Mo_status_18 27 (by decide) ?_
    exact x_iretK C (by first | with_reducible rfl | (simp [*, -hd]; done) | (simp [*]; done) | (simp_all; done)) (kfinM (G' := g) (by first | with_reducible rfl | (simp [*, -hd]; done) | (simp [*]; done) | (simp_all; done)) (va_id g 2).symm) d_Mo_status_27

set_option maxRecDepth 100000 in
set_option maxHeartbeats 600000 in
theorem c_Mo_count (Z : ZT) (w : Int32) (g : St)  (hk : okR (g 0)) : CT yM Z y_Mo_count b_Mo_count 4 (some (.int)) 3 65 [.ref (Z.2.1 (0)), .int (w)] (g) (QkI yM Z (if w = 0 then g 0 0 else if w = 1 then g 0 1 else if w = 2 then g 0 3 else if w = 3 then sumN (g 0) (sz (g 0)) else if w = 4 then bc (seaN (g 0) (sz (g 0))) else if w = 5 then g 3 6 else if w = 6 then g 0 2 else if w = 7 then spoN (g 0) 10 else (-1000001)) (fun u => ∃ ρ : Nat → Int32, u = va_up (if w = 0 then g else if w = 1 then g else if w = 2 then g else if w = 3 then g else if w = 4 then g else if w = 5 then g else if w = 6 then g else if w = 7 then g else va_up g 4 (mfnR (g 4) 0)) 2 ρ)) := by
  refine CT.mk "TunnelPeaceModel" (by decide) rfl (Nat.le_of_ble_eq_true rfl) (fun X C => ?_)
  refine x_lv [0, 1] (lv' := [(0, .ref (Z.2.1 (0))), (1, .int (w))]) rfl ?_
  have hk0 := hk
  obtain ⟨⟨n, hn8, hn⟩, dd, hdd, hd⟩ := hk
  refine x_iconst C d_Mo_count_0 (v := 0) (by decide) ?_
  refine x_istore_n C d_Mo_count_1 rfl (by decide) (lv' := [(2, .int (0)), (0, .ref (Z.2.1 (0))), (1, .int (w))]) rfl ?_
  refine x_iload_n C d_Mo_count_2 2 rfl rfl ?_
  by_cases c_1 : w = 0
  · refine x_tabAt C d_Mo_count_3 c_1 (by decide) (by decide) (off := 45) (by decide) 48 (by decide) ?_
    refine x_aload_n C d_Mo_count_48 1 rfl rfl ?_
    refine gf_Mo_now C k_791 d_Mo_count_49 ?_
    refine x_iconst C d_Mo_count_52 (v := 0) (by decide) ?_
    refine al_m_now C 0 (v := g 0 0) (by decide) (by first | omega | (simp only [pI]; omega)) rfl d_Mo_count_53 ?_
    exact x_iretK C (by simp [*]) (kfinM (G' := g) (by first | with_reducible rfl | (simp [*, -hd]; done) | (simp [*]; done) | (simp_all; done)) (va_id g 2).symm) d_Mo_count_54
  by_cases c_2 : w = 1
  · refine x_tabAt C d_Mo_count_3 c_2 (by decide) (by decide) (off := 52) (by decide) 55 (by decide) ?_
    refine x_aload_n C d_Mo_count_55 1 rfl rfl ?_
    refine gf_Mo_now C k_791 d_Mo_count_56 ?_
    refine x_iconst C d_Mo_count_59 (v := 1) (by decide) ?_
    refine al_m_now C 1 (v := nI n) (by decide) (by first | omega | (simp only [pI]; omega)) hn d_Mo_count_60 ?_
    exact x_iretK C (by simp [*]) (kfinM (G' := g) (by first | with_reducible rfl | (simp [*, -hd]; done) | (simp [*]; done) | (simp_all; done)) (va_id g 2).symm) d_Mo_count_61
  by_cases c_3 : w = 2
  · refine x_tabAt C d_Mo_count_3 c_3 (by decide) (by decide) (off := 59) (by decide) 62 (by decide) ?_
    refine x_aload_n C d_Mo_count_62 1 rfl rfl ?_
    refine gf_Mo_now C k_791 d_Mo_count_63 ?_
    refine x_iconst C d_Mo_count_66 (v := 3) (by decide) ?_
    refine al_m_now C 3 (v := g 0 3) (by decide) (by first | omega | (simp only [pI]; omega)) rfl d_Mo_count_67 ?_
    exact x_iretK C (by simp [*]) (kfinM (G' := g) (by first | with_reducible rfl | (simp [*, -hd]; done) | (simp [*]; done) | (simp_all; done)) (va_id g 2).symm) d_Mo_count_68
  by_cases c_4 : w = 3
  · refine x_tabAt C d_Mo_count_3 c_4 (by decide) (by decide) (off := 66) (by decide) 69 (by decide) ?_
    refine x_aload_n C d_Mo_count_69 1 rfl rfl ?_
    refine x_callVi C (c_Mo_metInAll Z (g) _ rfl hk0) mi_Mo_metInAll k_993 (show 0 < 12 by omega) (m_0 Z _) rfl (As := []) ⟨Nat.le_of_ble_eq_true rfl, Nat.le_of_ble_eq_true rfl⟩ rfl rfl (Nat.le_of_ble_eq_true rfl) d_Mo_count_70 ?_
    exact x_iretK C (by simp [*]) (kfinM (G' := g) (by first | with_reducible rfl | (simp [*, -hd]; done) | (simp [*]; done) | (simp_all; done)) (va_id g 2).symm) d_Mo_count_73
  by_cases c_5 : w = 4
  · refine x_tabAt C d_Mo_count_3 c_5 (by decide) (by decide) (off := 71) (by decide) 74 (by decide) ?_
    refine x_aload_n C d_Mo_count_74 1 rfl rfl ?_
    refine x_callVi C (c_Mo_subscribers Z (g) _ rfl hk0) mi_Mo_subscribers k_1001 (show 0 < 12 by omega) (m_0 Z _) rfl (As := []) ⟨Nat.le_of_ble_eq_true rfl, Nat.le_of_ble_eq_true rfl⟩ rfl rfl (Nat.le_of_ble_eq_true rfl) d_Mo_count_75 ?_
    obtain ⟨x, hx, ex⟩ := sea_lt (r := g 0) hn8
    have hx2 : x < 256 := Nat.lt_of_lt_of_le hx (pow_8 hn8)
    refine x_topi (x' := nI x) (by rw [sz_of hn hn8]; exact ex) ?_
    refine x_callSi C (c_Mo_bits Z x (by omega) (g)) mi_Mo_bits k_1088 (As := [.int (nI x)]) ⟨Nat.le_of_ble_eq_true rfl, Nat.le_of_ble_eq_true rfl⟩ rfl rfl (Nat.le_of_ble_eq_true rfl) d_Mo_count_78 ?_
    refine x_topi (x' := bc (seaN (g 0) (sz (g 0)))) (by rw [sz_of hn hn8, ex, bN_bc x hx2]) ?_
    exact x_iretK C (by simp [*]) (kfinM (G' := g) (by first | with_reducible rfl | (simp [*, -hd]; done) | (simp [*]; done) | (simp_all; done)) (va_id g 2).symm) d_Mo_count_81
  by_cases c_6 : w = 5
  · refine x_tabAt C d_Mo_count_3 c_6 (by decide) (by decide) (off := 79) (by decide) 82 (by decide) ?_
    refine x_aload_n C d_Mo_count_82 1 rfl rfl ?_
    refine gf_Mo_taped C (v := g 3 6) rfl k_797 d_Mo_count_83 ?_
    exact x_iretK C (by simp [*]) (kfinM (G' := g) (by first | with_reducible rfl | (simp [*, -hd]; done) | (simp [*]; done) | (simp_all; done)) (va_id g 2).symm) d_Mo_count_86
  by_cases c_7 : w = 6
  · refine x_tabAt C d_Mo_count_3 c_7 (by decide) (by decide) (off := 84) (by decide) 87 (by decide) ?_
    refine x_aload_n C d_Mo_count_87 1 rfl rfl ?_
    refine gf_Mo_now C k_791 d_Mo_count_88 ?_
    refine x_iconst C d_Mo_count_91 (v := 2) (by decide) ?_
    refine al_m_now C 2 (v := g 0 2) (by decide) (by first | omega | (simp only [pI]; omega)) rfl d_Mo_count_92 ?_
    exact x_iretK C (by simp [*]) (kfinM (G' := g) (by first | with_reducible rfl | (simp [*, -hd]; done) | (simp [*]; done) | (simp_all; done)) (va_id g 2).symm) d_Mo_count_93
  by_cases c_8 : w = 7
  · refine x_tabAt C d_Mo_count_3 c_8 (by decide) (by decide) (off := 91) (by decide) 94 (by decide) ?_
    refine x_iconst C d_Mo_count_94 (v := 0) (by decide) ?_
    refine x_topi (show (0 : Int32) = nI 0 by decide) ?_
    refine x_istore_n C d_Mo_count_95 rfl (by decide) (lv' := [(3, .int (nI 0)), (2, .int (0)), (0, .ref (Z.2.1 (0))), (1, .int (w))]) rfl ?_
    have LP_96 : ∀ (f_ i : Nat), i ≤ 10 → 10 - i < f_ → WX X 4 yM Z (QX X yM Z (QkI yM Z (if w = 0 then g 0 0 else if w = 1 then g 0 1 else if w = 2 then g 0 3 else if w = 3 then sumN (g 0) (sz (g 0)) else if w = 4 then bc (seaN (g 0) (sz (g 0))) else if w = 5 then g 3 6 else if w = 6 then g 0 2 else if w = 7 then spoN (g 0) 10 else (-1000001)) (fun u => ∃ ρ : Nat → Int32, u = va_up (if w = 0 then g else if w = 1 then g else if w = 2 then g else if w = 3 then g else if w = 4 then g else if w = 5 then g else if w = 6 then g else if w = 7 then g else va_up g 4 (mfnR (g 4) 0)) 2 ρ))) (g) 96 [(3, .int (nI i)), (2, .int (spoN (g 0) (i))), (0, .ref (Z.2.1 (0)))] [] := by
      intro f_
      induction f_ with
      | zero => intro i h1_ h2_; exact absurd h2_ (Nat.not_lt_zero _)
      | succ f_ ih_96 =>
        intro i hi_96 hf_96
        refine x_iload_n C d_Mo_count_96 0 rfl rfl ?_
        refine x_bipush C d_Mo_count_97 (v := 10) (by decide) ?_
        refine x_icmp_ge C d_Mo_count_99 128 (by decide) (fun c_9 => ?_) (fun c_9 => ?_)
        · have nc_9 := Int32.not_lt.mpr c_9
          have mc_9 : 10 ≤ i := (nI_leI (by omega) (by omega)).mp (show nI 10 ≤ nI i from c_9)
          have e_i : 10 = i := by omega
          subst e_i
          refine x_iload_n C d_Mo_count_128 1 rfl rfl ?_
          exact x_iretK C (by simp [*]) (kfinM (G' := g) (by first | with_reducible rfl | (simp [*, -hd]; done) | (simp [*]; done) | (simp_all; done)) (va_id g 2).symm) d_Mo_count_129
        · have nc_9 := Int32.not_le.mp c_9
          have mc_9 : ¬ 10 ≤ i := fun z_ => (show ¬ nI 10 ≤ nI i from c_9) ((nI_leI (by omega) (by omega)).mpr z_)
          refine x_iload_n C d_Mo_count_102 1 rfl rfl ?_
          refine x_aload_n C d_Mo_count_103 2 rfl rfl ?_
          refine gf_Mo_now C k_791 d_Mo_count_104 ?_
          refine x_bipush C d_Mo_count_107 (v := 10) (by decide) ?_
          refine x_iload_n C d_Mo_count_109 0 rfl rfl ?_
          refine x_iadd C d_Mo_count_110 ?_
          refine x_topi (x' := nI (10 + i)) (nI_add 10 _) ?_
          refine al_m_now C (10 + i) (v := g 0 (10 + i)) rfl (by first | omega | (simp only [pI]; omega)) rfl d_Mo_count_111 ?_
          refine x_ifge C d_Mo_count_112 119 (by decide) (fun c_10 => ?_) (fun c_10 => ?_)
          · have nc_10 := Int32.not_lt.mpr c_10
            refine x_iconst C d_Mo_count_119 (v := 1) (by decide) ?_
            refine x_iadd C d_Mo_count_120 ?_
            refine x_istore_n C d_Mo_count_121 rfl (by decide) (lv' := [(2, .int ((spoN (g 0) (i)) + 1)), (3, .int (nI i)), (0, .ref (Z.2.1 (0)))]) rfl ?_
            refine x_iinc C d_Mo_count_122 1 rfl (v := nI (i + 1)) (nI_1 _) (by decide) (lv' := [(3, .int (nI (i + 1))), (2, .int ((spoN (g 0) (i)) + 1)), (0, .ref (Z.2.1 (0)))]) rfl ?_
            refine x_goto C d_Mo_count_125 96 (by decide) ?_
            refine x_lve (lv' := [(3, .int (nI (i + 1))), (2, .int (spoN (g 0) (i + 1))), (0, .ref (Z.2.1 (0)))]) (by first | with_reducible rfl | simp [spoN, *]) ?_
            exact ih_96 (i + 1) (by omega) (by omega)
          · have nc_10 := Int32.not_le.mp c_10
            refine x_iconst C d_Mo_count_115 (v := 0) (by decide) ?_
            refine x_goto C d_Mo_count_116 120 (by decide) ?_
            refine x_iadd C d_Mo_count_120 ?_
            refine x_istore_n C d_Mo_count_121 rfl (by decide) (lv' := [(2, .int ((spoN (g 0) (i)) + 0)), (3, .int (nI i)), (0, .ref (Z.2.1 (0)))]) rfl ?_
            refine x_iinc C d_Mo_count_122 1 rfl (v := nI (i + 1)) (nI_1 _) (by decide) (lv' := [(3, .int (nI (i + 1))), (2, .int ((spoN (g 0) (i)) + 0)), (0, .ref (Z.2.1 (0)))]) rfl ?_
            refine x_goto C d_Mo_count_125 96 (by decide) ?_
            refine x_lve (lv' := [(3, .int (nI (i + 1))), (2, .int (spoN (g 0) (i + 1))), (0, .ref (Z.2.1 (0)))]) (by first | with_reducible rfl | simp [spoN, *]) ?_
            exact ih_96 (i + 1) (by omega) (by omega)
    refine x_lv [0, 1, 2] (lv' := [(3, .int (nI 0)), (2, .int (0)), (0, .ref (Z.2.1 (0)))]) rfl ?_
    refine x_lve (lv' := [(3, .int (nI 0)), (2, .int (spoN (g 0) (0))), (0, .ref (Z.2.1 (0)))]) rfl ?_
    exact LP_96 (10 + 1) 0 (Nat.zero_le _) (by omega)
  · have ic_1 := i32_ne c_1 (z := 0) (by decide)
    have ic_2 := i32_ne c_2 (z := 1) (by decide)
    have ic_3 := i32_ne c_3 (z := 2) (by decide)
    have ic_4 := i32_ne c_4 (z := 3) (by decide)
    have ic_5 := i32_ne c_5 (z := 4) (by decide)
    have ic_6 := i32_ne c_6 (z := 5) (by decide)
    have ic_7 := i32_ne c_7 (z := 6) (by decide)
    have ic_8 := i32_ne c_8 (z := 7) (by decide)
    refine x_tabOut C d_Mo_count_3 (by omega) 130 (by decide) ?_
    refine x_aload_n C d_Mo_count_130 1 rfl rfl ?_
    refine x_ldc C d_Mo_count_131 k_866 ?_
    refine x_callVi C (c_Mo_finding_0 Z (g) _ rfl) mi_Mo_finding k_867 (show 0 < 12 by omega) (m_0 Z _) rfl (As := [.int ((-1000001))]) ⟨Nat.le_of_ble_eq_true rfl, Nat.le_of_ble_eq_true rfl⟩ rfl rfl (Nat.le_of_ble_eq_true rfl) d_Mo_count_133 ?_
    exact x_iretK C (by simp [*]) (kfinM (G' := va_up g 4 (mfnR (g 4) 0)) (by first | with_reducible rfl | (simp [*, -hd]; done) | (simp [*]; done) | (simp_all; done)) (va_idn (by omega)).symm) d_Mo_count_136

def by8M (b : Int32) (k : Nat) : Int32 := (b >>> ((8 * nI k) &&& 31)) &&& 255
def appM (b : Int32) (L m : Nat) (r : Nat → Int32) : Nat → Nat → Int32
  | 0 => r
  | j + 1 => upd (appM b L m r j) (L + j) (by8M b (m - 1 - j))
theorem tp_le {L m : Nat} (hL : L ≤ 120) (hm : m ≤ 4) (h : ¬ 120 < nI L + nI m) : L + m ≤ 120 := by
  rw [nI_add] at h
  exact Nat.not_lt.mp (fun z => h (nI_lt (a := 120) z (by omega)))

set_option maxRecDepth 100000 in
set_option maxHeartbeats 600000 in
theorem c_Mo_feed (Z : ZT) (b m : Int32) (g : St)  (hk : okR (g 0)) (hT : ∃ L, L ≤ 120 ∧ g 3 6 = nI L) : CT yM Z y_Mo_feed b_Mo_feed 4 (some (.int)) 1 22 [.ref (Z.2.1 (0)), .int (b), .int (m)] (g) (QkI yM Z (if ¬ (1 ≤ m ∧ m ≤ 4) then (-1000001) else if 120 < g 3 6 + m then (-1000002) else g 3 6 + m) (fun u => ∃ ρ : Nat → Int32, u = va_up (if ¬ (1 ≤ m ∧ m ≤ 4) then va_up g 4 (mfnR (g 4) 0) else if 120 < g 3 6 + m then va_up g 4 (mfnR (g 4) 1) else va_up (va_up g 5 (appM b (g 3 6).toNatClampNeg m.toNatClampNeg (g 5) m.toNatClampNeg)) 3 (upd (g 3) 6 (g 3 6 + m))) 2 ρ)) := by
  refine CT.mk "TunnelPeaceModel" (by decide) rfl (Nat.le_of_ble_eq_true rfl) (fun X C => ?_)
  refine x_lv [0, 1, 2] (lv' := [(0, .ref (Z.2.1 (0))), (1, .int (b)), (2, .int (m))]) rfl ?_
  have hk0 := hk
  obtain ⟨⟨n, hn8, hn⟩, dd, hdd, hd⟩ := hk
  obtain ⟨L, hL2, hL⟩ := hT
  refine x_iload_n C d_Mo_feed_0 2 rfl rfl ?_
  refine x_iconst C d_Mo_feed_1 (v := 1) (by decide) ?_
  refine x_iconst C d_Mo_feed_2 (v := 4) (by decide) ?_
  refine x_callSi C (c_Mo_within Z m 1 4 (g)) mi_Mo_within k_859 (As := [.int (m), .int (1), .int (4)]) ⟨Nat.le_of_ble_eq_true rfl, Nat.le_of_ble_eq_true rfl⟩ rfl rfl (Nat.le_of_ble_eq_true rfl) d_Mo_feed_3 ?_
  refine x_ifneB C d_Mo_feed_6 16 (by decide) (fun c_1 => ?_) (fun c_1 => ?_)
  · obtain ⟨mq, hmq, rfl⟩ := in_1le (n := 4) c_1 (by decide)
    have hcm : (nI mq).toNatClampNeg = mq := nI_clamp (by omega)
    refine x_aload_n C d_Mo_feed_16 0 rfl rfl ?_
    refine gf_Mo_taped C (v := nI L) hL k_797 d_Mo_feed_17 ?_
    refine x_iload_n C d_Mo_feed_20 2 rfl rfl ?_
    refine x_iadd C d_Mo_feed_21 ?_
    refine x_bipush C d_Mo_feed_22 (v := 120) (by decide) ?_
    refine x_icmp_le C d_Mo_feed_24 34 (by decide) (fun c_2 => ?_) (fun c_2 => ?_)
    · have nc_2 := Int32.not_lt.mpr c_2
      have hLm : L + mq ≤ 120 := tp_le hL2 (by omega) (by assumption)
      rcases (show mq = 1 ∨ mq = 2 ∨ mq = 3 ∨ mq = 4 by omega) with rfl | rfl | rfl | rfl
      · skip
        refine x_iload_n C d_Mo_feed_34 2 rfl rfl ?_
        refine x_iconst C d_Mo_feed_35 (v := 1) (by decide) ?_
        refine x_isub C d_Mo_feed_36 ?_
        refine x_topi (x' := 0) (by decide) ?_
        refine x_topi (show (0 : Int32) = nI 0 by decide) ?_
        refine x_istore_n C d_Mo_feed_37 rfl (by decide) (lv' := [(3, .int (nI 0)), (0, .ref (Z.2.1 (0))), (1, .int (b)), (2, .int (nI 1))]) rfl ?_
        refine x_iload_n C d_Mo_feed_38 0 rfl rfl ?_
        refine x_iflt C d_Mo_feed_39 77 (by decide) (fun c_3 => ?_) (fun c_3 => ?_)
        · exact absurd c_3 (by decide)
        · have nc_3 := Int32.not_lt.mp c_3
          refine x_aload_n C d_Mo_feed_42 1 rfl rfl ?_
          refine gf_Mo_tape C k_796 d_Mo_feed_43 ?_
          refine x_aload_n C d_Mo_feed_46 1 rfl rfl ?_
          refine gf_Mo_taped C (v := nI L) hL k_797 d_Mo_feed_47 ?_
          refine x_iload_n C d_Mo_feed_50 2 rfl rfl ?_
          refine x_bipush C d_Mo_feed_51 (v := 8) (by decide) ?_
          refine x_iload_n C d_Mo_feed_53 0 rfl rfl ?_
          refine x_imul C d_Mo_feed_54 ?_
          refine x_topi (x' := 8 * nI 0) rfl ?_
          refine x_ishr C d_Mo_feed_55 ?_
          refine x_sipush C d_Mo_feed_56 (v := 255) (by decide) ?_
          refine x_iand C d_Mo_feed_59 ?_
          refine as_m_tape C L (v := (b >>> ((8 * nI 0) &&& 31)) &&& 255) rfl (by first | omega | (simp only [pI]; omega)) (G := va_up g 5 (upd (g 5) L ((b >>> ((8 * nI 0) &&& 31)) &&& 255))) rfl d_Mo_feed_60 ?_
          refine x_aload_n C d_Mo_feed_61 1 rfl rfl ?_
          refine x_dup C d_Mo_feed_62 rfl ?_
          refine gf_Mo_taped C (v := nI L) (Eq.trans (congrFun (va_up_ne _ _ (by omega)) _) hL) k_797 d_Mo_feed_63 ?_
          refine x_iconst C d_Mo_feed_66 (v := 1) (by decide) ?_
          refine x_iadd C d_Mo_feed_67 ?_
          refine x_topi (x' := nI (L + 1)) (nI_1 _) ?_
          refine pf_Mo_taped C (v := nI (L + 1)) (G := va_up (va_up g 5 (upd (g 5) L ((b >>> ((8 * nI 0) &&& 31)) &&& 255))) 3 (upd (g 3) 6 (nI (L + 1)))) (congrArg (fun z => va_up _ _ (upd z _ _)) (va_up_ne _ _ (by omega))) k_797 d_Mo_feed_68 ?_
          refine x_iinc C d_Mo_feed_71 0 rfl (v := (-1)) (by decide) (by decide) (lv' := [(3, .int ((-1))), (0, .ref (Z.2.1 (0))), (1, .int (b)), (2, .int (nI 1))]) rfl ?_
          refine x_goto C d_Mo_feed_74 38 (by decide) ?_
          refine x_iload_n C d_Mo_feed_38 0 rfl rfl ?_
          refine x_iflt C d_Mo_feed_39 77 (by decide) (fun c_4 => ?_) (fun c_4 => ?_)
          · have nc_4 := Int32.not_le.mpr c_4
            refine x_aload_n C d_Mo_feed_77 1 rfl rfl ?_
            refine gf_Mo_taped C (v := nI (L + 1)) (Eq.trans (congrFun (va_up_self _ _ _) _) pk_us) k_797 d_Mo_feed_78 ?_
            exact x_iretK C (by (try simp only [hcm]); rw [if_neg (not_not_intro (by assumption)), if_neg (by rw [hL]; assumption)]; rw [hL, nI_add]) (kfinM (G' := va_up (va_up g 5 (appM b L 1 (g 5) 1)) 3 (upd (g 3) 6 (nI (L + 1)))) (by (try simp only [hcm]); rw [if_neg (not_not_intro (by assumption)), if_neg (by rw [hL]; assumption)]; rw [hL, nI_add, nI_clamp (by omega)]) (by simp only [appM, by8M, upd_upd]; exact (va_idnn (by decide) (by decide)).symm)) d_Mo_feed_81
          · exact absurd c_4 (by decide)
      · skip
        refine x_iload_n C d_Mo_feed_34 2 rfl rfl ?_
        refine x_iconst C d_Mo_feed_35 (v := 1) (by decide) ?_
        refine x_isub C d_Mo_feed_36 ?_
        refine x_topi (x' := 1) (by decide) ?_
        refine x_topi (show (1 : Int32) = nI 1 by decide) ?_
        refine x_istore_n C d_Mo_feed_37 rfl (by decide) (lv' := [(3, .int (nI 1)), (0, .ref (Z.2.1 (0))), (1, .int (b)), (2, .int (nI 2))]) rfl ?_
        refine x_iload_n C d_Mo_feed_38 0 rfl rfl ?_
        refine x_iflt C d_Mo_feed_39 77 (by decide) (fun c_5 => ?_) (fun c_5 => ?_)
        · exact absurd c_5 (by decide)
        · have nc_5 := Int32.not_lt.mp c_5
          refine x_aload_n C d_Mo_feed_42 1 rfl rfl ?_
          refine gf_Mo_tape C k_796 d_Mo_feed_43 ?_
          refine x_aload_n C d_Mo_feed_46 1 rfl rfl ?_
          refine gf_Mo_taped C (v := nI L) hL k_797 d_Mo_feed_47 ?_
          refine x_iload_n C d_Mo_feed_50 2 rfl rfl ?_
          refine x_bipush C d_Mo_feed_51 (v := 8) (by decide) ?_
          refine x_iload_n C d_Mo_feed_53 0 rfl rfl ?_
          refine x_imul C d_Mo_feed_54 ?_
          refine x_topi (x' := 8 * nI 1) rfl ?_
          refine x_ishr C d_Mo_feed_55 ?_
          refine x_sipush C d_Mo_feed_56 (v := 255) (by decide) ?_
          refine x_iand C d_Mo_feed_59 ?_
          refine as_m_tape C L (v := (b >>> ((8 * nI 1) &&& 31)) &&& 255) rfl (by first | omega | (simp only [pI]; omega)) (G := va_up g 5 (upd (g 5) L ((b >>> ((8 * nI 1) &&& 31)) &&& 255))) rfl d_Mo_feed_60 ?_
          refine x_aload_n C d_Mo_feed_61 1 rfl rfl ?_
          refine x_dup C d_Mo_feed_62 rfl ?_
          refine gf_Mo_taped C (v := nI L) (Eq.trans (congrFun (va_up_ne _ _ (by omega)) _) hL) k_797 d_Mo_feed_63 ?_
          refine x_iconst C d_Mo_feed_66 (v := 1) (by decide) ?_
          refine x_iadd C d_Mo_feed_67 ?_
          refine x_topi (x' := nI (L + 1)) (nI_1 _) ?_
          refine pf_Mo_taped C (v := nI (L + 1)) (G := va_up (va_up g 5 (upd (g 5) L ((b >>> ((8 * nI 1) &&& 31)) &&& 255))) 3 (upd (g 3) 6 (nI (L + 1)))) (congrArg (fun z => va_up _ _ (upd z _ _)) (va_up_ne _ _ (by omega))) k_797 d_Mo_feed_68 ?_
          refine x_iinc C d_Mo_feed_71 0 rfl (v := nI 0) (by decide) (by decide) (lv' := [(3, .int (nI 0)), (0, .ref (Z.2.1 (0))), (1, .int (b)), (2, .int (nI 2))]) rfl ?_
          refine x_goto C d_Mo_feed_74 38 (by decide) ?_
          refine x_iload_n C d_Mo_feed_38 0 rfl rfl ?_
          refine x_iflt C d_Mo_feed_39 77 (by decide) (fun c_6 => ?_) (fun c_6 => ?_)
          · exact absurd c_6 (by decide)
          · have nc_6 := Int32.not_lt.mp c_6
            refine x_aload_n C d_Mo_feed_42 1 rfl rfl ?_
            refine gf_Mo_tape C k_796 d_Mo_feed_43 ?_
            refine x_aload_n C d_Mo_feed_46 1 rfl rfl ?_
            refine gf_Mo_taped C (v := nI (L + 1)) (Eq.trans (congrFun (va_up_self _ _ _) _) pk_us) k_797 d_Mo_feed_47 ?_
            refine x_iload_n C d_Mo_feed_50 2 rfl rfl ?_
            refine x_bipush C d_Mo_feed_51 (v := 8) (by decide) ?_
            refine x_iload_n C d_Mo_feed_53 0 rfl rfl ?_
            refine x_imul C d_Mo_feed_54 ?_
            refine x_topi (x' := 8 * nI 0) rfl ?_
            refine x_ishr C d_Mo_feed_55 ?_
            refine x_sipush C d_Mo_feed_56 (v := 255) (by decide) ?_
            refine x_iand C d_Mo_feed_59 ?_
            refine as_m_tape C (L + 1) (v := (b >>> ((8 * nI 0) &&& 31)) &&& 255) rfl (by first | omega | (simp only [pI]; omega)) (G := va_up (va_up g 3 (upd (g 3) 6 (nI (L + 1)))) 5 (upd (upd (g 5) L ((b >>> ((8 * nI 1) &&& 31)) &&& 255)) (L + 1) ((b >>> ((8 * nI 0) &&& 31)) &&& 255))) (up_vb (by omega)) d_Mo_feed_60 ?_
            refine x_aload_n C d_Mo_feed_61 1 rfl rfl ?_
            refine x_dup C d_Mo_feed_62 rfl ?_
            refine gf_Mo_taped C (v := nI (L + 1)) (Eq.trans (congrFun (Eq.trans (va_up_ne _ _ (by omega)) (va_up_self _ _ _)) _) pk_us) k_797 d_Mo_feed_63 ?_
            refine x_iconst C d_Mo_feed_66 (v := 1) (by decide) ?_
            refine x_iadd C d_Mo_feed_67 ?_
            refine x_topi (x' := nI (L + 2)) (nI_1 _) ?_
            refine pf_Mo_taped C (v := nI (L + 2)) (G := va_up (va_up g 5 (upd (upd (g 5) L ((b >>> ((8 * nI 1) &&& 31)) &&& 255)) (L + 1) ((b >>> ((8 * nI 0) &&& 31)) &&& 255))) 3 (upd (upd (g 3) 6 (nI (L + 1))) 6 (nI (L + 2)))) (up_vb (by omega)) k_797 d_Mo_feed_68 ?_
            refine x_iinc C d_Mo_feed_71 0 rfl (v := (-1)) (by decide) (by decide) (lv' := [(3, .int ((-1))), (0, .ref (Z.2.1 (0))), (1, .int (b)), (2, .int (nI 2))]) rfl ?_
            refine x_goto C d_Mo_feed_74 38 (by decide) ?_
            refine x_iload_n C d_Mo_feed_38 0 rfl rfl ?_
            refine x_iflt C d_Mo_feed_39 77 (by decide) (fun c_7 => ?_) (fun c_7 => ?_)
            · have nc_7 := Int32.not_le.mpr c_7
              refine x_aload_n C d_Mo_feed_77 1 rfl rfl ?_
              refine gf_Mo_taped C (v := nI (L + 2)) (Eq.trans (congrFun (va_up_self _ _ _) _) pk_us) k_797 d_Mo_feed_78 ?_
              exact x_iretK C (by (try simp only [hcm]); rw [if_neg (not_not_intro (by assumption)), if_neg (by rw [hL]; assumption)]; rw [hL, nI_add]) (kfinM (G' := va_up (va_up g 5 (appM b L 2 (g 5) 2)) 3 (upd (g 3) 6 (nI (L + 2)))) (by (try simp only [hcm]); rw [if_neg (not_not_intro (by assumption)), if_neg (by rw [hL]; assumption)]; rw [hL, nI_add, nI_clamp (by omega)]) (by simp only [appM, by8M, upd_upd]; exact (va_idnn (by decide) (by decide)).symm)) d_Mo_feed_81
            · exact absurd c_7 (by decide)
      · skip
        refine x_iload_n C d_Mo_feed_34 2 rfl rfl ?_
        refine x_iconst C d_Mo_feed_35 (v := 1) (by decide) ?_
        refine x_isub C d_Mo_feed_36 ?_
        refine x_topi (x' := 2) (by decide) ?_
        refine x_topi (show (2 : Int32) = nI 2 by decide) ?_
        refine x_istore_n C d_Mo_feed_37 rfl (by decide) (lv' := [(3, .int (nI 2)), (0, .ref (Z.2.1 (0))), (1, .int (b)), (2, .int (nI 3))]) rfl ?_
        refine x_iload_n C d_Mo_feed_38 0 rfl rfl ?_
        refine x_iflt C d_Mo_feed_39 77 (by decide) (fun c_8 => ?_) (fun c_8 => ?_)
        · exact absurd c_8 (by decide)
        · have nc_8 := Int32.not_lt.mp c_8
          refine x_aload_n C d_Mo_feed_42 1 rfl rfl ?_
          refine gf_Mo_tape C k_796 d_Mo_feed_43 ?_
          refine x_aload_n C d_Mo_feed_46 1 rfl rfl ?_
          refine gf_Mo_taped C (v := nI L) hL k_797 d_Mo_feed_47 ?_
          refine x_iload_n C d_Mo_feed_50 2 rfl rfl ?_
          refine x_bipush C d_Mo_feed_51 (v := 8) (by decide) ?_
          refine x_iload_n C d_Mo_feed_53 0 rfl rfl ?_
          refine x_imul C d_Mo_feed_54 ?_
          refine x_topi (x' := 8 * nI 2) rfl ?_
          refine x_ishr C d_Mo_feed_55 ?_
          refine x_sipush C d_Mo_feed_56 (v := 255) (by decide) ?_
          refine x_iand C d_Mo_feed_59 ?_
          refine as_m_tape C L (v := (b >>> ((8 * nI 2) &&& 31)) &&& 255) rfl (by first | omega | (simp only [pI]; omega)) (G := va_up g 5 (upd (g 5) L ((b >>> ((8 * nI 2) &&& 31)) &&& 255))) rfl d_Mo_feed_60 ?_
          refine x_aload_n C d_Mo_feed_61 1 rfl rfl ?_
          refine x_dup C d_Mo_feed_62 rfl ?_
          refine gf_Mo_taped C (v := nI L) (Eq.trans (congrFun (va_up_ne _ _ (by omega)) _) hL) k_797 d_Mo_feed_63 ?_
          refine x_iconst C d_Mo_feed_66 (v := 1) (by decide) ?_
          refine x_iadd C d_Mo_feed_67 ?_
          refine x_topi (x' := nI (L + 1)) (nI_1 _) ?_
          refine pf_Mo_taped C (v := nI (L + 1)) (G := va_up (va_up g 5 (upd (g 5) L ((b >>> ((8 * nI 2) &&& 31)) &&& 255))) 3 (upd (g 3) 6 (nI (L + 1)))) (congrArg (fun z => va_up _ _ (upd z _ _)) (va_up_ne _ _ (by omega))) k_797 d_Mo_feed_68 ?_
          refine x_iinc C d_Mo_feed_71 0 rfl (v := nI 1) (by decide) (by decide) (lv' := [(3, .int (nI 1)), (0, .ref (Z.2.1 (0))), (1, .int (b)), (2, .int (nI 3))]) rfl ?_
          refine x_goto C d_Mo_feed_74 38 (by decide) ?_
          refine x_iload_n C d_Mo_feed_38 0 rfl rfl ?_
          refine x_iflt C d_Mo_feed_39 77 (by decide) (fun c_9 => ?_) (fun c_9 => ?_)
          · exact absurd c_9 (by decide)
          · have nc_9 := Int32.not_lt.mp c_9
            refine x_aload_n C d_Mo_feed_42 1 rfl rfl ?_
            refine gf_Mo_tape C k_796 d_Mo_feed_43 ?_
            refine x_aload_n C d_Mo_feed_46 1 rfl rfl ?_
            refine gf_Mo_taped C (v := nI (L + 1)) (Eq.trans (congrFun (va_up_self _ _ _) _) pk_us) k_797 d_Mo_feed_47 ?_
            refine x_iload_n C d_Mo_feed_50 2 rfl rfl ?_
            refine x_bipush C d_Mo_feed_51 (v := 8) (by decide) ?_
            refine x_iload_n C d_Mo_feed_53 0 rfl rfl ?_
            refine x_imul C d_Mo_feed_54 ?_
            refine x_topi (x' := 8 * nI 1) rfl ?_
            refine x_ishr C d_Mo_feed_55 ?_
            refine x_sipush C d_Mo_feed_56 (v := 255) (by decide) ?_
            refine x_iand C d_Mo_feed_59 ?_
            refine as_m_tape C (L + 1) (v := (b >>> ((8 * nI 1) &&& 31)) &&& 255) rfl (by first | omega | (simp only [pI]; omega)) (G := va_up (va_up g 3 (upd (g 3) 6 (nI (L + 1)))) 5 (upd (upd (g 5) L ((b >>> ((8 * nI 2) &&& 31)) &&& 255)) (L + 1) ((b >>> ((8 * nI 1) &&& 31)) &&& 255))) (up_vb (by omega)) d_Mo_feed_60 ?_
            refine x_aload_n C d_Mo_feed_61 1 rfl rfl ?_
            refine x_dup C d_Mo_feed_62 rfl ?_
            refine gf_Mo_taped C (v := nI (L + 1)) (Eq.trans (congrFun (Eq.trans (va_up_ne _ _ (by omega)) (va_up_self _ _ _)) _) pk_us) k_797 d_Mo_feed_63 ?_
            refine x_iconst C d_Mo_feed_66 (v := 1) (by decide) ?_
            refine x_iadd C d_Mo_feed_67 ?_
            refine x_topi (x' := nI (L + 2)) (nI_1 _) ?_
            refine pf_Mo_taped C (v := nI (L + 2)) (G := va_up (va_up g 5 (upd (upd (g 5) L ((b >>> ((8 * nI 2) &&& 31)) &&& 255)) (L + 1) ((b >>> ((8 * nI 1) &&& 31)) &&& 255))) 3 (upd (upd (g 3) 6 (nI (L + 1))) 6 (nI (L + 2)))) (up_vb (by omega)) k_797 d_Mo_feed_68 ?_
            refine x_iinc C d_Mo_feed_71 0 rfl (v := nI 0) (by decide) (by decide) (lv' := [(3, .int (nI 0)), (0, .ref (Z.2.1 (0))), (1, .int (b)), (2, .int (nI 3))]) rfl ?_
            refine x_goto C d_Mo_feed_74 38 (by decide) ?_
            refine x_iload_n C d_Mo_feed_38 0 rfl rfl ?_
            refine x_iflt C d_Mo_feed_39 77 (by decide) (fun c_10 => ?_) (fun c_10 => ?_)
            · exact absurd c_10 (by decide)
            · have nc_10 := Int32.not_lt.mp c_10
              refine x_aload_n C d_Mo_feed_42 1 rfl rfl ?_
              refine gf_Mo_tape C k_796 d_Mo_feed_43 ?_
              refine x_aload_n C d_Mo_feed_46 1 rfl rfl ?_
              refine gf_Mo_taped C (v := nI (L + 2)) (Eq.trans (congrFun (va_up_self _ _ _) _) pk_us) k_797 d_Mo_feed_47 ?_
              refine x_iload_n C d_Mo_feed_50 2 rfl rfl ?_
              refine x_bipush C d_Mo_feed_51 (v := 8) (by decide) ?_
              refine x_iload_n C d_Mo_feed_53 0 rfl rfl ?_
              refine x_imul C d_Mo_feed_54 ?_
              refine x_topi (x' := 8 * nI 0) rfl ?_
              refine x_ishr C d_Mo_feed_55 ?_
              refine x_sipush C d_Mo_feed_56 (v := 255) (by decide) ?_
              refine x_iand C d_Mo_feed_59 ?_
              refine as_m_tape C (L + 2) (v := (b >>> ((8 * nI 0) &&& 31)) &&& 255) rfl (by first | omega | (simp only [pI]; omega)) (G := va_up (va_up g 3 (upd (upd (g 3) 6 (nI (L + 1))) 6 (nI (L + 2)))) 5 (upd (upd (upd (g 5) L ((b >>> ((8 * nI 2) &&& 31)) &&& 255)) (L + 1) ((b >>> ((8 * nI 1) &&& 31)) &&& 255)) (L + 2) ((b >>> ((8 * nI 0) &&& 31)) &&& 255))) (up_vb (by omega)) d_Mo_feed_60 ?_
              refine x_aload_n C d_Mo_feed_61 1 rfl rfl ?_
              refine x_dup C d_Mo_feed_62 rfl ?_
              refine gf_Mo_taped C (v := nI (L + 2)) (Eq.trans (congrFun (Eq.trans (va_up_ne _ _ (by omega)) (va_up_self _ _ _)) _) pk_us) k_797 d_Mo_feed_63 ?_
              refine x_iconst C d_Mo_feed_66 (v := 1) (by decide) ?_
              refine x_iadd C d_Mo_feed_67 ?_
              refine x_topi (x' := nI (L + 3)) (nI_1 _) ?_
              refine pf_Mo_taped C (v := nI (L + 3)) (G := va_up (va_up g 5 (upd (upd (upd (g 5) L ((b >>> ((8 * nI 2) &&& 31)) &&& 255)) (L + 1) ((b >>> ((8 * nI 1) &&& 31)) &&& 255)) (L + 2) ((b >>> ((8 * nI 0) &&& 31)) &&& 255))) 3 (upd (upd (upd (g 3) 6 (nI (L + 1))) 6 (nI (L + 2))) 6 (nI (L + 3)))) (up_vb (by omega)) k_797 d_Mo_feed_68 ?_
              refine x_iinc C d_Mo_feed_71 0 rfl (v := (-1)) (by decide) (by decide) (lv' := [(3, .int ((-1))), (0, .ref (Z.2.1 (0))), (1, .int (b)), (2, .int (nI 3))]) rfl ?_
              refine x_goto C d_Mo_feed_74 38 (by decide) ?_
              refine x_iload_n C d_Mo_feed_38 0 rfl rfl ?_
              refine x_iflt C d_Mo_feed_39 77 (by decide) (fun c_11 => ?_) (fun c_11 => ?_)
              · have nc_11 := Int32.not_le.mpr c_11
                refine x_aload_n C d_Mo_feed_77 1 rfl rfl ?_
                refine gf_Mo_taped C (v := nI (L + 3)) (Eq.trans (congrFun (va_up_self _ _ _) _) pk_us) k_797 d_Mo_feed_78 ?_
                exact x_iretK C (by (try simp only [hcm]); rw [if_neg (not_not_intro (by assumption)), if_neg (by rw [hL]; assumption)]; rw [hL, nI_add]) (kfinM (G' := va_up (va_up g 5 (appM b L 3 (g 5) 3)) 3 (upd (g 3) 6 (nI (L + 3)))) (by (try simp only [hcm]); rw [if_neg (not_not_intro (by assumption)), if_neg (by rw [hL]; assumption)]; rw [hL, nI_add, nI_clamp (by omega)]) (by simp only [appM, by8M, upd_upd]; exact (va_idnn (by decide) (by decide)).symm)) d_Mo_feed_81
              · exact absurd c_11 (by decide)
      · skip
        refine x_iload_n C d_Mo_feed_34 2 rfl rfl ?_
        refine x_iconst C d_Mo_feed_35 (v := 1) (by decide) ?_
        refine x_isub C d_Mo_feed_36 ?_
        refine x_topi (x' := 3) (by decide) ?_
        refine x_topi (show (3 : Int32) = nI 3 by decide) ?_
        refine x_istore_n C d_Mo_feed_37 rfl (by decide) (lv' := [(3, .int (nI 3)), (0, .ref (Z.2.1 (0))), (1, .int (b)), (2, .int (nI 4))]) rfl ?_
        refine x_iload_n C d_Mo_feed_38 0 rfl rfl ?_
        refine x_iflt C d_Mo_feed_39 77 (by decide) (fun c_12 => ?_) (fun c_12 => ?_)
        · exact absurd c_12 (by decide)
        · have nc_12 := Int32.not_lt.mp c_12
          refine x_aload_n C d_Mo_feed_42 1 rfl rfl ?_
          refine gf_Mo_tape C k_796 d_Mo_feed_43 ?_
          refine x_aload_n C d_Mo_feed_46 1 rfl rfl ?_
          refine gf_Mo_taped C (v := nI L) hL k_797 d_Mo_feed_47 ?_
          refine x_iload_n C d_Mo_feed_50 2 rfl rfl ?_
          refine x_bipush C d_Mo_feed_51 (v := 8) (by decide) ?_
          refine x_iload_n C d_Mo_feed_53 0 rfl rfl ?_
          refine x_imul C d_Mo_feed_54 ?_
          refine x_topi (x' := 8 * nI 3) rfl ?_
          refine x_ishr C d_Mo_feed_55 ?_
          refine x_sipush C d_Mo_feed_56 (v := 255) (by decide) ?_
          refine x_iand C d_Mo_feed_59 ?_
          refine as_m_tape C L (v := (b >>> ((8 * nI 3) &&& 31)) &&& 255) rfl (by first | omega | (simp only [pI]; omega)) (G := va_up g 5 (upd (g 5) L ((b >>> ((8 * nI 3) &&& 31)) &&& 255))) rfl d_Mo_feed_60 ?_
          refine x_aload_n C d_Mo_feed_61 1 rfl rfl ?_
          refine x_dup C d_Mo_feed_62 rfl ?_
          refine gf_Mo_taped C (v := nI L) (Eq.trans (congrFun (va_up_ne _ _ (by omega)) _) hL) k_797 d_Mo_feed_63 ?_
          refine x_iconst C d_Mo_feed_66 (v := 1) (by decide) ?_
          refine x_iadd C d_Mo_feed_67 ?_
          refine x_topi (x' := nI (L + 1)) (nI_1 _) ?_
          refine pf_Mo_taped C (v := nI (L + 1)) (G := va_up (va_up g 5 (upd (g 5) L ((b >>> ((8 * nI 3) &&& 31)) &&& 255))) 3 (upd (g 3) 6 (nI (L + 1)))) (congrArg (fun z => va_up _ _ (upd z _ _)) (va_up_ne _ _ (by omega))) k_797 d_Mo_feed_68 ?_
          refine x_iinc C d_Mo_feed_71 0 rfl (v := nI 2) (by decide) (by decide) (lv' := [(3, .int (nI 2)), (0, .ref (Z.2.1 (0))), (1, .int (b)), (2, .int (nI 4))]) rfl ?_
          refine x_goto C d_Mo_feed_74 38 (by decide) ?_
          refine x_iload_n C d_Mo_feed_38 0 rfl rfl ?_
          refine x_iflt C d_Mo_feed_39 77 (by decide) (fun c_13 => ?_) (fun c_13 => ?_)
          · exact absurd c_13 (by decide)
          · have nc_13 := Int32.not_lt.mp c_13
            refine x_aload_n C d_Mo_feed_42 1 rfl rfl ?_
            refine gf_Mo_tape C k_796 d_Mo_feed_43 ?_
            refine x_aload_n C d_Mo_feed_46 1 rfl rfl ?_
            refine gf_Mo_taped C (v := nI (L + 1)) (Eq.trans (congrFun (va_up_self _ _ _) _) pk_us) k_797 d_Mo_feed_47 ?_
            refine x_iload_n C d_Mo_feed_50 2 rfl rfl ?_
            refine x_bipush C d_Mo_feed_51 (v := 8) (by decide) ?_
            refine x_iload_n C d_Mo_feed_53 0 rfl rfl ?_
            refine x_imul C d_Mo_feed_54 ?_
            refine x_topi (x' := 8 * nI 2) rfl ?_
            refine x_ishr C d_Mo_feed_55 ?_
            refine x_sipush C d_Mo_feed_56 (v := 255) (by decide) ?_
            refine x_iand C d_Mo_feed_59 ?_
            refine as_m_tape C (L + 1) (v := (b >>> ((8 * nI 2) &&& 31)) &&& 255) rfl (by first | omega | (simp only [pI]; omega)) (G := va_up (va_up g 3 (upd (g 3) 6 (nI (L + 1)))) 5 (upd (upd (g 5) L ((b >>> ((8 * nI 3) &&& 31)) &&& 255)) (L + 1) ((b >>> ((8 * nI 2) &&& 31)) &&& 255))) (up_vb (by omega)) d_Mo_feed_60 ?_
            refine x_aload_n C d_Mo_feed_61 1 rfl rfl ?_
            refine x_dup C d_Mo_feed_62 rfl ?_
            refine gf_Mo_taped C (v := nI (L + 1)) (Eq.trans (congrFun (Eq.trans (va_up_ne _ _ (by omega)) (va_up_self _ _ _)) _) pk_us) k_797 d_Mo_feed_63 ?_
            refine x_iconst C d_Mo_feed_66 (v := 1) (by decide) ?_
            refine x_iadd C d_Mo_feed_67 ?_
            refine x_topi (x' := nI (L + 2)) (nI_1 _) ?_
            refine pf_Mo_taped C (v := nI (L + 2)) (G := va_up (va_up g 5 (upd (upd (g 5) L ((b >>> ((8 * nI 3) &&& 31)) &&& 255)) (L + 1) ((b >>> ((8 * nI 2) &&& 31)) &&& 255))) 3 (upd (upd (g 3) 6 (nI (L + 1))) 6 (nI (L + 2)))) (up_vb (by omega)) k_797 d_Mo_feed_68 ?_
            refine x_iinc C d_Mo_feed_71 0 rfl (v := nI 1) (by decide) (by decide) (lv' := [(3, .int (nI 1)), (0, .ref (Z.2.1 (0))), (1, .int (b)), (2, .int (nI 4))]) rfl ?_
            refine x_goto C d_Mo_feed_74 38 (by decide) ?_
            refine x_iload_n C d_Mo_feed_38 0 rfl rfl ?_
            refine x_iflt C d_Mo_feed_39 77 (by decide) (fun c_14 => ?_) (fun c_14 => ?_)
            · exact absurd c_14 (by decide)
            · have nc_14 := Int32.not_lt.mp c_14
              refine x_aload_n C d_Mo_feed_42 1 rfl rfl ?_
              refine gf_Mo_tape C k_796 d_Mo_feed_43 ?_
              refine x_aload_n C d_Mo_feed_46 1 rfl rfl ?_
              refine gf_Mo_taped C (v := nI (L + 2)) (Eq.trans (congrFun (va_up_self _ _ _) _) pk_us) k_797 d_Mo_feed_47 ?_
              refine x_iload_n C d_Mo_feed_50 2 rfl rfl ?_
              refine x_bipush C d_Mo_feed_51 (v := 8) (by decide) ?_
              refine x_iload_n C d_Mo_feed_53 0 rfl rfl ?_
              refine x_imul C d_Mo_feed_54 ?_
              refine x_topi (x' := 8 * nI 1) rfl ?_
              refine x_ishr C d_Mo_feed_55 ?_
              refine x_sipush C d_Mo_feed_56 (v := 255) (by decide) ?_
              refine x_iand C d_Mo_feed_59 ?_
              refine as_m_tape C (L + 2) (v := (b >>> ((8 * nI 1) &&& 31)) &&& 255) rfl (by first | omega | (simp only [pI]; omega)) (G := va_up (va_up g 3 (upd (upd (g 3) 6 (nI (L + 1))) 6 (nI (L + 2)))) 5 (upd (upd (upd (g 5) L ((b >>> ((8 * nI 3) &&& 31)) &&& 255)) (L + 1) ((b >>> ((8 * nI 2) &&& 31)) &&& 255)) (L + 2) ((b >>> ((8 * nI 1) &&& 31)) &&& 255))) (up_vb (by omega)) d_Mo_feed_60 ?_
              refine x_aload_n C d_Mo_feed_61 1 rfl rfl ?_
              refine x_dup C d_Mo_feed_62 rfl ?_
              refine gf_Mo_taped C (v := nI (L + 2)) (Eq.trans (congrFun (Eq.trans (va_up_ne _ _ (by omega)) (va_up_self _ _ _)) _) pk_us) k_797 d_Mo_feed_63 ?_
              refine x_iconst C d_Mo_feed_66 (v := 1) (by decide) ?_
              refine x_iadd C d_Mo_feed_67 ?_
              refine x_topi (x' := nI (L + 3)) (nI_1 _) ?_
              refine pf_Mo_taped C (v := nI (L + 3)) (G := va_up (va_up g 5 (upd (upd (upd (g 5) L ((b >>> ((8 * nI 3) &&& 31)) &&& 255)) (L + 1) ((b >>> ((8 * nI 2) &&& 31)) &&& 255)) (L + 2) ((b >>> ((8 * nI 1) &&& 31)) &&& 255))) 3 (upd (upd (upd (g 3) 6 (nI (L + 1))) 6 (nI (L + 2))) 6 (nI (L + 3)))) (up_vb (by omega)) k_797 d_Mo_feed_68 ?_
              refine x_iinc C d_Mo_feed_71 0 rfl (v := nI 0) (by decide) (by decide) (lv' := [(3, .int (nI 0)), (0, .ref (Z.2.1 (0))), (1, .int (b)), (2, .int (nI 4))]) rfl ?_
              refine x_goto C d_Mo_feed_74 38 (by decide) ?_
              refine x_iload_n C d_Mo_feed_38 0 rfl rfl ?_
              refine x_iflt C d_Mo_feed_39 77 (by decide) (fun c_15 => ?_) (fun c_15 => ?_)
              · exact absurd c_15 (by decide)
              · have nc_15 := Int32.not_lt.mp c_15
                refine x_aload_n C d_Mo_feed_42 1 rfl rfl ?_
                refine gf_Mo_tape C k_796 d_Mo_feed_43 ?_
                refine x_aload_n C d_Mo_feed_46 1 rfl rfl ?_
                refine gf_Mo_taped C (v := nI (L + 3)) (Eq.trans (congrFun (va_up_self _ _ _) _) pk_us) k_797 d_Mo_feed_47 ?_
                refine x_iload_n C d_Mo_feed_50 2 rfl rfl ?_
                refine x_bipush C d_Mo_feed_51 (v := 8) (by decide) ?_
                refine x_iload_n C d_Mo_feed_53 0 rfl rfl ?_
                refine x_imul C d_Mo_feed_54 ?_
                refine x_topi (x' := 8 * nI 0) rfl ?_
                refine x_ishr C d_Mo_feed_55 ?_
                refine x_sipush C d_Mo_feed_56 (v := 255) (by decide) ?_
                refine x_iand C d_Mo_feed_59 ?_
                refine as_m_tape C (L + 3) (v := (b >>> ((8 * nI 0) &&& 31)) &&& 255) rfl (by first | omega | (simp only [pI]; omega)) (G := va_up (va_up g 3 (upd (upd (upd (g 3) 6 (nI (L + 1))) 6 (nI (L + 2))) 6 (nI (L + 3)))) 5 (upd (upd (upd (upd (g 5) L ((b >>> ((8 * nI 3) &&& 31)) &&& 255)) (L + 1) ((b >>> ((8 * nI 2) &&& 31)) &&& 255)) (L + 2) ((b >>> ((8 * nI 1) &&& 31)) &&& 255)) (L + 3) ((b >>> ((8 * nI 0) &&& 31)) &&& 255))) (up_vb (by omega)) d_Mo_feed_60 ?_
                refine x_aload_n C d_Mo_feed_61 1 rfl rfl ?_
                refine x_dup C d_Mo_feed_62 rfl ?_
                refine gf_Mo_taped C (v := nI (L + 3)) (Eq.trans (congrFun (Eq.trans (va_up_ne _ _ (by omega)) (va_up_self _ _ _)) _) pk_us) k_797 d_Mo_feed_63 ?_
                refine x_iconst C d_Mo_feed_66 (v := 1) (by decide) ?_
                refine x_iadd C d_Mo_feed_67 ?_
                refine x_topi (x' := nI (L + 4)) (nI_1 _) ?_
                refine pf_Mo_taped C (v := nI (L + 4)) (G := va_up (va_up g 5 (upd (upd (upd (upd (g 5) L ((b >>> ((8 * nI 3) &&& 31)) &&& 255)) (L + 1) ((b >>> ((8 * nI 2) &&& 31)) &&& 255)) (L + 2) ((b >>> ((8 * nI 1) &&& 31)) &&& 255)) (L + 3) ((b >>> ((8 * nI 0) &&& 31)) &&& 255))) 3 (upd (upd (upd (upd (g 3) 6 (nI (L + 1))) 6 (nI (L + 2))) 6 (nI (L + 3))) 6 (nI (L + 4)))) (up_vb (by omega)) k_797 d_Mo_feed_68 ?_
                refine x_iinc C d_Mo_feed_71 0 rfl (v := (-1)) (by decide) (by decide) (lv' := [(3, .int ((-1))), (0, .ref (Z.2.1 (0))), (1, .int (b)), (2, .int (nI 4))]) rfl ?_
                refine x_goto C d_Mo_feed_74 38 (by decide) ?_
                refine x_iload_n C d_Mo_feed_38 0 rfl rfl ?_
                refine x_iflt C d_Mo_feed_39 77 (by decide) (fun c_16 => ?_) (fun c_16 => ?_)
                · have nc_16 := Int32.not_le.mpr c_16
                  refine x_aload_n C d_Mo_feed_77 1 rfl rfl ?_
                  refine gf_Mo_taped C (v := nI (L + 4)) (Eq.trans (congrFun (va_up_self _ _ _) _) pk_us) k_797 d_Mo_feed_78 ?_
                  exact x_iretK C (by (try simp only [hcm]); rw [if_neg (not_not_intro (by assumption)), if_neg (by rw [hL]; assumption)]; rw [hL, nI_add]) (kfinM (G' := va_up (va_up g 5 (appM b L 4 (g 5) 4)) 3 (upd (g 3) 6 (nI (L + 4)))) (by (try simp only [hcm]); rw [if_neg (not_not_intro (by assumption)), if_neg (by rw [hL]; assumption)]; rw [hL, nI_add, nI_clamp (by omega)]) (by simp only [appM, by8M, upd_upd]; exact (va_idnn (by decide) (by decide)).symm)) d_Mo_feed_81
                · exact absurd c_16 (by decide)
    · have nc_2 := Int32.not_le.mp c_2
      refine x_aload_n C d_Mo_feed_27 0 rfl rfl ?_
      refine x_ldc C d_Mo_feed_28 k_892 ?_
      refine x_callVi C (c_Mo_finding_1 Z (g) _ rfl) mi_Mo_finding k_867 (show 0 < 12 by omega) (m_0 Z _) rfl (As := [.int ((-1000002))]) ⟨Nat.le_of_ble_eq_true rfl, Nat.le_of_ble_eq_true rfl⟩ rfl rfl (Nat.le_of_ble_eq_true rfl) d_Mo_feed_30 ?_
      exact x_iretK C (by first | with_reducible rfl | (simp [*, -hd]; done) | (simp [*]; done) | (simp_all; done)) (kfinM (G' := va_up g 4 (mfnR (g 4) 1)) (by first | with_reducible rfl | (simp [*, -hd]; done) | (simp [*]; done) | (simp_all; done)) (va_idn (by omega)).symm) d_Mo_feed_33
  · refine x_aload_n C d_Mo_feed_9 0 rfl rfl ?_
    refine x_ldc C d_Mo_feed_10 k_866 ?_
    refine x_callVi C (c_Mo_finding_0 Z (g) _ rfl) mi_Mo_finding k_867 (show 0 < 12 by omega) (m_0 Z _) rfl (As := [.int ((-1000001))]) ⟨Nat.le_of_ble_eq_true rfl, Nat.le_of_ble_eq_true rfl⟩ rfl rfl (Nat.le_of_ble_eq_true rfl) d_Mo_feed_12 ?_
    exact x_iretK C (by first | with_reducible rfl | (simp [*, -hd]; done) | (simp [*]; done) | (simp_all; done)) (kfinM (G' := va_up g 4 (mfnR (g 4) 0)) (by first | with_reducible rfl | (simp [*, -hd]; done) | (simp [*]; done) | (simp_all; done)) (va_idn (by omega)).symm) d_Mo_feed_15
