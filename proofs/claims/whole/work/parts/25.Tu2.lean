set_option maxRecDepth 100000 in
set_option maxHeartbeats 600000 in
theorem c_Pe_isA (Z : ZT) (t i : Nat) (ht : t < 3) (hi : i < 8) (w : Int32) (k : Nat) (hk : k < 7) (g : St)  (r : Nat → Int32) (hr : g t = r) (hkk : r (pI i 0) = nI k) : CT yC Z y_Pe_isA b_Pe_isA 4 (some (.boolean)) 1 21 [.ref (Z.2.1 (18 + 12 * t + i)), .int (w)] (g) (QcI yC Z (bI (isU (r (pI i 0)) w = true)) (g)) := by
  refine CT.mk "TunnelPeace$Person" (by decide) rfl (Nat.le_of_ble_eq_true rfl) (fun X C => ?_)
  refine x_lv [0, 1] (lv' := [(0, .ref (Z.2.1 (18 + 12 * t + i))), (1, .int (w))]) rfl ?_
  subst hr
  rcases (show k = 0 ∨ k = 1 ∨ k = 2 ∨ k = 3 ∨ k = 4 ∨ k = 5 ∨ k = 6 by omega) with rfl | rfl | rfl | rfl | rfl | rfl | rfl
  · refine x_aload_n C d_Pe_isA_0 0 rfl rfl ?_
    refine gf_Pe_kind C (by omega) (by omega) (v := 0) hkk k_36 d_Pe_isA_1 ?_
    refine x_istore_n C d_Pe_isA_4 rfl (by decide) (lv' := [(2, .int (0)), (0, .ref (Z.2.1 (18 + 12 * t + i))), (1, .int (w))]) rfl ?_
    refine x_iconst C d_Pe_isA_5 (v := 0) (by decide) ?_
    refine x_topi (show (0 : Int32) = nI 0 by decide) ?_
    refine x_istore_n C d_Pe_isA_6 rfl (by decide) (lv' := [(3, .int (nI 0)), (2, .int (0)), (0, .ref (Z.2.1 (18 + 12 * t + i))), (1, .int (w))]) rfl ?_
    refine x_iload_n C d_Pe_isA_7 0 rfl rfl ?_
    refine x_bipush C d_Pe_isA_8 (v := 6) (by decide) ?_
    refine x_icmp_gt C d_Pe_isA_10 41 (by decide) (fun c_1 => ?_) (fun c_1 => ?_)
    · exact absurd c_1 (by decide)
    · have nc_1 := Int32.not_lt.mp c_1
      refine x_iload_n C d_Pe_isA_13 1 rfl rfl ?_
      refine x_bipush C d_Pe_isA_14 (v := 6) (by decide) ?_
      refine x_callNi C (c_TP_within Z 0 6 (g)) mi_TP_within (List.mem_of_getElem? (i := 3) rfl) (As := [.int (0), .int (6)]) ⟨Nat.le_of_ble_eq_true rfl, Nat.le_of_ble_eq_true rfl⟩ rfl rfl (Nat.le_of_ble_eq_true rfl) d_Pe_isA_16 ?_
      refine x_ifeqB C d_Pe_isA_19 41 (by decide) (fun c_2 => ?_) (fun c_2 => ?_)
      · exact absurd c_2 (by decide)
      · refine x_iload_n C d_Pe_isA_22 1 rfl rfl ?_
        refine x_iload_n C d_Pe_isA_23 3 rfl rfl ?_
        refine x_icmp_ne C d_Pe_isA_24 29 (by decide) (fun c_3 => ?_) (fun c_3 => ?_)
        · have nc_3 := Ne.symm c_3
          refine x_getst1N C (List.mem_of_getElem? (i := 4) rfl) d_Pe_isA_29 ?_
          refine x_iload_n C d_Pe_isA_32 1 rfl rfl ?_
          refine x_stld1 C 0 (by decide) (by decide) rfl d_Pe_isA_33 ?_
          refine x_istore_n C d_Pe_isA_34 rfl (by decide) (lv' := [(2, .int ((-1))), (3, .int (nI 0)), (0, .ref (Z.2.1 (18 + 12 * t + i))), (1, .int (w))]) rfl ?_
          refine x_iinc C d_Pe_isA_35 1 rfl (v := nI 1) (nI_1 _) (by decide) (lv' := [(3, .int (nI 1)), (2, .int ((-1))), (0, .ref (Z.2.1 (18 + 12 * t + i))), (1, .int (w))]) rfl ?_
          refine x_goto C d_Pe_isA_38 7 (by decide) ?_
          refine x_iload_n C d_Pe_isA_7 0 rfl rfl ?_
          refine x_bipush C d_Pe_isA_8 (v := 6) (by decide) ?_
          refine x_icmp_gt C d_Pe_isA_10 41 (by decide) (fun c_4 => ?_) (fun c_4 => ?_)
          · exact absurd c_4 (by decide)
          · have nc_4 := Int32.not_lt.mp c_4
            refine x_iload_n C d_Pe_isA_13 1 rfl rfl ?_
            refine x_bipush C d_Pe_isA_14 (v := 6) (by decide) ?_
            refine x_callNi C (c_TP_within Z (-1) 6 (g)) mi_TP_within (List.mem_of_getElem? (i := 3) rfl) (As := [.int ((-1)), .int (6)]) ⟨Nat.le_of_ble_eq_true rfl, Nat.le_of_ble_eq_true rfl⟩ rfl rfl (Nat.le_of_ble_eq_true rfl) d_Pe_isA_16 ?_
            refine x_ifeqB C d_Pe_isA_19 41 (by decide) (fun c_5 => ?_) (fun c_5 => ?_)
            · refine x_iconst C d_Pe_isA_41 (v := 0) (by decide) ?_
              exact x_zret C (by decide) (bI_f (by rw [show g t (pI i 0) = (0 : Int32) from hkk]; simp [isU, *])).symm rfl d_Pe_isA_42
            · exact absurd c_5 (by decide)
        · refine x_iconst C d_Pe_isA_27 (v := 1) (by decide) ?_
          exact x_zret C (by decide) (bI_t (by rw [show g t (pI i 0) = (0 : Int32) from hkk]; subst w; decide)).symm rfl d_Pe_isA_28
  · refine x_aload_n C d_Pe_isA_0 0 rfl rfl ?_
    refine gf_Pe_kind C (by omega) (by omega) (v := 1) hkk k_36 d_Pe_isA_1 ?_
    refine x_istore_n C d_Pe_isA_4 rfl (by decide) (lv' := [(2, .int (1)), (0, .ref (Z.2.1 (18 + 12 * t + i))), (1, .int (w))]) rfl ?_
    refine x_iconst C d_Pe_isA_5 (v := 0) (by decide) ?_
    refine x_topi (show (0 : Int32) = nI 0 by decide) ?_
    refine x_istore_n C d_Pe_isA_6 rfl (by decide) (lv' := [(3, .int (nI 0)), (2, .int (1)), (0, .ref (Z.2.1 (18 + 12 * t + i))), (1, .int (w))]) rfl ?_
    refine x_iload_n C d_Pe_isA_7 0 rfl rfl ?_
    refine x_bipush C d_Pe_isA_8 (v := 6) (by decide) ?_
    refine x_icmp_gt C d_Pe_isA_10 41 (by decide) (fun c_6 => ?_) (fun c_6 => ?_)
    · exact absurd c_6 (by decide)
    · have nc_6 := Int32.not_lt.mp c_6
      refine x_iload_n C d_Pe_isA_13 1 rfl rfl ?_
      refine x_bipush C d_Pe_isA_14 (v := 6) (by decide) ?_
      refine x_callNi C (c_TP_within Z 1 6 (g)) mi_TP_within (List.mem_of_getElem? (i := 3) rfl) (As := [.int (1), .int (6)]) ⟨Nat.le_of_ble_eq_true rfl, Nat.le_of_ble_eq_true rfl⟩ rfl rfl (Nat.le_of_ble_eq_true rfl) d_Pe_isA_16 ?_
      refine x_ifeqB C d_Pe_isA_19 41 (by decide) (fun c_7 => ?_) (fun c_7 => ?_)
      · exact absurd c_7 (by decide)
      · refine x_iload_n C d_Pe_isA_22 1 rfl rfl ?_
        refine x_iload_n C d_Pe_isA_23 3 rfl rfl ?_
        refine x_icmp_ne C d_Pe_isA_24 29 (by decide) (fun c_8 => ?_) (fun c_8 => ?_)
        · have nc_8 := Ne.symm c_8
          refine x_getst1N C (List.mem_of_getElem? (i := 4) rfl) d_Pe_isA_29 ?_
          refine x_iload_n C d_Pe_isA_32 1 rfl rfl ?_
          refine x_stld1 C 1 (by decide) (by decide) rfl d_Pe_isA_33 ?_
          refine x_istore_n C d_Pe_isA_34 rfl (by decide) (lv' := [(2, .int (0)), (3, .int (nI 0)), (0, .ref (Z.2.1 (18 + 12 * t + i))), (1, .int (w))]) rfl ?_
          refine x_iinc C d_Pe_isA_35 1 rfl (v := nI 1) (nI_1 _) (by decide) (lv' := [(3, .int (nI 1)), (2, .int (0)), (0, .ref (Z.2.1 (18 + 12 * t + i))), (1, .int (w))]) rfl ?_
          refine x_goto C d_Pe_isA_38 7 (by decide) ?_
          refine x_iload_n C d_Pe_isA_7 0 rfl rfl ?_
          refine x_bipush C d_Pe_isA_8 (v := 6) (by decide) ?_
          refine x_icmp_gt C d_Pe_isA_10 41 (by decide) (fun c_9 => ?_) (fun c_9 => ?_)
          · exact absurd c_9 (by decide)
          · have nc_9 := Int32.not_lt.mp c_9
            refine x_iload_n C d_Pe_isA_13 1 rfl rfl ?_
            refine x_bipush C d_Pe_isA_14 (v := 6) (by decide) ?_
            refine x_callNi C (c_TP_within Z 0 6 (g)) mi_TP_within (List.mem_of_getElem? (i := 3) rfl) (As := [.int (0), .int (6)]) ⟨Nat.le_of_ble_eq_true rfl, Nat.le_of_ble_eq_true rfl⟩ rfl rfl (Nat.le_of_ble_eq_true rfl) d_Pe_isA_16 ?_
            refine x_ifeqB C d_Pe_isA_19 41 (by decide) (fun c_10 => ?_) (fun c_10 => ?_)
            · exact absurd c_10 (by decide)
            · refine x_iload_n C d_Pe_isA_22 1 rfl rfl ?_
              refine x_iload_n C d_Pe_isA_23 3 rfl rfl ?_
              refine x_icmp_ne C d_Pe_isA_24 29 (by decide) (fun c_11 => ?_) (fun c_11 => ?_)
              · have nc_11 := Ne.symm c_11
                refine x_getst1N C (List.mem_of_getElem? (i := 4) rfl) d_Pe_isA_29 ?_
                refine x_iload_n C d_Pe_isA_32 1 rfl rfl ?_
                refine x_stld1 C 0 (by decide) (by decide) rfl d_Pe_isA_33 ?_
                refine x_istore_n C d_Pe_isA_34 rfl (by decide) (lv' := [(2, .int ((-1))), (3, .int (nI 1)), (0, .ref (Z.2.1 (18 + 12 * t + i))), (1, .int (w))]) rfl ?_
                refine x_iinc C d_Pe_isA_35 1 rfl (v := nI 2) (nI_1 _) (by decide) (lv' := [(3, .int (nI 2)), (2, .int ((-1))), (0, .ref (Z.2.1 (18 + 12 * t + i))), (1, .int (w))]) rfl ?_
                refine x_goto C d_Pe_isA_38 7 (by decide) ?_
                refine x_iload_n C d_Pe_isA_7 0 rfl rfl ?_
                refine x_bipush C d_Pe_isA_8 (v := 6) (by decide) ?_
                refine x_icmp_gt C d_Pe_isA_10 41 (by decide) (fun c_12 => ?_) (fun c_12 => ?_)
                · exact absurd c_12 (by decide)
                · have nc_12 := Int32.not_lt.mp c_12
                  refine x_iload_n C d_Pe_isA_13 1 rfl rfl ?_
                  refine x_bipush C d_Pe_isA_14 (v := 6) (by decide) ?_
                  refine x_callNi C (c_TP_within Z (-1) 6 (g)) mi_TP_within (List.mem_of_getElem? (i := 3) rfl) (As := [.int ((-1)), .int (6)]) ⟨Nat.le_of_ble_eq_true rfl, Nat.le_of_ble_eq_true rfl⟩ rfl rfl (Nat.le_of_ble_eq_true rfl) d_Pe_isA_16 ?_
                  refine x_ifeqB C d_Pe_isA_19 41 (by decide) (fun c_13 => ?_) (fun c_13 => ?_)
                  · refine x_iconst C d_Pe_isA_41 (v := 0) (by decide) ?_
                    exact x_zret C (by decide) (bI_f (by rw [show g t (pI i 0) = (1 : Int32) from hkk]; simp [isU, *])).symm rfl d_Pe_isA_42
                  · exact absurd c_13 (by decide)
              · refine x_iconst C d_Pe_isA_27 (v := 1) (by decide) ?_
                exact x_zret C (by decide) (bI_t (by rw [show g t (pI i 0) = (1 : Int32) from hkk]; subst w; decide)).symm rfl d_Pe_isA_28
        · refine x_iconst C d_Pe_isA_27 (v := 1) (by decide) ?_
          exact x_zret C (by decide) (bI_t (by rw [show g t (pI i 0) = (1 : Int32) from hkk]; subst w; decide)).symm rfl d_Pe_isA_28
  · refine x_aload_n C d_Pe_isA_0 0 rfl rfl ?_
    refine gf_Pe_kind C (by omega) (by omega) (v := 2) hkk k_36 d_Pe_isA_1 ?_
    refine x_istore_n C d_Pe_isA_4 rfl (by decide) (lv' := [(2, .int (2)), (0, .ref (Z.2.1 (18 + 12 * t + i))), (1, .int (w))]) rfl ?_
    refine x_iconst C d_Pe_isA_5 (v := 0) (by decide) ?_
    refine x_topi (show (0 : Int32) = nI 0 by decide) ?_
    refine x_istore_n C d_Pe_isA_6 rfl (by decide) (lv' := [(3, .int (nI 0)), (2, .int (2)), (0, .ref (Z.2.1 (18 + 12 * t + i))), (1, .int (w))]) rfl ?_
    refine x_iload_n C d_Pe_isA_7 0 rfl rfl ?_
    refine x_bipush C d_Pe_isA_8 (v := 6) (by decide) ?_
    refine x_icmp_gt C d_Pe_isA_10 41 (by decide) (fun c_14 => ?_) (fun c_14 => ?_)
    · exact absurd c_14 (by decide)
    · have nc_14 := Int32.not_lt.mp c_14
      refine x_iload_n C d_Pe_isA_13 1 rfl rfl ?_
      refine x_bipush C d_Pe_isA_14 (v := 6) (by decide) ?_
      refine x_callNi C (c_TP_within Z 2 6 (g)) mi_TP_within (List.mem_of_getElem? (i := 3) rfl) (As := [.int (2), .int (6)]) ⟨Nat.le_of_ble_eq_true rfl, Nat.le_of_ble_eq_true rfl⟩ rfl rfl (Nat.le_of_ble_eq_true rfl) d_Pe_isA_16 ?_
      refine x_ifeqB C d_Pe_isA_19 41 (by decide) (fun c_15 => ?_) (fun c_15 => ?_)
      · exact absurd c_15 (by decide)
      · refine x_iload_n C d_Pe_isA_22 1 rfl rfl ?_
        refine x_iload_n C d_Pe_isA_23 3 rfl rfl ?_
        refine x_icmp_ne C d_Pe_isA_24 29 (by decide) (fun c_16 => ?_) (fun c_16 => ?_)
        · have nc_16 := Ne.symm c_16
          refine x_getst1N C (List.mem_of_getElem? (i := 4) rfl) d_Pe_isA_29 ?_
          refine x_iload_n C d_Pe_isA_32 1 rfl rfl ?_
          refine x_stld1 C 2 (by decide) (by decide) rfl d_Pe_isA_33 ?_
          refine x_istore_n C d_Pe_isA_34 rfl (by decide) (lv' := [(2, .int (0)), (3, .int (nI 0)), (0, .ref (Z.2.1 (18 + 12 * t + i))), (1, .int (w))]) rfl ?_
          refine x_iinc C d_Pe_isA_35 1 rfl (v := nI 1) (nI_1 _) (by decide) (lv' := [(3, .int (nI 1)), (2, .int (0)), (0, .ref (Z.2.1 (18 + 12 * t + i))), (1, .int (w))]) rfl ?_
          refine x_goto C d_Pe_isA_38 7 (by decide) ?_
          refine x_iload_n C d_Pe_isA_7 0 rfl rfl ?_
          refine x_bipush C d_Pe_isA_8 (v := 6) (by decide) ?_
          refine x_icmp_gt C d_Pe_isA_10 41 (by decide) (fun c_17 => ?_) (fun c_17 => ?_)
          · exact absurd c_17 (by decide)
          · have nc_17 := Int32.not_lt.mp c_17
            refine x_iload_n C d_Pe_isA_13 1 rfl rfl ?_
            refine x_bipush C d_Pe_isA_14 (v := 6) (by decide) ?_
            refine x_callNi C (c_TP_within Z 0 6 (g)) mi_TP_within (List.mem_of_getElem? (i := 3) rfl) (As := [.int (0), .int (6)]) ⟨Nat.le_of_ble_eq_true rfl, Nat.le_of_ble_eq_true rfl⟩ rfl rfl (Nat.le_of_ble_eq_true rfl) d_Pe_isA_16 ?_
            refine x_ifeqB C d_Pe_isA_19 41 (by decide) (fun c_18 => ?_) (fun c_18 => ?_)
            · exact absurd c_18 (by decide)
            · refine x_iload_n C d_Pe_isA_22 1 rfl rfl ?_
              refine x_iload_n C d_Pe_isA_23 3 rfl rfl ?_
              refine x_icmp_ne C d_Pe_isA_24 29 (by decide) (fun c_19 => ?_) (fun c_19 => ?_)
              · have nc_19 := Ne.symm c_19
                refine x_getst1N C (List.mem_of_getElem? (i := 4) rfl) d_Pe_isA_29 ?_
                refine x_iload_n C d_Pe_isA_32 1 rfl rfl ?_
                refine x_stld1 C 0 (by decide) (by decide) rfl d_Pe_isA_33 ?_
                refine x_istore_n C d_Pe_isA_34 rfl (by decide) (lv' := [(2, .int ((-1))), (3, .int (nI 1)), (0, .ref (Z.2.1 (18 + 12 * t + i))), (1, .int (w))]) rfl ?_
                refine x_iinc C d_Pe_isA_35 1 rfl (v := nI 2) (nI_1 _) (by decide) (lv' := [(3, .int (nI 2)), (2, .int ((-1))), (0, .ref (Z.2.1 (18 + 12 * t + i))), (1, .int (w))]) rfl ?_
                refine x_goto C d_Pe_isA_38 7 (by decide) ?_
                refine x_iload_n C d_Pe_isA_7 0 rfl rfl ?_
                refine x_bipush C d_Pe_isA_8 (v := 6) (by decide) ?_
                refine x_icmp_gt C d_Pe_isA_10 41 (by decide) (fun c_20 => ?_) (fun c_20 => ?_)
                · exact absurd c_20 (by decide)
                · have nc_20 := Int32.not_lt.mp c_20
                  refine x_iload_n C d_Pe_isA_13 1 rfl rfl ?_
                  refine x_bipush C d_Pe_isA_14 (v := 6) (by decide) ?_
                  refine x_callNi C (c_TP_within Z (-1) 6 (g)) mi_TP_within (List.mem_of_getElem? (i := 3) rfl) (As := [.int ((-1)), .int (6)]) ⟨Nat.le_of_ble_eq_true rfl, Nat.le_of_ble_eq_true rfl⟩ rfl rfl (Nat.le_of_ble_eq_true rfl) d_Pe_isA_16 ?_
                  refine x_ifeqB C d_Pe_isA_19 41 (by decide) (fun c_21 => ?_) (fun c_21 => ?_)
                  · refine x_iconst C d_Pe_isA_41 (v := 0) (by decide) ?_
                    exact x_zret C (by decide) (bI_f (by rw [show g t (pI i 0) = (2 : Int32) from hkk]; simp [isU, *])).symm rfl d_Pe_isA_42
                  · exact absurd c_21 (by decide)
              · refine x_iconst C d_Pe_isA_27 (v := 1) (by decide) ?_
                exact x_zret C (by decide) (bI_t (by rw [show g t (pI i 0) = (2 : Int32) from hkk]; subst w; decide)).symm rfl d_Pe_isA_28
        · refine x_iconst C d_Pe_isA_27 (v := 1) (by decide) ?_
          exact x_zret C (by decide) (bI_t (by rw [show g t (pI i 0) = (2 : Int32) from hkk]; subst w; decide)).symm rfl d_Pe_isA_28
  · refine x_aload_n C d_Pe_isA_0 0 rfl rfl ?_
    refine gf_Pe_kind C (by omega) (by omega) (v := 3) hkk k_36 d_Pe_isA_1 ?_
    refine x_istore_n C d_Pe_isA_4 rfl (by decide) (lv' := [(2, .int (3)), (0, .ref (Z.2.1 (18 + 12 * t + i))), (1, .int (w))]) rfl ?_
    refine x_iconst C d_Pe_isA_5 (v := 0) (by decide) ?_
    refine x_topi (show (0 : Int32) = nI 0 by decide) ?_
    refine x_istore_n C d_Pe_isA_6 rfl (by decide) (lv' := [(3, .int (nI 0)), (2, .int (3)), (0, .ref (Z.2.1 (18 + 12 * t + i))), (1, .int (w))]) rfl ?_
    refine x_iload_n C d_Pe_isA_7 0 rfl rfl ?_
    refine x_bipush C d_Pe_isA_8 (v := 6) (by decide) ?_
    refine x_icmp_gt C d_Pe_isA_10 41 (by decide) (fun c_22 => ?_) (fun c_22 => ?_)
    · exact absurd c_22 (by decide)
    · have nc_22 := Int32.not_lt.mp c_22
      refine x_iload_n C d_Pe_isA_13 1 rfl rfl ?_
      refine x_bipush C d_Pe_isA_14 (v := 6) (by decide) ?_
      refine x_callNi C (c_TP_within Z 3 6 (g)) mi_TP_within (List.mem_of_getElem? (i := 3) rfl) (As := [.int (3), .int (6)]) ⟨Nat.le_of_ble_eq_true rfl, Nat.le_of_ble_eq_true rfl⟩ rfl rfl (Nat.le_of_ble_eq_true rfl) d_Pe_isA_16 ?_
      refine x_ifeqB C d_Pe_isA_19 41 (by decide) (fun c_23 => ?_) (fun c_23 => ?_)
      · exact absurd c_23 (by decide)
      · refine x_iload_n C d_Pe_isA_22 1 rfl rfl ?_
        refine x_iload_n C d_Pe_isA_23 3 rfl rfl ?_
        refine x_icmp_ne C d_Pe_isA_24 29 (by decide) (fun c_24 => ?_) (fun c_24 => ?_)
        · have nc_24 := Ne.symm c_24
          refine x_getst1N C (List.mem_of_getElem? (i := 4) rfl) d_Pe_isA_29 ?_
          refine x_iload_n C d_Pe_isA_32 1 rfl rfl ?_
          refine x_stld1 C 3 (by decide) (by decide) rfl d_Pe_isA_33 ?_
          refine x_istore_n C d_Pe_isA_34 rfl (by decide) (lv' := [(2, .int (2)), (3, .int (nI 0)), (0, .ref (Z.2.1 (18 + 12 * t + i))), (1, .int (w))]) rfl ?_
          refine x_iinc C d_Pe_isA_35 1 rfl (v := nI 1) (nI_1 _) (by decide) (lv' := [(3, .int (nI 1)), (2, .int (2)), (0, .ref (Z.2.1 (18 + 12 * t + i))), (1, .int (w))]) rfl ?_
          refine x_goto C d_Pe_isA_38 7 (by decide) ?_
          refine x_iload_n C d_Pe_isA_7 0 rfl rfl ?_
          refine x_bipush C d_Pe_isA_8 (v := 6) (by decide) ?_
          refine x_icmp_gt C d_Pe_isA_10 41 (by decide) (fun c_25 => ?_) (fun c_25 => ?_)
          · exact absurd c_25 (by decide)
          · have nc_25 := Int32.not_lt.mp c_25
            refine x_iload_n C d_Pe_isA_13 1 rfl rfl ?_
            refine x_bipush C d_Pe_isA_14 (v := 6) (by decide) ?_
            refine x_callNi C (c_TP_within Z 2 6 (g)) mi_TP_within (List.mem_of_getElem? (i := 3) rfl) (As := [.int (2), .int (6)]) ⟨Nat.le_of_ble_eq_true rfl, Nat.le_of_ble_eq_true rfl⟩ rfl rfl (Nat.le_of_ble_eq_true rfl) d_Pe_isA_16 ?_
            refine x_ifeqB C d_Pe_isA_19 41 (by decide) (fun c_26 => ?_) (fun c_26 => ?_)
            · exact absurd c_26 (by decide)
            · refine x_iload_n C d_Pe_isA_22 1 rfl rfl ?_
              refine x_iload_n C d_Pe_isA_23 3 rfl rfl ?_
              refine x_icmp_ne C d_Pe_isA_24 29 (by decide) (fun c_27 => ?_) (fun c_27 => ?_)
              · have nc_27 := Ne.symm c_27
                refine x_getst1N C (List.mem_of_getElem? (i := 4) rfl) d_Pe_isA_29 ?_
                refine x_iload_n C d_Pe_isA_32 1 rfl rfl ?_
                refine x_stld1 C 2 (by decide) (by decide) rfl d_Pe_isA_33 ?_
                refine x_istore_n C d_Pe_isA_34 rfl (by decide) (lv' := [(2, .int (0)), (3, .int (nI 1)), (0, .ref (Z.2.1 (18 + 12 * t + i))), (1, .int (w))]) rfl ?_
                refine x_iinc C d_Pe_isA_35 1 rfl (v := nI 2) (nI_1 _) (by decide) (lv' := [(3, .int (nI 2)), (2, .int (0)), (0, .ref (Z.2.1 (18 + 12 * t + i))), (1, .int (w))]) rfl ?_
                refine x_goto C d_Pe_isA_38 7 (by decide) ?_
                refine x_iload_n C d_Pe_isA_7 0 rfl rfl ?_
                refine x_bipush C d_Pe_isA_8 (v := 6) (by decide) ?_
                refine x_icmp_gt C d_Pe_isA_10 41 (by decide) (fun c_28 => ?_) (fun c_28 => ?_)
                · exact absurd c_28 (by decide)
                · have nc_28 := Int32.not_lt.mp c_28
                  refine x_iload_n C d_Pe_isA_13 1 rfl rfl ?_
                  refine x_bipush C d_Pe_isA_14 (v := 6) (by decide) ?_
                  refine x_callNi C (c_TP_within Z 0 6 (g)) mi_TP_within (List.mem_of_getElem? (i := 3) rfl) (As := [.int (0), .int (6)]) ⟨Nat.le_of_ble_eq_true rfl, Nat.le_of_ble_eq_true rfl⟩ rfl rfl (Nat.le_of_ble_eq_true rfl) d_Pe_isA_16 ?_
                  refine x_ifeqB C d_Pe_isA_19 41 (by decide) (fun c_29 => ?_) (fun c_29 => ?_)
                  · exact absurd c_29 (by decide)
                  · refine x_iload_n C d_Pe_isA_22 1 rfl rfl ?_
                    refine x_iload_n C d_Pe_isA_23 3 rfl rfl ?_
                    refine x_icmp_ne C d_Pe_isA_24 29 (by decide) (fun c_30 => ?_) (fun c_30 => ?_)
                    · have nc_30 := Ne.symm c_30
                      refine x_getst1N C (List.mem_of_getElem? (i := 4) rfl) d_Pe_isA_29 ?_
                      refine x_iload_n C d_Pe_isA_32 1 rfl rfl ?_
                      refine x_stld1 C 0 (by decide) (by decide) rfl d_Pe_isA_33 ?_
                      refine x_istore_n C d_Pe_isA_34 rfl (by decide) (lv' := [(2, .int ((-1))), (3, .int (nI 2)), (0, .ref (Z.2.1 (18 + 12 * t + i))), (1, .int (w))]) rfl ?_
                      refine x_iinc C d_Pe_isA_35 1 rfl (v := nI 3) (nI_1 _) (by decide) (lv' := [(3, .int (nI 3)), (2, .int ((-1))), (0, .ref (Z.2.1 (18 + 12 * t + i))), (1, .int (w))]) rfl ?_
                      refine x_goto C d_Pe_isA_38 7 (by decide) ?_
                      refine x_iload_n C d_Pe_isA_7 0 rfl rfl ?_
                      refine x_bipush C d_Pe_isA_8 (v := 6) (by decide) ?_
                      refine x_icmp_gt C d_Pe_isA_10 41 (by decide) (fun c_31 => ?_) (fun c_31 => ?_)
                      · exact absurd c_31 (by decide)
                      · have nc_31 := Int32.not_lt.mp c_31
                        refine x_iload_n C d_Pe_isA_13 1 rfl rfl ?_
                        refine x_bipush C d_Pe_isA_14 (v := 6) (by decide) ?_
                        refine x_callNi C (c_TP_within Z (-1) 6 (g)) mi_TP_within (List.mem_of_getElem? (i := 3) rfl) (As := [.int ((-1)), .int (6)]) ⟨Nat.le_of_ble_eq_true rfl, Nat.le_of_ble_eq_true rfl⟩ rfl rfl (Nat.le_of_ble_eq_true rfl) d_Pe_isA_16 ?_
                        refine x_ifeqB C d_Pe_isA_19 41 (by decide) (fun c_32 => ?_) (fun c_32 => ?_)
                        · refine x_iconst C d_Pe_isA_41 (v := 0) (by decide) ?_
                          exact x_zret C (by decide) (bI_f (by rw [show g t (pI i 0) = (3 : Int32) from hkk]; simp [isU, *])).symm rfl d_Pe_isA_42
                        · exact absurd c_32 (by decide)
                    · refine x_iconst C d_Pe_isA_27 (v := 1) (by decide) ?_
                      exact x_zret C (by decide) (bI_t (by rw [show g t (pI i 0) = (3 : Int32) from hkk]; subst w; decide)).symm rfl d_Pe_isA_28
              · refine x_iconst C d_Pe_isA_27 (v := 1) (by decide) ?_
                exact x_zret C (by decide) (bI_t (by rw [show g t (pI i 0) = (3 : Int32) from hkk]; subst w; decide)).symm rfl d_Pe_isA_28
        · refine x_iconst C d_Pe_isA_27 (v := 1) (by decide) ?_
          exact x_zret C (by decide) (bI_t (by rw [show g t (pI i 0) = (3 : Int32) from hkk]; subst w; decide)).symm rfl d_Pe_isA_28
  · refine x_aload_n C d_Pe_isA_0 0 rfl rfl ?_
    refine gf_Pe_kind C (by omega) (by omega) (v := 4) hkk k_36 d_Pe_isA_1 ?_
    refine x_istore_n C d_Pe_isA_4 rfl (by decide) (lv' := [(2, .int (4)), (0, .ref (Z.2.1 (18 + 12 * t + i))), (1, .int (w))]) rfl ?_
    refine x_iconst C d_Pe_isA_5 (v := 0) (by decide) ?_
    refine x_topi (show (0 : Int32) = nI 0 by decide) ?_
    refine x_istore_n C d_Pe_isA_6 rfl (by decide) (lv' := [(3, .int (nI 0)), (2, .int (4)), (0, .ref (Z.2.1 (18 + 12 * t + i))), (1, .int (w))]) rfl ?_
    refine x_iload_n C d_Pe_isA_7 0 rfl rfl ?_
    refine x_bipush C d_Pe_isA_8 (v := 6) (by decide) ?_
    refine x_icmp_gt C d_Pe_isA_10 41 (by decide) (fun c_33 => ?_) (fun c_33 => ?_)
    · exact absurd c_33 (by decide)
    · have nc_33 := Int32.not_lt.mp c_33
      refine x_iload_n C d_Pe_isA_13 1 rfl rfl ?_
      refine x_bipush C d_Pe_isA_14 (v := 6) (by decide) ?_
      refine x_callNi C (c_TP_within Z 4 6 (g)) mi_TP_within (List.mem_of_getElem? (i := 3) rfl) (As := [.int (4), .int (6)]) ⟨Nat.le_of_ble_eq_true rfl, Nat.le_of_ble_eq_true rfl⟩ rfl rfl (Nat.le_of_ble_eq_true rfl) d_Pe_isA_16 ?_
      refine x_ifeqB C d_Pe_isA_19 41 (by decide) (fun c_34 => ?_) (fun c_34 => ?_)
      · exact absurd c_34 (by decide)
      · refine x_iload_n C d_Pe_isA_22 1 rfl rfl ?_
        refine x_iload_n C d_Pe_isA_23 3 rfl rfl ?_
        refine x_icmp_ne C d_Pe_isA_24 29 (by decide) (fun c_35 => ?_) (fun c_35 => ?_)
        · have nc_35 := Ne.symm c_35
          refine x_getst1N C (List.mem_of_getElem? (i := 4) rfl) d_Pe_isA_29 ?_
          refine x_iload_n C d_Pe_isA_32 1 rfl rfl ?_
          refine x_stld1 C 4 (by decide) (by decide) rfl d_Pe_isA_33 ?_
          refine x_istore_n C d_Pe_isA_34 rfl (by decide) (lv' := [(2, .int (3)), (3, .int (nI 0)), (0, .ref (Z.2.1 (18 + 12 * t + i))), (1, .int (w))]) rfl ?_
          refine x_iinc C d_Pe_isA_35 1 rfl (v := nI 1) (nI_1 _) (by decide) (lv' := [(3, .int (nI 1)), (2, .int (3)), (0, .ref (Z.2.1 (18 + 12 * t + i))), (1, .int (w))]) rfl ?_
          refine x_goto C d_Pe_isA_38 7 (by decide) ?_
          refine x_iload_n C d_Pe_isA_7 0 rfl rfl ?_
          refine x_bipush C d_Pe_isA_8 (v := 6) (by decide) ?_
          refine x_icmp_gt C d_Pe_isA_10 41 (by decide) (fun c_36 => ?_) (fun c_36 => ?_)
          · exact absurd c_36 (by decide)
          · have nc_36 := Int32.not_lt.mp c_36
            refine x_iload_n C d_Pe_isA_13 1 rfl rfl ?_
            refine x_bipush C d_Pe_isA_14 (v := 6) (by decide) ?_
            refine x_callNi C (c_TP_within Z 3 6 (g)) mi_TP_within (List.mem_of_getElem? (i := 3) rfl) (As := [.int (3), .int (6)]) ⟨Nat.le_of_ble_eq_true rfl, Nat.le_of_ble_eq_true rfl⟩ rfl rfl (Nat.le_of_ble_eq_true rfl) d_Pe_isA_16 ?_
            refine x_ifeqB C d_Pe_isA_19 41 (by decide) (fun c_37 => ?_) (fun c_37 => ?_)
            · exact absurd c_37 (by decide)
            · refine x_iload_n C d_Pe_isA_22 1 rfl rfl ?_
              refine x_iload_n C d_Pe_isA_23 3 rfl rfl ?_
              refine x_icmp_ne C d_Pe_isA_24 29 (by decide) (fun c_38 => ?_) (fun c_38 => ?_)
              · have nc_38 := Ne.symm c_38
                refine x_getst1N C (List.mem_of_getElem? (i := 4) rfl) d_Pe_isA_29 ?_
                refine x_iload_n C d_Pe_isA_32 1 rfl rfl ?_
                refine x_stld1 C 3 (by decide) (by decide) rfl d_Pe_isA_33 ?_
                refine x_istore_n C d_Pe_isA_34 rfl (by decide) (lv' := [(2, .int (2)), (3, .int (nI 1)), (0, .ref (Z.2.1 (18 + 12 * t + i))), (1, .int (w))]) rfl ?_
                refine x_iinc C d_Pe_isA_35 1 rfl (v := nI 2) (nI_1 _) (by decide) (lv' := [(3, .int (nI 2)), (2, .int (2)), (0, .ref (Z.2.1 (18 + 12 * t + i))), (1, .int (w))]) rfl ?_
                refine x_goto C d_Pe_isA_38 7 (by decide) ?_
                refine x_iload_n C d_Pe_isA_7 0 rfl rfl ?_
                refine x_bipush C d_Pe_isA_8 (v := 6) (by decide) ?_
                refine x_icmp_gt C d_Pe_isA_10 41 (by decide) (fun c_39 => ?_) (fun c_39 => ?_)
                · exact absurd c_39 (by decide)
                · have nc_39 := Int32.not_lt.mp c_39
                  refine x_iload_n C d_Pe_isA_13 1 rfl rfl ?_
                  refine x_bipush C d_Pe_isA_14 (v := 6) (by decide) ?_
                  refine x_callNi C (c_TP_within Z 2 6 (g)) mi_TP_within (List.mem_of_getElem? (i := 3) rfl) (As := [.int (2), .int (6)]) ⟨Nat.le_of_ble_eq_true rfl, Nat.le_of_ble_eq_true rfl⟩ rfl rfl (Nat.le_of_ble_eq_true rfl) d_Pe_isA_16 ?_
                  refine x_ifeqB C d_Pe_isA_19 41 (by decide) (fun c_40 => ?_) (fun c_40 => ?_)
                  · exact absurd c_40 (by decide)
                  · refine x_iload_n C d_Pe_isA_22 1 rfl rfl ?_
                    refine x_iload_n C d_Pe_isA_23 3 rfl rfl ?_
                    refine x_icmp_ne C d_Pe_isA_24 29 (by decide) (fun c_41 => ?_) (fun c_41 => ?_)
                    · have nc_41 := Ne.symm c_41
                      refine x_getst1N C (List.mem_of_getElem? (i := 4) rfl) d_Pe_isA_29 ?_
                      refine x_iload_n C d_Pe_isA_32 1 rfl rfl ?_
                      refine x_stld1 C 2 (by decide) (by decide) rfl d_Pe_isA_33 ?_
                      refine x_istore_n C d_Pe_isA_34 rfl (by decide) (lv' := [(2, .int (0)), (3, .int (nI 2)), (0, .ref (Z.2.1 (18 + 12 * t + i))), (1, .int (w))]) rfl ?_
                      refine x_iinc C d_Pe_isA_35 1 rfl (v := nI 3) (nI_1 _) (by decide) (lv' := [(3, .int (nI 3)), (2, .int (0)), (0, .ref (Z.2.1 (18 + 12 * t + i))), (1, .int (w))]) rfl ?_
                      refine x_goto C d_Pe_isA_38 7 (by decide) ?_
                      refine x_iload_n C d_Pe_isA_7 0 rfl rfl ?_
                      refine x_bipush C d_Pe_isA_8 (v := 6) (by decide) ?_
                      refine x_icmp_gt C d_Pe_isA_10 41 (by decide) (fun c_42 => ?_) (fun c_42 => ?_)
                      · exact absurd c_42 (by decide)
                      · have nc_42 := Int32.not_lt.mp c_42
                        refine x_iload_n C d_Pe_isA_13 1 rfl rfl ?_
                        refine x_bipush C d_Pe_isA_14 (v := 6) (by decide) ?_
                        refine x_callNi C (c_TP_within Z 0 6 (g)) mi_TP_within (List.mem_of_getElem? (i := 3) rfl) (As := [.int (0), .int (6)]) ⟨Nat.le_of_ble_eq_true rfl, Nat.le_of_ble_eq_true rfl⟩ rfl rfl (Nat.le_of_ble_eq_true rfl) d_Pe_isA_16 ?_
                        refine x_ifeqB C d_Pe_isA_19 41 (by decide) (fun c_43 => ?_) (fun c_43 => ?_)
                        · exact absurd c_43 (by decide)
                        · refine x_iload_n C d_Pe_isA_22 1 rfl rfl ?_
                          refine x_iload_n C d_Pe_isA_23 3 rfl rfl ?_
                          refine x_icmp_ne C d_Pe_isA_24 29 (by decide) (fun c_44 => ?_) (fun c_44 => ?_)
                          · have nc_44 := Ne.symm c_44
                            refine x_getst1N C (List.mem_of_getElem? (i := 4) rfl) d_Pe_isA_29 ?_
                            refine x_iload_n C d_Pe_isA_32 1 rfl rfl ?_
                            refine x_stld1 C 0 (by decide) (by decide) rfl d_Pe_isA_33 ?_
                            refine x_istore_n C d_Pe_isA_34 rfl (by decide) (lv' := [(2, .int ((-1))), (3, .int (nI 3)), (0, .ref (Z.2.1 (18 + 12 * t + i))), (1, .int (w))]) rfl ?_
                            refine x_iinc C d_Pe_isA_35 1 rfl (v := nI 4) (nI_1 _) (by decide) (lv' := [(3, .int (nI 4)), (2, .int ((-1))), (0, .ref (Z.2.1 (18 + 12 * t + i))), (1, .int (w))]) rfl ?_
                            refine x_goto C d_Pe_isA_38 7 (by decide) ?_
                            refine x_iload_n C d_Pe_isA_7 0 rfl rfl ?_
                            refine x_bipush C d_Pe_isA_8 (v := 6) (by decide) ?_
                            refine x_icmp_gt C d_Pe_isA_10 41 (by decide) (fun c_45 => ?_) (fun c_45 => ?_)
                            · exact absurd c_45 (by decide)
                            · have nc_45 := Int32.not_lt.mp c_45
                              refine x_iload_n C d_Pe_isA_13 1 rfl rfl ?_
                              refine x_bipush C d_Pe_isA_14 (v := 6) (by decide) ?_
                              refine x_callNi C (c_TP_within Z (-1) 6 (g)) mi_TP_within (List.mem_of_getElem? (i := 3) rfl) (As := [.int ((-1)), .int (6)]) ⟨Nat.le_of_ble_eq_true rfl, Nat.le_of_ble_eq_true rfl⟩ rfl rfl (Nat.le_of_ble_eq_true rfl) d_Pe_isA_16 ?_
                              refine x_ifeqB C d_Pe_isA_19 41 (by decide) (fun c_46 => ?_) (fun c_46 => ?_)
                              · refine x_iconst C d_Pe_isA_41 (v := 0) (by decide) ?_
                                exact x_zret C (by decide) (bI_f (by rw [show g t (pI i 0) = (4 : Int32) from hkk]; simp [isU, *])).symm rfl d_Pe_isA_42
                              · exact absurd c_46 (by decide)
                          · refine x_iconst C d_Pe_isA_27 (v := 1) (by decide) ?_
                            exact x_zret C (by decide) (bI_t (by rw [show g t (pI i 0) = (4 : Int32) from hkk]; subst w; decide)).symm rfl d_Pe_isA_28
                    · refine x_iconst C d_Pe_isA_27 (v := 1) (by decide) ?_
                      exact x_zret C (by decide) (bI_t (by rw [show g t (pI i 0) = (4 : Int32) from hkk]; subst w; decide)).symm rfl d_Pe_isA_28
              · refine x_iconst C d_Pe_isA_27 (v := 1) (by decide) ?_
                exact x_zret C (by decide) (bI_t (by rw [show g t (pI i 0) = (4 : Int32) from hkk]; subst w; decide)).symm rfl d_Pe_isA_28
        · refine x_iconst C d_Pe_isA_27 (v := 1) (by decide) ?_
          exact x_zret C (by decide) (bI_t (by rw [show g t (pI i 0) = (4 : Int32) from hkk]; subst w; decide)).symm rfl d_Pe_isA_28
  · refine x_aload_n C d_Pe_isA_0 0 rfl rfl ?_
    refine gf_Pe_kind C (by omega) (by omega) (v := 5) hkk k_36 d_Pe_isA_1 ?_
    refine x_istore_n C d_Pe_isA_4 rfl (by decide) (lv' := [(2, .int (5)), (0, .ref (Z.2.1 (18 + 12 * t + i))), (1, .int (w))]) rfl ?_
    refine x_iconst C d_Pe_isA_5 (v := 0) (by decide) ?_
    refine x_topi (show (0 : Int32) = nI 0 by decide) ?_
    refine x_istore_n C d_Pe_isA_6 rfl (by decide) (lv' := [(3, .int (nI 0)), (2, .int (5)), (0, .ref (Z.2.1 (18 + 12 * t + i))), (1, .int (w))]) rfl ?_
    refine x_iload_n C d_Pe_isA_7 0 rfl rfl ?_
    refine x_bipush C d_Pe_isA_8 (v := 6) (by decide) ?_
    refine x_icmp_gt C d_Pe_isA_10 41 (by decide) (fun c_47 => ?_) (fun c_47 => ?_)
    · exact absurd c_47 (by decide)
    · have nc_47 := Int32.not_lt.mp c_47
      refine x_iload_n C d_Pe_isA_13 1 rfl rfl ?_
      refine x_bipush C d_Pe_isA_14 (v := 6) (by decide) ?_
      refine x_callNi C (c_TP_within Z 5 6 (g)) mi_TP_within (List.mem_of_getElem? (i := 3) rfl) (As := [.int (5), .int (6)]) ⟨Nat.le_of_ble_eq_true rfl, Nat.le_of_ble_eq_true rfl⟩ rfl rfl (Nat.le_of_ble_eq_true rfl) d_Pe_isA_16 ?_
      refine x_ifeqB C d_Pe_isA_19 41 (by decide) (fun c_48 => ?_) (fun c_48 => ?_)
      · exact absurd c_48 (by decide)
      · refine x_iload_n C d_Pe_isA_22 1 rfl rfl ?_
        refine x_iload_n C d_Pe_isA_23 3 rfl rfl ?_
        refine x_icmp_ne C d_Pe_isA_24 29 (by decide) (fun c_49 => ?_) (fun c_49 => ?_)
        · have nc_49 := Ne.symm c_49
          refine x_getst1N C (List.mem_of_getElem? (i := 4) rfl) d_Pe_isA_29 ?_
          refine x_iload_n C d_Pe_isA_32 1 rfl rfl ?_
          refine x_stld1 C 5 (by decide) (by decide) rfl d_Pe_isA_33 ?_
          refine x_istore_n C d_Pe_isA_34 rfl (by decide) (lv' := [(2, .int (0)), (3, .int (nI 0)), (0, .ref (Z.2.1 (18 + 12 * t + i))), (1, .int (w))]) rfl ?_
          refine x_iinc C d_Pe_isA_35 1 rfl (v := nI 1) (nI_1 _) (by decide) (lv' := [(3, .int (nI 1)), (2, .int (0)), (0, .ref (Z.2.1 (18 + 12 * t + i))), (1, .int (w))]) rfl ?_
          refine x_goto C d_Pe_isA_38 7 (by decide) ?_
          refine x_iload_n C d_Pe_isA_7 0 rfl rfl ?_
          refine x_bipush C d_Pe_isA_8 (v := 6) (by decide) ?_
          refine x_icmp_gt C d_Pe_isA_10 41 (by decide) (fun c_50 => ?_) (fun c_50 => ?_)
          · exact absurd c_50 (by decide)
          · have nc_50 := Int32.not_lt.mp c_50
            refine x_iload_n C d_Pe_isA_13 1 rfl rfl ?_
            refine x_bipush C d_Pe_isA_14 (v := 6) (by decide) ?_
            refine x_callNi C (c_TP_within Z 0 6 (g)) mi_TP_within (List.mem_of_getElem? (i := 3) rfl) (As := [.int (0), .int (6)]) ⟨Nat.le_of_ble_eq_true rfl, Nat.le_of_ble_eq_true rfl⟩ rfl rfl (Nat.le_of_ble_eq_true rfl) d_Pe_isA_16 ?_
            refine x_ifeqB C d_Pe_isA_19 41 (by decide) (fun c_51 => ?_) (fun c_51 => ?_)
            · exact absurd c_51 (by decide)
            · refine x_iload_n C d_Pe_isA_22 1 rfl rfl ?_
              refine x_iload_n C d_Pe_isA_23 3 rfl rfl ?_
              refine x_icmp_ne C d_Pe_isA_24 29 (by decide) (fun c_52 => ?_) (fun c_52 => ?_)
              · have nc_52 := Ne.symm c_52
                refine x_getst1N C (List.mem_of_getElem? (i := 4) rfl) d_Pe_isA_29 ?_
                refine x_iload_n C d_Pe_isA_32 1 rfl rfl ?_
                refine x_stld1 C 0 (by decide) (by decide) rfl d_Pe_isA_33 ?_
                refine x_istore_n C d_Pe_isA_34 rfl (by decide) (lv' := [(2, .int ((-1))), (3, .int (nI 1)), (0, .ref (Z.2.1 (18 + 12 * t + i))), (1, .int (w))]) rfl ?_
                refine x_iinc C d_Pe_isA_35 1 rfl (v := nI 2) (nI_1 _) (by decide) (lv' := [(3, .int (nI 2)), (2, .int ((-1))), (0, .ref (Z.2.1 (18 + 12 * t + i))), (1, .int (w))]) rfl ?_
                refine x_goto C d_Pe_isA_38 7 (by decide) ?_
                refine x_iload_n C d_Pe_isA_7 0 rfl rfl ?_
                refine x_bipush C d_Pe_isA_8 (v := 6) (by decide) ?_
                refine x_icmp_gt C d_Pe_isA_10 41 (by decide) (fun c_53 => ?_) (fun c_53 => ?_)
                · exact absurd c_53 (by decide)
                · have nc_53 := Int32.not_lt.mp c_53
                  refine x_iload_n C d_Pe_isA_13 1 rfl rfl ?_
                  refine x_bipush C d_Pe_isA_14 (v := 6) (by decide) ?_
                  refine x_callNi C (c_TP_within Z (-1) 6 (g)) mi_TP_within (List.mem_of_getElem? (i := 3) rfl) (As := [.int ((-1)), .int (6)]) ⟨Nat.le_of_ble_eq_true rfl, Nat.le_of_ble_eq_true rfl⟩ rfl rfl (Nat.le_of_ble_eq_true rfl) d_Pe_isA_16 ?_
                  refine x_ifeqB C d_Pe_isA_19 41 (by decide) (fun c_54 => ?_) (fun c_54 => ?_)
                  · refine x_iconst C d_Pe_isA_41 (v := 0) (by decide) ?_
                    exact x_zret C (by decide) (bI_f (by rw [show g t (pI i 0) = (5 : Int32) from hkk]; simp [isU, *])).symm rfl d_Pe_isA_42
                  · exact absurd c_54 (by decide)
              · refine x_iconst C d_Pe_isA_27 (v := 1) (by decide) ?_
                exact x_zret C (by decide) (bI_t (by rw [show g t (pI i 0) = (5 : Int32) from hkk]; subst w; decide)).symm rfl d_Pe_isA_28
        · refine x_iconst C d_Pe_isA_27 (v := 1) (by decide) ?_
          exact x_zret C (by decide) (bI_t (by rw [show g t (pI i 0) = (5 : Int32) from hkk]; subst w; decide)).symm rfl d_Pe_isA_28
  · refine x_aload_n C d_Pe_isA_0 0 rfl rfl ?_
    refine gf_Pe_kind C (by omega) (by omega) (v := 6) hkk k_36 d_Pe_isA_1 ?_
    refine x_istore_n C d_Pe_isA_4 rfl (by decide) (lv' := [(2, .int (6)), (0, .ref (Z.2.1 (18 + 12 * t + i))), (1, .int (w))]) rfl ?_
    refine x_iconst C d_Pe_isA_5 (v := 0) (by decide) ?_
    refine x_topi (show (0 : Int32) = nI 0 by decide) ?_
    refine x_istore_n C d_Pe_isA_6 rfl (by decide) (lv' := [(3, .int (nI 0)), (2, .int (6)), (0, .ref (Z.2.1 (18 + 12 * t + i))), (1, .int (w))]) rfl ?_
    refine x_iload_n C d_Pe_isA_7 0 rfl rfl ?_
    refine x_bipush C d_Pe_isA_8 (v := 6) (by decide) ?_
    refine x_icmp_gt C d_Pe_isA_10 41 (by decide) (fun c_55 => ?_) (fun c_55 => ?_)
    · exact absurd c_55 (by decide)
    · have nc_55 := Int32.not_lt.mp c_55
      refine x_iload_n C d_Pe_isA_13 1 rfl rfl ?_
      refine x_bipush C d_Pe_isA_14 (v := 6) (by decide) ?_
      refine x_callNi C (c_TP_within Z 6 6 (g)) mi_TP_within (List.mem_of_getElem? (i := 3) rfl) (As := [.int (6), .int (6)]) ⟨Nat.le_of_ble_eq_true rfl, Nat.le_of_ble_eq_true rfl⟩ rfl rfl (Nat.le_of_ble_eq_true rfl) d_Pe_isA_16 ?_
      refine x_ifeqB C d_Pe_isA_19 41 (by decide) (fun c_56 => ?_) (fun c_56 => ?_)
      · exact absurd c_56 (by decide)
      · refine x_iload_n C d_Pe_isA_22 1 rfl rfl ?_
        refine x_iload_n C d_Pe_isA_23 3 rfl rfl ?_
        refine x_icmp_ne C d_Pe_isA_24 29 (by decide) (fun c_57 => ?_) (fun c_57 => ?_)
        · have nc_57 := Ne.symm c_57
          refine x_getst1N C (List.mem_of_getElem? (i := 4) rfl) d_Pe_isA_29 ?_
          refine x_iload_n C d_Pe_isA_32 1 rfl rfl ?_
          refine x_stld1 C 6 (by decide) (by decide) rfl d_Pe_isA_33 ?_
          refine x_istore_n C d_Pe_isA_34 rfl (by decide) (lv' := [(2, .int (1)), (3, .int (nI 0)), (0, .ref (Z.2.1 (18 + 12 * t + i))), (1, .int (w))]) rfl ?_
          refine x_iinc C d_Pe_isA_35 1 rfl (v := nI 1) (nI_1 _) (by decide) (lv' := [(3, .int (nI 1)), (2, .int (1)), (0, .ref (Z.2.1 (18 + 12 * t + i))), (1, .int (w))]) rfl ?_
          refine x_goto C d_Pe_isA_38 7 (by decide) ?_
          refine x_iload_n C d_Pe_isA_7 0 rfl rfl ?_
          refine x_bipush C d_Pe_isA_8 (v := 6) (by decide) ?_
          refine x_icmp_gt C d_Pe_isA_10 41 (by decide) (fun c_58 => ?_) (fun c_58 => ?_)
          · exact absurd c_58 (by decide)
          · have nc_58 := Int32.not_lt.mp c_58
            refine x_iload_n C d_Pe_isA_13 1 rfl rfl ?_
            refine x_bipush C d_Pe_isA_14 (v := 6) (by decide) ?_
            refine x_callNi C (c_TP_within Z 1 6 (g)) mi_TP_within (List.mem_of_getElem? (i := 3) rfl) (As := [.int (1), .int (6)]) ⟨Nat.le_of_ble_eq_true rfl, Nat.le_of_ble_eq_true rfl⟩ rfl rfl (Nat.le_of_ble_eq_true rfl) d_Pe_isA_16 ?_
            refine x_ifeqB C d_Pe_isA_19 41 (by decide) (fun c_59 => ?_) (fun c_59 => ?_)
            · exact absurd c_59 (by decide)
            · refine x_iload_n C d_Pe_isA_22 1 rfl rfl ?_
              refine x_iload_n C d_Pe_isA_23 3 rfl rfl ?_
              refine x_icmp_ne C d_Pe_isA_24 29 (by decide) (fun c_60 => ?_) (fun c_60 => ?_)
              · have nc_60 := Ne.symm c_60
                refine x_getst1N C (List.mem_of_getElem? (i := 4) rfl) d_Pe_isA_29 ?_
                refine x_iload_n C d_Pe_isA_32 1 rfl rfl ?_
                refine x_stld1 C 1 (by decide) (by decide) rfl d_Pe_isA_33 ?_
                refine x_istore_n C d_Pe_isA_34 rfl (by decide) (lv' := [(2, .int (0)), (3, .int (nI 1)), (0, .ref (Z.2.1 (18 + 12 * t + i))), (1, .int (w))]) rfl ?_
                refine x_iinc C d_Pe_isA_35 1 rfl (v := nI 2) (nI_1 _) (by decide) (lv' := [(3, .int (nI 2)), (2, .int (0)), (0, .ref (Z.2.1 (18 + 12 * t + i))), (1, .int (w))]) rfl ?_
                refine x_goto C d_Pe_isA_38 7 (by decide) ?_
                refine x_iload_n C d_Pe_isA_7 0 rfl rfl ?_
                refine x_bipush C d_Pe_isA_8 (v := 6) (by decide) ?_
                refine x_icmp_gt C d_Pe_isA_10 41 (by decide) (fun c_61 => ?_) (fun c_61 => ?_)
                · exact absurd c_61 (by decide)
                · have nc_61 := Int32.not_lt.mp c_61
                  refine x_iload_n C d_Pe_isA_13 1 rfl rfl ?_
                  refine x_bipush C d_Pe_isA_14 (v := 6) (by decide) ?_
                  refine x_callNi C (c_TP_within Z 0 6 (g)) mi_TP_within (List.mem_of_getElem? (i := 3) rfl) (As := [.int (0), .int (6)]) ⟨Nat.le_of_ble_eq_true rfl, Nat.le_of_ble_eq_true rfl⟩ rfl rfl (Nat.le_of_ble_eq_true rfl) d_Pe_isA_16 ?_
                  refine x_ifeqB C d_Pe_isA_19 41 (by decide) (fun c_62 => ?_) (fun c_62 => ?_)
                  · exact absurd c_62 (by decide)
                  · refine x_iload_n C d_Pe_isA_22 1 rfl rfl ?_
                    refine x_iload_n C d_Pe_isA_23 3 rfl rfl ?_
                    refine x_icmp_ne C d_Pe_isA_24 29 (by decide) (fun c_63 => ?_) (fun c_63 => ?_)
                    · have nc_63 := Ne.symm c_63
                      refine x_getst1N C (List.mem_of_getElem? (i := 4) rfl) d_Pe_isA_29 ?_
                      refine x_iload_n C d_Pe_isA_32 1 rfl rfl ?_
                      refine x_stld1 C 0 (by decide) (by decide) rfl d_Pe_isA_33 ?_
                      refine x_istore_n C d_Pe_isA_34 rfl (by decide) (lv' := [(2, .int ((-1))), (3, .int (nI 2)), (0, .ref (Z.2.1 (18 + 12 * t + i))), (1, .int (w))]) rfl ?_
                      refine x_iinc C d_Pe_isA_35 1 rfl (v := nI 3) (nI_1 _) (by decide) (lv' := [(3, .int (nI 3)), (2, .int ((-1))), (0, .ref (Z.2.1 (18 + 12 * t + i))), (1, .int (w))]) rfl ?_
                      refine x_goto C d_Pe_isA_38 7 (by decide) ?_
                      refine x_iload_n C d_Pe_isA_7 0 rfl rfl ?_
                      refine x_bipush C d_Pe_isA_8 (v := 6) (by decide) ?_
                      refine x_icmp_gt C d_Pe_isA_10 41 (by decide) (fun c_64 => ?_) (fun c_64 => ?_)
                      · exact absurd c_64 (by decide)
                      · have nc_64 := Int32.not_lt.mp c_64
                        refine x_iload_n C d_Pe_isA_13 1 rfl rfl ?_
                        refine x_bipush C d_Pe_isA_14 (v := 6) (by decide) ?_
                        refine x_callNi C (c_TP_within Z (-1) 6 (g)) mi_TP_within (List.mem_of_getElem? (i := 3) rfl) (As := [.int ((-1)), .int (6)]) ⟨Nat.le_of_ble_eq_true rfl, Nat.le_of_ble_eq_true rfl⟩ rfl rfl (Nat.le_of_ble_eq_true rfl) d_Pe_isA_16 ?_
                        refine x_ifeqB C d_Pe_isA_19 41 (by decide) (fun c_65 => ?_) (fun c_65 => ?_)
                        · refine x_iconst C d_Pe_isA_41 (v := 0) (by decide) ?_
                          exact x_zret C (by decide) (bI_f (by rw [show g t (pI i 0) = (6 : Int32) from hkk]; simp [isU, *])).symm rfl d_Pe_isA_42
                        · exact absurd c_65 (by decide)
                    · refine x_iconst C d_Pe_isA_27 (v := 1) (by decide) ?_
                      exact x_zret C (by decide) (bI_t (by rw [show g t (pI i 0) = (6 : Int32) from hkk]; subst w; decide)).symm rfl d_Pe_isA_28
              · refine x_iconst C d_Pe_isA_27 (v := 1) (by decide) ?_
                exact x_zret C (by decide) (bI_t (by rw [show g t (pI i 0) = (6 : Int32) from hkk]; subst w; decide)).symm rfl d_Pe_isA_28
        · refine x_iconst C d_Pe_isA_27 (v := 1) (by decide) ?_
          exact x_zret C (by decide) (bI_t (by rw [show g t (pI i 0) = (6 : Int32) from hkk]; subst w; decide)).symm rfl d_Pe_isA_28

set_option maxRecDepth 100000 in
set_option maxHeartbeats 600000 in
theorem c_Tu_pairsMeeting (Z : ZT) (t : Nat) (ht : t < 3) (g : St)  (r : Nat → Int32) (hr : g t = r) (hk : okR r) : CT yC Z y_Tu_pairsMeeting b_Tu_pairsMeeting 4 (some (.int)) 2 43 [.ref (Z.2.1 (14 + 12 * t))] (g) (QcI yC Z (prO (sz r) r (sz r)) (g)) := by
  refine CT.mk "TunnelPeace$Tunnel" (by decide) rfl (Nat.le_of_ble_eq_true rfl) (fun X C => ?_)
  refine x_lv [0] (lv' := [(0, .ref (Z.2.1 (14 + 12 * t)))]) rfl ?_
  subst hr
  obtain ⟨⟨n, hn8, hn⟩, dd, hdd, hd⟩ := hk
  refine x_iconst C d_Tu_pairsMeeting_0 (v := 0) (by decide) ?_
  refine x_istore_n C d_Tu_pairsMeeting_1 rfl (by decide) (lv' := [(1, .int (0)), (0, .ref (Z.2.1 (14 + 12 * t)))]) rfl ?_
  refine x_iconst C d_Tu_pairsMeeting_2 (v := 0) (by decide) ?_
  refine x_topi (show (0 : Int32) = nI 0 by decide) ?_
  refine x_istore_n C d_Tu_pairsMeeting_3 rfl (by decide) (lv' := [(2, .int (nI 0)), (1, .int (0)), (0, .ref (Z.2.1 (14 + 12 * t)))]) rfl ?_
  have LP_4 : ∀ (f_ a : Nat), a ≤ n → n - a < f_ → WX X 4 yC Z (QX X yC Z (QcI yC Z (prO (sz (g t)) (g t) (sz (g t))) (g))) (g) 4 [(2, .int (nI a)), (1, .int (prO n (g t) (a))), (0, .ref (Z.2.1 (14 + 12 * t)))] [] := by
    intro f_
    induction f_ with
    | zero => intro a h1_ h2_; exact absurd h2_ (Nat.not_lt_zero _)
    | succ f_ ih_4 =>
      intro a hi_4 hf_4
      refine x_iload_n C d_Tu_pairsMeeting_4 0 rfl rfl ?_
      refine x_aload_n C d_Tu_pairsMeeting_5 2 rfl rfl ?_
      refine gf_Tu_size C (by omega) (v := nI n) hn k_74 d_Tu_pairsMeeting_6 ?_
      refine x_icmp_ge C d_Tu_pairsMeeting_9 57 (by decide) (fun c_1 => ?_) (fun c_1 => ?_)
      · have nc_1 := Int32.not_lt.mpr c_1
        have mc_1 : n ≤ a := (nI_leI (by omega) (by omega)).mp (show nI n ≤ nI a from c_1)
        have e_a : n = a := by omega
        subst e_a
        refine x_iload_n C d_Tu_pairsMeeting_57 1 rfl rfl ?_
        exact x_iret C (by rw [sz_of hn hn8]) rfl d_Tu_pairsMeeting_58
      · have nc_1 := Int32.not_le.mp c_1
        have mc_1 : ¬ n ≤ a := fun z_ => (show ¬ nI n ≤ nI a from c_1) ((nI_leI (by omega) (by omega)).mpr z_)
        refine x_iload_n C d_Tu_pairsMeeting_12 0 rfl rfl ?_
        refine x_iconst C d_Tu_pairsMeeting_13 (v := 1) (by decide) ?_
        refine x_iadd C d_Tu_pairsMeeting_14 ?_
        refine x_topi (x' := nI (a + 1 + 0)) (nI_1 a) ?_
        refine x_istore_n C d_Tu_pairsMeeting_15 rfl (by decide) (lv' := [(3, .int (nI (a + 1 + 0))), (2, .int (nI a)), (1, .int (prO n (g t) (a))), (0, .ref (Z.2.1 (14 + 12 * t)))]) rfl ?_
        have LP_16 : ∀ (f_ k : Nat), k ≤ n - (a + 1) → (n - (a + 1)) - k < f_ → WX X 4 yC Z (QX X yC Z (QcI yC Z (prO (sz (g t)) (g t) (sz (g t))) (g))) (g) 16 [(3, .int (nI (a + 1 + k))), (2, .int (nI a)), (1, .int (prI a (g t) (prO n (g t) a) (k))), (0, .ref (Z.2.1 (14 + 12 * t)))] [] := by
          intro f_
          induction f_ with
          | zero => intro k h1_ h2_; exact absurd h2_ (Nat.not_lt_zero _)
          | succ f_ ih_16 =>
            intro k hi_16 hf_16
            refine x_iload_n C d_Tu_pairsMeeting_16 0 rfl rfl ?_
            refine x_aload_n C d_Tu_pairsMeeting_17 3 rfl rfl ?_
            refine gf_Tu_size C (by omega) (v := nI n) hn k_74 d_Tu_pairsMeeting_18 ?_
            refine x_icmp_ge C d_Tu_pairsMeeting_21 51 (by decide) (fun c_2 => ?_) (fun c_2 => ?_)
            · have nc_2 := Int32.not_lt.mpr c_2
              have mc_2 : n ≤ a + 1 + k := (nI_leI (by omega) (by omega)).mp (show nI n ≤ nI (a + 1 + k) from c_2)
              have e_k : n - (a + 1) = k := by omega
              subst e_k
              refine x_iinc C d_Tu_pairsMeeting_51 1 rfl (v := nI (a + 1)) (nI_1 _) (by decide) (lv' := [(2, .int (nI (a + 1))), (3, .int (nI (a + 1 + (n - (a + 1))))), (1, .int (prI a (g t) (prO n (g t) a) ((n - (a + 1))))), (0, .ref (Z.2.1 (14 + 12 * t)))]) rfl ?_
              refine x_goto C d_Tu_pairsMeeting_54 4 (by decide) ?_
              refine x_lv [0, 2, 3] (lv' := [(2, .int (nI (a + 1))), (1, .int (prI a (g t) (prO n (g t) a) ((n - (a + 1))))), (0, .ref (Z.2.1 (14 + 12 * t)))]) rfl ?_
              refine x_lve (lv' := [(2, .int (nI (a + 1))), (1, .int (prO n (g t) (a + 1))), (0, .ref (Z.2.1 (14 + 12 * t)))]) rfl ?_
              exact ih_4 (a + 1) (by omega) (by omega)
            · have nc_2 := Int32.not_le.mp c_2
              have mc_2 : ¬ n ≤ a + 1 + k := fun z_ => (show ¬ nI n ≤ nI (a + 1 + k) from c_2) ((nI_leI (by omega) (by omega)).mpr z_)
              refine x_aload_n C d_Tu_pairsMeeting_24 3 rfl rfl ?_
              refine gf_Tu_people C (by omega) k_81 d_Tu_pairsMeeting_25 ?_
              refine x_iload_n C d_Tu_pairsMeeting_28 1 rfl rfl ?_
              refine al_pp C (by omega) a rfl (by omega) d_Tu_pairsMeeting_29 ?_
              refine x_aload_n C d_Tu_pairsMeeting_30 3 rfl rfl ?_
              refine gf_Tu_people C (by omega) k_81 d_Tu_pairsMeeting_31 ?_
              refine x_iload_n C d_Tu_pairsMeeting_34 0 rfl rfl ?_
              refine al_pp C (by omega) (a + 1 + k) rfl (by omega) d_Tu_pairsMeeting_35 ?_
              refine x_callVi C (c_Pe_wouldMeet Z t a (a + 1 + k) (by omega) (by omega) (by omega) (g) _ rfl) mi_Pe_wouldMeet k_327 (show 18 + 12 * t + a < 50 by omega) (e_Pe Z t (by omega) _) rfl (As := [.ref (Z.2.1 (18 + 12 * t + (a + 1 + k)))]) ⟨Nat.le_of_ble_eq_true rfl, Nat.le_of_ble_eq_true rfl⟩ rfl rfl (Nat.le_of_ble_eq_true rfl) d_Tu_pairsMeeting_36 ?_
              refine x_ifeqB C d_Tu_pairsMeeting_39 45 (by decide) (fun c_3 => ?_) (fun c_3 => ?_)
              · refine x_iinc C d_Tu_pairsMeeting_45 0 rfl (v := nI (a + 1 + k + 1)) (nI_1 _) (by decide) (lv' := [(3, .int (nI (a + 1 + k + 1))), (2, .int (nI a)), (1, .int (prI a (g t) (prO n (g t) a) (k))), (0, .ref (Z.2.1 (14 + 12 * t)))]) rfl ?_
                refine x_goto C d_Tu_pairsMeeting_48 16 (by decide) ?_
                refine x_lve (lv' := [(3, .int (nI (a + 1 + (k + 1)))), (2, .int (nI a)), (1, .int (prI a (g t) (prO n (g t) a) (k + 1))), (0, .ref (Z.2.1 (14 + 12 * t)))]) (by first | rfl | (simp [prI, *]; rfl) | (simp [prI, *]; done)) ?_
                exact ih_16 (k + 1) (by omega) (by omega)
              · refine x_iinc C d_Tu_pairsMeeting_42 2 rfl (v := (prI a (g t) (prO n (g t) a) (k)) + 1) rfl (by decide) (lv' := [(1, .int ((prI a (g t) (prO n (g t) a) (k)) + 1)), (3, .int (nI (a + 1 + k))), (2, .int (nI a)), (0, .ref (Z.2.1 (14 + 12 * t)))]) rfl ?_
                refine x_iinc C d_Tu_pairsMeeting_45 1 rfl (v := nI (a + 1 + k + 1)) (nI_1 _) (by decide) (lv' := [(3, .int (nI (a + 1 + k + 1))), (1, .int ((prI a (g t) (prO n (g t) a) (k)) + 1)), (2, .int (nI a)), (0, .ref (Z.2.1 (14 + 12 * t)))]) rfl ?_
                refine x_goto C d_Tu_pairsMeeting_48 16 (by decide) ?_
                refine x_lv [0, 2, 1, 3] (lv' := [(3, .int (nI (a + 1 + k + 1))), (2, .int (nI a)), (1, .int ((prI a (g t) (prO n (g t) a) (k)) + 1)), (0, .ref (Z.2.1 (14 + 12 * t)))]) rfl ?_
                refine x_lve (lv' := [(3, .int (nI (a + 1 + (k + 1)))), (2, .int (nI a)), (1, .int (prI a (g t) (prO n (g t) a) (k + 1))), (0, .ref (Z.2.1 (14 + 12 * t)))]) (by first | rfl | (simp [prI, *]; rfl) | (simp [prI, *]; done)) ?_
                exact ih_16 (k + 1) (by omega) (by omega)
        refine x_lve (lv' := [(3, .int (nI (a + 1 + 0))), (2, .int (nI a)), (1, .int (prI a (g t) (prO n (g t) a) (0))), (0, .ref (Z.2.1 (14 + 12 * t)))]) rfl ?_
        exact LP_16 (n - (a + 1) + 1) 0 (Nat.zero_le _) (by omega)
  refine x_lve (lv' := [(2, .int (nI 0)), (1, .int (prO n (g t) (0))), (0, .ref (Z.2.1 (14 + 12 * t)))]) rfl ?_
  exact LP_4 (n + 1) 0 (Nat.zero_le _) (by omega)

set_option maxRecDepth 100000 in
set_option maxHeartbeats 600000 in
theorem c_Tu_whoMetMost (Z : ZT) (t : Nat) (ht : t < 3) (g : St)  (r : Nat → Int32) (hr : g t = r) (hk : okR r) : CT yC Z y_Tu_whoMetMost b_Tu_whoMetMost 3 (some (.int)) 0 0 [.ref (Z.2.1 (14 + 12 * t))] (g) (QcI yC Z (oI (mosN r (sz r))) (g)) := by
  refine CT.mk "TunnelPeace$Tunnel" (by decide) rfl (Nat.le_of_ble_eq_true rfl) (fun X C => ?_)
  refine x_lv [0] (lv' := [(0, .ref (Z.2.1 (14 + 12 * t)))]) rfl ?_
  subst hr
  obtain ⟨⟨n, hn8, hn⟩, dd, hdd, hd⟩ := hk
  refine x_iconst C d_Tu_whoMetMost_0 (v := -1) (by decide) ?_
  refine x_istore_n C d_Tu_whoMetMost_1 rfl (by decide) (lv' := [(1, .int ((-1))), (0, .ref (Z.2.1 (14 + 12 * t)))]) rfl ?_
  refine x_iconst C d_Tu_whoMetMost_2 (v := 0) (by decide) ?_
  refine x_topi (show (0 : Int32) = nI 0 by decide) ?_
  refine x_istore_n C d_Tu_whoMetMost_3 rfl (by decide) (lv' := [(2, .int (nI 0)), (1, .int ((-1))), (0, .ref (Z.2.1 (14 + 12 * t)))]) rfl ?_
  have LP_4 : ∀ (f_ i : Nat), i ≤ n → n - i < f_ → WX X 3 yC Z (QX X yC Z (QcI yC Z (oI (mosN (g t) (sz (g t)))) (g))) (g) 4 [(2, .int (nI i)), (1, .int (oI (mosN (g t) (i)))), (0, .ref (Z.2.1 (14 + 12 * t)))] [] := by
    intro f_
    induction f_ with
    | zero => intro i h1_ h2_; exact absurd h2_ (Nat.not_lt_zero _)
    | succ f_ ih_4 =>
      intro i hi_4 hf_4
      rcases hm : mosN (g t) i with _ | b
      · refine x_lve (lv' := [(2, .int (nI i)), (1, .int ((-1))), (0, .ref (Z.2.1 (14 + 12 * t)))]) rfl ?_
        refine x_iload_n C d_Tu_whoMetMost_4 0 rfl rfl ?_
        refine x_aload_n C d_Tu_whoMetMost_5 2 rfl rfl ?_
        refine gf_Tu_size C (by omega) (v := nI n) hn k_74 d_Tu_whoMetMost_6 ?_
        refine x_icmp_ge C d_Tu_whoMetMost_9 45 (by decide) (fun c_1 => ?_) (fun c_1 => ?_)
        · have nc_1 := Int32.not_lt.mpr c_1
          have mc_1 : n ≤ i := (nI_leI (by omega) (by omega)).mp (show nI n ≤ nI i from c_1)
          have e_i : n = i := by omega
          subst e_i
          refine x_iload_n C d_Tu_whoMetMost_45 1 rfl rfl ?_
          exact x_iret C (by rw [sz_of hn hn8]; first | (rw [hm]; rfl) | rfl) rfl d_Tu_whoMetMost_46
        · have nc_1 := Int32.not_le.mp c_1
          have mc_1 : ¬ n ≤ i := fun z_ => (show ¬ nI n ≤ nI i from c_1) ((nI_leI (by omega) (by omega)).mpr z_)
          refine x_iload_n C d_Tu_whoMetMost_12 1 rfl rfl ?_
          refine x_iflt C d_Tu_whoMetMost_13 37 (by decide) (fun c_2 => ?_) (fun c_2 => ?_)
          · have nc_2 := Int32.not_le.mpr c_2
            refine x_iload_n C d_Tu_whoMetMost_37 0 rfl rfl ?_
            refine x_istore_n C d_Tu_whoMetMost_38 rfl (by decide) (lv' := [(1, .int (nI i)), (2, .int (nI i)), (0, .ref (Z.2.1 (14 + 12 * t)))]) rfl ?_
            refine x_iinc C d_Tu_whoMetMost_39 1 rfl (v := nI (i + 1)) (nI_1 _) (by decide) (lv' := [(2, .int (nI (i + 1))), (1, .int (nI i)), (0, .ref (Z.2.1 (14 + 12 * t)))]) rfl ?_
            refine x_goto C d_Tu_whoMetMost_42 4 (by decide) ?_
            refine x_lve (lv' := [(2, .int (nI (i + 1))), (1, .int (oI (mosN (g t) (i + 1)))), (0, .ref (Z.2.1 (14 + 12 * t)))]) (by simp [mosN, hm, oI, *]) ?_
            exact ih_4 (i + 1) (by omega) (by omega)
          · exact absurd c_2 (by decide)
      · have hbi := mosN_lt hm
        refine x_lve (lv' := [(2, .int (nI i)), (1, .int (nI b)), (0, .ref (Z.2.1 (14 + 12 * t)))]) rfl ?_
        refine x_iload_n C d_Tu_whoMetMost_4 0 rfl rfl ?_
        refine x_aload_n C d_Tu_whoMetMost_5 2 rfl rfl ?_
        refine gf_Tu_size C (by omega) (v := nI n) hn k_74 d_Tu_whoMetMost_6 ?_
        refine x_icmp_ge C d_Tu_whoMetMost_9 45 (by decide) (fun c_3 => ?_) (fun c_3 => ?_)
        · have nc_3 := Int32.not_lt.mpr c_3
          have mc_3 : n ≤ i := (nI_leI (by omega) (by omega)).mp (show nI n ≤ nI i from c_3)
          have e_i : n = i := by omega
          subst e_i
          refine x_iload_n C d_Tu_whoMetMost_45 1 rfl rfl ?_
          exact x_iret C (by rw [sz_of hn hn8]; first | (rw [hm]; rfl) | rfl) rfl d_Tu_whoMetMost_46
        · have nc_3 := Int32.not_le.mp c_3
          have mc_3 : ¬ n ≤ i := fun z_ => (show ¬ nI n ≤ nI i from c_3) ((nI_leI (by omega) (by omega)).mpr z_)
          refine x_iload_n C d_Tu_whoMetMost_12 1 rfl rfl ?_
          refine x_iflt C d_Tu_whoMetMost_13 37 (by decide) (fun c_4 => ?_) (fun c_4 => ?_)
          · exact absurd c_4 (nI_pos (by omega))
          · have nc_4 := Int32.not_lt.mp c_4
            refine x_aload_n C d_Tu_whoMetMost_16 2 rfl rfl ?_
            refine gf_Tu_people C (by omega) k_81 d_Tu_whoMetMost_17 ?_
            refine x_iload_n C d_Tu_whoMetMost_20 0 rfl rfl ?_
            refine al_pp C (by omega) i rfl (by omega) d_Tu_whoMetMost_21 ?_
            refine gf_Pe_met C (by omega) (by omega) (v := g t (pI i 5)) rfl k_51 d_Tu_whoMetMost_22 ?_
            refine x_aload_n C d_Tu_whoMetMost_25 2 rfl rfl ?_
            refine gf_Tu_people C (by omega) k_81 d_Tu_whoMetMost_26 ?_
            refine x_iload_n C d_Tu_whoMetMost_29 1 rfl rfl ?_
            refine al_pp C (by omega) b rfl (by omega) d_Tu_whoMetMost_30 ?_
            refine gf_Pe_met C (by omega) (by omega) (v := g t (pI b 5)) rfl k_51 d_Tu_whoMetMost_31 ?_
            refine x_icmp_le C d_Tu_whoMetMost_34 39 (by decide) (fun c_5 => ?_) (fun c_5 => ?_)
            · have nc_5 := Int32.not_lt.mpr c_5
              refine x_iinc C d_Tu_whoMetMost_39 0 rfl (v := nI (i + 1)) (nI_1 _) (by decide) (lv' := [(2, .int (nI (i + 1))), (1, .int (nI b)), (0, .ref (Z.2.1 (14 + 12 * t)))]) rfl ?_
              refine x_goto C d_Tu_whoMetMost_42 4 (by decide) ?_
              refine x_lve (lv' := [(2, .int (nI (i + 1))), (1, .int (oI (mosN (g t) (i + 1)))), (0, .ref (Z.2.1 (14 + 12 * t)))]) (by simp [mosN, hm, oI, *]) ?_
              exact ih_4 (i + 1) (by omega) (by omega)
            · have nc_5 := Int32.not_le.mp c_5
              refine x_iload_n C d_Tu_whoMetMost_37 0 rfl rfl ?_
              refine x_istore_n C d_Tu_whoMetMost_38 rfl (by decide) (lv' := [(1, .int (nI i)), (2, .int (nI i)), (0, .ref (Z.2.1 (14 + 12 * t)))]) rfl ?_
              refine x_iinc C d_Tu_whoMetMost_39 1 rfl (v := nI (i + 1)) (nI_1 _) (by decide) (lv' := [(2, .int (nI (i + 1))), (1, .int (nI i)), (0, .ref (Z.2.1 (14 + 12 * t)))]) rfl ?_
              refine x_goto C d_Tu_whoMetMost_42 4 (by decide) ?_
              refine x_lve (lv' := [(2, .int (nI (i + 1))), (1, .int (oI (mosN (g t) (i + 1)))), (0, .ref (Z.2.1 (14 + 12 * t)))]) (by simp [mosN, hm, oI, *]) ?_
              exact ih_4 (i + 1) (by omega) (by omega)
  refine x_lve (lv' := [(2, .int (nI 0)), (1, .int (oI (mosN (g t) (0)))), (0, .ref (Z.2.1 (14 + 12 * t)))]) rfl ?_
  exact LP_4 (n + 1) 0 (Nat.zero_le _) (by omega)

set_option maxRecDepth 100000 in
set_option maxHeartbeats 600000 in
theorem c_Tu_meetsSomebodyAt (Z : ZT) (t : Nat) (ht : t < 3) (p : Nat) (hp : p < 8) (c : Int32) (g : St)  (r : Nat → Int32) (hr : g t = r) (hk : okR r) : CT yC Z y_Tu_meetsSomebodyAt b_Tu_meetsSomebodyAt 4 (some (.boolean)) 1 22 [.ref (Z.2.1 (14 + 12 * t)), .int (nI p), .int (c)] (g) (QcI yC Z (bI (mabN r p c (sz r) = true)) (g)) := by
  refine CT.mk "TunnelPeace$Tunnel" (by decide) rfl (Nat.le_of_ble_eq_true rfl) (fun X C => ?_)
  refine x_lv [0, 1, 2] (lv' := [(0, .ref (Z.2.1 (14 + 12 * t))), (1, .int (nI p)), (2, .int (c))]) rfl ?_
  subst hr
  obtain ⟨⟨n, hn8, hn⟩, dd, hdd, hd⟩ := hk
  refine x_iconst C d_Tu_meetsSomebodyAt_0 (v := 0) (by decide) ?_
  refine x_topi (show (0 : Int32) = nI 0 by decide) ?_
  refine x_istore_n C d_Tu_meetsSomebodyAt_1 rfl (by decide) (lv' := [(3, .int (nI 0)), (0, .ref (Z.2.1 (14 + 12 * t))), (1, .int (nI p)), (2, .int (c))]) rfl ?_
  have LP_2 : ∀ (f_ i : Nat), i ≤ n → n - i < f_ → (mabN (g t) p c i = false) → WX X 4 yC Z (QX X yC Z (QcI yC Z (bI (mabN (g t) p c (sz (g t)) = true)) (g))) (g) 2 [(3, .int (nI i)), (0, .ref (Z.2.1 (14 + 12 * t))), (1, .int (nI p)), (2, .int (c))] [] := by
    intro f_
    induction f_ with
    | zero => intro i h1_ h2_ _; exact absurd h2_ (Nat.not_lt_zero _)
    | succ f_ ih_2 =>
      intro i hi_2 hf_2 hy_2
      refine x_iload_n C d_Tu_meetsSomebodyAt_2 0 rfl rfl ?_
      refine x_aload_n C d_Tu_meetsSomebodyAt_3 1 rfl rfl ?_
      refine gf_Tu_size C (by omega) (v := nI n) hn k_74 d_Tu_meetsSomebodyAt_4 ?_
      refine x_icmp_ge C d_Tu_meetsSomebodyAt_7 37 (by decide) (fun c_1 => ?_) (fun c_1 => ?_)
      · have nc_1 := Int32.not_lt.mpr c_1
        have mc_1 : n ≤ i := (nI_leI (by omega) (by omega)).mp (show nI n ≤ nI i from c_1)
        have e_i : n = i := by omega
        subst e_i
        refine x_iconst C d_Tu_meetsSomebodyAt_37 (v := 0) (by decide) ?_
        exact x_zret C (by decide) (bI_f (by rw [sz_of hn hn8, hy_2]; decide)).symm rfl d_Tu_meetsSomebodyAt_38
      · have nc_1 := Int32.not_le.mp c_1
        have mc_1 : ¬ n ≤ i := fun z_ => (show ¬ nI n ≤ nI i from c_1) ((nI_leI (by omega) (by omega)).mpr z_)
        refine x_aload_n C d_Tu_meetsSomebodyAt_10 1 rfl rfl ?_
        refine gf_Tu_people C (by omega) k_81 d_Tu_meetsSomebodyAt_11 ?_
        refine x_iload_n C d_Tu_meetsSomebodyAt_14 2 rfl rfl ?_
        refine al_pp C (by omega) p rfl (by omega) d_Tu_meetsSomebodyAt_15 ?_
        refine x_iload_n C d_Tu_meetsSomebodyAt_16 3 rfl rfl ?_
        refine x_aload_n C d_Tu_meetsSomebodyAt_17 1 rfl rfl ?_
        refine gf_Tu_people C (by omega) k_81 d_Tu_meetsSomebodyAt_18 ?_
        refine x_iload_n C d_Tu_meetsSomebodyAt_21 0 rfl rfl ?_
        refine al_pp C (by omega) i rfl (by omega) d_Tu_meetsSomebodyAt_22 ?_
        refine x_callVi C (c_Pe_wouldMeetAt Z t p i (by omega) (by omega) (by omega) c (g) _ rfl) mi_Pe_wouldMeetAt k_545 (show 18 + 12 * t + p < 50 by omega) (e_Pe Z t (by omega) _) rfl (As := [.int (c), .ref (Z.2.1 (18 + 12 * t + i))]) ⟨Nat.le_of_ble_eq_true rfl, Nat.le_of_ble_eq_true rfl⟩ rfl rfl (Nat.le_of_ble_eq_true rfl) d_Tu_meetsSomebodyAt_23 ?_
        refine x_ifeqB C d_Tu_meetsSomebodyAt_26 31 (by decide) (fun c_2 => ?_) (fun c_2 => ?_)
        · refine x_iinc C d_Tu_meetsSomebodyAt_31 0 rfl (v := nI (i + 1)) (nI_1 _) (by decide) (lv' := [(3, .int (nI (i + 1))), (0, .ref (Z.2.1 (14 + 12 * t))), (1, .int (nI p)), (2, .int (c))]) rfl ?_
          refine x_goto C d_Tu_meetsSomebodyAt_34 2 (by decide) ?_
          exact ih_2 (i + 1) (by omega) (by omega) (mabN_s hy_2 (by assumption))
        · refine x_iconst C d_Tu_meetsSomebodyAt_29 (v := 1) (by decide) ?_
          exact x_zret C (by decide) (bI_t (by rw [sz_of hn hn8]; exact mabN_t (i := i) (by omega) (by assumption))).symm rfl d_Tu_meetsSomebodyAt_30
  exact LP_2 (n + 1) 0 (Nat.zero_le _) (by omega) rfl

set_option maxRecDepth 100000 in
set_option maxHeartbeats 600000 in
theorem c_Tu_cellsToMeetAt (Z : ZT) (t : Nat) (ht : t < 3) (p : Nat) (hp : p < 8) (g : St)  (r : Nat → Int32) (hr : g t = r) (hk : okR r) : CT yC Z y_Tu_cellsToMeetAt b_Tu_cellsToMeetAt 4 (some (.int)) 2 45 [.ref (Z.2.1 (14 + 12 * t)), .int (nI p)] (g) (QcI yC Z (ctmN r p (sz r) 16) (g)) := by
  refine CT.mk "TunnelPeace$Tunnel" (by decide) rfl (Nat.le_of_ble_eq_true rfl) (fun X C => ?_)
  refine x_lv [0, 1] (lv' := [(0, .ref (Z.2.1 (14 + 12 * t))), (1, .int (nI p))]) rfl ?_
  subst hr
  refine x_iconst C d_Tu_cellsToMeetAt_0 (v := 0) (by decide) ?_
  refine x_istore_n C d_Tu_cellsToMeetAt_1 rfl (by decide) (lv' := [(2, .int (0)), (0, .ref (Z.2.1 (14 + 12 * t))), (1, .int (nI p))]) rfl ?_
  refine x_iconst C d_Tu_cellsToMeetAt_2 (v := 0) (by decide) ?_
  refine x_topi (show (0 : Int32) = nI 0 by decide) ?_
  refine x_istore_n C d_Tu_cellsToMeetAt_3 rfl (by decide) (lv' := [(3, .int (nI 0)), (2, .int (0)), (0, .ref (Z.2.1 (14 + 12 * t))), (1, .int (nI p))]) rfl ?_
  have LP_4 : ∀ (f_ c : Nat), c ≤ 16 → 16 - c < f_ → WX X 4 yC Z (QX X yC Z (QcI yC Z (ctmN (g t) p (sz (g t)) 16) (g))) (g) 4 [(3, .int (nI c)), (2, .int (ctmN (g t) p (sz (g t)) (c))), (0, .ref (Z.2.1 (14 + 12 * t))), (1, .int (nI p))] [] := by
    intro f_
    induction f_ with
    | zero => intro c h1_ h2_; exact absurd h2_ (Nat.not_lt_zero _)
    | succ f_ ih_4 =>
      intro c hi_4 hf_4
      refine x_iload_n C d_Tu_cellsToMeetAt_4 0 rfl rfl ?_
      refine x_bipush C d_Tu_cellsToMeetAt_5 (v := 16) (by decide) ?_
      refine x_icmp_ge C d_Tu_cellsToMeetAt_7 28 (by decide) (fun c_1 => ?_) (fun c_1 => ?_)
      · have nc_1 := Int32.not_lt.mpr c_1
        have mc_1 : 16 ≤ c := (nI_leI (by omega) (by omega)).mp (show nI 16 ≤ nI c from c_1)
        have e_c : 16 = c := by omega
        subst e_c
        refine x_iload_n C d_Tu_cellsToMeetAt_28 1 rfl rfl ?_
        exact x_iret C (by simp_all) rfl d_Tu_cellsToMeetAt_29
      · have nc_1 := Int32.not_le.mp c_1
        have mc_1 : ¬ 16 ≤ c := fun z_ => (show ¬ nI 16 ≤ nI c from c_1) ((nI_leI (by omega) (by omega)).mpr z_)
        refine x_aload_n C d_Tu_cellsToMeetAt_10 2 rfl rfl ?_
        refine x_iload_n C d_Tu_cellsToMeetAt_11 3 rfl rfl ?_
        refine x_iload_n C d_Tu_cellsToMeetAt_12 0 rfl rfl ?_
        refine x_callVi C (c_Tu_meetsSomebodyAt Z t (by omega) p (by omega) (nI c) (g) _ rfl hk) mi_Tu_meetsSomebodyAt k_541 (show 14 + 12 * t < 50 by omega) (e_Tu Z t _) rfl (As := [.int (nI p), .int (nI c)]) ⟨Nat.le_of_ble_eq_true rfl, Nat.le_of_ble_eq_true rfl⟩ rfl rfl (Nat.le_of_ble_eq_true rfl) d_Tu_cellsToMeetAt_13 ?_
        refine x_ifeqB C d_Tu_cellsToMeetAt_16 22 (by decide) (fun c_2 => ?_) (fun c_2 => ?_)
        · refine x_iinc C d_Tu_cellsToMeetAt_22 0 rfl (v := nI (c + 1)) (nI_1 _) (by decide) (lv' := [(3, .int (nI (c + 1))), (2, .int (ctmN (g t) p (sz (g t)) (c))), (0, .ref (Z.2.1 (14 + 12 * t))), (1, .int (nI p))]) rfl ?_
          refine x_goto C d_Tu_cellsToMeetAt_25 4 (by decide) ?_
          refine x_lve (lv' := [(3, .int (nI (c + 1))), (2, .int (ctmN (g t) p (sz (g t)) (c + 1))), (0, .ref (Z.2.1 (14 + 12 * t))), (1, .int (nI p))]) (by first | rfl | simp [ctmN, *]) ?_
          exact ih_4 (c + 1) (by omega) (by omega)
        · refine x_iinc C d_Tu_cellsToMeetAt_19 1 rfl (v := (ctmN (g t) p (sz (g t)) (c)) + 1) rfl (by decide) (lv' := [(2, .int ((ctmN (g t) p (sz (g t)) (c)) + 1)), (3, .int (nI c)), (0, .ref (Z.2.1 (14 + 12 * t))), (1, .int (nI p))]) rfl ?_
          refine x_iinc C d_Tu_cellsToMeetAt_22 1 rfl (v := nI (c + 1)) (nI_1 _) (by decide) (lv' := [(3, .int (nI (c + 1))), (2, .int ((ctmN (g t) p (sz (g t)) (c)) + 1)), (0, .ref (Z.2.1 (14 + 12 * t))), (1, .int (nI p))]) rfl ?_
          refine x_goto C d_Tu_cellsToMeetAt_25 4 (by decide) ?_
          refine x_lve (lv' := [(3, .int (nI (c + 1))), (2, .int (ctmN (g t) p (sz (g t)) (c + 1))), (0, .ref (Z.2.1 (14 + 12 * t))), (1, .int (nI p))]) (by first | rfl | simp [ctmN, *]) ?_
          exact ih_4 (c + 1) (by omega) (by omega)
  refine x_lve (lv' := [(3, .int (nI 0)), (2, .int (ctmN (g t) p (sz (g t)) (0))), (0, .ref (Z.2.1 (14 + 12 * t))), (1, .int (nI p))]) rfl ?_
  exact LP_4 (16 + 1) 0 (Nat.zero_le _) (by omega)

set_option maxRecDepth 100000 in
set_option maxHeartbeats 600000 in
theorem c_Tu_draw (Z : ZT) (t : Nat) (ht : t < 3) (g : St)  (r : Nat → Int32) (hr : g t = r) : CT yC Z y_Tu_draw b_Tu_draw 1 (some (.int)) 0 0 [.ref (Z.2.1 (14 + 12 * t))] (g) (QcI yC Z (ush8 (drw (r 2))) (va_up g t (upd r 2 (drw (r 2))))) := by
  refine CT.mk "TunnelPeace$Tunnel" (by decide) rfl (Nat.le_of_ble_eq_true rfl) (fun X C => ?_)
  refine x_lv [0] (lv' := [(0, .ref (Z.2.1 (14 + 12 * t)))]) rfl ?_
  subst hr
  refine x_aload_n C d_Tu_draw_0 0 rfl rfl ?_
  refine x_aload_n C d_Tu_draw_1 0 rfl rfl ?_
  refine gf_Tu_z C (by omega) (v := g t 2) rfl k_72 d_Tu_draw_2 ?_
  refine x_ldc C d_Tu_draw_5 k_530 ?_
  refine x_imul C d_Tu_draw_7 ?_
  refine x_sipush C d_Tu_draw_8 (v := 12345) (by decide) ?_
  refine x_iadd C d_Tu_draw_11 ?_
  refine pf_Tu_z C (by omega) (v := ((g t 2) * (1103515245)) + 12345) (G := va_up g t (upd (g t) 2 (((g t 2) * (1103515245)) + 12345))) rfl k_72 d_Tu_draw_12 ?_
  refine x_aload_n C d_Tu_draw_15 0 rfl rfl ?_
  refine gf_Tu_z C (by omega) (v := ((g t 2) * (1103515245)) + 12345) (Eq.trans (congrFun (va_up_self _ _ _) _) pk_us) k_72 d_Tu_draw_16 ?_
  refine x_bipush C d_Tu_draw_19 (v := 8) (by decide) ?_
  refine x_iushr C d_Tu_draw_21 ?_
  refine x_topi (x' := ush8 (((g t 2) * (1103515245)) + 12345)) rfl ?_
  exact x_iret C rfl rfl d_Tu_draw_22

theorem in_of {x : Int32} {n : Nat} (h : 0 ≤ x ∧ x < nI n) (hn : n < 2 ^ 31) : ∃ p, p < n ∧ x = nI p := by
  obtain ⟨p, hp, e⟩ := nI_of (Int32.not_lt.mpr h.1)
  refine ⟨p, ?_, e⟩
  rw [e] at h
  exact (nI_ltI hp hn).mp h.2

set_option maxRecDepth 100000 in
set_option maxHeartbeats 600000 in
theorem c_Tu_passDrawnDay (Z : ZT) (t : Nat) (ht : t < 3) (g : St)  (r : Nat → Int32) (hr : g t = r) (hk : okR r) : CT yC Z y_Tu_passDrawnDay b_Tu_passDrawnDay 2 none 4 94 [.ref (Z.2.1 (14 + 12 * t))] (g) (QcV yC Z (va_up g t (drdR r))) := by
  refine CT.mk "TunnelPeace$Tunnel" (by decide) rfl (Nat.le_of_ble_eq_true rfl) (fun X C => ?_)
  refine x_lv [0] (lv' := [(0, .ref (Z.2.1 (14 + 12 * t)))]) rfl ?_
  subst hr
  have hk0 := hk
  obtain ⟨⟨n, hn8, hn⟩, dd, hdd, hd⟩ := hk
  refine x_aload_n C d_Tu_passDrawnDay_0 0 rfl rfl ?_
  refine gf_Tu_list C (by omega) k_77 d_Tu_passDrawnDay_1 ?_
  refine x_aload_n C d_Tu_passDrawnDay_4 0 rfl rfl ?_
  refine gf_Tu_day C (by omega) (v := g t 0) rfl k_66 d_Tu_passDrawnDay_5 ?_
  refine x_bipush C d_Tu_passDrawnDay_8 (v := 6) (by decide) ?_
  refine x_irem C d_Tu_passDrawnDay_10 (by decide) ?_
  refine x_topi (x' := nI (dd % 6)) (by rw [hd]; exact pk_rem (d := 6) (by omega) (by decide) (by decide)) ?_
  refine x_aload_n C d_Tu_passDrawnDay_11 0 rfl rfl ?_
  refine x_callVi C (c_Tu_draw Z t (by omega) (g) _ rfl) mi_Tu_draw k_526 (show 14 + 12 * t < 50 by omega) (e_Tu Z t _) rfl (As := []) ⟨Nat.le_of_ble_eq_true rfl, Nat.le_of_ble_eq_true rfl⟩ rfl rfl (Nat.le_of_ble_eq_true rfl) d_Tu_passDrawnDay_12 ?_
  refine x_bipush C d_Tu_passDrawnDay_15 (v := 16) (by decide) ?_
  refine x_irem C d_Tu_passDrawnDay_17 (by decide) ?_
  refine x_topi (x' := rm16 (ush8 (drw ((g t) 2)))) rfl ?_
  refine as_li C (by omega) (dd % 6) (v := rm16 (ush8 (drw ((g t) 2)))) rfl (by omega) (G := va_up g t (upd (upd (g t) 2 (drw ((g t) 2))) (4 + (dd % 6)) (rm16 (ush8 (drw ((g t) 2)))))) up_va d_Tu_passDrawnDay_18 ?_
  have hR2 : (upd (upd (g t) 2 (drw (g t 2))) (4 + dd % 6) (rm16 (ush8 (drw (g t 2))))) 2 = drw (g t 2) := (pk_un (by omega)).trans pk_us
  have hR1b : (upd (upd (g t) 2 (drw (g t 2))) (4 + dd % 6) (rm16 (ush8 (drw (g t 2))))) 1 = nI n := (pk_un (by omega)).trans ((pk_un (by decide)).trans hn)
  have hR1 : (upd (upd (upd (g t) 2 (drw (g t 2))) (4 + dd % 6) (rm16 (ush8 (drw (g t 2))))) 2 (drw (drw (g t 2)))) 1 = nI n := (pk_un (by decide)).trans ((pk_un (by omega)).trans ((pk_un (by decide)).trans hn))
  refine x_aload_n C d_Tu_passDrawnDay_19 0 rfl rfl ?_
  refine x_callVi C (c_Tu_draw Z t ht (va_up g t (upd (upd (g t) 2 (drw ((g t) 2))) (4 + (dd % 6)) (rm16 (ush8 (drw ((g t) 2)))))) _ (va_up_self _ _ _)) mi_Tu_draw k_526 (show 14 + 12 * t < 50 by omega) (e_Tu Z t _) rfl (As := []) ⟨Nat.le_of_ble_eq_true rfl, Nat.le_of_ble_eq_true rfl⟩ rfl rfl (Nat.le_of_ble_eq_true rfl) d_Tu_passDrawnDay_20 ?_
  refine x_eqg (g' := va_up g t (upd (upd (upd (g t) 2 (drw (g t 2))) (4 + dd % 6) (rm16 (ush8 (drw (g t 2))))) 2 (drw (drw (g t 2))))) (by rw [bx_uu, hR2]) ?_
  refine x_topi (x' := ush8 (drw (drw (g t 2)))) (by rw [hR2]) ?_
  refine x_bipush C d_Tu_passDrawnDay_23 (v := 8) (by decide) ?_
  refine x_irem C d_Tu_passDrawnDay_25 (by decide) ?_
  refine x_topi (x' := rm8 (ush8 (drw (drw (g t 2))))) rfl ?_
  refine x_istore_n C d_Tu_passDrawnDay_26 rfl (by decide) (lv' := [(1, .int (rm8 (ush8 (drw (drw (g t 2)))))), (0, .ref (Z.2.1 (14 + 12 * t)))]) rfl ?_
  have J_63 : WX X 2 yC Z (QX X yC Z (QcV yC Z (va_up g t (drdR (g t))))) (va_up g t (drnR (g t))) 63 [(0, .ref (Z.2.1 (14 + 12 * t)))] [] := by
    refine x_aload_n C d_Tu_passDrawnDay_63 0 rfl rfl ?_
    refine x_callVv C (c_Tu_passDay Z t (by omega) (va_up g t (drnR (g t))) _ (va_up_self _ _ _) (okR_drn hk0)) mi_Tu_passDay k_306 (show 14 + 12 * t < 50 by omega) (e_Tu Z t _) rfl (As := []) ⟨Nat.le_of_ble_eq_true rfl, Nat.le_of_ble_eq_true rfl⟩ rfl rfl (Nat.le_of_ble_eq_true rfl) d_Tu_passDrawnDay_64 ?_
    refine x_eqg (g' := va_up g t (dayR (drnR (g t)))) (bx_uu _ _ _ _) ?_
    exact x_vret C rfl d_Tu_passDrawnDay_67
  refine x_aload_n C d_Tu_passDrawnDay_27 1 rfl rfl ?_
  refine x_iload_n C d_Tu_passDrawnDay_28 0 rfl rfl ?_
  refine x_callVi C (c_Tu_has Z t (by omega) (rm8 (ush8 (drw (drw (g t 2))))) (va_up g t (upd (upd (upd (g t) 2 (drw (g t 2))) (4 + dd % 6) (rm16 (ush8 (drw (g t 2))))) 2 (drw (drw (g t 2))))) _ (Eq.trans (Eq.trans (congrFun (va_up_self _ _ _) _) (pk_un (by first | decide | (simp only [pI]; omega)))) hR1b)) mi_Tu_has k_531 (show 14 + 12 * t < 50 by omega) (e_Tu Z t _) rfl (As := [.int (rm8 (ush8 (drw (drw (g t 2)))))]) ⟨Nat.le_of_ble_eq_true rfl, Nat.le_of_ble_eq_true rfl⟩ rfl rfl (Nat.le_of_ble_eq_true rfl) d_Tu_passDrawnDay_29 ?_
  refine x_ifeqB C d_Tu_passDrawnDay_32 63 (by decide) (fun c_1 => ?_) (fun c_1 => ?_)
  · refine x_lv [1] (lv' := [(0, .ref (Z.2.1 (14 + 12 * t)))]) rfl ?_
    refine x_eqg (g' := va_up g t (drnR (g t))) (by unfold drnR bagR; rw [dy_of hd hdd]; rw [hR1]; first | rw [if_neg (by assumption)] | (rw [if_pos (by assumption), epp, nI_clamp (by omega)]; rw [show (upd (upd (upd (g t) 2 (drw (g t 2))) (4 + dd % 6) (rm16 (ush8 (drw (g t 2))))) 2 (drw (drw (g t 2)))) (pI pp 4) = (upd (upd (g t) 2 (drw (g t 2))) (4 + dd % 6) (rm16 (ush8 (drw (g t 2))))) (pI pp 4) from pk_un (by simp only [pI]; omega)])) ?_
    exact J_63
  · obtain ⟨pp, hpp, epp⟩ : ∃ pp, pp < n ∧ rm8 (ush8 (drw (drw (g t 2)))) = nI pp := in_of (by assumption) (by omega)
    refine x_lve (lv' := [(1, .int (nI pp)), (0, .ref (Z.2.1 (14 + 12 * t)))]) (by rw [epp]) ?_
    refine x_aload_n C d_Tu_passDrawnDay_35 1 rfl rfl ?_
    refine gf_Tu_people C (by omega) k_81 d_Tu_passDrawnDay_36 ?_
    refine x_iload_n C d_Tu_passDrawnDay_39 0 rfl rfl ?_
    refine al_pp C (by omega) pp rfl (by omega) d_Tu_passDrawnDay_40 ?_
    refine x_getst0N C (List.mem_of_getElem? (i := 2) rfl) d_Tu_passDrawnDay_41 ?_
    refine x_iconst C d_Tu_passDrawnDay_44 (v := 4) (by decide) ?_
    refine x_stld0 C 4 (by decide) (by decide) rfl d_Tu_passDrawnDay_45 ?_
    refine x_aload_n C d_Tu_passDrawnDay_46 1 rfl rfl ?_
    refine gf_Tu_people C (by omega) k_81 d_Tu_passDrawnDay_47 ?_
    refine x_iload_n C d_Tu_passDrawnDay_50 0 rfl rfl ?_
    refine al_pp C (by omega) pp rfl (by omega) d_Tu_passDrawnDay_51 ?_
    refine gf_Pe_bags C (by omega) (by omega) (v := (upd (upd (g t) 2 (drw (g t 2))) (4 + dd % 6) (rm16 (ush8 (drw (g t 2))))) (pI pp 4)) (Eq.trans (congrFun (va_up_self _ _ _) _) (pk_un (by first | decide | (simp only [pI]; omega)))) k_48 d_Tu_passDrawnDay_52 ?_
    refine x_iconst C d_Tu_passDrawnDay_55 (v := 1) (by decide) ?_
    refine x_iadd C d_Tu_passDrawnDay_56 ?_
    refine x_mn C k_334 (Nat.le_of_ble_eq_true rfl) (Nat.le_of_ble_eq_true rfl) d_Tu_passDrawnDay_57 ?_
    refine pf_Pe_bags C (by omega) (by omega) (v := mn 9 (((upd (upd (g t) 2 (drw (g t 2))) (4 + dd % 6) (rm16 (ush8 (drw (g t 2))))) (pI pp 4)) + 1)) (G := va_up g t (upd (upd (upd (upd (g t) 2 (drw (g t 2))) (4 + dd % 6) (rm16 (ush8 (drw (g t 2))))) 2 (drw (drw (g t 2)))) (pI pp 4) (mn 9 (((upd (upd (g t) 2 (drw (g t 2))) (4 + dd % 6) (rm16 (ush8 (drw (g t 2))))) (pI pp 4)) + 1)))) up_va k_48 d_Tu_passDrawnDay_60 ?_
    refine x_lv [1] (lv' := [(0, .ref (Z.2.1 (14 + 12 * t)))]) rfl ?_
    refine x_eqg (g' := va_up g t (drnR (g t))) (by unfold drnR bagR; rw [dy_of hd hdd]; rw [hR1]; first | rw [if_neg (by assumption)] | (rw [if_pos (by assumption), epp, nI_clamp (by omega)]; rw [show (upd (upd (upd (g t) 2 (drw (g t 2))) (4 + dd % 6) (rm16 (ush8 (drw (g t 2))))) 2 (drw (drw (g t 2)))) (pI pp 4) = (upd (upd (g t) 2 (drw (g t 2))) (4 + dd % 6) (rm16 (ush8 (drw (g t 2))))) (pI pp 4) from pk_un (by simp only [pI]; omega)])) ?_
    exact J_63

set_option maxRecDepth 100000 in
set_option maxHeartbeats 600000 in
theorem c_Tu_become (Z : ZT) (t t2 : Nat) (ht : t < 3) (ht2 : t2 < 3) (hne : t2 ≠ t) (g : St)  (r : Nat → Int32) (hr : g t = r) (r2 : Nat → Int32) (hr2 : g t2 = r2) (hk : okR r2) : CT yC Z y_Tu_become b_Tu_become 3 none 1 26 [.ref (Z.2.1 (14 + 12 * t)), .ref (Z.2.1 (14 + 12 * t2))] (g) (QcV yC Z (va_up g t (becR r r2))) := by
  refine CT.mk "TunnelPeace$Tunnel" (by decide) rfl (Nat.le_of_ble_eq_true rfl) (fun X C => ?_)
  refine x_lv [0, 1] (lv' := [(0, .ref (Z.2.1 (14 + 12 * t))), (1, .ref (Z.2.1 (14 + 12 * t2)))]) rfl ?_
  subst hr
  subst hr2
  obtain ⟨⟨n, hn8, hn⟩, -⟩ := hk
  refine x_aload_n C d_Tu_become_0 0 rfl rfl ?_
  refine x_aload_n C d_Tu_become_1 1 rfl rfl ?_
  refine gf_Tu_day C (by omega) (v := g t2 0) rfl k_66 d_Tu_become_2 ?_
  refine pf_Tu_day C (by omega) (v := g t2 0) (G := va_up g t (upd (g t) 0 (g t2 0))) rfl k_66 d_Tu_become_5 ?_
  refine x_aload_n C d_Tu_become_8 0 rfl rfl ?_
  refine x_aload_n C d_Tu_become_9 1 rfl rfl ?_
  refine gf_Tu_guns C (by omega) (v := g t2 3) (congrFun (va_up_ne _ _ (by omega)) _) k_68 d_Tu_become_10 ?_
  refine pf_Tu_guns C (by omega) (v := g t2 3) (G := va_up g t (upd (upd (g t) 0 (g t2 0)) 3 (g t2 3))) up_va k_68 d_Tu_become_13 ?_
  refine x_aload_n C d_Tu_become_16 0 rfl rfl ?_
  refine x_aload_n C d_Tu_become_17 1 rfl rfl ?_
  refine gf_Tu_z C (by omega) (v := g t2 2) (congrFun (va_up_ne _ _ (by omega)) _) k_72 d_Tu_become_18 ?_
  refine pf_Tu_z C (by omega) (v := g t2 2) (G := va_up g t (upd (upd (upd (g t) 0 (g t2 0)) 3 (g t2 3)) 2 (g t2 2))) up_va k_72 d_Tu_become_21 ?_
  refine x_aload_n C d_Tu_become_24 0 rfl rfl ?_
  refine x_aload_n C d_Tu_become_25 1 rfl rfl ?_
  refine gf_Tu_size C (by omega) (v := nI n) (Eq.trans (congrFun (va_up_ne _ _ (by omega)) _) hn) k_74 d_Tu_become_26 ?_
  refine pf_Tu_size C (by omega) (v := nI n) (G := va_up g t (upd (upd (upd (upd (g t) 0 (g t2 0)) 3 (g t2 3)) 2 (g t2 2)) 1 (nI n))) up_va k_74 d_Tu_become_29 ?_
  refine x_aload_n C d_Tu_become_32 1 rfl rfl ?_
  refine gf_Tu_list C (by omega) k_77 d_Tu_become_33 ?_
  refine x_iconst C d_Tu_become_36 (v := 0) (by decide) ?_
  refine x_aload_n C d_Tu_become_37 0 rfl rfl ?_
  refine gf_Tu_list C (by omega) k_77 d_Tu_become_38 ?_
  refine x_iconst C d_Tu_become_41 (v := 0) (by decide) ?_
  refine x_bipush C d_Tu_become_42 (v := 6) (by decide) ?_
  refine x_acopy C k_384 d_Tu_become_44 (show 15 + 12 * t2 < 50 by omega) (show 15 + 12 * t < 50 by omega) (e_li Z t2 _) (e_li Z t _) 0 0 6 (by decide) (by decide) (by decide) (by decide) (by decide) (by decide) (by decide) (Nat.le_of_ble_eq_true rfl) (Nat.le_of_ble_eq_true rfl) (sw_L (by omega) (by omega)) ?_
  refine x_eqg (g' := va_up g t (cpL (upd (upd (upd (upd (g t) 0 (g t2 0)) 3 (g t2 3)) 2 (g t2 2)) 1 (nI n)) (g t2))) (by rw [va_up_self, va_up_ne _ _ hne]; exact bx_uu _ _ _ _) ?_
  refine x_aload_n C d_Tu_become_47 1 rfl rfl ?_
  refine gf_Tu_spots C (by omega) k_86 d_Tu_become_48 ?_
  refine x_iconst C d_Tu_become_51 (v := 0) (by decide) ?_
  refine x_aload_n C d_Tu_become_52 0 rfl rfl ?_
  refine gf_Tu_spots C (by omega) k_86 d_Tu_become_53 ?_
  refine x_iconst C d_Tu_become_56 (v := 0) (by decide) ?_
  refine x_bipush C d_Tu_become_57 (v := 10) (by decide) ?_
  refine x_acopy C k_384 d_Tu_become_59 (show 16 + 12 * t2 < 50 by omega) (show 16 + 12 * t < 50 by omega) (e_sp Z t2 _) (e_sp Z t _) 0 0 10 (by decide) (by decide) (by decide) (by decide) (by decide) (by decide) (by decide) (Nat.le_of_ble_eq_true rfl) (Nat.le_of_ble_eq_true rfl) (sw_S (by omega) (by omega)) ?_
  refine x_eqg (g' := va_up g t (cpS (cpL (upd (upd (upd (upd (g t) 0 (g t2 0)) 3 (g t2 3)) 2 (g t2 2)) 1 (nI n)) (g t2)) (g t2))) (by rw [va_up_self, va_up_ne _ _ hne]; exact bx_uu _ _ _ _) ?_
  refine x_iconst C d_Tu_become_62 (v := 0) (by decide) ?_
  refine x_topi (show (0 : Int32) = nI 0 by decide) ?_
  refine x_istore_n C d_Tu_become_63 rfl (by decide) (lv' := [(2, .int (nI 0)), (0, .ref (Z.2.1 (14 + 12 * t))), (1, .ref (Z.2.1 (14 + 12 * t2)))]) rfl ?_
  have LP_64 : ∀ (f_ i : Nat), i ≤ n → n - i < f_ → WX X 3 yC Z (QX X yC Z (QcV yC Z (va_up g t (becR (g t) (g t2))))) (va_up g t (bcmN (cpS (cpL (upd (upd (upd (upd (g t) 0 (g t2 0)) 3 (g t2 3)) 2 (g t2 2)) 1 (nI n)) (g t2)) (g t2)) (g t2) (i))) 64 [(2, .int (nI i)), (0, .ref (Z.2.1 (14 + 12 * t))), (1, .ref (Z.2.1 (14 + 12 * t2)))] [] := by
    intro f_
    induction f_ with
    | zero => intro i h1_ h2_; exact absurd h2_ (Nat.not_lt_zero _)
    | succ f_ ih_64 =>
      intro i hi_64 hf_64
      refine x_iload_n C d_Tu_become_64 0 rfl rfl ?_
      refine x_aload_n C d_Tu_become_65 1 rfl rfl ?_
      refine gf_Tu_size C (by omega) (v := nI n) (Eq.trans (Eq.trans (Eq.trans (Eq.trans (congrFun (va_up_self _ _ _) _) (bcmN_hd (by decide))) (cpS_hd (by decide))) (cpL_hd (by decide))) pk_us) k_74 d_Tu_become_66 ?_
      refine x_icmp_ge C d_Tu_become_69 93 (by decide) (fun c_1 => ?_) (fun c_1 => ?_)
      · have nc_1 := Int32.not_lt.mpr c_1
        have mc_1 : n ≤ i := (nI_leI (by omega) (by omega)).mp (show nI n ≤ nI i from c_1)
        have e_i : n = i := by omega
        subst e_i
        exact x_vret C (by unfold becR; rw [sz_of hn hn8, hn]) d_Tu_become_93
      · have nc_1 := Int32.not_le.mp c_1
        have mc_1 : ¬ n ≤ i := fun z_ => (show ¬ nI n ≤ nI i from c_1) ((nI_leI (by omega) (by omega)).mpr z_)
        refine x_aload_n C d_Tu_become_72 1 rfl rfl ?_
        refine gf_Tu_people C (by omega) k_81 d_Tu_become_73 ?_
        refine x_iload_n C d_Tu_become_76 0 rfl rfl ?_
        refine al_pp C (by omega) i rfl (by omega) d_Tu_become_77 ?_
        refine x_aload_n C d_Tu_become_78 2 rfl rfl ?_
        refine gf_Tu_people C (by omega) k_81 d_Tu_become_79 ?_
        refine x_iload_n C d_Tu_become_82 0 rfl rfl ?_
        refine al_pp C (by omega) i rfl (by omega) d_Tu_become_83 ?_
        refine x_callVv C (c_Pe_become Z t t2 i (by omega) (by omega) (by omega) (by omega) (va_up g t (bcmN (cpS (cpL (upd (upd (upd (upd (g t) 0 (g t2 0)) 3 (g t2 3)) 2 (g t2 2)) 1 (nI n)) (g t2)) (g t2)) (g t2) (i))) _ (va_up_self _ _ _) _ (va_up_ne _ _ (by omega))) mi_Pe_become k_387 (show 18 + 12 * t + i < 50 by omega) (e_Pe Z t (by omega) _) rfl (As := [.ref (Z.2.1 (18 + 12 * t2 + i))]) ⟨Nat.le_of_ble_eq_true rfl, Nat.le_of_ble_eq_true rfl⟩ rfl rfl (Nat.le_of_ble_eq_true rfl) d_Tu_become_84 ?_
        refine x_eqg (g' := va_up g t (bcmR (bcmN (cpS (cpL (upd (upd (upd (upd (g t) 0 (g t2 0)) 3 (g t2 3)) 2 (g t2 2)) 1 (nI n)) (g t2)) (g t2)) (g t2) (i)) (g t2) i)) (bx_uu _ _ _ _) ?_
        refine x_iinc C d_Tu_become_87 0 rfl (v := nI (i + 1)) (nI_1 _) (by decide) (lv' := [(2, .int (nI (i + 1))), (0, .ref (Z.2.1 (14 + 12 * t))), (1, .ref (Z.2.1 (14 + 12 * t2)))]) rfl ?_
        refine x_goto C d_Tu_become_90 64 (by decide) ?_
        refine x_eqg (g' := va_up g t (bcmN (cpS (cpL (upd (upd (upd (upd (g t) 0 (g t2 0)) 3 (g t2 3)) 2 (g t2 2)) 1 (nI n)) (g t2)) (g t2)) (g t2) (i + 1))) rfl ?_
        exact ih_64 (i + 1) (by omega) (by omega)
  refine x_eqg (g' := va_up g t (bcmN (cpS (cpL (upd (upd (upd (upd (g t) 0 (g t2 0)) 3 (g t2 3)) 2 (g t2 2)) 1 (nI n)) (g t2)) (g t2)) (g t2) (0))) rfl ?_
  exact LP_64 (n + 1) 0 (Nat.zero_le _) (by omega)
