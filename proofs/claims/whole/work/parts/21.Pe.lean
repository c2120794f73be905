set_option maxRecDepth 100000 in
set_option maxHeartbeats 600000 in
theorem c_TP_within (Z : ZT) (v m : Int32) (g : St)  : CT yC Z y_TP_within b_TP_within 2 (some (.boolean)) 0 0 [.int (v), .int (m)] (g) (QcI yC Z (bI (0 ≤ v ∧ v ≤ m)) (g)) := by
  refine CT.mk "TunnelPeace" (by decide) rfl (Nat.le_of_ble_eq_true rfl) (fun X C => ?_)
  refine x_lv [0, 1] (lv' := [(0, .int (v)), (1, .int (m))]) rfl ?_
  refine x_iload_n C d_TP_within_0 0 rfl rfl ?_
  refine x_iflt C d_TP_within_1 13 (by decide) (fun c_1 => ?_) (fun c_1 => ?_)
  · have nc_1 := Int32.not_le.mpr c_1
    refine x_iconst C d_TP_within_13 (v := 0) (by decide) ?_
    exact x_zret C (by decide) (bI_f (by simp [*])).symm rfl d_TP_within_14
  · have nc_1 := Int32.not_lt.mp c_1
    refine x_iload_n C d_TP_within_4 0 rfl rfl ?_
    refine x_iload_n C d_TP_within_5 1 rfl rfl ?_
    refine x_icmp_gt C d_TP_within_6 13 (by decide) (fun c_2 => ?_) (fun c_2 => ?_)
    · have nc_2 := Int32.not_le.mpr c_2
      refine x_iconst C d_TP_within_13 (v := 0) (by decide) ?_
      exact x_zret C (by decide) (bI_f (by simp [*])).symm rfl d_TP_within_14
    · have nc_2 := Int32.not_lt.mp c_2
      refine x_iconst C d_TP_within_9 (v := 1) (by decide) ?_
      refine x_goto C d_TP_within_10 14 (by decide) ?_
      exact x_zret C (by decide) (bI_t (by simp [*])).symm rfl d_TP_within_14

set_option maxRecDepth 100000 in
set_option maxHeartbeats 600000 in
theorem c_Pe_lift (Z : ZT) (t i : Nat) (ht : t < 3) (hi : i < 8) (g : St)  (r : Nat → Int32) (hr : g t = r) : CT yC Z y_Pe_lift b_Pe_lift 1 (some (.int)) 0 0 [.ref (Z.2.1 (18 + 12 * t + i))] (g) (QcI yC Z (lft (r (pI i 1))) (g)) := by
  refine CT.mk "TunnelPeace$Person" (by decide) rfl (Nat.le_of_ble_eq_true rfl) (fun X C => ?_)
  refine x_lv [0] (lv' := [(0, .ref (Z.2.1 (18 + 12 * t + i)))]) rfl ?_
  subst hr
  refine x_aload_n C d_Pe_lift_0 0 rfl rfl ?_
  refine gf_Pe_side C (by omega) (by omega) (v := g t (pI i 1)) rfl k_38 d_Pe_lift_1 ?_
  refine x_ifne C d_Pe_lift_4 11 (by decide) (fun c_1 => ?_) (fun c_1 => ?_)
  · refine x_bipush C d_Pe_lift_11 (v := 15) (by decide) ?_
    exact x_iret C (by simp [lft, *]) rfl d_Pe_lift_13
  · refine x_iconst C d_Pe_lift_7 (v := 0) (by decide) ?_
    refine x_goto C d_Pe_lift_8 13 (by decide) ?_
    exact x_iret C (by simp [lft, *]) rfl d_Pe_lift_13

set_option maxRecDepth 100000 in
set_option maxHeartbeats 600000 in
theorem c_Pe_isAbroad (Z : ZT) (t i : Nat) (ht : t < 3) (hi : i < 8) (g : St)  (r : Nat → Int32) (hr : g t = r) : CT yC Z y_Pe_isAbroad b_Pe_isAbroad 1 (some (.boolean)) 0 0 [.ref (Z.2.1 (18 + 12 * t + i))] (g) (QcI yC Z (bI (abr (r (pI i 1)) (r (pI i 2)) = true)) (g)) := by
  refine CT.mk "TunnelPeace$Person" (by decide) rfl (Nat.le_of_ble_eq_true rfl) (fun X C => ?_)
  refine x_lv [0] (lv' := [(0, .ref (Z.2.1 (18 + 12 * t + i)))]) rfl ?_
  subst hr
  refine x_aload_n C d_Pe_isAbroad_0 0 rfl rfl ?_
  refine gf_Pe_side C (by omega) (by omega) (v := g t (pI i 1)) rfl k_38 d_Pe_isAbroad_1 ?_
  refine x_ifne C d_Pe_isAbroad_4 24 (by decide) (fun c_1 => ?_) (fun c_1 => ?_)
  · refine x_aload_n C d_Pe_isAbroad_24 0 rfl rfl ?_
    refine gf_Pe_cell C (by omega) (by omega) (v := g t (pI i 2)) rfl k_40 d_Pe_isAbroad_25 ?_
    refine x_bipush C d_Pe_isAbroad_28 (v := 8) (by decide) ?_
    refine x_icmp_ge C d_Pe_isAbroad_30 37 (by decide) (fun c_2 => ?_) (fun c_2 => ?_)
    · have nc_2 := Int32.not_lt.mpr c_2
      refine x_iconst C d_Pe_isAbroad_37 (v := 0) (by decide) ?_
      exact x_zret C (by decide) (bI_f (by first | (simp [abr, *]; done) | (simp_all [abr]; done))).symm rfl d_Pe_isAbroad_38
    · have nc_2 := Int32.not_le.mp c_2
      refine x_iconst C d_Pe_isAbroad_33 (v := 1) (by decide) ?_
      refine x_goto C d_Pe_isAbroad_34 38 (by decide) ?_
      exact x_zret C (by decide) (bI_t (by first | (simp [abr, *]; done) | (simp_all [abr]; done))).symm rfl d_Pe_isAbroad_38
  · refine x_aload_n C d_Pe_isAbroad_7 0 rfl rfl ?_
    refine gf_Pe_cell C (by omega) (by omega) (v := g t (pI i 2)) rfl k_40 d_Pe_isAbroad_8 ?_
    refine x_bipush C d_Pe_isAbroad_11 (v := 7) (by decide) ?_
    refine x_icmp_le C d_Pe_isAbroad_13 20 (by decide) (fun c_3 => ?_) (fun c_3 => ?_)
    · have nc_3 := Int32.not_lt.mpr c_3
      refine x_iconst C d_Pe_isAbroad_20 (v := 0) (by decide) ?_
      refine x_goto C d_Pe_isAbroad_21 38 (by decide) ?_
      exact x_zret C (by decide) (bI_f (by first | (simp [abr, *]; done) | (simp_all [abr]; done))).symm rfl d_Pe_isAbroad_38
    · have nc_3 := Int32.not_le.mp c_3
      refine x_iconst C d_Pe_isAbroad_16 (v := 1) (by decide) ?_
      refine x_goto C d_Pe_isAbroad_17 38 (by decide) ?_
      exact x_zret C (by decide) (bI_t (by first | (simp [abr, *]; done) | (simp_all [abr]; done))).symm rfl d_Pe_isAbroad_38

set_option maxRecDepth 100000 in
set_option maxHeartbeats 600000 in
theorem c_Pe_steps (Z : ZT) (t i : Nat) (ht : t < 3) (hi : i < 8) (d : Int32) (g : St)  (r : Nat → Int32) (hr : g t = r) : CT yC Z y_Pe_steps b_Pe_steps 5 (some (.int)) 1 21 [.ref (Z.2.1 (18 + 12 * t + i)), .int (d)] (g) (QcI yC Z (stp (r (pI i 0)) (r (pI i 4)) d) (g)) := by
  refine CT.mk "TunnelPeace$Person" (by decide) rfl (Nat.le_of_ble_eq_true rfl) (fun X C => ?_)
  refine x_lv [0, 1] (lv' := [(0, .ref (Z.2.1 (18 + 12 * t + i))), (1, .int (d))]) rfl ?_
  subst hr
  refine x_iconst C d_Pe_steps_0 (v := 1) (by decide) ?_
  refine x_iconst C d_Pe_steps_1 (v := 3) (by decide) ?_
  refine x_aload_n C d_Pe_steps_2 0 rfl rfl ?_
  refine gf_Pe_bags C (by omega) (by omega) (v := g t (pI i 4)) rfl k_47 d_Pe_steps_3 ?_
  refine x_isub C d_Pe_steps_6 ?_
  refine x_mx C k_247 (Nat.le_of_ble_eq_true rfl) (Nat.le_of_ble_eq_true rfl) d_Pe_steps_7 ?_
  refine x_istore_n C d_Pe_steps_10 rfl (by decide) (lv' := [(2, .int (mx 1 (3 - (g t (pI i 4))))), (0, .ref (Z.2.1 (18 + 12 * t + i))), (1, .int (d))]) rfl ?_
  refine x_iconst C d_Pe_steps_11 (v := 1) (by decide) ?_
  refine x_iload_n C d_Pe_steps_12 0 rfl rfl ?_
  refine x_iconst C d_Pe_steps_13 (v := 1) (by decide) ?_
  refine x_isub C d_Pe_steps_14 ?_
  refine x_mx C k_247 (Nat.le_of_ble_eq_true rfl) (Nat.le_of_ble_eq_true rfl) d_Pe_steps_15 ?_
  refine x_istore_n C d_Pe_steps_18 rfl (by decide) (lv' := [(3, .int (mx 1 ((mx 1 (3 - (g t (pI i 4)))) - 1))), (2, .int (mx 1 (3 - (g t (pI i 4))))), (0, .ref (Z.2.1 (18 + 12 * t + i))), (1, .int (d))]) rfl ?_
  refine x_iload_n C d_Pe_steps_19 1 rfl rfl ?_
  refine x_iconst C d_Pe_steps_20 (v := 1) (by decide) ?_
  refine x_iadd C d_Pe_steps_21 ?_
  refine x_istore C d_Pe_steps_22 (by decide) (lv' := [(4, .int ((mx 1 (3 - (g t (pI i 4)))) + 1)), (3, .int (mx 1 ((mx 1 (3 - (g t (pI i 4)))) - 1))), (2, .int (mx 1 (3 - (g t (pI i 4))))), (0, .ref (Z.2.1 (18 + 12 * t + i))), (1, .int (d))]) rfl ?_
  refine x_aload_n C d_Pe_steps_24 3 rfl rfl ?_
  refine gf_Pe_kind C (by omega) (by omega) (v := g t (pI i 0)) rfl k_36 d_Pe_steps_25 ?_
  by_cases c_1 : g t (pI i 0) = 1
  · refine x_tabAt C d_Pe_steps_28 c_1 (by decide) (by decide) (off := 40) (by decide) 68 (by decide) ?_
    refine x_iload_n C d_Pe_steps_68 1 rfl rfl ?_
    exact x_iret C (by simp [stp, wkr, *]) rfl d_Pe_steps_69
  by_cases c_2 : g t (pI i 0) = 2
  · refine x_tabAt C d_Pe_steps_28 c_2 (by decide) (by decide) (off := 46) (by decide) 74 (by decide) ?_
    refine x_iload C d_Pe_steps_74 0 rfl ?_
    exact x_iret C (by simp [stp, wkr, *]) rfl d_Pe_steps_76
  by_cases c_3 : g t (pI i 0) = 3
  · refine x_tabAt C d_Pe_steps_28 c_3 (by decide) (by decide) (off := 49) (by decide) 77 (by decide) ?_
    refine x_iconst C d_Pe_steps_77 (v := 1) (by decide) ?_
    refine x_iload C d_Pe_steps_78 0 rfl ?_
    refine x_iconst C d_Pe_steps_80 (v := 2) (by decide) ?_
    refine x_idiv C d_Pe_steps_81 (by decide) ?_
    refine x_mx C k_247 (Nat.le_of_ble_eq_true rfl) (Nat.le_of_ble_eq_true rfl) d_Pe_steps_82 ?_
    exact x_iret C (by simp [stp, wkr, *]) rfl d_Pe_steps_85
  by_cases c_4 : g t (pI i 0) = 4
  · refine x_tabAt C d_Pe_steps_28 c_4 (by decide) (by decide) (off := 49) (by decide) 77 (by decide) ?_
    refine x_iconst C d_Pe_steps_77 (v := 1) (by decide) ?_
    refine x_iload C d_Pe_steps_78 0 rfl ?_
    refine x_iconst C d_Pe_steps_80 (v := 2) (by decide) ?_
    refine x_idiv C d_Pe_steps_81 (by decide) ?_
    refine x_mx C k_247 (Nat.le_of_ble_eq_true rfl) (Nat.le_of_ble_eq_true rfl) d_Pe_steps_82 ?_
    exact x_iret C (by simp [stp, wkr, *]) rfl d_Pe_steps_85
  by_cases c_5 : g t (pI i 0) = 5
  · refine x_tabAt C d_Pe_steps_28 c_5 (by decide) (by decide) (off := 58) (by decide) 86 (by decide) ?_
    refine x_iload_n C d_Pe_steps_86 4 rfl rfl ?_
    refine x_iconst C d_Pe_steps_87 (v := 2) (by decide) ?_
    refine x_irem C d_Pe_steps_88 (by decide) ?_
    exact x_iret C (by simp [stp, wkr, *]) rfl d_Pe_steps_89
  by_cases c_6 : g t (pI i 0) = 6
  · refine x_tabAt C d_Pe_steps_28 c_6 (by decide) (by decide) (off := 42) (by decide) 70 (by decide) ?_
    refine x_iload_n C d_Pe_steps_70 1 rfl rfl ?_
    refine x_iconst C d_Pe_steps_71 (v := 2) (by decide) ?_
    refine x_iadd C d_Pe_steps_72 ?_
    exact x_iret C (by simp [stp, wkr, *]) rfl d_Pe_steps_73
  · have ic_1 := i32_ne c_1 (z := 1) (by decide)
    have ic_2 := i32_ne c_2 (z := 2) (by decide)
    have ic_3 := i32_ne c_3 (z := 3) (by decide)
    have ic_4 := i32_ne c_4 (z := 4) (by decide)
    have ic_5 := i32_ne c_5 (z := 5) (by decide)
    have ic_6 := i32_ne c_6 (z := 6) (by decide)
    refine x_tabOut C d_Pe_steps_28 (by omega) 90 (by decide) ?_
    refine x_iload_n C d_Pe_steps_90 2 rfl rfl ?_
    exact x_iret C (by simp [stp, wkr, *]) rfl d_Pe_steps_91

set_option maxRecDepth 100000 in
set_option maxHeartbeats 600000 in
theorem c_Pe_crosses (Z : ZT) (t i : Nat) (ht : t < 3) (hi : i < 8) (q : Int32) (g : St)  (r : Nat → Int32) (hr : g t = r) : CT yC Z y_Pe_crosses b_Pe_crosses 2 (some (.boolean)) 0 0 [.ref (Z.2.1 (18 + 12 * t + i)), .int (q)] (g) (QcI yC Z (bI (crs (r (pI i 0)) (r (pI i 5)) q = true)) (g)) := by
  refine CT.mk "TunnelPeace$Person" (by decide) rfl (Nat.le_of_ble_eq_true rfl) (fun X C => ?_)
  refine x_lv [0, 1] (lv' := [(0, .ref (Z.2.1 (18 + 12 * t + i))), (1, .int (q))]) rfl ?_
  subst hr
  refine x_aload_n C d_Pe_crosses_0 0 rfl rfl ?_
  refine gf_Pe_kind C (by omega) (by omega) (v := g t (pI i 0)) rfl k_36 d_Pe_crosses_1 ?_
  by_cases c_1 : g t (pI i 0) = 2
  · refine x_tabAt C d_Pe_crosses_4 c_1 (by decide) (by decide) (off := 50) (by decide) 54 (by decide) ?_
    refine x_iload_n C d_Pe_crosses_54 1 rfl rfl ?_
    refine x_ifne C d_Pe_crosses_55 62 (by decide) (fun c_2 => ?_) (fun c_2 => ?_)
    · refine x_iconst C d_Pe_crosses_62 (v := 0) (by decide) ?_
      exact x_zret C (by decide) (bI_f (by first | (simp [crs, *]; done) | (simp_all [crs]; done))).symm rfl d_Pe_crosses_63
    · refine x_iconst C d_Pe_crosses_58 (v := 1) (by decide) ?_
      refine x_goto C d_Pe_crosses_59 63 (by decide) ?_
      exact x_zret C (by decide) (bI_t (by first | (simp [crs, *]; done) | (simp_all [crs]; done))).symm rfl d_Pe_crosses_63
  by_cases c_3 : g t (pI i 0) = 3
  · refine x_tabAt C d_Pe_crosses_4 c_3 (by decide) (by decide) (off := 60) (by decide) 64 (by decide) ?_
    refine x_iload_n C d_Pe_crosses_64 1 rfl rfl ?_
    refine x_bipush C d_Pe_crosses_65 (v := 20) (by decide) ?_
    refine x_icmp_gt C d_Pe_crosses_67 74 (by decide) (fun c_4 => ?_) (fun c_4 => ?_)
    · have nc_4 := Int32.not_le.mpr c_4
      refine x_iconst C d_Pe_crosses_74 (v := 0) (by decide) ?_
      exact x_zret C (by decide) (bI_f (by first | (simp [crs, *]; done) | (simp_all [crs]; done))).symm rfl d_Pe_crosses_75
    · have nc_4 := Int32.not_lt.mp c_4
      refine x_iconst C d_Pe_crosses_70 (v := 1) (by decide) ?_
      refine x_goto C d_Pe_crosses_71 75 (by decide) ?_
      exact x_zret C (by decide) (bI_t (by first | (simp [crs, *]; done) | (simp_all [crs]; done))).symm rfl d_Pe_crosses_75
  by_cases c_5 : g t (pI i 0) = 4
  · refine x_tabAt C d_Pe_crosses_4 c_5 (by decide) (by decide) (off := 72) (by decide) 76 (by decide) ?_
    refine x_iload_n C d_Pe_crosses_76 1 rfl rfl ?_
    refine x_bipush C d_Pe_crosses_77 (v := 20) (by decide) ?_
    refine x_icmp_le C d_Pe_crosses_79 92 (by decide) (fun c_6 => ?_) (fun c_6 => ?_)
    · have nc_6 := Int32.not_lt.mpr c_6
      refine x_iconst C d_Pe_crosses_92 (v := 1) (by decide) ?_
      refine x_goto C d_Pe_crosses_93 97 (by decide) ?_
      exact x_zret C (by decide) (bI_t (by first | (simp [crs, *]; done) | (simp_all [crs]; done))).symm rfl d_Pe_crosses_97
    · have nc_6 := Int32.not_le.mp c_6
      refine x_aload_n C d_Pe_crosses_82 0 rfl rfl ?_
      refine gf_Pe_met C (by omega) (by omega) (v := g t (pI i 5)) rfl k_49 d_Pe_crosses_83 ?_
      refine x_iconst C d_Pe_crosses_86 (v := 2) (by decide) ?_
      refine x_irem C d_Pe_crosses_87 (by decide) ?_
      refine x_iconst C d_Pe_crosses_88 (v := 1) (by decide) ?_
      refine x_icmp_ne C d_Pe_crosses_89 96 (by decide) (fun c_7 => ?_) (fun c_7 => ?_)
      · refine x_iconst C d_Pe_crosses_96 (v := 0) (by decide) ?_
        exact x_zret C (by decide) (bI_f (by first | (simp [crs, *]; done) | (simp_all [crs]; done))).symm rfl d_Pe_crosses_97
      · refine x_iconst C d_Pe_crosses_92 (v := 1) (by decide) ?_
        refine x_goto C d_Pe_crosses_93 97 (by decide) ?_
        exact x_zret C (by decide) (bI_t (by first | (simp [crs, *]; done) | (simp_all [crs]; done))).symm rfl d_Pe_crosses_97
  by_cases c_8 : g t (pI i 0) = 5
  · refine x_tabAt C d_Pe_crosses_4 c_8 (by decide) (by decide) (off := 94) (by decide) 98 (by decide) ?_
    refine x_iconst C d_Pe_crosses_98 (v := 1) (by decide) ?_
    exact x_zret C (by decide) (bI_t (by first | (simp [crs, *]; done) | (simp_all [crs]; done))).symm rfl d_Pe_crosses_99
  by_cases c_9 : g t (pI i 0) = 6
  · refine x_tabAt C d_Pe_crosses_4 c_9 (by decide) (by decide) (off := 36) (by decide) 40 (by decide) ?_
    refine x_aload_n C d_Pe_crosses_40 0 rfl rfl ?_
    refine gf_Pe_met C (by omega) (by omega) (v := g t (pI i 5)) rfl k_49 d_Pe_crosses_41 ?_
    refine x_iconst C d_Pe_crosses_44 (v := 5) (by decide) ?_
    refine x_icmp_lt C d_Pe_crosses_45 52 (by decide) (fun c_10 => ?_) (fun c_10 => ?_)
    · have nc_10 := Int32.not_le.mpr c_10
      refine x_iconst C d_Pe_crosses_52 (v := 0) (by decide) ?_
      exact x_zret C (by decide) (bI_f (by first | (simp [crs, *]; done) | (simp_all [crs]; done))).symm rfl d_Pe_crosses_53
    · have nc_10 := Int32.not_lt.mp c_10
      refine x_iconst C d_Pe_crosses_48 (v := 1) (by decide) ?_
      refine x_goto C d_Pe_crosses_49 53 (by decide) ?_
      exact x_zret C (by decide) (bI_t (by first | (simp [crs, *]; done) | (simp_all [crs]; done))).symm rfl d_Pe_crosses_53
  · have ic_1 := i32_ne c_1 (z := 2) (by decide)
    have ic_3 := i32_ne c_3 (z := 3) (by decide)
    have ic_5 := i32_ne c_5 (z := 4) (by decide)
    have ic_8 := i32_ne c_8 (z := 5) (by decide)
    have ic_9 := i32_ne c_9 (z := 6) (by decide)
    refine x_tabOut C d_Pe_crosses_4 (by omega) 100 (by decide) ?_
    refine x_iconst C d_Pe_crosses_100 (v := 0) (by decide) ?_
    exact x_zret C (by decide) (bI_f (by first | (simp [crs, *]; done) | (simp_all [crs]; done))).symm rfl d_Pe_crosses_101

set_option maxRecDepth 100000 in
set_option maxHeartbeats 600000 in
theorem c_Pe_calms (Z : ZT) (t i : Nat) (ht : t < 3) (hi : i < 8) (g : St)  (r : Nat → Int32) (hr : g t = r) : CT yC Z y_Pe_calms b_Pe_calms 5 (some (.int)) 0 0 [.ref (Z.2.1 (18 + 12 * t + i))] (g) (QcI yC Z (clm (r (pI i 0))) (g)) := by
  refine CT.mk "TunnelPeace$Person" (by decide) rfl (Nat.le_of_ble_eq_true rfl) (fun X C => ?_)
  refine x_lv [0] (lv' := [(0, .ref (Z.2.1 (18 + 12 * t + i)))]) rfl ?_
  subst hr
  refine x_iconst C d_Pe_calms_0 (v := 1) (by decide) ?_
  refine x_istore_n C d_Pe_calms_1 rfl (by decide) (lv' := [(1, .int (1)), (0, .ref (Z.2.1 (18 + 12 * t + i)))]) rfl ?_
  refine x_iload_n C d_Pe_calms_2 0 rfl rfl ?_
  refine x_iconst C d_Pe_calms_3 (v := 1) (by decide) ?_
  refine x_iadd C d_Pe_calms_4 ?_
  refine x_istore_n C d_Pe_calms_5 rfl (by decide) (lv' := [(2, .int (1 + 1)), (1, .int (1)), (0, .ref (Z.2.1 (18 + 12 * t + i)))]) rfl ?_
  refine x_iconst C d_Pe_calms_6 (v := 0) (by decide) ?_
  refine x_istore_n C d_Pe_calms_7 rfl (by decide) (lv' := [(3, .int (0)), (2, .int (1 + 1)), (1, .int (1)), (0, .ref (Z.2.1 (18 + 12 * t + i)))]) rfl ?_
  refine x_iload_n C d_Pe_calms_8 0 rfl rfl ?_
  refine x_iconst C d_Pe_calms_9 (v := 5) (by decide) ?_
  refine x_iadd C d_Pe_calms_10 ?_
  refine x_istore C d_Pe_calms_11 (by decide) (lv' := [(4, .int (0 + 5)), (3, .int (0)), (2, .int (1 + 1)), (1, .int (1)), (0, .ref (Z.2.1 (18 + 12 * t + i)))]) rfl ?_
  refine x_aload_n C d_Pe_calms_13 4 rfl rfl ?_
  refine gf_Pe_kind C (by omega) (by omega) (v := g t (pI i 0)) rfl k_36 d_Pe_calms_14 ?_
  by_cases c_1 : g t (pI i 0) = 1
  · refine x_tabAt C d_Pe_calms_17 c_1 (by decide) (by decide) (off := 39) (by decide) 56 (by decide) ?_
    refine x_iload_n C d_Pe_calms_56 2 rfl rfl ?_
    exact x_iret C (by simp [clm, *]) rfl d_Pe_calms_57
  by_cases c_2 : g t (pI i 0) = 2
  · refine x_tabAt C d_Pe_calms_17 c_2 (by decide) (by decide) (off := 45) (by decide) 62 (by decide) ?_
    refine x_iload_n C d_Pe_calms_62 1 rfl rfl ?_
    exact x_iret C (by simp [clm, *]) rfl d_Pe_calms_63
  by_cases c_3 : g t (pI i 0) = 3
  · refine x_tabAt C d_Pe_calms_17 c_3 (by decide) (by decide) (off := 47) (by decide) 64 (by decide) ?_
    refine x_iload C d_Pe_calms_64 0 rfl ?_
    exact x_iret C (by simp [clm, *]) rfl d_Pe_calms_66
  by_cases c_4 : g t (pI i 0) = 4
  · refine x_tabAt C d_Pe_calms_17 c_4 (by decide) (by decide) (off := 50) (by decide) 67 (by decide) ?_
    refine x_iconst C d_Pe_calms_67 (v := 2) (by decide) ?_
    refine x_iload C d_Pe_calms_68 0 rfl ?_
    refine x_imul C d_Pe_calms_70 ?_
    exact x_iret C (by simp [clm, *]) rfl d_Pe_calms_71
  by_cases c_5 : g t (pI i 0) = 5
  · refine x_tabAt C d_Pe_calms_17 c_5 (by decide) (by decide) (off := 55) (by decide) 72 (by decide) ?_
    refine x_iload_n C d_Pe_calms_72 3 rfl rfl ?_
    refine x_bipush C d_Pe_calms_73 (v := 9) (by decide) ?_
    refine x_iadd C d_Pe_calms_75 ?_
    exact x_iret C (by simp [clm, *]) rfl d_Pe_calms_76
  by_cases c_6 : g t (pI i 0) = 6
  · refine x_tabAt C d_Pe_calms_17 c_6 (by decide) (by decide) (off := 41) (by decide) 58 (by decide) ?_
    refine x_iconst C d_Pe_calms_58 (v := 3) (by decide) ?_
    refine x_iload_n C d_Pe_calms_59 2 rfl rfl ?_
    refine x_imul C d_Pe_calms_60 ?_
    exact x_iret C (by simp [clm, *]) rfl d_Pe_calms_61
  · have ic_1 := i32_ne c_1 (z := 1) (by decide)
    have ic_2 := i32_ne c_2 (z := 2) (by decide)
    have ic_3 := i32_ne c_3 (z := 3) (by decide)
    have ic_4 := i32_ne c_4 (z := 4) (by decide)
    have ic_5 := i32_ne c_5 (z := 5) (by decide)
    have ic_6 := i32_ne c_6 (z := 6) (by decide)
    refine x_tabOut C d_Pe_calms_17 (by omega) 77 (by decide) ?_
    refine x_iload_n C d_Pe_calms_77 3 rfl rfl ?_
    exact x_iret C (by simp [clm, *]) rfl d_Pe_calms_78

set_option maxRecDepth 100000 in
set_option maxHeartbeats 600000 in
theorem c_Pe_tires (Z : ZT) (t i : Nat) (ht : t < 3) (hi : i < 8) (d : Int32) (g : St)  (r : Nat → Int32) (hr : g t = r) : CT yC Z y_Pe_tires b_Pe_tires 3 (some (.int)) 0 0 [.ref (Z.2.1 (18 + 12 * t + i)), .int (d)] (g) (QcI yC Z (trs (r (pI i 0)) d) (g)) := by
  refine CT.mk "TunnelPeace$Person" (by decide) rfl (Nat.le_of_ble_eq_true rfl) (fun X C => ?_)
  refine x_lv [0, 1] (lv' := [(0, .ref (Z.2.1 (18 + 12 * t + i))), (1, .int (d))]) rfl ?_
  subst hr
  refine x_iconst C d_Pe_tires_0 (v := 1) (by decide) ?_
  refine x_istore_n C d_Pe_tires_1 rfl (by decide) (lv' := [(2, .int (1)), (0, .ref (Z.2.1 (18 + 12 * t + i))), (1, .int (d))]) rfl ?_
  refine x_aload_n C d_Pe_tires_2 1 rfl rfl ?_
  refine gf_Pe_kind C (by omega) (by omega) (v := g t (pI i 0)) rfl k_36 d_Pe_tires_3 ?_
  by_cases c_1 : g t (pI i 0) = 2
  · refine x_tabAt C d_Pe_tires_6 c_1 (by decide) (by decide) (off := 46) (by decide) 52 (by decide) ?_
    refine x_iload_n C d_Pe_tires_52 0 rfl rfl ?_
    refine x_iconst C d_Pe_tires_53 (v := 1) (by decide) ?_
    refine x_iadd C d_Pe_tires_54 ?_
    exact x_iret C (by simp [trs, *]) rfl d_Pe_tires_55
  by_cases c_2 : g t (pI i 0) = 3
  · refine x_tabAt C d_Pe_tires_6 c_2 (by decide) (by decide) (off := 46) (by decide) 52 (by decide) ?_
    refine x_iload_n C d_Pe_tires_52 0 rfl rfl ?_
    refine x_iconst C d_Pe_tires_53 (v := 1) (by decide) ?_
    refine x_iadd C d_Pe_tires_54 ?_
    exact x_iret C (by simp [trs, *]) rfl d_Pe_tires_55
  by_cases c_3 : g t (pI i 0) = 4
  · refine x_tabAt C d_Pe_tires_6 c_3 (by decide) (by decide) (off := 46) (by decide) 52 (by decide) ?_
    refine x_iload_n C d_Pe_tires_52 0 rfl rfl ?_
    refine x_iconst C d_Pe_tires_53 (v := 1) (by decide) ?_
    refine x_iadd C d_Pe_tires_54 ?_
    exact x_iret C (by simp [trs, *]) rfl d_Pe_tires_55
  by_cases c_4 : g t (pI i 0) = 5
  · refine x_tabAt C d_Pe_tires_6 c_4 (by decide) (by decide) (off := 50) (by decide) 56 (by decide) ?_
    refine x_iconst C d_Pe_tires_56 (v := 0) (by decide) ?_
    exact x_iret C (by simp [trs, *]) rfl d_Pe_tires_57
  by_cases c_5 : g t (pI i 0) = 6
  · refine x_tabAt C d_Pe_tires_6 c_5 (by decide) (by decide) (off := 34) (by decide) 40 (by decide) ?_
    refine x_iload_n C d_Pe_tires_40 2 rfl rfl ?_
    refine x_iconst C d_Pe_tires_41 (v := 3) (by decide) ?_
    refine x_irem C d_Pe_tires_42 (by decide) ?_
    refine x_ifne C d_Pe_tires_43 50 (by decide) (fun c_6 => ?_) (fun c_6 => ?_)
    · refine x_iload_n C d_Pe_tires_50 0 rfl rfl ?_
      exact x_iret C (by simp [trs, *]) rfl d_Pe_tires_51
    · refine x_iconst C d_Pe_tires_46 (v := 2) (by decide) ?_
      refine x_goto C d_Pe_tires_47 51 (by decide) ?_
      exact x_iret C (by simp [trs, *]) rfl d_Pe_tires_51
  · have ic_1 := i32_ne c_1 (z := 2) (by decide)
    have ic_2 := i32_ne c_2 (z := 3) (by decide)
    have ic_3 := i32_ne c_3 (z := 4) (by decide)
    have ic_4 := i32_ne c_4 (z := 5) (by decide)
    have ic_5 := i32_ne c_5 (z := 6) (by decide)
    refine x_tabOut C d_Pe_tires_6 (by omega) 58 (by decide) ?_
    refine x_iload_n C d_Pe_tires_58 0 rfl rfl ?_
    exact x_iret C (by simp [trs, *]) rfl d_Pe_tires_59

set_option maxRecDepth 100000 in
set_option maxHeartbeats 600000 in
theorem c_Pe_stopAheadOfStripe (Z : ZT) (t i : Nat) (ht : t < 3) (hi : i < 8) (f : Int32) (g : St)  (r : Nat → Int32) (hr : g t = r) : CT yC Z y_Pe_stopAheadOfStripe b_Pe_stopAheadOfStripe 2 none 1 21 [.ref (Z.2.1 (18 + 12 * t + i)), .int (f)] (g) (QcV yC Z (va_up g t (upd r (pI i 2) (stA f (r (pI i 2)))))) := by
  refine CT.mk "TunnelPeace$Person" (by decide) rfl (Nat.le_of_ble_eq_true rfl) (fun X C => ?_)
  refine x_lv [0, 1] (lv' := [(0, .ref (Z.2.1 (18 + 12 * t + i))), (1, .int (f))]) rfl ?_
  subst hr
  refine x_iload_n C d_Pe_stopAheadOfStripe_0 1 rfl rfl ?_
  refine x_bipush C d_Pe_stopAheadOfStripe_1 (v := 7) (by decide) ?_
  refine x_icmp_gt C d_Pe_stopAheadOfStripe_3 22 (by decide) (fun c_1 => ?_) (fun c_1 => ?_)
  · have nc_1 := Int32.not_le.mpr c_1
    refine x_aload_n C d_Pe_stopAheadOfStripe_22 0 rfl rfl ?_
    refine x_aload_n C d_Pe_stopAheadOfStripe_23 0 rfl rfl ?_
    refine gf_Pe_cell C (by omega) (by omega) (v := g t (pI i 2)) rfl k_40 d_Pe_stopAheadOfStripe_24 ?_
    refine x_bipush C d_Pe_stopAheadOfStripe_27 (v := 8) (by decide) ?_
    refine x_mx C k_247 (Nat.le_of_ble_eq_true rfl) (Nat.le_of_ble_eq_true rfl) d_Pe_stopAheadOfStripe_29 ?_
    refine pf_Pe_cell C (by omega) (by omega) (v := mx (g t (pI i 2)) 8) (G := va_up g t (upd (g t) (pI i 2) (mx (g t (pI i 2)) 8))) rfl k_40 d_Pe_stopAheadOfStripe_32 ?_
    exact x_vret C (by simp [stA, *]) d_Pe_stopAheadOfStripe_35
  · have nc_1 := Int32.not_lt.mp c_1
    refine x_aload_n C d_Pe_stopAheadOfStripe_6 0 rfl rfl ?_
    refine x_aload_n C d_Pe_stopAheadOfStripe_7 0 rfl rfl ?_
    refine gf_Pe_cell C (by omega) (by omega) (v := g t (pI i 2)) rfl k_40 d_Pe_stopAheadOfStripe_8 ?_
    refine x_bipush C d_Pe_stopAheadOfStripe_11 (v := 7) (by decide) ?_
    refine x_mn C k_315 (Nat.le_of_ble_eq_true rfl) (Nat.le_of_ble_eq_true rfl) d_Pe_stopAheadOfStripe_13 ?_
    refine pf_Pe_cell C (by omega) (by omega) (v := mn (g t (pI i 2)) 7) (G := va_up g t (upd (g t) (pI i 2) (mn (g t (pI i 2)) 7))) rfl k_40 d_Pe_stopAheadOfStripe_16 ?_
    refine x_goto C d_Pe_stopAheadOfStripe_19 35 (by decide) ?_
    exact x_vret C (by simp [stA, *]) d_Pe_stopAheadOfStripe_35

set_option maxRecDepth 100000 in
set_option maxHeartbeats 600000 in
theorem c_Pe_begin (Z : ZT) (t i : Nat) (ht : t < 3) (hi : i < 8) (k s : Int32) (g : St)  (r : Nat → Int32) (hr : g t = r) : CT yC Z y_Pe_begin b_Pe_begin 3 none 1 20 [.ref (Z.2.1 (18 + 12 * t + i)), .int (k), .int (s)] (g) (QcV yC Z (va_up g t (bgnR r i k s))) := by
  refine CT.mk "TunnelPeace$Person" (by decide) rfl (Nat.le_of_ble_eq_true rfl) (fun X C => ?_)
  refine x_lv [0, 1, 2] (lv' := [(0, .ref (Z.2.1 (18 + 12 * t + i))), (1, .int (k)), (2, .int (s))]) rfl ?_
  subst hr
  refine x_aload_n C d_Pe_begin_0 0 rfl rfl ?_
  refine x_iload_n C d_Pe_begin_1 1 rfl rfl ?_
  refine pf_Pe_kind C (by omega) (by omega) (v := k) (G := va_up g t (upd (g t) (pI i 0) k)) rfl k_36 d_Pe_begin_2 ?_
  refine x_aload_n C d_Pe_begin_5 0 rfl rfl ?_
  refine x_iload_n C d_Pe_begin_6 2 rfl rfl ?_
  refine pf_Pe_side C (by omega) (by omega) (v := s) (G := va_up g t (upd (upd (g t) (pI i 0) k) (pI i 1) s)) up_va k_38 d_Pe_begin_7 ?_
  refine x_aload_n C d_Pe_begin_10 0 rfl rfl ?_
  refine x_aload_n C d_Pe_begin_11 0 rfl rfl ?_
  refine x_callVi C (c_Pe_lift Z t i (by omega) (by omega) (va_up g t (upd (upd (g t) (pI i 0) k) (pI i 1) s)) _ (va_up_self _ _ _)) mi_Pe_lift k_227 (show 18 + 12 * t + i < 50 by omega) (e_Pe Z t (by omega) _) rfl (As := []) ⟨Nat.le_of_ble_eq_true rfl, Nat.le_of_ble_eq_true rfl⟩ rfl rfl (Nat.le_of_ble_eq_true rfl) d_Pe_begin_12 ?_
  refine x_topi (x' := lft s) (by simp [upd_at, pI_eq]) ?_
  refine pf_Pe_cell C (by omega) (by omega) (v := lft s) (G := va_up g t (upd (upd (upd (g t) (pI i 0) k) (pI i 1) s) (pI i 2) (lft s))) up_va k_40 d_Pe_begin_15 ?_
  refine x_aload_n C d_Pe_begin_18 0 rfl rfl ?_
  refine x_bipush C d_Pe_begin_19 (v := 30) (by decide) ?_
  refine pf_Pe_season C (by omega) (by omega) (v := 30) (G := va_up g t (upd (upd (upd (upd (g t) (pI i 0) k) (pI i 1) s) (pI i 2) (lft s)) (pI i 3) 30)) up_va k_44 d_Pe_begin_21 ?_
  refine x_aload_n C d_Pe_begin_24 0 rfl rfl ?_
  refine x_iconst C d_Pe_begin_25 (v := 0) (by decide) ?_
  refine pf_Pe_bags C (by omega) (by omega) (v := 0) (G := va_up g t (upd (upd (upd (upd (upd (g t) (pI i 0) k) (pI i 1) s) (pI i 2) (lft s)) (pI i 3) 30) (pI i 4) 0)) up_va k_47 d_Pe_begin_26 ?_
  refine x_aload_n C d_Pe_begin_29 0 rfl rfl ?_
  refine x_iconst C d_Pe_begin_30 (v := 0) (by decide) ?_
  refine pf_Pe_met C (by omega) (by omega) (v := 0) (G := va_up g t (upd (upd (upd (upd (upd (upd (g t) (pI i 0) k) (pI i 1) s) (pI i 2) (lft s)) (pI i 3) 30) (pI i 4) 0) (pI i 5) 0)) up_va k_49 d_Pe_begin_31 ?_
  exact x_vret C (by first | (simp [bgnR, upd_at, pI_eq, *]; done) | (simp_all [bgnR, upd_at, pI_eq]; done)) d_Pe_begin_34

set_option maxRecDepth 100000 in
set_option maxHeartbeats 600000 in
theorem c_Pe_become (Z : ZT) (t t2 i : Nat) (ht : t < 3) (ht2 : t2 < 3) (hne : t2 ≠ t) (hi : i < 8) (g : St)  (r : Nat → Int32) (hr : g t = r) (r2 : Nat → Int32) (hr2 : g t2 = r2) : CT yC Z y_Pe_become b_Pe_become 2 none 0 0 [.ref (Z.2.1 (18 + 12 * t + i)), .ref (Z.2.1 (18 + 12 * t2 + i))] (g) (QcV yC Z (va_up g t (bcmR r r2 i))) := by
  refine CT.mk "TunnelPeace$Person" (by decide) rfl (Nat.le_of_ble_eq_true rfl) (fun X C => ?_)
  refine x_lv [0, 1] (lv' := [(0, .ref (Z.2.1 (18 + 12 * t + i))), (1, .ref (Z.2.1 (18 + 12 * t2 + i)))]) rfl ?_
  subst hr
  subst hr2
  refine x_aload_n C d_Pe_become_0 0 rfl rfl ?_
  refine x_aload_n C d_Pe_become_1 1 rfl rfl ?_
  refine gf_Pe_kind C (by omega) (by omega) (v := g t2 (pI i 0)) rfl k_36 d_Pe_become_2 ?_
  refine pf_Pe_kind C (by omega) (by omega) (v := g t2 (pI i 0)) (G := va_up g t (upd (g t) (pI i 0) (g t2 (pI i 0)))) rfl k_36 d_Pe_become_5 ?_
  refine x_aload_n C d_Pe_become_8 0 rfl rfl ?_
  refine x_aload_n C d_Pe_become_9 1 rfl rfl ?_
  refine gf_Pe_side C (by omega) (by omega) (v := g t2 (pI i 1)) (congrFun (va_up_ne _ _ (by omega)) _) k_38 d_Pe_become_10 ?_
  refine pf_Pe_side C (by omega) (by omega) (v := g t2 (pI i 1)) (G := va_up g t (upd (upd (g t) (pI i 0) (g t2 (pI i 0))) (pI i 1) (g t2 (pI i 1)))) up_va k_38 d_Pe_become_13 ?_
  refine x_aload_n C d_Pe_become_16 0 rfl rfl ?_
  refine x_aload_n C d_Pe_become_17 1 rfl rfl ?_
  refine gf_Pe_cell C (by omega) (by omega) (v := g t2 (pI i 2)) (congrFun (va_up_ne _ _ (by omega)) _) k_40 d_Pe_become_18 ?_
  refine pf_Pe_cell C (by omega) (by omega) (v := g t2 (pI i 2)) (G := va_up g t (upd (upd (upd (g t) (pI i 0) (g t2 (pI i 0))) (pI i 1) (g t2 (pI i 1))) (pI i 2) (g t2 (pI i 2)))) up_va k_40 d_Pe_become_21 ?_
  refine x_aload_n C d_Pe_become_24 0 rfl rfl ?_
  refine x_aload_n C d_Pe_become_25 1 rfl rfl ?_
  refine gf_Pe_season C (by omega) (by omega) (v := g t2 (pI i 3)) (congrFun (va_up_ne _ _ (by omega)) _) k_44 d_Pe_become_26 ?_
  refine pf_Pe_season C (by omega) (by omega) (v := g t2 (pI i 3)) (G := va_up g t (upd (upd (upd (upd (g t) (pI i 0) (g t2 (pI i 0))) (pI i 1) (g t2 (pI i 1))) (pI i 2) (g t2 (pI i 2))) (pI i 3) (g t2 (pI i 3)))) up_va k_44 d_Pe_become_29 ?_
  refine x_aload_n C d_Pe_become_32 0 rfl rfl ?_
  refine x_aload_n C d_Pe_become_33 1 rfl rfl ?_
  refine gf_Pe_bags C (by omega) (by omega) (v := g t2 (pI i 4)) (congrFun (va_up_ne _ _ (by omega)) _) k_47 d_Pe_become_34 ?_
  refine pf_Pe_bags C (by omega) (by omega) (v := g t2 (pI i 4)) (G := va_up g t (upd (upd (upd (upd (upd (g t) (pI i 0) (g t2 (pI i 0))) (pI i 1) (g t2 (pI i 1))) (pI i 2) (g t2 (pI i 2))) (pI i 3) (g t2 (pI i 3))) (pI i 4) (g t2 (pI i 4)))) up_va k_47 d_Pe_become_37 ?_
  refine x_aload_n C d_Pe_become_40 0 rfl rfl ?_
  refine x_aload_n C d_Pe_become_41 1 rfl rfl ?_
  refine gf_Pe_met C (by omega) (by omega) (v := g t2 (pI i 5)) (congrFun (va_up_ne _ _ (by omega)) _) k_49 d_Pe_become_42 ?_
  refine pf_Pe_met C (by omega) (by omega) (v := g t2 (pI i 5)) (G := va_up g t (upd (upd (upd (upd (upd (upd (g t) (pI i 0) (g t2 (pI i 0))) (pI i 1) (g t2 (pI i 1))) (pI i 2) (g t2 (pI i 2))) (pI i 3) (g t2 (pI i 3))) (pI i 4) (g t2 (pI i 4))) (pI i 5) (g t2 (pI i 5)))) up_va k_49 d_Pe_become_45 ?_
  exact x_vret C rfl d_Pe_become_48

set_option maxRecDepth 100000 in
set_option maxHeartbeats 600000 in
theorem c_Pe_set (Z : ZT) (t i : Nat) (ht : t < 3) (hi : i < 8) (f : Nat) (hf : f < 6) (v : Int32) (g : St)  (r : Nat → Int32) (hr : g t = r) : CT yC Z y_Pe_set b_Pe_set 3 none 0 0 [.ref (Z.2.1 (18 + 12 * t + i)), .int (nI f), .int (v)] (g) (QcV yC Z (va_up g t (upd r (pI i f) v))) := by
  refine CT.mk "TunnelPeace$Person" (by decide) rfl (Nat.le_of_ble_eq_true rfl) (fun X C => ?_)
  refine x_lv [0, 1, 2] (lv' := [(0, .ref (Z.2.1 (18 + 12 * t + i))), (1, .int (nI f)), (2, .int (v))]) rfl ?_
  subst hr
  rcases (show f = 0 ∨ f = 1 ∨ f = 2 ∨ f = 3 ∨ f = 4 ∨ f = 5 by omega) with rfl | rfl | rfl | rfl | rfl | rfl
  · refine x_iload_n C d_Pe_set_0 1 rfl rfl ?_
    refine x_tabAt C d_Pe_set_1 (v := 0) (by decide) (by decide) (by decide) (off := 39) (by decide) 40 (by decide) ?_
    refine x_aload_n C d_Pe_set_40 0 rfl rfl ?_
    refine x_iload_n C d_Pe_set_41 2 rfl rfl ?_
    refine pf_Pe_kind C (by omega) (by omega) (v := v) (G := va_up g t (upd (g t) (pI i 0) v)) rfl k_36 d_Pe_set_42 ?_
    refine x_goto C d_Pe_set_45 88 (by decide) ?_
    exact x_vret C rfl d_Pe_set_88
  · refine x_iload_n C d_Pe_set_0 1 rfl rfl ?_
    refine x_tabAt C d_Pe_set_1 (v := 1) (by decide) (by decide) (by decide) (off := 47) (by decide) 48 (by decide) ?_
    refine x_aload_n C d_Pe_set_48 0 rfl rfl ?_
    refine x_iload_n C d_Pe_set_49 2 rfl rfl ?_
    refine pf_Pe_side C (by omega) (by omega) (v := v) (G := va_up g t (upd (g t) (pI i 1) v)) rfl k_38 d_Pe_set_50 ?_
    refine x_goto C d_Pe_set_53 88 (by decide) ?_
    exact x_vret C rfl d_Pe_set_88
  · refine x_iload_n C d_Pe_set_0 1 rfl rfl ?_
    refine x_tabAt C d_Pe_set_1 (v := 2) (by decide) (by decide) (by decide) (off := 55) (by decide) 56 (by decide) ?_
    refine x_aload_n C d_Pe_set_56 0 rfl rfl ?_
    refine x_iload_n C d_Pe_set_57 2 rfl rfl ?_
    refine pf_Pe_cell C (by omega) (by omega) (v := v) (G := va_up g t (upd (g t) (pI i 2) v)) rfl k_40 d_Pe_set_58 ?_
    refine x_goto C d_Pe_set_61 88 (by decide) ?_
    exact x_vret C rfl d_Pe_set_88
  · refine x_iload_n C d_Pe_set_0 1 rfl rfl ?_
    refine x_tabAt C d_Pe_set_1 (v := 3) (by decide) (by decide) (by decide) (off := 63) (by decide) 64 (by decide) ?_
    refine x_aload_n C d_Pe_set_64 0 rfl rfl ?_
    refine x_iload_n C d_Pe_set_65 2 rfl rfl ?_
    refine pf_Pe_season C (by omega) (by omega) (v := v) (G := va_up g t (upd (g t) (pI i 3) v)) rfl k_44 d_Pe_set_66 ?_
    refine x_goto C d_Pe_set_69 88 (by decide) ?_
    exact x_vret C rfl d_Pe_set_88
  · refine x_iload_n C d_Pe_set_0 1 rfl rfl ?_
    refine x_tabAt C d_Pe_set_1 (v := 4) (by decide) (by decide) (by decide) (off := 71) (by decide) 72 (by decide) ?_
    refine x_aload_n C d_Pe_set_72 0 rfl rfl ?_
    refine x_iload_n C d_Pe_set_73 2 rfl rfl ?_
    refine pf_Pe_bags C (by omega) (by omega) (v := v) (G := va_up g t (upd (g t) (pI i 4) v)) rfl k_47 d_Pe_set_74 ?_
    refine x_goto C d_Pe_set_77 88 (by decide) ?_
    exact x_vret C rfl d_Pe_set_88
  · refine x_iload_n C d_Pe_set_0 1 rfl rfl ?_
    refine x_tabAt C d_Pe_set_1 (v := 5) (by decide) (by decide) (by decide) (off := 79) (by decide) 80 (by decide) ?_
    refine x_aload_n C d_Pe_set_80 0 rfl rfl ?_
    refine x_iload_n C d_Pe_set_81 2 rfl rfl ?_
    refine pf_Pe_met C (by omega) (by omega) (v := v) (G := va_up g t (upd (g t) (pI i 5) v)) rfl k_49 d_Pe_set_82 ?_
    refine x_goto C d_Pe_set_85 88 (by decide) ?_
    exact x_vret C rfl d_Pe_set_88

set_option maxRecDepth 100000 in
set_option maxHeartbeats 600000 in
theorem c_Pe_walk (Z : ZT) (t i : Nat) (ht : t < 3) (hi : i < 8) (pl d q : Int32) (g : St)  (r : Nat → Int32) (hr : g t = r) : CT yC Z y_Pe_walk b_Pe_walk 8 none 2 45 [.ref (Z.2.1 (18 + 12 * t + i)), .int (pl), .int (d), .int (q)] (g) (QcV yC Z (va_up g t (upd r (pI i 2) (wlkC r i pl d q)))) := by
  refine CT.mk "TunnelPeace$Person" (by decide) rfl (Nat.le_of_ble_eq_true rfl) (fun X C => ?_)
  refine x_lv [0, 1, 2, 3] (lv' := [(0, .ref (Z.2.1 (18 + 12 * t + i))), (1, .int (pl)), (2, .int (d)), (3, .int (q))]) rfl ?_
  subst hr
  refine x_aload_n C d_Pe_walk_0 0 rfl rfl ?_
  refine gf_Pe_season C (by omega) (by omega) (v := g t (pI i 3)) rfl k_44 d_Pe_walk_1 ?_
  refine x_ifne C d_Pe_walk_4 11 (by decide) (fun c_1 => ?_) (fun c_1 => ?_)
  · refine x_iconst C d_Pe_walk_11 (v := 0) (by decide) ?_
    refine x_istore C d_Pe_walk_12 (by decide) (lv' := [(4, .int (0)), (0, .ref (Z.2.1 (18 + 12 * t + i))), (1, .int (pl)), (2, .int (d)), (3, .int (q))]) rfl ?_
    refine x_aload_n C d_Pe_walk_14 1 rfl rfl ?_
    refine gf_Pe_cell C (by omega) (by omega) (v := g t (pI i 2)) rfl k_40 d_Pe_walk_15 ?_
    refine x_istore C d_Pe_walk_18 (by decide) (lv' := [(5, .int (g t (pI i 2))), (4, .int (0)), (0, .ref (Z.2.1 (18 + 12 * t + i))), (1, .int (pl)), (2, .int (d)), (3, .int (q))]) rfl ?_
    refine x_iload C d_Pe_walk_20 1 rfl ?_
    refine x_ifeq C d_Pe_walk_22 32 (by decide) (fun c_2 => ?_) (fun c_2 => ?_)
    · refine x_iload_n C d_Pe_walk_32 3 rfl rfl ?_
      refine x_istore C d_Pe_walk_33 (by decide) (lv' := [(6, .int (pl)), (5, .int (g t (pI i 2))), (4, .int (0)), (0, .ref (Z.2.1 (18 + 12 * t + i))), (1, .int (pl)), (2, .int (d)), (3, .int (q))]) rfl ?_
      refine x_aload_n C d_Pe_walk_35 3 rfl rfl ?_
      refine x_iload_n C d_Pe_walk_36 5 rfl rfl ?_
      refine x_callVi C (c_Pe_steps Z t i (by omega) (by omega) d (g) _ rfl) mi_Pe_steps k_314 (show 18 + 12 * t + i < 50 by omega) (e_Pe Z t (by omega) _) rfl (As := [.int (d)]) ⟨Nat.le_of_ble_eq_true rfl, Nat.le_of_ble_eq_true rfl⟩ rfl rfl (Nat.le_of_ble_eq_true rfl) d_Pe_walk_37 ?_
      refine x_istore C d_Pe_walk_40 (by decide) (lv' := [(7, .int (stp (g t (pI i 0)) (g t (pI i 4)) d)), (6, .int (pl)), (5, .int (g t (pI i 2))), (4, .int (0)), (0, .ref (Z.2.1 (18 + 12 * t + i))), (1, .int (pl)), (2, .int (d)), (3, .int (q))]) rfl ?_
      refine x_aload_n C d_Pe_walk_42 4 rfl rfl ?_
      refine x_iload C d_Pe_walk_43 2 rfl ?_
      refine x_iload C d_Pe_walk_45 1 rfl ?_
      refine x_icmp_ge C d_Pe_walk_47 63 (by decide) (fun c_3 => ?_) (fun c_3 => ?_)
      · have nc_3 := Int32.not_lt.mpr c_3
        refine x_iload C d_Pe_walk_63 1 rfl ?_
        refine x_iload C d_Pe_walk_65 2 rfl ?_
        refine x_iload C d_Pe_walk_67 0 rfl ?_
        refine x_isub C d_Pe_walk_69 ?_
        refine x_mx C k_247 (Nat.le_of_ble_eq_true rfl) (Nat.le_of_ble_eq_true rfl) d_Pe_walk_70 ?_
        refine pf_Pe_cell C (by omega) (by omega) (v := mx pl ((g t (pI i 2)) - (stp (g t (pI i 0)) (g t (pI i 4)) d))) (G := va_up g t (upd (g t) (pI i 2) (mx pl ((g t (pI i 2)) - (stp (g t (pI i 0)) (g t (pI i 4)) d))))) rfl k_40 d_Pe_walk_73 ?_
        refine x_iload C d_Pe_walk_76 3 rfl ?_
        refine x_ifne C d_Pe_walk_78 95 (by decide) (fun c_4 => ?_) (fun c_4 => ?_)
        · exact absurd c_4 (by decide)
        · refine x_aload_n C d_Pe_walk_81 4 rfl rfl ?_
          refine x_iload_n C d_Pe_walk_82 7 rfl rfl ?_
          refine x_callVi C (c_Pe_crosses Z t i (by omega) (by omega) q (va_up g t (upd (g t) (pI i 2) (mx pl ((g t (pI i 2)) - (stp (g t (pI i 0)) (g t (pI i 4)) d))))) _ (va_up_self _ _ _)) mi_Pe_crosses k_318 (show 18 + 12 * t + i < 50 by omega) (e_Pe Z t (by omega) _) rfl (As := [.int (q)]) ⟨Nat.le_of_ble_eq_true rfl, Nat.le_of_ble_eq_true rfl⟩ rfl rfl (Nat.le_of_ble_eq_true rfl) d_Pe_walk_83 ?_
          refine x_topi (x' := bI (crs (g t (pI i 0)) (g t (pI i 5)) q = true)) (by simp [upd_at, pI_eq]) ?_
          refine x_ifneB C d_Pe_walk_86 95 (by decide) (fun c_5 => ?_) (fun c_5 => ?_)
          · exact x_vret C (by first | (simp [wlkC, mvd, upd_upd, upd_at, pI_eq, *]; done) | (simp_all [wlkC, mvd, upd_upd, upd_at, pI_eq]; done)) d_Pe_walk_95
          · refine x_aload_n C d_Pe_walk_89 4 rfl rfl ?_
            refine x_iload C d_Pe_walk_90 2 rfl ?_
            refine x_callVv C (c_Pe_stopAheadOfStripe Z t i (by omega) (by omega) (g t (pI i 2)) (va_up g t (upd (g t) (pI i 2) (mx pl ((g t (pI i 2)) - (stp (g t (pI i 0)) (g t (pI i 4)) d))))) _ (va_up_self _ _ _)) mi_Pe_stopAheadOfStripe k_319 (show 18 + 12 * t + i < 50 by omega) (e_Pe Z t (by omega) _) rfl (As := [.int (g t (pI i 2))]) ⟨Nat.le_of_ble_eq_true rfl, Nat.le_of_ble_eq_true rfl⟩ rfl rfl (Nat.le_of_ble_eq_true rfl) d_Pe_walk_92 ?_
            refine x_eqg (g' := va_up g t (upd (upd (g t) (pI i 2) (mx pl ((g t (pI i 2)) - (stp (g t (pI i 0)) (g t (pI i 4)) d)))) (pI i 2) (stA (g t (pI i 2)) ((upd (g t) (pI i 2) (mx pl ((g t (pI i 2)) - (stp (g t (pI i 0)) (g t (pI i 4)) d)))) (pI i 2))))) (bx_uu _ _ _ _) ?_
            exact x_vret C (by first | (simp [wlkC, mvd, upd_upd, upd_at, pI_eq, *]; done) | (simp_all [wlkC, mvd, upd_upd, upd_at, pI_eq]; done)) d_Pe_walk_95
      · have nc_3 := Int32.not_le.mp c_3
        refine x_iload C d_Pe_walk_50 1 rfl ?_
        refine x_iload C d_Pe_walk_52 2 rfl ?_
        refine x_iload C d_Pe_walk_54 0 rfl ?_
        refine x_iadd C d_Pe_walk_56 ?_
        refine x_mn C k_315 (Nat.le_of_ble_eq_true rfl) (Nat.le_of_ble_eq_true rfl) d_Pe_walk_57 ?_
        refine x_goto C d_Pe_walk_60 73 (by decide) ?_
        refine pf_Pe_cell C (by omega) (by omega) (v := mn pl ((g t (pI i 2)) + (stp (g t (pI i 0)) (g t (pI i 4)) d))) (G := va_up g t (upd (g t) (pI i 2) (mn pl ((g t (pI i 2)) + (stp (g t (pI i 0)) (g t (pI i 4)) d))))) rfl k_40 d_Pe_walk_73 ?_
        refine x_iload C d_Pe_walk_76 3 rfl ?_
        refine x_ifne C d_Pe_walk_78 95 (by decide) (fun c_6 => ?_) (fun c_6 => ?_)
        · exact absurd c_6 (by decide)
        · refine x_aload_n C d_Pe_walk_81 4 rfl rfl ?_
          refine x_iload_n C d_Pe_walk_82 7 rfl rfl ?_
          refine x_callVi C (c_Pe_crosses Z t i (by omega) (by omega) q (va_up g t (upd (g t) (pI i 2) (mn pl ((g t (pI i 2)) + (stp (g t (pI i 0)) (g t (pI i 4)) d))))) _ (va_up_self _ _ _)) mi_Pe_crosses k_318 (show 18 + 12 * t + i < 50 by omega) (e_Pe Z t (by omega) _) rfl (As := [.int (q)]) ⟨Nat.le_of_ble_eq_true rfl, Nat.le_of_ble_eq_true rfl⟩ rfl rfl (Nat.le_of_ble_eq_true rfl) d_Pe_walk_83 ?_
          refine x_topi (x' := bI (crs (g t (pI i 0)) (g t (pI i 5)) q = true)) (by simp [upd_at, pI_eq]) ?_
          refine x_ifneB C d_Pe_walk_86 95 (by decide) (fun c_7 => ?_) (fun c_7 => ?_)
          · exact x_vret C (by first | (simp [wlkC, mvd, upd_upd, upd_at, pI_eq, *]; done) | (simp_all [wlkC, mvd, upd_upd, upd_at, pI_eq]; done)) d_Pe_walk_95
          · refine x_aload_n C d_Pe_walk_89 4 rfl rfl ?_
            refine x_iload C d_Pe_walk_90 2 rfl ?_
            refine x_callVv C (c_Pe_stopAheadOfStripe Z t i (by omega) (by omega) (g t (pI i 2)) (va_up g t (upd (g t) (pI i 2) (mn pl ((g t (pI i 2)) + (stp (g t (pI i 0)) (g t (pI i 4)) d))))) _ (va_up_self _ _ _)) mi_Pe_stopAheadOfStripe k_319 (show 18 + 12 * t + i < 50 by omega) (e_Pe Z t (by omega) _) rfl (As := [.int (g t (pI i 2))]) ⟨Nat.le_of_ble_eq_true rfl, Nat.le_of_ble_eq_true rfl⟩ rfl rfl (Nat.le_of_ble_eq_true rfl) d_Pe_walk_92 ?_
            refine x_eqg (g' := va_up g t (upd (upd (g t) (pI i 2) (mn pl ((g t (pI i 2)) + (stp (g t (pI i 0)) (g t (pI i 4)) d)))) (pI i 2) (stA (g t (pI i 2)) ((upd (g t) (pI i 2) (mn pl ((g t (pI i 2)) + (stp (g t (pI i 0)) (g t (pI i 4)) d)))) (pI i 2))))) (bx_uu _ _ _ _) ?_
            exact x_vret C (by first | (simp [wlkC, mvd, upd_upd, upd_at, pI_eq, *]; done) | (simp_all [wlkC, mvd, upd_upd, upd_at, pI_eq]; done)) d_Pe_walk_95
    · exact absurd c_2 (by decide)
  · refine x_iconst C d_Pe_walk_7 (v := 1) (by decide) ?_
    refine x_goto C d_Pe_walk_8 12 (by decide) ?_
    refine x_istore C d_Pe_walk_12 (by decide) (lv' := [(4, .int (1)), (0, .ref (Z.2.1 (18 + 12 * t + i))), (1, .int (pl)), (2, .int (d)), (3, .int (q))]) rfl ?_
    refine x_aload_n C d_Pe_walk_14 1 rfl rfl ?_
    refine gf_Pe_cell C (by omega) (by omega) (v := g t (pI i 2)) rfl k_40 d_Pe_walk_15 ?_
    refine x_istore C d_Pe_walk_18 (by decide) (lv' := [(5, .int (g t (pI i 2))), (4, .int (1)), (0, .ref (Z.2.1 (18 + 12 * t + i))), (1, .int (pl)), (2, .int (d)), (3, .int (q))]) rfl ?_
    refine x_iload C d_Pe_walk_20 1 rfl ?_
    refine x_ifeq C d_Pe_walk_22 32 (by decide) (fun c_8 => ?_) (fun c_8 => ?_)
    · exact absurd c_8 (by decide)
    · refine x_aload_n C d_Pe_walk_25 2 rfl rfl ?_
      refine x_callVi C (c_Pe_lift Z t i (by omega) (by omega) (g) _ rfl) mi_Pe_lift k_227 (show 18 + 12 * t + i < 50 by omega) (e_Pe Z t (by omega) _) rfl (As := []) ⟨Nat.le_of_ble_eq_true rfl, Nat.le_of_ble_eq_true rfl⟩ rfl rfl (Nat.le_of_ble_eq_true rfl) d_Pe_walk_26 ?_
      refine x_goto C d_Pe_walk_29 33 (by decide) ?_
      refine x_istore C d_Pe_walk_33 (by decide) (lv' := [(6, .int (lft (g t (pI i 1)))), (5, .int (g t (pI i 2))), (4, .int (1)), (0, .ref (Z.2.1 (18 + 12 * t + i))), (1, .int (pl)), (2, .int (d)), (3, .int (q))]) rfl ?_
      refine x_aload_n C d_Pe_walk_35 3 rfl rfl ?_
      refine x_iload_n C d_Pe_walk_36 5 rfl rfl ?_
      refine x_callVi C (c_Pe_steps Z t i (by omega) (by omega) d (g) _ rfl) mi_Pe_steps k_314 (show 18 + 12 * t + i < 50 by omega) (e_Pe Z t (by omega) _) rfl (As := [.int (d)]) ⟨Nat.le_of_ble_eq_true rfl, Nat.le_of_ble_eq_true rfl⟩ rfl rfl (Nat.le_of_ble_eq_true rfl) d_Pe_walk_37 ?_
      refine x_istore C d_Pe_walk_40 (by decide) (lv' := [(7, .int (stp (g t (pI i 0)) (g t (pI i 4)) d)), (6, .int (lft (g t (pI i 1)))), (5, .int (g t (pI i 2))), (4, .int (1)), (0, .ref (Z.2.1 (18 + 12 * t + i))), (1, .int (pl)), (2, .int (d)), (3, .int (q))]) rfl ?_
      refine x_aload_n C d_Pe_walk_42 4 rfl rfl ?_
      refine x_iload C d_Pe_walk_43 2 rfl ?_
      refine x_iload C d_Pe_walk_45 1 rfl ?_
      refine x_icmp_ge C d_Pe_walk_47 63 (by decide) (fun c_9 => ?_) (fun c_9 => ?_)
      · have nc_9 := Int32.not_lt.mpr c_9
        refine x_iload C d_Pe_walk_63 1 rfl ?_
        refine x_iload C d_Pe_walk_65 2 rfl ?_
        refine x_iload C d_Pe_walk_67 0 rfl ?_
        refine x_isub C d_Pe_walk_69 ?_
        refine x_mx C k_247 (Nat.le_of_ble_eq_true rfl) (Nat.le_of_ble_eq_true rfl) d_Pe_walk_70 ?_
        refine pf_Pe_cell C (by omega) (by omega) (v := mx (lft (g t (pI i 1))) ((g t (pI i 2)) - (stp (g t (pI i 0)) (g t (pI i 4)) d))) (G := va_up g t (upd (g t) (pI i 2) (mx (lft (g t (pI i 1))) ((g t (pI i 2)) - (stp (g t (pI i 0)) (g t (pI i 4)) d))))) rfl k_40 d_Pe_walk_73 ?_
        refine x_iload C d_Pe_walk_76 3 rfl ?_
        refine x_ifne C d_Pe_walk_78 95 (by decide) (fun c_10 => ?_) (fun c_10 => ?_)
        · exact x_vret C (by first | (simp [wlkC, mvd, upd_upd, upd_at, pI_eq, *]; done) | (simp_all [wlkC, mvd, upd_upd, upd_at, pI_eq]; done)) d_Pe_walk_95
        · exact absurd c_10 (by decide)
      · have nc_9 := Int32.not_le.mp c_9
        refine x_iload C d_Pe_walk_50 1 rfl ?_
        refine x_iload C d_Pe_walk_52 2 rfl ?_
        refine x_iload C d_Pe_walk_54 0 rfl ?_
        refine x_iadd C d_Pe_walk_56 ?_
        refine x_mn C k_315 (Nat.le_of_ble_eq_true rfl) (Nat.le_of_ble_eq_true rfl) d_Pe_walk_57 ?_
        refine x_goto C d_Pe_walk_60 73 (by decide) ?_
        refine pf_Pe_cell C (by omega) (by omega) (v := mn (lft (g t (pI i 1))) ((g t (pI i 2)) + (stp (g t (pI i 0)) (g t (pI i 4)) d))) (G := va_up g t (upd (g t) (pI i 2) (mn (lft (g t (pI i 1))) ((g t (pI i 2)) + (stp (g t (pI i 0)) (g t (pI i 4)) d))))) rfl k_40 d_Pe_walk_73 ?_
        refine x_iload C d_Pe_walk_76 3 rfl ?_
        refine x_ifne C d_Pe_walk_78 95 (by decide) (fun c_11 => ?_) (fun c_11 => ?_)
        · exact x_vret C (by first | (simp [wlkC, mvd, upd_upd, upd_at, pI_eq, *]; done) | (simp_all [wlkC, mvd, upd_upd, upd_at, pI_eq]; done)) d_Pe_walk_95
        · exact absurd c_11 (by decide)

set_option maxRecDepth 100000 in
set_option maxHeartbeats 600000 in
theorem c_Pe_wouldMeetAt (Z : ZT) (t i j : Nat) (ht : t < 3) (hi : i < 8) (hj : j < 8) (h : Int32) (g : St)  (r : Nat → Int32) (hr : g t = r) : CT yC Z y_Pe_wouldMeetAt b_Pe_wouldMeetAt 3 (some (.boolean)) 0 0 [.ref (Z.2.1 (18 + 12 * t + i)), .int (h), .ref (Z.2.1 (18 + 12 * t + j))] (g) (QcI yC Z (bI (mtA (r (pI i 1)) h (r (pI j 1)) (r (pI j 2)) = true)) (g)) := by
  refine CT.mk "TunnelPeace$Person" (by decide) rfl (Nat.le_of_ble_eq_true rfl) (fun X C => ?_)
  refine x_lv [0, 1, 2] (lv' := [(0, .ref (Z.2.1 (18 + 12 * t + i))), (1, .int (h)), (2, .ref (Z.2.1 (18 + 12 * t + j)))]) rfl ?_
  subst hr
  refine x_aload_n C d_Pe_wouldMeetAt_0 0 rfl rfl ?_
  refine gf_Pe_side C (by omega) (by omega) (v := g t (pI i 1)) rfl k_38 d_Pe_wouldMeetAt_1 ?_
  refine x_aload_n C d_Pe_wouldMeetAt_4 2 rfl rfl ?_
  refine gf_Pe_side C (by omega) (by omega) (v := g t (pI j 1)) rfl k_38 d_Pe_wouldMeetAt_5 ?_
  refine x_icmp_ne C d_Pe_wouldMeetAt_8 13 (by decide) (fun c_1 => ?_) (fun c_1 => ?_)
  · refine x_iload_n C d_Pe_wouldMeetAt_13 1 rfl rfl ?_
    refine x_aload_n C d_Pe_wouldMeetAt_14 2 rfl rfl ?_
    refine gf_Pe_cell C (by omega) (by omega) (v := g t (pI j 2)) rfl k_40 d_Pe_wouldMeetAt_15 ?_
    refine x_icmp_eq C d_Pe_wouldMeetAt_18 51 (by decide) (fun c_2 => ?_) (fun c_2 => ?_)
    · refine x_iconst C d_Pe_wouldMeetAt_51 (v := 1) (by decide) ?_
      refine x_goto C d_Pe_wouldMeetAt_52 56 (by decide) ?_
      exact x_zret C (by decide) (bI_t (by first | (simp [mtA, *]; done) | (simp_all [mtA]; done))).symm rfl d_Pe_wouldMeetAt_56
    · refine x_iload_n C d_Pe_wouldMeetAt_21 1 rfl rfl ?_
      refine x_bipush C d_Pe_wouldMeetAt_22 (v := 7) (by decide) ?_
      refine x_icmp_ne C d_Pe_wouldMeetAt_24 36 (by decide) (fun c_3 => ?_) (fun c_3 => ?_)
      · refine x_iload_n C d_Pe_wouldMeetAt_36 1 rfl rfl ?_
        refine x_bipush C d_Pe_wouldMeetAt_37 (v := 8) (by decide) ?_
        refine x_icmp_ne C d_Pe_wouldMeetAt_39 55 (by decide) (fun c_4 => ?_) (fun c_4 => ?_)
        · refine x_iconst C d_Pe_wouldMeetAt_55 (v := 0) (by decide) ?_
          exact x_zret C (by decide) (bI_f (by first | (simp [mtA, *]; done) | (simp_all [mtA]; done))).symm rfl d_Pe_wouldMeetAt_56
        · refine x_aload_n C d_Pe_wouldMeetAt_42 2 rfl rfl ?_
          refine gf_Pe_cell C (by omega) (by omega) (v := g t (pI j 2)) rfl k_40 d_Pe_wouldMeetAt_43 ?_
          refine x_bipush C d_Pe_wouldMeetAt_46 (v := 7) (by decide) ?_
          refine x_icmp_ne C d_Pe_wouldMeetAt_48 55 (by decide) (fun c_5 => ?_) (fun c_5 => ?_)
          · refine x_iconst C d_Pe_wouldMeetAt_55 (v := 0) (by decide) ?_
            exact x_zret C (by decide) (bI_f (by first | (simp [mtA, *]; done) | (simp_all [mtA]; done))).symm rfl d_Pe_wouldMeetAt_56
          · refine x_iconst C d_Pe_wouldMeetAt_51 (v := 1) (by decide) ?_
            refine x_goto C d_Pe_wouldMeetAt_52 56 (by decide) ?_
            exact x_zret C (by decide) (bI_t (by first | (simp [mtA, *]; done) | (simp_all [mtA]; done))).symm rfl d_Pe_wouldMeetAt_56
      · refine x_aload_n C d_Pe_wouldMeetAt_27 2 rfl rfl ?_
        refine gf_Pe_cell C (by omega) (by omega) (v := g t (pI j 2)) rfl k_40 d_Pe_wouldMeetAt_28 ?_
        refine x_bipush C d_Pe_wouldMeetAt_31 (v := 8) (by decide) ?_
        refine x_icmp_eq C d_Pe_wouldMeetAt_33 51 (by decide) (fun c_6 => ?_) (fun c_6 => ?_)
        · refine x_iconst C d_Pe_wouldMeetAt_51 (v := 1) (by decide) ?_
          refine x_goto C d_Pe_wouldMeetAt_52 56 (by decide) ?_
          exact x_zret C (by decide) (bI_t (by first | (simp [mtA, *]; done) | (simp_all [mtA]; done))).symm rfl d_Pe_wouldMeetAt_56
        · refine x_iload_n C d_Pe_wouldMeetAt_36 1 rfl rfl ?_
          refine x_bipush C d_Pe_wouldMeetAt_37 (v := 8) (by decide) ?_
          refine x_icmp_ne C d_Pe_wouldMeetAt_39 55 (by decide) (fun c_7 => ?_) (fun c_7 => ?_)
          · refine x_iconst C d_Pe_wouldMeetAt_55 (v := 0) (by decide) ?_
            exact x_zret C (by decide) (bI_f (by first | (simp [mtA, *]; done) | (simp_all [mtA]; done))).symm rfl d_Pe_wouldMeetAt_56
          · refine x_aload_n C d_Pe_wouldMeetAt_42 2 rfl rfl ?_
            refine gf_Pe_cell C (by omega) (by omega) (v := g t (pI j 2)) rfl k_40 d_Pe_wouldMeetAt_43 ?_
            refine x_bipush C d_Pe_wouldMeetAt_46 (v := 7) (by decide) ?_
            refine x_icmp_ne C d_Pe_wouldMeetAt_48 55 (by decide) (fun c_8 => ?_) (fun c_8 => ?_)
            · refine x_iconst C d_Pe_wouldMeetAt_55 (v := 0) (by decide) ?_
              exact x_zret C (by decide) (bI_f (by first | (simp [mtA, *]; done) | (simp_all [mtA]; done))).symm rfl d_Pe_wouldMeetAt_56
            · refine x_iconst C d_Pe_wouldMeetAt_51 (v := 1) (by decide) ?_
              refine x_goto C d_Pe_wouldMeetAt_52 56 (by decide) ?_
              exact x_zret C (by decide) (bI_t (by first | (simp [mtA, *]; done) | (simp_all [mtA]; done))).symm rfl d_Pe_wouldMeetAt_56
  · refine x_iconst C d_Pe_wouldMeetAt_11 (v := 0) (by decide) ?_
    exact x_zret C (by decide) (bI_f (by first | (simp [mtA, *]; done) | (simp_all [mtA]; done))).symm rfl d_Pe_wouldMeetAt_12

set_option maxRecDepth 100000 in
set_option maxHeartbeats 600000 in
theorem c_Pe_wouldMeet (Z : ZT) (t i j : Nat) (ht : t < 3) (hi : i < 8) (hj : j < 8) (g : St)  (r : Nat → Int32) (hr : g t = r) : CT yC Z y_Pe_wouldMeet b_Pe_wouldMeet 2 (some (.boolean)) 1 22 [.ref (Z.2.1 (18 + 12 * t + i)), .ref (Z.2.1 (18 + 12 * t + j))] (g) (QcI yC Z (bI (mtA (r (pI i 1)) (r (pI i 2)) (r (pI j 1)) (r (pI j 2)) = true)) (g)) := by
  refine CT.mk "TunnelPeace$Person" (by decide) rfl (Nat.le_of_ble_eq_true rfl) (fun X C => ?_)
  refine x_lv [0, 1] (lv' := [(0, .ref (Z.2.1 (18 + 12 * t + i))), (1, .ref (Z.2.1 (18 + 12 * t + j)))]) rfl ?_
  subst hr
  refine x_aload_n C d_Pe_wouldMeet_0 0 rfl rfl ?_
  refine x_aload_n C d_Pe_wouldMeet_1 0 rfl rfl ?_
  refine gf_Pe_cell C (by omega) (by omega) (v := g t (pI i 2)) rfl k_40 d_Pe_wouldMeet_2 ?_
  refine x_aload_n C d_Pe_wouldMeet_5 1 rfl rfl ?_
  refine x_callVi C (c_Pe_wouldMeetAt Z t i j (by omega) (by omega) (by omega) (g t (pI i 2)) (g) _ rfl) mi_Pe_wouldMeetAt k_288 (show 18 + 12 * t + i < 50 by omega) (e_Pe Z t (by omega) _) rfl (As := [.int (g t (pI i 2)), .ref (Z.2.1 (18 + 12 * t + j))]) ⟨Nat.le_of_ble_eq_true rfl, Nat.le_of_ble_eq_true rfl⟩ rfl rfl (Nat.le_of_ble_eq_true rfl) d_Pe_wouldMeet_6 ?_
  exact x_zret C (bI_01 _) rfl rfl d_Pe_wouldMeet_9

set_option maxRecDepth 100000 in
set_option maxHeartbeats 600000 in
theorem c_Pe_countMeeting (Z : ZT) (t i : Nat) (ht : t < 3) (hi : i < 8) (g : St)  (r : Nat → Int32) (hr : g t = r) : CT yC Z y_Pe_countMeeting b_Pe_countMeeting 1 none 1 21 [.ref (Z.2.1 (18 + 12 * t + i))] (g) (QcV yC Z (va_up g t (cmtR r i))) := by
  refine CT.mk "TunnelPeace$Person" (by decide) rfl (Nat.le_of_ble_eq_true rfl) (fun X C => ?_)
  refine x_lv [0] (lv' := [(0, .ref (Z.2.1 (18 + 12 * t + i)))]) rfl ?_
  subst hr
  refine x_aload_n C d_Pe_countMeeting_0 0 rfl rfl ?_
  refine x_getst0N C (List.mem_of_getElem? (i := 0) rfl) d_Pe_countMeeting_1 ?_
  refine x_iconst C d_Pe_countMeeting_4 (v := 5) (by decide) ?_
  refine x_stld0 C 5 (by decide) (by decide) rfl d_Pe_countMeeting_5 ?_
  refine x_aload_n C d_Pe_countMeeting_6 0 rfl rfl ?_
  refine gf_Pe_met C (by omega) (by omega) (v := g t (pI i 5)) rfl k_49 d_Pe_countMeeting_7 ?_
  refine x_iconst C d_Pe_countMeeting_10 (v := 1) (by decide) ?_
  refine x_iadd C d_Pe_countMeeting_11 ?_
  refine x_mn C k_315 (Nat.le_of_ble_eq_true rfl) (Nat.le_of_ble_eq_true rfl) d_Pe_countMeeting_12 ?_
  refine pf_Pe_met C (by omega) (by omega) (v := mn 9999 ((g t (pI i 5)) + 1)) (G := va_up g t (upd (g t) (pI i 5) (mn 9999 ((g t (pI i 5)) + 1)))) rfl k_49 d_Pe_countMeeting_15 ?_
  exact x_vret C rfl d_Pe_countMeeting_18

set_option maxRecDepth 100000 in
set_option maxHeartbeats 600000 in
theorem c_Pe_endDay (Z : ZT) (t i : Nat) (ht : t < 3) (hi : i < 8) (d : Int32) (g : St)  (r : Nat → Int32) (hr : g t = r) : CT yC Z y_Pe_endDay b_Pe_endDay 2 none 1 22 [.ref (Z.2.1 (18 + 12 * t + i)), .int (d)] (g) (QcV yC Z (va_up g t (endR r i d))) := by
  refine CT.mk "TunnelPeace$Person" (by decide) rfl (Nat.le_of_ble_eq_true rfl) (fun X C => ?_)
  refine x_lv [0, 1] (lv' := [(0, .ref (Z.2.1 (18 + 12 * t + i))), (1, .int (d))]) rfl ?_
  subst hr
  refine x_aload_n C d_Pe_endDay_0 0 rfl rfl ?_
  refine gf_Pe_cell C (by omega) (by omega) (v := g t (pI i 2)) rfl k_40 d_Pe_endDay_1 ?_
  refine x_aload_n C d_Pe_endDay_4 0 rfl rfl ?_
  refine x_callVi C (c_Pe_lift Z t i (by omega) (by omega) (g) _ rfl) mi_Pe_lift k_227 (show 18 + 12 * t + i < 50 by omega) (e_Pe Z t (by omega) _) rfl (As := []) ⟨Nat.le_of_ble_eq_true rfl, Nat.le_of_ble_eq_true rfl⟩ rfl rfl (Nat.le_of_ble_eq_true rfl) d_Pe_endDay_5 ?_
  refine x_icmp_ne C d_Pe_endDay_8 16 (by decide) (fun c_1 => ?_) (fun c_1 => ?_)
  · refine x_aload_n C d_Pe_endDay_16 0 rfl rfl ?_
    refine x_iconst C d_Pe_endDay_17 (v := 0) (by decide) ?_
    refine x_aload_n C d_Pe_endDay_18 0 rfl rfl ?_
    refine gf_Pe_season C (by omega) (by omega) (v := g t (pI i 3)) rfl k_44 d_Pe_endDay_19 ?_
    refine x_aload_n C d_Pe_endDay_22 0 rfl rfl ?_
    refine x_iload_n C d_Pe_endDay_23 1 rfl rfl ?_
    refine x_callVi C (c_Pe_tires Z t i (by omega) (by omega) d (g) _ rfl) mi_Pe_tires k_339 (show 18 + 12 * t + i < 50 by omega) (e_Pe Z t (by omega) _) rfl (As := [.int (d)]) ⟨Nat.le_of_ble_eq_true rfl, Nat.le_of_ble_eq_true rfl⟩ rfl rfl (Nat.le_of_ble_eq_true rfl) d_Pe_endDay_24 ?_
    refine x_isub C d_Pe_endDay_27 ?_
    refine x_mx C k_247 (Nat.le_of_ble_eq_true rfl) (Nat.le_of_ble_eq_true rfl) d_Pe_endDay_28 ?_
    refine pf_Pe_season C (by omega) (by omega) (v := mx 0 ((g t (pI i 3)) - (trs (g t (pI i 0)) d))) (G := va_up g t (upd (g t) (pI i 3) (mx 0 ((g t (pI i 3)) - (trs (g t (pI i 0)) d))))) rfl k_44 d_Pe_endDay_31 ?_
    exact x_vret C (by first | (simp [endR, upd_at, pI_eq, *]; done) | (simp_all [endR, upd_at, pI_eq]; done)) d_Pe_endDay_34
  · refine x_aload_n C d_Pe_endDay_11 0 rfl rfl ?_
    refine x_iconst C d_Pe_endDay_12 (v := 0) (by decide) ?_
    refine pf_Pe_bags C (by omega) (by omega) (v := 0) (G := va_up g t (upd (g t) (pI i 4) 0)) rfl k_47 d_Pe_endDay_13 ?_
    refine x_aload_n C d_Pe_endDay_16 0 rfl rfl ?_
    refine x_iconst C d_Pe_endDay_17 (v := 0) (by decide) ?_
    refine x_aload_n C d_Pe_endDay_18 0 rfl rfl ?_
    refine gf_Pe_season C (by omega) (by omega) (v := g t (pI i 3)) (Eq.trans (congrFun (va_up_self _ _ _) _) (pk_un (by first | decide | (simp only [pI]; omega)))) k_44 d_Pe_endDay_19 ?_
    refine x_aload_n C d_Pe_endDay_22 0 rfl rfl ?_
    refine x_iload_n C d_Pe_endDay_23 1 rfl rfl ?_
    refine x_callVi C (c_Pe_tires Z t i (by omega) (by omega) d (va_up g t (upd (g t) (pI i 4) 0)) _ (va_up_self _ _ _)) mi_Pe_tires k_339 (show 18 + 12 * t + i < 50 by omega) (e_Pe Z t (by omega) _) rfl (As := [.int (d)]) ⟨Nat.le_of_ble_eq_true rfl, Nat.le_of_ble_eq_true rfl⟩ rfl rfl (Nat.le_of_ble_eq_true rfl) d_Pe_endDay_24 ?_
    refine x_topi (x' := trs (g t (pI i 0)) d) (by simp [upd_at, pI_eq]) ?_
    refine x_isub C d_Pe_endDay_27 ?_
    refine x_mx C k_247 (Nat.le_of_ble_eq_true rfl) (Nat.le_of_ble_eq_true rfl) d_Pe_endDay_28 ?_
    refine pf_Pe_season C (by omega) (by omega) (v := mx 0 ((g t (pI i 3)) - (trs (g t (pI i 0)) d))) (G := va_up g t (upd (upd (g t) (pI i 4) 0) (pI i 3) (mx 0 ((g t (pI i 3)) - (trs (g t (pI i 0)) d))))) up_va k_44 d_Pe_endDay_31 ?_
    exact x_vret C (by first | (simp [endR, upd_at, pI_eq, *]; done) | (simp_all [endR, upd_at, pI_eq]; done)) d_Pe_endDay_34
