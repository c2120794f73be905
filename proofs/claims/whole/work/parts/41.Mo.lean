theorem c68_hd {a b : Nat → Int32} {n : Nat} (h : n < 68) : c68 a b n = a n := if_pos h
set_option maxRecDepth 100000 in
set_option maxHeartbeats 600000 in
theorem c_Mo_within (Z : ZT) (v a b : Int32) (g : St)  : CT yM Z y_Mo_within b_Mo_within 3 (some (.boolean)) 0 0 [.int (v), .int (a), .int (b)] (g) (QcI yM Z (bI (a ≤ v ∧ v ≤ b)) (g)) := by
  refine CT.mk "TunnelPeaceModel" (by decide) rfl (Nat.le_of_ble_eq_true rfl) (fun X C => ?_)
  refine x_lv [0, 1, 2] (lv' := [(0, .int (v)), (1, .int (a)), (2, .int (b))]) rfl ?_
  refine x_iload_n C d_Mo_within_0 0 rfl rfl ?_
  refine x_iload_n C d_Mo_within_1 1 rfl rfl ?_
  refine x_icmp_lt C d_Mo_within_2 14 (by decide) (fun c_1 => ?_) (fun c_1 => ?_)
  · have nc_1 := Int32.not_le.mpr c_1
    refine x_iconst C d_Mo_within_14 (v := 0) (by decide) ?_
    exact x_zret C (by decide) (bI_f (by simp [*])).symm rfl d_Mo_within_15
  · have nc_1 := Int32.not_lt.mp c_1
    refine x_iload_n C d_Mo_within_5 0 rfl rfl ?_
    refine x_iload_n C d_Mo_within_6 2 rfl rfl ?_
    refine x_icmp_gt C d_Mo_within_7 14 (by decide) (fun c_2 => ?_) (fun c_2 => ?_)
    · have nc_2 := Int32.not_le.mpr c_2
      refine x_iconst C d_Mo_within_14 (v := 0) (by decide) ?_
      exact x_zret C (by decide) (bI_f (by simp [*])).symm rfl d_Mo_within_15
    · have nc_2 := Int32.not_lt.mp c_2
      refine x_iconst C d_Mo_within_10 (v := 1) (by decide) ?_
      refine x_goto C d_Mo_within_11 15 (by decide) ?_
      exact x_zret C (by decide) (bI_t (by simp [*])).symm rfl d_Mo_within_15

set_option maxRecDepth 100000 in
set_option maxHeartbeats 600000 in
theorem c_Mo_isCell (Z : ZT) (v : Int32) (g : St)  : CT yM Z y_Mo_isCell b_Mo_isCell 1 (some (.boolean)) 1 22 [.int (v)] (g) (QcI yM Z (bI (0 ≤ v ∧ v ≤ 15)) (g)) := by
  refine CT.mk "TunnelPeaceModel" (by decide) rfl (Nat.le_of_ble_eq_true rfl) (fun X C => ?_)
  refine x_lv [0] (lv' := [(0, .int (v))]) rfl ?_
  refine x_iload_n C d_Mo_isCell_0 0 rfl rfl ?_
  refine x_iconst C d_Mo_isCell_1 (v := 0) (by decide) ?_
  refine x_bipush C d_Mo_isCell_2 (v := 15) (by decide) ?_
  refine x_callSi C (c_Mo_within Z v 0 15 (g)) mi_Mo_within k_859 (As := [.int (v), .int (0), .int (15)]) ⟨Nat.le_of_ble_eq_true rfl, Nat.le_of_ble_eq_true rfl⟩ rfl rfl (Nat.le_of_ble_eq_true rfl) d_Mo_isCell_4 ?_
  exact x_zret C (bI_01 _) rfl rfl d_Mo_isCell_7

set_option maxRecDepth 100000 in
set_option maxHeartbeats 600000 in
theorem c_Mo_isMany (Z : ZT) (v : Int32) (g : St)  : CT yM Z y_Mo_isMany b_Mo_isMany 1 (some (.boolean)) 1 22 [.int (v)] (g) (QcI yM Z (bI (0 ≤ v ∧ v ≤ 99)) (g)) := by
  refine CT.mk "TunnelPeaceModel" (by decide) rfl (Nat.le_of_ble_eq_true rfl) (fun X C => ?_)
  refine x_lv [0] (lv' := [(0, .int (v))]) rfl ?_
  refine x_iload_n C d_Mo_isMany_0 0 rfl rfl ?_
  refine x_iconst C d_Mo_isMany_1 (v := 0) (by decide) ?_
  refine x_bipush C d_Mo_isMany_2 (v := 99) (by decide) ?_
  refine x_callSi C (c_Mo_within Z v 0 99 (g)) mi_Mo_within k_859 (As := [.int (v), .int (0), .int (99)]) ⟨Nat.le_of_ble_eq_true rfl, Nat.le_of_ble_eq_true rfl⟩ rfl rfl (Nat.le_of_ble_eq_true rfl) d_Mo_isMany_4 ?_
  exact x_zret C (bI_01 _) rfl rfl d_Mo_isMany_7

set_option maxRecDepth 100000 in
set_option maxHeartbeats 600000 in
theorem c_Mo_isPlace (Z : ZT) (v : Int32) (g : St)  : CT yM Z y_Mo_isPlace b_Mo_isPlace 1 (some (.boolean)) 1 22 [.int (v)] (g) (QcI yM Z (bI (0 ≤ v ∧ v ≤ 5)) (g)) := by
  refine CT.mk "TunnelPeaceModel" (by decide) rfl (Nat.le_of_ble_eq_true rfl) (fun X C => ?_)
  refine x_lv [0] (lv' := [(0, .int (v))]) rfl ?_
  refine x_iload_n C d_Mo_isPlace_0 0 rfl rfl ?_
  refine x_iconst C d_Mo_isPlace_1 (v := 0) (by decide) ?_
  refine x_iconst C d_Mo_isPlace_2 (v := 5) (by decide) ?_
  refine x_callSi C (c_Mo_within Z v 0 5 (g)) mi_Mo_within k_859 (As := [.int (v), .int (0), .int (5)]) ⟨Nat.le_of_ble_eq_true rfl, Nat.le_of_ble_eq_true rfl⟩ rfl rfl (Nat.le_of_ble_eq_true rfl) d_Mo_isPlace_3 ?_
  exact x_zret C (bI_01 _) rfl rfl d_Mo_isPlace_6

set_option maxRecDepth 100000 in
set_option maxHeartbeats 600000 in
theorem c_Mo_isKind (Z : ZT) (v : Int32) (g : St)  : CT yM Z y_Mo_isKind b_Mo_isKind 1 (some (.boolean)) 1 22 [.int (v)] (g) (QcI yM Z (bI (0 ≤ v ∧ v ≤ 6)) (g)) := by
  refine CT.mk "TunnelPeaceModel" (by decide) rfl (Nat.le_of_ble_eq_true rfl) (fun X C => ?_)
  refine x_lv [0] (lv' := [(0, .int (v))]) rfl ?_
  refine x_iload_n C d_Mo_isKind_0 0 rfl rfl ?_
  refine x_iconst C d_Mo_isKind_1 (v := 0) (by decide) ?_
  refine x_bipush C d_Mo_isKind_2 (v := 6) (by decide) ?_
  refine x_callSi C (c_Mo_within Z v 0 6 (g)) mi_Mo_within k_859 (As := [.int (v), .int (0), .int (6)]) ⟨Nat.le_of_ble_eq_true rfl, Nat.le_of_ble_eq_true rfl⟩ rfl rfl (Nat.le_of_ble_eq_true rfl) d_Mo_isKind_4 ?_
  exact x_zret C (bI_01 _) rfl rfl d_Mo_isKind_7

set_option maxRecDepth 100000 in
set_option maxHeartbeats 600000 in
theorem c_Mo_isThought (Z : ZT) (v : Int32) (g : St)  : CT yM Z y_Mo_isThought b_Mo_isThought 1 (some (.boolean)) 1 22 [.int (v)] (g) (QcI yM Z (bI (0 ≤ v ∧ v ≤ 40)) (g)) := by
  refine CT.mk "TunnelPeaceModel" (by decide) rfl (Nat.le_of_ble_eq_true rfl) (fun X C => ?_)
  refine x_lv [0] (lv' := [(0, .int (v))]) rfl ?_
  refine x_iload_n C d_Mo_isThought_0 0 rfl rfl ?_
  refine x_iconst C d_Mo_isThought_1 (v := 0) (by decide) ?_
  refine x_bipush C d_Mo_isThought_2 (v := 40) (by decide) ?_
  refine x_callSi C (c_Mo_within Z v 0 40 (g)) mi_Mo_within k_859 (As := [.int (v), .int (0), .int (40)]) ⟨Nat.le_of_ble_eq_true rfl, Nat.le_of_ble_eq_true rfl⟩ rfl rfl (Nat.le_of_ble_eq_true rfl) d_Mo_isThought_4 ?_
  exact x_zret C (bI_01 _) rfl rfl d_Mo_isThought_7

set_option maxRecDepth 100000 in
set_option maxHeartbeats 600000 in
theorem c_Mo_isSpot (Z : ZT) (v : Int32) (g : St)  : CT yM Z y_Mo_isSpot b_Mo_isSpot 1 (some (.boolean)) 1 22 [.int (v)] (g) (QcI yM Z (bI (0 ≤ v ∧ v ≤ 9)) (g)) := by
  refine CT.mk "TunnelPeaceModel" (by decide) rfl (Nat.le_of_ble_eq_true rfl) (fun X C => ?_)
  refine x_lv [0] (lv' := [(0, .int (v))]) rfl ?_
  refine x_iload_n C d_Mo_isSpot_0 0 rfl rfl ?_
  refine x_iconst C d_Mo_isSpot_1 (v := 0) (by decide) ?_
  refine x_bipush C d_Mo_isSpot_2 (v := 9) (by decide) ?_
  refine x_callSi C (c_Mo_within Z v 0 9 (g)) mi_Mo_within k_859 (As := [.int (v), .int (0), .int (9)]) ⟨Nat.le_of_ble_eq_true rfl, Nat.le_of_ble_eq_true rfl⟩ rfl rfl (Nat.le_of_ble_eq_true rfl) d_Mo_isSpot_4 ?_
  exact x_zret C (bI_01 _) rfl rfl d_Mo_isSpot_7

set_option maxRecDepth 100000 in
set_option maxHeartbeats 600000 in
theorem c_Mo_isSheet (Z : ZT) (v : Int32) (g : St)  : CT yM Z y_Mo_isSheet b_Mo_isSheet 1 (some (.boolean)) 1 22 [.int (v)] (g) (QcI yM Z (bI (0 ≤ v ∧ v ≤ 3)) (g)) := by
  refine CT.mk "TunnelPeaceModel" (by decide) rfl (Nat.le_of_ble_eq_true rfl) (fun X C => ?_)
  refine x_lv [0] (lv' := [(0, .int (v))]) rfl ?_
  refine x_iload_n C d_Mo_isSheet_0 0 rfl rfl ?_
  refine x_iconst C d_Mo_isSheet_1 (v := 0) (by decide) ?_
  refine x_iconst C d_Mo_isSheet_2 (v := 3) (by decide) ?_
  refine x_callSi C (c_Mo_within Z v 0 3 (g)) mi_Mo_within k_859 (As := [.int (v), .int (0), .int (3)]) ⟨Nat.le_of_ble_eq_true rfl, Nat.le_of_ble_eq_true rfl⟩ rfl rfl (Nat.le_of_ble_eq_true rfl) d_Mo_isSheet_3 ?_
  exact x_zret C (bI_01 _) rfl rfl d_Mo_isSheet_6

set_option maxRecDepth 100000 in
set_option maxHeartbeats 600000 in
theorem c_Mo_finding_0 (Z : ZT)  (g : St)  (r : Nat → Int32) (hr : g 4 = r) : CT yM Z y_Mo_finding b_Mo_finding 2 (some (.int)) 0 0 [.ref (Z.2.1 (0)), .int ((-1000001))] (g) (QcI yM Z ((-1000001)) (va_up g 4 (mfnR r 0))) := by
  refine CT.mk "TunnelPeaceModel" (by decide) rfl (Nat.le_of_ble_eq_true rfl) (fun X C => ?_)
  refine x_lv [0, 1] (lv' := [(0, .ref (Z.2.1 (0))), (1, .int ((-1000001)))]) rfl ?_
  subst hr
  refine x_aload_n C d_Mo_finding_0 0 rfl rfl ?_
  refine gf_Mo_found C k_795 d_Mo_finding_1 ?_
  refine x_ldc C d_Mo_finding_4 k_866 ?_
  refine x_iload_n C d_Mo_finding_6 1 rfl rfl ?_
  refine x_isub C d_Mo_finding_7 ?_
  refine x_iconst C d_Mo_finding_8 (v := 1) (by decide) ?_
  refine x_iadd C d_Mo_finding_9 ?_
  refine x_topi (x' := nI 1) (by decide) ?_
  refine x_dup2 C d_Mo_finding_10 rfl rfl ?_
  refine al_m_found C 1 (v := g 4 1) rfl (by first | omega | (simp only [pI]; omega)) rfl d_Mo_finding_11 ?_
  refine x_iconst C d_Mo_finding_12 (v := 1) (by decide) ?_
  refine x_iadd C d_Mo_finding_13 ?_
  refine as_m_found C 1 (v := (g 4 1) + 1) rfl (by first | omega | (simp only [pI]; omega)) (G := va_up g 4 (upd (g 4) 1 ((g 4 1) + 1))) rfl d_Mo_finding_14 ?_
  refine x_aload_n C d_Mo_finding_15 0 rfl rfl ?_
  refine gf_Mo_found C k_795 d_Mo_finding_16 ?_
  refine x_iconst C d_Mo_finding_19 (v := 0) (by decide) ?_
  refine x_dup2 C d_Mo_finding_20 rfl rfl ?_
  refine al_m_found C 0 (v := g 4 0) (by decide) (by first | omega | (simp only [pI]; omega)) (Eq.trans (congrFun (va_up_self _ _ _) _) (pk_un (by first | decide | (simp only [pI]; omega)))) d_Mo_finding_21 ?_
  refine x_iconst C d_Mo_finding_22 (v := 1) (by decide) ?_
  refine x_iadd C d_Mo_finding_23 ?_
  refine as_m_found C 0 (v := (g 4 0) + 1) (by decide) (by first | omega | (simp only [pI]; omega)) (G := va_up g 4 (upd (upd (g 4) 1 ((g 4 1) + 1)) 0 ((g 4 0) + 1))) up_va d_Mo_finding_24 ?_
  refine x_iload_n C d_Mo_finding_25 1 rfl rfl ?_
  exact x_iret C rfl (by simp [mfnR, upd_at]) d_Mo_finding_26

set_option maxRecDepth 100000 in
set_option maxHeartbeats 600000 in
theorem c_Mo_finding_1 (Z : ZT)  (g : St)  (r : Nat → Int32) (hr : g 4 = r) : CT yM Z y_Mo_finding b_Mo_finding 2 (some (.int)) 0 0 [.ref (Z.2.1 (0)), .int ((-1000002))] (g) (QcI yM Z ((-1000002)) (va_up g 4 (mfnR r 1))) := by
  refine CT.mk "TunnelPeaceModel" (by decide) rfl (Nat.le_of_ble_eq_true rfl) (fun X C => ?_)
  refine x_lv [0, 1] (lv' := [(0, .ref (Z.2.1 (0))), (1, .int ((-1000002)))]) rfl ?_
  subst hr
  refine x_aload_n C d_Mo_finding_0 0 rfl rfl ?_
  refine gf_Mo_found C k_795 d_Mo_finding_1 ?_
  refine x_ldc C d_Mo_finding_4 k_866 ?_
  refine x_iload_n C d_Mo_finding_6 1 rfl rfl ?_
  refine x_isub C d_Mo_finding_7 ?_
  refine x_iconst C d_Mo_finding_8 (v := 1) (by decide) ?_
  refine x_iadd C d_Mo_finding_9 ?_
  refine x_topi (x' := nI 2) (by decide) ?_
  refine x_dup2 C d_Mo_finding_10 rfl rfl ?_
  refine al_m_found C 2 (v := g 4 2) rfl (by first | omega | (simp only [pI]; omega)) rfl d_Mo_finding_11 ?_
  refine x_iconst C d_Mo_finding_12 (v := 1) (by decide) ?_
  refine x_iadd C d_Mo_finding_13 ?_
  refine as_m_found C 2 (v := (g 4 2) + 1) rfl (by first | omega | (simp only [pI]; omega)) (G := va_up g 4 (upd (g 4) 2 ((g 4 2) + 1))) rfl d_Mo_finding_14 ?_
  refine x_aload_n C d_Mo_finding_15 0 rfl rfl ?_
  refine gf_Mo_found C k_795 d_Mo_finding_16 ?_
  refine x_iconst C d_Mo_finding_19 (v := 0) (by decide) ?_
  refine x_dup2 C d_Mo_finding_20 rfl rfl ?_
  refine al_m_found C 0 (v := g 4 0) (by decide) (by first | omega | (simp only [pI]; omega)) (Eq.trans (congrFun (va_up_self _ _ _) _) (pk_un (by first | decide | (simp only [pI]; omega)))) d_Mo_finding_21 ?_
  refine x_iconst C d_Mo_finding_22 (v := 1) (by decide) ?_
  refine x_iadd C d_Mo_finding_23 ?_
  refine as_m_found C 0 (v := (g 4 0) + 1) (by decide) (by first | omega | (simp only [pI]; omega)) (G := va_up g 4 (upd (upd (g 4) 2 ((g 4 2) + 1)) 0 ((g 4 0) + 1))) up_va d_Mo_finding_24 ?_
  refine x_iload_n C d_Mo_finding_25 1 rfl rfl ?_
  exact x_iret C rfl (by simp [mfnR, upd_at]) d_Mo_finding_26

set_option maxRecDepth 100000 in
set_option maxHeartbeats 600000 in
theorem c_Mo_finding_2 (Z : ZT)  (g : St)  (r : Nat → Int32) (hr : g 4 = r) : CT yM Z y_Mo_finding b_Mo_finding 2 (some (.int)) 0 0 [.ref (Z.2.1 (0)), .int ((-1000003))] (g) (QcI yM Z ((-1000003)) (va_up g 4 (mfnR r 2))) := by
  refine CT.mk "TunnelPeaceModel" (by decide) rfl (Nat.le_of_ble_eq_true rfl) (fun X C => ?_)
  refine x_lv [0, 1] (lv' := [(0, .ref (Z.2.1 (0))), (1, .int ((-1000003)))]) rfl ?_
  subst hr
  refine x_aload_n C d_Mo_finding_0 0 rfl rfl ?_
  refine gf_Mo_found C k_795 d_Mo_finding_1 ?_
  refine x_ldc C d_Mo_finding_4 k_866 ?_
  refine x_iload_n C d_Mo_finding_6 1 rfl rfl ?_
  refine x_isub C d_Mo_finding_7 ?_
  refine x_iconst C d_Mo_finding_8 (v := 1) (by decide) ?_
  refine x_iadd C d_Mo_finding_9 ?_
  refine x_topi (x' := nI 3) (by decide) ?_
  refine x_dup2 C d_Mo_finding_10 rfl rfl ?_
  refine al_m_found C 3 (v := g 4 3) rfl (by first | omega | (simp only [pI]; omega)) rfl d_Mo_finding_11 ?_
  refine x_iconst C d_Mo_finding_12 (v := 1) (by decide) ?_
  refine x_iadd C d_Mo_finding_13 ?_
  refine as_m_found C 3 (v := (g 4 3) + 1) rfl (by first | omega | (simp only [pI]; omega)) (G := va_up g 4 (upd (g 4) 3 ((g 4 3) + 1))) rfl d_Mo_finding_14 ?_
  refine x_aload_n C d_Mo_finding_15 0 rfl rfl ?_
  refine gf_Mo_found C k_795 d_Mo_finding_16 ?_
  refine x_iconst C d_Mo_finding_19 (v := 0) (by decide) ?_
  refine x_dup2 C d_Mo_finding_20 rfl rfl ?_
  refine al_m_found C 0 (v := g 4 0) (by decide) (by first | omega | (simp only [pI]; omega)) (Eq.trans (congrFun (va_up_self _ _ _) _) (pk_un (by first | decide | (simp only [pI]; omega)))) d_Mo_finding_21 ?_
  refine x_iconst C d_Mo_finding_22 (v := 1) (by decide) ?_
  refine x_iadd C d_Mo_finding_23 ?_
  refine as_m_found C 0 (v := (g 4 0) + 1) (by decide) (by first | omega | (simp only [pI]; omega)) (G := va_up g 4 (upd (upd (g 4) 3 ((g 4 3) + 1)) 0 ((g 4 0) + 1))) up_va d_Mo_finding_24 ?_
  refine x_iload_n C d_Mo_finding_25 1 rfl rfl ?_
  exact x_iret C rfl (by simp [mfnR, upd_at]) d_Mo_finding_26

set_option maxRecDepth 100000 in
set_option maxHeartbeats 600000 in
theorem c_Mo_finding_3 (Z : ZT)  (g : St)  (r : Nat → Int32) (hr : g 4 = r) : CT yM Z y_Mo_finding b_Mo_finding 2 (some (.int)) 0 0 [.ref (Z.2.1 (0)), .int ((-1000004))] (g) (QcI yM Z ((-1000004)) (va_up g 4 (mfnR r 3))) := by
  refine CT.mk "TunnelPeaceModel" (by decide) rfl (Nat.le_of_ble_eq_true rfl) (fun X C => ?_)
  refine x_lv [0, 1] (lv' := [(0, .ref (Z.2.1 (0))), (1, .int ((-1000004)))]) rfl ?_
  subst hr
  refine x_aload_n C d_Mo_finding_0 0 rfl rfl ?_
  refine gf_Mo_found C k_795 d_Mo_finding_1 ?_
  refine x_ldc C d_Mo_finding_4 k_866 ?_
  refine x_iload_n C d_Mo_finding_6 1 rfl rfl ?_
  refine x_isub C d_Mo_finding_7 ?_
  refine x_iconst C d_Mo_finding_8 (v := 1) (by decide) ?_
  refine x_iadd C d_Mo_finding_9 ?_
  refine x_topi (x' := nI 4) (by decide) ?_
  refine x_dup2 C d_Mo_finding_10 rfl rfl ?_
  refine al_m_found C 4 (v := g 4 4) rfl (by first | omega | (simp only [pI]; omega)) rfl d_Mo_finding_11 ?_
  refine x_iconst C d_Mo_finding_12 (v := 1) (by decide) ?_
  refine x_iadd C d_Mo_finding_13 ?_
  refine as_m_found C 4 (v := (g 4 4) + 1) rfl (by first | omega | (simp only [pI]; omega)) (G := va_up g 4 (upd (g 4) 4 ((g 4 4) + 1))) rfl d_Mo_finding_14 ?_
  refine x_aload_n C d_Mo_finding_15 0 rfl rfl ?_
  refine gf_Mo_found C k_795 d_Mo_finding_16 ?_
  refine x_iconst C d_Mo_finding_19 (v := 0) (by decide) ?_
  refine x_dup2 C d_Mo_finding_20 rfl rfl ?_
  refine al_m_found C 0 (v := g 4 0) (by decide) (by first | omega | (simp only [pI]; omega)) (Eq.trans (congrFun (va_up_self _ _ _) _) (pk_un (by first | decide | (simp only [pI]; omega)))) d_Mo_finding_21 ?_
  refine x_iconst C d_Mo_finding_22 (v := 1) (by decide) ?_
  refine x_iadd C d_Mo_finding_23 ?_
  refine as_m_found C 0 (v := (g 4 0) + 1) (by decide) (by first | omega | (simp only [pI]; omega)) (G := va_up g 4 (upd (upd (g 4) 4 ((g 4 4) + 1)) 0 ((g 4 0) + 1))) up_va d_Mo_finding_24 ?_
  refine x_iload_n C d_Mo_finding_25 1 rfl rfl ?_
  exact x_iret C rfl (by simp [mfnR, upd_at]) d_Mo_finding_26

set_option maxRecDepth 100000 in
set_option maxHeartbeats 600000 in
theorem c_Mo_finding_4 (Z : ZT)  (g : St)  (r : Nat → Int32) (hr : g 4 = r) : CT yM Z y_Mo_finding b_Mo_finding 2 (some (.int)) 0 0 [.ref (Z.2.1 (0)), .int ((-1000005))] (g) (QcI yM Z ((-1000005)) (va_up g 4 (mfnR r 4))) := by
  refine CT.mk "TunnelPeaceModel" (by decide) rfl (Nat.le_of_ble_eq_true rfl) (fun X C => ?_)
  refine x_lv [0, 1] (lv' := [(0, .ref (Z.2.1 (0))), (1, .int ((-1000005)))]) rfl ?_
  subst hr
  refine x_aload_n C d_Mo_finding_0 0 rfl rfl ?_
  refine gf_Mo_found C k_795 d_Mo_finding_1 ?_
  refine x_ldc C d_Mo_finding_4 k_866 ?_
  refine x_iload_n C d_Mo_finding_6 1 rfl rfl ?_
  refine x_isub C d_Mo_finding_7 ?_
  refine x_iconst C d_Mo_finding_8 (v := 1) (by decide) ?_
  refine x_iadd C d_Mo_finding_9 ?_
  refine x_topi (x' := nI 5) (by decide) ?_
  refine x_dup2 C d_Mo_finding_10 rfl rfl ?_
  refine al_m_found C 5 (v := g 4 5) rfl (by first | omega | (simp only [pI]; omega)) rfl d_Mo_finding_11 ?_
  refine x_iconst C d_Mo_finding_12 (v := 1) (by decide) ?_
  refine x_iadd C d_Mo_finding_13 ?_
  refine as_m_found C 5 (v := (g 4 5) + 1) rfl (by first | omega | (simp only [pI]; omega)) (G := va_up g 4 (upd (g 4) 5 ((g 4 5) + 1))) rfl d_Mo_finding_14 ?_
  refine x_aload_n C d_Mo_finding_15 0 rfl rfl ?_
  refine gf_Mo_found C k_795 d_Mo_finding_16 ?_
  refine x_iconst C d_Mo_finding_19 (v := 0) (by decide) ?_
  refine x_dup2 C d_Mo_finding_20 rfl rfl ?_
  refine al_m_found C 0 (v := g 4 0) (by decide) (by first | omega | (simp only [pI]; omega)) (Eq.trans (congrFun (va_up_self _ _ _) _) (pk_un (by first | decide | (simp only [pI]; omega)))) d_Mo_finding_21 ?_
  refine x_iconst C d_Mo_finding_22 (v := 1) (by decide) ?_
  refine x_iadd C d_Mo_finding_23 ?_
  refine as_m_found C 0 (v := (g 4 0) + 1) (by decide) (by first | omega | (simp only [pI]; omega)) (G := va_up g 4 (upd (upd (g 4) 5 ((g 4 5) + 1)) 0 ((g 4 0) + 1))) up_va d_Mo_finding_24 ?_
  refine x_iload_n C d_Mo_finding_25 1 rfl rfl ?_
  exact x_iret C rfl (by simp [mfnR, upd_at]) d_Mo_finding_26

set_option maxRecDepth 100000 in
set_option maxHeartbeats 600000 in
theorem c_Mo_finding_5 (Z : ZT)  (g : St)  (r : Nat → Int32) (hr : g 4 = r) : CT yM Z y_Mo_finding b_Mo_finding 2 (some (.int)) 0 0 [.ref (Z.2.1 (0)), .int ((-1000006))] (g) (QcI yM Z ((-1000006)) (va_up g 4 (mfnR r 5))) := by
  refine CT.mk "TunnelPeaceModel" (by decide) rfl (Nat.le_of_ble_eq_true rfl) (fun X C => ?_)
  refine x_lv [0, 1] (lv' := [(0, .ref (Z.2.1 (0))), (1, .int ((-1000006)))]) rfl ?_
  subst hr
  refine x_aload_n C d_Mo_finding_0 0 rfl rfl ?_
  refine gf_Mo_found C k_795 d_Mo_finding_1 ?_
  refine x_ldc C d_Mo_finding_4 k_866 ?_
  refine x_iload_n C d_Mo_finding_6 1 rfl rfl ?_
  refine x_isub C d_Mo_finding_7 ?_
  refine x_iconst C d_Mo_finding_8 (v := 1) (by decide) ?_
  refine x_iadd C d_Mo_finding_9 ?_
  refine x_topi (x' := nI 6) (by decide) ?_
  refine x_dup2 C d_Mo_finding_10 rfl rfl ?_
  refine al_m_found C 6 (v := g 4 6) rfl (by first | omega | (simp only [pI]; omega)) rfl d_Mo_finding_11 ?_
  refine x_iconst C d_Mo_finding_12 (v := 1) (by decide) ?_
  refine x_iadd C d_Mo_finding_13 ?_
  refine as_m_found C 6 (v := (g 4 6) + 1) rfl (by first | omega | (simp only [pI]; omega)) (G := va_up g 4 (upd (g 4) 6 ((g 4 6) + 1))) rfl d_Mo_finding_14 ?_
  refine x_aload_n C d_Mo_finding_15 0 rfl rfl ?_
  refine gf_Mo_found C k_795 d_Mo_finding_16 ?_
  refine x_iconst C d_Mo_finding_19 (v := 0) (by decide) ?_
  refine x_dup2 C d_Mo_finding_20 rfl rfl ?_
  refine al_m_found C 0 (v := g 4 0) (by decide) (by first | omega | (simp only [pI]; omega)) (Eq.trans (congrFun (va_up_self _ _ _) _) (pk_un (by first | decide | (simp only [pI]; omega)))) d_Mo_finding_21 ?_
  refine x_iconst C d_Mo_finding_22 (v := 1) (by decide) ?_
  refine x_iadd C d_Mo_finding_23 ?_
  refine as_m_found C 0 (v := (g 4 0) + 1) (by decide) (by first | omega | (simp only [pI]; omega)) (G := va_up g 4 (upd (upd (g 4) 6 ((g 4 6) + 1)) 0 ((g 4 0) + 1))) up_va d_Mo_finding_24 ?_
  refine x_iload_n C d_Mo_finding_25 1 rfl rfl ?_
  exact x_iret C rfl (by simp [mfnR, upd_at]) d_Mo_finding_26

set_option maxRecDepth 100000 in
set_option maxHeartbeats 600000 in
theorem c_Mo_finding_6 (Z : ZT)  (g : St)  (r : Nat → Int32) (hr : g 4 = r) : CT yM Z y_Mo_finding b_Mo_finding 2 (some (.int)) 0 0 [.ref (Z.2.1 (0)), .int ((-1000007))] (g) (QcI yM Z ((-1000007)) (va_up g 4 (mfnR r 6))) := by
  refine CT.mk "TunnelPeaceModel" (by decide) rfl (Nat.le_of_ble_eq_true rfl) (fun X C => ?_)
  refine x_lv [0, 1] (lv' := [(0, .ref (Z.2.1 (0))), (1, .int ((-1000007)))]) rfl ?_
  subst hr
  refine x_aload_n C d_Mo_finding_0 0 rfl rfl ?_
  refine gf_Mo_found C k_795 d_Mo_finding_1 ?_
  refine x_ldc C d_Mo_finding_4 k_866 ?_
  refine x_iload_n C d_Mo_finding_6 1 rfl rfl ?_
  refine x_isub C d_Mo_finding_7 ?_
  refine x_iconst C d_Mo_finding_8 (v := 1) (by decide) ?_
  refine x_iadd C d_Mo_finding_9 ?_
  refine x_topi (x' := nI 7) (by decide) ?_
  refine x_dup2 C d_Mo_finding_10 rfl rfl ?_
  refine al_m_found C 7 (v := g 4 7) rfl (by first | omega | (simp only [pI]; omega)) rfl d_Mo_finding_11 ?_
  refine x_iconst C d_Mo_finding_12 (v := 1) (by decide) ?_
  refine x_iadd C d_Mo_finding_13 ?_
  refine as_m_found C 7 (v := (g 4 7) + 1) rfl (by first | omega | (simp only [pI]; omega)) (G := va_up g 4 (upd (g 4) 7 ((g 4 7) + 1))) rfl d_Mo_finding_14 ?_
  refine x_aload_n C d_Mo_finding_15 0 rfl rfl ?_
  refine gf_Mo_found C k_795 d_Mo_finding_16 ?_
  refine x_iconst C d_Mo_finding_19 (v := 0) (by decide) ?_
  refine x_dup2 C d_Mo_finding_20 rfl rfl ?_
  refine al_m_found C 0 (v := g 4 0) (by decide) (by first | omega | (simp only [pI]; omega)) (Eq.trans (congrFun (va_up_self _ _ _) _) (pk_un (by first | decide | (simp only [pI]; omega)))) d_Mo_finding_21 ?_
  refine x_iconst C d_Mo_finding_22 (v := 1) (by decide) ?_
  refine x_iadd C d_Mo_finding_23 ?_
  refine as_m_found C 0 (v := (g 4 0) + 1) (by decide) (by first | omega | (simp only [pI]; omega)) (G := va_up g 4 (upd (upd (g 4) 7 ((g 4 7) + 1)) 0 ((g 4 0) + 1))) up_va d_Mo_finding_24 ?_
  refine x_iload_n C d_Mo_finding_25 1 rfl rfl ?_
  exact x_iret C rfl (by simp [mfnR, upd_at]) d_Mo_finding_26

set_option maxRecDepth 100000 in
set_option maxHeartbeats 600000 in
theorem c_Mo_become (Z : ZT) (k : Nat) (hk : k < 68) (v : Int32) (g : St)  (r : Nat → Int32) (hr : g 0 = r) : CT yM Z y_Mo_become b_Mo_become 4 (some (.int)) 0 0 [.ref (Z.2.1 (0)), .int (nI k), .int (v)] (g) (QcI yM Z (r k) (va_up g 0 (upd r k v))) := by
  refine CT.mk "TunnelPeaceModel" (by decide) rfl (Nat.le_of_ble_eq_true rfl) (fun X C => ?_)
  refine x_lv [0, 1, 2] (lv' := [(0, .ref (Z.2.1 (0))), (1, .int (nI k)), (2, .int (v))]) rfl ?_
  subst hr
  refine x_aload_n C d_Mo_become_0 0 rfl rfl ?_
  refine gf_Mo_now C k_791 d_Mo_become_1 ?_
  refine x_iload_n C d_Mo_become_4 1 rfl rfl ?_
  refine al_m_now C k (v := g 0 k) rfl (by first | omega | (simp only [pI]; omega)) rfl d_Mo_become_5 ?_
  refine x_istore_n C d_Mo_become_6 rfl (by decide) (lv' := [(3, .int (g 0 k)), (0, .ref (Z.2.1 (0))), (1, .int (nI k)), (2, .int (v))]) rfl ?_
  refine x_aload_n C d_Mo_become_7 1 rfl rfl ?_
  refine gf_Mo_now C k_791 d_Mo_become_8 ?_
  refine x_iload_n C d_Mo_become_11 2 rfl rfl ?_
  refine x_iload_n C d_Mo_become_12 3 rfl rfl ?_
  refine as_m_now C k (v := v) rfl (by first | omega | (simp only [pI]; omega)) (G := va_up g 0 (upd (g 0) k v)) rfl d_Mo_become_13 ?_
  refine x_iload_n C d_Mo_become_14 0 rfl rfl ?_
  exact x_iret C (by simp_all) (by simp_all) d_Mo_become_15

set_option maxRecDepth 100000 in
set_option maxHeartbeats 600000 in
theorem c_Mo_copyRow_02 (Z : ZT)  (g : St)  (ra rb : Nat → Int32) (ha : g 0 = ra) (hb : g 2 = rb) : CT yM Z y_Mo_copyRow b_Mo_copyRow 3 none 0 0 [.ref (Z.2.1 (1)), .ref (Z.2.1 (3))] (g) (QcV yM Z (va_up g 2 (c68 ra rb))) := by
  refine CT.mk "TunnelPeaceModel" (by decide) rfl (Nat.le_of_ble_eq_true rfl) (fun X C => ?_)
  refine x_lv [0, 1] (lv' := [(0, .ref (Z.2.1 (1))), (1, .ref (Z.2.1 (3)))]) rfl ?_
  subst ha
  subst hb
  refine x_iconst C d_Mo_copyRow_0 (v := 0) (by decide) ?_
  refine x_topi (show (0 : Int32) = nI 0 by decide) ?_
  refine x_istore_n C d_Mo_copyRow_1 rfl (by decide) (lv' := [(2, .int (nI 0)), (0, .ref (Z.2.1 (1))), (1, .ref (Z.2.1 (3)))]) rfl ?_
  have LP_2 : ∀ (f_ i : Nat), i ≤ 68 → 68 - i < f_ → WX X 3 yM Z (QX X yM Z (QcV yM Z (va_up g 2 (c68 (g 0) (g 2))))) (va_up g 2 (cpM (g 0) (g 2) (i))) 2 [(2, .int (nI i)), (0, .ref (Z.2.1 (1))), (1, .ref (Z.2.1 (3)))] [] := by
    intro f_
    induction f_ with
    | zero => intro i h1_ h2_; exact absurd h2_ (Nat.not_lt_zero _)
    | succ f_ ih_2 =>
      intro i hi_2 hf_2
      refine x_iload_n C d_Mo_copyRow_2 0 rfl rfl ?_
      refine x_bipush C d_Mo_copyRow_3 (v := 68) (by decide) ?_
      refine x_icmp_ge C d_Mo_copyRow_5 20 (by decide) (fun c_1 => ?_) (fun c_1 => ?_)
      · have nc_1 := Int32.not_lt.mpr c_1
        have mc_1 : 68 ≤ i := (nI_leI (by omega) (by omega)).mp (show nI 68 ≤ nI i from c_1)
        have e_i : 68 = i := by omega
        subst e_i
        exact x_vret C (by rw [cpM_68]) d_Mo_copyRow_20
      · have nc_1 := Int32.not_le.mp c_1
        have mc_1 : ¬ 68 ≤ i := fun z_ => (show ¬ nI 68 ≤ nI i from c_1) ((nI_leI (by omega) (by omega)).mpr z_)
        refine x_aload_n C d_Mo_copyRow_8 2 rfl rfl ?_
        refine x_iload_n C d_Mo_copyRow_9 0 rfl rfl ?_
        refine x_aload_n C d_Mo_copyRow_10 1 rfl rfl ?_
        refine x_iload_n C d_Mo_copyRow_11 0 rfl rfl ?_
        refine al_m_now C i (v := g 0 i) rfl (by first | omega | (simp only [pI]; omega)) (congrFun (va_up_ne _ _ (by omega)) _) d_Mo_copyRow_12 ?_
        refine as_m_aside C i (v := g 0 i) rfl (by first | omega | (simp only [pI]; omega)) (G := va_up g 2 (upd (cpM (g 0) (g 2) (i)) i (g 0 i))) up_va d_Mo_copyRow_13 ?_
        refine x_iinc C d_Mo_copyRow_14 0 rfl (v := nI (i + 1)) (nI_1 _) (by decide) (lv' := [(2, .int (nI (i + 1))), (0, .ref (Z.2.1 (1))), (1, .ref (Z.2.1 (3)))]) rfl ?_
        refine x_goto C d_Mo_copyRow_17 2 (by decide) ?_
        refine x_eqg (g' := va_up g 2 (cpM (g 0) (g 2) (i + 1))) rfl ?_
        exact ih_2 (i + 1) (by omega) (by omega)
  refine x_eqg (g' := va_up g 2 (cpM (g 0) (g 2) (0))) (va_id g 2).symm ?_
  exact LP_2 (68 + 1) 0 (Nat.zero_le _) (by omega)

set_option maxRecDepth 100000 in
set_option maxHeartbeats 600000 in
theorem c_Mo_copyRow_20 (Z : ZT)  (g : St)  (ra rb : Nat → Int32) (ha : g 2 = ra) (hb : g 0 = rb) : CT yM Z y_Mo_copyRow b_Mo_copyRow 3 none 0 0 [.ref (Z.2.1 (3)), .ref (Z.2.1 (1))] (g) (QcV yM Z (va_up g 0 (c68 ra rb))) := by
  refine CT.mk "TunnelPeaceModel" (by decide) rfl (Nat.le_of_ble_eq_true rfl) (fun X C => ?_)
  refine x_lv [0, 1] (lv' := [(0, .ref (Z.2.1 (3))), (1, .ref (Z.2.1 (1)))]) rfl ?_
  subst ha
  subst hb
  refine x_iconst C d_Mo_copyRow_0 (v := 0) (by decide) ?_
  refine x_topi (show (0 : Int32) = nI 0 by decide) ?_
  refine x_istore_n C d_Mo_copyRow_1 rfl (by decide) (lv' := [(2, .int (nI 0)), (0, .ref (Z.2.1 (3))), (1, .ref (Z.2.1 (1)))]) rfl ?_
  have LP_2 : ∀ (f_ i : Nat), i ≤ 68 → 68 - i < f_ → WX X 3 yM Z (QX X yM Z (QcV yM Z (va_up g 0 (c68 (g 2) (g 0))))) (va_up g 0 (cpM (g 2) (g 0) (i))) 2 [(2, .int (nI i)), (0, .ref (Z.2.1 (3))), (1, .ref (Z.2.1 (1)))] [] := by
    intro f_
    induction f_ with
    | zero => intro i h1_ h2_; exact absurd h2_ (Nat.not_lt_zero _)
    | succ f_ ih_2 =>
      intro i hi_2 hf_2
      refine x_iload_n C d_Mo_copyRow_2 0 rfl rfl ?_
      refine x_bipush C d_Mo_copyRow_3 (v := 68) (by decide) ?_
      refine x_icmp_ge C d_Mo_copyRow_5 20 (by decide) (fun c_1 => ?_) (fun c_1 => ?_)
      · have nc_1 := Int32.not_lt.mpr c_1
        have mc_1 : 68 ≤ i := (nI_leI (by omega) (by omega)).mp (show nI 68 ≤ nI i from c_1)
        have e_i : 68 = i := by omega
        subst e_i
        exact x_vret C (by rw [cpM_68]) d_Mo_copyRow_20
      · have nc_1 := Int32.not_le.mp c_1
        have mc_1 : ¬ 68 ≤ i := fun z_ => (show ¬ nI 68 ≤ nI i from c_1) ((nI_leI (by omega) (by omega)).mpr z_)
        refine x_aload_n C d_Mo_copyRow_8 2 rfl rfl ?_
        refine x_iload_n C d_Mo_copyRow_9 0 rfl rfl ?_
        refine x_aload_n C d_Mo_copyRow_10 1 rfl rfl ?_
        refine x_iload_n C d_Mo_copyRow_11 0 rfl rfl ?_
        refine al_m_aside C i (v := g 2 i) rfl (by first | omega | (simp only [pI]; omega)) (congrFun (va_up_ne _ _ (by omega)) _) d_Mo_copyRow_12 ?_
        refine as_m_now C i (v := g 2 i) rfl (by first | omega | (simp only [pI]; omega)) (G := va_up g 0 (upd (cpM (g 2) (g 0) (i)) i (g 2 i))) up_va d_Mo_copyRow_13 ?_
        refine x_iinc C d_Mo_copyRow_14 0 rfl (v := nI (i + 1)) (nI_1 _) (by decide) (lv' := [(2, .int (nI (i + 1))), (0, .ref (Z.2.1 (3))), (1, .ref (Z.2.1 (1)))]) rfl ?_
        refine x_goto C d_Mo_copyRow_17 2 (by decide) ?_
        refine x_eqg (g' := va_up g 0 (cpM (g 2) (g 0) (i + 1))) rfl ?_
        exact ih_2 (i + 1) (by omega) (by omega)
  refine x_eqg (g' := va_up g 0 (cpM (g 2) (g 0) (0))) (va_id g 0).symm ?_
  exact LP_2 (68 + 1) 0 (Nat.zero_le _) (by omega)

set_option maxRecDepth 100000 in
set_option maxHeartbeats 600000 in
theorem c_Mo_copyRow_01 (Z : ZT)  (g : St)  (ra rb : Nat → Int32) (ha : g 0 = ra) (hb : g 1 = rb) : CT yM Z y_Mo_copyRow b_Mo_copyRow 3 none 0 0 [.ref (Z.2.1 (1)), .ref (Z.2.1 (2))] (g) (QcV yM Z (va_up g 1 (c68 ra rb))) := by
  refine CT.mk "TunnelPeaceModel" (by decide) rfl (Nat.le_of_ble_eq_true rfl) (fun X C => ?_)
  refine x_lv [0, 1] (lv' := [(0, .ref (Z.2.1 (1))), (1, .ref (Z.2.1 (2)))]) rfl ?_
  subst ha
  subst hb
  refine x_iconst C d_Mo_copyRow_0 (v := 0) (by decide) ?_
  refine x_topi (show (0 : Int32) = nI 0 by decide) ?_
  refine x_istore_n C d_Mo_copyRow_1 rfl (by decide) (lv' := [(2, .int (nI 0)), (0, .ref (Z.2.1 (1))), (1, .ref (Z.2.1 (2)))]) rfl ?_
  have LP_2 : ∀ (f_ i : Nat), i ≤ 68 → 68 - i < f_ → WX X 3 yM Z (QX X yM Z (QcV yM Z (va_up g 1 (c68 (g 0) (g 1))))) (va_up g 1 (cpM (g 0) (g 1) (i))) 2 [(2, .int (nI i)), (0, .ref (Z.2.1 (1))), (1, .ref (Z.2.1 (2)))] [] := by
    intro f_
    induction f_ with
    | zero => intro i h1_ h2_; exact absurd h2_ (Nat.not_lt_zero _)
    | succ f_ ih_2 =>
      intro i hi_2 hf_2
      refine x_iload_n C d_Mo_copyRow_2 0 rfl rfl ?_
      refine x_bipush C d_Mo_copyRow_3 (v := 68) (by decide) ?_
      refine x_icmp_ge C d_Mo_copyRow_5 20 (by decide) (fun c_1 => ?_) (fun c_1 => ?_)
      · have nc_1 := Int32.not_lt.mpr c_1
        have mc_1 : 68 ≤ i := (nI_leI (by omega) (by omega)).mp (show nI 68 ≤ nI i from c_1)
        have e_i : 68 = i := by omega
        subst e_i
        exact x_vret C (by rw [cpM_68]) d_Mo_copyRow_20
      · have nc_1 := Int32.not_le.mp c_1
        have mc_1 : ¬ 68 ≤ i := fun z_ => (show ¬ nI 68 ≤ nI i from c_1) ((nI_leI (by omega) (by omega)).mpr z_)
        refine x_aload_n C d_Mo_copyRow_8 2 rfl rfl ?_
        refine x_iload_n C d_Mo_copyRow_9 0 rfl rfl ?_
        refine x_aload_n C d_Mo_copyRow_10 1 rfl rfl ?_
        refine x_iload_n C d_Mo_copyRow_11 0 rfl rfl ?_
        refine al_m_now C i (v := g 0 i) rfl (by first | omega | (simp only [pI]; omega)) (congrFun (va_up_ne _ _ (by omega)) _) d_Mo_copyRow_12 ?_
        refine as_m_kept C i (v := g 0 i) rfl (by first | omega | (simp only [pI]; omega)) (G := va_up g 1 (upd (cpM (g 0) (g 1) (i)) i (g 0 i))) up_va d_Mo_copyRow_13 ?_
        refine x_iinc C d_Mo_copyRow_14 0 rfl (v := nI (i + 1)) (nI_1 _) (by decide) (lv' := [(2, .int (nI (i + 1))), (0, .ref (Z.2.1 (1))), (1, .ref (Z.2.1 (2)))]) rfl ?_
        refine x_goto C d_Mo_copyRow_17 2 (by decide) ?_
        refine x_eqg (g' := va_up g 1 (cpM (g 0) (g 1) (i + 1))) rfl ?_
        exact ih_2 (i + 1) (by omega) (by omega)
  refine x_eqg (g' := va_up g 1 (cpM (g 0) (g 1) (0))) (va_id g 1).symm ?_
  exact LP_2 (68 + 1) 0 (Nat.zero_le _) (by omega)

set_option maxRecDepth 100000 in
set_option maxHeartbeats 600000 in
theorem c_Mo_copyRow_10 (Z : ZT)  (g : St)  (ra rb : Nat → Int32) (ha : g 1 = ra) (hb : g 0 = rb) : CT yM Z y_Mo_copyRow b_Mo_copyRow 3 none 0 0 [.ref (Z.2.1 (2)), .ref (Z.2.1 (1))] (g) (QcV yM Z (va_up g 0 (c68 ra rb))) := by
  refine CT.mk "TunnelPeaceModel" (by decide) rfl (Nat.le_of_ble_eq_true rfl) (fun X C => ?_)
  refine x_lv [0, 1] (lv' := [(0, .ref (Z.2.1 (2))), (1, .ref (Z.2.1 (1)))]) rfl ?_
  subst ha
  subst hb
  refine x_iconst C d_Mo_copyRow_0 (v := 0) (by decide) ?_
  refine x_topi (show (0 : Int32) = nI 0 by decide) ?_
  refine x_istore_n C d_Mo_copyRow_1 rfl (by decide) (lv' := [(2, .int (nI 0)), (0, .ref (Z.2.1 (2))), (1, .ref (Z.2.1 (1)))]) rfl ?_
  have LP_2 : ∀ (f_ i : Nat), i ≤ 68 → 68 - i < f_ → WX X 3 yM Z (QX X yM Z (QcV yM Z (va_up g 0 (c68 (g 1) (g 0))))) (va_up g 0 (cpM (g 1) (g 0) (i))) 2 [(2, .int (nI i)), (0, .ref (Z.2.1 (2))), (1, .ref (Z.2.1 (1)))] [] := by
    intro f_
    induction f_ with
    | zero => intro i h1_ h2_; exact absurd h2_ (Nat.not_lt_zero _)
    | succ f_ ih_2 =>
      intro i hi_2 hf_2
      refine x_iload_n C d_Mo_copyRow_2 0 rfl rfl ?_
      refine x_bipush C d_Mo_copyRow_3 (v := 68) (by decide) ?_
      refine x_icmp_ge C d_Mo_copyRow_5 20 (by decide) (fun c_1 => ?_) (fun c_1 => ?_)
      · have nc_1 := Int32.not_lt.mpr c_1
        have mc_1 : 68 ≤ i := (nI_leI (by omega) (by omega)).mp (show nI 68 ≤ nI i from c_1)
        have e_i : 68 = i := by omega
        subst e_i
        exact x_vret C (by rw [cpM_68]) d_Mo_copyRow_20
      · have nc_1 := Int32.not_le.mp c_1
        have mc_1 : ¬ 68 ≤ i := fun z_ => (show ¬ nI 68 ≤ nI i from c_1) ((nI_leI (by omega) (by omega)).mpr z_)
        refine x_aload_n C d_Mo_copyRow_8 2 rfl rfl ?_
        refine x_iload_n C d_Mo_copyRow_9 0 rfl rfl ?_
        refine x_aload_n C d_Mo_copyRow_10 1 rfl rfl ?_
        refine x_iload_n C d_Mo_copyRow_11 0 rfl rfl ?_
        refine al_m_kept C i (v := g 1 i) rfl (by first | omega | (simp only [pI]; omega)) (congrFun (va_up_ne _ _ (by omega)) _) d_Mo_copyRow_12 ?_
        refine as_m_now C i (v := g 1 i) rfl (by first | omega | (simp only [pI]; omega)) (G := va_up g 0 (upd (cpM (g 1) (g 0) (i)) i (g 1 i))) up_va d_Mo_copyRow_13 ?_
        refine x_iinc C d_Mo_copyRow_14 0 rfl (v := nI (i + 1)) (nI_1 _) (by decide) (lv' := [(2, .int (nI (i + 1))), (0, .ref (Z.2.1 (2))), (1, .ref (Z.2.1 (1)))]) rfl ?_
        refine x_goto C d_Mo_copyRow_17 2 (by decide) ?_
        refine x_eqg (g' := va_up g 0 (cpM (g 1) (g 0) (i + 1))) rfl ?_
        exact ih_2 (i + 1) (by omega) (by omega)
  refine x_eqg (g' := va_up g 0 (cpM (g 1) (g 0) (0))) (va_id g 0).symm ?_
  exact LP_2 (68 + 1) 0 (Nat.zero_le _) (by omega)

set_option maxRecDepth 100000 in
set_option maxHeartbeats 600000 in
theorem c_Mo_placeNow (Z : ZT)  (g : St)  (r : Nat → Int32) (hr : g 0 = r) (hk : okR r) : CT yM Z y_Mo_placeNow b_Mo_placeNow 1 (some (.int)) 0 0 [.ref (Z.2.1 (0))] (g) (QcI yM Z (nI (4 + dy r % 6)) (g)) := by
  refine CT.mk "TunnelPeaceModel" (by decide) rfl (Nat.le_of_ble_eq_true rfl) (fun X C => ?_)
  refine x_lv [0] (lv' := [(0, .ref (Z.2.1 (0)))]) rfl ?_
  subst hr
  obtain ⟨⟨n, hn8, hn⟩, dd, hdd, hd⟩ := hk
  refine x_iconst C d_Mo_placeNow_0 (v := 4) (by decide) ?_
  refine x_aload_n C d_Mo_placeNow_1 0 rfl rfl ?_
  refine gf_Mo_now C k_791 d_Mo_placeNow_2 ?_
  refine x_iconst C d_Mo_placeNow_5 (v := 0) (by decide) ?_
  refine al_m_now C 0 (v := g 0 0) (by decide) (by first | omega | (simp only [pI]; omega)) rfl d_Mo_placeNow_6 ?_
  refine x_bipush C d_Mo_placeNow_7 (v := 6) (by decide) ?_
  refine x_irem C d_Mo_placeNow_9 (by decide) ?_
  refine x_topi (x' := nI (dd % 6)) (by rw [hd]; exact pk_rem (d := 6) (by omega) (by decide) (by decide)) ?_
  refine x_iadd C d_Mo_placeNow_10 ?_
  refine x_topi (x' := nI (4 + dd % 6)) (nI_add 4 _) ?_
  exact x_iret C (by rw [dy_of hd hdd]) rfl d_Mo_placeNow_11

set_option maxRecDepth 100000 in
set_option maxHeartbeats 600000 in
theorem c_Mo_personAt (Z : ZT) (p f : Nat) (g : St)  : CT yM Z y_Mo_personAt b_Mo_personAt 2 (some (.int)) 0 0 [.int (nI p), .int (nI f)] (g) (QcI yM Z (nI (pI p f)) (g)) := by
  refine CT.mk "TunnelPeaceModel" (by decide) rfl (Nat.le_of_ble_eq_true rfl) (fun X C => ?_)
  refine x_lv [0, 1] (lv' := [(0, .int (nI p)), (1, .int (nI f))]) rfl ?_
  refine x_bipush C d_Mo_personAt_0 (v := 20) (by decide) ?_
  refine x_bipush C d_Mo_personAt_2 (v := 6) (by decide) ?_
  refine x_iload_n C d_Mo_personAt_4 0 rfl rfl ?_
  refine x_imul C d_Mo_personAt_5 ?_
  refine x_topi (x' := nI (6 * p)) (pk_mul 6 p) ?_
  refine x_iadd C d_Mo_personAt_6 ?_
  refine x_topi (x' := nI (20 + 6 * p)) (nI_add 20 _) ?_
  refine x_iload_n C d_Mo_personAt_7 1 rfl rfl ?_
  refine x_iadd C d_Mo_personAt_8 ?_
  refine x_topi (x' := nI (pI p f)) (nI_add _ _) ?_
  exact x_iret C rfl rfl d_Mo_personAt_9

set_option maxRecDepth 100000 in
set_option maxHeartbeats 600000 in
theorem c_Mo_personIs (Z : ZT) (p f : Nat) (hp : p < 8) (hf : f < 6) (g : St)  (v : Int32) (hv : g 0 (pI p f) = v) : CT yM Z y_Mo_personIs b_Mo_personIs 3 (some (.int)) 1 21 [.ref (Z.2.1 (0)), .int (nI p), .int (nI f)] (g) (QcI yM Z (v) (g)) := by
  refine CT.mk "TunnelPeaceModel" (by decide) rfl (Nat.le_of_ble_eq_true rfl) (fun X C => ?_)
  refine x_lv [0, 1, 2] (lv' := [(0, .ref (Z.2.1 (0))), (1, .int (nI p)), (2, .int (nI f))]) rfl ?_
  subst hv
  refine x_aload_n C d_Mo_personIs_0 0 rfl rfl ?_
  refine gf_Mo_now C k_791 d_Mo_personIs_1 ?_
  refine x_iload_n C d_Mo_personIs_4 1 rfl rfl ?_
  refine x_iload_n C d_Mo_personIs_5 2 rfl rfl ?_
  refine x_callSi C (c_Mo_personAt Z p f (g)) mi_Mo_personAt k_897 (As := [.int (nI p), .int (nI f)]) ⟨Nat.le_of_ble_eq_true rfl, Nat.le_of_ble_eq_true rfl⟩ rfl rfl (Nat.le_of_ble_eq_true rfl) d_Mo_personIs_6 ?_
  refine al_m_now C (pI p f) (v := g 0 (pI p f)) rfl (by first | omega | (simp only [pI]; omega)) rfl d_Mo_personIs_9 ?_
  exact x_iret C (by simp_all) rfl d_Mo_personIs_10

set_option maxRecDepth 100000 in
set_option maxHeartbeats 600000 in
theorem c_Mo_isPerson (Z : ZT) (p : Int32) (n : Nat) (hn8 : n ≤ 8) (g : St)  (hn : g 0 1 = nI n) : CT yM Z y_Mo_isPerson b_Mo_isPerson 2 (some (.boolean)) 1 22 [.ref (Z.2.1 (0)), .int (p)] (g) (QcI yM Z (bI (0 ≤ p ∧ p < nI n)) (g)) := by
  refine CT.mk "TunnelPeaceModel" (by decide) rfl (Nat.le_of_ble_eq_true rfl) (fun X C => ?_)
  refine x_lv [0, 1] (lv' := [(0, .ref (Z.2.1 (0))), (1, .int (p))]) rfl ?_
  refine x_iload_n C d_Mo_isPerson_0 1 rfl rfl ?_
  refine x_iconst C d_Mo_isPerson_1 (v := 0) (by decide) ?_
  refine x_aload_n C d_Mo_isPerson_2 0 rfl rfl ?_
  refine gf_Mo_now C k_791 d_Mo_isPerson_3 ?_
  refine x_iconst C d_Mo_isPerson_6 (v := 1) (by decide) ?_
  refine al_m_now C 1 (v := nI n) (by decide) (by first | omega | (simp only [pI]; omega)) hn d_Mo_isPerson_7 ?_
  refine x_iconst C d_Mo_isPerson_8 (v := 1) (by decide) ?_
  refine x_isub C d_Mo_isPerson_9 ?_
  refine x_callSi C (c_Mo_within Z p 0 ((nI n) - 1) (g)) mi_Mo_within k_859 (As := [.int (p), .int (0), .int ((nI n) - 1)]) ⟨Nat.le_of_ble_eq_true rfl, Nat.le_of_ble_eq_true rfl⟩ rfl rfl (Nat.le_of_ble_eq_true rfl) d_Mo_isPerson_10 ?_
  exact x_zret C (bI_01 _) (bI_c (pr_iff hn8)) rfl d_Mo_isPerson_13

set_option maxRecDepth 100000 in
set_option maxHeartbeats 600000 in
theorem c_Mo_liftOf (Z : ZT) (s : Int32) (g : St)  : CT yM Z y_Mo_liftOf b_Mo_liftOf 1 (some (.int)) 0 0 [.int (s)] (g) (QcI yM Z (lft s) (g)) := by
  refine CT.mk "TunnelPeaceModel" (by decide) rfl (Nat.le_of_ble_eq_true rfl) (fun X C => ?_)
  refine x_lv [0] (lv' := [(0, .int (s))]) rfl ?_
  refine x_iload_n C d_Mo_liftOf_0 0 rfl rfl ?_
  refine x_ifne C d_Mo_liftOf_1 8 (by decide) (fun c_1 => ?_) (fun c_1 => ?_)
  · refine x_bipush C d_Mo_liftOf_8 (v := 15) (by decide) ?_
    exact x_iret C (by simp [lft, *]) rfl d_Mo_liftOf_10
  · refine x_iconst C d_Mo_liftOf_4 (v := 0) (by decide) ?_
    refine x_goto C d_Mo_liftOf_5 10 (by decide) ?_
    exact x_iret C (by simp [lft, *]) rfl d_Mo_liftOf_10

set_option maxRecDepth 100000 in
set_option maxHeartbeats 600000 in
theorem c_Mo_comes (Z : ZT) (k s : Int32) (g : St)  (r : Nat → Int32) (hr : g 0 = r) (hk : okR r) (hf : sz r < 8) : CT yM Z y_Mo_comes b_Mo_comes 4 (some (.int)) 1 21 [.ref (Z.2.1 (0)), .int (k), .int (s)] (g) (QcI yM Z (nI (sz r)) (va_up g 0 (addR r k s))) := by
  refine CT.mk "TunnelPeaceModel" (by decide) rfl (Nat.le_of_ble_eq_true rfl) (fun X C => ?_)
  refine x_lv [0, 1, 2] (lv' := [(0, .ref (Z.2.1 (0))), (1, .int (k)), (2, .int (s))]) rfl ?_
  subst hr
  obtain ⟨⟨n, hn8, hn⟩, dd, hdd, hd⟩ := hk
  rw [sz_of hn hn8] at hf
  refine x_aload_n C d_Mo_comes_0 0 rfl rfl ?_
  refine gf_Mo_now C k_791 d_Mo_comes_1 ?_
  refine x_iconst C d_Mo_comes_4 (v := 1) (by decide) ?_
  refine al_m_now C 1 (v := nI n) (by decide) (by first | omega | (simp only [pI]; omega)) hn d_Mo_comes_5 ?_
  refine x_istore_n C d_Mo_comes_6 rfl (by decide) (lv' := [(3, .int (nI n)), (0, .ref (Z.2.1 (0))), (1, .int (k)), (2, .int (s))]) rfl ?_
  refine x_aload_n C d_Mo_comes_7 1 rfl rfl ?_
  refine gf_Mo_now C k_791 d_Mo_comes_8 ?_
  refine x_iload_n C d_Mo_comes_11 0 rfl rfl ?_
  refine x_iconst C d_Mo_comes_12 (v := 0) (by decide) ?_
  refine x_callSi C (c_Mo_personAt Z n 0 (g)) mi_Mo_personAt k_897 (As := [.int (nI n), .int (0)]) ⟨Nat.le_of_ble_eq_true rfl, Nat.le_of_ble_eq_true rfl⟩ rfl rfl (Nat.le_of_ble_eq_true rfl) d_Mo_comes_13 ?_
  refine x_iload_n C d_Mo_comes_16 2 rfl rfl ?_
  refine as_m_now C (pI n 0) (v := k) rfl (by first | omega | (simp only [pI]; omega)) (G := va_up g 0 (upd (g 0) (pI n 0) k)) rfl d_Mo_comes_17 ?_
  refine x_aload_n C d_Mo_comes_18 1 rfl rfl ?_
  refine gf_Mo_now C k_791 d_Mo_comes_19 ?_
  refine x_iload_n C d_Mo_comes_22 0 rfl rfl ?_
  refine x_iconst C d_Mo_comes_23 (v := 1) (by decide) ?_
  refine x_callSi C (c_Mo_personAt Z n 1 (va_up g 0 (upd (g 0) (pI n 0) k))) mi_Mo_personAt k_897 (As := [.int (nI n), .int (1)]) ⟨Nat.le_of_ble_eq_true rfl, Nat.le_of_ble_eq_true rfl⟩ rfl rfl (Nat.le_of_ble_eq_true rfl) d_Mo_comes_24 ?_
  refine x_iload_n C d_Mo_comes_27 3 rfl rfl ?_
  refine as_m_now C (pI n 1) (v := s) rfl (by first | omega | (simp only [pI]; omega)) (G := va_up g 0 (upd (upd (g 0) (pI n 0) k) (pI n 1) s)) up_va d_Mo_comes_28 ?_
  refine x_aload_n C d_Mo_comes_29 1 rfl rfl ?_
  refine gf_Mo_now C k_791 d_Mo_comes_30 ?_
  refine x_iload_n C d_Mo_comes_33 0 rfl rfl ?_
  refine x_iconst C d_Mo_comes_34 (v := 2) (by decide) ?_
  refine x_callSi C (c_Mo_personAt Z n 2 (va_up g 0 (upd (upd (g 0) (pI n 0) k) (pI n 1) s))) mi_Mo_personAt k_897 (As := [.int (nI n), .int (2)]) ⟨Nat.le_of_ble_eq_true rfl, Nat.le_of_ble_eq_true rfl⟩ rfl rfl (Nat.le_of_ble_eq_true rfl) d_Mo_comes_35 ?_
  refine x_iload_n C d_Mo_comes_38 3 rfl rfl ?_
  refine x_callSi C (c_Mo_liftOf Z s (va_up g 0 (upd (upd (g 0) (pI n 0) k) (pI n 1) s))) mi_Mo_liftOf k_900 (As := [.int (s)]) ⟨Nat.le_of_ble_eq_true rfl, Nat.le_of_ble_eq_true rfl⟩ rfl rfl (Nat.le_of_ble_eq_true rfl) d_Mo_comes_39 ?_
  refine as_m_now C (pI n 2) (v := lft s) rfl (by first | omega | (simp only [pI]; omega)) (G := va_up g 0 (upd (upd (upd (g 0) (pI n 0) k) (pI n 1) s) (pI n 2) (lft s))) up_va d_Mo_comes_42 ?_
  refine x_aload_n C d_Mo_comes_43 1 rfl rfl ?_
  refine gf_Mo_now C k_791 d_Mo_comes_44 ?_
  refine x_iload_n C d_Mo_comes_47 0 rfl rfl ?_
  refine x_iconst C d_Mo_comes_48 (v := 3) (by decide) ?_
  refine x_callSi C (c_Mo_personAt Z n 3 (va_up g 0 (upd (upd (upd (g 0) (pI n 0) k) (pI n 1) s) (pI n 2) (lft s)))) mi_Mo_personAt k_897 (As := [.int (nI n), .int (3)]) ⟨Nat.le_of_ble_eq_true rfl, Nat.le_of_ble_eq_true rfl⟩ rfl rfl (Nat.le_of_ble_eq_true rfl) d_Mo_comes_49 ?_
  refine x_bipush C d_Mo_comes_52 (v := 30) (by decide) ?_
  refine as_m_now C (pI n 3) (v := 30) rfl (by first | omega | (simp only [pI]; omega)) (G := va_up g 0 (upd (upd (upd (upd (g 0) (pI n 0) k) (pI n 1) s) (pI n 2) (lft s)) (pI n 3) 30)) up_va d_Mo_comes_54 ?_
  refine x_aload_n C d_Mo_comes_55 1 rfl rfl ?_
  refine gf_Mo_now C k_791 d_Mo_comes_56 ?_
  refine x_iload_n C d_Mo_comes_59 0 rfl rfl ?_
  refine x_iconst C d_Mo_comes_60 (v := 4) (by decide) ?_
  refine x_callSi C (c_Mo_personAt Z n 4 (va_up g 0 (upd (upd (upd (upd (g 0) (pI n 0) k) (pI n 1) s) (pI n 2) (lft s)) (pI n 3) 30))) mi_Mo_personAt k_897 (As := [.int (nI n), .int (4)]) ⟨Nat.le_of_ble_eq_true rfl, Nat.le_of_ble_eq_true rfl⟩ rfl rfl (Nat.le_of_ble_eq_true rfl) d_Mo_comes_61 ?_
  refine x_iconst C d_Mo_comes_64 (v := 0) (by decide) ?_
  refine as_m_now C (pI n 4) (v := 0) rfl (by first | omega | (simp only [pI]; omega)) (G := va_up g 0 (upd (upd (upd (upd (upd (g 0) (pI n 0) k) (pI n 1) s) (pI n 2) (lft s)) (pI n 3) 30) (pI n 4) 0)) up_va d_Mo_comes_65 ?_
  refine x_aload_n C d_Mo_comes_66 1 rfl rfl ?_
  refine gf_Mo_now C k_791 d_Mo_comes_67 ?_
  refine x_iload_n C d_Mo_comes_70 0 rfl rfl ?_
  refine x_iconst C d_Mo_comes_71 (v := 5) (by decide) ?_
  refine x_callSi C (c_Mo_personAt Z n 5 (va_up g 0 (upd (upd (upd (upd (upd (g 0) (pI n 0) k) (pI n 1) s) (pI n 2) (lft s)) (pI n 3) 30) (pI n 4) 0))) mi_Mo_personAt k_897 (As := [.int (nI n), .int (5)]) ⟨Nat.le_of_ble_eq_true rfl, Nat.le_of_ble_eq_true rfl⟩ rfl rfl (Nat.le_of_ble_eq_true rfl) d_Mo_comes_72 ?_
  refine x_iconst C d_Mo_comes_75 (v := 0) (by decide) ?_
  refine as_m_now C (pI n 5) (v := 0) rfl (by first | omega | (simp only [pI]; omega)) (G := va_up g 0 (upd (upd (upd (upd (upd (upd (g 0) (pI n 0) k) (pI n 1) s) (pI n 2) (lft s)) (pI n 3) 30) (pI n 4) 0) (pI n 5) 0)) up_va d_Mo_comes_76 ?_
  refine x_aload_n C d_Mo_comes_77 1 rfl rfl ?_
  refine gf_Mo_now C k_791 d_Mo_comes_78 ?_
  refine x_iconst C d_Mo_comes_81 (v := 1) (by decide) ?_
  refine x_dup2 C d_Mo_comes_82 rfl rfl ?_
  refine al_m_now C 1 (v := nI n) (by decide) (by first | omega | (simp only [pI]; omega)) (Eq.trans (Eq.trans (Eq.trans (Eq.trans (Eq.trans (Eq.trans (Eq.trans (congrFun (va_up_self _ _ _) _) (pk_un (by first | decide | (simp only [pI]; omega)))) (pk_un (by first | decide | (simp only [pI]; omega)))) (pk_un (by first | decide | (simp only [pI]; omega)))) (pk_un (by first | decide | (simp only [pI]; omega)))) (pk_un (by first | decide | (simp only [pI]; omega)))) (pk_un (by first | decide | (simp only [pI]; omega)))) hn) d_Mo_comes_83 ?_
  refine x_iconst C d_Mo_comes_84 (v := 1) (by decide) ?_
  refine x_iadd C d_Mo_comes_85 ?_
  refine x_topi (x' := nI (n + 1)) (nI_1 _) ?_
  refine as_m_now C 1 (v := nI (n + 1)) (by decide) (by first | omega | (simp only [pI]; omega)) (G := va_up g 0 (upd (upd (upd (upd (upd (upd (upd (g 0) (pI n 0) k) (pI n 1) s) (pI n 2) (lft s)) (pI n 3) 30) (pI n 4) 0) (pI n 5) 0) 1 (nI (n + 1)))) up_va d_Mo_comes_86 ?_
  refine x_iload_n C d_Mo_comes_87 0 rfl rfl ?_
  exact x_iret C (by rw [sz_of hn hn8]) (by unfold addR bgnR; rw [sz_of hn hn8]) d_Mo_comes_88

set_option maxRecDepth 100000 in
set_option maxHeartbeats 600000 in
theorem c_Mo_steps (Z : ZT) (p : Nat) (hp : p < 8) (g : St)  (r : Nat → Int32) (hr : g 0 = r) : CT yM Z y_Mo_steps b_Mo_steps 3 (some (.int)) 2 43 [.ref (Z.2.1 (0)), .int (nI p)] (g) (QcI yM Z (stp (r (pI p 0)) (r (pI p 4)) (r 0)) (g)) := by
  refine CT.mk "TunnelPeaceModel" (by decide) rfl (Nat.le_of_ble_eq_true rfl) (fun X C => ?_)
  refine x_lv [0, 1] (lv' := [(0, .ref (Z.2.1 (0))), (1, .int (nI p))]) rfl ?_
  subst hr
  refine x_iconst C d_Mo_steps_0 (v := 1) (by decide) ?_
  refine x_iconst C d_Mo_steps_1 (v := 3) (by decide) ?_
  refine x_aload_n C d_Mo_steps_2 0 rfl rfl ?_
  refine x_iload_n C d_Mo_steps_3 1 rfl rfl ?_
  refine x_iconst C d_Mo_steps_4 (v := 4) (by decide) ?_
  refine x_callVi C (c_Mo_personIs Z p 4 (by omega) (by omega) (g) _ rfl) mi_Mo_personIs k_919 (show 0 < 12 by omega) (m_0 Z _) rfl (As := [.int (nI p), .int (4)]) ⟨Nat.le_of_ble_eq_true rfl, Nat.le_of_ble_eq_true rfl⟩ rfl rfl (Nat.le_of_ble_eq_true rfl) d_Mo_steps_5 ?_
  refine x_isub C d_Mo_steps_8 ?_
  refine x_mx C k_923 (Nat.le_of_ble_eq_true rfl) (Nat.le_of_ble_eq_true rfl) d_Mo_steps_9 ?_
  refine x_istore_n C d_Mo_steps_12 rfl (by decide) (lv' := [(2, .int (mx 1 (3 - (g 0 (pI p 4))))), (0, .ref (Z.2.1 (0))), (1, .int (nI p))]) rfl ?_
  refine x_aload_n C d_Mo_steps_13 1 rfl rfl ?_
  refine x_iload_n C d_Mo_steps_14 2 rfl rfl ?_
  refine x_iconst C d_Mo_steps_15 (v := 0) (by decide) ?_
  refine x_callVi C (c_Mo_personIs Z p 0 (by omega) (by omega) (g) _ rfl) mi_Mo_personIs k_919 (show 0 < 12 by omega) (m_0 Z _) rfl (As := [.int (nI p), .int (0)]) ⟨Nat.le_of_ble_eq_true rfl, Nat.le_of_ble_eq_true rfl⟩ rfl rfl (Nat.le_of_ble_eq_true rfl) d_Mo_steps_16 ?_
  by_cases c_1 : g 0 (pI p 0) = 1
  · refine x_tabAt C d_Mo_steps_19 c_1 (by decide) (by decide) (off := 37) (by decide) 56 (by decide) ?_
    refine x_iconst C d_Mo_steps_56 (v := 1) (by decide) ?_
    refine x_iload_n C d_Mo_steps_57 0 rfl rfl ?_
    refine x_iconst C d_Mo_steps_58 (v := 1) (by decide) ?_
    refine x_isub C d_Mo_steps_59 ?_
    refine x_mx C k_923 (Nat.le_of_ble_eq_true rfl) (Nat.le_of_ble_eq_true rfl) d_Mo_steps_60 ?_
    exact x_iret C (by first | (simp [stp, wkr, *]; done) | (simp_all [stp, wkr]; done)) rfl d_Mo_steps_63
  by_cases c_2 : g 0 (pI p 0) = 2
  · refine x_tabAt C d_Mo_steps_19 c_2 (by decide) (by decide) (off := 55) (by decide) 74 (by decide) ?_
    refine x_iload_n C d_Mo_steps_74 0 rfl rfl ?_
    refine x_iconst C d_Mo_steps_75 (v := 1) (by decide) ?_
    refine x_iadd C d_Mo_steps_76 ?_
    exact x_iret C (by first | (simp [stp, wkr, *]; done) | (simp_all [stp, wkr]; done)) rfl d_Mo_steps_77
  by_cases c_3 : g 0 (pI p 0) = 3
  · refine x_tabAt C d_Mo_steps_19 c_3 (by decide) (by decide) (off := 59) (by decide) 78 (by decide) ?_
    refine x_iconst C d_Mo_steps_78 (v := 1) (by decide) ?_
    refine x_iload_n C d_Mo_steps_79 0 rfl rfl ?_
    refine x_iconst C d_Mo_steps_80 (v := 1) (by decide) ?_
    refine x_iadd C d_Mo_steps_81 ?_
    refine x_iconst C d_Mo_steps_82 (v := 2) (by decide) ?_
    refine x_idiv C d_Mo_steps_83 (by decide) ?_
    refine x_mx C k_923 (Nat.le_of_ble_eq_true rfl) (Nat.le_of_ble_eq_true rfl) d_Mo_steps_84 ?_
    exact x_iret C (by first | (simp [stp, wkr, *]; done) | (simp_all [stp, wkr]; done)) rfl d_Mo_steps_87
  by_cases c_4 : g 0 (pI p 0) = 4
  · refine x_tabAt C d_Mo_steps_19 c_4 (by decide) (by decide) (off := 59) (by decide) 78 (by decide) ?_
    refine x_iconst C d_Mo_steps_78 (v := 1) (by decide) ?_
    refine x_iload_n C d_Mo_steps_79 0 rfl rfl ?_
    refine x_iconst C d_Mo_steps_80 (v := 1) (by decide) ?_
    refine x_iadd C d_Mo_steps_81 ?_
    refine x_iconst C d_Mo_steps_82 (v := 2) (by decide) ?_
    refine x_idiv C d_Mo_steps_83 (by decide) ?_
    refine x_mx C k_923 (Nat.le_of_ble_eq_true rfl) (Nat.le_of_ble_eq_true rfl) d_Mo_steps_84 ?_
    exact x_iret C (by first | (simp [stp, wkr, *]; done) | (simp_all [stp, wkr]; done)) rfl d_Mo_steps_87
  by_cases c_5 : g 0 (pI p 0) = 5
  · refine x_tabAt C d_Mo_steps_19 c_5 (by decide) (by decide) (off := 69) (by decide) 88 (by decide) ?_
    refine x_aload_n C d_Mo_steps_88 1 rfl rfl ?_
    refine gf_Mo_now C k_791 d_Mo_steps_89 ?_
    refine x_iconst C d_Mo_steps_92 (v := 0) (by decide) ?_
    refine al_m_now C 0 (v := g 0 0) (by decide) (by first | omega | (simp only [pI]; omega)) rfl d_Mo_steps_93 ?_
    refine x_iconst C d_Mo_steps_94 (v := 2) (by decide) ?_
    refine x_irem C d_Mo_steps_95 (by decide) ?_
    exact x_iret C (by first | (simp [stp, wkr, *]; done) | (simp_all [stp, wkr]; done)) rfl d_Mo_steps_96
  by_cases c_6 : g 0 (pI p 0) = 6
  · refine x_tabAt C d_Mo_steps_19 c_6 (by decide) (by decide) (off := 45) (by decide) 64 (by decide) ?_
    refine x_iconst C d_Mo_steps_64 (v := 1) (by decide) ?_
    refine x_iload_n C d_Mo_steps_65 0 rfl rfl ?_
    refine x_iconst C d_Mo_steps_66 (v := 1) (by decide) ?_
    refine x_isub C d_Mo_steps_67 ?_
    refine x_mx C k_923 (Nat.le_of_ble_eq_true rfl) (Nat.le_of_ble_eq_true rfl) d_Mo_steps_68 ?_
    refine x_iconst C d_Mo_steps_71 (v := 2) (by decide) ?_
    refine x_iadd C d_Mo_steps_72 ?_
    exact x_iret C (by first | (simp [stp, wkr, *]; done) | (simp_all [stp, wkr]; done)) rfl d_Mo_steps_73
  · have ic_1 := i32_ne c_1 (z := 1) (by decide)
    have ic_2 := i32_ne c_2 (z := 2) (by decide)
    have ic_3 := i32_ne c_3 (z := 3) (by decide)
    have ic_4 := i32_ne c_4 (z := 4) (by decide)
    have ic_5 := i32_ne c_5 (z := 5) (by decide)
    have ic_6 := i32_ne c_6 (z := 6) (by decide)
    refine x_tabOut C d_Mo_steps_19 (by omega) 97 (by decide) ?_
    refine x_iload_n C d_Mo_steps_97 0 rfl rfl ?_
    exact x_iret C (by first | (simp [stp, wkr, *]; done) | (simp_all [stp, wkr]; done)) rfl d_Mo_steps_98

set_option maxRecDepth 100000 in
set_option maxHeartbeats 600000 in
theorem c_Mo_crosses (Z : ZT) (p : Nat) (hp : p < 8) (g : St)  (r : Nat → Int32) (hr : g 0 = r) : CT yM Z y_Mo_crosses b_Mo_crosses 2 (some (.boolean)) 2 43 [.ref (Z.2.1 (0)), .int (nI p)] (g) (QcI yM Z (bI (crs (r (pI p 0)) (r (pI p 5)) (r 3) = true)) (g)) := by
  refine CT.mk "TunnelPeaceModel" (by decide) rfl (Nat.le_of_ble_eq_true rfl) (fun X C => ?_)
  refine x_lv [0, 1] (lv' := [(0, .ref (Z.2.1 (0))), (1, .int (nI p))]) rfl ?_
  subst hr
  refine x_aload_n C d_Mo_crosses_0 0 rfl rfl ?_
  refine x_iload_n C d_Mo_crosses_1 1 rfl rfl ?_
  refine x_iconst C d_Mo_crosses_2 (v := 0) (by decide) ?_
  refine x_callVi C (c_Mo_personIs Z p 0 (by omega) (by omega) (g) _ rfl) mi_Mo_personIs k_919 (show 0 < 12 by omega) (m_0 Z _) rfl (As := [.int (nI p), .int (0)]) ⟨Nat.le_of_ble_eq_true rfl, Nat.le_of_ble_eq_true rfl⟩ rfl rfl (Nat.le_of_ble_eq_true rfl) d_Mo_crosses_3 ?_
  by_cases c_1 : g 0 (pI p 0) = 2
  · refine x_tabAt C d_Mo_crosses_6 c_1 (by decide) (by decide) (off := 50) (by decide) 56 (by decide) ?_
    refine x_aload_n C d_Mo_crosses_56 0 rfl rfl ?_
    refine gf_Mo_now C k_791 d_Mo_crosses_57 ?_
    refine x_iconst C d_Mo_crosses_60 (v := 3) (by decide) ?_
    refine al_m_now C 3 (v := g 0 3) (by decide) (by first | omega | (simp only [pI]; omega)) rfl d_Mo_crosses_61 ?_
    refine x_ifne C d_Mo_crosses_62 69 (by decide) (fun c_2 => ?_) (fun c_2 => ?_)
    · refine x_iconst C d_Mo_crosses_69 (v := 0) (by decide) ?_
      exact x_zret C (by decide) (bI_f (by first | (simp [crs, *]; done) | (simp_all [crs]; done))).symm rfl d_Mo_crosses_70
    · refine x_iconst C d_Mo_crosses_65 (v := 1) (by decide) ?_
      refine x_goto C d_Mo_crosses_66 70 (by decide) ?_
      exact x_zret C (by decide) (bI_t (by first | (simp [crs, *]; done) | (simp_all [crs]; done))).symm rfl d_Mo_crosses_70
  by_cases c_3 : g 0 (pI p 0) = 3
  · refine x_tabAt C d_Mo_crosses_6 c_3 (by decide) (by decide) (off := 65) (by decide) 71 (by decide) ?_
    refine x_aload_n C d_Mo_crosses_71 0 rfl rfl ?_
    refine gf_Mo_now C k_791 d_Mo_crosses_72 ?_
    refine x_iconst C d_Mo_crosses_75 (v := 3) (by decide) ?_
    refine al_m_now C 3 (v := g 0 3) (by decide) (by first | omega | (simp only [pI]; omega)) rfl d_Mo_crosses_76 ?_
    refine x_bipush C d_Mo_crosses_77 (v := 20) (by decide) ?_
    refine x_icmp_gt C d_Mo_crosses_79 86 (by decide) (fun c_4 => ?_) (fun c_4 => ?_)
    · have nc_4 := Int32.not_le.mpr c_4
      refine x_iconst C d_Mo_crosses_86 (v := 0) (by decide) ?_
      exact x_zret C (by decide) (bI_f (by first | (simp [crs, *]; done) | (simp_all [crs]; done))).symm rfl d_Mo_crosses_87
    · have nc_4 := Int32.not_lt.mp c_4
      refine x_iconst C d_Mo_crosses_82 (v := 1) (by decide) ?_
      refine x_goto C d_Mo_crosses_83 87 (by decide) ?_
      exact x_zret C (by decide) (bI_t (by first | (simp [crs, *]; done) | (simp_all [crs]; done))).symm rfl d_Mo_crosses_87
  by_cases c_5 : g 0 (pI p 0) = 4
  · refine x_tabAt C d_Mo_crosses_6 c_5 (by decide) (by decide) (off := 82) (by decide) 88 (by decide) ?_
    refine x_aload_n C d_Mo_crosses_88 0 rfl rfl ?_
    refine gf_Mo_now C k_791 d_Mo_crosses_89 ?_
    refine x_iconst C d_Mo_crosses_92 (v := 3) (by decide) ?_
    refine al_m_now C 3 (v := g 0 3) (by decide) (by first | omega | (simp only [pI]; omega)) rfl d_Mo_crosses_93 ?_
    refine x_bipush C d_Mo_crosses_94 (v := 20) (by decide) ?_
    refine x_icmp_le C d_Mo_crosses_96 111 (by decide) (fun c_6 => ?_) (fun c_6 => ?_)
    · have nc_6 := Int32.not_lt.mpr c_6
      refine x_iconst C d_Mo_crosses_111 (v := 1) (by decide) ?_
      refine x_goto C d_Mo_crosses_112 116 (by decide) ?_
      exact x_zret C (by decide) (bI_t (by first | (simp [crs, *]; done) | (simp_all [crs]; done))).symm rfl d_Mo_crosses_116
    · have nc_6 := Int32.not_le.mp c_6
      refine x_aload_n C d_Mo_crosses_99 0 rfl rfl ?_
      refine x_iload_n C d_Mo_crosses_100 1 rfl rfl ?_
      refine x_iconst C d_Mo_crosses_101 (v := 5) (by decide) ?_
      refine x_callVi C (c_Mo_personIs Z p 5 (by omega) (by omega) (g) _ rfl) mi_Mo_personIs k_919 (show 0 < 12 by omega) (m_0 Z _) rfl (As := [.int (nI p), .int (5)]) ⟨Nat.le_of_ble_eq_true rfl, Nat.le_of_ble_eq_true rfl⟩ rfl rfl (Nat.le_of_ble_eq_true rfl) d_Mo_crosses_102 ?_
      refine x_iconst C d_Mo_crosses_105 (v := 2) (by decide) ?_
      refine x_irem C d_Mo_crosses_106 (by decide) ?_
      refine x_iconst C d_Mo_crosses_107 (v := 1) (by decide) ?_
      refine x_icmp_ne C d_Mo_crosses_108 115 (by decide) (fun c_7 => ?_) (fun c_7 => ?_)
      · have nc_7 := Ne.symm c_7
        refine x_iconst C d_Mo_crosses_115 (v := 0) (by decide) ?_
        exact x_zret C (by decide) (bI_f (by first | (simp [crs, *]; done) | (simp_all [crs]; done))).symm rfl d_Mo_crosses_116
      · refine x_iconst C d_Mo_crosses_111 (v := 1) (by decide) ?_
        refine x_goto C d_Mo_crosses_112 116 (by decide) ?_
        exact x_zret C (by decide) (bI_t (by first | (simp [crs, *]; done) | (simp_all [crs]; done))).symm rfl d_Mo_crosses_116
  by_cases c_8 : g 0 (pI p 0) = 5
  · refine x_tabAt C d_Mo_crosses_6 c_8 (by decide) (by decide) (off := 111) (by decide) 117 (by decide) ?_
    refine x_iconst C d_Mo_crosses_117 (v := 1) (by decide) ?_
    exact x_zret C (by decide) (bI_t (by first | (simp [crs, *]; done) | (simp_all [crs]; done))).symm rfl d_Mo_crosses_118
  by_cases c_9 : g 0 (pI p 0) = 6
  · refine x_tabAt C d_Mo_crosses_6 c_9 (by decide) (by decide) (off := 34) (by decide) 40 (by decide) ?_
    refine x_aload_n C d_Mo_crosses_40 0 rfl rfl ?_
    refine x_iload_n C d_Mo_crosses_41 1 rfl rfl ?_
    refine x_iconst C d_Mo_crosses_42 (v := 5) (by decide) ?_
    refine x_callVi C (c_Mo_personIs Z p 5 (by omega) (by omega) (g) _ rfl) mi_Mo_personIs k_919 (show 0 < 12 by omega) (m_0 Z _) rfl (As := [.int (nI p), .int (5)]) ⟨Nat.le_of_ble_eq_true rfl, Nat.le_of_ble_eq_true rfl⟩ rfl rfl (Nat.le_of_ble_eq_true rfl) d_Mo_crosses_43 ?_
    refine x_iconst C d_Mo_crosses_46 (v := 5) (by decide) ?_
    refine x_icmp_lt C d_Mo_crosses_47 54 (by decide) (fun c_10 => ?_) (fun c_10 => ?_)
    · have nc_10 := Int32.not_le.mpr c_10
      refine x_iconst C d_Mo_crosses_54 (v := 0) (by decide) ?_
      exact x_zret C (by decide) (bI_f (by first | (simp [crs, *]; done) | (simp_all [crs]; done))).symm rfl d_Mo_crosses_55
    · have nc_10 := Int32.not_lt.mp c_10
      refine x_iconst C d_Mo_crosses_50 (v := 1) (by decide) ?_
      refine x_goto C d_Mo_crosses_51 55 (by decide) ?_
      exact x_zret C (by decide) (bI_t (by first | (simp [crs, *]; done) | (simp_all [crs]; done))).symm rfl d_Mo_crosses_55
  · have ic_1 := i32_ne c_1 (z := 2) (by decide)
    have ic_3 := i32_ne c_3 (z := 3) (by decide)
    have ic_5 := i32_ne c_5 (z := 4) (by decide)
    have ic_8 := i32_ne c_8 (z := 5) (by decide)
    have ic_9 := i32_ne c_9 (z := 6) (by decide)
    refine x_tabOut C d_Mo_crosses_6 (by omega) 119 (by decide) ?_
    refine x_iconst C d_Mo_crosses_119 (v := 0) (by decide) ?_
    exact x_zret C (by decide) (bI_f (by first | (simp [crs, *]; done) | (simp_all [crs]; done))).symm rfl d_Mo_crosses_120

set_option maxRecDepth 100000 in
set_option maxHeartbeats 600000 in
theorem c_Mo_calms (Z : ZT) (p : Nat) (hp : p < 8) (g : St)  (r : Nat → Int32) (hr : g 0 = r) : CT yM Z y_Mo_calms b_Mo_calms 2 (some (.int)) 2 43 [.ref (Z.2.1 (0)), .int (nI p)] (g) (QcI yM Z (clm (r (pI p 0))) (g)) := by
  refine CT.mk "TunnelPeaceModel" (by decide) rfl (Nat.le_of_ble_eq_true rfl) (fun X C => ?_)
  refine x_lv [0, 1] (lv' := [(0, .ref (Z.2.1 (0))), (1, .int (nI p))]) rfl ?_
  subst hr
  refine x_aload_n C d_Mo_calms_0 0 rfl rfl ?_
  refine x_iload_n C d_Mo_calms_1 1 rfl rfl ?_
  refine x_iconst C d_Mo_calms_2 (v := 0) (by decide) ?_
  refine x_callVi C (c_Mo_personIs Z p 0 (by omega) (by omega) (g) _ rfl) mi_Mo_personIs k_919 (show 0 < 12 by omega) (m_0 Z _) rfl (As := [.int (nI p), .int (0)]) ⟨Nat.le_of_ble_eq_true rfl, Nat.le_of_ble_eq_true rfl⟩ rfl rfl (Nat.le_of_ble_eq_true rfl) d_Mo_calms_3 ?_
  by_cases c_1 : g 0 (pI p 0) = 1
  · refine x_tabAt C d_Mo_calms_6 c_1 (by decide) (by decide) (off := 38) (by decide) 44 (by decide) ?_
    refine x_iconst C d_Mo_calms_44 (v := 2) (by decide) ?_
    exact x_iret C (by first | (simp [clm, *]; done) | (simp_all [clm]; done)) rfl d_Mo_calms_45
  by_cases c_2 : g 0 (pI p 0) = 2
  · refine x_tabAt C d_Mo_calms_6 c_2 (by decide) (by decide) (off := 43) (by decide) 49 (by decide) ?_
    refine x_iconst C d_Mo_calms_49 (v := 0) (by decide) ?_
    exact x_iret C (by first | (simp [clm, *]; done) | (simp_all [clm]; done)) rfl d_Mo_calms_50
  by_cases c_3 : g 0 (pI p 0) = 3
  · refine x_tabAt C d_Mo_calms_6 c_3 (by decide) (by decide) (off := 45) (by decide) 51 (by decide) ?_
    refine x_iconst C d_Mo_calms_51 (v := 5) (by decide) ?_
    exact x_iret C (by first | (simp [clm, *]; done) | (simp_all [clm]; done)) rfl d_Mo_calms_52
  by_cases c_4 : g 0 (pI p 0) = 4
  · refine x_tabAt C d_Mo_calms_6 c_4 (by decide) (by decide) (off := 47) (by decide) 53 (by decide) ?_
    refine x_bipush C d_Mo_calms_53 (v := 10) (by decide) ?_
    exact x_iret C (by first | (simp [clm, *]; done) | (simp_all [clm]; done)) rfl d_Mo_calms_55
  by_cases c_5 : g 0 (pI p 0) = 5
  · refine x_tabAt C d_Mo_calms_6 c_5 (by decide) (by decide) (off := 47) (by decide) 53 (by decide) ?_
    refine x_bipush C d_Mo_calms_53 (v := 10) (by decide) ?_
    exact x_iret C (by first | (simp [clm, *]; done) | (simp_all [clm]; done)) rfl d_Mo_calms_55
  by_cases c_6 : g 0 (pI p 0) = 6
  · refine x_tabAt C d_Mo_calms_6 c_6 (by decide) (by decide) (off := 40) (by decide) 46 (by decide) ?_
    refine x_bipush C d_Mo_calms_46 (v := 6) (by decide) ?_
    exact x_iret C (by first | (simp [clm, *]; done) | (simp_all [clm]; done)) rfl d_Mo_calms_48
  · have ic_1 := i32_ne c_1 (z := 1) (by decide)
    have ic_2 := i32_ne c_2 (z := 2) (by decide)
    have ic_3 := i32_ne c_3 (z := 3) (by decide)
    have ic_4 := i32_ne c_4 (z := 4) (by decide)
    have ic_5 := i32_ne c_5 (z := 5) (by decide)
    have ic_6 := i32_ne c_6 (z := 6) (by decide)
    refine x_tabOut C d_Mo_calms_6 (by omega) 56 (by decide) ?_
    refine x_iconst C d_Mo_calms_56 (v := 1) (by decide) ?_
    exact x_iret C (by first | (simp [clm, *]; done) | (simp_all [clm]; done)) rfl d_Mo_calms_57

set_option maxRecDepth 100000 in
set_option maxHeartbeats 600000 in
theorem c_Mo_tires (Z : ZT) (p : Nat) (hp : p < 8) (g : St)  (r : Nat → Int32) (hr : g 0 = r) : CT yM Z y_Mo_tires b_Mo_tires 2 (some (.int)) 2 43 [.ref (Z.2.1 (0)), .int (nI p)] (g) (QcI yM Z (trs (r (pI p 0)) (r 0)) (g)) := by
  refine CT.mk "TunnelPeaceModel" (by decide) rfl (Nat.le_of_ble_eq_true rfl) (fun X C => ?_)
  refine x_lv [0, 1] (lv' := [(0, .ref (Z.2.1 (0))), (1, .int (nI p))]) rfl ?_
  subst hr
  refine x_aload_n C d_Mo_tires_0 0 rfl rfl ?_
  refine x_iload_n C d_Mo_tires_1 1 rfl rfl ?_
  refine x_iconst C d_Mo_tires_2 (v := 0) (by decide) ?_
  refine x_callVi C (c_Mo_personIs Z p 0 (by omega) (by omega) (g) _ rfl) mi_Mo_personIs k_919 (show 0 < 12 by omega) (m_0 Z _) rfl (As := [.int (nI p), .int (0)]) ⟨Nat.le_of_ble_eq_true rfl, Nat.le_of_ble_eq_true rfl⟩ rfl rfl (Nat.le_of_ble_eq_true rfl) d_Mo_tires_3 ?_
  by_cases c_1 : g 0 (pI p 0) = 2
  · refine x_tabAt C d_Mo_tires_6 c_1 (by decide) (by decide) (off := 51) (by decide) 57 (by decide) ?_
    refine x_iconst C d_Mo_tires_57 (v := 2) (by decide) ?_
    exact x_iret C (by first | (simp [trs, *]; done) | (simp_all [trs]; done)) rfl d_Mo_tires_58
  by_cases c_2 : g 0 (pI p 0) = 3
  · refine x_tabAt C d_Mo_tires_6 c_2 (by decide) (by decide) (off := 51) (by decide) 57 (by decide) ?_
    refine x_iconst C d_Mo_tires_57 (v := 2) (by decide) ?_
    exact x_iret C (by first | (simp [trs, *]; done) | (simp_all [trs]; done)) rfl d_Mo_tires_58
  by_cases c_3 : g 0 (pI p 0) = 4
  · refine x_tabAt C d_Mo_tires_6 c_3 (by decide) (by decide) (off := 51) (by decide) 57 (by decide) ?_
    refine x_iconst C d_Mo_tires_57 (v := 2) (by decide) ?_
    exact x_iret C (by first | (simp [trs, *]; done) | (simp_all [trs]; done)) rfl d_Mo_tires_58
  by_cases c_4 : g 0 (pI p 0) = 5
  · refine x_tabAt C d_Mo_tires_6 c_4 (by decide) (by decide) (off := 53) (by decide) 59 (by decide) ?_
    refine x_iconst C d_Mo_tires_59 (v := 0) (by decide) ?_
    exact x_iret C (by first | (simp [trs, *]; done) | (simp_all [trs]; done)) rfl d_Mo_tires_60
  by_cases c_5 : g 0 (pI p 0) = 6
  · refine x_tabAt C d_Mo_tires_6 c_5 (by decide) (by decide) (off := 34) (by decide) 40 (by decide) ?_
    refine x_aload_n C d_Mo_tires_40 0 rfl rfl ?_
    refine gf_Mo_now C k_791 d_Mo_tires_41 ?_
    refine x_iconst C d_Mo_tires_44 (v := 0) (by decide) ?_
    refine al_m_now C 0 (v := g 0 0) (by decide) (by first | omega | (simp only [pI]; omega)) rfl d_Mo_tires_45 ?_
    refine x_iconst C d_Mo_tires_46 (v := 3) (by decide) ?_
    refine x_irem C d_Mo_tires_47 (by decide) ?_
    refine x_ifne C d_Mo_tires_48 55 (by decide) (fun c_6 => ?_) (fun c_6 => ?_)
    · refine x_iconst C d_Mo_tires_55 (v := 1) (by decide) ?_
      exact x_iret C (by first | (simp [trs, *]; done) | (simp_all [trs]; done)) rfl d_Mo_tires_56
    · refine x_iconst C d_Mo_tires_51 (v := 2) (by decide) ?_
      refine x_goto C d_Mo_tires_52 56 (by decide) ?_
      exact x_iret C (by first | (simp [trs, *]; done) | (simp_all [trs]; done)) rfl d_Mo_tires_56
  · have ic_1 := i32_ne c_1 (z := 2) (by decide)
    have ic_2 := i32_ne c_2 (z := 3) (by decide)
    have ic_3 := i32_ne c_3 (z := 4) (by decide)
    have ic_4 := i32_ne c_4 (z := 5) (by decide)
    have ic_5 := i32_ne c_5 (z := 6) (by decide)
    refine x_tabOut C d_Mo_tires_6 (by omega) 61 (by decide) ?_
    refine x_iconst C d_Mo_tires_61 (v := 1) (by decide) ?_
    exact x_iret C (by first | (simp [trs, *]; done) | (simp_all [trs]; done)) rfl d_Mo_tires_62

set_option maxRecDepth 100000 in
set_option maxHeartbeats 600000 in
theorem c_Mo_told (Z : ZT) (p f : Nat) (hp : p < 8) (hf : f < 10) (g : St)  (r : Nat → Int32) (hr : g 0 = r) : CT yM Z y_Mo_told b_Mo_told 3 (some (.int)) 3 65 [.ref (Z.2.1 (0)), .int (nI p), .int (nI f)] (g) (QcI yM Z (tld r p f) (g)) := by
  refine CT.mk "TunnelPeaceModel" (by decide) rfl (Nat.le_of_ble_eq_true rfl) (fun X C => ?_)
  refine x_lv [0, 1, 2] (lv' := [(0, .ref (Z.2.1 (0))), (1, .int (nI p)), (2, .int (nI f))]) rfl ?_
  subst hr
  rcases (show f = 0 ∨ f = 1 ∨ f = 2 ∨ f = 3 ∨ f = 4 ∨ f = 5 ∨ f = 6 ∨ f = 7 ∨ f = 8 ∨ f = 9 by omega) with rfl | rfl | rfl | rfl | rfl | rfl | rfl | rfl | rfl | rfl
  · refine x_iload_n C d_Mo_told_0 2 rfl rfl ?_
    refine x_tabOut C d_Mo_told_1 (by decide) 64 (by decide) ?_
    refine x_aload_n C d_Mo_told_64 0 rfl rfl ?_
    refine x_iload_n C d_Mo_told_65 1 rfl rfl ?_
    refine x_iload_n C d_Mo_told_66 2 rfl rfl ?_
    refine x_callVi C (c_Mo_personIs Z p 0 (by omega) (by omega) (g) _ rfl) mi_Mo_personIs k_919 (show 0 < 12 by omega) (m_0 Z _) rfl (As := [.int (nI p), .int (nI 0)]) ⟨Nat.le_of_ble_eq_true rfl, Nat.le_of_ble_eq_true rfl⟩ rfl rfl (Nat.le_of_ble_eq_true rfl) d_Mo_told_67 ?_
    exact x_iret C (by first | (simp [tld, bI, *]; done) | (simp_all [tld, bI]; done)) rfl d_Mo_told_70
  · refine x_iload_n C d_Mo_told_0 2 rfl rfl ?_
    refine x_tabOut C d_Mo_told_1 (by decide) 64 (by decide) ?_
    refine x_aload_n C d_Mo_told_64 0 rfl rfl ?_
    refine x_iload_n C d_Mo_told_65 1 rfl rfl ?_
    refine x_iload_n C d_Mo_told_66 2 rfl rfl ?_
    refine x_callVi C (c_Mo_personIs Z p 1 (by omega) (by omega) (g) _ rfl) mi_Mo_personIs k_919 (show 0 < 12 by omega) (m_0 Z _) rfl (As := [.int (nI p), .int (nI 1)]) ⟨Nat.le_of_ble_eq_true rfl, Nat.le_of_ble_eq_true rfl⟩ rfl rfl (Nat.le_of_ble_eq_true rfl) d_Mo_told_67 ?_
    exact x_iret C (by first | (simp [tld, bI, *]; done) | (simp_all [tld, bI]; done)) rfl d_Mo_told_70
  · refine x_iload_n C d_Mo_told_0 2 rfl rfl ?_
    refine x_tabOut C d_Mo_told_1 (by decide) 64 (by decide) ?_
    refine x_aload_n C d_Mo_told_64 0 rfl rfl ?_
    refine x_iload_n C d_Mo_told_65 1 rfl rfl ?_
    refine x_iload_n C d_Mo_told_66 2 rfl rfl ?_
    refine x_callVi C (c_Mo_personIs Z p 2 (by omega) (by omega) (g) _ rfl) mi_Mo_personIs k_919 (show 0 < 12 by omega) (m_0 Z _) rfl (As := [.int (nI p), .int (nI 2)]) ⟨Nat.le_of_ble_eq_true rfl, Nat.le_of_ble_eq_true rfl⟩ rfl rfl (Nat.le_of_ble_eq_true rfl) d_Mo_told_67 ?_
    exact x_iret C (by first | (simp [tld, bI, *]; done) | (simp_all [tld, bI]; done)) rfl d_Mo_told_70
  · refine x_iload_n C d_Mo_told_0 2 rfl rfl ?_
    refine x_tabOut C d_Mo_told_1 (by decide) 64 (by decide) ?_
    refine x_aload_n C d_Mo_told_64 0 rfl rfl ?_
    refine x_iload_n C d_Mo_told_65 1 rfl rfl ?_
    refine x_iload_n C d_Mo_told_66 2 rfl rfl ?_
    refine x_callVi C (c_Mo_personIs Z p 3 (by omega) (by omega) (g) _ rfl) mi_Mo_personIs k_919 (show 0 < 12 by omega) (m_0 Z _) rfl (As := [.int (nI p), .int (nI 3)]) ⟨Nat.le_of_ble_eq_true rfl, Nat.le_of_ble_eq_true rfl⟩ rfl rfl (Nat.le_of_ble_eq_true rfl) d_Mo_told_67 ?_
    exact x_iret C (by first | (simp [tld, bI, *]; done) | (simp_all [tld, bI]; done)) rfl d_Mo_told_70
  · refine x_iload_n C d_Mo_told_0 2 rfl rfl ?_
    refine x_tabOut C d_Mo_told_1 (by decide) 64 (by decide) ?_
    refine x_aload_n C d_Mo_told_64 0 rfl rfl ?_
    refine x_iload_n C d_Mo_told_65 1 rfl rfl ?_
    refine x_iload_n C d_Mo_told_66 2 rfl rfl ?_
    refine x_callVi C (c_Mo_personIs Z p 4 (by omega) (by omega) (g) _ rfl) mi_Mo_personIs k_919 (show 0 < 12 by omega) (m_0 Z _) rfl (As := [.int (nI p), .int (nI 4)]) ⟨Nat.le_of_ble_eq_true rfl, Nat.le_of_ble_eq_true rfl⟩ rfl rfl (Nat.le_of_ble_eq_true rfl) d_Mo_told_67 ?_
    exact x_iret C (by first | (simp [tld, bI, *]; done) | (simp_all [tld, bI]; done)) rfl d_Mo_told_70
  · refine x_iload_n C d_Mo_told_0 2 rfl rfl ?_
    refine x_tabOut C d_Mo_told_1 (by decide) 64 (by decide) ?_
    refine x_aload_n C d_Mo_told_64 0 rfl rfl ?_
    refine x_iload_n C d_Mo_told_65 1 rfl rfl ?_
    refine x_iload_n C d_Mo_told_66 2 rfl rfl ?_
    refine x_callVi C (c_Mo_personIs Z p 5 (by omega) (by omega) (g) _ rfl) mi_Mo_personIs k_919 (show 0 < 12 by omega) (m_0 Z _) rfl (As := [.int (nI p), .int (nI 5)]) ⟨Nat.le_of_ble_eq_true rfl, Nat.le_of_ble_eq_true rfl⟩ rfl rfl (Nat.le_of_ble_eq_true rfl) d_Mo_told_67 ?_
    exact x_iret C (by first | (simp [tld, bI, *]; done) | (simp_all [tld, bI]; done)) rfl d_Mo_told_70
  · refine x_iload_n C d_Mo_told_0 2 rfl rfl ?_
    refine x_tabAt C d_Mo_told_1 (v := 6) (by decide) (by decide) (by decide) (off := 31) (by decide) 32 (by decide) ?_
    refine x_aload_n C d_Mo_told_32 0 rfl rfl ?_
    refine x_iload_n C d_Mo_told_33 1 rfl rfl ?_
    refine x_callVi C (c_Mo_steps Z p (by omega) (g) _ rfl) mi_Mo_steps k_915 (show 0 < 12 by omega) (m_0 Z _) rfl (As := [.int (nI p)]) ⟨Nat.le_of_ble_eq_true rfl, Nat.le_of_ble_eq_true rfl⟩ rfl rfl (Nat.le_of_ble_eq_true rfl) d_Mo_told_34 ?_
    exact x_iret C (by first | (simp [tld, bI, *]; done) | (simp_all [tld, bI]; done)) rfl d_Mo_told_37
  · refine x_iload_n C d_Mo_told_0 2 rfl rfl ?_
    refine x_tabAt C d_Mo_told_1 (v := 7) (by decide) (by decide) (by decide) (off := 37) (by decide) 38 (by decide) ?_
    refine x_aload_n C d_Mo_told_38 0 rfl rfl ?_
    refine x_iload_n C d_Mo_told_39 1 rfl rfl ?_
    refine x_callVi C (c_Mo_crosses Z p (by omega) (g) _ rfl) mi_Mo_crosses k_924 (show 0 < 12 by omega) (m_0 Z _) rfl (As := [.int (nI p)]) ⟨Nat.le_of_ble_eq_true rfl, Nat.le_of_ble_eq_true rfl⟩ rfl rfl (Nat.le_of_ble_eq_true rfl) d_Mo_told_40 ?_
    refine x_ifeqB C d_Mo_told_43 50 (by decide) (fun c_1 => ?_) (fun c_1 => ?_)
    · refine x_iconst C d_Mo_told_50 (v := 0) (by decide) ?_
      exact x_iret C (by first | (simp [tld, bI, *]; done) | (simp_all [tld, bI]; done)) rfl d_Mo_told_51
    · refine x_iconst C d_Mo_told_46 (v := 1) (by decide) ?_
      refine x_goto C d_Mo_told_47 51 (by decide) ?_
      exact x_iret C (by first | (simp [tld, bI, *]; done) | (simp_all [tld, bI]; done)) rfl d_Mo_told_51
  · refine x_iload_n C d_Mo_told_0 2 rfl rfl ?_
    refine x_tabAt C d_Mo_told_1 (v := 8) (by decide) (by decide) (by decide) (off := 51) (by decide) 52 (by decide) ?_
    refine x_aload_n C d_Mo_told_52 0 rfl rfl ?_
    refine x_iload_n C d_Mo_told_53 1 rfl rfl ?_
    refine x_callVi C (c_Mo_calms Z p (by omega) (g) _ rfl) mi_Mo_calms k_928 (show 0 < 12 by omega) (m_0 Z _) rfl (As := [.int (nI p)]) ⟨Nat.le_of_ble_eq_true rfl, Nat.le_of_ble_eq_true rfl⟩ rfl rfl (Nat.le_of_ble_eq_true rfl) d_Mo_told_54 ?_
    exact x_iret C (by first | (simp [tld, bI, *]; done) | (simp_all [tld, bI]; done)) rfl d_Mo_told_57
  · refine x_iload_n C d_Mo_told_0 2 rfl rfl ?_
    refine x_tabAt C d_Mo_told_1 (v := 9) (by decide) (by decide) (by decide) (off := 57) (by decide) 58 (by decide) ?_
    refine x_aload_n C d_Mo_told_58 0 rfl rfl ?_
    refine x_iload_n C d_Mo_told_59 1 rfl rfl ?_
    refine x_callVi C (c_Mo_tires Z p (by omega) (g) _ rfl) mi_Mo_tires k_932 (show 0 < 12 by omega) (m_0 Z _) rfl (As := [.int (nI p)]) ⟨Nat.le_of_ble_eq_true rfl, Nat.le_of_ble_eq_true rfl⟩ rfl rfl (Nat.le_of_ble_eq_true rfl) d_Mo_told_60 ?_
    exact x_iret C (by first | (simp [tld, bI, *]; done) | (simp_all [tld, bI]; done)) rfl d_Mo_told_63

set_option maxRecDepth 100000 in
set_option maxHeartbeats 600000 in
theorem c_Mo_wouldMeet (Z : ZT) (a b : Nat) (ha : a < 8) (hb : b < 8) (g : St)  (r : Nat → Int32) (hr : g 0 = r) : CT yM Z y_Mo_wouldMeet b_Mo_wouldMeet 6 (some (.boolean)) 2 43 [.ref (Z.2.1 (0)), .int (nI a), .int (nI b)] (g) (QcI yM Z (bI (mtA (r (pI a 1)) (r (pI a 2)) (r (pI b 1)) (r (pI b 2)) = true)) (g)) := by
  refine CT.mk "TunnelPeaceModel" (by decide) rfl (Nat.le_of_ble_eq_true rfl) (fun X C => ?_)
  refine x_lv [0, 1, 2] (lv' := [(0, .ref (Z.2.1 (0))), (1, .int (nI a)), (2, .int (nI b))]) rfl ?_
  subst hr
  refine x_aload_n C d_Mo_wouldMeet_0 0 rfl rfl ?_
  refine x_iload_n C d_Mo_wouldMeet_1 1 rfl rfl ?_
  refine x_iconst C d_Mo_wouldMeet_2 (v := 2) (by decide) ?_
  refine x_callVi C (c_Mo_personIs Z a 2 (by omega) (by omega) (g) _ rfl) mi_Mo_personIs k_919 (show 0 < 12 by omega) (m_0 Z _) rfl (As := [.int (nI a), .int (2)]) ⟨Nat.le_of_ble_eq_true rfl, Nat.le_of_ble_eq_true rfl⟩ rfl rfl (Nat.le_of_ble_eq_true rfl) d_Mo_wouldMeet_3 ?_
  refine x_istore_n C d_Mo_wouldMeet_6 rfl (by decide) (lv' := [(3, .int (g 0 (pI a 2))), (0, .ref (Z.2.1 (0))), (1, .int (nI a)), (2, .int (nI b))]) rfl ?_
  refine x_aload_n C d_Mo_wouldMeet_7 1 rfl rfl ?_
  refine x_iload_n C d_Mo_wouldMeet_8 3 rfl rfl ?_
  refine x_iconst C d_Mo_wouldMeet_9 (v := 2) (by decide) ?_
  refine x_callVi C (c_Mo_personIs Z b 2 (by omega) (by omega) (g) _ rfl) mi_Mo_personIs k_919 (show 0 < 12 by omega) (m_0 Z _) rfl (As := [.int (nI b), .int (2)]) ⟨Nat.le_of_ble_eq_true rfl, Nat.le_of_ble_eq_true rfl⟩ rfl rfl (Nat.le_of_ble_eq_true rfl) d_Mo_wouldMeet_10 ?_
  refine x_istore C d_Mo_wouldMeet_13 (by decide) (lv' := [(4, .int (g 0 (pI b 2))), (3, .int (g 0 (pI a 2))), (0, .ref (Z.2.1 (0))), (1, .int (nI a)), (2, .int (nI b))]) rfl ?_
  refine x_iload_n C d_Mo_wouldMeet_15 1 rfl rfl ?_
  refine x_iload C d_Mo_wouldMeet_16 0 rfl ?_
  refine x_icmp_eq C d_Mo_wouldMeet_18 47 (by decide) (fun c_1 => ?_) (fun c_1 => ?_)
  · refine x_iconst C d_Mo_wouldMeet_47 (v := 1) (by decide) ?_
    refine x_goto C d_Mo_wouldMeet_48 52 (by decide) ?_
    refine x_istore C d_Mo_wouldMeet_52 (by decide) (lv' := [(5, .int (1)), (4, .int (g 0 (pI b 2))), (3, .int (g 0 (pI a 2))), (0, .ref (Z.2.1 (0))), (1, .int (nI a)), (2, .int (nI b))]) rfl ?_
    refine x_iload C d_Mo_wouldMeet_54 0 rfl ?_
    refine x_ifeq C d_Mo_wouldMeet_56 78 (by decide) (fun c_2 => ?_) (fun c_2 => ?_)
    · exact absurd c_2 (by decide)
    · refine x_aload_n C d_Mo_wouldMeet_59 3 rfl rfl ?_
      refine x_iload_n C d_Mo_wouldMeet_60 4 rfl rfl ?_
      refine x_iconst C d_Mo_wouldMeet_61 (v := 1) (by decide) ?_
      refine x_callVi C (c_Mo_personIs Z a 1 (by omega) (by omega) (g) _ rfl) mi_Mo_personIs k_919 (show 0 < 12 by omega) (m_0 Z _) rfl (As := [.int (nI a), .int (1)]) ⟨Nat.le_of_ble_eq_true rfl, Nat.le_of_ble_eq_true rfl⟩ rfl rfl (Nat.le_of_ble_eq_true rfl) d_Mo_wouldMeet_62 ?_
      refine x_aload_n C d_Mo_wouldMeet_65 3 rfl rfl ?_
      refine x_iload_n C d_Mo_wouldMeet_66 5 rfl rfl ?_
      refine x_iconst C d_Mo_wouldMeet_67 (v := 1) (by decide) ?_
      refine x_callVi C (c_Mo_personIs Z b 1 (by omega) (by omega) (g) _ rfl) mi_Mo_personIs k_919 (show 0 < 12 by omega) (m_0 Z _) rfl (As := [.int (nI b), .int (1)]) ⟨Nat.le_of_ble_eq_true rfl, Nat.le_of_ble_eq_true rfl⟩ rfl rfl (Nat.le_of_ble_eq_true rfl) d_Mo_wouldMeet_68 ?_
      refine x_icmp_eq C d_Mo_wouldMeet_71 78 (by decide) (fun c_3 => ?_) (fun c_3 => ?_)
      · refine x_iconst C d_Mo_wouldMeet_78 (v := 0) (by decide) ?_
        exact x_zret C (by decide) (bI_f (by first | (simp [mtA, *]; done) | (simp_all [mtA]; done))).symm rfl d_Mo_wouldMeet_79
      · have nc_3 := Ne.symm c_3
        refine x_iconst C d_Mo_wouldMeet_74 (v := 1) (by decide) ?_
        refine x_goto C d_Mo_wouldMeet_75 79 (by decide) ?_
        exact x_zret C (by decide) (bI_t (by first | (simp [mtA, *]; done) | (simp_all [mtA]; done))).symm rfl d_Mo_wouldMeet_79
  · have nc_1 := Ne.symm c_1
    refine x_iload_n C d_Mo_wouldMeet_21 1 rfl rfl ?_
    refine x_bipush C d_Mo_wouldMeet_22 (v := 7) (by decide) ?_
    refine x_icmp_ne C d_Mo_wouldMeet_24 34 (by decide) (fun c_4 => ?_) (fun c_4 => ?_)
    · have nc_4 := Ne.symm c_4
      refine x_iload_n C d_Mo_wouldMeet_34 1 rfl rfl ?_
      refine x_bipush C d_Mo_wouldMeet_35 (v := 8) (by decide) ?_
      refine x_icmp_ne C d_Mo_wouldMeet_37 51 (by decide) (fun c_5 => ?_) (fun c_5 => ?_)
      · have nc_5 := Ne.symm c_5
        refine x_iconst C d_Mo_wouldMeet_51 (v := 0) (by decide) ?_
        refine x_istore C d_Mo_wouldMeet_52 (by decide) (lv' := [(5, .int (0)), (4, .int (g 0 (pI b 2))), (3, .int (g 0 (pI a 2))), (0, .ref (Z.2.1 (0))), (1, .int (nI a)), (2, .int (nI b))]) rfl ?_
        refine x_iload C d_Mo_wouldMeet_54 0 rfl ?_
        refine x_ifeq C d_Mo_wouldMeet_56 78 (by decide) (fun c_6 => ?_) (fun c_6 => ?_)
        · refine x_iconst C d_Mo_wouldMeet_78 (v := 0) (by decide) ?_
          exact x_zret C (by decide) (bI_f (by first | (simp [mtA, *]; done) | (simp_all [mtA]; done))).symm rfl d_Mo_wouldMeet_79
        · exact absurd c_6 (by decide)
      · refine x_iload C d_Mo_wouldMeet_40 0 rfl ?_
        refine x_bipush C d_Mo_wouldMeet_42 (v := 7) (by decide) ?_
        refine x_icmp_ne C d_Mo_wouldMeet_44 51 (by decide) (fun c_7 => ?_) (fun c_7 => ?_)
        · have nc_7 := Ne.symm c_7
          refine x_iconst C d_Mo_wouldMeet_51 (v := 0) (by decide) ?_
          refine x_istore C d_Mo_wouldMeet_52 (by decide) (lv' := [(5, .int (0)), (4, .int (g 0 (pI b 2))), (3, .int (g 0 (pI a 2))), (0, .ref (Z.2.1 (0))), (1, .int (nI a)), (2, .int (nI b))]) rfl ?_
          refine x_iload C d_Mo_wouldMeet_54 0 rfl ?_
          refine x_ifeq C d_Mo_wouldMeet_56 78 (by decide) (fun c_8 => ?_) (fun c_8 => ?_)
          · refine x_iconst C d_Mo_wouldMeet_78 (v := 0) (by decide) ?_
            exact x_zret C (by decide) (bI_f (by first | (simp [mtA, *]; done) | (simp_all [mtA]; done))).symm rfl d_Mo_wouldMeet_79
          · exact absurd c_8 (by decide)
        · refine x_iconst C d_Mo_wouldMeet_47 (v := 1) (by decide) ?_
          refine x_goto C d_Mo_wouldMeet_48 52 (by decide) ?_
          refine x_istore C d_Mo_wouldMeet_52 (by decide) (lv' := [(5, .int (1)), (4, .int (g 0 (pI b 2))), (3, .int (g 0 (pI a 2))), (0, .ref (Z.2.1 (0))), (1, .int (nI a)), (2, .int (nI b))]) rfl ?_
          refine x_iload C d_Mo_wouldMeet_54 0 rfl ?_
          refine x_ifeq C d_Mo_wouldMeet_56 78 (by decide) (fun c_9 => ?_) (fun c_9 => ?_)
          · exact absurd c_9 (by decide)
          · refine x_aload_n C d_Mo_wouldMeet_59 3 rfl rfl ?_
            refine x_iload_n C d_Mo_wouldMeet_60 4 rfl rfl ?_
            refine x_iconst C d_Mo_wouldMeet_61 (v := 1) (by decide) ?_
            refine x_callVi C (c_Mo_personIs Z a 1 (by omega) (by omega) (g) _ rfl) mi_Mo_personIs k_919 (show 0 < 12 by omega) (m_0 Z _) rfl (As := [.int (nI a), .int (1)]) ⟨Nat.le_of_ble_eq_true rfl, Nat.le_of_ble_eq_true rfl⟩ rfl rfl (Nat.le_of_ble_eq_true rfl) d_Mo_wouldMeet_62 ?_
            refine x_aload_n C d_Mo_wouldMeet_65 3 rfl rfl ?_
            refine x_iload_n C d_Mo_wouldMeet_66 5 rfl rfl ?_
            refine x_iconst C d_Mo_wouldMeet_67 (v := 1) (by decide) ?_
            refine x_callVi C (c_Mo_personIs Z b 1 (by omega) (by omega) (g) _ rfl) mi_Mo_personIs k_919 (show 0 < 12 by omega) (m_0 Z _) rfl (As := [.int (nI b), .int (1)]) ⟨Nat.le_of_ble_eq_true rfl, Nat.le_of_ble_eq_true rfl⟩ rfl rfl (Nat.le_of_ble_eq_true rfl) d_Mo_wouldMeet_68 ?_
            refine x_icmp_eq C d_Mo_wouldMeet_71 78 (by decide) (fun c_10 => ?_) (fun c_10 => ?_)
            · refine x_iconst C d_Mo_wouldMeet_78 (v := 0) (by decide) ?_
              exact x_zret C (by decide) (bI_f (by first | (simp [mtA, *]; done) | (simp_all [mtA]; done))).symm rfl d_Mo_wouldMeet_79
            · have nc_10 := Ne.symm c_10
              refine x_iconst C d_Mo_wouldMeet_74 (v := 1) (by decide) ?_
              refine x_goto C d_Mo_wouldMeet_75 79 (by decide) ?_
              exact x_zret C (by decide) (bI_t (by first | (simp [mtA, *]; done) | (simp_all [mtA]; done))).symm rfl d_Mo_wouldMeet_79
    · refine x_iload C d_Mo_wouldMeet_27 0 rfl ?_
      refine x_bipush C d_Mo_wouldMeet_29 (v := 8) (by decide) ?_
      refine x_icmp_eq C d_Mo_wouldMeet_31 47 (by decide) (fun c_11 => ?_) (fun c_11 => ?_)
      · refine x_iconst C d_Mo_wouldMeet_47 (v := 1) (by decide) ?_
        refine x_goto C d_Mo_wouldMeet_48 52 (by decide) ?_
        refine x_istore C d_Mo_wouldMeet_52 (by decide) (lv' := [(5, .int (1)), (4, .int (g 0 (pI b 2))), (3, .int (g 0 (pI a 2))), (0, .ref (Z.2.1 (0))), (1, .int (nI a)), (2, .int (nI b))]) rfl ?_
        refine x_iload C d_Mo_wouldMeet_54 0 rfl ?_
        refine x_ifeq C d_Mo_wouldMeet_56 78 (by decide) (fun c_12 => ?_) (fun c_12 => ?_)
        · exact absurd c_12 (by decide)
        · refine x_aload_n C d_Mo_wouldMeet_59 3 rfl rfl ?_
          refine x_iload_n C d_Mo_wouldMeet_60 4 rfl rfl ?_
          refine x_iconst C d_Mo_wouldMeet_61 (v := 1) (by decide) ?_
          refine x_callVi C (c_Mo_personIs Z a 1 (by omega) (by omega) (g) _ rfl) mi_Mo_personIs k_919 (show 0 < 12 by omega) (m_0 Z _) rfl (As := [.int (nI a), .int (1)]) ⟨Nat.le_of_ble_eq_true rfl, Nat.le_of_ble_eq_true rfl⟩ rfl rfl (Nat.le_of_ble_eq_true rfl) d_Mo_wouldMeet_62 ?_
          refine x_aload_n C d_Mo_wouldMeet_65 3 rfl rfl ?_
          refine x_iload_n C d_Mo_wouldMeet_66 5 rfl rfl ?_
          refine x_iconst C d_Mo_wouldMeet_67 (v := 1) (by decide) ?_
          refine x_callVi C (c_Mo_personIs Z b 1 (by omega) (by omega) (g) _ rfl) mi_Mo_personIs k_919 (show 0 < 12 by omega) (m_0 Z _) rfl (As := [.int (nI b), .int (1)]) ⟨Nat.le_of_ble_eq_true rfl, Nat.le_of_ble_eq_true rfl⟩ rfl rfl (Nat.le_of_ble_eq_true rfl) d_Mo_wouldMeet_68 ?_
          refine x_icmp_eq C d_Mo_wouldMeet_71 78 (by decide) (fun c_13 => ?_) (fun c_13 => ?_)
          · refine x_iconst C d_Mo_wouldMeet_78 (v := 0) (by decide) ?_
            exact x_zret C (by decide) (bI_f (by first | (simp [mtA, *]; done) | (simp_all [mtA]; done))).symm rfl d_Mo_wouldMeet_79
          · have nc_13 := Ne.symm c_13
            refine x_iconst C d_Mo_wouldMeet_74 (v := 1) (by decide) ?_
            refine x_goto C d_Mo_wouldMeet_75 79 (by decide) ?_
            exact x_zret C (by decide) (bI_t (by first | (simp [mtA, *]; done) | (simp_all [mtA]; done))).symm rfl d_Mo_wouldMeet_79
      · have nc_11 := Ne.symm c_11
        refine x_iload_n C d_Mo_wouldMeet_34 1 rfl rfl ?_
        refine x_bipush C d_Mo_wouldMeet_35 (v := 8) (by decide) ?_
        refine x_icmp_ne C d_Mo_wouldMeet_37 51 (by decide) (fun c_14 => ?_) (fun c_14 => ?_)
        · have nc_14 := Ne.symm c_14
          refine x_iconst C d_Mo_wouldMeet_51 (v := 0) (by decide) ?_
          refine x_istore C d_Mo_wouldMeet_52 (by decide) (lv' := [(5, .int (0)), (4, .int (g 0 (pI b 2))), (3, .int (g 0 (pI a 2))), (0, .ref (Z.2.1 (0))), (1, .int (nI a)), (2, .int (nI b))]) rfl ?_
          refine x_iload C d_Mo_wouldMeet_54 0 rfl ?_
          refine x_ifeq C d_Mo_wouldMeet_56 78 (by decide) (fun c_15 => ?_) (fun c_15 => ?_)
          · refine x_iconst C d_Mo_wouldMeet_78 (v := 0) (by decide) ?_
            exact x_zret C (by decide) (bI_f (by first | (simp [mtA, *]; done) | (simp_all [mtA]; done))).symm rfl d_Mo_wouldMeet_79
          · exact absurd c_15 (by decide)
        · refine x_iload C d_Mo_wouldMeet_40 0 rfl ?_
          refine x_bipush C d_Mo_wouldMeet_42 (v := 7) (by decide) ?_
          refine x_icmp_ne C d_Mo_wouldMeet_44 51 (by decide) (fun c_16 => ?_) (fun c_16 => ?_)
          · have nc_16 := Ne.symm c_16
            refine x_iconst C d_Mo_wouldMeet_51 (v := 0) (by decide) ?_
            refine x_istore C d_Mo_wouldMeet_52 (by decide) (lv' := [(5, .int (0)), (4, .int (g 0 (pI b 2))), (3, .int (g 0 (pI a 2))), (0, .ref (Z.2.1 (0))), (1, .int (nI a)), (2, .int (nI b))]) rfl ?_
            refine x_iload C d_Mo_wouldMeet_54 0 rfl ?_
            refine x_ifeq C d_Mo_wouldMeet_56 78 (by decide) (fun c_17 => ?_) (fun c_17 => ?_)
            · refine x_iconst C d_Mo_wouldMeet_78 (v := 0) (by decide) ?_
              exact x_zret C (by decide) (bI_f (by first | (simp [mtA, *]; done) | (simp_all [mtA]; done))).symm rfl d_Mo_wouldMeet_79
            · exact absurd c_17 (by decide)
          · refine x_iconst C d_Mo_wouldMeet_47 (v := 1) (by decide) ?_
            refine x_goto C d_Mo_wouldMeet_48 52 (by decide) ?_
            refine x_istore C d_Mo_wouldMeet_52 (by decide) (lv' := [(5, .int (1)), (4, .int (g 0 (pI b 2))), (3, .int (g 0 (pI a 2))), (0, .ref (Z.2.1 (0))), (1, .int (nI a)), (2, .int (nI b))]) rfl ?_
            refine x_iload C d_Mo_wouldMeet_54 0 rfl ?_
            refine x_ifeq C d_Mo_wouldMeet_56 78 (by decide) (fun c_18 => ?_) (fun c_18 => ?_)
            · exact absurd c_18 (by decide)
            · refine x_aload_n C d_Mo_wouldMeet_59 3 rfl rfl ?_
              refine x_iload_n C d_Mo_wouldMeet_60 4 rfl rfl ?_
              refine x_iconst C d_Mo_wouldMeet_61 (v := 1) (by decide) ?_
              refine x_callVi C (c_Mo_personIs Z a 1 (by omega) (by omega) (g) _ rfl) mi_Mo_personIs k_919 (show 0 < 12 by omega) (m_0 Z _) rfl (As := [.int (nI a), .int (1)]) ⟨Nat.le_of_ble_eq_true rfl, Nat.le_of_ble_eq_true rfl⟩ rfl rfl (Nat.le_of_ble_eq_true rfl) d_Mo_wouldMeet_62 ?_
              refine x_aload_n C d_Mo_wouldMeet_65 3 rfl rfl ?_
              refine x_iload_n C d_Mo_wouldMeet_66 5 rfl rfl ?_
              refine x_iconst C d_Mo_wouldMeet_67 (v := 1) (by decide) ?_
              refine x_callVi C (c_Mo_personIs Z b 1 (by omega) (by omega) (g) _ rfl) mi_Mo_personIs k_919 (show 0 < 12 by omega) (m_0 Z _) rfl (As := [.int (nI b), .int (1)]) ⟨Nat.le_of_ble_eq_true rfl, Nat.le_of_ble_eq_true rfl⟩ rfl rfl (Nat.le_of_ble_eq_true rfl) d_Mo_wouldMeet_68 ?_
              refine x_icmp_eq C d_Mo_wouldMeet_71 78 (by decide) (fun c_19 => ?_) (fun c_19 => ?_)
              · refine x_iconst C d_Mo_wouldMeet_78 (v := 0) (by decide) ?_
                exact x_zret C (by decide) (bI_f (by first | (simp [mtA, *]; done) | (simp_all [mtA]; done))).symm rfl d_Mo_wouldMeet_79
              · have nc_19 := Ne.symm c_19
                refine x_iconst C d_Mo_wouldMeet_74 (v := 1) (by decide) ?_
                refine x_goto C d_Mo_wouldMeet_75 79 (by decide) ?_
                exact x_zret C (by decide) (bI_t (by first | (simp [mtA, *]; done) | (simp_all [mtA]; done))).symm rfl d_Mo_wouldMeet_79

set_option maxRecDepth 100000 in
set_option maxHeartbeats 600000 in
theorem c_Mo_more (Z : ZT) (k : Nat) (hk : k < 68) (b h : Int32) (g : St)  (r : Nat → Int32) (hr : g 0 = r) : CT yM Z y_Mo_more b_Mo_more 4 none 1 21 [.ref (Z.2.1 (0)), .int (nI k), .int (b), .int (h)] (g) (QcV yM Z (va_up g 0 (upd r k (mn h (r k + b))))) := by
  refine CT.mk "TunnelPeaceModel" (by decide) rfl (Nat.le_of_ble_eq_true rfl) (fun X C => ?_)
  refine x_lv [0, 1, 2, 3] (lv' := [(0, .ref (Z.2.1 (0))), (1, .int (nI k)), (2, .int (b)), (3, .int (h))]) rfl ?_
  subst hr
  refine x_aload_n C d_Mo_more_0 0 rfl rfl ?_
  refine gf_Mo_now C k_791 d_Mo_more_1 ?_
  refine x_iload_n C d_Mo_more_4 1 rfl rfl ?_
  refine x_iload_n C d_Mo_more_5 3 rfl rfl ?_
  refine x_aload_n C d_Mo_more_6 0 rfl rfl ?_
  refine gf_Mo_now C k_791 d_Mo_more_7 ?_
  refine x_iload_n C d_Mo_more_10 1 rfl rfl ?_
  refine al_m_now C k (v := g 0 k) rfl (by first | omega | (simp only [pI]; omega)) rfl d_Mo_more_11 ?_
  refine x_iload_n C d_Mo_more_12 2 rfl rfl ?_
  refine x_iadd C d_Mo_more_13 ?_
  refine x_mn C k_977 (Nat.le_of_ble_eq_true rfl) (Nat.le_of_ble_eq_true rfl) d_Mo_more_14 ?_
  refine as_m_now C k (v := mn h ((g 0 k) + b)) rfl (by first | omega | (simp only [pI]; omega)) (G := va_up g 0 (upd (g 0) k (mn h ((g 0 k) + b)))) rfl d_Mo_more_17 ?_
  exact x_vret C (by simp_all) d_Mo_more_18

set_option maxRecDepth 100000 in
set_option maxHeartbeats 600000 in
theorem c_Mo_towards (Z : ZT) (f t s : Int32) (g : St)  : CT yM Z y_Mo_towards b_Mo_towards 3 (some (.int)) 1 21 [.int (f), .int (t), .int (s)] (g) (QcI yM Z (mvd f t s) (g)) := by
  refine CT.mk "TunnelPeaceModel" (by decide) rfl (Nat.le_of_ble_eq_true rfl) (fun X C => ?_)
  refine x_lv [0, 1, 2] (lv' := [(0, .int (f)), (1, .int (t)), (2, .int (s))]) rfl ?_
  refine x_iload_n C d_Mo_towards_0 1 rfl rfl ?_
  refine x_iload_n C d_Mo_towards_1 0 rfl rfl ?_
  refine x_icmp_le C d_Mo_towards_2 15 (by decide) (fun c_1 => ?_) (fun c_1 => ?_)
  · have nc_1 := Int32.not_lt.mpr c_1
    refine x_iload_n C d_Mo_towards_15 1 rfl rfl ?_
    refine x_iload_n C d_Mo_towards_16 0 rfl rfl ?_
    refine x_iload_n C d_Mo_towards_17 2 rfl rfl ?_
    refine x_isub C d_Mo_towards_18 ?_
    refine x_mx C k_923 (Nat.le_of_ble_eq_true rfl) (Nat.le_of_ble_eq_true rfl) d_Mo_towards_19 ?_
    exact x_iret C (by simp [mvd, *]) rfl d_Mo_towards_22
  · have nc_1 := Int32.not_le.mp c_1
    refine x_iload_n C d_Mo_towards_5 1 rfl rfl ?_
    refine x_iload_n C d_Mo_towards_6 0 rfl rfl ?_
    refine x_iload_n C d_Mo_towards_7 2 rfl rfl ?_
    refine x_iadd C d_Mo_towards_8 ?_
    refine x_mn C k_977 (Nat.le_of_ble_eq_true rfl) (Nat.le_of_ble_eq_true rfl) d_Mo_towards_9 ?_
    refine x_goto C d_Mo_towards_12 22 (by decide) ?_
    exact x_iret C (by simp [mvd, *]) rfl d_Mo_towards_22

set_option maxRecDepth 100000 in
set_option maxHeartbeats 600000 in
theorem c_Mo_walks (Z : ZT) (p : Nat) (hp : p < 8) (pl : Int32) (g : St)  (r : Nat → Int32) (hr : g 0 = r) : CT yM Z y_Mo_walks b_Mo_walks 5 none 3 65 [.ref (Z.2.1 (0)), .int (nI p), .int (pl)] (g) (QcV yM Z (va_up g 0 (upd r (pI p 2) (wlkM r p pl)))) := by
  refine CT.mk "TunnelPeaceModel" (by decide) rfl (Nat.le_of_ble_eq_true rfl) (fun X C => ?_)
  refine x_lv [0, 1, 2] (lv' := [(0, .ref (Z.2.1 (0))), (1, .int (nI p)), (2, .int (pl))]) rfl ?_
  subst hr
  refine x_aload_n C d_Mo_walks_0 0 rfl rfl ?_
  refine x_iload_n C d_Mo_walks_1 1 rfl rfl ?_
  refine x_iconst C d_Mo_walks_2 (v := 2) (by decide) ?_
  refine x_callVi C (c_Mo_personIs Z p 2 (by omega) (by omega) (g) _ rfl) mi_Mo_personIs k_919 (show 0 < 12 by omega) (m_0 Z _) rfl (As := [.int (nI p), .int (2)]) ⟨Nat.le_of_ble_eq_true rfl, Nat.le_of_ble_eq_true rfl⟩ rfl rfl (Nat.le_of_ble_eq_true rfl) d_Mo_walks_3 ?_
  refine x_istore_n C d_Mo_walks_6 rfl (by decide) (lv' := [(3, .int (g 0 (pI p 2))), (0, .ref (Z.2.1 (0))), (1, .int (nI p)), (2, .int (pl))]) rfl ?_
  refine x_aload_n C d_Mo_walks_7 1 rfl rfl ?_
  refine x_iload_n C d_Mo_walks_8 2 rfl rfl ?_
  refine x_iconst C d_Mo_walks_9 (v := 1) (by decide) ?_
  refine x_callVi C (c_Mo_personIs Z p 1 (by omega) (by omega) (g) _ rfl) mi_Mo_personIs k_919 (show 0 < 12 by omega) (m_0 Z _) rfl (As := [.int (nI p), .int (1)]) ⟨Nat.le_of_ble_eq_true rfl, Nat.le_of_ble_eq_true rfl⟩ rfl rfl (Nat.le_of_ble_eq_true rfl) d_Mo_walks_10 ?_
  refine x_callSi C (c_Mo_liftOf Z (g 0 (pI p 1)) (g)) mi_Mo_liftOf k_900 (As := [.int (g 0 (pI p 1))]) ⟨Nat.le_of_ble_eq_true rfl, Nat.le_of_ble_eq_true rfl⟩ rfl rfl (Nat.le_of_ble_eq_true rfl) d_Mo_walks_13 ?_
  refine x_istore C d_Mo_walks_16 (by decide) (lv' := [(4, .int (lft (g 0 (pI p 1)))), (3, .int (g 0 (pI p 2))), (0, .ref (Z.2.1 (0))), (1, .int (nI p)), (2, .int (pl))]) rfl ?_
  refine x_aload_n C d_Mo_walks_18 2 rfl rfl ?_
  refine x_iload_n C d_Mo_walks_19 3 rfl rfl ?_
  refine x_iconst C d_Mo_walks_20 (v := 3) (by decide) ?_
  refine x_callVi C (c_Mo_personIs Z p 3 (by omega) (by omega) (g) _ rfl) mi_Mo_personIs k_919 (show 0 < 12 by omega) (m_0 Z _) rfl (As := [.int (nI p), .int (3)]) ⟨Nat.le_of_ble_eq_true rfl, Nat.le_of_ble_eq_true rfl⟩ rfl rfl (Nat.le_of_ble_eq_true rfl) d_Mo_walks_21 ?_
  refine x_ifle C d_Mo_walks_24 62 (by decide) (fun c_1 => ?_) (fun c_1 => ?_)
  · have nc_1 := Int32.not_lt.mpr c_1
    refine x_aload_n C d_Mo_walks_62 2 rfl rfl ?_
    refine gf_Mo_now C k_791 d_Mo_walks_63 ?_
    refine x_iload_n C d_Mo_walks_66 3 rfl rfl ?_
    refine x_iconst C d_Mo_walks_67 (v := 2) (by decide) ?_
    refine x_callSi C (c_Mo_personAt Z p 2 (g)) mi_Mo_personAt k_897 (As := [.int (nI p), .int (2)]) ⟨Nat.le_of_ble_eq_true rfl, Nat.le_of_ble_eq_true rfl⟩ rfl rfl (Nat.le_of_ble_eq_true rfl) d_Mo_walks_68 ?_
    refine x_iload_n C d_Mo_walks_71 1 rfl rfl ?_
    refine x_iload C d_Mo_walks_72 0 rfl ?_
    refine x_aload_n C d_Mo_walks_74 2 rfl rfl ?_
    refine x_iload_n C d_Mo_walks_75 3 rfl rfl ?_
    refine x_callVi C (c_Mo_steps Z p (by omega) (g) _ rfl) mi_Mo_steps k_915 (show 0 < 12 by omega) (m_0 Z _) rfl (As := [.int (nI p)]) ⟨Nat.le_of_ble_eq_true rfl, Nat.le_of_ble_eq_true rfl⟩ rfl rfl (Nat.le_of_ble_eq_true rfl) d_Mo_walks_76 ?_
    refine x_callSi C (c_Mo_towards Z (g 0 (pI p 2)) (lft (g 0 (pI p 1))) (stp ((g 0) (pI p 0)) ((g 0) (pI p 4)) ((g 0) 0)) (g)) mi_Mo_towards k_978 (As := [.int (g 0 (pI p 2)), .int (lft (g 0 (pI p 1))), .int (stp ((g 0) (pI p 0)) ((g 0) (pI p 4)) ((g 0) 0))]) ⟨Nat.le_of_ble_eq_true rfl, Nat.le_of_ble_eq_true rfl⟩ rfl rfl (Nat.le_of_ble_eq_true rfl) d_Mo_walks_79 ?_
    refine as_m_now C (pI p 2) (v := mvd (g 0 (pI p 2)) (lft (g 0 (pI p 1))) (stp ((g 0) (pI p 0)) ((g 0) (pI p 4)) ((g 0) 0))) rfl (by first | omega | (simp only [pI]; omega)) (G := va_up g 0 (upd (g 0) (pI p 2) (mvd (g 0 (pI p 2)) (lft (g 0 (pI p 1))) (stp ((g 0) (pI p 0)) ((g 0) (pI p 4)) ((g 0) 0))))) rfl d_Mo_walks_82 ?_
    exact x_vret C (by simp [wlkM, *]) d_Mo_walks_83
  · have nc_1 := Int32.not_le.mp c_1
    refine x_aload_n C d_Mo_walks_27 2 rfl rfl ?_
    refine x_iload_n C d_Mo_walks_28 3 rfl rfl ?_
    refine x_callVi C (c_Mo_crosses Z p (by omega) (g) _ rfl) mi_Mo_crosses k_924 (show 0 < 12 by omega) (m_0 Z _) rfl (As := [.int (nI p)]) ⟨Nat.le_of_ble_eq_true rfl, Nat.le_of_ble_eq_true rfl⟩ rfl rfl (Nat.le_of_ble_eq_true rfl) d_Mo_walks_29 ?_
    refine x_ifeqB C d_Mo_walks_32 39 (by decide) (fun c_2 => ?_) (fun c_2 => ?_)
    · refine x_iload_n C d_Mo_walks_39 1 rfl rfl ?_
      refine x_bipush C d_Mo_walks_40 (v := 7) (by decide) ?_
      refine x_icmp_gt C d_Mo_walks_42 54 (by decide) (fun c_3 => ?_) (fun c_3 => ?_)
      · have nc_3 := Int32.not_le.mpr c_3
        refine x_bipush C d_Mo_walks_54 (v := 8) (by decide) ?_
        refine x_iload_n C d_Mo_walks_56 4 rfl rfl ?_
        refine x_mx C k_923 (Nat.le_of_ble_eq_true rfl) (Nat.le_of_ble_eq_true rfl) d_Mo_walks_57 ?_
        refine x_istore C d_Mo_walks_60 (by decide) (lv' := [(4, .int (mx 8 pl)), (3, .int (g 0 (pI p 2))), (0, .ref (Z.2.1 (0))), (1, .int (nI p)), (2, .int (pl))]) rfl ?_
        refine x_aload_n C d_Mo_walks_62 2 rfl rfl ?_
        refine gf_Mo_now C k_791 d_Mo_walks_63 ?_
        refine x_iload_n C d_Mo_walks_66 3 rfl rfl ?_
        refine x_iconst C d_Mo_walks_67 (v := 2) (by decide) ?_
        refine x_callSi C (c_Mo_personAt Z p 2 (g)) mi_Mo_personAt k_897 (As := [.int (nI p), .int (2)]) ⟨Nat.le_of_ble_eq_true rfl, Nat.le_of_ble_eq_true rfl⟩ rfl rfl (Nat.le_of_ble_eq_true rfl) d_Mo_walks_68 ?_
        refine x_iload_n C d_Mo_walks_71 1 rfl rfl ?_
        refine x_iload C d_Mo_walks_72 0 rfl ?_
        refine x_aload_n C d_Mo_walks_74 2 rfl rfl ?_
        refine x_iload_n C d_Mo_walks_75 3 rfl rfl ?_
        refine x_callVi C (c_Mo_steps Z p (by omega) (g) _ rfl) mi_Mo_steps k_915 (show 0 < 12 by omega) (m_0 Z _) rfl (As := [.int (nI p)]) ⟨Nat.le_of_ble_eq_true rfl, Nat.le_of_ble_eq_true rfl⟩ rfl rfl (Nat.le_of_ble_eq_true rfl) d_Mo_walks_76 ?_
        refine x_callSi C (c_Mo_towards Z (g 0 (pI p 2)) (mx 8 pl) (stp ((g 0) (pI p 0)) ((g 0) (pI p 4)) ((g 0) 0)) (g)) mi_Mo_towards k_978 (As := [.int (g 0 (pI p 2)), .int (mx 8 pl), .int (stp ((g 0) (pI p 0)) ((g 0) (pI p 4)) ((g 0) 0))]) ⟨Nat.le_of_ble_eq_true rfl, Nat.le_of_ble_eq_true rfl⟩ rfl rfl (Nat.le_of_ble_eq_true rfl) d_Mo_walks_79 ?_
        refine as_m_now C (pI p 2) (v := mvd (g 0 (pI p 2)) (mx 8 pl) (stp ((g 0) (pI p 0)) ((g 0) (pI p 4)) ((g 0) 0))) rfl (by first | omega | (simp only [pI]; omega)) (G := va_up g 0 (upd (g 0) (pI p 2) (mvd (g 0 (pI p 2)) (mx 8 pl) (stp ((g 0) (pI p 0)) ((g 0) (pI p 4)) ((g 0) 0))))) rfl d_Mo_walks_82 ?_
        exact x_vret C (by simp [wlkM, *]) d_Mo_walks_83
      · have nc_3 := Int32.not_lt.mp c_3
        refine x_bipush C d_Mo_walks_45 (v := 7) (by decide) ?_
        refine x_iload_n C d_Mo_walks_47 4 rfl rfl ?_
        refine x_mn C k_977 (Nat.le_of_ble_eq_true rfl) (Nat.le_of_ble_eq_true rfl) d_Mo_walks_48 ?_
        refine x_goto C d_Mo_walks_51 60 (by decide) ?_
        refine x_istore C d_Mo_walks_60 (by decide) (lv' := [(4, .int (mn 7 pl)), (3, .int (g 0 (pI p 2))), (0, .ref (Z.2.1 (0))), (1, .int (nI p)), (2, .int (pl))]) rfl ?_
        refine x_aload_n C d_Mo_walks_62 2 rfl rfl ?_
        refine gf_Mo_now C k_791 d_Mo_walks_63 ?_
        refine x_iload_n C d_Mo_walks_66 3 rfl rfl ?_
        refine x_iconst C d_Mo_walks_67 (v := 2) (by decide) ?_
        refine x_callSi C (c_Mo_personAt Z p 2 (g)) mi_Mo_personAt k_897 (As := [.int (nI p), .int (2)]) ⟨Nat.le_of_ble_eq_true rfl, Nat.le_of_ble_eq_true rfl⟩ rfl rfl (Nat.le_of_ble_eq_true rfl) d_Mo_walks_68 ?_
        refine x_iload_n C d_Mo_walks_71 1 rfl rfl ?_
        refine x_iload C d_Mo_walks_72 0 rfl ?_
        refine x_aload_n C d_Mo_walks_74 2 rfl rfl ?_
        refine x_iload_n C d_Mo_walks_75 3 rfl rfl ?_
        refine x_callVi C (c_Mo_steps Z p (by omega) (g) _ rfl) mi_Mo_steps k_915 (show 0 < 12 by omega) (m_0 Z _) rfl (As := [.int (nI p)]) ⟨Nat.le_of_ble_eq_true rfl, Nat.le_of_ble_eq_true rfl⟩ rfl rfl (Nat.le_of_ble_eq_true rfl) d_Mo_walks_76 ?_
        refine x_callSi C (c_Mo_towards Z (g 0 (pI p 2)) (mn 7 pl) (stp ((g 0) (pI p 0)) ((g 0) (pI p 4)) ((g 0) 0)) (g)) mi_Mo_towards k_978 (As := [.int (g 0 (pI p 2)), .int (mn 7 pl), .int (stp ((g 0) (pI p 0)) ((g 0) (pI p 4)) ((g 0) 0))]) ⟨Nat.le_of_ble_eq_true rfl, Nat.le_of_ble_eq_true rfl⟩ rfl rfl (Nat.le_of_ble_eq_true rfl) d_Mo_walks_79 ?_
        refine as_m_now C (pI p 2) (v := mvd (g 0 (pI p 2)) (mn 7 pl) (stp ((g 0) (pI p 0)) ((g 0) (pI p 4)) ((g 0) 0))) rfl (by first | omega | (simp only [pI]; omega)) (G := va_up g 0 (upd (g 0) (pI p 2) (mvd (g 0 (pI p 2)) (mn 7 pl) (stp ((g 0) (pI p 0)) ((g 0) (pI p 4)) ((g 0) 0))))) rfl d_Mo_walks_82 ?_
        exact x_vret C (by simp [wlkM, *]) d_Mo_walks_83
    · refine x_iload_n C d_Mo_walks_35 4 rfl rfl ?_
      refine x_goto C d_Mo_walks_36 60 (by decide) ?_
      refine x_istore C d_Mo_walks_60 (by decide) (lv' := [(4, .int (pl)), (3, .int (g 0 (pI p 2))), (0, .ref (Z.2.1 (0))), (1, .int (nI p)), (2, .int (pl))]) rfl ?_
      refine x_aload_n C d_Mo_walks_62 2 rfl rfl ?_
      refine gf_Mo_now C k_791 d_Mo_walks_63 ?_
      refine x_iload_n C d_Mo_walks_66 3 rfl rfl ?_
      refine x_iconst C d_Mo_walks_67 (v := 2) (by decide) ?_
      refine x_callSi C (c_Mo_personAt Z p 2 (g)) mi_Mo_personAt k_897 (As := [.int (nI p), .int (2)]) ⟨Nat.le_of_ble_eq_true rfl, Nat.le_of_ble_eq_true rfl⟩ rfl rfl (Nat.le_of_ble_eq_true rfl) d_Mo_walks_68 ?_
      refine x_iload_n C d_Mo_walks_71 1 rfl rfl ?_
      refine x_iload C d_Mo_walks_72 0 rfl ?_
      refine x_aload_n C d_Mo_walks_74 2 rfl rfl ?_
      refine x_iload_n C d_Mo_walks_75 3 rfl rfl ?_
      refine x_callVi C (c_Mo_steps Z p (by omega) (g) _ rfl) mi_Mo_steps k_915 (show 0 < 12 by omega) (m_0 Z _) rfl (As := [.int (nI p)]) ⟨Nat.le_of_ble_eq_true rfl, Nat.le_of_ble_eq_true rfl⟩ rfl rfl (Nat.le_of_ble_eq_true rfl) d_Mo_walks_76 ?_
      refine x_callSi C (c_Mo_towards Z (g 0 (pI p 2)) pl (stp ((g 0) (pI p 0)) ((g 0) (pI p 4)) ((g 0) 0)) (g)) mi_Mo_towards k_978 (As := [.int (g 0 (pI p 2)), .int (pl), .int (stp ((g 0) (pI p 0)) ((g 0) (pI p 4)) ((g 0) 0))]) ⟨Nat.le_of_ble_eq_true rfl, Nat.le_of_ble_eq_true rfl⟩ rfl rfl (Nat.le_of_ble_eq_true rfl) d_Mo_walks_79 ?_
      refine as_m_now C (pI p 2) (v := mvd (g 0 (pI p 2)) pl (stp ((g 0) (pI p 0)) ((g 0) (pI p 4)) ((g 0) 0))) rfl (by first | omega | (simp only [pI]; omega)) (G := va_up g 0 (upd (g 0) (pI p 2) (mvd (g 0 (pI p 2)) pl (stp ((g 0) (pI p 0)) ((g 0) (pI p 4)) ((g 0) 0))))) rfl d_Mo_walks_82 ?_
      exact x_vret C (by simp [wlkM, *]) d_Mo_walks_83

set_option maxRecDepth 100000 in
set_option maxHeartbeats 600000 in
theorem c_Mo_meet (Z : ZT) (a b : Nat) (ha : a < 8) (hb : b < 8) (g : St)  (r : Nat → Int32) (hr : g 0 = r) : CT yM Z y_Mo_meet b_Mo_meet 3 none 3 64 [.ref (Z.2.1 (0)), .int (nI a), .int (nI b)] (g) (QcV yM Z (va_up g 0 (upd (cmtR (cmtR r a) b) 3 (mx 0 ((cmtR (cmtR r a) b) 3 - clm ((cmtR (cmtR r a) b) (pI a 0)) - clm ((cmtR (cmtR r a) b) (pI b 0))))))) := by
  refine CT.mk "TunnelPeaceModel" (by decide) rfl (Nat.le_of_ble_eq_true rfl) (fun X C => ?_)
  refine x_lv [0, 1, 2] (lv' := [(0, .ref (Z.2.1 (0))), (1, .int (nI a)), (2, .int (nI b))]) rfl ?_
  subst hr
  refine x_aload_n C d_Mo_meet_0 0 rfl rfl ?_
  refine x_iload_n C d_Mo_meet_1 1 rfl rfl ?_
  refine x_iconst C d_Mo_meet_2 (v := 5) (by decide) ?_
  refine x_callSi C (c_Mo_personAt Z a 5 (g)) mi_Mo_personAt k_897 (As := [.int (nI a), .int (5)]) ⟨Nat.le_of_ble_eq_true rfl, Nat.le_of_ble_eq_true rfl⟩ rfl rfl (Nat.le_of_ble_eq_true rfl) d_Mo_meet_3 ?_
  refine x_iconst C d_Mo_meet_6 (v := 1) (by decide) ?_
  refine x_sipush C d_Mo_meet_7 (v := 9999) (by decide) ?_
  refine x_callVv C (c_Mo_more Z (pI a 5) (by first | omega | (simp only [pI]; omega)) 1 9999 (g) _ rfl) mi_Mo_more k_985 (show 0 < 12 by omega) (m_0 Z _) rfl (As := [.int (nI (pI a 5)), .int (1), .int (9999)]) ⟨Nat.le_of_ble_eq_true rfl, Nat.le_of_ble_eq_true rfl⟩ rfl rfl (Nat.le_of_ble_eq_true rfl) d_Mo_meet_10 ?_
  refine x_aload_n C d_Mo_meet_13 0 rfl rfl ?_
  refine x_iload_n C d_Mo_meet_14 2 rfl rfl ?_
  refine x_iconst C d_Mo_meet_15 (v := 5) (by decide) ?_
  refine x_callSi C (c_Mo_personAt Z b 5 (va_up g 0 (upd (g 0) (pI a 5) (mn 9999 ((g 0) (pI a 5) + 1))))) mi_Mo_personAt k_897 (As := [.int (nI b), .int (5)]) ⟨Nat.le_of_ble_eq_true rfl, Nat.le_of_ble_eq_true rfl⟩ rfl rfl (Nat.le_of_ble_eq_true rfl) d_Mo_meet_16 ?_
  refine x_iconst C d_Mo_meet_19 (v := 1) (by decide) ?_
  refine x_sipush C d_Mo_meet_20 (v := 9999) (by decide) ?_
  refine x_callVv C (c_Mo_more Z (pI b 5) (by first | omega | (simp only [pI]; omega)) 1 9999 (va_up g 0 (upd (g 0) (pI a 5) (mn 9999 ((g 0) (pI a 5) + 1)))) _ (va_up_self _ _ _)) mi_Mo_more k_985 (show 0 < 12 by omega) (m_0 Z _) rfl (As := [.int (nI (pI b 5)), .int (1), .int (9999)]) ⟨Nat.le_of_ble_eq_true rfl, Nat.le_of_ble_eq_true rfl⟩ rfl rfl (Nat.le_of_ble_eq_true rfl) d_Mo_meet_23 ?_
  refine x_eqg (g' := va_up g 0 (upd (upd (g 0) (pI a 5) (mn 9999 ((g 0) (pI a 5) + 1))) (pI b 5) (mn 9999 ((upd (g 0) (pI a 5) (mn 9999 ((g 0) (pI a 5) + 1))) (pI b 5) + 1)))) (bx_uu _ _ _ _) ?_
  refine x_aload_n C d_Mo_meet_26 0 rfl rfl ?_
  refine gf_Mo_now C k_791 d_Mo_meet_27 ?_
  refine x_iconst C d_Mo_meet_30 (v := 3) (by decide) ?_
  refine x_iconst C d_Mo_meet_31 (v := 0) (by decide) ?_
  refine x_aload_n C d_Mo_meet_32 0 rfl rfl ?_
  refine gf_Mo_now C k_791 d_Mo_meet_33 ?_
  refine x_iconst C d_Mo_meet_36 (v := 3) (by decide) ?_
  refine al_m_now C 3 (v := g 0 3) (by decide) (by first | omega | (simp only [pI]; omega)) (Eq.trans (Eq.trans (congrFun (va_up_self _ _ _) _) (pk_un (by first | decide | (simp only [pI]; omega)))) (pk_un (by first | decide | (simp only [pI]; omega)))) d_Mo_meet_37 ?_
  refine x_aload_n C d_Mo_meet_38 0 rfl rfl ?_
  refine x_iload_n C d_Mo_meet_39 1 rfl rfl ?_
  refine x_callVi C (c_Mo_calms Z a (by omega) (va_up g 0 (upd (upd (g 0) (pI a 5) (mn 9999 ((g 0) (pI a 5) + 1))) (pI b 5) (mn 9999 ((upd (g 0) (pI a 5) (mn 9999 ((g 0) (pI a 5) + 1))) (pI b 5) + 1)))) _ (va_up_self _ _ _)) mi_Mo_calms k_928 (show 0 < 12 by omega) (m_0 Z _) rfl (As := [.int (nI a)]) ⟨Nat.le_of_ble_eq_true rfl, Nat.le_of_ble_eq_true rfl⟩ rfl rfl (Nat.le_of_ble_eq_true rfl) d_Mo_meet_40 ?_
  refine x_isub C d_Mo_meet_43 ?_
  refine x_aload_n C d_Mo_meet_44 0 rfl rfl ?_
  refine x_iload_n C d_Mo_meet_45 2 rfl rfl ?_
  refine x_callVi C (c_Mo_calms Z b (by omega) (va_up g 0 (upd (upd (g 0) (pI a 5) (mn 9999 ((g 0) (pI a 5) + 1))) (pI b 5) (mn 9999 ((upd (g 0) (pI a 5) (mn 9999 ((g 0) (pI a 5) + 1))) (pI b 5) + 1)))) _ (va_up_self _ _ _)) mi_Mo_calms k_928 (show 0 < 12 by omega) (m_0 Z _) rfl (As := [.int (nI b)]) ⟨Nat.le_of_ble_eq_true rfl, Nat.le_of_ble_eq_true rfl⟩ rfl rfl (Nat.le_of_ble_eq_true rfl) d_Mo_meet_46 ?_
  refine x_isub C d_Mo_meet_49 ?_
  refine x_mx C k_923 (Nat.le_of_ble_eq_true rfl) (Nat.le_of_ble_eq_true rfl) d_Mo_meet_50 ?_
  refine as_m_now C 3 (v := mx 0 (((g 0 3) - (clm ((upd (upd (g 0) (pI a 5) (mn 9999 ((g 0) (pI a 5) + 1))) (pI b 5) (mn 9999 ((upd (g 0) (pI a 5) (mn 9999 ((g 0) (pI a 5) + 1))) (pI b 5) + 1))) (pI a 0)))) - (clm ((upd (upd (g 0) (pI a 5) (mn 9999 ((g 0) (pI a 5) + 1))) (pI b 5) (mn 9999 ((upd (g 0) (pI a 5) (mn 9999 ((g 0) (pI a 5) + 1))) (pI b 5) + 1))) (pI b 0))))) (by decide) (by first | omega | (simp only [pI]; omega)) (G := va_up g 0 (upd (upd (upd (g 0) (pI a 5) (mn 9999 ((g 0) (pI a 5) + 1))) (pI b 5) (mn 9999 ((upd (g 0) (pI a 5) (mn 9999 ((g 0) (pI a 5) + 1))) (pI b 5) + 1))) 3 (mx 0 (((g 0 3) - (clm ((upd (upd (g 0) (pI a 5) (mn 9999 ((g 0) (pI a 5) + 1))) (pI b 5) (mn 9999 ((upd (g 0) (pI a 5) (mn 9999 ((g 0) (pI a 5) + 1))) (pI b 5) + 1))) (pI a 0)))) - (clm ((upd (upd (g 0) (pI a 5) (mn 9999 ((g 0) (pI a 5) + 1))) (pI b 5) (mn 9999 ((upd (g 0) (pI a 5) (mn 9999 ((g 0) (pI a 5) + 1))) (pI b 5) + 1))) (pI b 0))))))) up_va d_Mo_meet_53 ?_
  exact x_vret C (by first | rfl | simp [cmtR, upd_at, pI_eq, pI_hd, pI_hd']) d_Mo_meet_54

set_option maxRecDepth 100000 in
set_option maxHeartbeats 600000 in
theorem c_Mo_day (Z : ZT)  (g : St)  (r : Nat → Int32) (hr : g 0 = r) (hk : okR r) : CT yM Z y_Mo_day b_Mo_day 4 none 4 89 [.ref (Z.2.1 (0))] (g) (QcV yM Z (va_up g 0 (dayM r))) := by
  refine CT.mk "TunnelPeaceModel" (by decide) rfl (Nat.le_of_ble_eq_true rfl) (fun X C => ?_)
  refine x_lv [0] (lv' := [(0, .ref (Z.2.1 (0)))]) rfl ?_
  subst hr
  have hk0 := hk
  obtain ⟨⟨n, hn8, hn⟩, dd, hdd, hd⟩ := hk
  refine x_aload_n C d_Mo_day_0 0 rfl rfl ?_
  refine gf_Mo_now C k_791 d_Mo_day_1 ?_
  refine x_aload_n C d_Mo_day_4 0 rfl rfl ?_
  refine x_callVi C (c_Mo_placeNow Z (g) _ rfl hk0) mi_Mo_placeNow k_969 (show 0 < 12 by omega) (m_0 Z _) rfl (As := []) ⟨Nat.le_of_ble_eq_true rfl, Nat.le_of_ble_eq_true rfl⟩ rfl rfl (Nat.le_of_ble_eq_true rfl) d_Mo_day_5 ?_
  refine al_m_now C (4 + dy (g 0) % 6) (v := g 0 (4 + dy (g 0) % 6)) rfl (by first | omega | (simp only [pI]; omega)) rfl d_Mo_day_8 ?_
  refine x_istore_n C d_Mo_day_9 rfl (by decide) (lv' := [(1, .int (g 0 (4 + dy (g 0) % 6))), (0, .ref (Z.2.1 (0)))]) rfl ?_
  refine x_iconst C d_Mo_day_10 (v := 0) (by decide) ?_
  refine x_topi (show (0 : Int32) = nI 0 by decide) ?_
  refine x_istore_n C d_Mo_day_11 rfl (by decide) (lv' := [(2, .int (nI 0)), (1, .int (g 0 (4 + dy (g 0) % 6))), (0, .ref (Z.2.1 (0)))]) rfl ?_
  have LP_12 : ∀ (f_ i : Nat), i ≤ n → n - i < f_ → WX X 4 yM Z (QX X yM Z (QcV yM Z (va_up g 0 (dayM (g 0))))) (va_up g 0 (wkM (g 0 (4 + dy (g 0) % 6)) (g 0) (i))) 12 [(2, .int (nI i)), (1, .int (g 0 (4 + dy (g 0) % 6))), (0, .ref (Z.2.1 (0)))] [] := by
    intro f_
    induction f_ with
    | zero => intro i h1_ h2_; exact absurd h2_ (Nat.not_lt_zero _)
    | succ f_ ih_12 =>
      intro i hi_12 hf_12
      refine x_iload_n C d_Mo_day_12 0 rfl rfl ?_
      refine x_aload_n C d_Mo_day_13 2 rfl rfl ?_
      refine gf_Mo_now C k_791 d_Mo_day_14 ?_
      refine x_iconst C d_Mo_day_17 (v := 1) (by decide) ?_
      refine al_m_now C 1 (v := nI n) (by decide) (by first | omega | (simp only [pI]; omega)) (Eq.trans (Eq.trans (congrFun (va_up_self _ _ _) _) (wkM_hd (by decide))) hn) d_Mo_day_18 ?_
      refine x_icmp_ge C d_Mo_day_19 34 (by decide) (fun c_1 => ?_) (fun c_1 => ?_)
      · have nc_1 := Int32.not_lt.mpr c_1
        have mc_1 : n ≤ i := (nI_leI (by omega) (by omega)).mp (show nI n ≤ nI i from c_1)
        have e_i : n = i := by omega
        subst e_i
        refine x_iconst C d_Mo_day_34 (v := 0) (by decide) ?_
        refine x_topi (show (0 : Int32) = nI 0 by decide) ?_
        refine x_istore_n C d_Mo_day_35 rfl (by decide) (lv' := [(2, .int (nI 0)), (1, .int (g 0 (4 + dy (g 0) % 6))), (0, .ref (Z.2.1 (0)))]) rfl ?_
        have LP_36 : ∀ (f_ a : Nat), a ≤ n → n - a < f_ → WX X 4 yM Z (QX X yM Z (QcV yM Z (va_up g 0 (dayM (g 0))))) (va_up g 0 (mtO n (wkM (g 0 (4 + dy (g 0) % 6)) (g 0) n) (a))) 36 [(2, .int (nI a)), (0, .ref (Z.2.1 (0)))] [] := by
          intro f_
          induction f_ with
          | zero => intro a h1_ h2_; exact absurd h2_ (Nat.not_lt_zero _)
          | succ f_ ih_36 =>
            intro a hi_36 hf_36
            refine x_iload_n C d_Mo_day_36 0 rfl rfl ?_
            refine x_aload_n C d_Mo_day_37 1 rfl rfl ?_
            refine gf_Mo_now C k_791 d_Mo_day_38 ?_
            refine x_iconst C d_Mo_day_41 (v := 1) (by decide) ?_
            refine al_m_now C 1 (v := nI n) (by decide) (by first | omega | (simp only [pI]; omega)) (Eq.trans (Eq.trans (Eq.trans (congrFun (va_up_self _ _ _) _) (mtO_hd (by decide))) (wkM_hd (by decide))) hn) d_Mo_day_42 ?_
            refine x_icmp_ge C d_Mo_day_43 87 (by decide) (fun c_2 => ?_) (fun c_2 => ?_)
            · have nc_2 := Int32.not_lt.mpr c_2
              have mc_2 : n ≤ a := (nI_leI (by omega) (by omega)).mp (show nI n ≤ nI a from c_2)
              have e_a : n = a := by omega
              subst e_a
              have J_104 : WX X 4 yM Z (QX X yM Z (QcV yM Z (va_up g 0 (dayM (g 0))))) (va_up g 0 (g5 (mtO n (wkM (g 0 (4 + dy (g 0) % 6)) (g 0) n) (n)))) 104 [(0, .ref (Z.2.1 (0)))] [] := by
                refine x_iconst C d_Mo_day_104 (v := 0) (by decide) ?_
                refine x_topi (show (0 : Int32) = nI 0 by decide) ?_
                refine x_istore_n C d_Mo_day_105 rfl (by decide) (lv' := [(2, .int (nI 0)), (0, .ref (Z.2.1 (0)))]) rfl ?_
                have LP_106 : ∀ (f_ i : Nat), i ≤ n → n - i < f_ → WX X 4 yM Z (QX X yM Z (QcV yM Z (va_up g 0 (dayM (g 0))))) (va_up g 0 (enM (g5 (mtO n (wkM (g 0 (4 + dy (g 0) % 6)) (g 0) n) n)) (i))) 106 [(2, .int (nI i)), (0, .ref (Z.2.1 (0)))] [] := by
                  intro f_
                  induction f_ with
                  | zero => intro i h1_ h2_; exact absurd h2_ (Nat.not_lt_zero _)
                  | succ f_ ih_106 =>
                    intro i hi_106 hf_106
                    refine x_iload_n C d_Mo_day_106 0 rfl rfl ?_
                    refine x_aload_n C d_Mo_day_107 1 rfl rfl ?_
                    refine gf_Mo_now C k_791 d_Mo_day_108 ?_
                    refine x_iconst C d_Mo_day_111 (v := 1) (by decide) ?_
                    refine al_m_now C 1 (v := nI n) (by decide) (by first | omega | (simp only [pI]; omega)) (Eq.trans (Eq.trans (Eq.trans (Eq.trans (Eq.trans (congrFun (va_up_self _ _ _) _) (enM_hd (by decide))) (g5_hd (by decide))) (mtO_hd (by decide))) (wkM_hd (by decide))) hn) d_Mo_day_112 ?_
                    refine x_icmp_ge C d_Mo_day_113 177 (by decide) (fun c_3 => ?_) (fun c_3 => ?_)
                    · have nc_3 := Int32.not_lt.mpr c_3
                      have mc_3 : n ≤ i := (nI_leI (by omega) (by omega)).mp (show nI n ≤ nI i from c_3)
                      have e_i : n = i := by omega
                      subst e_i
                      refine x_aload_n C d_Mo_day_177 1 rfl rfl ?_
                      refine x_iconst C d_Mo_day_178 (v := 0) (by decide) ?_
                      refine x_iconst C d_Mo_day_179 (v := 1) (by decide) ?_
                      refine x_ldc C d_Mo_day_180 k_959 ?_
                      refine x_callVv C (c_Mo_more Z 0 (by first | omega | (simp only [pI]; omega)) 1 (99999) (va_up g 0 (enM (g5 (mtO n (wkM (g 0 (4 + dy (g 0) % 6)) (g 0) n) n)) (n))) _ (va_up_self _ _ _)) mi_Mo_more k_985 (show 0 < 12 by omega) (m_0 Z _) rfl (As := [.int (0), .int (1), .int ((99999))]) ⟨Nat.le_of_ble_eq_true rfl, Nat.le_of_ble_eq_true rfl⟩ rfl rfl (Nat.le_of_ble_eq_true rfl) d_Mo_day_182 ?_
                      refine x_eqg (g' := va_up g 0 (upd (enM (g5 (mtO n (wkM (g 0 (4 + dy (g 0) % 6)) (g 0) n) n)) (n)) 0 (mn (99999) ((enM (g5 (mtO n (wkM (g 0 (4 + dy (g 0) % 6)) (g 0) n) n)) (n)) 0 + 1)))) (bx_uu _ _ _ _) ?_
                      exact x_vret C (by unfold dayM; rw [sz_of hn hn8, enM_hd (by decide), g5_hd (by decide), mtO_hd (by decide), wkM_hd (by decide)]) d_Mo_day_185
                    · have nc_3 := Int32.not_le.mp c_3
                      have mc_3 : ¬ n ≤ i := fun z_ => (show ¬ nI n ≤ nI i from c_3) ((nI_leI (by omega) (by omega)).mpr z_)
                      refine x_aload_n C d_Mo_day_116 1 rfl rfl ?_
                      refine x_iload_n C d_Mo_day_117 0 rfl rfl ?_
                      refine x_iconst C d_Mo_day_118 (v := 2) (by decide) ?_
                      refine x_callVi C (c_Mo_personIs Z i 2 (by omega) (by omega) (va_up g 0 (enM (g5 (mtO n (wkM (g 0 (4 + dy (g 0) % 6)) (g 0) n) n)) (i))) _ (congrFun (va_up_self _ _ _) _)) mi_Mo_personIs k_919 (show 0 < 12 by omega) (m_0 Z _) rfl (As := [.int (nI i), .int (2)]) ⟨Nat.le_of_ble_eq_true rfl, Nat.le_of_ble_eq_true rfl⟩ rfl rfl (Nat.le_of_ble_eq_true rfl) d_Mo_day_119 ?_
                      refine x_aload_n C d_Mo_day_122 1 rfl rfl ?_
                      refine x_iload_n C d_Mo_day_123 0 rfl rfl ?_
                      refine x_iconst C d_Mo_day_124 (v := 1) (by decide) ?_
                      refine x_callVi C (c_Mo_personIs Z i 1 (by omega) (by omega) (va_up g 0 (enM (g5 (mtO n (wkM (g 0 (4 + dy (g 0) % 6)) (g 0) n) n)) (i))) _ (congrFun (va_up_self _ _ _) _)) mi_Mo_personIs k_919 (show 0 < 12 by omega) (m_0 Z _) rfl (As := [.int (nI i), .int (1)]) ⟨Nat.le_of_ble_eq_true rfl, Nat.le_of_ble_eq_true rfl⟩ rfl rfl (Nat.le_of_ble_eq_true rfl) d_Mo_day_125 ?_
                      refine x_callSi C (c_Mo_liftOf Z ((enM (g5 (mtO n (wkM (g 0 (4 + dy (g 0) % 6)) (g 0) n) n)) (i)) (pI i 1)) (va_up g 0 (enM (g5 (mtO n (wkM (g 0 (4 + dy (g 0) % 6)) (g 0) n) n)) (i)))) mi_Mo_liftOf k_900 (As := [.int ((enM (g5 (mtO n (wkM (g 0 (4 + dy (g 0) % 6)) (g 0) n) n)) (i)) (pI i 1))]) ⟨Nat.le_of_ble_eq_true rfl, Nat.le_of_ble_eq_true rfl⟩ rfl rfl (Nat.le_of_ble_eq_true rfl) d_Mo_day_128 ?_
                      refine x_icmp_ne C d_Mo_day_131 145 (by decide) (fun c_4 => ?_) (fun c_4 => ?_)
                      · have nc_4 := Ne.symm c_4
                        refine x_aload_n C d_Mo_day_145 1 rfl rfl ?_
                        refine gf_Mo_now C k_791 d_Mo_day_146 ?_
                        refine x_iload_n C d_Mo_day_149 0 rfl rfl ?_
                        refine x_iconst C d_Mo_day_150 (v := 3) (by decide) ?_
                        refine x_callSi C (c_Mo_personAt Z i 3 (va_up g 0 (enM (g5 (mtO n (wkM (g 0 (4 + dy (g 0) % 6)) (g 0) n) n)) (i)))) mi_Mo_personAt k_897 (As := [.int (nI i), .int (3)]) ⟨Nat.le_of_ble_eq_true rfl, Nat.le_of_ble_eq_true rfl⟩ rfl rfl (Nat.le_of_ble_eq_true rfl) d_Mo_day_151 ?_
                        refine x_iconst C d_Mo_day_154 (v := 0) (by decide) ?_
                        refine x_aload_n C d_Mo_day_155 1 rfl rfl ?_
                        refine x_iload_n C d_Mo_day_156 0 rfl rfl ?_
                        refine x_iconst C d_Mo_day_157 (v := 3) (by decide) ?_
                        refine x_callVi C (c_Mo_personIs Z i 3 (by omega) (by omega) (va_up g 0 (enM (g5 (mtO n (wkM (g 0 (4 + dy (g 0) % 6)) (g 0) n) n)) (i))) _ (congrFun (va_up_self _ _ _) _)) mi_Mo_personIs k_919 (show 0 < 12 by omega) (m_0 Z _) rfl (As := [.int (nI i), .int (3)]) ⟨Nat.le_of_ble_eq_true rfl, Nat.le_of_ble_eq_true rfl⟩ rfl rfl (Nat.le_of_ble_eq_true rfl) d_Mo_day_158 ?_
                        refine x_aload_n C d_Mo_day_161 1 rfl rfl ?_
                        refine x_iload_n C d_Mo_day_162 0 rfl rfl ?_
                        refine x_callVi C (c_Mo_tires Z i (by omega) (va_up g 0 (enM (g5 (mtO n (wkM (g 0 (4 + dy (g 0) % 6)) (g 0) n) n)) (i))) _ (va_up_self _ _ _)) mi_Mo_tires k_932 (show 0 < 12 by omega) (m_0 Z _) rfl (As := [.int (nI i)]) ⟨Nat.le_of_ble_eq_true rfl, Nat.le_of_ble_eq_true rfl⟩ rfl rfl (Nat.le_of_ble_eq_true rfl) d_Mo_day_163 ?_
                        refine x_isub C d_Mo_day_166 ?_
                        refine x_mx C k_923 (Nat.le_of_ble_eq_true rfl) (Nat.le_of_ble_eq_true rfl) d_Mo_day_167 ?_
                        refine as_m_now C (pI i 3) (v := mx 0 (((enM (g5 (mtO n (wkM (g 0 (4 + dy (g 0) % 6)) (g 0) n) n)) (i)) (pI i 3)) - (trs ((enM (g5 (mtO n (wkM (g 0 (4 + dy (g 0) % 6)) (g 0) n) n)) (i)) (pI i 0)) ((enM (g5 (mtO n (wkM (g 0 (4 + dy (g 0) % 6)) (g 0) n) n)) (i)) 0)))) rfl (by first | omega | (simp only [pI]; omega)) (G := va_up g 0 (upd (enM (g5 (mtO n (wkM (g 0 (4 + dy (g 0) % 6)) (g 0) n) n)) (i)) (pI i 3) (mx 0 (((enM (g5 (mtO n (wkM (g 0 (4 + dy (g 0) % 6)) (g 0) n) n)) (i)) (pI i 3)) - (trs ((enM (g5 (mtO n (wkM (g 0 (4 + dy (g 0) % 6)) (g 0) n) n)) (i)) (pI i 0)) ((enM (g5 (mtO n (wkM (g 0 (4 + dy (g 0) % 6)) (g 0) n) n)) (i)) 0)))))) up_va d_Mo_day_170 ?_
                        refine x_iinc C d_Mo_day_171 0 rfl (v := nI (i + 1)) (nI_1 _) (by decide) (lv' := [(2, .int (nI (i + 1))), (0, .ref (Z.2.1 (0)))]) rfl ?_
                        refine x_goto C d_Mo_day_174 106 (by decide) ?_
                        refine x_eqg (g' := va_up g 0 (enM (g5 (mtO n (wkM (g 0 (4 + dy (g 0) % 6)) (g 0) n) n)) (i + 1))) (by simp [enM, endR, upd_at, pI_eq, pI_hd, pI_hd', *]) ?_
                        exact ih_106 (i + 1) (by omega) (by omega)
                      · refine x_aload_n C d_Mo_day_134 1 rfl rfl ?_
                        refine gf_Mo_now C k_791 d_Mo_day_135 ?_
                        refine x_iload_n C d_Mo_day_138 0 rfl rfl ?_
                        refine x_iconst C d_Mo_day_139 (v := 4) (by decide) ?_
                        refine x_callSi C (c_Mo_personAt Z i 4 (va_up g 0 (enM (g5 (mtO n (wkM (g 0 (4 + dy (g 0) % 6)) (g 0) n) n)) (i)))) mi_Mo_personAt k_897 (As := [.int (nI i), .int (4)]) ⟨Nat.le_of_ble_eq_true rfl, Nat.le_of_ble_eq_true rfl⟩ rfl rfl (Nat.le_of_ble_eq_true rfl) d_Mo_day_140 ?_
                        refine x_iconst C d_Mo_day_143 (v := 0) (by decide) ?_
                        refine as_m_now C (pI i 4) (v := 0) rfl (by first | omega | (simp only [pI]; omega)) (G := va_up g 0 (upd (enM (g5 (mtO n (wkM (g 0 (4 + dy (g 0) % 6)) (g 0) n) n)) (i)) (pI i 4) 0)) up_va d_Mo_day_144 ?_
                        refine x_aload_n C d_Mo_day_145 1 rfl rfl ?_
                        refine gf_Mo_now C k_791 d_Mo_day_146 ?_
                        refine x_iload_n C d_Mo_day_149 0 rfl rfl ?_
                        refine x_iconst C d_Mo_day_150 (v := 3) (by decide) ?_
                        refine x_callSi C (c_Mo_personAt Z i 3 (va_up g 0 (upd (enM (g5 (mtO n (wkM (g 0 (4 + dy (g 0) % 6)) (g 0) n) n)) (i)) (pI i 4) 0))) mi_Mo_personAt k_897 (As := [.int (nI i), .int (3)]) ⟨Nat.le_of_ble_eq_true rfl, Nat.le_of_ble_eq_true rfl⟩ rfl rfl (Nat.le_of_ble_eq_true rfl) d_Mo_day_151 ?_
                        refine x_iconst C d_Mo_day_154 (v := 0) (by decide) ?_
                        refine x_aload_n C d_Mo_day_155 1 rfl rfl ?_
                        refine x_iload_n C d_Mo_day_156 0 rfl rfl ?_
                        refine x_iconst C d_Mo_day_157 (v := 3) (by decide) ?_
                        refine x_callVi C (c_Mo_personIs Z i 3 (by omega) (by omega) (va_up g 0 (upd (enM (g5 (mtO n (wkM (g 0 (4 + dy (g 0) % 6)) (g 0) n) n)) (i)) (pI i 4) 0)) _ (Eq.trans (congrFun (va_up_self _ _ _) _) (pk_un (by first | decide | (simp only [pI]; omega))))) mi_Mo_personIs k_919 (show 0 < 12 by omega) (m_0 Z _) rfl (As := [.int (nI i), .int (3)]) ⟨Nat.le_of_ble_eq_true rfl, Nat.le_of_ble_eq_true rfl⟩ rfl rfl (Nat.le_of_ble_eq_true rfl) d_Mo_day_158 ?_
                        refine x_aload_n C d_Mo_day_161 1 rfl rfl ?_
                        refine x_iload_n C d_Mo_day_162 0 rfl rfl ?_
                        refine x_callVi C (c_Mo_tires Z i (by omega) (va_up g 0 (upd (enM (g5 (mtO n (wkM (g 0 (4 + dy (g 0) % 6)) (g 0) n) n)) (i)) (pI i 4) 0)) _ (va_up_self _ _ _)) mi_Mo_tires k_932 (show 0 < 12 by omega) (m_0 Z _) rfl (As := [.int (nI i)]) ⟨Nat.le_of_ble_eq_true rfl, Nat.le_of_ble_eq_true rfl⟩ rfl rfl (Nat.le_of_ble_eq_true rfl) d_Mo_day_163 ?_
                        refine x_isub C d_Mo_day_166 ?_
                        refine x_mx C k_923 (Nat.le_of_ble_eq_true rfl) (Nat.le_of_ble_eq_true rfl) d_Mo_day_167 ?_
                        refine as_m_now C (pI i 3) (v := mx 0 (((enM (g5 (mtO n (wkM (g 0 (4 + dy (g 0) % 6)) (g 0) n) n)) (i)) (pI i 3)) - (trs ((upd (enM (g5 (mtO n (wkM (g 0 (4 + dy (g 0) % 6)) (g 0) n) n)) (i)) (pI i 4) 0) (pI i 0)) ((upd (enM (g5 (mtO n (wkM (g 0 (4 + dy (g 0) % 6)) (g 0) n) n)) (i)) (pI i 4) 0) 0)))) rfl (by first | omega | (simp only [pI]; omega)) (G := va_up g 0 (upd (upd (enM (g5 (mtO n (wkM (g 0 (4 + dy (g 0) % 6)) (g 0) n) n)) (i)) (pI i 4) 0) (pI i 3) (mx 0 (((enM (g5 (mtO n (wkM (g 0 (4 + dy (g 0) % 6)) (g 0) n) n)) (i)) (pI i 3)) - (trs ((upd (enM (g5 (mtO n (wkM (g 0 (4 + dy (g 0) % 6)) (g 0) n) n)) (i)) (pI i 4) 0) (pI i 0)) ((upd (enM (g5 (mtO n (wkM (g 0 (4 + dy (g 0) % 6)) (g 0) n) n)) (i)) (pI i 4) 0) 0)))))) up_va d_Mo_day_170 ?_
                        refine x_iinc C d_Mo_day_171 0 rfl (v := nI (i + 1)) (nI_1 _) (by decide) (lv' := [(2, .int (nI (i + 1))), (0, .ref (Z.2.1 (0)))]) rfl ?_
                        refine x_goto C d_Mo_day_174 106 (by decide) ?_
                        refine x_eqg (g' := va_up g 0 (enM (g5 (mtO n (wkM (g 0 (4 + dy (g 0) % 6)) (g 0) n) n)) (i + 1))) (by simp [enM, endR, upd_at, pI_eq, pI_hd, pI_hd', *]) ?_
                        exact ih_106 (i + 1) (by omega) (by omega)
                refine x_eqg (g' := va_up g 0 (enM (g5 (mtO n (wkM (g 0 (4 + dy (g 0) % 6)) (g 0) n) n)) (0))) rfl ?_
                exact LP_106 (n + 1) 0 (Nat.zero_le _) (by omega)
              refine x_aload_n C d_Mo_day_87 1 rfl rfl ?_
              refine gf_Mo_now C k_791 d_Mo_day_88 ?_
              refine x_iconst C d_Mo_day_91 (v := 3) (by decide) ?_
              refine al_m_now C 3 (v := (mtO n (wkM (g 0 (4 + dy (g 0) % 6)) (g 0) n) (n)) 3) (by decide) (by first | omega | (simp only [pI]; omega)) (congrFun (va_up_self _ _ _) _) d_Mo_day_92 ?_
              refine x_ifle C d_Mo_day_93 104 (by decide) (fun c_5 => ?_) (fun c_5 => ?_)
              · have nc_5 := Int32.not_lt.mpr c_5
                refine x_lv [1] (lv' := [(0, .ref (Z.2.1 (0)))]) rfl ?_
                refine x_eqg (g' := va_up g 0 (g5 (mtO n (wkM (g 0 (4 + dy (g 0) % 6)) (g 0) n) (n)))) (by unfold g5; first | rw [if_pos (by assumption)] | rw [if_neg (by assumption)]) ?_
                exact J_104
              · have nc_5 := Int32.not_le.mp c_5
                refine x_aload_n C d_Mo_day_96 1 rfl rfl ?_
                refine x_iconst C d_Mo_day_97 (v := 3) (by decide) ?_
                refine x_iconst C d_Mo_day_98 (v := 5) (by decide) ?_
                refine x_bipush C d_Mo_day_99 (v := 99) (by decide) ?_
                refine x_callVv C (c_Mo_more Z 3 (by first | omega | (simp only [pI]; omega)) 5 99 (va_up g 0 (mtO n (wkM (g 0 (4 + dy (g 0) % 6)) (g 0) n) (n))) _ (va_up_self _ _ _)) mi_Mo_more k_985 (show 0 < 12 by omega) (m_0 Z _) rfl (As := [.int (3), .int (5), .int (99)]) ⟨Nat.le_of_ble_eq_true rfl, Nat.le_of_ble_eq_true rfl⟩ rfl rfl (Nat.le_of_ble_eq_true rfl) d_Mo_day_101 ?_
                refine x_eqg (g' := va_up g 0 (upd (mtO n (wkM (g 0 (4 + dy (g 0) % 6)) (g 0) n) (n)) 3 (mn 99 ((mtO n (wkM (g 0 (4 + dy (g 0) % 6)) (g 0) n) (n)) 3 + 5)))) (bx_uu _ _ _ _) ?_
                refine x_lv [1] (lv' := [(0, .ref (Z.2.1 (0)))]) rfl ?_
                refine x_eqg (g' := va_up g 0 (g5 (mtO n (wkM (g 0 (4 + dy (g 0) % 6)) (g 0) n) (n)))) (by unfold g5; first | rw [if_pos (by assumption)] | rw [if_neg (by assumption)]) ?_
                exact J_104
            · have nc_2 := Int32.not_le.mp c_2
              have mc_2 : ¬ n ≤ a := fun z_ => (show ¬ nI n ≤ nI a from c_2) ((nI_leI (by omega) (by omega)).mpr z_)
              refine x_iload_n C d_Mo_day_46 0 rfl rfl ?_
              refine x_iconst C d_Mo_day_47 (v := 1) (by decide) ?_
              refine x_iadd C d_Mo_day_48 ?_
              refine x_topi (x' := nI (a + 1 + 0)) (nI_1 a) ?_
              refine x_istore_n C d_Mo_day_49 rfl (by decide) (lv' := [(3, .int (nI (a + 1 + 0))), (2, .int (nI a)), (0, .ref (Z.2.1 (0)))]) rfl ?_
              have LP_50 : ∀ (f_ k : Nat), k ≤ n - (a + 1) → (n - (a + 1)) - k < f_ → WX X 4 yM Z (QX X yM Z (QcV yM Z (va_up g 0 (dayM (g 0))))) (va_up g 0 (mtI a (mtO n (wkM (g 0 (4 + dy (g 0) % 6)) (g 0) n) a) (k))) 50 [(3, .int (nI (a + 1 + k))), (2, .int (nI a)), (0, .ref (Z.2.1 (0)))] [] := by
                intro f_
                induction f_ with
                | zero => intro k h1_ h2_; exact absurd h2_ (Nat.not_lt_zero _)
                | succ f_ ih_50 =>
                  intro k hi_50 hf_50
                  refine x_iload_n C d_Mo_day_50 0 rfl rfl ?_
                  refine x_aload_n C d_Mo_day_51 2 rfl rfl ?_
                  refine gf_Mo_now C k_791 d_Mo_day_52 ?_
                  refine x_iconst C d_Mo_day_55 (v := 1) (by decide) ?_
                  refine al_m_now C 1 (v := nI n) (by decide) (by first | omega | (simp only [pI]; omega)) (Eq.trans (Eq.trans (Eq.trans (Eq.trans (congrFun (va_up_self _ _ _) _) (mtI_hd (by decide))) (mtO_hd (by decide))) (wkM_hd (by decide))) hn) d_Mo_day_56 ?_
                  refine x_icmp_ge C d_Mo_day_57 81 (by decide) (fun c_6 => ?_) (fun c_6 => ?_)
                  · have nc_6 := Int32.not_lt.mpr c_6
                    have mc_6 : n ≤ a + 1 + k := (nI_leI (by omega) (by omega)).mp (show nI n ≤ nI (a + 1 + k) from c_6)
                    have e_k : n - (a + 1) = k := by omega
                    subst e_k
                    refine x_iinc C d_Mo_day_81 1 rfl (v := nI (a + 1)) (nI_1 _) (by decide) (lv' := [(2, .int (nI (a + 1))), (3, .int (nI (a + 1 + (n - (a + 1))))), (0, .ref (Z.2.1 (0)))]) rfl ?_
                    refine x_goto C d_Mo_day_84 36 (by decide) ?_
                    refine x_lv [0, 2] (lv' := [(2, .int (nI (a + 1))), (0, .ref (Z.2.1 (0)))]) rfl ?_
                    refine x_eqg (g' := va_up g 0 (mtO n (wkM (g 0 (4 + dy (g 0) % 6)) (g 0) n) (a + 1))) rfl ?_
                    exact ih_36 (a + 1) (by omega) (by omega)
                  · have nc_6 := Int32.not_le.mp c_6
                    have mc_6 : ¬ n ≤ a + 1 + k := fun z_ => (show ¬ nI n ≤ nI (a + 1 + k) from c_6) ((nI_leI (by omega) (by omega)).mpr z_)
                    refine x_aload_n C d_Mo_day_60 2 rfl rfl ?_
                    refine x_iload_n C d_Mo_day_61 1 rfl rfl ?_
                    refine x_iload_n C d_Mo_day_62 0 rfl rfl ?_
                    refine x_callVi C (c_Mo_wouldMeet Z a (a + 1 + k) (by omega) (by omega) (va_up g 0 (mtI a (mtO n (wkM (g 0 (4 + dy (g 0) % 6)) (g 0) n) a) (k))) _ (va_up_self _ _ _)) mi_Mo_wouldMeet k_951 (show 0 < 12 by omega) (m_0 Z _) rfl (As := [.int (nI a), .int (nI (a + 1 + k))]) ⟨Nat.le_of_ble_eq_true rfl, Nat.le_of_ble_eq_true rfl⟩ rfl rfl (Nat.le_of_ble_eq_true rfl) d_Mo_day_63 ?_
                    refine x_ifeqB C d_Mo_day_66 75 (by decide) (fun c_7 => ?_) (fun c_7 => ?_)
                    · refine x_iinc C d_Mo_day_75 0 rfl (v := nI (a + 1 + k + 1)) (nI_1 _) (by decide) (lv' := [(3, .int (nI (a + 1 + k + 1))), (2, .int (nI a)), (0, .ref (Z.2.1 (0)))]) rfl ?_
                      refine x_goto C d_Mo_day_78 50 (by decide) ?_
                      refine x_lve (lv' := [(3, .int (nI (a + 1 + (k + 1)))), (2, .int (nI a)), (0, .ref (Z.2.1 (0)))]) rfl ?_
                      refine x_eqg (g' := va_up g 0 (mtI a (mtO n (wkM (g 0 (4 + dy (g 0) % 6)) (g 0) n) a) (k + 1))) (by simp [mtI, mt1, *]) ?_
                      exact ih_50 (k + 1) (by omega) (by omega)
                    · refine x_aload_n C d_Mo_day_69 2 rfl rfl ?_
                      refine x_iload_n C d_Mo_day_70 1 rfl rfl ?_
                      refine x_iload_n C d_Mo_day_71 0 rfl rfl ?_
                      refine x_callVv C (c_Mo_meet Z a (a + 1 + k) (by omega) (by omega) (va_up g 0 (mtI a (mtO n (wkM (g 0 (4 + dy (g 0) % 6)) (g 0) n) a) (k))) _ (va_up_self _ _ _)) mi_Mo_meet k_981 (show 0 < 12 by omega) (m_0 Z _) rfl (As := [.int (nI a), .int (nI (a + 1 + k))]) ⟨Nat.le_of_ble_eq_true rfl, Nat.le_of_ble_eq_true rfl⟩ rfl rfl (Nat.le_of_ble_eq_true rfl) d_Mo_day_72 ?_
                      refine x_eqg (g' := va_up g 0 (upd (cmtR (cmtR (mtI a (mtO n (wkM (g 0 (4 + dy (g 0) % 6)) (g 0) n) a) (k)) a) (a + 1 + k)) 3 (mx 0 ((cmtR (cmtR (mtI a (mtO n (wkM (g 0 (4 + dy (g 0) % 6)) (g 0) n) a) (k)) a) (a + 1 + k)) 3 - clm ((cmtR (cmtR (mtI a (mtO n (wkM (g 0 (4 + dy (g 0) % 6)) (g 0) n) a) (k)) a) (a + 1 + k)) (pI a 0)) - clm ((cmtR (cmtR (mtI a (mtO n (wkM (g 0 (4 + dy (g 0) % 6)) (g 0) n) a) (k)) a) (a + 1 + k)) (pI (a + 1 + k) 0)))))) (bx_uu _ _ _ _) ?_
                      refine x_iinc C d_Mo_day_75 0 rfl (v := nI (a + 1 + k + 1)) (nI_1 _) (by decide) (lv' := [(3, .int (nI (a + 1 + k + 1))), (2, .int (nI a)), (0, .ref (Z.2.1 (0)))]) rfl ?_
                      refine x_goto C d_Mo_day_78 50 (by decide) ?_
                      refine x_lve (lv' := [(3, .int (nI (a + 1 + (k + 1)))), (2, .int (nI a)), (0, .ref (Z.2.1 (0)))]) rfl ?_
                      refine x_eqg (g' := va_up g 0 (mtI a (mtO n (wkM (g 0 (4 + dy (g 0) % 6)) (g 0) n) a) (k + 1))) (by simp [mtI, mt1, *]) ?_
                      exact ih_50 (k + 1) (by omega) (by omega)
              refine x_eqg (g' := va_up g 0 (mtI a (mtO n (wkM (g 0 (4 + dy (g 0) % 6)) (g 0) n) a) (0))) rfl ?_
              exact LP_50 (n - (a + 1) + 1) 0 (Nat.zero_le _) (by omega)
        refine x_lv [0, 2] (lv' := [(2, .int (nI 0)), (0, .ref (Z.2.1 (0)))]) rfl ?_
        refine x_eqg (g' := va_up g 0 (mtO n (wkM (g 0 (4 + dy (g 0) % 6)) (g 0) n) (0))) rfl ?_
        exact LP_36 (n + 1) 0 (Nat.zero_le _) (by omega)
      · have nc_1 := Int32.not_le.mp c_1
        have mc_1 : ¬ n ≤ i := fun z_ => (show ¬ nI n ≤ nI i from c_1) ((nI_leI (by omega) (by omega)).mpr z_)
        refine x_aload_n C d_Mo_day_22 2 rfl rfl ?_
        refine x_iload_n C d_Mo_day_23 0 rfl rfl ?_
        refine x_iload_n C d_Mo_day_24 1 rfl rfl ?_
        refine x_callVv C (c_Mo_walks Z i (by omega) (g 0 (4 + dy (g 0) % 6)) (va_up g 0 (wkM (g 0 (4 + dy (g 0) % 6)) (g 0) (i))) _ (va_up_self _ _ _)) mi_Mo_walks k_973 (show 0 < 12 by omega) (m_0 Z _) rfl (As := [.int (nI i), .int (g 0 (4 + dy (g 0) % 6))]) ⟨Nat.le_of_ble_eq_true rfl, Nat.le_of_ble_eq_true rfl⟩ rfl rfl (Nat.le_of_ble_eq_true rfl) d_Mo_day_25 ?_
        refine x_eqg (g' := va_up g 0 (upd (wkM (g 0 (4 + dy (g 0) % 6)) (g 0) (i)) (pI i 2) (wlkM (wkM (g 0 (4 + dy (g 0) % 6)) (g 0) (i)) i (g 0 (4 + dy (g 0) % 6))))) (bx_uu _ _ _ _) ?_
        refine x_iinc C d_Mo_day_28 0 rfl (v := nI (i + 1)) (nI_1 _) (by decide) (lv' := [(2, .int (nI (i + 1))), (1, .int (g 0 (4 + dy (g 0) % 6))), (0, .ref (Z.2.1 (0)))]) rfl ?_
        refine x_goto C d_Mo_day_31 12 (by decide) ?_
        refine x_eqg (g' := va_up g 0 (wkM (g 0 (4 + dy (g 0) % 6)) (g 0) (i + 1))) rfl ?_
        exact ih_12 (i + 1) (by omega) (by omega)
  refine x_eqg (g' := va_up g 0 (wkM (g 0 (4 + dy (g 0) % 6)) (g 0) (0))) (va_id g 0).symm ?_
  exact LP_12 (n + 1) 0 (Nat.zero_le _) (by omega)
