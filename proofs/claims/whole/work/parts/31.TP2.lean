set_option maxRecDepth 100000 in
set_option maxHeartbeats 600000 in
theorem c_TP_hold (Z : ZT) (s p : Int32) (g : St)  (hk : okR (g 0)) : CT yC Z y_TP_hold b_TP_hold 3 (some (.int)) 2 43 [.ref (Z.2.1 (0)), .int (s), .int (p)] (g) (QkI yC Z (if (0 ≤ s ∧ s ≤ 9) ∧ (p = -1 ∨ (0 ≤ p ∧ p < g 0 1)) then 1 else (-1000001)) (fun u => ∃ ρ : Nat → Int32, u = va_up (if (0 ≤ s ∧ s ≤ 9) ∧ (p = -1 ∨ (0 ≤ p ∧ p < g 0 1)) then va_up g 0 (upd (g 0) (10 + s.toNatClampNeg) p) else va_up g 16 (fndR (g 16) 0)) 1 ρ)) := by
  refine CT.mk "TunnelPeace" (by decide) rfl (Nat.le_of_ble_eq_true rfl) (fun X C => ?_)
  refine x_lv [0, 1, 2] (lv' := [(0, .ref (Z.2.1 (0))), (1, .int (s)), (2, .int (p))]) rfl ?_
  have hk0 := hk
  obtain ⟨⟨n, hn8, hn⟩, dd, hdd, hd⟩ := hk
  refine x_iload_n C d_TP_hold_0 1 rfl rfl ?_
  refine x_bipush C d_TP_hold_1 (v := 9) (by decide) ?_
  refine x_callSi C (c_TP_within Z s 9 (g)) mi_TP_within k_194 (As := [.int (s), .int (9)]) ⟨Nat.le_of_ble_eq_true rfl, Nat.le_of_ble_eq_true rfl⟩ rfl rfl (Nat.le_of_ble_eq_true rfl) d_TP_hold_3 ?_
  refine x_ifeqB C d_TP_hold_6 25 (by decide) (fun c_1 => ?_) (fun c_1 => ?_)
  · refine x_aload_n C d_TP_hold_25 0 rfl rfl ?_
    refine x_ldc C d_TP_hold_26 k_197 ?_
    refine x_callVi C (c_TP_found_0 Z (g) _ rfl) mi_TP_found k_198 (show 0 < 50 by omega) (e_TP Z _) rfl (As := [.int ((-1000001))]) ⟨Nat.le_of_ble_eq_true rfl, Nat.le_of_ble_eq_true rfl⟩ rfl rfl (Nat.le_of_ble_eq_true rfl) d_TP_hold_28 ?_
    exact x_iretK C (by first | with_reducible rfl | (simp [*]; done) | (simp_all; done)) (kfin (G' := va_up g 16 (fndR (g 16) 0)) (by first | with_reducible rfl | (simp [*]; done) | (simp_all; done)) (va_idn (by omega)).symm) d_TP_hold_31
  · obtain ⟨sq, hsq, rfl⟩ := in_le (n := 9) c_1 (by decide)
    have hcs : (nI sq).toNatClampNeg = sq := nI_clamp (by omega)
    refine x_iload_n C d_TP_hold_9 2 rfl rfl ?_
    refine x_iconst C d_TP_hold_10 (v := -1) (by decide) ?_
    refine x_icmp_eq C d_TP_hold_11 32 (by decide) (fun c_2 => ?_) (fun c_2 => ?_)
    · refine x_aload_n C d_TP_hold_32 0 rfl rfl ?_
      refine gf_TP_tunnel C k_165 d_TP_hold_33 ?_
      refine gf_Tu_spots C (by omega) k_87 d_TP_hold_36 ?_
      refine x_iload_n C d_TP_hold_39 1 rfl rfl ?_
      refine x_iload_n C d_TP_hold_40 2 rfl rfl ?_
      refine as_sp C (by omega) sq (v := p) rfl (by omega) (G := va_up g 0 (upd (g 0) (10 + sq) p)) rfl d_TP_hold_41 ?_
      refine x_iconst C d_TP_hold_42 (v := 1) (by decide) ?_
      exact x_iretK C (by first | with_reducible rfl | (simp [*]; done) | (simp_all; done)) (kfin (G' := va_up g 0 (upd (g 0) (10 + sq) p)) (by first | with_reducible rfl | (simp [*]; done) | (simp_all; done)) (va_idn (by omega)).symm) d_TP_hold_43
    · have nc_2 := Ne.symm c_2
      refine x_aload_n C d_TP_hold_14 0 rfl rfl ?_
      refine gf_TP_tunnel C k_165 d_TP_hold_15 ?_
      refine x_iload_n C d_TP_hold_18 2 rfl rfl ?_
      refine x_callVi C (c_Tu_has Z 0 (by omega) p (g) _ hn) mi_Tu_has k_235 (show 14 + 12 * 0 < 50 by omega) (e_Tu Z 0 _) rfl (As := [.int (p)]) ⟨Nat.le_of_ble_eq_true rfl, Nat.le_of_ble_eq_true rfl⟩ rfl rfl (Nat.le_of_ble_eq_true rfl) d_TP_hold_19 ?_
      refine x_ifneB C d_TP_hold_22 32 (by decide) (fun c_3 => ?_) (fun c_3 => ?_)
      · refine x_aload_n C d_TP_hold_32 0 rfl rfl ?_
        refine gf_TP_tunnel C k_165 d_TP_hold_33 ?_
        refine gf_Tu_spots C (by omega) k_87 d_TP_hold_36 ?_
        refine x_iload_n C d_TP_hold_39 1 rfl rfl ?_
        refine x_iload_n C d_TP_hold_40 2 rfl rfl ?_
        refine as_sp C (by omega) sq (v := p) rfl (by omega) (G := va_up g 0 (upd (g 0) (10 + sq) p)) rfl d_TP_hold_41 ?_
        refine x_iconst C d_TP_hold_42 (v := 1) (by decide) ?_
        exact x_iretK C (by first | with_reducible rfl | (simp [*]; done) | (simp_all; done)) (kfin (G' := va_up g 0 (upd (g 0) (10 + sq) p)) (by first | with_reducible rfl | (simp [*]; done) | (simp_all; done)) (va_idn (by omega)).symm) d_TP_hold_43
      · refine x_aload_n C d_TP_hold_25 0 rfl rfl ?_
        refine x_ldc C d_TP_hold_26 k_197 ?_
        refine x_callVi C (c_TP_found_0 Z (g) _ rfl) mi_TP_found k_198 (show 0 < 50 by omega) (e_TP Z _) rfl (As := [.int ((-1000001))]) ⟨Nat.le_of_ble_eq_true rfl, Nat.le_of_ble_eq_true rfl⟩ rfl rfl (Nat.le_of_ble_eq_true rfl) d_TP_hold_28 ?_
        exact x_iretK C (by first | with_reducible rfl | (simp [*]; done) | (simp_all; done)) (kfin (G' := va_up g 16 (fndR (g 16) 0)) (by first | with_reducible rfl | (simp [*]; done) | (simp_all; done)) (va_idn (by omega)).symm) d_TP_hold_31

set_option maxRecDepth 100000 in
set_option maxHeartbeats 600000 in
theorem c_TP_as (Z : ZT) (s k : Int32) (g : St)  (hk : okR (g 0)) (hkd : ∀ i, i < sz (g 0) → ∃ k, k < 7 ∧ g 0 (pI i 0) = nI k) : CT yC Z y_TP_as b_TP_as 4 (some (.int)) 2 44 [.ref (Z.2.1 (0)), .int (s), .int (k)] (g) (QkI yC Z (if ¬ ((0 ≤ s ∧ s ≤ 9) ∧ (0 ≤ k ∧ k ≤ 6)) then (-1000001) else if ¬ (0 ≤ g 0 (10 + s.toNatClampNeg) ∧ g 0 (10 + s.toNatClampNeg) < g 0 1) then (-1000006) else if isU (g 0 (pI (g 0 (10 + s.toNatClampNeg)).toNatClampNeg 0)) k = true then g 0 (10 + s.toNatClampNeg) else (-1000003)) (fun u => ∃ ρ : Nat → Int32, u = va_up (if ¬ ((0 ≤ s ∧ s ≤ 9) ∧ (0 ≤ k ∧ k ≤ 6)) then va_up g 16 (fndR (g 16) 0) else if ¬ (0 ≤ g 0 (10 + s.toNatClampNeg) ∧ g 0 (10 + s.toNatClampNeg) < g 0 1) then va_up g 16 (fndR (g 16) 5) else if isU (g 0 (pI (g 0 (10 + s.toNatClampNeg)).toNatClampNeg 0)) k = true then g else va_up g 16 (fndR (g 16) 2)) 1 ρ)) := by
  refine CT.mk "TunnelPeace" (by decide) rfl (Nat.le_of_ble_eq_true rfl) (fun X C => ?_)
  refine x_lv [0, 1, 2] (lv' := [(0, .ref (Z.2.1 (0))), (1, .int (s)), (2, .int (k))]) rfl ?_
  have hk0 := hk
  obtain ⟨⟨n, hn8, hn⟩, dd, hdd, hd⟩ := hk
  refine x_iload_n C d_TP_as_0 1 rfl rfl ?_
  refine x_bipush C d_TP_as_1 (v := 9) (by decide) ?_
  refine x_callSi C (c_TP_within Z s 9 (g)) mi_TP_within k_194 (As := [.int (s), .int (9)]) ⟨Nat.le_of_ble_eq_true rfl, Nat.le_of_ble_eq_true rfl⟩ rfl rfl (Nat.le_of_ble_eq_true rfl) d_TP_as_3 ?_
  refine x_ifeqB C d_TP_as_6 18 (by decide) (fun c_1 => ?_) (fun c_1 => ?_)
  · refine x_aload_n C d_TP_as_18 0 rfl rfl ?_
    refine x_ldc C d_TP_as_19 k_197 ?_
    refine x_callVi C (c_TP_found_0 Z (g) _ rfl) mi_TP_found k_198 (show 0 < 50 by omega) (e_TP Z _) rfl (As := [.int ((-1000001))]) ⟨Nat.le_of_ble_eq_true rfl, Nat.le_of_ble_eq_true rfl⟩ rfl rfl (Nat.le_of_ble_eq_true rfl) d_TP_as_21 ?_
    exact x_iretK C (by first | with_reducible rfl | (simp [*]; done) | (simp_all; done)) (kfin (G' := va_up g 16 (fndR (g 16) 0)) (by first | with_reducible rfl | (simp [*]; done) | (simp_all; done)) (va_idn (by omega)).symm) d_TP_as_24
  · obtain ⟨sq, hsq, rfl⟩ := in_le (n := 9) c_1 (by decide)
    have hcs : (nI sq).toNatClampNeg = sq := nI_clamp (by omega)
    refine x_iload_n C d_TP_as_9 2 rfl rfl ?_
    refine x_bipush C d_TP_as_10 (v := 6) (by decide) ?_
    refine x_callSi C (c_TP_within Z k 6 (g)) mi_TP_within k_194 (As := [.int (k), .int (6)]) ⟨Nat.le_of_ble_eq_true rfl, Nat.le_of_ble_eq_true rfl⟩ rfl rfl (Nat.le_of_ble_eq_true rfl) d_TP_as_12 ?_
    refine x_ifneB C d_TP_as_15 25 (by decide) (fun c_2 => ?_) (fun c_2 => ?_)
    · refine x_aload_n C d_TP_as_25 0 rfl rfl ?_
      refine gf_TP_tunnel C k_165 d_TP_as_26 ?_
      refine gf_Tu_spots C (by omega) k_87 d_TP_as_29 ?_
      refine x_iload_n C d_TP_as_32 1 rfl rfl ?_
      refine al_sp C (by omega) sq (v := g 0 (10 + sq)) rfl (by omega) rfl d_TP_as_33 ?_
      refine x_istore_n C d_TP_as_34 rfl (by decide) (lv' := [(3, .int (g 0 (10 + sq))), (0, .ref (Z.2.1 (0))), (1, .int (nI sq)), (2, .int (k))]) rfl ?_
      refine x_aload_n C d_TP_as_35 1 rfl rfl ?_
      refine gf_TP_tunnel C k_165 d_TP_as_36 ?_
      refine x_iload_n C d_TP_as_39 0 rfl rfl ?_
      refine x_callVi C (c_Tu_has Z 0 (by omega) (g 0 (10 + sq)) (g) _ hn) mi_Tu_has k_235 (show 14 + 12 * 0 < 50 by omega) (e_Tu Z 0 _) rfl (As := [.int (g 0 (10 + sq))]) ⟨Nat.le_of_ble_eq_true rfl, Nat.le_of_ble_eq_true rfl⟩ rfl rfl (Nat.le_of_ble_eq_true rfl) d_TP_as_40 ?_
      refine x_ifneB C d_TP_as_43 53 (by decide) (fun c_3 => ?_) (fun c_3 => ?_)
      · obtain ⟨hq, hhq, eh⟩ := in_of (by assumption) (by omega)
        have hch : (nI hq).toNatClampNeg = hq := nI_clamp (by omega)
        obtain ⟨kk, hkk7, hkk⟩ := hkd hq (by rw [sz_of hn hn8]; omega)
        refine x_lve (lv' := [(3, .int (nI hq)), (0, .ref (Z.2.1 (0))), (1, .int (nI sq)), (2, .int (k))]) (by rw [eh]) ?_
        refine x_aload_n C d_TP_as_53 1 rfl rfl ?_
        refine gf_TP_tunnel C k_165 d_TP_as_54 ?_
        refine gf_Tu_people C (by omega) k_85 d_TP_as_57 ?_
        refine x_iload_n C d_TP_as_60 0 rfl rfl ?_
        refine al_pp C (by omega) hq rfl (by omega) d_TP_as_61 ?_
        refine x_iload_n C d_TP_as_62 3 rfl rfl ?_
        refine x_callVi C (c_Pe_isA Z 0 hq (by omega) (by omega) k kk (by omega) (g) _ rfl hkk) mi_Pe_isA k_694 (show 18 + 12 * 0 + hq < 50 by omega) (e_Pe Z 0 (by omega) _) rfl (As := [.int (k)]) ⟨Nat.le_of_ble_eq_true rfl, Nat.le_of_ble_eq_true rfl⟩ rfl rfl (Nat.le_of_ble_eq_true rfl) d_TP_as_63 ?_
        refine x_ifeqB C d_TP_as_66 73 (by decide) (fun c_4 => ?_) (fun c_4 => ?_)
        · refine x_aload_n C d_TP_as_73 1 rfl rfl ?_
          refine x_ldc C d_TP_as_74 k_701 ?_
          refine x_callVi C (c_TP_found_2 Z (g) _ rfl) mi_TP_found k_198 (show 0 < 50 by omega) (e_TP Z _) rfl (As := [.int ((-1000003))]) ⟨Nat.le_of_ble_eq_true rfl, Nat.le_of_ble_eq_true rfl⟩ rfl rfl (Nat.le_of_ble_eq_true rfl) d_TP_as_76 ?_
          exact x_iretK C (by first | with_reducible rfl | (simp [*]; done) | (simp_all; done)) (kfin (G' := va_up g 16 (fndR (g 16) 2)) (by first | with_reducible rfl | (simp [*]; done) | (simp_all; done)) (va_idn (by omega)).symm) d_TP_as_79
        · refine x_iload_n C d_TP_as_69 0 rfl rfl ?_
          refine x_goto C d_TP_as_70 79 (by decide) ?_
          exact x_iretK C (by first | with_reducible rfl | (simp [*]; done) | (simp_all; done)) (kfin (G' := g) (by first | with_reducible rfl | (simp [*]; done) | (simp_all; done)) (va_id g 1).symm) d_TP_as_79
      · refine x_aload_n C d_TP_as_46 1 rfl rfl ?_
        refine x_ldc C d_TP_as_47 k_505 ?_
        refine x_callVi C (c_TP_found_5 Z (g) _ rfl) mi_TP_found k_198 (show 0 < 50 by omega) (e_TP Z _) rfl (As := [.int ((-1000006))]) ⟨Nat.le_of_ble_eq_true rfl, Nat.le_of_ble_eq_true rfl⟩ rfl rfl (Nat.le_of_ble_eq_true rfl) d_TP_as_49 ?_
        exact x_iretK C (by first | with_reducible rfl | (simp [*]; done) | (simp_all; done)) (kfin (G' := va_up g 16 (fndR (g 16) 5)) (by first | with_reducible rfl | (simp [*]; done) | (simp_all; done)) (va_idn (by omega)).symm) d_TP_as_52
    · refine x_aload_n C d_TP_as_18 0 rfl rfl ?_
      refine x_ldc C d_TP_as_19 k_197 ?_
      refine x_callVi C (c_TP_found_0 Z (g) _ rfl) mi_TP_found k_198 (show 0 < 50 by omega) (e_TP Z _) rfl (As := [.int ((-1000001))]) ⟨Nat.le_of_ble_eq_true rfl, Nat.le_of_ble_eq_true rfl⟩ rfl rfl (Nat.le_of_ble_eq_true rfl) d_TP_as_21 ?_
      exact x_iretK C (by first | with_reducible rfl | (simp [*]; done) | (simp_all; done)) (kfin (G' := va_up g 16 (fndR (g 16) 0)) (by first | with_reducible rfl | (simp [*]; done) | (simp_all; done)) (va_idn (by omega)).symm) d_TP_as_24

set_option maxRecDepth 100000 in
set_option maxHeartbeats 600000 in
theorem c_TP_sheetFinding_a (Z : ZT) (s : Int32) (h1 : ¬ (0 ≤ s ∧ s ≤ 3)) (g : St)  : CT yC Z y_TP_sheetFinding b_TP_sheetFinding 2 (some (.int)) 1 21 [.ref (Z.2.1 (0)), .int (s)] (g) (QcI yC Z ((-1000001)) (g)) := by
  refine CT.mk "TunnelPeace" (by decide) rfl (Nat.le_of_ble_eq_true rfl) (fun X C => ?_)
  refine x_lv [0, 1] (lv' := [(0, .ref (Z.2.1 (0))), (1, .int (s))]) rfl ?_
  refine x_iload_n C d_TP_sheetFinding_0 1 rfl rfl ?_
  refine x_iconst C d_TP_sheetFinding_1 (v := 3) (by decide) ?_
  refine x_callSi C (c_TP_within Z s 3 (g)) mi_TP_within k_194 (As := [.int (s), .int (3)]) ⟨Nat.le_of_ble_eq_true rfl, Nat.le_of_ble_eq_true rfl⟩ rfl rfl (Nat.le_of_ble_eq_true rfl) d_TP_sheetFinding_2 ?_
  refine x_ifneB C d_TP_sheetFinding_5 11 (by decide) (fun c_1 => ?_) (fun c_1 => ?_)
  · exact absurd c_1 h1
  · refine x_ldc C d_TP_sheetFinding_8 k_197 ?_
    exact x_iret C rfl rfl d_TP_sheetFinding_10

set_option maxRecDepth 100000 in
set_option maxHeartbeats 600000 in
theorem c_TP_sheetFinding_b (Z : ZT) (s : Nat) (hs : s < 4) (g : St)  (h2 : g (8 + s) 0 = 0) : CT yC Z y_TP_sheetFinding b_TP_sheetFinding 2 (some (.int)) 1 21 [.ref (Z.2.1 (0)), .int (nI s)] (g) (QcI yC Z ((-1000006)) (g)) := by
  refine CT.mk "TunnelPeace" (by decide) rfl (Nat.le_of_ble_eq_true rfl) (fun X C => ?_)
  refine x_lv [0, 1] (lv' := [(0, .ref (Z.2.1 (0))), (1, .int (nI s))]) rfl ?_
  refine x_iload_n C d_TP_sheetFinding_0 1 rfl rfl ?_
  refine x_iconst C d_TP_sheetFinding_1 (v := 3) (by decide) ?_
  refine x_callSi C (c_TP_within Z (nI s) 3 (g)) mi_TP_within k_194 (As := [.int (nI s), .int (3)]) ⟨Nat.le_of_ble_eq_true rfl, Nat.le_of_ble_eq_true rfl⟩ rfl rfl (Nat.le_of_ble_eq_true rfl) d_TP_sheetFinding_2 ?_
  refine x_ifneB C d_TP_sheetFinding_5 11 (by decide) (fun c_1 => ?_) (fun c_1 => ?_)
  · refine x_aload_n C d_TP_sheetFinding_11 0 rfl rfl ?_
    refine gf_TP_sheets C k_171 d_TP_sheetFinding_12 ?_
    refine x_iload_n C d_TP_sheetFinding_15 1 rfl rfl ?_
    refine al_ss C s rfl (by omega) d_TP_sheetFinding_16 ?_
    refine x_callVi C (c_Sh_isMissing Z s (by omega) (g)) mi_Sh_isMissing k_501 (show 5 + s < 50 by omega) (e_Sh Z (by omega) _) rfl (As := []) ⟨Nat.le_of_ble_eq_true rfl, Nat.le_of_ble_eq_true rfl⟩ rfl rfl (Nat.le_of_ble_eq_true rfl) d_TP_sheetFinding_17 ?_
    refine x_ifeqB C d_TP_sheetFinding_20 28 (by decide) (fun c_2 => ?_) (fun c_2 => ?_)
    · exact absurd h2 c_2
    · refine x_ldc C d_TP_sheetFinding_23 k_505 ?_
      refine x_goto C d_TP_sheetFinding_25 29 (by decide) ?_
      exact x_iret C rfl rfl d_TP_sheetFinding_29
  · exact absurd (show 0 ≤ nI s ∧ nI s ≤ 3 from ⟨nI_pos' (by omega), nI_le (b := 3) (by omega) (by decide)⟩) c_1

set_option maxRecDepth 100000 in
set_option maxHeartbeats 600000 in
theorem c_TP_sheetFinding_c (Z : ZT) (s : Nat) (hs : s < 4) (g : St)  (h2 : ¬ g (8 + s) 0 = 0) : CT yC Z y_TP_sheetFinding b_TP_sheetFinding 2 (some (.int)) 1 21 [.ref (Z.2.1 (0)), .int (nI s)] (g) (QcI yC Z (0) (g)) := by
  refine CT.mk "TunnelPeace" (by decide) rfl (Nat.le_of_ble_eq_true rfl) (fun X C => ?_)
  refine x_lv [0, 1] (lv' := [(0, .ref (Z.2.1 (0))), (1, .int (nI s))]) rfl ?_
  refine x_iload_n C d_TP_sheetFinding_0 1 rfl rfl ?_
  refine x_iconst C d_TP_sheetFinding_1 (v := 3) (by decide) ?_
  refine x_callSi C (c_TP_within Z (nI s) 3 (g)) mi_TP_within k_194 (As := [.int (nI s), .int (3)]) ⟨Nat.le_of_ble_eq_true rfl, Nat.le_of_ble_eq_true rfl⟩ rfl rfl (Nat.le_of_ble_eq_true rfl) d_TP_sheetFinding_2 ?_
  refine x_ifneB C d_TP_sheetFinding_5 11 (by decide) (fun c_1 => ?_) (fun c_1 => ?_)
  · refine x_aload_n C d_TP_sheetFinding_11 0 rfl rfl ?_
    refine gf_TP_sheets C k_171 d_TP_sheetFinding_12 ?_
    refine x_iload_n C d_TP_sheetFinding_15 1 rfl rfl ?_
    refine al_ss C s rfl (by omega) d_TP_sheetFinding_16 ?_
    refine x_callVi C (c_Sh_isMissing Z s (by omega) (g)) mi_Sh_isMissing k_501 (show 5 + s < 50 by omega) (e_Sh Z (by omega) _) rfl (As := []) ⟨Nat.le_of_ble_eq_true rfl, Nat.le_of_ble_eq_true rfl⟩ rfl rfl (Nat.le_of_ble_eq_true rfl) d_TP_sheetFinding_17 ?_
    refine x_ifeqB C d_TP_sheetFinding_20 28 (by decide) (fun c_2 => ?_) (fun c_2 => ?_)
    · refine x_iconst C d_TP_sheetFinding_28 (v := 0) (by decide) ?_
      exact x_iret C rfl rfl d_TP_sheetFinding_29
    · exact absurd c_2 h2
  · exact absurd (show 0 ≤ nI s ∧ nI s ≤ 3 from ⟨nI_pos' (by omega), nI_le (b := 3) (by omega) (by decide)⟩) c_1

set_option maxRecDepth 100000 in
set_option maxHeartbeats 600000 in
theorem c_TP_toldFinding_a (Z : ZT) (s p : Int32) (h1 : ¬ (0 ≤ s ∧ s ≤ 3)) (g : St)  : CT yC Z y_TP_toldFinding b_TP_toldFinding 4 (some (.int)) 2 42 [.ref (Z.2.1 (0)), .int (s), .int (p)] (g) (QcI yC Z ((-1000001)) (g)) := by
  refine CT.mk "TunnelPeace" (by decide) rfl (Nat.le_of_ble_eq_true rfl) (fun X C => ?_)
  refine x_lv [0, 1, 2] (lv' := [(0, .ref (Z.2.1 (0))), (1, .int (s)), (2, .int (p))]) rfl ?_
  refine x_aload_n C d_TP_toldFinding_0 0 rfl rfl ?_
  refine x_iload_n C d_TP_toldFinding_1 1 rfl rfl ?_
  refine x_callVi C (c_TP_sheetFinding_a Z s (by assumption) (g)) mi_TP_sheetFinding k_497 (show 0 < 50 by omega) (e_TP Z _) rfl (As := [.int (s)]) ⟨Nat.le_of_ble_eq_true rfl, Nat.le_of_ble_eq_true rfl⟩ rfl rfl (Nat.le_of_ble_eq_true rfl) d_TP_toldFinding_2 ?_
  refine x_istore_n C d_TP_toldFinding_5 rfl (by decide) (lv' := [(3, .int ((-1000001))), (0, .ref (Z.2.1 (0))), (1, .int (s)), (2, .int (p))]) rfl ?_
  refine x_iload_n C d_TP_toldFinding_6 0 rfl rfl ?_
  refine x_ifge C d_TP_toldFinding_7 12 (by decide) (fun c_1 => ?_) (fun c_1 => ?_)
  · exact absurd c_1 (by decide)
  · have nc_1 := Int32.not_le.mp c_1
    refine x_iload_n C d_TP_toldFinding_10 0 rfl rfl ?_
    exact x_iret C rfl rfl d_TP_toldFinding_11

set_option maxRecDepth 100000 in
set_option maxHeartbeats 600000 in
theorem c_TP_toldFinding_b (Z : ZT) (s : Nat) (hs : s < 4) (p : Int32) (g : St)  (h2 : g (8 + s) 0 = 0) : CT yC Z y_TP_toldFinding b_TP_toldFinding 4 (some (.int)) 2 42 [.ref (Z.2.1 (0)), .int (nI s), .int (p)] (g) (QcI yC Z ((-1000006)) (g)) := by
  refine CT.mk "TunnelPeace" (by decide) rfl (Nat.le_of_ble_eq_true rfl) (fun X C => ?_)
  refine x_lv [0, 1, 2] (lv' := [(0, .ref (Z.2.1 (0))), (1, .int (nI s)), (2, .int (p))]) rfl ?_
  refine x_aload_n C d_TP_toldFinding_0 0 rfl rfl ?_
  refine x_iload_n C d_TP_toldFinding_1 1 rfl rfl ?_
  refine x_callVi C (c_TP_sheetFinding_b Z s (by omega) (g) (by assumption)) mi_TP_sheetFinding k_497 (show 0 < 50 by omega) (e_TP Z _) rfl (As := [.int (nI s)]) ⟨Nat.le_of_ble_eq_true rfl, Nat.le_of_ble_eq_true rfl⟩ rfl rfl (Nat.le_of_ble_eq_true rfl) d_TP_toldFinding_2 ?_
  refine x_istore_n C d_TP_toldFinding_5 rfl (by decide) (lv' := [(3, .int ((-1000006))), (0, .ref (Z.2.1 (0))), (1, .int (nI s)), (2, .int (p))]) rfl ?_
  refine x_iload_n C d_TP_toldFinding_6 0 rfl rfl ?_
  refine x_ifge C d_TP_toldFinding_7 12 (by decide) (fun c_1 => ?_) (fun c_1 => ?_)
  · exact absurd c_1 (by decide)
  · have nc_1 := Int32.not_le.mp c_1
    refine x_iload_n C d_TP_toldFinding_10 0 rfl rfl ?_
    exact x_iret C rfl rfl d_TP_toldFinding_11

set_option maxRecDepth 100000 in
set_option maxHeartbeats 600000 in
theorem c_TP_toldFinding_c (Z : ZT) (s : Nat) (hs : s < 4) (p : Int32) (g : St)  (h2 : ¬ g (8 + s) 0 = 0) (h3 : 0 ≤ p ∧ p < g 0 1) : CT yC Z y_TP_toldFinding b_TP_toldFinding 4 (some (.int)) 2 42 [.ref (Z.2.1 (0)), .int (nI s), .int (p)] (g) (QcI yC Z (0) (g)) := by
  refine CT.mk "TunnelPeace" (by decide) rfl (Nat.le_of_ble_eq_true rfl) (fun X C => ?_)
  refine x_lv [0, 1, 2] (lv' := [(0, .ref (Z.2.1 (0))), (1, .int (nI s)), (2, .int (p))]) rfl ?_
  refine x_aload_n C d_TP_toldFinding_0 0 rfl rfl ?_
  refine x_iload_n C d_TP_toldFinding_1 1 rfl rfl ?_
  refine x_callVi C (c_TP_sheetFinding_c Z s (by omega) (g) (by assumption)) mi_TP_sheetFinding k_497 (show 0 < 50 by omega) (e_TP Z _) rfl (As := [.int (nI s)]) ⟨Nat.le_of_ble_eq_true rfl, Nat.le_of_ble_eq_true rfl⟩ rfl rfl (Nat.le_of_ble_eq_true rfl) d_TP_toldFinding_2 ?_
  refine x_istore_n C d_TP_toldFinding_5 rfl (by decide) (lv' := [(3, .int (0)), (0, .ref (Z.2.1 (0))), (1, .int (nI s)), (2, .int (p))]) rfl ?_
  refine x_iload_n C d_TP_toldFinding_6 0 rfl rfl ?_
  refine x_ifge C d_TP_toldFinding_7 12 (by decide) (fun c_1 => ?_) (fun c_1 => ?_)
  · have nc_1 := Int32.not_lt.mpr c_1
    refine x_aload_n C d_TP_toldFinding_12 1 rfl rfl ?_
    refine gf_TP_tunnel C k_165 d_TP_toldFinding_13 ?_
    refine x_iload_n C d_TP_toldFinding_16 3 rfl rfl ?_
    refine x_callVi C (c_Tu_has Z 0 (by omega) p (g) _ rfl) mi_Tu_has k_235 (show 14 + 12 * 0 < 50 by omega) (e_Tu Z 0 _) rfl (As := [.int (p)]) ⟨Nat.le_of_ble_eq_true rfl, Nat.le_of_ble_eq_true rfl⟩ rfl rfl (Nat.le_of_ble_eq_true rfl) d_TP_toldFinding_17 ?_
    refine x_ifeqB C d_TP_toldFinding_20 27 (by decide) (fun c_2 => ?_) (fun c_2 => ?_)
    · exact absurd h3 c_2
    · refine x_iconst C d_TP_toldFinding_23 (v := 0) (by decide) ?_
      refine x_goto C d_TP_toldFinding_24 29 (by decide) ?_
      exact x_iret C rfl rfl d_TP_toldFinding_29
  · exact absurd c_1 (by decide)

set_option maxRecDepth 100000 in
set_option maxHeartbeats 600000 in
theorem c_TP_toldFinding_d (Z : ZT) (s : Nat) (hs : s < 4) (p : Int32) (g : St)  (h2 : ¬ g (8 + s) 0 = 0) (h3 : ¬ (0 ≤ p ∧ p < g 0 1)) : CT yC Z y_TP_toldFinding b_TP_toldFinding 4 (some (.int)) 2 42 [.ref (Z.2.1 (0)), .int (nI s), .int (p)] (g) (QcI yC Z ((-1000001)) (g)) := by
  refine CT.mk "TunnelPeace" (by decide) rfl (Nat.le_of_ble_eq_true rfl) (fun X C => ?_)
  refine x_lv [0, 1, 2] (lv' := [(0, .ref (Z.2.1 (0))), (1, .int (nI s)), (2, .int (p))]) rfl ?_
  refine x_aload_n C d_TP_toldFinding_0 0 rfl rfl ?_
  refine x_iload_n C d_TP_toldFinding_1 1 rfl rfl ?_
  refine x_callVi C (c_TP_sheetFinding_c Z s (by omega) (g) (by assumption)) mi_TP_sheetFinding k_497 (show 0 < 50 by omega) (e_TP Z _) rfl (As := [.int (nI s)]) ⟨Nat.le_of_ble_eq_true rfl, Nat.le_of_ble_eq_true rfl⟩ rfl rfl (Nat.le_of_ble_eq_true rfl) d_TP_toldFinding_2 ?_
  refine x_istore_n C d_TP_toldFinding_5 rfl (by decide) (lv' := [(3, .int (0)), (0, .ref (Z.2.1 (0))), (1, .int (nI s)), (2, .int (p))]) rfl ?_
  refine x_iload_n C d_TP_toldFinding_6 0 rfl rfl ?_
  refine x_ifge C d_TP_toldFinding_7 12 (by decide) (fun c_1 => ?_) (fun c_1 => ?_)
  · have nc_1 := Int32.not_lt.mpr c_1
    refine x_aload_n C d_TP_toldFinding_12 1 rfl rfl ?_
    refine gf_TP_tunnel C k_165 d_TP_toldFinding_13 ?_
    refine x_iload_n C d_TP_toldFinding_16 3 rfl rfl ?_
    refine x_callVi C (c_Tu_has Z 0 (by omega) p (g) _ rfl) mi_Tu_has k_235 (show 14 + 12 * 0 < 50 by omega) (e_Tu Z 0 _) rfl (As := [.int (p)]) ⟨Nat.le_of_ble_eq_true rfl, Nat.le_of_ble_eq_true rfl⟩ rfl rfl (Nat.le_of_ble_eq_true rfl) d_TP_toldFinding_17 ?_
    refine x_ifeqB C d_TP_toldFinding_20 27 (by decide) (fun c_2 => ?_) (fun c_2 => ?_)
    · refine x_ldc C d_TP_toldFinding_27 k_197 ?_
      exact x_iret C rfl rfl d_TP_toldFinding_29
    · exact absurd c_2 h3
  · exact absurd c_1 (by decide)

set_option maxRecDepth 100000 in
set_option maxHeartbeats 600000 in
theorem c_TP_fits (Z : ZT) (s p : Int32) (g : St)  (hk : okR (g 0)) (hS : ∀ s, s < 4 → ∃ L, L ≤ 40 ∧ g (8 + s) 1 = nI L) : CT yC Z y_TP_fits b_TP_fits 4 (some (.int)) 6 143 [.ref (Z.2.1 (0)), .int (s), .int (p)] (g) (QkI yC Z (if ¬ (0 ≤ s ∧ s ≤ 3) then (-1000001) else if g (8 + s.toNatClampNeg) 0 = 0 then (-1000006) else if ¬ (0 ≤ p ∧ p < g 0 1) then (-1000001) else vatN (fun v_ => gatN (g (12 + s.toNatClampNeg)) (upd (g 0) (pI p.toNatClampNeg 2) (nI v_)) p.toNatClampNeg (g (8 + s.toNatClampNeg) 1).toNatClampNeg) 16) (fun u => ∃ ρ : Nat → Int32, u = va_up (if ¬ (0 ≤ s ∧ s ≤ 3) then va_up g 16 (fndR (g 16) 0) else if g (8 + s.toNatClampNeg) 0 = 0 then va_up g 16 (fndR (g 16) 5) else if ¬ (0 ≤ p ∧ p < g 0 1) then va_up g 16 (fndR (g 16) 0) else g) 1 ρ)) := by
  refine CT.mk "TunnelPeace" (by decide) rfl (Nat.le_of_ble_eq_true rfl) (fun X C => ?_)
  refine x_lv [0, 1, 2] (lv' := [(0, .ref (Z.2.1 (0))), (1, .int (s)), (2, .int (p))]) rfl ?_
  have hk0 := hk
  obtain ⟨⟨n, hn8, hn⟩, dd, hdd, hd⟩ := hk
  by_cases t_1 : 0 ≤ s ∧ s ≤ 3
  · obtain ⟨sq, hsq, rfl⟩ := in_le (n := 3) t_1 (by decide)
    have hcs : (nI sq).toNatClampNeg = sq := nI_clamp (by omega)
    obtain ⟨L, hL4, hL⟩ := hS sq (by omega)
    by_cases t_2 : g (8 + sq) 0 = 0
    · skip
      refine x_aload_n C d_TP_fits_0 0 rfl rfl ?_
      refine x_iload_n C d_TP_fits_1 1 rfl rfl ?_
      refine x_iload_n C d_TP_fits_2 2 rfl rfl ?_
      refine x_callVi C (c_TP_toldFinding_b Z sq (by omega) p (g) (by assumption)) mi_TP_toldFinding k_493 (show 0 < 50 by omega) (e_TP Z _) rfl (As := [.int (nI sq), .int (p)]) ⟨Nat.le_of_ble_eq_true rfl, Nat.le_of_ble_eq_true rfl⟩ rfl rfl (Nat.le_of_ble_eq_true rfl) d_TP_fits_3 ?_
      refine x_istore_n C d_TP_fits_6 rfl (by decide) (lv' := [(3, .int ((-1000006))), (0, .ref (Z.2.1 (0))), (1, .int (nI sq)), (2, .int (p))]) rfl ?_
      refine x_iload_n C d_TP_fits_7 0 rfl rfl ?_
      refine x_ifge C d_TP_fits_8 19 (by decide) (fun c_3 => ?_) (fun c_3 => ?_)
      · exact absurd c_3 (by decide)
      · have nc_3 := Int32.not_le.mp c_3
        refine x_aload_n C d_TP_fits_11 1 rfl rfl ?_
        refine x_iload_n C d_TP_fits_12 0 rfl rfl ?_
        refine x_callVi C (c_TP_found_5 Z (g) _ rfl) mi_TP_found k_198 (show 0 < 50 by omega) (e_TP Z _) rfl (As := [.int ((-1000006))]) ⟨Nat.le_of_ble_eq_true rfl, Nat.le_of_ble_eq_true rfl⟩ rfl rfl (Nat.le_of_ble_eq_true rfl) d_TP_fits_13 ?_
        refine x_goto C d_TP_fits_16 34 (by decide) ?_
        exact x_iretK C (by first | with_reducible rfl | (simp [*]; done) | (simp_all; done)) (kfin (G' := va_up g 16 (fndR (g 16) 5)) (by first | with_reducible rfl | (simp [*]; done) | (simp_all; done)) (va_idn (by omega)).symm) d_TP_fits_34
    · by_cases t_4 : 0 ≤ p ∧ p < g 0 1
      · obtain ⟨pq, hpq, rfl⟩ := in_of (by rw [← hn]; exact t_4) (by omega)
        have hcp : (nI pq).toNatClampNeg = pq := nI_clamp (by omega)
        have hcL : (nI L).toNatClampNeg = L := nI_clamp (by omega)
        skip
        refine x_aload_n C d_TP_fits_0 0 rfl rfl ?_
        refine x_iload_n C d_TP_fits_1 1 rfl rfl ?_
        refine x_iload_n C d_TP_fits_2 2 rfl rfl ?_
        refine x_callVi C (c_TP_toldFinding_c Z sq (by omega) (nI pq) (g) (by assumption) (by assumption)) mi_TP_toldFinding k_493 (show 0 < 50 by omega) (e_TP Z _) rfl (As := [.int (nI sq), .int (nI pq)]) ⟨Nat.le_of_ble_eq_true rfl, Nat.le_of_ble_eq_true rfl⟩ rfl rfl (Nat.le_of_ble_eq_true rfl) d_TP_fits_3 ?_
        refine x_istore_n C d_TP_fits_6 rfl (by decide) (lv' := [(3, .int (0)), (0, .ref (Z.2.1 (0))), (1, .int (nI sq)), (2, .int (nI pq))]) rfl ?_
        refine x_iload_n C d_TP_fits_7 0 rfl rfl ?_
        refine x_ifge C d_TP_fits_8 19 (by decide) (fun c_5 => ?_) (fun c_5 => ?_)
        · have nc_5 := Int32.not_lt.mpr c_5
          refine x_aload_n C d_TP_fits_19 1 rfl rfl ?_
          refine gf_TP_forecast C k_169 d_TP_fits_20 ?_
          refine x_aload_n C d_TP_fits_23 1 rfl rfl ?_
          refine gf_TP_sheets C k_171 d_TP_fits_24 ?_
          refine x_iload_n C d_TP_fits_27 2 rfl rfl ?_
          refine al_ss C sq rfl (by omega) d_TP_fits_28 ?_
          refine x_iload_n C d_TP_fits_29 3 rfl rfl ?_
          refine x_iconst C d_TP_fits_30 (v := 2) (by decide) ?_
          refine x_callVki C (c_Fo_valuesAsTold_2 Z sq pq L (by omega) (by omega) (by omega) (g) hk0 (by rw [sz_of hn hn8]; omega) hL) mi_Fo_valuesAsTold k_506 (show 1 < 50 by omega) (e_Fo Z (sr yC (g) 1)) rfl (As := [.ref (Z.2.1 (5 + sq)), .int (nI pq), .int (2)]) ⟨Nat.le_of_ble_eq_true rfl, Nat.le_of_ble_eq_true rfl⟩ rfl rfl (Nat.le_of_ble_eq_true rfl) d_TP_fits_31 (fun u_ hu_ => ?_)
          obtain ⟨ρ_6, rfl⟩ := hu_
          exact x_iretK C (by first | with_reducible rfl | (simp [*]; done) | (simp_all; done)) (kfin (G' := g) (by first | with_reducible rfl | (simp [*]; done) | (simp_all; done)) rfl) d_TP_fits_34
        · exact absurd c_5 (by decide)
      · skip
        refine x_aload_n C d_TP_fits_0 0 rfl rfl ?_
        refine x_iload_n C d_TP_fits_1 1 rfl rfl ?_
        refine x_iload_n C d_TP_fits_2 2 rfl rfl ?_
        refine x_callVi C (c_TP_toldFinding_d Z sq (by omega) p (g) (by assumption) (by assumption)) mi_TP_toldFinding k_493 (show 0 < 50 by omega) (e_TP Z _) rfl (As := [.int (nI sq), .int (p)]) ⟨Nat.le_of_ble_eq_true rfl, Nat.le_of_ble_eq_true rfl⟩ rfl rfl (Nat.le_of_ble_eq_true rfl) d_TP_fits_3 ?_
        refine x_istore_n C d_TP_fits_6 rfl (by decide) (lv' := [(3, .int ((-1000001))), (0, .ref (Z.2.1 (0))), (1, .int (nI sq)), (2, .int (p))]) rfl ?_
        refine x_iload_n C d_TP_fits_7 0 rfl rfl ?_
        refine x_ifge C d_TP_fits_8 19 (by decide) (fun c_7 => ?_) (fun c_7 => ?_)
        · exact absurd c_7 (by decide)
        · have nc_7 := Int32.not_le.mp c_7
          refine x_aload_n C d_TP_fits_11 1 rfl rfl ?_
          refine x_iload_n C d_TP_fits_12 0 rfl rfl ?_
          refine x_callVi C (c_TP_found_0 Z (g) _ rfl) mi_TP_found k_198 (show 0 < 50 by omega) (e_TP Z _) rfl (As := [.int ((-1000001))]) ⟨Nat.le_of_ble_eq_true rfl, Nat.le_of_ble_eq_true rfl⟩ rfl rfl (Nat.le_of_ble_eq_true rfl) d_TP_fits_13 ?_
          refine x_goto C d_TP_fits_16 34 (by decide) ?_
          exact x_iretK C (by first | with_reducible rfl | (simp [*]; done) | (simp_all; done)) (kfin (G' := va_up g 16 (fndR (g 16) 0)) (by first | with_reducible rfl | (simp [*]; done) | (simp_all; done)) (va_idn (by omega)).symm) d_TP_fits_34
  · skip
    refine x_aload_n C d_TP_fits_0 0 rfl rfl ?_
    refine x_iload_n C d_TP_fits_1 1 rfl rfl ?_
    refine x_iload_n C d_TP_fits_2 2 rfl rfl ?_
    refine x_callVi C (c_TP_toldFinding_a Z s p (by assumption) (g)) mi_TP_toldFinding k_493 (show 0 < 50 by omega) (e_TP Z _) rfl (As := [.int (s), .int (p)]) ⟨Nat.le_of_ble_eq_true rfl, Nat.le_of_ble_eq_true rfl⟩ rfl rfl (Nat.le_of_ble_eq_true rfl) d_TP_fits_3 ?_
    refine x_istore_n C d_TP_fits_6 rfl (by decide) (lv' := [(3, .int ((-1000001))), (0, .ref (Z.2.1 (0))), (1, .int (s)), (2, .int (p))]) rfl ?_
    refine x_iload_n C d_TP_fits_7 0 rfl rfl ?_
    refine x_ifge C d_TP_fits_8 19 (by decide) (fun c_8 => ?_) (fun c_8 => ?_)
    · exact absurd c_8 (by decide)
    · have nc_8 := Int32.not_le.mp c_8
      refine x_aload_n C d_TP_fits_11 1 rfl rfl ?_
      refine x_iload_n C d_TP_fits_12 0 rfl rfl ?_
      refine x_callVi C (c_TP_found_0 Z (g) _ rfl) mi_TP_found k_198 (show 0 < 50 by omega) (e_TP Z _) rfl (As := [.int ((-1000001))]) ⟨Nat.le_of_ble_eq_true rfl, Nat.le_of_ble_eq_true rfl⟩ rfl rfl (Nat.le_of_ble_eq_true rfl) d_TP_fits_13 ?_
      refine x_goto C d_TP_fits_16 34 (by decide) ?_
      exact x_iretK C (by first | with_reducible rfl | (simp [*]; done) | (simp_all; done)) (kfin (G' := va_up g 16 (fndR (g 16) 0)) (by first | with_reducible rfl | (simp [*]; done) | (simp_all; done)) (va_idn (by omega)).symm) d_TP_fits_34

set_option maxRecDepth 100000 in
set_option maxHeartbeats 600000 in
theorem c_TP_kinds (Z : ZT) (s p : Int32) (g : St)  (hk : okR (g 0)) (hS : ∀ s, s < 4 → ∃ L, L ≤ 40 ∧ g (8 + s) 1 = nI L) : CT yC Z y_TP_kinds b_TP_kinds 4 (some (.int)) 6 143 [.ref (Z.2.1 (0)), .int (s), .int (p)] (g) (QkI yC Z (if ¬ (0 ≤ s ∧ s ≤ 3) then (-1000001) else if g (8 + s.toNatClampNeg) 0 = 0 then (-1000006) else if ¬ (0 ≤ p ∧ p < g 0 1) then (-1000001) else vatN (fun v_ => gatN (g (12 + s.toNatClampNeg)) (upd (g 0) (pI p.toNatClampNeg 0) (nI v_)) p.toNatClampNeg (g (8 + s.toNatClampNeg) 1).toNatClampNeg) 7) (fun u => ∃ ρ : Nat → Int32, u = va_up (if ¬ (0 ≤ s ∧ s ≤ 3) then va_up g 16 (fndR (g 16) 0) else if g (8 + s.toNatClampNeg) 0 = 0 then va_up g 16 (fndR (g 16) 5) else if ¬ (0 ≤ p ∧ p < g 0 1) then va_up g 16 (fndR (g 16) 0) else g) 1 ρ)) := by
  refine CT.mk "TunnelPeace" (by decide) rfl (Nat.le_of_ble_eq_true rfl) (fun X C => ?_)
  refine x_lv [0, 1, 2] (lv' := [(0, .ref (Z.2.1 (0))), (1, .int (s)), (2, .int (p))]) rfl ?_
  have hk0 := hk
  obtain ⟨⟨n, hn8, hn⟩, dd, hdd, hd⟩ := hk
  by_cases t_1 : 0 ≤ s ∧ s ≤ 3
  · obtain ⟨sq, hsq, rfl⟩ := in_le (n := 3) t_1 (by decide)
    have hcs : (nI sq).toNatClampNeg = sq := nI_clamp (by omega)
    obtain ⟨L, hL4, hL⟩ := hS sq (by omega)
    by_cases t_2 : g (8 + sq) 0 = 0
    · skip
      refine x_aload_n C d_TP_kinds_0 0 rfl rfl ?_
      refine x_iload_n C d_TP_kinds_1 1 rfl rfl ?_
      refine x_iload_n C d_TP_kinds_2 2 rfl rfl ?_
      refine x_callVi C (c_TP_toldFinding_b Z sq (by omega) p (g) (by assumption)) mi_TP_toldFinding k_493 (show 0 < 50 by omega) (e_TP Z _) rfl (As := [.int (nI sq), .int (p)]) ⟨Nat.le_of_ble_eq_true rfl, Nat.le_of_ble_eq_true rfl⟩ rfl rfl (Nat.le_of_ble_eq_true rfl) d_TP_kinds_3 ?_
      refine x_istore_n C d_TP_kinds_6 rfl (by decide) (lv' := [(3, .int ((-1000006))), (0, .ref (Z.2.1 (0))), (1, .int (nI sq)), (2, .int (p))]) rfl ?_
      refine x_iload_n C d_TP_kinds_7 0 rfl rfl ?_
      refine x_ifge C d_TP_kinds_8 19 (by decide) (fun c_3 => ?_) (fun c_3 => ?_)
      · exact absurd c_3 (by decide)
      · have nc_3 := Int32.not_le.mp c_3
        refine x_aload_n C d_TP_kinds_11 1 rfl rfl ?_
        refine x_iload_n C d_TP_kinds_12 0 rfl rfl ?_
        refine x_callVi C (c_TP_found_5 Z (g) _ rfl) mi_TP_found k_198 (show 0 < 50 by omega) (e_TP Z _) rfl (As := [.int ((-1000006))]) ⟨Nat.le_of_ble_eq_true rfl, Nat.le_of_ble_eq_true rfl⟩ rfl rfl (Nat.le_of_ble_eq_true rfl) d_TP_kinds_13 ?_
        refine x_goto C d_TP_kinds_16 34 (by decide) ?_
        exact x_iretK C (by first | with_reducible rfl | (simp [*]; done) | (simp_all; done)) (kfin (G' := va_up g 16 (fndR (g 16) 5)) (by first | with_reducible rfl | (simp [*]; done) | (simp_all; done)) (va_idn (by omega)).symm) d_TP_kinds_34
    · by_cases t_4 : 0 ≤ p ∧ p < g 0 1
      · obtain ⟨pq, hpq, rfl⟩ := in_of (by rw [← hn]; exact t_4) (by omega)
        have hcp : (nI pq).toNatClampNeg = pq := nI_clamp (by omega)
        have hcL : (nI L).toNatClampNeg = L := nI_clamp (by omega)
        skip
        refine x_aload_n C d_TP_kinds_0 0 rfl rfl ?_
        refine x_iload_n C d_TP_kinds_1 1 rfl rfl ?_
        refine x_iload_n C d_TP_kinds_2 2 rfl rfl ?_
        refine x_callVi C (c_TP_toldFinding_c Z sq (by omega) (nI pq) (g) (by assumption) (by assumption)) mi_TP_toldFinding k_493 (show 0 < 50 by omega) (e_TP Z _) rfl (As := [.int (nI sq), .int (nI pq)]) ⟨Nat.le_of_ble_eq_true rfl, Nat.le_of_ble_eq_true rfl⟩ rfl rfl (Nat.le_of_ble_eq_true rfl) d_TP_kinds_3 ?_
        refine x_istore_n C d_TP_kinds_6 rfl (by decide) (lv' := [(3, .int (0)), (0, .ref (Z.2.1 (0))), (1, .int (nI sq)), (2, .int (nI pq))]) rfl ?_
        refine x_iload_n C d_TP_kinds_7 0 rfl rfl ?_
        refine x_ifge C d_TP_kinds_8 19 (by decide) (fun c_5 => ?_) (fun c_5 => ?_)
        · have nc_5 := Int32.not_lt.mpr c_5
          refine x_aload_n C d_TP_kinds_19 1 rfl rfl ?_
          refine gf_TP_forecast C k_169 d_TP_kinds_20 ?_
          refine x_aload_n C d_TP_kinds_23 1 rfl rfl ?_
          refine gf_TP_sheets C k_171 d_TP_kinds_24 ?_
          refine x_iload_n C d_TP_kinds_27 2 rfl rfl ?_
          refine al_ss C sq rfl (by omega) d_TP_kinds_28 ?_
          refine x_iload_n C d_TP_kinds_29 3 rfl rfl ?_
          refine x_iconst C d_TP_kinds_30 (v := 0) (by decide) ?_
          refine x_callVki C (c_Fo_valuesAsTold_0 Z sq pq L (by omega) (by omega) (by omega) (g) hk0 (by rw [sz_of hn hn8]; omega) hL) mi_Fo_valuesAsTold k_506 (show 1 < 50 by omega) (e_Fo Z (sr yC (g) 1)) rfl (As := [.ref (Z.2.1 (5 + sq)), .int (nI pq), .int (0)]) ⟨Nat.le_of_ble_eq_true rfl, Nat.le_of_ble_eq_true rfl⟩ rfl rfl (Nat.le_of_ble_eq_true rfl) d_TP_kinds_31 (fun u_ hu_ => ?_)
          obtain ⟨ρ_6, rfl⟩ := hu_
          exact x_iretK C (by first | with_reducible rfl | (simp [*]; done) | (simp_all; done)) (kfin (G' := g) (by first | with_reducible rfl | (simp [*]; done) | (simp_all; done)) rfl) d_TP_kinds_34
        · exact absurd c_5 (by decide)
      · skip
        refine x_aload_n C d_TP_kinds_0 0 rfl rfl ?_
        refine x_iload_n C d_TP_kinds_1 1 rfl rfl ?_
        refine x_iload_n C d_TP_kinds_2 2 rfl rfl ?_
        refine x_callVi C (c_TP_toldFinding_d Z sq (by omega) p (g) (by assumption) (by assumption)) mi_TP_toldFinding k_493 (show 0 < 50 by omega) (e_TP Z _) rfl (As := [.int (nI sq), .int (p)]) ⟨Nat.le_of_ble_eq_true rfl, Nat.le_of_ble_eq_true rfl⟩ rfl rfl (Nat.le_of_ble_eq_true rfl) d_TP_kinds_3 ?_
        refine x_istore_n C d_TP_kinds_6 rfl (by decide) (lv' := [(3, .int ((-1000001))), (0, .ref (Z.2.1 (0))), (1, .int (nI sq)), (2, .int (p))]) rfl ?_
        refine x_iload_n C d_TP_kinds_7 0 rfl rfl ?_
        refine x_ifge C d_TP_kinds_8 19 (by decide) (fun c_7 => ?_) (fun c_7 => ?_)
        · exact absurd c_7 (by decide)
        · have nc_7 := Int32.not_le.mp c_7
          refine x_aload_n C d_TP_kinds_11 1 rfl rfl ?_
          refine x_iload_n C d_TP_kinds_12 0 rfl rfl ?_
          refine x_callVi C (c_TP_found_0 Z (g) _ rfl) mi_TP_found k_198 (show 0 < 50 by omega) (e_TP Z _) rfl (As := [.int ((-1000001))]) ⟨Nat.le_of_ble_eq_true rfl, Nat.le_of_ble_eq_true rfl⟩ rfl rfl (Nat.le_of_ble_eq_true rfl) d_TP_kinds_13 ?_
          refine x_goto C d_TP_kinds_16 34 (by decide) ?_
          exact x_iretK C (by first | with_reducible rfl | (simp [*]; done) | (simp_all; done)) (kfin (G' := va_up g 16 (fndR (g 16) 0)) (by first | with_reducible rfl | (simp [*]; done) | (simp_all; done)) (va_idn (by omega)).symm) d_TP_kinds_34
  · skip
    refine x_aload_n C d_TP_kinds_0 0 rfl rfl ?_
    refine x_iload_n C d_TP_kinds_1 1 rfl rfl ?_
    refine x_iload_n C d_TP_kinds_2 2 rfl rfl ?_
    refine x_callVi C (c_TP_toldFinding_a Z s p (by assumption) (g)) mi_TP_toldFinding k_493 (show 0 < 50 by omega) (e_TP Z _) rfl (As := [.int (s), .int (p)]) ⟨Nat.le_of_ble_eq_true rfl, Nat.le_of_ble_eq_true rfl⟩ rfl rfl (Nat.le_of_ble_eq_true rfl) d_TP_kinds_3 ?_
    refine x_istore_n C d_TP_kinds_6 rfl (by decide) (lv' := [(3, .int ((-1000001))), (0, .ref (Z.2.1 (0))), (1, .int (s)), (2, .int (p))]) rfl ?_
    refine x_iload_n C d_TP_kinds_7 0 rfl rfl ?_
    refine x_ifge C d_TP_kinds_8 19 (by decide) (fun c_8 => ?_) (fun c_8 => ?_)
    · exact absurd c_8 (by decide)
    · have nc_8 := Int32.not_le.mp c_8
      refine x_aload_n C d_TP_kinds_11 1 rfl rfl ?_
      refine x_iload_n C d_TP_kinds_12 0 rfl rfl ?_
      refine x_callVi C (c_TP_found_0 Z (g) _ rfl) mi_TP_found k_198 (show 0 < 50 by omega) (e_TP Z _) rfl (As := [.int ((-1000001))]) ⟨Nat.le_of_ble_eq_true rfl, Nat.le_of_ble_eq_true rfl⟩ rfl rfl (Nat.le_of_ble_eq_true rfl) d_TP_kinds_13 ?_
      refine x_goto C d_TP_kinds_16 34 (by decide) ?_
      exact x_iretK C (by first | with_reducible rfl | (simp [*]; done) | (simp_all; done)) (kfin (G' := va_up g 16 (fndR (g 16) 0)) (by first | with_reducible rfl | (simp [*]; done) | (simp_all; done)) (va_idn (by omega)).symm) d_TP_kinds_34

set_option maxRecDepth 100000 in
set_option maxHeartbeats 600000 in
theorem c_TP_write (Z : ZT) (s i v : Int32) (g : St)  (hk : okR (g 0)) (hS : ∀ s, s < 4 → ∃ L, L ≤ 40 ∧ g (8 + s) 1 = nI L) : CT yC Z y_TP_write b_TP_write 5 (some (.int)) 2 43 [.ref (Z.2.1 (0)), .int (s), .int (i), .int (v)] (g) (QkI yC Z (if ¬ (0 ≤ s ∧ s ≤ 3) then (-1000001) else if g (8 + s.toNatClampNeg) 0 = 0 then (-1000006) else if ¬ (0 ≤ i ∧ i ≤ g (8 + s.toNatClampNeg) 1 - 1) then (-1000001) else 1) (fun u => ∃ ρ : Nat → Int32, u = va_up (if ¬ (0 ≤ s ∧ s ≤ 3) then va_up g 16 (fndR (g 16) 0) else if g (8 + s.toNatClampNeg) 0 = 0 then va_up g 16 (fndR (g 16) 5) else if ¬ (0 ≤ i ∧ i ≤ g (8 + s.toNatClampNeg) 1 - 1) then va_up g 16 (fndR (g 16) 0) else va_up g (12 + s.toNatClampNeg) (upd (g (12 + s.toNatClampNeg)) i.toNatClampNeg (cutv (g (8 + s.toNatClampNeg) 0) v))) 1 ρ)) := by
  refine CT.mk "TunnelPeace" (by decide) rfl (Nat.le_of_ble_eq_true rfl) (fun X C => ?_)
  refine x_lv [0, 1, 2, 3] (lv' := [(0, .ref (Z.2.1 (0))), (1, .int (s)), (2, .int (i)), (3, .int (v))]) rfl ?_
  have hk0 := hk
  obtain ⟨⟨n, hn8, hn⟩, dd, hdd, hd⟩ := hk
  by_cases t_1 : 0 ≤ s ∧ s ≤ 3
  · obtain ⟨sq, hsq, rfl⟩ := in_le (n := 3) t_1 (by decide)
    have hcs : (nI sq).toNatClampNeg = sq := nI_clamp (by omega)
    obtain ⟨L, hL4, hL⟩ := hS sq (by omega)
    by_cases t_2 : g (8 + sq) 0 = 0
    · skip
      refine x_aload_n C d_TP_write_0 0 rfl rfl ?_
      refine x_iload_n C d_TP_write_1 1 rfl rfl ?_
      refine x_callVi C (c_TP_sheetFinding_b Z sq (by omega) (g) (by assumption)) mi_TP_sheetFinding k_497 (show 0 < 50 by omega) (e_TP Z _) rfl (As := [.int (nI sq)]) ⟨Nat.le_of_ble_eq_true rfl, Nat.le_of_ble_eq_true rfl⟩ rfl rfl (Nat.le_of_ble_eq_true rfl) d_TP_write_2 ?_
      refine x_istore C d_TP_write_5 (by decide) (lv' := [(4, .int ((-1000006))), (0, .ref (Z.2.1 (0))), (1, .int (nI sq)), (2, .int (i)), (3, .int (v))]) rfl ?_
      refine x_iload C d_TP_write_7 0 rfl ?_
      refine x_ifge C d_TP_write_9 19 (by decide) (fun c_3 => ?_) (fun c_3 => ?_)
      · exact absurd c_3 (by decide)
      · have nc_3 := Int32.not_le.mp c_3
        refine x_aload_n C d_TP_write_12 1 rfl rfl ?_
        refine x_iload C d_TP_write_13 0 rfl ?_
        refine x_callVi C (c_TP_found_5 Z (g) _ rfl) mi_TP_found k_198 (show 0 < 50 by omega) (e_TP Z _) rfl (As := [.int ((-1000006))]) ⟨Nat.le_of_ble_eq_true rfl, Nat.le_of_ble_eq_true rfl⟩ rfl rfl (Nat.le_of_ble_eq_true rfl) d_TP_write_15 ?_
        exact x_iretK C (by first | with_reducible rfl | (simp [*]; done) | (simp_all; done)) (kfin (G' := va_up g 16 (fndR (g 16) 5)) (by first | with_reducible rfl | (simp [*]; done) | (simp_all; done)) (va_idn (by omega)).symm) d_TP_write_18
    · skip
      refine x_aload_n C d_TP_write_0 0 rfl rfl ?_
      refine x_iload_n C d_TP_write_1 1 rfl rfl ?_
      refine x_callVi C (c_TP_sheetFinding_c Z sq (by omega) (g) (by assumption)) mi_TP_sheetFinding k_497 (show 0 < 50 by omega) (e_TP Z _) rfl (As := [.int (nI sq)]) ⟨Nat.le_of_ble_eq_true rfl, Nat.le_of_ble_eq_true rfl⟩ rfl rfl (Nat.le_of_ble_eq_true rfl) d_TP_write_2 ?_
      refine x_istore C d_TP_write_5 (by decide) (lv' := [(4, .int (0)), (0, .ref (Z.2.1 (0))), (1, .int (nI sq)), (2, .int (i)), (3, .int (v))]) rfl ?_
      refine x_iload C d_TP_write_7 0 rfl ?_
      refine x_ifge C d_TP_write_9 19 (by decide) (fun c_4 => ?_) (fun c_4 => ?_)
      · have nc_4 := Int32.not_lt.mpr c_4
        refine x_iload_n C d_TP_write_19 3 rfl rfl ?_
        refine x_aload_n C d_TP_write_20 1 rfl rfl ?_
        refine gf_TP_sheets C k_171 d_TP_write_21 ?_
        refine x_iload_n C d_TP_write_24 2 rfl rfl ?_
        refine al_ss C sq rfl (by omega) d_TP_write_25 ?_
        refine gf_Sh_length C (by omega) (v := nI L) hL k_154 d_TP_write_26 ?_
        refine x_iconst C d_TP_write_29 (v := 1) (by decide) ?_
        refine x_isub C d_TP_write_30 ?_
        refine x_callSi C (c_TP_within Z i ((nI L) - 1) (g)) mi_TP_within k_194 (As := [.int (i), .int ((nI L) - 1)]) ⟨Nat.le_of_ble_eq_true rfl, Nat.le_of_ble_eq_true rfl⟩ rfl rfl (Nat.le_of_ble_eq_true rfl) d_TP_write_31 ?_
        refine x_ifneB C d_TP_write_34 44 (by decide) (fun c_5 => ?_) (fun c_5 => ?_)
        · obtain ⟨iq, hiq, rfl⟩ := in_lt1 (by assumption) hL4
          have hci : (nI iq).toNatClampNeg = iq := nI_clamp (by omega)
          refine x_aload_n C d_TP_write_44 1 rfl rfl ?_
          refine gf_TP_sheets C k_171 d_TP_write_45 ?_
          refine x_iload_n C d_TP_write_48 2 rfl rfl ?_
          refine al_ss C sq rfl (by omega) d_TP_write_49 ?_
          refine x_iload_n C d_TP_write_50 3 rfl rfl ?_
          refine x_iload_n C d_TP_write_51 4 rfl rfl ?_
          refine x_callVv C (c_Sh_put Z sq (by omega) iq (by omega) v (g)) mi_Sh_put k_715 (show 5 + sq < 50 by omega) (e_Sh Z (by omega) _) rfl (As := [.int (nI iq), .int (v)]) ⟨Nat.le_of_ble_eq_true rfl, Nat.le_of_ble_eq_true rfl⟩ rfl rfl (Nat.le_of_ble_eq_true rfl) d_TP_write_52 ?_
          refine x_iconst C d_TP_write_55 (v := 1) (by decide) ?_
          exact x_iretK C (by first | with_reducible rfl | (simp [*]; done) | (simp_all; done)) (kfin (G' := va_up g (12 + sq) (upd (g (12 + sq)) iq (cutv (g (8 + sq) 0) v))) (by first | with_reducible rfl | (simp [*]; done) | (simp_all; done)) (va_idn (by omega)).symm) d_TP_write_56
        · refine x_aload_n C d_TP_write_37 1 rfl rfl ?_
          refine x_ldc C d_TP_write_38 k_197 ?_
          refine x_callVi C (c_TP_found_0 Z (g) _ rfl) mi_TP_found k_198 (show 0 < 50 by omega) (e_TP Z _) rfl (As := [.int ((-1000001))]) ⟨Nat.le_of_ble_eq_true rfl, Nat.le_of_ble_eq_true rfl⟩ rfl rfl (Nat.le_of_ble_eq_true rfl) d_TP_write_40 ?_
          exact x_iretK C (by first | with_reducible rfl | (simp [*]; done) | (simp_all; done)) (kfin (G' := va_up g 16 (fndR (g 16) 0)) (by first | with_reducible rfl | (simp [*]; done) | (simp_all; done)) (va_idn (by omega)).symm) d_TP_write_43
      · exact absurd c_4 (by decide)
  · skip
    refine x_aload_n C d_TP_write_0 0 rfl rfl ?_
    refine x_iload_n C d_TP_write_1 1 rfl rfl ?_
    refine x_callVi C (c_TP_sheetFinding_a Z s (by assumption) (g)) mi_TP_sheetFinding k_497 (show 0 < 50 by omega) (e_TP Z _) rfl (As := [.int (s)]) ⟨Nat.le_of_ble_eq_true rfl, Nat.le_of_ble_eq_true rfl⟩ rfl rfl (Nat.le_of_ble_eq_true rfl) d_TP_write_2 ?_
    refine x_istore C d_TP_write_5 (by decide) (lv' := [(4, .int ((-1000001))), (0, .ref (Z.2.1 (0))), (1, .int (s)), (2, .int (i)), (3, .int (v))]) rfl ?_
    refine x_iload C d_TP_write_7 0 rfl ?_
    refine x_ifge C d_TP_write_9 19 (by decide) (fun c_6 => ?_) (fun c_6 => ?_)
    · exact absurd c_6 (by decide)
    · have nc_6 := Int32.not_le.mp c_6
      refine x_aload_n C d_TP_write_12 1 rfl rfl ?_
      refine x_iload C d_TP_write_13 0 rfl ?_
      refine x_callVi C (c_TP_found_0 Z (g) _ rfl) mi_TP_found k_198 (show 0 < 50 by omega) (e_TP Z _) rfl (As := [.int ((-1000001))]) ⟨Nat.le_of_ble_eq_true rfl, Nat.le_of_ble_eq_true rfl⟩ rfl rfl (Nat.le_of_ble_eq_true rfl) d_TP_write_15 ?_
      exact x_iretK C (by first | with_reducible rfl | (simp [*]; done) | (simp_all; done)) (kfin (G' := va_up g 16 (fndR (g 16) 0)) (by first | with_reducible rfl | (simp [*]; done) | (simp_all; done)) (va_idn (by omega)).symm) d_TP_write_18

set_option maxRecDepth 100000 in
set_option maxHeartbeats 600000 in
theorem c_TP_load (Z : ZT) (s : Int32) (g : St)  (hk : okR (g 0)) (hS : ∀ s, s < 4 → ∃ L, L ≤ 40 ∧ g (8 + s) 1 = nI L) : CT yC Z y_TP_load b_TP_load 3 (some (.int)) 2 43 [.ref (Z.2.1 (0)), .int (s)] (g) (QkI yC Z (if ¬ (0 ≤ s ∧ s ≤ 3) then (-1000001) else if g (8 + s.toNatClampNeg) 0 = 0 then (-1000006) else nI (gvF (g (12 + s.toNatClampNeg)) (min (g (8 + s.toNatClampNeg) 1).toNatClampNeg (sz (g 0))) 0)) (fun u => ∃ ρ : Nat → Int32, u = va_up (if ¬ (0 ≤ s ∧ s ≤ 3) then va_up g 16 (fndR (g 16) 0) else if g (8 + s.toNatClampNeg) 0 = 0 then va_up g 16 (fndR (g 16) 5) else va_up g 0 (gvN (g (12 + s.toNatClampNeg)) (g 0) (gvF (g (12 + s.toNatClampNeg)) (min (g (8 + s.toNatClampNeg) 1).toNatClampNeg (sz (g 0))) 0))) 1 ρ)) := by
  refine CT.mk "TunnelPeace" (by decide) rfl (Nat.le_of_ble_eq_true rfl) (fun X C => ?_)
  refine x_lv [0, 1] (lv' := [(0, .ref (Z.2.1 (0))), (1, .int (s))]) rfl ?_
  have hk0 := hk
  obtain ⟨⟨n, hn8, hn⟩, dd, hdd, hd⟩ := hk
  by_cases t_1 : 0 ≤ s ∧ s ≤ 3
  · obtain ⟨sq, hsq, rfl⟩ := in_le (n := 3) t_1 (by decide)
    have hcs : (nI sq).toNatClampNeg = sq := nI_clamp (by omega)
    obtain ⟨L, hL4, hL⟩ := hS sq (by omega)
    by_cases t_2 : g (8 + sq) 0 = 0
    · skip
      refine x_aload_n C d_TP_load_0 0 rfl rfl ?_
      refine x_iload_n C d_TP_load_1 1 rfl rfl ?_
      refine x_callVi C (c_TP_sheetFinding_b Z sq (by omega) (g) (by assumption)) mi_TP_sheetFinding k_497 (show 0 < 50 by omega) (e_TP Z _) rfl (As := [.int (nI sq)]) ⟨Nat.le_of_ble_eq_true rfl, Nat.le_of_ble_eq_true rfl⟩ rfl rfl (Nat.le_of_ble_eq_true rfl) d_TP_load_2 ?_
      refine x_istore_n C d_TP_load_5 rfl (by decide) (lv' := [(2, .int ((-1000006))), (0, .ref (Z.2.1 (0))), (1, .int (nI sq))]) rfl ?_
      refine x_iload_n C d_TP_load_6 0 rfl rfl ?_
      refine x_ifge C d_TP_load_7 18 (by decide) (fun c_3 => ?_) (fun c_3 => ?_)
      · exact absurd c_3 (by decide)
      · have nc_3 := Int32.not_le.mp c_3
        refine x_aload_n C d_TP_load_10 1 rfl rfl ?_
        refine x_iload_n C d_TP_load_11 0 rfl rfl ?_
        refine x_callVi C (c_TP_found_5 Z (g) _ rfl) mi_TP_found k_198 (show 0 < 50 by omega) (e_TP Z _) rfl (As := [.int ((-1000006))]) ⟨Nat.le_of_ble_eq_true rfl, Nat.le_of_ble_eq_true rfl⟩ rfl rfl (Nat.le_of_ble_eq_true rfl) d_TP_load_12 ?_
        refine x_goto C d_TP_load_15 31 (by decide) ?_
        exact x_iretK C (by first | with_reducible rfl | (simp [*]; done) | (simp_all; done)) (kfin (G' := va_up g 16 (fndR (g 16) 5)) (by first | with_reducible rfl | (simp [*]; done) | (simp_all; done)) (va_idn (by omega)).symm) d_TP_load_31
    · skip
      refine x_aload_n C d_TP_load_0 0 rfl rfl ?_
      refine x_iload_n C d_TP_load_1 1 rfl rfl ?_
      refine x_callVi C (c_TP_sheetFinding_c Z sq (by omega) (g) (by assumption)) mi_TP_sheetFinding k_497 (show 0 < 50 by omega) (e_TP Z _) rfl (As := [.int (nI sq)]) ⟨Nat.le_of_ble_eq_true rfl, Nat.le_of_ble_eq_true rfl⟩ rfl rfl (Nat.le_of_ble_eq_true rfl) d_TP_load_2 ?_
      refine x_istore_n C d_TP_load_5 rfl (by decide) (lv' := [(2, .int (0)), (0, .ref (Z.2.1 (0))), (1, .int (nI sq))]) rfl ?_
      refine x_iload_n C d_TP_load_6 0 rfl rfl ?_
      refine x_ifge C d_TP_load_7 18 (by decide) (fun c_4 => ?_) (fun c_4 => ?_)
      · have nc_4 := Int32.not_lt.mpr c_4
        have hcL : (nI L).toNatClampNeg = L := nI_clamp (by omega)
        refine x_aload_n C d_TP_load_18 1 rfl rfl ?_
        refine gf_TP_sheets C k_171 d_TP_load_19 ?_
        refine x_iload_n C d_TP_load_22 2 rfl rfl ?_
        refine al_ss C sq rfl (by omega) d_TP_load_23 ?_
        refine x_aload_n C d_TP_load_24 1 rfl rfl ?_
        refine gf_TP_tunnel C k_165 d_TP_load_25 ?_
        refine x_callVi C (c_Sh_giveSeasons Z sq L (by omega) hL4 (g) hk0 hL) mi_Sh_giveSeasons k_732 (show 5 + sq < 50 by omega) (e_Sh Z (by omega) _) rfl (As := [.ref (Z.2.1 (14 + 12 * 0))]) ⟨Nat.le_of_ble_eq_true rfl, Nat.le_of_ble_eq_true rfl⟩ rfl rfl (Nat.le_of_ble_eq_true rfl) d_TP_load_28 ?_
        exact x_iretK C (by first | with_reducible rfl | (simp [*]; done) | (simp_all; done)) (kfin (G' := va_up g 0 (gvN (g (12 + sq)) (g 0) (gvF (g (12 + sq)) (min L (sz (g 0))) 0))) (by first | with_reducible rfl | (simp [*]; done) | (simp_all; done)) (va_idn (by omega)).symm) d_TP_load_31
      · exact absurd c_4 (by decide)
  · skip
    refine x_aload_n C d_TP_load_0 0 rfl rfl ?_
    refine x_iload_n C d_TP_load_1 1 rfl rfl ?_
    refine x_callVi C (c_TP_sheetFinding_a Z s (by assumption) (g)) mi_TP_sheetFinding k_497 (show 0 < 50 by omega) (e_TP Z _) rfl (As := [.int (s)]) ⟨Nat.le_of_ble_eq_true rfl, Nat.le_of_ble_eq_true rfl⟩ rfl rfl (Nat.le_of_ble_eq_true rfl) d_TP_load_2 ?_
    refine x_istore_n C d_TP_load_5 rfl (by decide) (lv' := [(2, .int ((-1000001))), (0, .ref (Z.2.1 (0))), (1, .int (s))]) rfl ?_
    refine x_iload_n C d_TP_load_6 0 rfl rfl ?_
    refine x_ifge C d_TP_load_7 18 (by decide) (fun c_5 => ?_) (fun c_5 => ?_)
    · exact absurd c_5 (by decide)
    · have nc_5 := Int32.not_le.mp c_5
      refine x_aload_n C d_TP_load_10 1 rfl rfl ?_
      refine x_iload_n C d_TP_load_11 0 rfl rfl ?_
      refine x_callVi C (c_TP_found_0 Z (g) _ rfl) mi_TP_found k_198 (show 0 < 50 by omega) (e_TP Z _) rfl (As := [.int ((-1000001))]) ⟨Nat.le_of_ble_eq_true rfl, Nat.le_of_ble_eq_true rfl⟩ rfl rfl (Nat.le_of_ble_eq_true rfl) d_TP_load_12 ?_
      refine x_goto C d_TP_load_15 31 (by decide) ?_
      exact x_iretK C (by first | with_reducible rfl | (simp [*]; done) | (simp_all; done)) (kfin (G' := va_up g 16 (fndR (g 16) 0)) (by first | with_reducible rfl | (simp [*]; done) | (simp_all; done)) (va_idn (by omega)).symm) d_TP_load_31

set_option maxRecDepth 100000 in
set_option maxHeartbeats 600000 in
theorem c_TP_judge (Z : ZT) (s : Int32) (g : St)  (hk : okR (g 0)) (hS : ∀ s, s < 4 → ∃ L, L ≤ 40 ∧ g (8 + s) 1 = nI L) : CT yC Z y_TP_judge b_TP_judge 3 (some (.int)) 2 43 [.ref (Z.2.1 (0)), .int (s)] (g) (QkI yC Z (if ¬ (0 ≤ s ∧ s ≤ 3) then (-1000001) else if g (8 + s.toNatClampNeg) 0 = 0 then (-1000006) else oI (fdo (fun i_ => !(decide (i_ < sz (g 0)) && decide (g 0 (pI i_ 2) = g (12 + s.toNatClampNeg) i_))) (g (8 + s.toNatClampNeg) 1).toNatClampNeg 0) + 1) (fun u => ∃ ρ : Nat → Int32, u = va_up (if ¬ (0 ≤ s ∧ s ≤ 3) then va_up g 16 (fndR (g 16) 0) else if g (8 + s.toNatClampNeg) 0 = 0 then va_up g 16 (fndR (g 16) 5) else g) 1 ρ)) := by
  refine CT.mk "TunnelPeace" (by decide) rfl (Nat.le_of_ble_eq_true rfl) (fun X C => ?_)
  refine x_lv [0, 1] (lv' := [(0, .ref (Z.2.1 (0))), (1, .int (s))]) rfl ?_
  have hk0 := hk
  obtain ⟨⟨n, hn8, hn⟩, dd, hdd, hd⟩ := hk
  by_cases t_1 : 0 ≤ s ∧ s ≤ 3
  · obtain ⟨sq, hsq, rfl⟩ := in_le (n := 3) t_1 (by decide)
    have hcs : (nI sq).toNatClampNeg = sq := nI_clamp (by omega)
    obtain ⟨L, hL4, hL⟩ := hS sq (by omega)
    by_cases t_2 : g (8 + sq) 0 = 0
    · skip
      refine x_aload_n C d_TP_judge_0 0 rfl rfl ?_
      refine x_iload_n C d_TP_judge_1 1 rfl rfl ?_
      refine x_callVi C (c_TP_sheetFinding_b Z sq (by omega) (g) (by assumption)) mi_TP_sheetFinding k_497 (show 0 < 50 by omega) (e_TP Z _) rfl (As := [.int (nI sq)]) ⟨Nat.le_of_ble_eq_true rfl, Nat.le_of_ble_eq_true rfl⟩ rfl rfl (Nat.le_of_ble_eq_true rfl) d_TP_judge_2 ?_
      refine x_istore_n C d_TP_judge_5 rfl (by decide) (lv' := [(2, .int ((-1000006))), (0, .ref (Z.2.1 (0))), (1, .int (nI sq))]) rfl ?_
      refine x_iload_n C d_TP_judge_6 0 rfl rfl ?_
      refine x_ifge C d_TP_judge_7 18 (by decide) (fun c_3 => ?_) (fun c_3 => ?_)
      · exact absurd c_3 (by decide)
      · have nc_3 := Int32.not_le.mp c_3
        refine x_aload_n C d_TP_judge_10 1 rfl rfl ?_
        refine x_iload_n C d_TP_judge_11 0 rfl rfl ?_
        refine x_callVi C (c_TP_found_5 Z (g) _ rfl) mi_TP_found k_198 (show 0 < 50 by omega) (e_TP Z _) rfl (As := [.int ((-1000006))]) ⟨Nat.le_of_ble_eq_true rfl, Nat.le_of_ble_eq_true rfl⟩ rfl rfl (Nat.le_of_ble_eq_true rfl) d_TP_judge_12 ?_
        refine x_goto C d_TP_judge_15 33 (by decide) ?_
        exact x_iretK C (by first | with_reducible rfl | (simp [*]; done) | (simp_all; done)) (kfin (G' := va_up g 16 (fndR (g 16) 5)) (by first | with_reducible rfl | (simp [*]; done) | (simp_all; done)) (va_idn (by omega)).symm) d_TP_judge_33
    · skip
      refine x_aload_n C d_TP_judge_0 0 rfl rfl ?_
      refine x_iload_n C d_TP_judge_1 1 rfl rfl ?_
      refine x_callVi C (c_TP_sheetFinding_c Z sq (by omega) (g) (by assumption)) mi_TP_sheetFinding k_497 (show 0 < 50 by omega) (e_TP Z _) rfl (As := [.int (nI sq)]) ⟨Nat.le_of_ble_eq_true rfl, Nat.le_of_ble_eq_true rfl⟩ rfl rfl (Nat.le_of_ble_eq_true rfl) d_TP_judge_2 ?_
      refine x_istore_n C d_TP_judge_5 rfl (by decide) (lv' := [(2, .int (0)), (0, .ref (Z.2.1 (0))), (1, .int (nI sq))]) rfl ?_
      refine x_iload_n C d_TP_judge_6 0 rfl rfl ?_
      refine x_ifge C d_TP_judge_7 18 (by decide) (fun c_4 => ?_) (fun c_4 => ?_)
      · have nc_4 := Int32.not_lt.mpr c_4
        have hcL : (nI L).toNatClampNeg = L := nI_clamp (by omega)
        refine x_aload_n C d_TP_judge_18 1 rfl rfl ?_
        refine gf_TP_sheets C k_171 d_TP_judge_19 ?_
        refine x_iload_n C d_TP_judge_22 2 rfl rfl ?_
        refine al_ss C sq rfl (by omega) d_TP_judge_23 ?_
        refine x_aload_n C d_TP_judge_24 1 rfl rfl ?_
        refine gf_TP_tunnel C k_165 d_TP_judge_25 ?_
        refine x_callVi C (c_Sh_firstWrongCell Z sq L (by omega) hL4 (g) hk0 hL) mi_Sh_firstWrongCell k_743 (show 5 + sq < 50 by omega) (e_Sh Z (by omega) _) rfl (As := [.ref (Z.2.1 (14 + 12 * 0))]) ⟨Nat.le_of_ble_eq_true rfl, Nat.le_of_ble_eq_true rfl⟩ rfl rfl (Nat.le_of_ble_eq_true rfl) d_TP_judge_28 ?_
        refine x_iconst C d_TP_judge_31 (v := 1) (by decide) ?_
        refine x_iadd C d_TP_judge_32 ?_
        exact x_iretK C (by first | with_reducible rfl | (simp [*]; done) | (simp_all; done)) (kfin (G' := g) (by first | with_reducible rfl | (simp [*]; done) | (simp_all; done)) (va_id g 1).symm) d_TP_judge_33
      · exact absurd c_4 (by decide)
  · skip
    refine x_aload_n C d_TP_judge_0 0 rfl rfl ?_
    refine x_iload_n C d_TP_judge_1 1 rfl rfl ?_
    refine x_callVi C (c_TP_sheetFinding_a Z s (by assumption) (g)) mi_TP_sheetFinding k_497 (show 0 < 50 by omega) (e_TP Z _) rfl (As := [.int (s)]) ⟨Nat.le_of_ble_eq_true rfl, Nat.le_of_ble_eq_true rfl⟩ rfl rfl (Nat.le_of_ble_eq_true rfl) d_TP_judge_2 ?_
    refine x_istore_n C d_TP_judge_5 rfl (by decide) (lv' := [(2, .int ((-1000001))), (0, .ref (Z.2.1 (0))), (1, .int (s))]) rfl ?_
    refine x_iload_n C d_TP_judge_6 0 rfl rfl ?_
    refine x_ifge C d_TP_judge_7 18 (by decide) (fun c_5 => ?_) (fun c_5 => ?_)
    · exact absurd c_5 (by decide)
    · have nc_5 := Int32.not_le.mp c_5
      refine x_aload_n C d_TP_judge_10 1 rfl rfl ?_
      refine x_iload_n C d_TP_judge_11 0 rfl rfl ?_
      refine x_callVi C (c_TP_found_0 Z (g) _ rfl) mi_TP_found k_198 (show 0 < 50 by omega) (e_TP Z _) rfl (As := [.int ((-1000001))]) ⟨Nat.le_of_ble_eq_true rfl, Nat.le_of_ble_eq_true rfl⟩ rfl rfl (Nat.le_of_ble_eq_true rfl) d_TP_judge_12 ?_
      refine x_goto C d_TP_judge_15 33 (by decide) ?_
      exact x_iretK C (by first | with_reducible rfl | (simp [*]; done) | (simp_all; done)) (kfin (G' := va_up g 16 (fndR (g 16) 0)) (by first | with_reducible rfl | (simp [*]; done) | (simp_all; done)) (va_idn (by omega)).symm) d_TP_judge_33

set_option maxRecDepth 100000 in
set_option maxHeartbeats 600000 in
theorem c_TP_sheet (Z : ZT) (s b m : Int32) (g : St)  (hk : okR (g 0)) : CT yC Z y_TP_sheet b_TP_sheet 4 (some (.int)) 2 43 [.ref (Z.2.1 (0)), .int (s), .int (b), .int (m)] (g) (QkI yC Z (if ¬ ((0 ≤ s ∧ s ≤ 3) ∧ (b = 0 ∨ b = 8 ∨ b = 16 ∨ b = 32)) then (-1000001) else if m < 0 then (-1000007) else if 40 < m then (-1000001) else if b = 0 then 0 else m) (fun u => ∃ ρ : Nat → Int32, u = va_up (if ¬ ((0 ≤ s ∧ s ≤ 3) ∧ (b = 0 ∨ b = 8 ∨ b = 16 ∨ b = 32)) then va_up g 16 (fndR (g 16) 0) else if m < 0 then va_up g 16 (fndR (g 16) 6) else if 40 < m then va_up g 16 (fndR (g 16) 0) else va_up (va_up g (8 + s.toNatClampNeg) (upd (upd (g (8 + s.toNatClampNeg)) 0 b) 1 (if b = 0 then 0 else m))) (12 + s.toNatClampNeg) (zerN (g (12 + s.toNatClampNeg)) 40)) 1 ρ)) := by
  refine CT.mk "TunnelPeace" (by decide) rfl (Nat.le_of_ble_eq_true rfl) (fun X C => ?_)
  refine x_lv [0, 1, 2, 3] (lv' := [(0, .ref (Z.2.1 (0))), (1, .int (s)), (2, .int (b)), (3, .int (m))]) rfl ?_
  have hk0 := hk
  obtain ⟨⟨n, hn8, hn⟩, dd, hdd, hd⟩ := hk
  refine x_iload_n C d_TP_sheet_0 1 rfl rfl ?_
  refine x_iconst C d_TP_sheet_1 (v := 3) (by decide) ?_
  refine x_callSi C (c_TP_within Z s 3 (g)) mi_TP_within k_194 (As := [.int (s), .int (3)]) ⟨Nat.le_of_ble_eq_true rfl, Nat.le_of_ble_eq_true rfl⟩ rfl rfl (Nat.le_of_ble_eq_true rfl) d_TP_sheet_2 ?_
  refine x_ifeqB C d_TP_sheet_5 30 (by decide) (fun c_1 => ?_) (fun c_1 => ?_)
  · refine x_aload_n C d_TP_sheet_30 0 rfl rfl ?_
    refine x_ldc C d_TP_sheet_31 k_197 ?_
    refine x_callVi C (c_TP_found_0 Z (g) _ rfl) mi_TP_found k_198 (show 0 < 50 by omega) (e_TP Z _) rfl (As := [.int ((-1000001))]) ⟨Nat.le_of_ble_eq_true rfl, Nat.le_of_ble_eq_true rfl⟩ rfl rfl (Nat.le_of_ble_eq_true rfl) d_TP_sheet_33 ?_
    exact x_iretK C (by first | with_reducible rfl | (simp [*]; done) | (simp_all; done)) (kfin (G' := va_up g 16 (fndR (g 16) 0)) (by first | with_reducible rfl | (simp [*]; done) | (simp_all; done)) (va_idn (by omega)).symm) d_TP_sheet_36
  · obtain ⟨sq, hsq, rfl⟩ := in_le (n := 3) c_1 (by decide)
    have hcs : (nI sq).toNatClampNeg = sq := nI_clamp (by omega)
    refine x_iload_n C d_TP_sheet_8 2 rfl rfl ?_
    refine x_ifeq C d_TP_sheet_9 37 (by decide) (fun c_2 => ?_) (fun c_2 => ?_)
    · refine x_iload_n C d_TP_sheet_37 3 rfl rfl ?_
      refine x_ifge C d_TP_sheet_38 48 (by decide) (fun c_3 => ?_) (fun c_3 => ?_)
      · have nc_3 := Int32.not_lt.mpr c_3
        refine x_iload_n C d_TP_sheet_48 3 rfl rfl ?_
        refine x_bipush C d_TP_sheet_49 (v := 40) (by decide) ?_
        refine x_icmp_le C d_TP_sheet_51 61 (by decide) (fun c_4 => ?_) (fun c_4 => ?_)
        · have nc_4 := Int32.not_lt.mpr c_4
          refine x_aload_n C d_TP_sheet_61 0 rfl rfl ?_
          refine gf_TP_sheets C k_171 d_TP_sheet_62 ?_
          refine x_iload_n C d_TP_sheet_65 1 rfl rfl ?_
          refine al_ss C sq rfl (by omega) d_TP_sheet_66 ?_
          refine x_iload_n C d_TP_sheet_67 2 rfl rfl ?_
          refine x_iload_n C d_TP_sheet_68 3 rfl rfl ?_
          refine x_callVv C (c_Sh_begin Z sq (by omega) b m (g)) mi_Sh_begin k_707 (show 5 + sq < 50 by omega) (e_Sh Z (by omega) _) rfl (As := [.int (b), .int (m)]) ⟨Nat.le_of_ble_eq_true rfl, Nat.le_of_ble_eq_true rfl⟩ rfl rfl (Nat.le_of_ble_eq_true rfl) d_TP_sheet_69 ?_
          refine x_aload_n C d_TP_sheet_72 0 rfl rfl ?_
          refine gf_TP_sheets C k_171 d_TP_sheet_73 ?_
          refine x_iload_n C d_TP_sheet_76 1 rfl rfl ?_
          refine al_ss C sq rfl (by omega) d_TP_sheet_77 ?_
          refine gf_Sh_length C (by omega) (v := if b = 0 then 0 else m) (Eq.trans (congrFun (Eq.trans (va_up_ne _ _ (by omega)) (va_up_self _ _ _)) _) pk_us) k_154 d_TP_sheet_78 ?_
          exact x_iretK C (by first | with_reducible rfl | (simp [*]; done) | (simp_all; done)) (kfin (G' := va_up (va_up g (8 + sq) (upd (upd (g (8 + sq)) 0 b) 1 (if b = 0 then 0 else m))) (12 + sq) (zerN (g (12 + sq)) 40)) (by first | with_reducible rfl | (simp [*]; done) | (simp_all; done)) (va_idnn (by omega) (by omega)).symm) d_TP_sheet_81
        · have nc_4 := Int32.not_le.mp c_4
          refine x_aload_n C d_TP_sheet_54 0 rfl rfl ?_
          refine x_ldc C d_TP_sheet_55 k_197 ?_
          refine x_callVi C (c_TP_found_0 Z (g) _ rfl) mi_TP_found k_198 (show 0 < 50 by omega) (e_TP Z _) rfl (As := [.int ((-1000001))]) ⟨Nat.le_of_ble_eq_true rfl, Nat.le_of_ble_eq_true rfl⟩ rfl rfl (Nat.le_of_ble_eq_true rfl) d_TP_sheet_57 ?_
          exact x_iretK C (by first | with_reducible rfl | (simp [*]; done) | (simp_all; done)) (kfin (G' := va_up g 16 (fndR (g 16) 0)) (by first | with_reducible rfl | (simp [*]; done) | (simp_all; done)) (va_idn (by omega)).symm) d_TP_sheet_60
      · have nc_3 := Int32.not_le.mp c_3
        refine x_aload_n C d_TP_sheet_41 0 rfl rfl ?_
        refine x_ldc C d_TP_sheet_42 k_706 ?_
        refine x_callVi C (c_TP_found_6 Z (g) _ rfl) mi_TP_found k_198 (show 0 < 50 by omega) (e_TP Z _) rfl (As := [.int ((-1000007))]) ⟨Nat.le_of_ble_eq_true rfl, Nat.le_of_ble_eq_true rfl⟩ rfl rfl (Nat.le_of_ble_eq_true rfl) d_TP_sheet_44 ?_
        exact x_iretK C (by first | with_reducible rfl | (simp [*]; done) | (simp_all; done)) (kfin (G' := va_up g 16 (fndR (g 16) 6)) (by first | with_reducible rfl | (simp [*]; done) | (simp_all; done)) (va_idn (by omega)).symm) d_TP_sheet_47
    · refine x_iload_n C d_TP_sheet_12 2 rfl rfl ?_
      refine x_bipush C d_TP_sheet_13 (v := 8) (by decide) ?_
      refine x_icmp_eq C d_TP_sheet_15 37 (by decide) (fun c_5 => ?_) (fun c_5 => ?_)
      · refine x_iload_n C d_TP_sheet_37 3 rfl rfl ?_
        refine x_ifge C d_TP_sheet_38 48 (by decide) (fun c_6 => ?_) (fun c_6 => ?_)
        · have nc_6 := Int32.not_lt.mpr c_6
          refine x_iload_n C d_TP_sheet_48 3 rfl rfl ?_
          refine x_bipush C d_TP_sheet_49 (v := 40) (by decide) ?_
          refine x_icmp_le C d_TP_sheet_51 61 (by decide) (fun c_7 => ?_) (fun c_7 => ?_)
          · have nc_7 := Int32.not_lt.mpr c_7
            refine x_aload_n C d_TP_sheet_61 0 rfl rfl ?_
            refine gf_TP_sheets C k_171 d_TP_sheet_62 ?_
            refine x_iload_n C d_TP_sheet_65 1 rfl rfl ?_
            refine al_ss C sq rfl (by omega) d_TP_sheet_66 ?_
            refine x_iload_n C d_TP_sheet_67 2 rfl rfl ?_
            refine x_iload_n C d_TP_sheet_68 3 rfl rfl ?_
            refine x_callVv C (c_Sh_begin Z sq (by omega) b m (g)) mi_Sh_begin k_707 (show 5 + sq < 50 by omega) (e_Sh Z (by omega) _) rfl (As := [.int (b), .int (m)]) ⟨Nat.le_of_ble_eq_true rfl, Nat.le_of_ble_eq_true rfl⟩ rfl rfl (Nat.le_of_ble_eq_true rfl) d_TP_sheet_69 ?_
            refine x_aload_n C d_TP_sheet_72 0 rfl rfl ?_
            refine gf_TP_sheets C k_171 d_TP_sheet_73 ?_
            refine x_iload_n C d_TP_sheet_76 1 rfl rfl ?_
            refine al_ss C sq rfl (by omega) d_TP_sheet_77 ?_
            refine gf_Sh_length C (by omega) (v := if b = 0 then 0 else m) (Eq.trans (congrFun (Eq.trans (va_up_ne _ _ (by omega)) (va_up_self _ _ _)) _) pk_us) k_154 d_TP_sheet_78 ?_
            exact x_iretK C (by first | with_reducible rfl | (simp [*]; done) | (simp_all; done)) (kfin (G' := va_up (va_up g (8 + sq) (upd (upd (g (8 + sq)) 0 b) 1 (if b = 0 then 0 else m))) (12 + sq) (zerN (g (12 + sq)) 40)) (by first | with_reducible rfl | (simp [*]; done) | (simp_all; done)) (va_idnn (by omega) (by omega)).symm) d_TP_sheet_81
          · have nc_7 := Int32.not_le.mp c_7
            refine x_aload_n C d_TP_sheet_54 0 rfl rfl ?_
            refine x_ldc C d_TP_sheet_55 k_197 ?_
            refine x_callVi C (c_TP_found_0 Z (g) _ rfl) mi_TP_found k_198 (show 0 < 50 by omega) (e_TP Z _) rfl (As := [.int ((-1000001))]) ⟨Nat.le_of_ble_eq_true rfl, Nat.le_of_ble_eq_true rfl⟩ rfl rfl (Nat.le_of_ble_eq_true rfl) d_TP_sheet_57 ?_
            exact x_iretK C (by first | with_reducible rfl | (simp [*]; done) | (simp_all; done)) (kfin (G' := va_up g 16 (fndR (g 16) 0)) (by first | with_reducible rfl | (simp [*]; done) | (simp_all; done)) (va_idn (by omega)).symm) d_TP_sheet_60
        · have nc_6 := Int32.not_le.mp c_6
          refine x_aload_n C d_TP_sheet_41 0 rfl rfl ?_
          refine x_ldc C d_TP_sheet_42 k_706 ?_
          refine x_callVi C (c_TP_found_6 Z (g) _ rfl) mi_TP_found k_198 (show 0 < 50 by omega) (e_TP Z _) rfl (As := [.int ((-1000007))]) ⟨Nat.le_of_ble_eq_true rfl, Nat.le_of_ble_eq_true rfl⟩ rfl rfl (Nat.le_of_ble_eq_true rfl) d_TP_sheet_44 ?_
          exact x_iretK C (by first | with_reducible rfl | (simp [*]; done) | (simp_all; done)) (kfin (G' := va_up g 16 (fndR (g 16) 6)) (by first | with_reducible rfl | (simp [*]; done) | (simp_all; done)) (va_idn (by omega)).symm) d_TP_sheet_47
      · have nc_5 := Ne.symm c_5
        refine x_iload_n C d_TP_sheet_18 2 rfl rfl ?_
        refine x_bipush C d_TP_sheet_19 (v := 16) (by decide) ?_
        refine x_icmp_eq C d_TP_sheet_21 37 (by decide) (fun c_8 => ?_) (fun c_8 => ?_)
        · refine x_iload_n C d_TP_sheet_37 3 rfl rfl ?_
          refine x_ifge C d_TP_sheet_38 48 (by decide) (fun c_9 => ?_) (fun c_9 => ?_)
          · have nc_9 := Int32.not_lt.mpr c_9
            refine x_iload_n C d_TP_sheet_48 3 rfl rfl ?_
            refine x_bipush C d_TP_sheet_49 (v := 40) (by decide) ?_
            refine x_icmp_le C d_TP_sheet_51 61 (by decide) (fun c_10 => ?_) (fun c_10 => ?_)
            · have nc_10 := Int32.not_lt.mpr c_10
              refine x_aload_n C d_TP_sheet_61 0 rfl rfl ?_
              refine gf_TP_sheets C k_171 d_TP_sheet_62 ?_
              refine x_iload_n C d_TP_sheet_65 1 rfl rfl ?_
              refine al_ss C sq rfl (by omega) d_TP_sheet_66 ?_
              refine x_iload_n C d_TP_sheet_67 2 rfl rfl ?_
              refine x_iload_n C d_TP_sheet_68 3 rfl rfl ?_
              refine x_callVv C (c_Sh_begin Z sq (by omega) b m (g)) mi_Sh_begin k_707 (show 5 + sq < 50 by omega) (e_Sh Z (by omega) _) rfl (As := [.int (b), .int (m)]) ⟨Nat.le_of_ble_eq_true rfl, Nat.le_of_ble_eq_true rfl⟩ rfl rfl (Nat.le_of_ble_eq_true rfl) d_TP_sheet_69 ?_
              refine x_aload_n C d_TP_sheet_72 0 rfl rfl ?_
              refine gf_TP_sheets C k_171 d_TP_sheet_73 ?_
              refine x_iload_n C d_TP_sheet_76 1 rfl rfl ?_
              refine al_ss C sq rfl (by omega) d_TP_sheet_77 ?_
              refine gf_Sh_length C (by omega) (v := if b = 0 then 0 else m) (Eq.trans (congrFun (Eq.trans (va_up_ne _ _ (by omega)) (va_up_self _ _ _)) _) pk_us) k_154 d_TP_sheet_78 ?_
              exact x_iretK C (by first | with_reducible rfl | (simp [*]; done) | (simp_all; done)) (kfin (G' := va_up (va_up g (8 + sq) (upd (upd (g (8 + sq)) 0 b) 1 (if b = 0 then 0 else m))) (12 + sq) (zerN (g (12 + sq)) 40)) (by first | with_reducible rfl | (simp [*]; done) | (simp_all; done)) (va_idnn (by omega) (by omega)).symm) d_TP_sheet_81
            · have nc_10 := Int32.not_le.mp c_10
              refine x_aload_n C d_TP_sheet_54 0 rfl rfl ?_
              refine x_ldc C d_TP_sheet_55 k_197 ?_
              refine x_callVi C (c_TP_found_0 Z (g) _ rfl) mi_TP_found k_198 (show 0 < 50 by omega) (e_TP Z _) rfl (As := [.int ((-1000001))]) ⟨Nat.le_of_ble_eq_true rfl, Nat.le_of_ble_eq_true rfl⟩ rfl rfl (Nat.le_of_ble_eq_true rfl) d_TP_sheet_57 ?_
              exact x_iretK C (by first | with_reducible rfl | (simp [*]; done) | (simp_all; done)) (kfin (G' := va_up g 16 (fndR (g 16) 0)) (by first | with_reducible rfl | (simp [*]; done) | (simp_all; done)) (va_idn (by omega)).symm) d_TP_sheet_60
          · have nc_9 := Int32.not_le.mp c_9
            refine x_aload_n C d_TP_sheet_41 0 rfl rfl ?_
            refine x_ldc C d_TP_sheet_42 k_706 ?_
            refine x_callVi C (c_TP_found_6 Z (g) _ rfl) mi_TP_found k_198 (show 0 < 50 by omega) (e_TP Z _) rfl (As := [.int ((-1000007))]) ⟨Nat.le_of_ble_eq_true rfl, Nat.le_of_ble_eq_true rfl⟩ rfl rfl (Nat.le_of_ble_eq_true rfl) d_TP_sheet_44 ?_
            exact x_iretK C (by first | with_reducible rfl | (simp [*]; done) | (simp_all; done)) (kfin (G' := va_up g 16 (fndR (g 16) 6)) (by first | with_reducible rfl | (simp [*]; done) | (simp_all; done)) (va_idn (by omega)).symm) d_TP_sheet_47
        · have nc_8 := Ne.symm c_8
          refine x_iload_n C d_TP_sheet_24 2 rfl rfl ?_
          refine x_bipush C d_TP_sheet_25 (v := 32) (by decide) ?_
          refine x_icmp_eq C d_TP_sheet_27 37 (by decide) (fun c_11 => ?_) (fun c_11 => ?_)
          · refine x_iload_n C d_TP_sheet_37 3 rfl rfl ?_
            refine x_ifge C d_TP_sheet_38 48 (by decide) (fun c_12 => ?_) (fun c_12 => ?_)
            · have nc_12 := Int32.not_lt.mpr c_12
              refine x_iload_n C d_TP_sheet_48 3 rfl rfl ?_
              refine x_bipush C d_TP_sheet_49 (v := 40) (by decide) ?_
              refine x_icmp_le C d_TP_sheet_51 61 (by decide) (fun c_13 => ?_) (fun c_13 => ?_)
              · have nc_13 := Int32.not_lt.mpr c_13
                refine x_aload_n C d_TP_sheet_61 0 rfl rfl ?_
                refine gf_TP_sheets C k_171 d_TP_sheet_62 ?_
                refine x_iload_n C d_TP_sheet_65 1 rfl rfl ?_
                refine al_ss C sq rfl (by omega) d_TP_sheet_66 ?_
                refine x_iload_n C d_TP_sheet_67 2 rfl rfl ?_
                refine x_iload_n C d_TP_sheet_68 3 rfl rfl ?_
                refine x_callVv C (c_Sh_begin Z sq (by omega) b m (g)) mi_Sh_begin k_707 (show 5 + sq < 50 by omega) (e_Sh Z (by omega) _) rfl (As := [.int (b), .int (m)]) ⟨Nat.le_of_ble_eq_true rfl, Nat.le_of_ble_eq_true rfl⟩ rfl rfl (Nat.le_of_ble_eq_true rfl) d_TP_sheet_69 ?_
                refine x_aload_n C d_TP_sheet_72 0 rfl rfl ?_
                refine gf_TP_sheets C k_171 d_TP_sheet_73 ?_
                refine x_iload_n C d_TP_sheet_76 1 rfl rfl ?_
                refine al_ss C sq rfl (by omega) d_TP_sheet_77 ?_
                refine gf_Sh_length C (by omega) (v := if b = 0 then 0 else m) (Eq.trans (congrFun (Eq.trans (va_up_ne _ _ (by omega)) (va_up_self _ _ _)) _) pk_us) k_154 d_TP_sheet_78 ?_
                exact x_iretK C (by first | with_reducible rfl | (simp [*]; done) | (simp_all; done)) (kfin (G' := va_up (va_up g (8 + sq) (upd (upd (g (8 + sq)) 0 b) 1 (if b = 0 then 0 else m))) (12 + sq) (zerN (g (12 + sq)) 40)) (by first | with_reducible rfl | (simp [*]; done) | (simp_all; done)) (va_idnn (by omega) (by omega)).symm) d_TP_sheet_81
              · have nc_13 := Int32.not_le.mp c_13
                refine x_aload_n C d_TP_sheet_54 0 rfl rfl ?_
                refine x_ldc C d_TP_sheet_55 k_197 ?_
                refine x_callVi C (c_TP_found_0 Z (g) _ rfl) mi_TP_found k_198 (show 0 < 50 by omega) (e_TP Z _) rfl (As := [.int ((-1000001))]) ⟨Nat.le_of_ble_eq_true rfl, Nat.le_of_ble_eq_true rfl⟩ rfl rfl (Nat.le_of_ble_eq_true rfl) d_TP_sheet_57 ?_
                exact x_iretK C (by first | with_reducible rfl | (simp [*]; done) | (simp_all; done)) (kfin (G' := va_up g 16 (fndR (g 16) 0)) (by first | with_reducible rfl | (simp [*]; done) | (simp_all; done)) (va_idn (by omega)).symm) d_TP_sheet_60
            · have nc_12 := Int32.not_le.mp c_12
              refine x_aload_n C d_TP_sheet_41 0 rfl rfl ?_
              refine x_ldc C d_TP_sheet_42 k_706 ?_
              refine x_callVi C (c_TP_found_6 Z (g) _ rfl) mi_TP_found k_198 (show 0 < 50 by omega) (e_TP Z _) rfl (As := [.int ((-1000007))]) ⟨Nat.le_of_ble_eq_true rfl, Nat.le_of_ble_eq_true rfl⟩ rfl rfl (Nat.le_of_ble_eq_true rfl) d_TP_sheet_44 ?_
              exact x_iretK C (by first | with_reducible rfl | (simp [*]; done) | (simp_all; done)) (kfin (G' := va_up g 16 (fndR (g 16) 6)) (by first | with_reducible rfl | (simp [*]; done) | (simp_all; done)) (va_idn (by omega)).symm) d_TP_sheet_47
          · have nc_11 := Ne.symm c_11
            refine x_aload_n C d_TP_sheet_30 0 rfl rfl ?_
            refine x_ldc C d_TP_sheet_31 k_197 ?_
            refine x_callVi C (c_TP_found_0 Z (g) _ rfl) mi_TP_found k_198 (show 0 < 50 by omega) (e_TP Z _) rfl (As := [.int ((-1000001))]) ⟨Nat.le_of_ble_eq_true rfl, Nat.le_of_ble_eq_true rfl⟩ rfl rfl (Nat.le_of_ble_eq_true rfl) d_TP_sheet_33 ?_
            exact x_iretK C (by first | with_reducible rfl | (simp [*]; done) | (simp_all; done)) (kfin (G' := va_up g 16 (fndR (g 16) 0)) (by first | with_reducible rfl | (simp [*]; done) | (simp_all; done)) (va_idn (by omega)).symm) d_TP_sheet_36

set_option maxRecDepth 100000 in
set_option maxHeartbeats 600000 in
theorem c_TP_copy (Z : ZT) (s f t e m : Int32) (g : St)  (hk : okR (g 0)) (hS : ∀ s, s < 4 → ∃ L, L ≤ 40 ∧ g (8 + s) 1 = nI L) : CT yC Z y_TP_copy b_TP_copy 6 (some (.int)) 2 43 [.ref (Z.2.1 (0)), .int (s), .int (f), .int (t), .int (e), .int (m)] (g) (QkI yC Z (if ¬ ((0 ≤ s ∧ s ≤ 3) ∧ (0 ≤ t ∧ t ≤ 3)) then (-1000001) else if g (8 + s.toNatClampNeg) 0 = 0 ∨ g (8 + t.toNatClampNeg) 0 = 0 then (-1000006) else if ¬ g (8 + s.toNatClampNeg) 0 = g (8 + t.toNatClampNeg) 0 then (-1000003) else if ¬ ((0 ≤ f ∧ 0 ≤ m ∧ f ≤ g (8 + s.toNatClampNeg) 1 ∧ m ≤ g (8 + s.toNatClampNeg) 1 - f) ∧ (0 ≤ e ∧ 0 ≤ m ∧ e ≤ g (8 + t.toNatClampNeg) 1 ∧ m ≤ g (8 + t.toNatClampNeg) 1 - e)) then (-1000001) else m) (fun u => ∃ ρ : Nat → Int32, u = va_up (if ¬ ((0 ≤ s ∧ s ≤ 3) ∧ (0 ≤ t ∧ t ≤ 3)) then va_up g 16 (fndR (g 16) 0) else if g (8 + s.toNatClampNeg) 0 = 0 ∨ g (8 + t.toNatClampNeg) 0 = 0 then va_up g 16 (fndR (g 16) 5) else if ¬ g (8 + s.toNatClampNeg) 0 = g (8 + t.toNatClampNeg) 0 then va_up g 16 (fndR (g 16) 2) else if ¬ ((0 ≤ f ∧ 0 ≤ m ∧ f ≤ g (8 + s.toNatClampNeg) 1 ∧ m ≤ g (8 + s.toNatClampNeg) 1 - f) ∧ (0 ≤ e ∧ 0 ≤ m ∧ e ≤ g (8 + t.toNatClampNeg) 1 ∧ m ≤ g (8 + t.toNatClampNeg) 1 - e)) then va_up g 16 (fndR (g 16) 0) else va_up g (12 + t.toNatClampNeg) (va_cpy (g (12 + s.toNatClampNeg)) (g (12 + t.toNatClampNeg)) f.toNatClampNeg e.toNatClampNeg m.toNatClampNeg)) 1 ρ)) := by
  refine CT.mk "TunnelPeace" (by decide) rfl (Nat.le_of_ble_eq_true rfl) (fun X C => ?_)
  refine x_lv [0, 1, 2, 3, 4, 5] (lv' := [(0, .ref (Z.2.1 (0))), (1, .int (s)), (2, .int (f)), (3, .int (t)), (4, .int (e)), (5, .int (m))]) rfl ?_
  have hk0 := hk
  obtain ⟨⟨n, hn8, hn⟩, dd, hdd, hd⟩ := hk
  refine x_iload_n C d_TP_copy_0 1 rfl rfl ?_
  refine x_iconst C d_TP_copy_1 (v := 3) (by decide) ?_
  refine x_callSi C (c_TP_within Z s 3 (g)) mi_TP_within k_194 (As := [.int (s), .int (3)]) ⟨Nat.le_of_ble_eq_true rfl, Nat.le_of_ble_eq_true rfl⟩ rfl rfl (Nat.le_of_ble_eq_true rfl) d_TP_copy_2 ?_
  refine x_ifeqB C d_TP_copy_5 16 (by decide) (fun c_1 => ?_) (fun c_1 => ?_)
  · refine x_aload_n C d_TP_copy_16 0 rfl rfl ?_
    refine x_ldc C d_TP_copy_17 k_197 ?_
    refine x_callVi C (c_TP_found_0 Z (g) _ rfl) mi_TP_found k_198 (show 0 < 50 by omega) (e_TP Z _) rfl (As := [.int ((-1000001))]) ⟨Nat.le_of_ble_eq_true rfl, Nat.le_of_ble_eq_true rfl⟩ rfl rfl (Nat.le_of_ble_eq_true rfl) d_TP_copy_19 ?_
    exact x_iretK C (by first | with_reducible rfl | (simp [*]; done) | (simp_all; done)) (kfin (G' := va_up g 16 (fndR (g 16) 0)) (by first | with_reducible rfl | (simp [*]; done) | (simp_all; done)) (va_idn (by omega)).symm) d_TP_copy_22
  · obtain ⟨sq, hsq, rfl⟩ := in_le (n := 3) c_1 (by decide)
    have hcs : (nI sq).toNatClampNeg = sq := nI_clamp (by omega)
    refine x_iload_n C d_TP_copy_8 3 rfl rfl ?_
    refine x_iconst C d_TP_copy_9 (v := 3) (by decide) ?_
    refine x_callSi C (c_TP_within Z t 3 (g)) mi_TP_within k_194 (As := [.int (t), .int (3)]) ⟨Nat.le_of_ble_eq_true rfl, Nat.le_of_ble_eq_true rfl⟩ rfl rfl (Nat.le_of_ble_eq_true rfl) d_TP_copy_10 ?_
    refine x_ifneB C d_TP_copy_13 23 (by decide) (fun c_2 => ?_) (fun c_2 => ?_)
    · obtain ⟨tq, htq, rfl⟩ := in_le (n := 3) c_2 (by decide)
      have hct : (nI tq).toNatClampNeg = tq := nI_clamp (by omega)
      obtain ⟨L, hL4, hL⟩ := hS sq (by omega)
      obtain ⟨L2, hL24, hL2⟩ := hS tq (by omega)
      refine x_aload_n C d_TP_copy_23 0 rfl rfl ?_
      refine gf_TP_sheets C k_171 d_TP_copy_24 ?_
      refine x_iload_n C d_TP_copy_27 1 rfl rfl ?_
      refine al_ss C sq rfl (by omega) d_TP_copy_28 ?_
      refine x_callVi C (c_Sh_isMissing Z sq (by omega) (g)) mi_Sh_isMissing k_501 (show 5 + sq < 50 by omega) (e_Sh Z (by omega) _) rfl (As := []) ⟨Nat.le_of_ble_eq_true rfl, Nat.le_of_ble_eq_true rfl⟩ rfl rfl (Nat.le_of_ble_eq_true rfl) d_TP_copy_29 ?_
      refine x_ifneB C d_TP_copy_32 47 (by decide) (fun c_3 => ?_) (fun c_3 => ?_)
      · refine x_aload_n C d_TP_copy_47 0 rfl rfl ?_
        refine x_ldc C d_TP_copy_48 k_505 ?_
        refine x_callVi C (c_TP_found_5 Z (g) _ rfl) mi_TP_found k_198 (show 0 < 50 by omega) (e_TP Z _) rfl (As := [.int ((-1000006))]) ⟨Nat.le_of_ble_eq_true rfl, Nat.le_of_ble_eq_true rfl⟩ rfl rfl (Nat.le_of_ble_eq_true rfl) d_TP_copy_50 ?_
        exact x_iretK C (by first | with_reducible rfl | (simp [*]; done) | (simp_all; done)) (kfin (G' := va_up g 16 (fndR (g 16) 5)) (by first | with_reducible rfl | (simp [*]; done) | (simp_all; done)) (va_idn (by omega)).symm) d_TP_copy_53
      · refine x_aload_n C d_TP_copy_35 0 rfl rfl ?_
        refine gf_TP_sheets C k_171 d_TP_copy_36 ?_
        refine x_iload_n C d_TP_copy_39 3 rfl rfl ?_
        refine al_ss C tq rfl (by omega) d_TP_copy_40 ?_
        refine x_callVi C (c_Sh_isMissing Z tq (by omega) (g)) mi_Sh_isMissing k_501 (show 5 + tq < 50 by omega) (e_Sh Z (by omega) _) rfl (As := []) ⟨Nat.le_of_ble_eq_true rfl, Nat.le_of_ble_eq_true rfl⟩ rfl rfl (Nat.le_of_ble_eq_true rfl) d_TP_copy_41 ?_
        refine x_ifeqB C d_TP_copy_44 54 (by decide) (fun c_4 => ?_) (fun c_4 => ?_)
        · refine x_aload_n C d_TP_copy_54 0 rfl rfl ?_
          refine gf_TP_sheets C k_171 d_TP_copy_55 ?_
          refine x_iload_n C d_TP_copy_58 1 rfl rfl ?_
          refine al_ss C sq rfl (by omega) d_TP_copy_59 ?_
          refine gf_Sh_bits C (by omega) (v := (g (8 + sq)) 0) rfl k_151 d_TP_copy_60 ?_
          refine x_aload_n C d_TP_copy_63 0 rfl rfl ?_
          refine gf_TP_sheets C k_171 d_TP_copy_64 ?_
          refine x_iload_n C d_TP_copy_67 3 rfl rfl ?_
          refine al_ss C tq rfl (by omega) d_TP_copy_68 ?_
          refine gf_Sh_bits C (by omega) (v := (g (8 + tq)) 0) rfl k_151 d_TP_copy_69 ?_
          refine x_icmp_eq C d_TP_copy_72 82 (by decide) (fun c_5 => ?_) (fun c_5 => ?_)
          · refine x_aload_n C d_TP_copy_82 0 rfl rfl ?_
            refine gf_TP_sheets C k_171 d_TP_copy_83 ?_
            refine x_iload_n C d_TP_copy_86 1 rfl rfl ?_
            refine al_ss C sq rfl (by omega) d_TP_copy_87 ?_
            refine x_iload_n C d_TP_copy_88 2 rfl rfl ?_
            refine x_iload C d_TP_copy_89 5 rfl ?_
            refine x_callVi C (c_Sh_hasRange Z sq (by omega) f m (g)) mi_Sh_hasRange k_723 (show 5 + sq < 50 by omega) (e_Sh Z (by omega) _) rfl (As := [.int (f), .int (m)]) ⟨Nat.le_of_ble_eq_true rfl, Nat.le_of_ble_eq_true rfl⟩ rfl rfl (Nat.le_of_ble_eq_true rfl) d_TP_copy_91 ?_
            refine x_ifeqB C d_TP_copy_94 113 (by decide) (fun c_6 => ?_) (fun c_6 => ?_)
            · refine x_aload_n C d_TP_copy_113 0 rfl rfl ?_
              refine x_ldc C d_TP_copy_114 k_197 ?_
              refine x_callVi C (c_TP_found_0 Z (g) _ rfl) mi_TP_found k_198 (show 0 < 50 by omega) (e_TP Z _) rfl (As := [.int ((-1000001))]) ⟨Nat.le_of_ble_eq_true rfl, Nat.le_of_ble_eq_true rfl⟩ rfl rfl (Nat.le_of_ble_eq_true rfl) d_TP_copy_116 ?_
              exact x_iretK C (by simp only [hcs, hct]; rw [if_neg (fun h => h ⟨by assumption, by assumption⟩), if_neg (by rintro (h | h) <;> contradiction), if_neg (fun h => h (by assumption)), if_pos (by first | exact fun h => absurd h.1 (by assumption) | exact fun h => absurd h.2 (by assumption))]) (kfin (G' := va_up g 16 (fndR (g 16) 0)) (by simp only [hcs, hct]; rw [if_neg (fun h => h ⟨by assumption, by assumption⟩), if_neg (by rintro (h | h) <;> contradiction), if_neg (fun h => h (by assumption)), if_pos (by first | exact fun h => absurd h.1 (by assumption) | exact fun h => absurd h.2 (by assumption))]) (va_idn (by omega)).symm) d_TP_copy_119
            · refine x_aload_n C d_TP_copy_97 0 rfl rfl ?_
              refine gf_TP_sheets C k_171 d_TP_copy_98 ?_
              refine x_iload_n C d_TP_copy_101 3 rfl rfl ?_
              refine al_ss C tq rfl (by omega) d_TP_copy_102 ?_
              refine x_iload C d_TP_copy_103 4 rfl ?_
              refine x_iload C d_TP_copy_105 5 rfl ?_
              refine x_callVi C (c_Sh_hasRange Z tq (by omega) e m (g)) mi_Sh_hasRange k_723 (show 5 + tq < 50 by omega) (e_Sh Z (by omega) _) rfl (As := [.int (e), .int (m)]) ⟨Nat.le_of_ble_eq_true rfl, Nat.le_of_ble_eq_true rfl⟩ rfl rfl (Nat.le_of_ble_eq_true rfl) d_TP_copy_107 ?_
              refine x_ifneB C d_TP_copy_110 120 (by decide) (fun c_7 => ?_) (fun c_7 => ?_)
              · obtain ⟨fq, mq, ef, em, hfm⟩ := rng (by rw [← hL]; assumption) hL4
                subst ef; subst em
                obtain ⟨tq2, mq2, et, em2, htm⟩ := rng (by rw [← hL2]; assumption) hL24
                subst et
                have emm : mq = mq2 := by rwa [nI_eq (by omega) (by omega)] at em2
                have hcf : (nI fq).toNatClampNeg = fq := nI_clamp (by omega)
                have hcm : (nI mq).toNatClampNeg = mq := nI_clamp (by omega)
                have hct2 : (nI tq2).toNatClampNeg = tq2 := nI_clamp (by omega)
                refine x_aload_n C d_TP_copy_120 0 rfl rfl ?_
                refine gf_TP_sheets C k_171 d_TP_copy_121 ?_
                refine x_iload_n C d_TP_copy_124 1 rfl rfl ?_
                refine al_ss C sq rfl (by omega) d_TP_copy_125 ?_
                refine gf_Sh_numbers C (by omega) k_157 d_TP_copy_126 ?_
                refine x_iload_n C d_TP_copy_129 2 rfl rfl ?_
                refine x_aload_n C d_TP_copy_130 0 rfl rfl ?_
                refine gf_TP_sheets C k_171 d_TP_copy_131 ?_
                refine x_iload_n C d_TP_copy_134 3 rfl rfl ?_
                refine al_ss C tq rfl (by omega) d_TP_copy_135 ?_
                refine gf_Sh_numbers C (by omega) k_157 d_TP_copy_136 ?_
                refine x_iload C d_TP_copy_139 4 rfl ?_
                refine x_iload C d_TP_copy_141 5 rfl ?_
                refine x_acopy C k_727 d_TP_copy_143 (show 9 + sq < 50 by omega) (show 9 + tq < 50 by omega) (e_nu Z (by omega) _) (e_nu Z (by omega) _) fq tq2 mq rfl rfl rfl (by omega) (by omega) (by decide) (by decide) (Nat.le_of_ble_eq_true rfl) (Nat.le_of_ble_eq_true rfl) (sw_N (by omega) (by omega) (by omega) (by omega)) ?_
                refine x_iload C d_TP_copy_146 5 rfl ?_
                exact x_iretK C (by simp only [hcs, hct]; rw [if_neg (fun h => h ⟨by assumption, by assumption⟩), if_neg (by rintro (h | h) <;> contradiction), if_neg (fun h => h (by assumption)), if_neg (fun h => h ⟨by assumption, by assumption⟩)]) (kfin (G' := va_up g (12 + tq) (va_cpy (g (12 + sq)) (g (12 + tq)) fq tq2 mq)) (by simp only [hcs, hct, hcf, hcm, hct2]; rw [if_neg (fun h => h ⟨by assumption, by assumption⟩), if_neg (by rintro (h | h) <;> contradiction), if_neg (fun h => h (by assumption)), if_neg (fun h => h ⟨by assumption, by assumption⟩)]) (va_idn (by omega)).symm) d_TP_copy_148
              · refine x_aload_n C d_TP_copy_113 0 rfl rfl ?_
                refine x_ldc C d_TP_copy_114 k_197 ?_
                refine x_callVi C (c_TP_found_0 Z (g) _ rfl) mi_TP_found k_198 (show 0 < 50 by omega) (e_TP Z _) rfl (As := [.int ((-1000001))]) ⟨Nat.le_of_ble_eq_true rfl, Nat.le_of_ble_eq_true rfl⟩ rfl rfl (Nat.le_of_ble_eq_true rfl) d_TP_copy_116 ?_
                exact x_iretK C (by simp only [hcs, hct]; rw [if_neg (fun h => h ⟨by assumption, by assumption⟩), if_neg (by rintro (h | h) <;> contradiction), if_neg (fun h => h (by assumption)), if_pos (by first | exact fun h => absurd h.1 (by assumption) | exact fun h => absurd h.2 (by assumption))]) (kfin (G' := va_up g 16 (fndR (g 16) 0)) (by simp only [hcs, hct]; rw [if_neg (fun h => h ⟨by assumption, by assumption⟩), if_neg (by rintro (h | h) <;> contradiction), if_neg (fun h => h (by assumption)), if_pos (by first | exact fun h => absurd h.1 (by assumption) | exact fun h => absurd h.2 (by assumption))]) (va_idn (by omega)).symm) d_TP_copy_119
          · have nc_5 := Ne.symm c_5
            refine x_aload_n C d_TP_copy_75 0 rfl rfl ?_
            refine x_ldc C d_TP_copy_76 k_701 ?_
            refine x_callVi C (c_TP_found_2 Z (g) _ rfl) mi_TP_found k_198 (show 0 < 50 by omega) (e_TP Z _) rfl (As := [.int ((-1000003))]) ⟨Nat.le_of_ble_eq_true rfl, Nat.le_of_ble_eq_true rfl⟩ rfl rfl (Nat.le_of_ble_eq_true rfl) d_TP_copy_78 ?_
            exact x_iretK C (by first | with_reducible rfl | (simp [*]; done) | (simp_all; done)) (kfin (G' := va_up g 16 (fndR (g 16) 2)) (by first | with_reducible rfl | (simp [*]; done) | (simp_all; done)) (va_idn (by omega)).symm) d_TP_copy_81
        · refine x_aload_n C d_TP_copy_47 0 rfl rfl ?_
          refine x_ldc C d_TP_copy_48 k_505 ?_
          refine x_callVi C (c_TP_found_5 Z (g) _ rfl) mi_TP_found k_198 (show 0 < 50 by omega) (e_TP Z _) rfl (As := [.int ((-1000006))]) ⟨Nat.le_of_ble_eq_true rfl, Nat.le_of_ble_eq_true rfl⟩ rfl rfl (Nat.le_of_ble_eq_true rfl) d_TP_copy_50 ?_
          exact x_iretK C (by first | with_reducible rfl | (simp [*]; done) | (simp_all; done)) (kfin (G' := va_up g 16 (fndR (g 16) 5)) (by first | with_reducible rfl | (simp [*]; done) | (simp_all; done)) (va_idn (by omega)).symm) d_TP_copy_53
    · refine x_aload_n C d_TP_copy_16 0 rfl rfl ?_
      refine x_ldc C d_TP_copy_17 k_197 ?_
      refine x_callVi C (c_TP_found_0 Z (g) _ rfl) mi_TP_found k_198 (show 0 < 50 by omega) (e_TP Z _) rfl (As := [.int ((-1000001))]) ⟨Nat.le_of_ble_eq_true rfl, Nat.le_of_ble_eq_true rfl⟩ rfl rfl (Nat.le_of_ble_eq_true rfl) d_TP_copy_19 ?_
      exact x_iretK C (by first | with_reducible rfl | (simp [*]; done) | (simp_all; done)) (kfin (G' := va_up g 16 (fndR (g 16) 0)) (by first | with_reducible rfl | (simp [*]; done) | (simp_all; done)) (va_idn (by omega)).symm) d_TP_copy_22

set_option maxRecDepth 100000 in
set_option maxHeartbeats 600000 in
theorem c_TP_image (Z : ZT)  (g : St)  (hk : okR (g 0)) : CT yC Z y_TP_image b_TP_image 1 (some (.int)) 2 48 [.ref (Z.2.1 (0))] (g) (QkI yC Z (1) (fun u => ∃ ρ : Nat → Int32, u = va_up (va_up (va_up g 2 (becR (g 2) (g 0))) 3 (upd (g 3) 3 1)) 1 ρ)) := by
  refine CT.mk "TunnelPeace" (by decide) rfl (Nat.le_of_ble_eq_true rfl) (fun X C => ?_)
  refine x_lv [0] (lv' := [(0, .ref (Z.2.1 (0)))]) rfl ?_
  have hk0 := hk
  obtain ⟨⟨n, hn8, hn⟩, dd, hdd, hd⟩ := hk
  refine x_aload_n C d_TP_image_0 0 rfl rfl ?_
  refine gf_TP_kept C k_167 d_TP_image_1 ?_
  refine x_aload_n C d_TP_image_4 0 rfl rfl ?_
  refine gf_TP_tunnel C k_165 d_TP_image_5 ?_
  refine x_callVv C (c_Tu_become Z 2 0 (by omega) (by omega) (by omega) (g) _ rfl _ rfl hk0) mi_Tu_become k_573 (show 14 + 12 * 2 < 50 by omega) (e_Tu Z 2 _) rfl (As := [.ref (Z.2.1 (14 + 12 * 0))]) ⟨Nat.le_of_ble_eq_true rfl, Nat.le_of_ble_eq_true rfl⟩ rfl rfl (Nat.le_of_ble_eq_true rfl) d_TP_image_8 ?_
  refine x_aload_n C d_TP_image_11 0 rfl rfl ?_
  refine x_iconst C d_TP_image_12 (v := 1) (by decide) ?_
  refine pf_TP_keeps C (v := 1) (by decide) (G := va_up (va_up g 2 (becR (g 2) (g 0))) 3 (upd (g 3) 3 1)) (congrArg (fun z => va_up _ _ (upd z _ _)) (va_up_ne _ _ (by omega))) k_168 d_TP_image_13 ?_
  refine x_iconst C d_TP_image_16 (v := 1) (by decide) ?_
  exact x_iretK C rfl (kfin (G' := va_up (va_up g 2 (becR (g 2) (g 0))) 3 (upd (g 3) 3 1)) (by first | with_reducible rfl | (simp [*]; done) | (simp_all; done)) (va_idnn (by omega) (by omega)).symm) d_TP_image_17

set_option maxRecDepth 100000 in
set_option maxHeartbeats 600000 in
theorem c_TP_undo (Z : ZT)  (g : St)  (hk : okR (g 0)) (hk2 : ¬ g 3 3 = 0 → okR (g 2)) : CT yC Z y_TP_undo b_TP_undo 1 (some (.int)) 2 48 [.ref (Z.2.1 (0))] (g) (QkI yC Z (if g 3 3 = 0 then (-1000004) else g 2 0) (fun u => ∃ ρ : Nat → Int32, u = va_up (if g 3 3 = 0 then va_up g 16 (fndR (g 16) 3) else va_up g 0 (becR (g 0) (g 2))) 1 ρ)) := by
  refine CT.mk "TunnelPeace" (by decide) rfl (Nat.le_of_ble_eq_true rfl) (fun X C => ?_)
  refine x_lv [0] (lv' := [(0, .ref (Z.2.1 (0)))]) rfl ?_
  have hk0 := hk
  obtain ⟨⟨n, hn8, hn⟩, dd, hdd, hd⟩ := hk
  refine x_aload_n C d_TP_undo_0 0 rfl rfl ?_
  refine gf_TP_keeps C (v := g 3 3) rfl k_168 d_TP_undo_1 ?_
  refine x_ifne C d_TP_undo_4 14 (by decide) (fun c_1 => ?_) (fun c_1 => ?_)
  · refine x_aload_n C d_TP_undo_14 0 rfl rfl ?_
    refine gf_TP_tunnel C k_165 d_TP_undo_15 ?_
    refine x_aload_n C d_TP_undo_18 0 rfl rfl ?_
    refine gf_TP_kept C k_167 d_TP_undo_19 ?_
    refine x_callVv C (c_Tu_become Z 0 2 (by omega) (by omega) (by omega) (g) _ rfl _ rfl (hk2 (by assumption))) mi_Tu_become k_573 (show 14 + 12 * 0 < 50 by omega) (e_Tu Z 0 _) rfl (As := [.ref (Z.2.1 (14 + 12 * 2))]) ⟨Nat.le_of_ble_eq_true rfl, Nat.le_of_ble_eq_true rfl⟩ rfl rfl (Nat.le_of_ble_eq_true rfl) d_TP_undo_22 ?_
    refine x_aload_n C d_TP_undo_25 0 rfl rfl ?_
    refine gf_TP_tunnel C k_165 d_TP_undo_26 ?_
    refine gf_Tu_day C (by omega) (v := g 2 0) (Eq.trans (congrFun (va_up_self _ _ _) _) (becR_e.hd (by decide))) k_67 d_TP_undo_29 ?_
    exact x_iretK C (by first | with_reducible rfl | (simp [*]; done) | (simp_all; done)) (kfin (G' := va_up g 0 (becR (g 0) (g 2))) (by first | with_reducible rfl | (simp [*]; done) | (simp_all; done)) (va_idn (by omega)).symm) d_TP_undo_32
  · refine x_aload_n C d_TP_undo_7 0 rfl rfl ?_
    refine x_ldc C d_TP_undo_8 k_409 ?_
    refine x_callVi C (c_TP_found_3 Z (g) _ rfl) mi_TP_found k_198 (show 0 < 50 by omega) (e_TP Z _) rfl (As := [.int ((-1000004))]) ⟨Nat.le_of_ble_eq_true rfl, Nat.le_of_ble_eq_true rfl⟩ rfl rfl (Nat.le_of_ble_eq_true rfl) d_TP_undo_10 ?_
    exact x_iretK C (by first | with_reducible rfl | (simp [*]; done) | (simp_all; done)) (kfin (G' := va_up g 16 (fndR (g 16) 3)) (by first | with_reducible rfl | (simp [*]; done) | (simp_all; done)) (va_idn (by omega)).symm) d_TP_undo_13

set_option maxRecDepth 100000 in
set_option maxHeartbeats 600000 in
theorem c_TP_tear (Z : ZT)  (g : St)  (hk : okR (g 0)) : CT yC Z y_TP_tear b_TP_tear 2 (some (.int)) 0 0 [.ref (Z.2.1 (0))] (g) (QkI yC Z (if g 3 3 = 0 then 0 else 1) (fun u => ∃ ρ : Nat → Int32, u = va_up (va_up g 3 (upd (g 3) 3 0)) 1 ρ)) := by
  refine CT.mk "TunnelPeace" (by decide) rfl (Nat.le_of_ble_eq_true rfl) (fun X C => ?_)
  refine x_lv [0] (lv' := [(0, .ref (Z.2.1 (0)))]) rfl ?_
  have hk0 := hk
  obtain ⟨⟨n, hn8, hn⟩, dd, hdd, hd⟩ := hk
  refine x_aload_n C d_TP_tear_0 0 rfl rfl ?_
  refine gf_TP_keeps C (v := g 3 3) rfl k_168 d_TP_tear_1 ?_
  refine x_ifeq C d_TP_tear_4 11 (by decide) (fun c_1 => ?_) (fun c_1 => ?_)
  · refine x_iconst C d_TP_tear_11 (v := 0) (by decide) ?_
    refine x_istore_n C d_TP_tear_12 rfl (by decide) (lv' := [(1, .int (0)), (0, .ref (Z.2.1 (0)))]) rfl ?_
    refine x_aload_n C d_TP_tear_13 1 rfl rfl ?_
    refine x_iconst C d_TP_tear_14 (v := 0) (by decide) ?_
    refine pf_TP_keeps C (v := 0) (by decide) (G := va_up g 3 (upd (g 3) 3 0)) rfl k_168 d_TP_tear_15 ?_
    refine x_iload_n C d_TP_tear_18 0 rfl rfl ?_
    exact x_iretK C (by first | with_reducible rfl | (simp [*]; done) | (simp_all; done)) (kfin (G' := va_up g 3 (upd (g 3) 3 0)) (by first | with_reducible rfl | (simp [*]; done) | (simp_all; done)) (va_idn (by omega)).symm) d_TP_tear_19
  · refine x_iconst C d_TP_tear_7 (v := 1) (by decide) ?_
    refine x_goto C d_TP_tear_8 12 (by decide) ?_
    refine x_istore_n C d_TP_tear_12 rfl (by decide) (lv' := [(1, .int (1)), (0, .ref (Z.2.1 (0)))]) rfl ?_
    refine x_aload_n C d_TP_tear_13 1 rfl rfl ?_
    refine x_iconst C d_TP_tear_14 (v := 0) (by decide) ?_
    refine pf_TP_keeps C (v := 0) (by decide) (G := va_up g 3 (upd (g 3) 3 0)) rfl k_168 d_TP_tear_15 ?_
    refine x_iload_n C d_TP_tear_18 0 rfl rfl ?_
    exact x_iretK C (by first | with_reducible rfl | (simp [*]; done) | (simp_all; done)) (kfin (G' := va_up g 3 (upd (g 3) 3 0)) (by first | with_reducible rfl | (simp [*]; done) | (simp_all; done)) (va_idn (by omega)).symm) d_TP_tear_19

set_option maxRecDepth 100000 in
set_option maxHeartbeats 600000 in
theorem c_TP_count (Z : ZT) (w : Int32) (g : St)  (hk : okR (g 0)) : CT yC Z y_TP_count b_TP_count 2 (some (.int)) 2 43 [.ref (Z.2.1 (0)), .int (w)] (g) (QkI yC Z (if w = 0 then g 0 0 else if w = 1 then g 0 1 else if w = 2 then g 0 3 else if w = 3 then sumN (g 0) (sz (g 0)) else if w = 4 then bc (seaN (g 0) (sz (g 0))) else if w = 5 then g 5 0 else if w = 6 then g 0 2 else if w = 7 then spoN (g 0) 10 else (-1000001)) (fun u => ∃ ρ : Nat → Int32, u = va_up (if w = 0 then g else if w = 1 then g else if w = 2 then g else if w = 3 then g else if w = 4 then g else if w = 5 then g else if w = 6 then g else if w = 7 then g else va_up g 16 (fndR (g 16) 0)) 1 ρ)) := by
  refine CT.mk "TunnelPeace" (by decide) rfl (Nat.le_of_ble_eq_true rfl) (fun X C => ?_)
  refine x_lv [0, 1] (lv' := [(0, .ref (Z.2.1 (0))), (1, .int (w))]) rfl ?_
  have hk0 := hk
  obtain ⟨⟨n, hn8, hn⟩, dd, hdd, hd⟩ := hk
  refine x_iload_n C d_TP_count_0 1 rfl rfl ?_
  by_cases c_1 : w = 0
  · refine x_tabAt C d_TP_count_1 c_1 (by decide) (by decide) (off := 47) (by decide) 48 (by decide) ?_
    refine x_aload_n C d_TP_count_48 0 rfl rfl ?_
    refine gf_TP_tunnel C k_165 d_TP_count_49 ?_
    refine gf_Tu_day C (by omega) (v := g 0 0) rfl k_67 d_TP_count_52 ?_
    exact x_iretK C (by simp [*]) (kfin (G' := g) (by first | with_reducible rfl | (simp [*]; done) | (simp_all; done)) (va_id g 1).symm) d_TP_count_55
  by_cases c_2 : w = 1
  · refine x_tabAt C d_TP_count_1 c_2 (by decide) (by decide) (off := 55) (by decide) 56 (by decide) ?_
    refine x_aload_n C d_TP_count_56 0 rfl rfl ?_
    refine gf_TP_tunnel C k_165 d_TP_count_57 ?_
    refine gf_Tu_size C (by omega) (v := nI n) hn k_76 d_TP_count_60 ?_
    exact x_iretK C (by simp [*]) (kfin (G' := g) (by first | with_reducible rfl | (simp [*]; done) | (simp_all; done)) (va_id g 1).symm) d_TP_count_63
  by_cases c_3 : w = 2
  · refine x_tabAt C d_TP_count_1 c_3 (by decide) (by decide) (off := 63) (by decide) 64 (by decide) ?_
    refine x_aload_n C d_TP_count_64 0 rfl rfl ?_
    refine gf_TP_tunnel C k_165 d_TP_count_65 ?_
    refine gf_Tu_guns C (by omega) (v := g 0 3) rfl k_69 d_TP_count_68 ?_
    exact x_iretK C (by simp [*]) (kfin (G' := g) (by first | with_reducible rfl | (simp [*]; done) | (simp_all; done)) (va_id g 1).symm) d_TP_count_71
  by_cases c_4 : w = 3
  · refine x_tabAt C d_TP_count_1 c_4 (by decide) (by decide) (off := 71) (by decide) 72 (by decide) ?_
    refine x_aload_n C d_TP_count_72 0 rfl rfl ?_
    refine gf_TP_tunnel C k_165 d_TP_count_73 ?_
    refine x_callVi C (c_Tu_allMet Z 0 (by omega) (g) _ rfl hk0) mi_Tu_allMet k_344 (show 14 + 12 * 0 < 50 by omega) (e_Tu Z 0 _) rfl (As := []) ⟨Nat.le_of_ble_eq_true rfl, Nat.le_of_ble_eq_true rfl⟩ rfl rfl (Nat.le_of_ble_eq_true rfl) d_TP_count_76 ?_
    exact x_iretK C (by simp [*]) (kfin (G' := g) (by first | with_reducible rfl | (simp [*]; done) | (simp_all; done)) (va_id g 1).symm) d_TP_count_79
  by_cases c_5 : w = 4
  · refine x_tabAt C d_TP_count_1 c_5 (by decide) (by decide) (off := 79) (by decide) 80 (by decide) ?_
    refine x_aload_n C d_TP_count_80 0 rfl rfl ?_
    refine gf_TP_tunnel C k_165 d_TP_count_81 ?_
    refine x_callVi C (c_Tu_peopleWithSeason Z 0 (by omega) (g) _ rfl hk0) mi_Tu_peopleWithSeason k_356 (show 14 + 12 * 0 < 50 by omega) (e_Tu Z 0 _) rfl (As := []) ⟨Nat.le_of_ble_eq_true rfl, Nat.le_of_ble_eq_true rfl⟩ rfl rfl (Nat.le_of_ble_eq_true rfl) d_TP_count_84 ?_
    refine x_callSi C (c_JI_bitCount Z (seaN (g 0) (sz (g 0))) (g)) mi_JI_bitCount k_763 (As := [.int (seaN (g 0) (sz (g 0)))]) ⟨Nat.le_of_ble_eq_true rfl, Nat.le_of_ble_eq_true rfl⟩ rfl rfl (Nat.le_of_ble_eq_true rfl) d_TP_count_87 ?_
    exact x_iretK C (by simp [*]) (kfin (G' := g) (by first | with_reducible rfl | (simp [*]; done) | (simp_all; done)) (va_id g 1).symm) d_TP_count_90
  by_cases c_6 : w = 5
  · refine x_tabAt C d_TP_count_1 c_6 (by decide) (by decide) (off := 90) (by decide) 91 (by decide) ?_
    refine x_aload_n C d_TP_count_91 0 rfl rfl ?_
    refine gf_TP_tape C k_170 d_TP_count_92 ?_
    refine gf_Ta_length C (v := g 5 0) rfl k_123 d_TP_count_95 ?_
    exact x_iretK C (by simp [*]) (kfin (G' := g) (by first | with_reducible rfl | (simp [*]; done) | (simp_all; done)) (va_id g 1).symm) d_TP_count_98
  by_cases c_7 : w = 6
  · refine x_tabAt C d_TP_count_1 c_7 (by decide) (by decide) (off := 98) (by decide) 99 (by decide) ?_
    refine x_aload_n C d_TP_count_99 0 rfl rfl ?_
    refine gf_TP_tunnel C k_165 d_TP_count_100 ?_
    refine gf_Tu_z C (by omega) (v := g 0 2) rfl k_73 d_TP_count_103 ?_
    exact x_iretK C (by simp [*]) (kfin (G' := g) (by first | with_reducible rfl | (simp [*]; done) | (simp_all; done)) (va_id g 1).symm) d_TP_count_106
  by_cases c_8 : w = 7
  · refine x_tabAt C d_TP_count_1 c_8 (by decide) (by decide) (off := 106) (by decide) 107 (by decide) ?_
    refine x_aload_n C d_TP_count_107 0 rfl rfl ?_
    refine gf_TP_tunnel C k_165 d_TP_count_108 ?_
    refine x_callVi C (c_Tu_spotsTaken Z 0 (by omega) (g) _ rfl hk0) mi_Tu_spotsTaken k_764 (show 14 + 12 * 0 < 50 by omega) (e_Tu Z 0 _) rfl (As := []) ⟨Nat.le_of_ble_eq_true rfl, Nat.le_of_ble_eq_true rfl⟩ rfl rfl (Nat.le_of_ble_eq_true rfl) d_TP_count_111 ?_
    exact x_iretK C (by simp [*]) (kfin (G' := g) (by first | with_reducible rfl | (simp [*]; done) | (simp_all; done)) (va_id g 1).symm) d_TP_count_114
  · have ic_1 := i32_ne c_1 (z := 0) (by decide)
    have ic_2 := i32_ne c_2 (z := 1) (by decide)
    have ic_3 := i32_ne c_3 (z := 2) (by decide)
    have ic_4 := i32_ne c_4 (z := 3) (by decide)
    have ic_5 := i32_ne c_5 (z := 4) (by decide)
    have ic_6 := i32_ne c_6 (z := 5) (by decide)
    have ic_7 := i32_ne c_7 (z := 6) (by decide)
    have ic_8 := i32_ne c_8 (z := 7) (by decide)
    refine x_tabOut C d_TP_count_1 (by omega) 115 (by decide) ?_
    refine x_aload_n C d_TP_count_115 0 rfl rfl ?_
    refine x_ldc C d_TP_count_116 k_197 ?_
    refine x_callVi C (c_TP_found_0 Z (g) _ rfl) mi_TP_found k_198 (show 0 < 50 by omega) (e_TP Z _) rfl (As := [.int ((-1000001))]) ⟨Nat.le_of_ble_eq_true rfl, Nat.le_of_ble_eq_true rfl⟩ rfl rfl (Nat.le_of_ble_eq_true rfl) d_TP_count_118 ?_
    exact x_iretK C (by simp [*]) (kfin (G' := va_up g 16 (fndR (g 16) 0)) (by first | with_reducible rfl | (simp [*]; done) | (simp_all; done)) (va_idn (by omega)).symm) d_TP_count_121

set_option maxRecDepth 100000 in
set_option maxHeartbeats 600000 in
theorem c_TP_allFindings (Z : ZT)  (g : St)  : CT yC Z y_TP_allFindings b_TP_allFindings 3 (some (.int)) 0 0 [.ref (Z.2.1 (0))] (g) (QcI yC Z (fsN (g 16) 7) (g)) := by
  refine CT.mk "TunnelPeace" (by decide) rfl (Nat.le_of_ble_eq_true rfl) (fun X C => ?_)
  refine x_lv [0] (lv' := [(0, .ref (Z.2.1 (0)))]) rfl ?_
  refine x_iconst C d_TP_allFindings_0 (v := 0) (by decide) ?_
  refine x_istore_n C d_TP_allFindings_1 rfl (by decide) (lv' := [(1, .int (0)), (0, .ref (Z.2.1 (0)))]) rfl ?_
  refine x_iconst C d_TP_allFindings_2 (v := 0) (by decide) ?_
  refine x_topi (show (0 : Int32) = nI 0 by decide) ?_
  refine x_istore_n C d_TP_allFindings_3 rfl (by decide) (lv' := [(2, .int (nI 0)), (1, .int (0)), (0, .ref (Z.2.1 (0)))]) rfl ?_
  have LP_4 : ∀ (f_ i : Nat), i ≤ 7 → 7 - i < f_ → WX X 3 yC Z (QX X yC Z (QcI yC Z (fsN (g 16) 7) (g))) (g) 4 [(2, .int (nI i)), (1, .int (fsN (g 16) (i))), (0, .ref (Z.2.1 (0)))] [] := by
    intro f_
    induction f_ with
    | zero => intro i h1_ h2_; exact absurd h2_ (Nat.not_lt_zero _)
    | succ f_ ih_4 =>
      intro i hi_4 hf_4
      refine x_iload_n C d_TP_allFindings_4 0 rfl rfl ?_
      refine x_bipush C d_TP_allFindings_5 (v := 7) (by decide) ?_
      refine x_icmp_ge C d_TP_allFindings_7 25 (by decide) (fun c_1 => ?_) (fun c_1 => ?_)
      · have nc_1 := Int32.not_lt.mpr c_1
        have mc_1 : 7 ≤ i := (nI_leI (by omega) (by omega)).mp (show nI 7 ≤ nI i from c_1)
        have e_i : 7 = i := by omega
        subst e_i
        refine x_iload_n C d_TP_allFindings_25 1 rfl rfl ?_
        exact x_iret C rfl rfl d_TP_allFindings_26
      · have nc_1 := Int32.not_le.mp c_1
        have mc_1 : ¬ 7 ≤ i := fun z_ => (show ¬ nI 7 ≤ nI i from c_1) ((nI_leI (by omega) (by omega)).mpr z_)
        refine x_iload_n C d_TP_allFindings_10 1 rfl rfl ?_
        refine x_aload_n C d_TP_allFindings_11 2 rfl rfl ?_
        refine gf_TP_findings C k_172 d_TP_allFindings_12 ?_
        refine x_iload_n C d_TP_allFindings_15 0 rfl rfl ?_
        refine al_fi C i (v := g 16 i) rfl (by omega) rfl d_TP_allFindings_16 ?_
        refine x_iadd C d_TP_allFindings_17 ?_
        refine x_istore_n C d_TP_allFindings_18 rfl (by decide) (lv' := [(1, .int ((fsN (g 16) (i)) + (g 16 i))), (2, .int (nI i)), (0, .ref (Z.2.1 (0)))]) rfl ?_
        refine x_iinc C d_TP_allFindings_19 1 rfl (v := nI (i + 1)) (nI_1 _) (by decide) (lv' := [(2, .int (nI (i + 1))), (1, .int ((fsN (g 16) (i)) + (g 16 i))), (0, .ref (Z.2.1 (0)))]) rfl ?_
        refine x_goto C d_TP_allFindings_22 4 (by decide) ?_
        refine x_lve (lv' := [(2, .int (nI (i + 1))), (1, .int (fsN (g 16) (i + 1))), (0, .ref (Z.2.1 (0)))]) rfl ?_
        exact ih_4 (i + 1) (by omega) (by omega)
  refine x_lve (lv' := [(2, .int (nI 0)), (1, .int (fsN (g 16) (0))), (0, .ref (Z.2.1 (0)))]) rfl ?_
  exact LP_4 (7 + 1) 0 (Nat.zero_le _) (by omega)

set_option maxRecDepth 100000 in
set_option maxHeartbeats 600000 in
theorem c_TP_status (Z : ZT) (w : Int32) (g : St)  (hk : okR (g 0)) : CT yC Z y_TP_status b_TP_status 2 (some (.int)) 2 43 [.ref (Z.2.1 (0)), .int (w)] (g) (QkI yC Z (if w = -1 then fsN (g 16) 7 else if (0 ≤ w ∧ w ≤ 6) then g 16 w.toNatClampNeg else (-1000001)) (fun u => ∃ ρ : Nat → Int32, u = va_up (if w = -1 then g else if (0 ≤ w ∧ w ≤ 6) then g else va_up g 16 (fndR (g 16) 0)) 1 ρ)) := by
  refine CT.mk "TunnelPeace" (by decide) rfl (Nat.le_of_ble_eq_true rfl) (fun X C => ?_)
  refine x_lv [0, 1] (lv' := [(0, .ref (Z.2.1 (0))), (1, .int (w))]) rfl ?_
  have hk0 := hk
  obtain ⟨⟨n, hn8, hn⟩, dd, hdd, hd⟩ := hk
  refine x_iload_n C d_TP_status_0 1 rfl rfl ?_
  refine x_iconst C d_TP_status_1 (v := -1) (by decide) ?_
  refine x_icmp_ne C d_TP_status_2 10 (by decide) (fun c_1 => ?_) (fun c_1 => ?_)
  · have nc_1 := Ne.symm c_1
    refine x_iload_n C d_TP_status_10 1 rfl rfl ?_
    refine x_bipush C d_TP_status_11 (v := 6) (by decide) ?_
    refine x_callSi C (c_TP_within Z w 6 (g)) mi_TP_within k_194 (As := [.int (w), .int (6)]) ⟨Nat.le_of_ble_eq_true rfl, Nat.le_of_ble_eq_true rfl⟩ rfl rfl (Nat.le_of_ble_eq_true rfl) d_TP_status_13 ?_
    refine x_ifeqB C d_TP_status_16 28 (by decide) (fun c_2 => ?_) (fun c_2 => ?_)
    · refine x_aload_n C d_TP_status_28 0 rfl rfl ?_
      refine x_ldc C d_TP_status_29 k_197 ?_
      refine x_callVi C (c_TP_found_0 Z (g) _ rfl) mi_TP_found k_198 (show 0 < 50 by omega) (e_TP Z _) rfl (As := [.int ((-1000001))]) ⟨Nat.le_of_ble_eq_true rfl, Nat.le_of_ble_eq_true rfl⟩ rfl rfl (Nat.le_of_ble_eq_true rfl) d_TP_status_31 ?_
      exact x_iretK C (by first | with_reducible rfl | (simp [*]; done) | (simp_all; done)) (kfin (G' := va_up g 16 (fndR (g 16) 0)) (by first | with_reducible rfl | (simp [*]; done) | (simp_all; done)) (va_idn (by omega)).symm) d_TP_status_34
    · obtain ⟨wq, hwq, rfl⟩ := in_le (n := 6) c_2 (by decide)
      have hcw : (nI wq).toNatClampNeg = wq := nI_clamp (by omega)
      refine x_aload_n C d_TP_status_19 0 rfl rfl ?_
      refine gf_TP_findings C k_172 d_TP_status_20 ?_
      refine x_iload_n C d_TP_status_23 1 rfl rfl ?_
      refine al_fi C wq (v := g 16 wq) rfl (by omega) rfl d_TP_status_24 ?_
      refine x_goto C d_TP_status_25 34 (by decide) ?_
      exact x_iretK C (by first | with_reducible rfl | (simp [*]; done) | (simp_all; done)) (kfin (G' := g) (by first | with_reducible rfl | (simp [*]; done) | (simp_all; done)) (va_id g 1).symm) d_TP_status_34
  · refine x_aload_n C d_TP_status_5 0 rfl rfl ?_
    refine x_callVi C (c_TP_allFindings Z (g)) mi_TP_allFindings k_772 (show 0 < 50 by omega) (e_TP Z _) rfl (As := []) ⟨Nat.le_of_ble_eq_true rfl, Nat.le_of_ble_eq_true rfl⟩ rfl rfl (Nat.le_of_ble_eq_true rfl) d_TP_status_6 ?_
    exact x_iretK C (by first | with_reducible rfl | (simp [*]; done) | (simp_all; done)) (kfin (G' := g) (by first | with_reducible rfl | (simp [*]; done) | (simp_all; done)) (va_id g 1).symm) d_TP_status_9

set_option maxRecDepth 100000 in
set_option maxHeartbeats 600000 in
theorem c_TP_wipe (Z : ZT)  (g : St)  (hk : okR (g 0)) : CT yC Z y_TP_wipe b_TP_wipe 2 (some (.int)) 0 0 [.ref (Z.2.1 (0))] (g) (QkI yC Z (g 5 0) (fun u => ∃ ρ : Nat → Int32, u = va_up (va_up g 5 (upd (g 5) 0 0)) 1 ρ)) := by
  refine CT.mk "TunnelPeace" (by decide) rfl (Nat.le_of_ble_eq_true rfl) (fun X C => ?_)
  refine x_lv [0] (lv' := [(0, .ref (Z.2.1 (0)))]) rfl ?_
  have hk0 := hk
  obtain ⟨⟨n, hn8, hn⟩, dd, hdd, hd⟩ := hk
  refine x_aload_n C d_TP_wipe_0 0 rfl rfl ?_
  refine gf_TP_tape C k_170 d_TP_wipe_1 ?_
  refine gf_Ta_length C (v := g 5 0) rfl k_123 d_TP_wipe_4 ?_
  refine x_istore_n C d_TP_wipe_7 rfl (by decide) (lv' := [(1, .int (g 5 0)), (0, .ref (Z.2.1 (0)))]) rfl ?_
  refine x_aload_n C d_TP_wipe_8 1 rfl rfl ?_
  refine gf_TP_tape C k_170 d_TP_wipe_9 ?_
  refine x_iconst C d_TP_wipe_12 (v := 0) (by decide) ?_
  refine pf_Ta_length C (v := 0) (G := va_up g 5 (upd (g 5) 0 0)) rfl k_123 d_TP_wipe_13 ?_
  refine x_iload_n C d_TP_wipe_16 0 rfl rfl ?_
  exact x_iretK C rfl (kfin (G' := va_up g 5 (upd (g 5) 0 0)) (by first | with_reducible rfl | (simp [*]; done) | (simp_all; done)) (va_idn (by omega)).symm) d_TP_wipe_17

def by8 (b : Int32) (k : Nat) : Int32 := (b >>> ((8 * nI k) &&& 31)).toInt8.toInt32.toInt8.toInt32
def appN (b : Int32) (L m : Nat) (r : Nat → Int32) : Nat → Nat → Int32
  | 0 => r
  | j + 1 => upd (appN b L m r j) (L + j) (by8 b (m - 1 - j))

set_option maxRecDepth 100000 in
set_option maxHeartbeats 600000 in
theorem c_Ta_append (Z : ZT) (b : Int32) (m L : Nat) (hm : 1 ≤ m) (hm4 : m ≤ 4) (hLm : L + m ≤ 120) (g : St)  (hL : g 5 0 = nI L) : CT yC Z y_Ta_append b_Ta_append 4 none 0 0 [.ref (Z.2.1 (2)), .int (b), .int (nI m)] (g) (QcV yC Z (va_up (va_up g 6 (appN b L m (g 6) m)) 5 (upd (g 5) 0 (nI (L + m))))) := by
  refine CT.mk "TunnelPeace$Tape" (by decide) rfl (Nat.le_of_ble_eq_true rfl) (fun X C => ?_)
  refine x_lv [0, 1, 2] (lv' := [(0, .ref (Z.2.1 (2))), (1, .int (b)), (2, .int (nI m))]) rfl ?_
  rcases (show m = 1 ∨ m = 2 ∨ m = 3 ∨ m = 4 by omega) with rfl | rfl | rfl | rfl
  · refine x_iload_n C d_Ta_append_0 2 rfl rfl ?_
    refine x_iconst C d_Ta_append_1 (v := 1) (by decide) ?_
    refine x_isub C d_Ta_append_2 ?_
    refine x_topi (x' := 0) (by decide) ?_
    refine x_topi (show (0 : Int32) = nI 0 by decide) ?_
    refine x_istore_n C d_Ta_append_3 rfl (by decide) (lv' := [(3, .int (nI 0)), (0, .ref (Z.2.1 (2))), (1, .int (b)), (2, .int (nI 1))]) rfl ?_
    refine x_iload_n C d_Ta_append_4 0 rfl rfl ?_
    refine x_iflt C d_Ta_append_5 40 (by decide) (fun c_1 => ?_) (fun c_1 => ?_)
    · exact absurd c_1 (by decide)
    · have nc_1 := Int32.not_lt.mp c_1
      refine x_aload_n C d_Ta_append_8 1 rfl rfl ?_
      refine gf_Ta_bytes C k_124 d_Ta_append_9 ?_
      refine x_aload_n C d_Ta_append_12 1 rfl rfl ?_
      refine gf_Ta_length C (v := nI L) hL k_122 d_Ta_append_13 ?_
      refine x_iload_n C d_Ta_append_16 2 rfl rfl ?_
      refine x_bipush C d_Ta_append_17 (v := 8) (by decide) ?_
      refine x_iload_n C d_Ta_append_19 0 rfl rfl ?_
      refine x_imul C d_Ta_append_20 ?_
      refine x_topi (x' := 8 * nI 0) rfl ?_
      refine x_ishr C d_Ta_append_21 ?_
      refine x_i2b C d_Ta_append_22 ?_
      refine as_by C L (v := (b >>> ((8 * nI 0) &&& 31)).toInt8.toInt32) rfl (by omega) (G := va_up g 6 (upd (g 6) L (((b >>> ((8 * nI 0) &&& 31)).toInt8.toInt32).toInt8.toInt32))) rfl d_Ta_append_23 ?_
      refine x_aload_n C d_Ta_append_24 1 rfl rfl ?_
      refine x_dup C d_Ta_append_25 rfl ?_
      refine gf_Ta_length C (v := nI L) (Eq.trans (congrFun (va_up_ne _ _ (by omega)) _) hL) k_122 d_Ta_append_26 ?_
      refine x_iconst C d_Ta_append_29 (v := 1) (by decide) ?_
      refine x_iadd C d_Ta_append_30 ?_
      refine x_topi (x' := nI (L + 1)) (nI_1 _) ?_
      refine pf_Ta_length C (v := nI (L + 1)) (G := va_up (va_up g 6 (upd (g 6) L (((b >>> ((8 * nI 0) &&& 31)).toInt8.toInt32).toInt8.toInt32))) 5 (upd (g 5) 0 (nI (L + 1)))) (congrArg (fun z => va_up _ _ (upd z _ _)) (va_up_ne _ _ (by omega))) k_122 d_Ta_append_31 ?_
      refine x_iinc C d_Ta_append_34 0 rfl (v := (-1)) (by decide) (by decide) (lv' := [(3, .int ((-1))), (0, .ref (Z.2.1 (2))), (1, .int (b)), (2, .int (nI 1))]) rfl ?_
      refine x_goto C d_Ta_append_37 4 (by decide) ?_
      refine x_iload_n C d_Ta_append_4 0 rfl rfl ?_
      refine x_iflt C d_Ta_append_5 40 (by decide) (fun c_2 => ?_) (fun c_2 => ?_)
      · have nc_2 := Int32.not_le.mpr c_2
        exact x_vret C (by simp [appN, by8, upd_upd]) d_Ta_append_40
      · exact absurd c_2 (by decide)
  · refine x_iload_n C d_Ta_append_0 2 rfl rfl ?_
    refine x_iconst C d_Ta_append_1 (v := 1) (by decide) ?_
    refine x_isub C d_Ta_append_2 ?_
    refine x_topi (x' := 1) (by decide) ?_
    refine x_topi (show (1 : Int32) = nI 1 by decide) ?_
    refine x_istore_n C d_Ta_append_3 rfl (by decide) (lv' := [(3, .int (nI 1)), (0, .ref (Z.2.1 (2))), (1, .int (b)), (2, .int (nI 2))]) rfl ?_
    refine x_iload_n C d_Ta_append_4 0 rfl rfl ?_
    refine x_iflt C d_Ta_append_5 40 (by decide) (fun c_3 => ?_) (fun c_3 => ?_)
    · exact absurd c_3 (by decide)
    · have nc_3 := Int32.not_lt.mp c_3
      refine x_aload_n C d_Ta_append_8 1 rfl rfl ?_
      refine gf_Ta_bytes C k_124 d_Ta_append_9 ?_
      refine x_aload_n C d_Ta_append_12 1 rfl rfl ?_
      refine gf_Ta_length C (v := nI L) hL k_122 d_Ta_append_13 ?_
      refine x_iload_n C d_Ta_append_16 2 rfl rfl ?_
      refine x_bipush C d_Ta_append_17 (v := 8) (by decide) ?_
      refine x_iload_n C d_Ta_append_19 0 rfl rfl ?_
      refine x_imul C d_Ta_append_20 ?_
      refine x_topi (x' := 8 * nI 1) rfl ?_
      refine x_ishr C d_Ta_append_21 ?_
      refine x_i2b C d_Ta_append_22 ?_
      refine as_by C L (v := (b >>> ((8 * nI 1) &&& 31)).toInt8.toInt32) rfl (by omega) (G := va_up g 6 (upd (g 6) L (((b >>> ((8 * nI 1) &&& 31)).toInt8.toInt32).toInt8.toInt32))) rfl d_Ta_append_23 ?_
      refine x_aload_n C d_Ta_append_24 1 rfl rfl ?_
      refine x_dup C d_Ta_append_25 rfl ?_
      refine gf_Ta_length C (v := nI L) (Eq.trans (congrFun (va_up_ne _ _ (by omega)) _) hL) k_122 d_Ta_append_26 ?_
      refine x_iconst C d_Ta_append_29 (v := 1) (by decide) ?_
      refine x_iadd C d_Ta_append_30 ?_
      refine x_topi (x' := nI (L + 1)) (nI_1 _) ?_
      refine pf_Ta_length C (v := nI (L + 1)) (G := va_up (va_up g 6 (upd (g 6) L (((b >>> ((8 * nI 1) &&& 31)).toInt8.toInt32).toInt8.toInt32))) 5 (upd (g 5) 0 (nI (L + 1)))) (congrArg (fun z => va_up _ _ (upd z _ _)) (va_up_ne _ _ (by omega))) k_122 d_Ta_append_31 ?_
      refine x_iinc C d_Ta_append_34 0 rfl (v := nI 0) (by decide) (by decide) (lv' := [(3, .int (nI 0)), (0, .ref (Z.2.1 (2))), (1, .int (b)), (2, .int (nI 2))]) rfl ?_
      refine x_goto C d_Ta_append_37 4 (by decide) ?_
      refine x_iload_n C d_Ta_append_4 0 rfl rfl ?_
      refine x_iflt C d_Ta_append_5 40 (by decide) (fun c_4 => ?_) (fun c_4 => ?_)
      · exact absurd c_4 (by decide)
      · have nc_4 := Int32.not_lt.mp c_4
        refine x_aload_n C d_Ta_append_8 1 rfl rfl ?_
        refine gf_Ta_bytes C k_124 d_Ta_append_9 ?_
        refine x_aload_n C d_Ta_append_12 1 rfl rfl ?_
        refine gf_Ta_length C (v := nI (L + 1)) (Eq.trans (congrFun (va_up_self _ _ _) _) pk_us) k_122 d_Ta_append_13 ?_
        refine x_iload_n C d_Ta_append_16 2 rfl rfl ?_
        refine x_bipush C d_Ta_append_17 (v := 8) (by decide) ?_
        refine x_iload_n C d_Ta_append_19 0 rfl rfl ?_
        refine x_imul C d_Ta_append_20 ?_
        refine x_topi (x' := 8 * nI 0) rfl ?_
        refine x_ishr C d_Ta_append_21 ?_
        refine x_i2b C d_Ta_append_22 ?_
        refine as_by C (L + 1) (v := (b >>> ((8 * nI 0) &&& 31)).toInt8.toInt32) rfl (by omega) (G := va_up (va_up g 5 (upd (g 5) 0 (nI (L + 1)))) 6 (upd (upd (g 6) L (((b >>> ((8 * nI 1) &&& 31)).toInt8.toInt32).toInt8.toInt32)) (L + 1) (((b >>> ((8 * nI 0) &&& 31)).toInt8.toInt32).toInt8.toInt32))) (up_vb (by omega)) d_Ta_append_23 ?_
        refine x_aload_n C d_Ta_append_24 1 rfl rfl ?_
        refine x_dup C d_Ta_append_25 rfl ?_
        refine gf_Ta_length C (v := nI (L + 1)) (Eq.trans (congrFun (Eq.trans (va_up_ne _ _ (by omega)) (va_up_self _ _ _)) _) pk_us) k_122 d_Ta_append_26 ?_
        refine x_iconst C d_Ta_append_29 (v := 1) (by decide) ?_
        refine x_iadd C d_Ta_append_30 ?_
        refine x_topi (x' := nI (L + 2)) (nI_1 _) ?_
        refine pf_Ta_length C (v := nI (L + 2)) (G := va_up (va_up g 6 (upd (upd (g 6) L (((b >>> ((8 * nI 1) &&& 31)).toInt8.toInt32).toInt8.toInt32)) (L + 1) (((b >>> ((8 * nI 0) &&& 31)).toInt8.toInt32).toInt8.toInt32))) 5 (upd (upd (g 5) 0 (nI (L + 1))) 0 (nI (L + 2)))) (up_vb (by omega)) k_122 d_Ta_append_31 ?_
        refine x_iinc C d_Ta_append_34 0 rfl (v := (-1)) (by decide) (by decide) (lv' := [(3, .int ((-1))), (0, .ref (Z.2.1 (2))), (1, .int (b)), (2, .int (nI 2))]) rfl ?_
        refine x_goto C d_Ta_append_37 4 (by decide) ?_
        refine x_iload_n C d_Ta_append_4 0 rfl rfl ?_
        refine x_iflt C d_Ta_append_5 40 (by decide) (fun c_5 => ?_) (fun c_5 => ?_)
        · have nc_5 := Int32.not_le.mpr c_5
          exact x_vret C (by simp [appN, by8, upd_upd]) d_Ta_append_40
        · exact absurd c_5 (by decide)
  · refine x_iload_n C d_Ta_append_0 2 rfl rfl ?_
    refine x_iconst C d_Ta_append_1 (v := 1) (by decide) ?_
    refine x_isub C d_Ta_append_2 ?_
    refine x_topi (x' := 2) (by decide) ?_
    refine x_topi (show (2 : Int32) = nI 2 by decide) ?_
    refine x_istore_n C d_Ta_append_3 rfl (by decide) (lv' := [(3, .int (nI 2)), (0, .ref (Z.2.1 (2))), (1, .int (b)), (2, .int (nI 3))]) rfl ?_
    refine x_iload_n C d_Ta_append_4 0 rfl rfl ?_
    refine x_iflt C d_Ta_append_5 40 (by decide) (fun c_6 => ?_) (fun c_6 => ?_)
    · exact absurd c_6 (by decide)
    · have nc_6 := Int32.not_lt.mp c_6
      refine x_aload_n C d_Ta_append_8 1 rfl rfl ?_
      refine gf_Ta_bytes C k_124 d_Ta_append_9 ?_
      refine x_aload_n C d_Ta_append_12 1 rfl rfl ?_
      refine gf_Ta_length C (v := nI L) hL k_122 d_Ta_append_13 ?_
      refine x_iload_n C d_Ta_append_16 2 rfl rfl ?_
      refine x_bipush C d_Ta_append_17 (v := 8) (by decide) ?_
      refine x_iload_n C d_Ta_append_19 0 rfl rfl ?_
      refine x_imul C d_Ta_append_20 ?_
      refine x_topi (x' := 8 * nI 2) rfl ?_
      refine x_ishr C d_Ta_append_21 ?_
      refine x_i2b C d_Ta_append_22 ?_
      refine as_by C L (v := (b >>> ((8 * nI 2) &&& 31)).toInt8.toInt32) rfl (by omega) (G := va_up g 6 (upd (g 6) L (((b >>> ((8 * nI 2) &&& 31)).toInt8.toInt32).toInt8.toInt32))) rfl d_Ta_append_23 ?_
      refine x_aload_n C d_Ta_append_24 1 rfl rfl ?_
      refine x_dup C d_Ta_append_25 rfl ?_
      refine gf_Ta_length C (v := nI L) (Eq.trans (congrFun (va_up_ne _ _ (by omega)) _) hL) k_122 d_Ta_append_26 ?_
      refine x_iconst C d_Ta_append_29 (v := 1) (by decide) ?_
      refine x_iadd C d_Ta_append_30 ?_
      refine x_topi (x' := nI (L + 1)) (nI_1 _) ?_
      refine pf_Ta_length C (v := nI (L + 1)) (G := va_up (va_up g 6 (upd (g 6) L (((b >>> ((8 * nI 2) &&& 31)).toInt8.toInt32).toInt8.toInt32))) 5 (upd (g 5) 0 (nI (L + 1)))) (congrArg (fun z => va_up _ _ (upd z _ _)) (va_up_ne _ _ (by omega))) k_122 d_Ta_append_31 ?_
      refine x_iinc C d_Ta_append_34 0 rfl (v := nI 1) (by decide) (by decide) (lv' := [(3, .int (nI 1)), (0, .ref (Z.2.1 (2))), (1, .int (b)), (2, .int (nI 3))]) rfl ?_
      refine x_goto C d_Ta_append_37 4 (by decide) ?_
      refine x_iload_n C d_Ta_append_4 0 rfl rfl ?_
      refine x_iflt C d_Ta_append_5 40 (by decide) (fun c_7 => ?_) (fun c_7 => ?_)
      · exact absurd c_7 (by decide)
      · have nc_7 := Int32.not_lt.mp c_7
        refine x_aload_n C d_Ta_append_8 1 rfl rfl ?_
        refine gf_Ta_bytes C k_124 d_Ta_append_9 ?_
        refine x_aload_n C d_Ta_append_12 1 rfl rfl ?_
        refine gf_Ta_length C (v := nI (L + 1)) (Eq.trans (congrFun (va_up_self _ _ _) _) pk_us) k_122 d_Ta_append_13 ?_
        refine x_iload_n C d_Ta_append_16 2 rfl rfl ?_
        refine x_bipush C d_Ta_append_17 (v := 8) (by decide) ?_
        refine x_iload_n C d_Ta_append_19 0 rfl rfl ?_
        refine x_imul C d_Ta_append_20 ?_
        refine x_topi (x' := 8 * nI 1) rfl ?_
        refine x_ishr C d_Ta_append_21 ?_
        refine x_i2b C d_Ta_append_22 ?_
        refine as_by C (L + 1) (v := (b >>> ((8 * nI 1) &&& 31)).toInt8.toInt32) rfl (by omega) (G := va_up (va_up g 5 (upd (g 5) 0 (nI (L + 1)))) 6 (upd (upd (g 6) L (((b >>> ((8 * nI 2) &&& 31)).toInt8.toInt32).toInt8.toInt32)) (L + 1) (((b >>> ((8 * nI 1) &&& 31)).toInt8.toInt32).toInt8.toInt32))) (up_vb (by omega)) d_Ta_append_23 ?_
        refine x_aload_n C d_Ta_append_24 1 rfl rfl ?_
        refine x_dup C d_Ta_append_25 rfl ?_
        refine gf_Ta_length C (v := nI (L + 1)) (Eq.trans (congrFun (Eq.trans (va_up_ne _ _ (by omega)) (va_up_self _ _ _)) _) pk_us) k_122 d_Ta_append_26 ?_
        refine x_iconst C d_Ta_append_29 (v := 1) (by decide) ?_
        refine x_iadd C d_Ta_append_30 ?_
        refine x_topi (x' := nI (L + 2)) (nI_1 _) ?_
        refine pf_Ta_length C (v := nI (L + 2)) (G := va_up (va_up g 6 (upd (upd (g 6) L (((b >>> ((8 * nI 2) &&& 31)).toInt8.toInt32).toInt8.toInt32)) (L + 1) (((b >>> ((8 * nI 1) &&& 31)).toInt8.toInt32).toInt8.toInt32))) 5 (upd (upd (g 5) 0 (nI (L + 1))) 0 (nI (L + 2)))) (up_vb (by omega)) k_122 d_Ta_append_31 ?_
        refine x_iinc C d_Ta_append_34 0 rfl (v := nI 0) (by decide) (by decide) (lv' := [(3, .int (nI 0)), (0, .ref (Z.2.1 (2))), (1, .int (b)), (2, .int (nI 3))]) rfl ?_
        refine x_goto C d_Ta_append_37 4 (by decide) ?_
        refine x_iload_n C d_Ta_append_4 0 rfl rfl ?_
        refine x_iflt C d_Ta_append_5 40 (by decide) (fun c_8 => ?_) (fun c_8 => ?_)
        · exact absurd c_8 (by decide)
        · have nc_8 := Int32.not_lt.mp c_8
          refine x_aload_n C d_Ta_append_8 1 rfl rfl ?_
          refine gf_Ta_bytes C k_124 d_Ta_append_9 ?_
          refine x_aload_n C d_Ta_append_12 1 rfl rfl ?_
          refine gf_Ta_length C (v := nI (L + 2)) (Eq.trans (congrFun (va_up_self _ _ _) _) pk_us) k_122 d_Ta_append_13 ?_
          refine x_iload_n C d_Ta_append_16 2 rfl rfl ?_
          refine x_bipush C d_Ta_append_17 (v := 8) (by decide) ?_
          refine x_iload_n C d_Ta_append_19 0 rfl rfl ?_
          refine x_imul C d_Ta_append_20 ?_
          refine x_topi (x' := 8 * nI 0) rfl ?_
          refine x_ishr C d_Ta_append_21 ?_
          refine x_i2b C d_Ta_append_22 ?_
          refine as_by C (L + 2) (v := (b >>> ((8 * nI 0) &&& 31)).toInt8.toInt32) rfl (by omega) (G := va_up (va_up g 5 (upd (upd (g 5) 0 (nI (L + 1))) 0 (nI (L + 2)))) 6 (upd (upd (upd (g 6) L (((b >>> ((8 * nI 2) &&& 31)).toInt8.toInt32).toInt8.toInt32)) (L + 1) (((b >>> ((8 * nI 1) &&& 31)).toInt8.toInt32).toInt8.toInt32)) (L + 2) (((b >>> ((8 * nI 0) &&& 31)).toInt8.toInt32).toInt8.toInt32))) (up_vb (by omega)) d_Ta_append_23 ?_
          refine x_aload_n C d_Ta_append_24 1 rfl rfl ?_
          refine x_dup C d_Ta_append_25 rfl ?_
          refine gf_Ta_length C (v := nI (L + 2)) (Eq.trans (congrFun (Eq.trans (va_up_ne _ _ (by omega)) (va_up_self _ _ _)) _) pk_us) k_122 d_Ta_append_26 ?_
          refine x_iconst C d_Ta_append_29 (v := 1) (by decide) ?_
          refine x_iadd C d_Ta_append_30 ?_
          refine x_topi (x' := nI (L + 3)) (nI_1 _) ?_
          refine pf_Ta_length C (v := nI (L + 3)) (G := va_up (va_up g 6 (upd (upd (upd (g 6) L (((b >>> ((8 * nI 2) &&& 31)).toInt8.toInt32).toInt8.toInt32)) (L + 1) (((b >>> ((8 * nI 1) &&& 31)).toInt8.toInt32).toInt8.toInt32)) (L + 2) (((b >>> ((8 * nI 0) &&& 31)).toInt8.toInt32).toInt8.toInt32))) 5 (upd (upd (upd (g 5) 0 (nI (L + 1))) 0 (nI (L + 2))) 0 (nI (L + 3)))) (up_vb (by omega)) k_122 d_Ta_append_31 ?_
          refine x_iinc C d_Ta_append_34 0 rfl (v := (-1)) (by decide) (by decide) (lv' := [(3, .int ((-1))), (0, .ref (Z.2.1 (2))), (1, .int (b)), (2, .int (nI 3))]) rfl ?_
          refine x_goto C d_Ta_append_37 4 (by decide) ?_
          refine x_iload_n C d_Ta_append_4 0 rfl rfl ?_
          refine x_iflt C d_Ta_append_5 40 (by decide) (fun c_9 => ?_) (fun c_9 => ?_)
          · have nc_9 := Int32.not_le.mpr c_9
            exact x_vret C (by simp [appN, by8, upd_upd]) d_Ta_append_40
          · exact absurd c_9 (by decide)
  · refine x_iload_n C d_Ta_append_0 2 rfl rfl ?_
    refine x_iconst C d_Ta_append_1 (v := 1) (by decide) ?_
    refine x_isub C d_Ta_append_2 ?_
    refine x_topi (x' := 3) (by decide) ?_
    refine x_topi (show (3 : Int32) = nI 3 by decide) ?_
    refine x_istore_n C d_Ta_append_3 rfl (by decide) (lv' := [(3, .int (nI 3)), (0, .ref (Z.2.1 (2))), (1, .int (b)), (2, .int (nI 4))]) rfl ?_
    refine x_iload_n C d_Ta_append_4 0 rfl rfl ?_
    refine x_iflt C d_Ta_append_5 40 (by decide) (fun c_10 => ?_) (fun c_10 => ?_)
    · exact absurd c_10 (by decide)
    · have nc_10 := Int32.not_lt.mp c_10
      refine x_aload_n C d_Ta_append_8 1 rfl rfl ?_
      refine gf_Ta_bytes C k_124 d_Ta_append_9 ?_
      refine x_aload_n C d_Ta_append_12 1 rfl rfl ?_
      refine gf_Ta_length C (v := nI L) hL k_122 d_Ta_append_13 ?_
      refine x_iload_n C d_Ta_append_16 2 rfl rfl ?_
      refine x_bipush C d_Ta_append_17 (v := 8) (by decide) ?_
      refine x_iload_n C d_Ta_append_19 0 rfl rfl ?_
      refine x_imul C d_Ta_append_20 ?_
      refine x_topi (x' := 8 * nI 3) rfl ?_
      refine x_ishr C d_Ta_append_21 ?_
      refine x_i2b C d_Ta_append_22 ?_
      refine as_by C L (v := (b >>> ((8 * nI 3) &&& 31)).toInt8.toInt32) rfl (by omega) (G := va_up g 6 (upd (g 6) L (((b >>> ((8 * nI 3) &&& 31)).toInt8.toInt32).toInt8.toInt32))) rfl d_Ta_append_23 ?_
      refine x_aload_n C d_Ta_append_24 1 rfl rfl ?_
      refine x_dup C d_Ta_append_25 rfl ?_
      refine gf_Ta_length C (v := nI L) (Eq.trans (congrFun (va_up_ne _ _ (by omega)) _) hL) k_122 d_Ta_append_26 ?_
      refine x_iconst C d_Ta_append_29 (v := 1) (by decide) ?_
      refine x_iadd C d_Ta_append_30 ?_
      refine x_topi (x' := nI (L + 1)) (nI_1 _) ?_
      refine pf_Ta_length C (v := nI (L + 1)) (G := va_up (va_up g 6 (upd (g 6) L (((b >>> ((8 * nI 3) &&& 31)).toInt8.toInt32).toInt8.toInt32))) 5 (upd (g 5) 0 (nI (L + 1)))) (congrArg (fun z => va_up _ _ (upd z _ _)) (va_up_ne _ _ (by omega))) k_122 d_Ta_append_31 ?_
      refine x_iinc C d_Ta_append_34 0 rfl (v := nI 2) (by decide) (by decide) (lv' := [(3, .int (nI 2)), (0, .ref (Z.2.1 (2))), (1, .int (b)), (2, .int (nI 4))]) rfl ?_
      refine x_goto C d_Ta_append_37 4 (by decide) ?_
      refine x_iload_n C d_Ta_append_4 0 rfl rfl ?_
      refine x_iflt C d_Ta_append_5 40 (by decide) (fun c_11 => ?_) (fun c_11 => ?_)
      · exact absurd c_11 (by decide)
      · have nc_11 := Int32.not_lt.mp c_11
        refine x_aload_n C d_Ta_append_8 1 rfl rfl ?_
        refine gf_Ta_bytes C k_124 d_Ta_append_9 ?_
        refine x_aload_n C d_Ta_append_12 1 rfl rfl ?_
        refine gf_Ta_length C (v := nI (L + 1)) (Eq.trans (congrFun (va_up_self _ _ _) _) pk_us) k_122 d_Ta_append_13 ?_
        refine x_iload_n C d_Ta_append_16 2 rfl rfl ?_
        refine x_bipush C d_Ta_append_17 (v := 8) (by decide) ?_
        refine x_iload_n C d_Ta_append_19 0 rfl rfl ?_
        refine x_imul C d_Ta_append_20 ?_
        refine x_topi (x' := 8 * nI 2) rfl ?_
        refine x_ishr C d_Ta_append_21 ?_
        refine x_i2b C d_Ta_append_22 ?_
        refine as_by C (L + 1) (v := (b >>> ((8 * nI 2) &&& 31)).toInt8.toInt32) rfl (by omega) (G := va_up (va_up g 5 (upd (g 5) 0 (nI (L + 1)))) 6 (upd (upd (g 6) L (((b >>> ((8 * nI 3) &&& 31)).toInt8.toInt32).toInt8.toInt32)) (L + 1) (((b >>> ((8 * nI 2) &&& 31)).toInt8.toInt32).toInt8.toInt32))) (up_vb (by omega)) d_Ta_append_23 ?_
        refine x_aload_n C d_Ta_append_24 1 rfl rfl ?_
        refine x_dup C d_Ta_append_25 rfl ?_
        refine gf_Ta_length C (v := nI (L + 1)) (Eq.trans (congrFun (Eq.trans (va_up_ne _ _ (by omega)) (va_up_self _ _ _)) _) pk_us) k_122 d_Ta_append_26 ?_
        refine x_iconst C d_Ta_append_29 (v := 1) (by decide) ?_
        refine x_iadd C d_Ta_append_30 ?_
        refine x_topi (x' := nI (L + 2)) (nI_1 _) ?_
        refine pf_Ta_length C (v := nI (L + 2)) (G := va_up (va_up g 6 (upd (upd (g 6) L (((b >>> ((8 * nI 3) &&& 31)).toInt8.toInt32).toInt8.toInt32)) (L + 1) (((b >>> ((8 * nI 2) &&& 31)).toInt8.toInt32).toInt8.toInt32))) 5 (upd (upd (g 5) 0 (nI (L + 1))) 0 (nI (L + 2)))) (up_vb (by omega)) k_122 d_Ta_append_31 ?_
        refine x_iinc C d_Ta_append_34 0 rfl (v := nI 1) (by decide) (by decide) (lv' := [(3, .int (nI 1)), (0, .ref (Z.2.1 (2))), (1, .int (b)), (2, .int (nI 4))]) rfl ?_
        refine x_goto C d_Ta_append_37 4 (by decide) ?_
        refine x_iload_n C d_Ta_append_4 0 rfl rfl ?_
        refine x_iflt C d_Ta_append_5 40 (by decide) (fun c_12 => ?_) (fun c_12 => ?_)
        · exact absurd c_12 (by decide)
        · have nc_12 := Int32.not_lt.mp c_12
          refine x_aload_n C d_Ta_append_8 1 rfl rfl ?_
          refine gf_Ta_bytes C k_124 d_Ta_append_9 ?_
          refine x_aload_n C d_Ta_append_12 1 rfl rfl ?_
          refine gf_Ta_length C (v := nI (L + 2)) (Eq.trans (congrFun (va_up_self _ _ _) _) pk_us) k_122 d_Ta_append_13 ?_
          refine x_iload_n C d_Ta_append_16 2 rfl rfl ?_
          refine x_bipush C d_Ta_append_17 (v := 8) (by decide) ?_
          refine x_iload_n C d_Ta_append_19 0 rfl rfl ?_
          refine x_imul C d_Ta_append_20 ?_
          refine x_topi (x' := 8 * nI 1) rfl ?_
          refine x_ishr C d_Ta_append_21 ?_
          refine x_i2b C d_Ta_append_22 ?_
          refine as_by C (L + 2) (v := (b >>> ((8 * nI 1) &&& 31)).toInt8.toInt32) rfl (by omega) (G := va_up (va_up g 5 (upd (upd (g 5) 0 (nI (L + 1))) 0 (nI (L + 2)))) 6 (upd (upd (upd (g 6) L (((b >>> ((8 * nI 3) &&& 31)).toInt8.toInt32).toInt8.toInt32)) (L + 1) (((b >>> ((8 * nI 2) &&& 31)).toInt8.toInt32).toInt8.toInt32)) (L + 2) (((b >>> ((8 * nI 1) &&& 31)).toInt8.toInt32).toInt8.toInt32))) (up_vb (by omega)) d_Ta_append_23 ?_
          refine x_aload_n C d_Ta_append_24 1 rfl rfl ?_
          refine x_dup C d_Ta_append_25 rfl ?_
          refine gf_Ta_length C (v := nI (L + 2)) (Eq.trans (congrFun (Eq.trans (va_up_ne _ _ (by omega)) (va_up_self _ _ _)) _) pk_us) k_122 d_Ta_append_26 ?_
          refine x_iconst C d_Ta_append_29 (v := 1) (by decide) ?_
          refine x_iadd C d_Ta_append_30 ?_
          refine x_topi (x' := nI (L + 3)) (nI_1 _) ?_
          refine pf_Ta_length C (v := nI (L + 3)) (G := va_up (va_up g 6 (upd (upd (upd (g 6) L (((b >>> ((8 * nI 3) &&& 31)).toInt8.toInt32).toInt8.toInt32)) (L + 1) (((b >>> ((8 * nI 2) &&& 31)).toInt8.toInt32).toInt8.toInt32)) (L + 2) (((b >>> ((8 * nI 1) &&& 31)).toInt8.toInt32).toInt8.toInt32))) 5 (upd (upd (upd (g 5) 0 (nI (L + 1))) 0 (nI (L + 2))) 0 (nI (L + 3)))) (up_vb (by omega)) k_122 d_Ta_append_31 ?_
          refine x_iinc C d_Ta_append_34 0 rfl (v := nI 0) (by decide) (by decide) (lv' := [(3, .int (nI 0)), (0, .ref (Z.2.1 (2))), (1, .int (b)), (2, .int (nI 4))]) rfl ?_
          refine x_goto C d_Ta_append_37 4 (by decide) ?_
          refine x_iload_n C d_Ta_append_4 0 rfl rfl ?_
          refine x_iflt C d_Ta_append_5 40 (by decide) (fun c_13 => ?_) (fun c_13 => ?_)
          · exact absurd c_13 (by decide)
          · have nc_13 := Int32.not_lt.mp c_13
            refine x_aload_n C d_Ta_append_8 1 rfl rfl ?_
            refine gf_Ta_bytes C k_124 d_Ta_append_9 ?_
            refine x_aload_n C d_Ta_append_12 1 rfl rfl ?_
            refine gf_Ta_length C (v := nI (L + 3)) (Eq.trans (congrFun (va_up_self _ _ _) _) pk_us) k_122 d_Ta_append_13 ?_
            refine x_iload_n C d_Ta_append_16 2 rfl rfl ?_
            refine x_bipush C d_Ta_append_17 (v := 8) (by decide) ?_
            refine x_iload_n C d_Ta_append_19 0 rfl rfl ?_
            refine x_imul C d_Ta_append_20 ?_
            refine x_topi (x' := 8 * nI 0) rfl ?_
            refine x_ishr C d_Ta_append_21 ?_
            refine x_i2b C d_Ta_append_22 ?_
            refine as_by C (L + 3) (v := (b >>> ((8 * nI 0) &&& 31)).toInt8.toInt32) rfl (by omega) (G := va_up (va_up g 5 (upd (upd (upd (g 5) 0 (nI (L + 1))) 0 (nI (L + 2))) 0 (nI (L + 3)))) 6 (upd (upd (upd (upd (g 6) L (((b >>> ((8 * nI 3) &&& 31)).toInt8.toInt32).toInt8.toInt32)) (L + 1) (((b >>> ((8 * nI 2) &&& 31)).toInt8.toInt32).toInt8.toInt32)) (L + 2) (((b >>> ((8 * nI 1) &&& 31)).toInt8.toInt32).toInt8.toInt32)) (L + 3) (((b >>> ((8 * nI 0) &&& 31)).toInt8.toInt32).toInt8.toInt32))) (up_vb (by omega)) d_Ta_append_23 ?_
            refine x_aload_n C d_Ta_append_24 1 rfl rfl ?_
            refine x_dup C d_Ta_append_25 rfl ?_
            refine gf_Ta_length C (v := nI (L + 3)) (Eq.trans (congrFun (Eq.trans (va_up_ne _ _ (by omega)) (va_up_self _ _ _)) _) pk_us) k_122 d_Ta_append_26 ?_
            refine x_iconst C d_Ta_append_29 (v := 1) (by decide) ?_
            refine x_iadd C d_Ta_append_30 ?_
            refine x_topi (x' := nI (L + 4)) (nI_1 _) ?_
            refine pf_Ta_length C (v := nI (L + 4)) (G := va_up (va_up g 6 (upd (upd (upd (upd (g 6) L (((b >>> ((8 * nI 3) &&& 31)).toInt8.toInt32).toInt8.toInt32)) (L + 1) (((b >>> ((8 * nI 2) &&& 31)).toInt8.toInt32).toInt8.toInt32)) (L + 2) (((b >>> ((8 * nI 1) &&& 31)).toInt8.toInt32).toInt8.toInt32)) (L + 3) (((b >>> ((8 * nI 0) &&& 31)).toInt8.toInt32).toInt8.toInt32))) 5 (upd (upd (upd (upd (g 5) 0 (nI (L + 1))) 0 (nI (L + 2))) 0 (nI (L + 3))) 0 (nI (L + 4)))) (up_vb (by omega)) k_122 d_Ta_append_31 ?_
            refine x_iinc C d_Ta_append_34 0 rfl (v := (-1)) (by decide) (by decide) (lv' := [(3, .int ((-1))), (0, .ref (Z.2.1 (2))), (1, .int (b)), (2, .int (nI 4))]) rfl ?_
            refine x_goto C d_Ta_append_37 4 (by decide) ?_
            refine x_iload_n C d_Ta_append_4 0 rfl rfl ?_
            refine x_iflt C d_Ta_append_5 40 (by decide) (fun c_14 => ?_) (fun c_14 => ?_)
            · have nc_14 := Int32.not_le.mpr c_14
              exact x_vret C (by simp [appN, by8, upd_upd]) d_Ta_append_40
            · exact absurd c_14 (by decide)
