theorem has_t {i n : Nat} (h : 0 ≤ nI i ∧ nI i < nI n) (hi : i < 2 ^ 31) (hn : n < 2 ^ 31) : i < n := (nI_ltI hi hn).mp h.2
theorem has_f {i n : Nat} (h : ¬ (0 ≤ nI i ∧ nI i < nI n)) (hi : i < 2 ^ 31) (hn : n < 2 ^ 31) : n ≤ i := Nat.not_lt.mp (fun z => h ⟨nI_pos' hi, (nI_ltI hi hn).mpr z⟩)
theorem full_t {n : Nat} (h : 8 ≤ nI n) (hn : n < 2 ^ 31) : 8 ≤ n := (nI_leI (a := 8) (by decide) hn).mp h
theorem full_f {n : Nat} (h : ¬ 8 ≤ nI n) (hn : n < 2 ^ 31) : n < 8 := Nat.not_le.mp (fun z => h ((nI_leI (a := 8) (by decide) hn).mpr z))
theorem va_id (g : St) (t : Nat) : va_up g t (g t) = g := by
  funext j
  by_cases h : j = t
  · subst h; exact va_up_self _ _ _
  · exact va_up_ne _ _ h
set_option maxRecDepth 100000 in
set_option maxHeartbeats 600000 in
theorem c_Tu_has (Z : ZT) (t : Nat) (ht : t < 3) (p : Int32) (g : St)  (m : Int32) (hm : g t 1 = m) : CT yC Z y_Tu_has b_Tu_has 2 (some (.boolean)) 0 0 [.ref (Z.2.1 (14 + 12 * t)), .int (p)] (g) (QcI yC Z (bI (0 ≤ p ∧ p < m)) (g)) := by
  refine CT.mk "TunnelPeace$Tunnel" (by decide) rfl (Nat.le_of_ble_eq_true rfl) (fun X C => ?_)
  refine x_lv [0, 1] (lv' := [(0, .ref (Z.2.1 (14 + 12 * t))), (1, .int (p))]) rfl ?_
  subst hm
  refine x_iload_n C d_Tu_has_0 1 rfl rfl ?_
  refine x_iflt C d_Tu_has_1 16 (by decide) (fun c_1 => ?_) (fun c_1 => ?_)
  · have nc_1 := Int32.not_le.mpr c_1
    refine x_iconst C d_Tu_has_16 (v := 0) (by decide) ?_
    exact x_zret C (by decide) (bI_f (by first | (simp [bI_01, *]; done) | (simp_all [bI_01]; done))).symm rfl d_Tu_has_17
  · have nc_1 := Int32.not_lt.mp c_1
    refine x_iload_n C d_Tu_has_4 1 rfl rfl ?_
    refine x_aload_n C d_Tu_has_5 0 rfl rfl ?_
    refine gf_Tu_size C (by omega) (v := g t 1) rfl k_74 d_Tu_has_6 ?_
    refine x_icmp_ge C d_Tu_has_9 16 (by decide) (fun c_2 => ?_) (fun c_2 => ?_)
    · have nc_2 := Int32.not_lt.mpr c_2
      refine x_iconst C d_Tu_has_16 (v := 0) (by decide) ?_
      exact x_zret C (by decide) (bI_f (by first | (simp [bI_01, *]; done) | (simp_all [bI_01]; done))).symm rfl d_Tu_has_17
    · have nc_2 := Int32.not_le.mp c_2
      refine x_iconst C d_Tu_has_12 (v := 1) (by decide) ?_
      refine x_goto C d_Tu_has_13 17 (by decide) ?_
      exact x_zret C (by decide) (bI_t (by first | (simp [bI_01, *]; done) | (simp_all [bI_01]; done))).symm rfl d_Tu_has_17

set_option maxRecDepth 100000 in
set_option maxHeartbeats 600000 in
theorem c_Tu_isFull (Z : ZT) (t : Nat) (ht : t < 3) (g : St)  (m : Int32) (hm : g t 1 = m) : CT yC Z y_Tu_isFull b_Tu_isFull 1 (some (.boolean)) 0 0 [.ref (Z.2.1 (14 + 12 * t))] (g) (QcI yC Z (bI (8 ≤ m)) (g)) := by
  refine CT.mk "TunnelPeace$Tunnel" (by decide) rfl (Nat.le_of_ble_eq_true rfl) (fun X C => ?_)
  refine x_lv [0] (lv' := [(0, .ref (Z.2.1 (14 + 12 * t)))]) rfl ?_
  subst hm
  refine x_aload_n C d_Tu_isFull_0 0 rfl rfl ?_
  refine gf_Tu_size C (by omega) (v := g t 1) rfl k_74 d_Tu_isFull_1 ?_
  refine x_bipush C d_Tu_isFull_4 (v := 8) (by decide) ?_
  refine x_icmp_lt C d_Tu_isFull_6 13 (by decide) (fun c_1 => ?_) (fun c_1 => ?_)
  · have nc_1 := Int32.not_le.mpr c_1
    refine x_iconst C d_Tu_isFull_13 (v := 0) (by decide) ?_
    exact x_zret C (by decide) (bI_f (by first | (simp [bI_01, *]; done) | (simp_all [bI_01]; done))).symm rfl d_Tu_isFull_14
  · have nc_1 := Int32.not_lt.mp c_1
    refine x_iconst C d_Tu_isFull_9 (v := 1) (by decide) ?_
    refine x_goto C d_Tu_isFull_10 14 (by decide) ?_
    exact x_zret C (by decide) (bI_t (by first | (simp [bI_01, *]; done) | (simp_all [bI_01]; done))).symm rfl d_Tu_isFull_14

set_option maxRecDepth 100000 in
set_option maxHeartbeats 600000 in
theorem c_Tu_hasDays (Z : ZT) (t : Nat) (ht : t < 3) (k : Int32) (g : St)  (m : Int32) (hm : g t 0 = m) : CT yC Z y_Tu_hasDays b_Tu_hasDays 2 (some (.boolean)) 0 0 [.ref (Z.2.1 (14 + 12 * t)), .int (k)] (g) (QcI yC Z (bI (k ≤ 99999 - m)) (g)) := by
  refine CT.mk "TunnelPeace$Tunnel" (by decide) rfl (Nat.le_of_ble_eq_true rfl) (fun X C => ?_)
  refine x_lv [0, 1] (lv' := [(0, .ref (Z.2.1 (14 + 12 * t))), (1, .int (k))]) rfl ?_
  subst hm
  refine x_iload_n C d_Tu_hasDays_0 1 rfl rfl ?_
  refine x_ldc C d_Tu_hasDays_1 k_300 ?_
  refine x_aload_n C d_Tu_hasDays_3 0 rfl rfl ?_
  refine gf_Tu_day C (by omega) (v := g t 0) rfl k_66 d_Tu_hasDays_4 ?_
  refine x_isub C d_Tu_hasDays_7 ?_
  refine x_icmp_gt C d_Tu_hasDays_8 15 (by decide) (fun c_1 => ?_) (fun c_1 => ?_)
  · have nc_1 := Int32.not_le.mpr c_1
    refine x_iconst C d_Tu_hasDays_15 (v := 0) (by decide) ?_
    exact x_zret C (by decide) (bI_f (by first | (simp [bI_01, *]; done) | (simp_all [bI_01]; done))).symm rfl d_Tu_hasDays_16
  · have nc_1 := Int32.not_lt.mp c_1
    refine x_iconst C d_Tu_hasDays_11 (v := 1) (by decide) ?_
    refine x_goto C d_Tu_hasDays_12 16 (by decide) ?_
    exact x_zret C (by decide) (bI_t (by first | (simp [bI_01, *]; done) | (simp_all [bI_01]; done))).symm rfl d_Tu_hasDays_16

set_option maxRecDepth 100000 in
set_option maxHeartbeats 600000 in
theorem c_Tu_told (Z : ZT) (t : Nat) (ht : t < 3) (p f : Nat) (hp : p < 8) (hf : f < 10) (g : St)  (r : Nat → Int32) (hr : g t = r) : CT yC Z y_Tu_told b_Tu_told 4 (some (.int)) 2 45 [.ref (Z.2.1 (14 + 12 * t)), .int (nI p), .int (nI f)] (g) (QcI yC Z (tld r p f) (g)) := by
  refine CT.mk "TunnelPeace$Tunnel" (by decide) rfl (Nat.le_of_ble_eq_true rfl) (fun X C => ?_)
  refine x_lv [0, 1, 2] (lv' := [(0, .ref (Z.2.1 (14 + 12 * t))), (1, .int (nI p)), (2, .int (nI f))]) rfl ?_
  subst hr
  rcases (show f = 0 ∨ f = 1 ∨ f = 2 ∨ f = 3 ∨ f = 4 ∨ f = 5 ∨ f = 6 ∨ f = 7 ∨ f = 8 ∨ f = 9 by omega) with rfl | rfl | rfl | rfl | rfl | rfl | rfl | rfl | rfl | rfl
  · refine x_aload_n C d_Tu_told_0 0 rfl rfl ?_
    refine gf_Tu_people C (by omega) k_81 d_Tu_told_1 ?_
    refine x_iload_n C d_Tu_told_4 1 rfl rfl ?_
    refine al_pp C (by omega) p rfl (by omega) d_Tu_told_5 ?_
    refine x_astore_n C d_Tu_told_6 rfl (by decide) (lv' := [(3, .ref (Z.2.1 (18 + 12 * t + p))), (0, .ref (Z.2.1 (14 + 12 * t))), (1, .int (nI p)), (2, .int (nI 0))]) rfl ?_
    refine x_iload_n C d_Tu_told_7 3 rfl rfl ?_
    refine x_tabAt C d_Tu_told_8 (v := 0) (by decide) (by decide) (by decide) (off := 52) (by decide) 60 (by decide) ?_
    refine x_aload_n C d_Tu_told_60 0 rfl rfl ?_
    refine gf_Pe_kind C (by omega) (by omega) (v := g t (pI p 0)) rfl k_37 d_Tu_told_61 ?_
    exact x_iret C (by first | (simp [tld, bI, *]; done) | (simp_all [tld, bI]; done)) rfl d_Tu_told_64
  · refine x_aload_n C d_Tu_told_0 0 rfl rfl ?_
    refine gf_Tu_people C (by omega) k_81 d_Tu_told_1 ?_
    refine x_iload_n C d_Tu_told_4 1 rfl rfl ?_
    refine al_pp C (by omega) p rfl (by omega) d_Tu_told_5 ?_
    refine x_astore_n C d_Tu_told_6 rfl (by decide) (lv' := [(3, .ref (Z.2.1 (18 + 12 * t + p))), (0, .ref (Z.2.1 (14 + 12 * t))), (1, .int (nI p)), (2, .int (nI 1))]) rfl ?_
    refine x_iload_n C d_Tu_told_7 3 rfl rfl ?_
    refine x_tabAt C d_Tu_told_8 (v := 1) (by decide) (by decide) (by decide) (off := 57) (by decide) 65 (by decide) ?_
    refine x_aload_n C d_Tu_told_65 0 rfl rfl ?_
    refine gf_Pe_side C (by omega) (by omega) (v := g t (pI p 1)) rfl k_39 d_Tu_told_66 ?_
    exact x_iret C (by first | (simp [tld, bI, *]; done) | (simp_all [tld, bI]; done)) rfl d_Tu_told_69
  · refine x_aload_n C d_Tu_told_0 0 rfl rfl ?_
    refine gf_Tu_people C (by omega) k_81 d_Tu_told_1 ?_
    refine x_iload_n C d_Tu_told_4 1 rfl rfl ?_
    refine al_pp C (by omega) p rfl (by omega) d_Tu_told_5 ?_
    refine x_astore_n C d_Tu_told_6 rfl (by decide) (lv' := [(3, .ref (Z.2.1 (18 + 12 * t + p))), (0, .ref (Z.2.1 (14 + 12 * t))), (1, .int (nI p)), (2, .int (nI 2))]) rfl ?_
    refine x_iload_n C d_Tu_told_7 3 rfl rfl ?_
    refine x_tabAt C d_Tu_told_8 (v := 2) (by decide) (by decide) (by decide) (off := 62) (by decide) 70 (by decide) ?_
    refine x_aload_n C d_Tu_told_70 0 rfl rfl ?_
    refine gf_Pe_cell C (by omega) (by omega) (v := g t (pI p 2)) rfl k_41 d_Tu_told_71 ?_
    exact x_iret C (by first | (simp [tld, bI, *]; done) | (simp_all [tld, bI]; done)) rfl d_Tu_told_74
  · refine x_aload_n C d_Tu_told_0 0 rfl rfl ?_
    refine gf_Tu_people C (by omega) k_81 d_Tu_told_1 ?_
    refine x_iload_n C d_Tu_told_4 1 rfl rfl ?_
    refine al_pp C (by omega) p rfl (by omega) d_Tu_told_5 ?_
    refine x_astore_n C d_Tu_told_6 rfl (by decide) (lv' := [(3, .ref (Z.2.1 (18 + 12 * t + p))), (0, .ref (Z.2.1 (14 + 12 * t))), (1, .int (nI p)), (2, .int (nI 3))]) rfl ?_
    refine x_iload_n C d_Tu_told_7 3 rfl rfl ?_
    refine x_tabAt C d_Tu_told_8 (v := 3) (by decide) (by decide) (by decide) (off := 67) (by decide) 75 (by decide) ?_
    refine x_aload_n C d_Tu_told_75 0 rfl rfl ?_
    refine gf_Pe_season C (by omega) (by omega) (v := g t (pI p 3)) rfl k_46 d_Tu_told_76 ?_
    exact x_iret C (by first | (simp [tld, bI, *]; done) | (simp_all [tld, bI]; done)) rfl d_Tu_told_79
  · refine x_aload_n C d_Tu_told_0 0 rfl rfl ?_
    refine gf_Tu_people C (by omega) k_81 d_Tu_told_1 ?_
    refine x_iload_n C d_Tu_told_4 1 rfl rfl ?_
    refine al_pp C (by omega) p rfl (by omega) d_Tu_told_5 ?_
    refine x_astore_n C d_Tu_told_6 rfl (by decide) (lv' := [(3, .ref (Z.2.1 (18 + 12 * t + p))), (0, .ref (Z.2.1 (14 + 12 * t))), (1, .int (nI p)), (2, .int (nI 4))]) rfl ?_
    refine x_iload_n C d_Tu_told_7 3 rfl rfl ?_
    refine x_tabAt C d_Tu_told_8 (v := 4) (by decide) (by decide) (by decide) (off := 72) (by decide) 80 (by decide) ?_
    refine x_aload_n C d_Tu_told_80 0 rfl rfl ?_
    refine gf_Pe_bags C (by omega) (by omega) (v := g t (pI p 4)) rfl k_48 d_Tu_told_81 ?_
    exact x_iret C (by first | (simp [tld, bI, *]; done) | (simp_all [tld, bI]; done)) rfl d_Tu_told_84
  · refine x_aload_n C d_Tu_told_0 0 rfl rfl ?_
    refine gf_Tu_people C (by omega) k_81 d_Tu_told_1 ?_
    refine x_iload_n C d_Tu_told_4 1 rfl rfl ?_
    refine al_pp C (by omega) p rfl (by omega) d_Tu_told_5 ?_
    refine x_astore_n C d_Tu_told_6 rfl (by decide) (lv' := [(3, .ref (Z.2.1 (18 + 12 * t + p))), (0, .ref (Z.2.1 (14 + 12 * t))), (1, .int (nI p)), (2, .int (nI 5))]) rfl ?_
    refine x_iload_n C d_Tu_told_7 3 rfl rfl ?_
    refine x_tabAt C d_Tu_told_8 (v := 5) (by decide) (by decide) (by decide) (off := 77) (by decide) 85 (by decide) ?_
    refine x_aload_n C d_Tu_told_85 0 rfl rfl ?_
    refine gf_Pe_met C (by omega) (by omega) (v := g t (pI p 5)) rfl k_51 d_Tu_told_86 ?_
    exact x_iret C (by first | (simp [tld, bI, *]; done) | (simp_all [tld, bI]; done)) rfl d_Tu_told_89
  · refine x_aload_n C d_Tu_told_0 0 rfl rfl ?_
    refine gf_Tu_people C (by omega) k_81 d_Tu_told_1 ?_
    refine x_iload_n C d_Tu_told_4 1 rfl rfl ?_
    refine al_pp C (by omega) p rfl (by omega) d_Tu_told_5 ?_
    refine x_astore_n C d_Tu_told_6 rfl (by decide) (lv' := [(3, .ref (Z.2.1 (18 + 12 * t + p))), (0, .ref (Z.2.1 (14 + 12 * t))), (1, .int (nI p)), (2, .int (nI 6))]) rfl ?_
    refine x_iload_n C d_Tu_told_7 3 rfl rfl ?_
    refine x_tabAt C d_Tu_told_8 (v := 6) (by decide) (by decide) (by decide) (off := 82) (by decide) 90 (by decide) ?_
    refine x_aload_n C d_Tu_told_90 0 rfl rfl ?_
    refine x_aload_n C d_Tu_told_91 1 rfl rfl ?_
    refine gf_Tu_day C (by omega) (v := g t 0) rfl k_66 d_Tu_told_92 ?_
    refine x_callVi C (c_Pe_steps Z t p (by omega) (by omega) (g t 0) (g) _ rfl) mi_Pe_steps k_243 (show 18 + 12 * t + p < 50 by omega) (e_Pe Z t (by omega) _) rfl (As := [.int (g t 0)]) ⟨Nat.le_of_ble_eq_true rfl, Nat.le_of_ble_eq_true rfl⟩ rfl rfl (Nat.le_of_ble_eq_true rfl) d_Tu_told_95 ?_
    exact x_iret C (by first | (simp [tld, bI, *]; done) | (simp_all [tld, bI]; done)) rfl d_Tu_told_98
  · refine x_aload_n C d_Tu_told_0 0 rfl rfl ?_
    refine gf_Tu_people C (by omega) k_81 d_Tu_told_1 ?_
    refine x_iload_n C d_Tu_told_4 1 rfl rfl ?_
    refine al_pp C (by omega) p rfl (by omega) d_Tu_told_5 ?_
    refine x_astore_n C d_Tu_told_6 rfl (by decide) (lv' := [(3, .ref (Z.2.1 (18 + 12 * t + p))), (0, .ref (Z.2.1 (14 + 12 * t))), (1, .int (nI p)), (2, .int (nI 7))]) rfl ?_
    refine x_iload_n C d_Tu_told_7 3 rfl rfl ?_
    refine x_tabAt C d_Tu_told_8 (v := 7) (by decide) (by decide) (by decide) (off := 91) (by decide) 99 (by decide) ?_
    refine x_aload_n C d_Tu_told_99 0 rfl rfl ?_
    refine x_aload_n C d_Tu_told_100 1 rfl rfl ?_
    refine gf_Tu_guns C (by omega) (v := g t 3) rfl k_68 d_Tu_told_101 ?_
    refine x_callVi C (c_Pe_crosses Z t p (by omega) (by omega) (g t 3) (g) _ rfl) mi_Pe_crosses k_250 (show 18 + 12 * t + p < 50 by omega) (e_Pe Z t (by omega) _) rfl (As := [.int (g t 3)]) ⟨Nat.le_of_ble_eq_true rfl, Nat.le_of_ble_eq_true rfl⟩ rfl rfl (Nat.le_of_ble_eq_true rfl) d_Tu_told_104 ?_
    refine x_ifeqB C d_Tu_told_107 114 (by decide) (fun c_1 => ?_) (fun c_1 => ?_)
    · refine x_iconst C d_Tu_told_114 (v := 0) (by decide) ?_
      exact x_iret C (by first | (simp [tld, bI, *]; done) | (simp_all [tld, bI]; done)) rfl d_Tu_told_115
    · refine x_iconst C d_Tu_told_110 (v := 1) (by decide) ?_
      refine x_goto C d_Tu_told_111 115 (by decide) ?_
      exact x_iret C (by first | (simp [tld, bI, *]; done) | (simp_all [tld, bI]; done)) rfl d_Tu_told_115
  · refine x_aload_n C d_Tu_told_0 0 rfl rfl ?_
    refine gf_Tu_people C (by omega) k_81 d_Tu_told_1 ?_
    refine x_iload_n C d_Tu_told_4 1 rfl rfl ?_
    refine al_pp C (by omega) p rfl (by omega) d_Tu_told_5 ?_
    refine x_astore_n C d_Tu_told_6 rfl (by decide) (lv' := [(3, .ref (Z.2.1 (18 + 12 * t + p))), (0, .ref (Z.2.1 (14 + 12 * t))), (1, .int (nI p)), (2, .int (nI 8))]) rfl ?_
    refine x_iload_n C d_Tu_told_7 3 rfl rfl ?_
    refine x_tabAt C d_Tu_told_8 (v := 8) (by decide) (by decide) (by decide) (off := 108) (by decide) 116 (by decide) ?_
    refine x_aload_n C d_Tu_told_116 0 rfl rfl ?_
    refine x_callVi C (c_Pe_calms Z t p (by omega) (by omega) (g) _ rfl) mi_Pe_calms k_254 (show 18 + 12 * t + p < 50 by omega) (e_Pe Z t (by omega) _) rfl (As := []) ⟨Nat.le_of_ble_eq_true rfl, Nat.le_of_ble_eq_true rfl⟩ rfl rfl (Nat.le_of_ble_eq_true rfl) d_Tu_told_117 ?_
    exact x_iret C (by first | (simp [tld, bI, *]; done) | (simp_all [tld, bI]; done)) rfl d_Tu_told_120
  · refine x_aload_n C d_Tu_told_0 0 rfl rfl ?_
    refine gf_Tu_people C (by omega) k_81 d_Tu_told_1 ?_
    refine x_iload_n C d_Tu_told_4 1 rfl rfl ?_
    refine al_pp C (by omega) p rfl (by omega) d_Tu_told_5 ?_
    refine x_astore_n C d_Tu_told_6 rfl (by decide) (lv' := [(3, .ref (Z.2.1 (18 + 12 * t + p))), (0, .ref (Z.2.1 (14 + 12 * t))), (1, .int (nI p)), (2, .int (nI 9))]) rfl ?_
    refine x_iload_n C d_Tu_told_7 3 rfl rfl ?_
    refine x_tabOut C d_Tu_told_8 (by decide) 121 (by decide) ?_
    refine x_aload_n C d_Tu_told_121 0 rfl rfl ?_
    refine x_aload_n C d_Tu_told_122 1 rfl rfl ?_
    refine gf_Tu_day C (by omega) (v := g t 0) rfl k_66 d_Tu_told_123 ?_
    refine x_callVi C (c_Pe_tires Z t p (by omega) (by omega) (g t 0) (g) _ rfl) mi_Pe_tires k_258 (show 18 + 12 * t + p < 50 by omega) (e_Pe Z t (by omega) _) rfl (As := [.int (g t 0)]) ⟨Nat.le_of_ble_eq_true rfl, Nat.le_of_ble_eq_true rfl⟩ rfl rfl (Nat.le_of_ble_eq_true rfl) d_Tu_told_126 ?_
    exact x_iret C (by first | (simp [tld, bI, *]; done) | (simp_all [tld, bI]; done)) rfl d_Tu_told_129

set_option maxRecDepth 100000 in
set_option maxHeartbeats 600000 in
theorem c_Tu_add (Z : ZT) (t : Nat) (ht : t < 3) (k s : Int32) (g : St)  (r : Nat → Int32) (hr : g t = r) (hk : okR r) (hf : sz r < 8) : CT yC Z y_Tu_add b_Tu_add 3 (some (.int)) 2 42 [.ref (Z.2.1 (14 + 12 * t)), .int (k), .int (s)] (g) (QcI yC Z (nI (sz r)) (va_up g t (addR r k s))) := by
  refine CT.mk "TunnelPeace$Tunnel" (by decide) rfl (Nat.le_of_ble_eq_true rfl) (fun X C => ?_)
  refine x_lv [0, 1, 2] (lv' := [(0, .ref (Z.2.1 (14 + 12 * t))), (1, .int (k)), (2, .int (s))]) rfl ?_
  subst hr
  obtain ⟨⟨n, hn8, hn⟩, dd, hdd, hd⟩ := hk
  rw [sz_of hn hn8] at hf
  refine x_aload_n C d_Tu_add_0 0 rfl rfl ?_
  refine gf_Tu_people C (by omega) k_81 d_Tu_add_1 ?_
  refine x_aload_n C d_Tu_add_4 0 rfl rfl ?_
  refine gf_Tu_size C (by omega) (v := nI n) hn k_74 d_Tu_add_5 ?_
  refine al_pp C (by omega) n rfl (by omega) d_Tu_add_8 ?_
  refine x_iload_n C d_Tu_add_9 1 rfl rfl ?_
  refine x_iload_n C d_Tu_add_10 2 rfl rfl ?_
  refine x_callVv C (c_Pe_begin Z t n (by omega) (by omega) k s (g) _ rfl) mi_Pe_begin k_223 (show 18 + 12 * t + n < 50 by omega) (e_Pe Z t (by omega) _) rfl (As := [.int (k), .int (s)]) ⟨Nat.le_of_ble_eq_true rfl, Nat.le_of_ble_eq_true rfl⟩ rfl rfl (Nat.le_of_ble_eq_true rfl) d_Tu_add_11 ?_
  refine x_aload_n C d_Tu_add_14 0 rfl rfl ?_
  refine x_dup C d_Tu_add_15 rfl ?_
  refine gf_Tu_size C (by omega) (v := nI n) (Eq.trans (Eq.trans (congrFun (va_up_self _ _ _) _) (bgnR_hd (by decide))) hn) k_74 d_Tu_add_16 ?_
  refine x_iconst C d_Tu_add_19 (v := 1) (by decide) ?_
  refine x_iadd C d_Tu_add_20 ?_
  refine x_topi (x' := nI (n + 1)) (nI_1 _) ?_
  refine pf_Tu_size C (by omega) (v := nI (n + 1)) (G := va_up g t (upd (bgnR (g t) n k s) 1 (nI (n + 1)))) up_va k_74 d_Tu_add_21 ?_
  refine x_aload_n C d_Tu_add_24 0 rfl rfl ?_
  refine gf_Tu_size C (by omega) (v := nI (n + 1)) (Eq.trans (congrFun (va_up_self _ _ _) _) pk_us) k_74 d_Tu_add_25 ?_
  refine x_iconst C d_Tu_add_28 (v := 1) (by decide) ?_
  refine x_isub C d_Tu_add_29 ?_
  refine x_topi (x' := nI n) (nI_pred n) ?_
  exact x_iret C (by rw [sz_of hn hn8]) (by unfold addR; rw [sz_of hn hn8]) d_Tu_add_30

set_option maxRecDepth 100000 in
set_option maxHeartbeats 600000 in
theorem c_Tu_allMet (Z : ZT) (t : Nat) (ht : t < 3) (g : St)  (r : Nat → Int32) (hr : g t = r) (hk : okR r) : CT yC Z y_Tu_allMet b_Tu_allMet 3 (some (.int)) 0 0 [.ref (Z.2.1 (14 + 12 * t))] (g) (QcI yC Z (sumN r (sz r)) (g)) := by
  refine CT.mk "TunnelPeace$Tunnel" (by decide) rfl (Nat.le_of_ble_eq_true rfl) (fun X C => ?_)
  refine x_lv [0] (lv' := [(0, .ref (Z.2.1 (14 + 12 * t)))]) rfl ?_
  subst hr
  obtain ⟨⟨n, hn8, hn⟩, dd, hdd, hd⟩ := hk
  refine x_iconst C d_Tu_allMet_0 (v := 0) (by decide) ?_
  refine x_istore_n C d_Tu_allMet_1 rfl (by decide) (lv' := [(1, .int (0)), (0, .ref (Z.2.1 (14 + 12 * t)))]) rfl ?_
  refine x_iconst C d_Tu_allMet_2 (v := 0) (by decide) ?_
  refine x_topi (show (0 : Int32) = nI 0 by decide) ?_
  refine x_istore_n C d_Tu_allMet_3 rfl (by decide) (lv' := [(2, .int (nI 0)), (1, .int (0)), (0, .ref (Z.2.1 (14 + 12 * t)))]) rfl ?_
  have LP_4 : ∀ (f_ i : Nat), i ≤ n → n - i < f_ → WX X 3 yC Z (QX X yC Z (QcI yC Z (sumN (g t) (sz (g t))) (g))) (g) 4 [(2, .int (nI i)), (1, .int (sumN (g t) (i))), (0, .ref (Z.2.1 (14 + 12 * t)))] [] := by
    intro f_
    induction f_ with
    | zero => intro i h1_ h2_; exact absurd h2_ (Nat.not_lt_zero _)
    | succ f_ ih_4 =>
      intro i hi_4 hf_4
      refine x_iload_n C d_Tu_allMet_4 0 rfl rfl ?_
      refine x_aload_n C d_Tu_allMet_5 2 rfl rfl ?_
      refine gf_Tu_size C (by omega) (v := nI n) hn k_74 d_Tu_allMet_6 ?_
      refine x_icmp_ge C d_Tu_allMet_9 30 (by decide) (fun c_1 => ?_) (fun c_1 => ?_)
      · have nc_1 := Int32.not_lt.mpr c_1
        have mc_1 : n ≤ i := (nI_leI (by omega) (by omega)).mp (show nI n ≤ nI i from c_1)
        have e_i : n = i := by omega
        subst e_i
        refine x_iload_n C d_Tu_allMet_30 1 rfl rfl ?_
        exact x_iret C (by rw [sz_of hn hn8]) rfl d_Tu_allMet_31
      · have nc_1 := Int32.not_le.mp c_1
        have mc_1 : ¬ n ≤ i := fun z_ => (show ¬ nI n ≤ nI i from c_1) ((nI_leI (by omega) (by omega)).mpr z_)
        refine x_iload_n C d_Tu_allMet_12 1 rfl rfl ?_
        refine x_aload_n C d_Tu_allMet_13 2 rfl rfl ?_
        refine gf_Tu_people C (by omega) k_81 d_Tu_allMet_14 ?_
        refine x_iload_n C d_Tu_allMet_17 0 rfl rfl ?_
        refine al_pp C (by omega) i rfl (by omega) d_Tu_allMet_18 ?_
        refine gf_Pe_met C (by omega) (by omega) (v := g t (pI i 5)) rfl k_51 d_Tu_allMet_19 ?_
        refine x_iadd C d_Tu_allMet_22 ?_
        refine x_istore_n C d_Tu_allMet_23 rfl (by decide) (lv' := [(1, .int ((sumN (g t) (i)) + (g t (pI i 5)))), (2, .int (nI i)), (0, .ref (Z.2.1 (14 + 12 * t)))]) rfl ?_
        refine x_iinc C d_Tu_allMet_24 1 rfl (v := nI (i + 1)) (nI_1 _) (by decide) (lv' := [(2, .int (nI (i + 1))), (1, .int ((sumN (g t) (i)) + (g t (pI i 5)))), (0, .ref (Z.2.1 (14 + 12 * t)))]) rfl ?_
        refine x_goto C d_Tu_allMet_27 4 (by decide) ?_
        refine x_lve (lv' := [(2, .int (nI (i + 1))), (1, .int (sumN (g t) (i + 1))), (0, .ref (Z.2.1 (14 + 12 * t)))]) (by first | rfl | simp [sumN, bit, *]) ?_
        exact ih_4 (i + 1) (by omega) (by omega)
  refine x_lve (lv' := [(2, .int (nI 0)), (1, .int (sumN (g t) (0))), (0, .ref (Z.2.1 (14 + 12 * t)))]) rfl ?_
  exact LP_4 (n + 1) 0 (Nat.zero_le _) (by omega)

set_option maxRecDepth 100000 in
set_option maxHeartbeats 600000 in
theorem c_Tu_peopleAt (Z : ZT) (t : Nat) (ht : t < 3) (c : Int32) (g : St)  (r : Nat → Int32) (hr : g t = r) (hk : okR r) : CT yC Z y_Tu_peopleAt b_Tu_peopleAt 4 (some (.int)) 0 0 [.ref (Z.2.1 (14 + 12 * t)), .int (c)] (g) (QcI yC Z (patN c r (sz r)) (g)) := by
  refine CT.mk "TunnelPeace$Tunnel" (by decide) rfl (Nat.le_of_ble_eq_true rfl) (fun X C => ?_)
  refine x_lv [0, 1] (lv' := [(0, .ref (Z.2.1 (14 + 12 * t))), (1, .int (c))]) rfl ?_
  subst hr
  obtain ⟨⟨n, hn8, hn⟩, dd, hdd, hd⟩ := hk
  refine x_iconst C d_Tu_peopleAt_0 (v := 0) (by decide) ?_
  refine x_istore_n C d_Tu_peopleAt_1 rfl (by decide) (lv' := [(2, .int (0)), (0, .ref (Z.2.1 (14 + 12 * t))), (1, .int (c))]) rfl ?_
  refine x_iconst C d_Tu_peopleAt_2 (v := 0) (by decide) ?_
  refine x_topi (show (0 : Int32) = nI 0 by decide) ?_
  refine x_istore_n C d_Tu_peopleAt_3 rfl (by decide) (lv' := [(3, .int (nI 0)), (2, .int (0)), (0, .ref (Z.2.1 (14 + 12 * t))), (1, .int (c))]) rfl ?_
  have LP_4 : ∀ (f_ i : Nat), i ≤ n → n - i < f_ → WX X 4 yC Z (QX X yC Z (QcI yC Z (patN c (g t) (sz (g t))) (g))) (g) 4 [(3, .int (nI i)), (2, .int (patN c (g t) (i))), (0, .ref (Z.2.1 (14 + 12 * t))), (1, .int (c))] [] := by
    intro f_
    induction f_ with
    | zero => intro i h1_ h2_; exact absurd h2_ (Nat.not_lt_zero _)
    | succ f_ ih_4 =>
      intro i hi_4 hf_4
      refine x_iload_n C d_Tu_peopleAt_4 0 rfl rfl ?_
      refine x_aload_n C d_Tu_peopleAt_5 2 rfl rfl ?_
      refine gf_Tu_size C (by omega) (v := nI n) hn k_74 d_Tu_peopleAt_6 ?_
      refine x_icmp_ge C d_Tu_peopleAt_9 37 (by decide) (fun c_1 => ?_) (fun c_1 => ?_)
      · have nc_1 := Int32.not_lt.mpr c_1
        have mc_1 : n ≤ i := (nI_leI (by omega) (by omega)).mp (show nI n ≤ nI i from c_1)
        have e_i : n = i := by omega
        subst e_i
        refine x_iload_n C d_Tu_peopleAt_37 1 rfl rfl ?_
        exact x_iret C (by rw [sz_of hn hn8]) rfl d_Tu_peopleAt_38
      · have nc_1 := Int32.not_le.mp c_1
        have mc_1 : ¬ n ≤ i := fun z_ => (show ¬ nI n ≤ nI i from c_1) ((nI_leI (by omega) (by omega)).mpr z_)
        refine x_aload_n C d_Tu_peopleAt_12 2 rfl rfl ?_
        refine gf_Tu_people C (by omega) k_81 d_Tu_peopleAt_13 ?_
        refine x_iload_n C d_Tu_peopleAt_16 0 rfl rfl ?_
        refine al_pp C (by omega) i rfl (by omega) d_Tu_peopleAt_17 ?_
        refine gf_Pe_cell C (by omega) (by omega) (v := g t (pI i 2)) rfl k_41 d_Tu_peopleAt_18 ?_
        refine x_iload_n C d_Tu_peopleAt_21 3 rfl rfl ?_
        refine x_icmp_ne C d_Tu_peopleAt_22 31 (by decide) (fun c_2 => ?_) (fun c_2 => ?_)
        · have nc_2 := Ne.symm c_2
          refine x_iinc C d_Tu_peopleAt_31 0 rfl (v := nI (i + 1)) (nI_1 _) (by decide) (lv' := [(3, .int (nI (i + 1))), (2, .int (patN c (g t) (i))), (0, .ref (Z.2.1 (14 + 12 * t))), (1, .int (c))]) rfl ?_
          refine x_goto C d_Tu_peopleAt_34 4 (by decide) ?_
          refine x_lve (lv' := [(3, .int (nI (i + 1))), (2, .int (patN c (g t) (i + 1))), (0, .ref (Z.2.1 (14 + 12 * t))), (1, .int (c))]) (by first | rfl | simp [patN, bit, *]) ?_
          exact ih_4 (i + 1) (by omega) (by omega)
        · refine x_iload_n C d_Tu_peopleAt_25 1 rfl rfl ?_
          refine x_iconst C d_Tu_peopleAt_26 (v := 1) (by decide) ?_
          refine x_iload_n C d_Tu_peopleAt_27 0 rfl rfl ?_
          refine x_ishl C d_Tu_peopleAt_28 ?_
          refine x_ior C d_Tu_peopleAt_29 ?_
          refine x_istore_n C d_Tu_peopleAt_30 rfl (by decide) (lv' := [(2, .int ((patN c (g t) (i)) ||| (1 <<< ((nI i) &&& 31)))), (3, .int (nI i)), (0, .ref (Z.2.1 (14 + 12 * t))), (1, .int (c))]) rfl ?_
          refine x_iinc C d_Tu_peopleAt_31 1 rfl (v := nI (i + 1)) (nI_1 _) (by decide) (lv' := [(3, .int (nI (i + 1))), (2, .int ((patN c (g t) (i)) ||| (1 <<< ((nI i) &&& 31)))), (0, .ref (Z.2.1 (14 + 12 * t))), (1, .int (c))]) rfl ?_
          refine x_goto C d_Tu_peopleAt_34 4 (by decide) ?_
          refine x_lve (lv' := [(3, .int (nI (i + 1))), (2, .int (patN c (g t) (i + 1))), (0, .ref (Z.2.1 (14 + 12 * t))), (1, .int (c))]) (by first | rfl | simp [patN, bit, *]) ?_
          exact ih_4 (i + 1) (by omega) (by omega)
  refine x_lve (lv' := [(3, .int (nI 0)), (2, .int (patN c (g t) (0))), (0, .ref (Z.2.1 (14 + 12 * t))), (1, .int (c))]) rfl ?_
  exact LP_4 (n + 1) 0 (Nat.zero_le _) (by omega)

set_option maxRecDepth 100000 in
set_option maxHeartbeats 600000 in
theorem c_Tu_peopleAbroad (Z : ZT) (t : Nat) (ht : t < 3) (g : St)  (r : Nat → Int32) (hr : g t = r) (hk : okR r) : CT yC Z y_Tu_peopleAbroad b_Tu_peopleAbroad 3 (some (.int)) 1 20 [.ref (Z.2.1 (14 + 12 * t))] (g) (QcI yC Z (abrN r (sz r)) (g)) := by
  refine CT.mk "TunnelPeace$Tunnel" (by decide) rfl (Nat.le_of_ble_eq_true rfl) (fun X C => ?_)
  refine x_lv [0] (lv' := [(0, .ref (Z.2.1 (14 + 12 * t)))]) rfl ?_
  subst hr
  obtain ⟨⟨n, hn8, hn⟩, dd, hdd, hd⟩ := hk
  refine x_iconst C d_Tu_peopleAbroad_0 (v := 0) (by decide) ?_
  refine x_istore_n C d_Tu_peopleAbroad_1 rfl (by decide) (lv' := [(1, .int (0)), (0, .ref (Z.2.1 (14 + 12 * t)))]) rfl ?_
  refine x_iconst C d_Tu_peopleAbroad_2 (v := 0) (by decide) ?_
  refine x_topi (show (0 : Int32) = nI 0 by decide) ?_
  refine x_istore_n C d_Tu_peopleAbroad_3 rfl (by decide) (lv' := [(2, .int (nI 0)), (1, .int (0)), (0, .ref (Z.2.1 (14 + 12 * t)))]) rfl ?_
  have LP_4 : ∀ (f_ i : Nat), i ≤ n → n - i < f_ → WX X 3 yC Z (QX X yC Z (QcI yC Z (abrN (g t) (sz (g t))) (g))) (g) 4 [(2, .int (nI i)), (1, .int (abrN (g t) (i))), (0, .ref (Z.2.1 (14 + 12 * t)))] [] := by
    intro f_
    induction f_ with
    | zero => intro i h1_ h2_; exact absurd h2_ (Nat.not_lt_zero _)
    | succ f_ ih_4 =>
      intro i hi_4 hf_4
      refine x_iload_n C d_Tu_peopleAbroad_4 0 rfl rfl ?_
      refine x_aload_n C d_Tu_peopleAbroad_5 2 rfl rfl ?_
      refine gf_Tu_size C (by omega) (v := nI n) hn k_74 d_Tu_peopleAbroad_6 ?_
      refine x_icmp_ge C d_Tu_peopleAbroad_9 36 (by decide) (fun c_1 => ?_) (fun c_1 => ?_)
      · have nc_1 := Int32.not_lt.mpr c_1
        have mc_1 : n ≤ i := (nI_leI (by omega) (by omega)).mp (show nI n ≤ nI i from c_1)
        have e_i : n = i := by omega
        subst e_i
        refine x_iload_n C d_Tu_peopleAbroad_36 1 rfl rfl ?_
        exact x_iret C (by rw [sz_of hn hn8]) rfl d_Tu_peopleAbroad_37
      · have nc_1 := Int32.not_le.mp c_1
        have mc_1 : ¬ n ≤ i := fun z_ => (show ¬ nI n ≤ nI i from c_1) ((nI_leI (by omega) (by omega)).mpr z_)
        refine x_aload_n C d_Tu_peopleAbroad_12 2 rfl rfl ?_
        refine gf_Tu_people C (by omega) k_81 d_Tu_peopleAbroad_13 ?_
        refine x_iload_n C d_Tu_peopleAbroad_16 0 rfl rfl ?_
        refine al_pp C (by omega) i rfl (by omega) d_Tu_peopleAbroad_17 ?_
        refine x_callVi C (c_Pe_isAbroad Z t i (by omega) (by omega) (g) _ rfl) mi_Pe_isAbroad k_352 (show 18 + 12 * t + i < 50 by omega) (e_Pe Z t (by omega) _) rfl (As := []) ⟨Nat.le_of_ble_eq_true rfl, Nat.le_of_ble_eq_true rfl⟩ rfl rfl (Nat.le_of_ble_eq_true rfl) d_Tu_peopleAbroad_18 ?_
        refine x_ifeqB C d_Tu_peopleAbroad_21 30 (by decide) (fun c_2 => ?_) (fun c_2 => ?_)
        · refine x_iinc C d_Tu_peopleAbroad_30 0 rfl (v := nI (i + 1)) (nI_1 _) (by decide) (lv' := [(2, .int (nI (i + 1))), (1, .int (abrN (g t) (i))), (0, .ref (Z.2.1 (14 + 12 * t)))]) rfl ?_
          refine x_goto C d_Tu_peopleAbroad_33 4 (by decide) ?_
          refine x_lve (lv' := [(2, .int (nI (i + 1))), (1, .int (abrN (g t) (i + 1))), (0, .ref (Z.2.1 (14 + 12 * t)))]) (by first | rfl | simp [abrN, bit, *]) ?_
          exact ih_4 (i + 1) (by omega) (by omega)
        · refine x_iload_n C d_Tu_peopleAbroad_24 1 rfl rfl ?_
          refine x_iconst C d_Tu_peopleAbroad_25 (v := 1) (by decide) ?_
          refine x_iload_n C d_Tu_peopleAbroad_26 0 rfl rfl ?_
          refine x_ishl C d_Tu_peopleAbroad_27 ?_
          refine x_ior C d_Tu_peopleAbroad_28 ?_
          refine x_istore_n C d_Tu_peopleAbroad_29 rfl (by decide) (lv' := [(1, .int ((abrN (g t) (i)) ||| (1 <<< ((nI i) &&& 31)))), (2, .int (nI i)), (0, .ref (Z.2.1 (14 + 12 * t)))]) rfl ?_
          refine x_iinc C d_Tu_peopleAbroad_30 1 rfl (v := nI (i + 1)) (nI_1 _) (by decide) (lv' := [(2, .int (nI (i + 1))), (1, .int ((abrN (g t) (i)) ||| (1 <<< ((nI i) &&& 31)))), (0, .ref (Z.2.1 (14 + 12 * t)))]) rfl ?_
          refine x_goto C d_Tu_peopleAbroad_33 4 (by decide) ?_
          refine x_lve (lv' := [(2, .int (nI (i + 1))), (1, .int (abrN (g t) (i + 1))), (0, .ref (Z.2.1 (14 + 12 * t)))]) (by first | rfl | simp [abrN, bit, *]) ?_
          exact ih_4 (i + 1) (by omega) (by omega)
  refine x_lve (lv' := [(2, .int (nI 0)), (1, .int (abrN (g t) (0))), (0, .ref (Z.2.1 (14 + 12 * t)))]) rfl ?_
  exact LP_4 (n + 1) 0 (Nat.zero_le _) (by omega)

set_option maxRecDepth 100000 in
set_option maxHeartbeats 600000 in
theorem c_Tu_peopleWithSeason (Z : ZT) (t : Nat) (ht : t < 3) (g : St)  (r : Nat → Int32) (hr : g t = r) (hk : okR r) : CT yC Z y_Tu_peopleWithSeason b_Tu_peopleWithSeason 3 (some (.int)) 0 0 [.ref (Z.2.1 (14 + 12 * t))] (g) (QcI yC Z (seaN r (sz r)) (g)) := by
  refine CT.mk "TunnelPeace$Tunnel" (by decide) rfl (Nat.le_of_ble_eq_true rfl) (fun X C => ?_)
  refine x_lv [0] (lv' := [(0, .ref (Z.2.1 (14 + 12 * t)))]) rfl ?_
  subst hr
  obtain ⟨⟨n, hn8, hn⟩, dd, hdd, hd⟩ := hk
  refine x_iconst C d_Tu_peopleWithSeason_0 (v := 0) (by decide) ?_
  refine x_istore_n C d_Tu_peopleWithSeason_1 rfl (by decide) (lv' := [(1, .int (0)), (0, .ref (Z.2.1 (14 + 12 * t)))]) rfl ?_
  refine x_iconst C d_Tu_peopleWithSeason_2 (v := 0) (by decide) ?_
  refine x_topi (show (0 : Int32) = nI 0 by decide) ?_
  refine x_istore_n C d_Tu_peopleWithSeason_3 rfl (by decide) (lv' := [(2, .int (nI 0)), (1, .int (0)), (0, .ref (Z.2.1 (14 + 12 * t)))]) rfl ?_
  have LP_4 : ∀ (f_ i : Nat), i ≤ n → n - i < f_ → WX X 3 yC Z (QX X yC Z (QcI yC Z (seaN (g t) (sz (g t))) (g))) (g) 4 [(2, .int (nI i)), (1, .int (seaN (g t) (i))), (0, .ref (Z.2.1 (14 + 12 * t)))] [] := by
    intro f_
    induction f_ with
    | zero => intro i h1_ h2_; exact absurd h2_ (Nat.not_lt_zero _)
    | succ f_ ih_4 =>
      intro i hi_4 hf_4
      refine x_iload_n C d_Tu_peopleWithSeason_4 0 rfl rfl ?_
      refine x_aload_n C d_Tu_peopleWithSeason_5 2 rfl rfl ?_
      refine gf_Tu_size C (by omega) (v := nI n) hn k_74 d_Tu_peopleWithSeason_6 ?_
      refine x_icmp_ge C d_Tu_peopleWithSeason_9 36 (by decide) (fun c_1 => ?_) (fun c_1 => ?_)
      · have nc_1 := Int32.not_lt.mpr c_1
        have mc_1 : n ≤ i := (nI_leI (by omega) (by omega)).mp (show nI n ≤ nI i from c_1)
        have e_i : n = i := by omega
        subst e_i
        refine x_iload_n C d_Tu_peopleWithSeason_36 1 rfl rfl ?_
        exact x_iret C (by rw [sz_of hn hn8]) rfl d_Tu_peopleWithSeason_37
      · have nc_1 := Int32.not_le.mp c_1
        have mc_1 : ¬ n ≤ i := fun z_ => (show ¬ nI n ≤ nI i from c_1) ((nI_leI (by omega) (by omega)).mpr z_)
        refine x_aload_n C d_Tu_peopleWithSeason_12 2 rfl rfl ?_
        refine gf_Tu_people C (by omega) k_81 d_Tu_peopleWithSeason_13 ?_
        refine x_iload_n C d_Tu_peopleWithSeason_16 0 rfl rfl ?_
        refine al_pp C (by omega) i rfl (by omega) d_Tu_peopleWithSeason_17 ?_
        refine gf_Pe_season C (by omega) (by omega) (v := g t (pI i 3)) rfl k_46 d_Tu_peopleWithSeason_18 ?_
        refine x_ifle C d_Tu_peopleWithSeason_21 30 (by decide) (fun c_2 => ?_) (fun c_2 => ?_)
        · have nc_2 := Int32.not_lt.mpr c_2
          refine x_iinc C d_Tu_peopleWithSeason_30 0 rfl (v := nI (i + 1)) (nI_1 _) (by decide) (lv' := [(2, .int (nI (i + 1))), (1, .int (seaN (g t) (i))), (0, .ref (Z.2.1 (14 + 12 * t)))]) rfl ?_
          refine x_goto C d_Tu_peopleWithSeason_33 4 (by decide) ?_
          refine x_lve (lv' := [(2, .int (nI (i + 1))), (1, .int (seaN (g t) (i + 1))), (0, .ref (Z.2.1 (14 + 12 * t)))]) (by first | rfl | simp [seaN, bit, *]) ?_
          exact ih_4 (i + 1) (by omega) (by omega)
        · have nc_2 := Int32.not_le.mp c_2
          refine x_iload_n C d_Tu_peopleWithSeason_24 1 rfl rfl ?_
          refine x_iconst C d_Tu_peopleWithSeason_25 (v := 1) (by decide) ?_
          refine x_iload_n C d_Tu_peopleWithSeason_26 0 rfl rfl ?_
          refine x_ishl C d_Tu_peopleWithSeason_27 ?_
          refine x_ior C d_Tu_peopleWithSeason_28 ?_
          refine x_istore_n C d_Tu_peopleWithSeason_29 rfl (by decide) (lv' := [(1, .int ((seaN (g t) (i)) ||| (1 <<< ((nI i) &&& 31)))), (2, .int (nI i)), (0, .ref (Z.2.1 (14 + 12 * t)))]) rfl ?_
          refine x_iinc C d_Tu_peopleWithSeason_30 1 rfl (v := nI (i + 1)) (nI_1 _) (by decide) (lv' := [(2, .int (nI (i + 1))), (1, .int ((seaN (g t) (i)) ||| (1 <<< ((nI i) &&& 31)))), (0, .ref (Z.2.1 (14 + 12 * t)))]) rfl ?_
          refine x_goto C d_Tu_peopleWithSeason_33 4 (by decide) ?_
          refine x_lve (lv' := [(2, .int (nI (i + 1))), (1, .int (seaN (g t) (i + 1))), (0, .ref (Z.2.1 (14 + 12 * t)))]) (by first | rfl | simp [seaN, bit, *]) ?_
          exact ih_4 (i + 1) (by omega) (by omega)
  refine x_lve (lv' := [(2, .int (nI 0)), (1, .int (seaN (g t) (0))), (0, .ref (Z.2.1 (14 + 12 * t)))]) rfl ?_
  exact LP_4 (n + 1) 0 (Nat.zero_le _) (by omega)

set_option maxRecDepth 100000 in
set_option maxHeartbeats 600000 in
theorem c_Tu_cellsTaken (Z : ZT) (t : Nat) (ht : t < 3) (g : St)  (r : Nat → Int32) (hr : g t = r) (hk : okR r) : CT yC Z y_Tu_cellsTaken b_Tu_cellsTaken 3 (some (.int)) 0 0 [.ref (Z.2.1 (14 + 12 * t))] (g) (QcI yC Z (celN r (sz r)) (g)) := by
  refine CT.mk "TunnelPeace$Tunnel" (by decide) rfl (Nat.le_of_ble_eq_true rfl) (fun X C => ?_)
  refine x_lv [0] (lv' := [(0, .ref (Z.2.1 (14 + 12 * t)))]) rfl ?_
  subst hr
  obtain ⟨⟨n, hn8, hn⟩, dd, hdd, hd⟩ := hk
  refine x_iconst C d_Tu_cellsTaken_0 (v := 0) (by decide) ?_
  refine x_istore_n C d_Tu_cellsTaken_1 rfl (by decide) (lv' := [(1, .int (0)), (0, .ref (Z.2.1 (14 + 12 * t)))]) rfl ?_
  refine x_iconst C d_Tu_cellsTaken_2 (v := 0) (by decide) ?_
  refine x_topi (show (0 : Int32) = nI 0 by decide) ?_
  refine x_istore_n C d_Tu_cellsTaken_3 rfl (by decide) (lv' := [(2, .int (nI 0)), (1, .int (0)), (0, .ref (Z.2.1 (14 + 12 * t)))]) rfl ?_
  have LP_4 : ∀ (f_ i : Nat), i ≤ n → n - i < f_ → WX X 3 yC Z (QX X yC Z (QcI yC Z (celN (g t) (sz (g t))) (g))) (g) 4 [(2, .int (nI i)), (1, .int (celN (g t) (i))), (0, .ref (Z.2.1 (14 + 12 * t)))] [] := by
    intro f_
    induction f_ with
    | zero => intro i h1_ h2_; exact absurd h2_ (Nat.not_lt_zero _)
    | succ f_ ih_4 =>
      intro i hi_4 hf_4
      refine x_iload_n C d_Tu_cellsTaken_4 0 rfl rfl ?_
      refine x_aload_n C d_Tu_cellsTaken_5 2 rfl rfl ?_
      refine gf_Tu_size C (by omega) (v := nI n) hn k_74 d_Tu_cellsTaken_6 ?_
      refine x_icmp_ge C d_Tu_cellsTaken_9 32 (by decide) (fun c_1 => ?_) (fun c_1 => ?_)
      · have nc_1 := Int32.not_lt.mpr c_1
        have mc_1 : n ≤ i := (nI_leI (by omega) (by omega)).mp (show nI n ≤ nI i from c_1)
        have e_i : n = i := by omega
        subst e_i
        refine x_iload_n C d_Tu_cellsTaken_32 1 rfl rfl ?_
        exact x_iret C (by rw [sz_of hn hn8]) rfl d_Tu_cellsTaken_33
      · have nc_1 := Int32.not_le.mp c_1
        have mc_1 : ¬ n ≤ i := fun z_ => (show ¬ nI n ≤ nI i from c_1) ((nI_leI (by omega) (by omega)).mpr z_)
        refine x_iload_n C d_Tu_cellsTaken_12 1 rfl rfl ?_
        refine x_iconst C d_Tu_cellsTaken_13 (v := 1) (by decide) ?_
        refine x_aload_n C d_Tu_cellsTaken_14 2 rfl rfl ?_
        refine gf_Tu_people C (by omega) k_81 d_Tu_cellsTaken_15 ?_
        refine x_iload_n C d_Tu_cellsTaken_18 0 rfl rfl ?_
        refine al_pp C (by omega) i rfl (by omega) d_Tu_cellsTaken_19 ?_
        refine gf_Pe_cell C (by omega) (by omega) (v := g t (pI i 2)) rfl k_41 d_Tu_cellsTaken_20 ?_
        refine x_ishl C d_Tu_cellsTaken_23 ?_
        refine x_ior C d_Tu_cellsTaken_24 ?_
        refine x_istore_n C d_Tu_cellsTaken_25 rfl (by decide) (lv' := [(1, .int ((celN (g t) (i)) ||| (1 <<< ((g t (pI i 2)) &&& 31)))), (2, .int (nI i)), (0, .ref (Z.2.1 (14 + 12 * t)))]) rfl ?_
        refine x_iinc C d_Tu_cellsTaken_26 1 rfl (v := nI (i + 1)) (nI_1 _) (by decide) (lv' := [(2, .int (nI (i + 1))), (1, .int ((celN (g t) (i)) ||| (1 <<< ((g t (pI i 2)) &&& 31)))), (0, .ref (Z.2.1 (14 + 12 * t)))]) rfl ?_
        refine x_goto C d_Tu_cellsTaken_29 4 (by decide) ?_
        refine x_lve (lv' := [(2, .int (nI (i + 1))), (1, .int (celN (g t) (i + 1))), (0, .ref (Z.2.1 (14 + 12 * t)))]) (by first | rfl | simp [celN, bit, *]) ?_
        exact ih_4 (i + 1) (by omega) (by omega)
  refine x_lve (lv' := [(2, .int (nI 0)), (1, .int (celN (g t) (0))), (0, .ref (Z.2.1 (14 + 12 * t)))]) rfl ?_
  exact LP_4 (n + 1) 0 (Nat.zero_le _) (by omega)

set_option maxRecDepth 100000 in
set_option maxHeartbeats 600000 in
theorem c_Tu_spotsTaken (Z : ZT) (t : Nat) (ht : t < 3) (g : St)  (r : Nat → Int32) (hr : g t = r) (hk : okR r) : CT yC Z y_Tu_spotsTaken b_Tu_spotsTaken 3 (some (.int)) 0 0 [.ref (Z.2.1 (14 + 12 * t))] (g) (QcI yC Z (spoN r 10) (g)) := by
  refine CT.mk "TunnelPeace$Tunnel" (by decide) rfl (Nat.le_of_ble_eq_true rfl) (fun X C => ?_)
  refine x_lv [0] (lv' := [(0, .ref (Z.2.1 (14 + 12 * t)))]) rfl ?_
  subst hr
  obtain ⟨⟨n, hn8, hn⟩, dd, hdd, hd⟩ := hk
  refine x_iconst C d_Tu_spotsTaken_0 (v := 0) (by decide) ?_
  refine x_istore_n C d_Tu_spotsTaken_1 rfl (by decide) (lv' := [(1, .int (0)), (0, .ref (Z.2.1 (14 + 12 * t)))]) rfl ?_
  refine x_iconst C d_Tu_spotsTaken_2 (v := 0) (by decide) ?_
  refine x_topi (show (0 : Int32) = nI 0 by decide) ?_
  refine x_istore_n C d_Tu_spotsTaken_3 rfl (by decide) (lv' := [(2, .int (nI 0)), (1, .int (0)), (0, .ref (Z.2.1 (14 + 12 * t)))]) rfl ?_
  have LP_4 : ∀ (f_ i : Nat), i ≤ 10 → 10 - i < f_ → WX X 3 yC Z (QX X yC Z (QcI yC Z (spoN (g t) 10) (g))) (g) 4 [(2, .int (nI i)), (1, .int (spoN (g t) (i))), (0, .ref (Z.2.1 (14 + 12 * t)))] [] := by
    intro f_
    induction f_ with
    | zero => intro i h1_ h2_; exact absurd h2_ (Nat.not_lt_zero _)
    | succ f_ ih_4 =>
      intro i hi_4 hf_4
      refine x_iload_n C d_Tu_spotsTaken_4 0 rfl rfl ?_
      refine x_bipush C d_Tu_spotsTaken_5 (v := 10) (by decide) ?_
      refine x_icmp_ge C d_Tu_spotsTaken_7 28 (by decide) (fun c_1 => ?_) (fun c_1 => ?_)
      · have nc_1 := Int32.not_lt.mpr c_1
        have mc_1 : 10 ≤ i := (nI_leI (by omega) (by omega)).mp (show nI 10 ≤ nI i from c_1)
        have e_i : 10 = i := by omega
        subst e_i
        refine x_iload_n C d_Tu_spotsTaken_28 1 rfl rfl ?_
        exact x_iret C rfl rfl d_Tu_spotsTaken_29
      · have nc_1 := Int32.not_le.mp c_1
        have mc_1 : ¬ 10 ≤ i := fun z_ => (show ¬ nI 10 ≤ nI i from c_1) ((nI_leI (by omega) (by omega)).mpr z_)
        refine x_aload_n C d_Tu_spotsTaken_10 2 rfl rfl ?_
        refine gf_Tu_spots C (by omega) k_86 d_Tu_spotsTaken_11 ?_
        refine x_iload_n C d_Tu_spotsTaken_14 0 rfl rfl ?_
        refine al_sp C (by omega) i (v := g t (10 + i)) rfl (by omega) rfl d_Tu_spotsTaken_15 ?_
        refine x_iflt C d_Tu_spotsTaken_16 22 (by decide) (fun c_2 => ?_) (fun c_2 => ?_)
        · have nc_2 := Int32.not_le.mpr c_2
          refine x_iinc C d_Tu_spotsTaken_22 0 rfl (v := nI (i + 1)) (nI_1 _) (by decide) (lv' := [(2, .int (nI (i + 1))), (1, .int (spoN (g t) (i))), (0, .ref (Z.2.1 (14 + 12 * t)))]) rfl ?_
          refine x_goto C d_Tu_spotsTaken_25 4 (by decide) ?_
          refine x_lve (lv' := [(2, .int (nI (i + 1))), (1, .int (spoN (g t) (i + 1))), (0, .ref (Z.2.1 (14 + 12 * t)))]) (by first | rfl | simp [spoN, bit, *]) ?_
          exact ih_4 (i + 1) (by omega) (by omega)
        · have nc_2 := Int32.not_lt.mp c_2
          refine x_iinc C d_Tu_spotsTaken_19 1 rfl (v := (spoN (g t) (i)) + 1) rfl (by decide) (lv' := [(1, .int ((spoN (g t) (i)) + 1)), (2, .int (nI i)), (0, .ref (Z.2.1 (14 + 12 * t)))]) rfl ?_
          refine x_iinc C d_Tu_spotsTaken_22 1 rfl (v := nI (i + 1)) (nI_1 _) (by decide) (lv' := [(2, .int (nI (i + 1))), (1, .int ((spoN (g t) (i)) + 1)), (0, .ref (Z.2.1 (14 + 12 * t)))]) rfl ?_
          refine x_goto C d_Tu_spotsTaken_25 4 (by decide) ?_
          refine x_lve (lv' := [(2, .int (nI (i + 1))), (1, .int (spoN (g t) (i + 1))), (0, .ref (Z.2.1 (14 + 12 * t)))]) (by first | rfl | simp [spoN, bit, *]) ?_
          exact ih_4 (i + 1) (by omega) (by omega)
  refine x_lve (lv' := [(2, .int (nI 0)), (1, .int (spoN (g t) (0))), (0, .ref (Z.2.1 (14 + 12 * t)))]) rfl ?_
  exact LP_4 (10 + 1) 0 (Nat.zero_le _) (by omega)

set_option maxRecDepth 100000 in
set_option maxHeartbeats 600000 in
theorem c_Tu_endSeasons (Z : ZT) (t : Nat) (ht : t < 3) (s : Int32) (g : St)  (r : Nat → Int32) (hr : g t = r) (hk : okR r) : CT yC Z y_Tu_endSeasons b_Tu_endSeasons 3 none 0 0 [.ref (Z.2.1 (14 + 12 * t)), .int (s)] (g) (QcV yC Z (va_up g t (outN s r (sz r)))) := by
  refine CT.mk "TunnelPeace$Tunnel" (by decide) rfl (Nat.le_of_ble_eq_true rfl) (fun X C => ?_)
  refine x_lv [0, 1] (lv' := [(0, .ref (Z.2.1 (14 + 12 * t))), (1, .int (s))]) rfl ?_
  subst hr
  obtain ⟨⟨n, hn8, hn⟩, dd, hdd, hd⟩ := hk
  refine x_iconst C d_Tu_endSeasons_0 (v := 0) (by decide) ?_
  refine x_topi (show (0 : Int32) = nI 0 by decide) ?_
  refine x_istore_n C d_Tu_endSeasons_1 rfl (by decide) (lv' := [(2, .int (nI 0)), (0, .ref (Z.2.1 (14 + 12 * t))), (1, .int (s))]) rfl ?_
  have LP_2 : ∀ (f_ i : Nat), i ≤ n → n - i < f_ → WX X 3 yC Z (QX X yC Z (QcV yC Z (va_up g t (outN s (g t) (sz (g t)))))) (va_up g t (outN s (g t) (i))) 2 [(2, .int (nI i)), (0, .ref (Z.2.1 (14 + 12 * t))), (1, .int (s))] [] := by
    intro f_
    induction f_ with
    | zero => intro i h1_ h2_; exact absurd h2_ (Nat.not_lt_zero _)
    | succ f_ ih_2 =>
      intro i hi_2 hf_2
      refine x_iload_n C d_Tu_endSeasons_2 0 rfl rfl ?_
      refine x_aload_n C d_Tu_endSeasons_3 1 rfl rfl ?_
      refine gf_Tu_size C (by omega) (v := nI n) (Eq.trans (Eq.trans (congrFun (va_up_self _ _ _) _) (outN_hd (by decide))) hn) k_74 d_Tu_endSeasons_4 ?_
      refine x_icmp_ge C d_Tu_endSeasons_7 35 (by decide) (fun c_1 => ?_) (fun c_1 => ?_)
      · have nc_1 := Int32.not_lt.mpr c_1
        have mc_1 : n ≤ i := (nI_leI (by omega) (by omega)).mp (show nI n ≤ nI i from c_1)
        have e_i : n = i := by omega
        subst e_i
        exact x_vret C (by rw [sz_of hn hn8]) d_Tu_endSeasons_35
      · have nc_1 := Int32.not_le.mp c_1
        have mc_1 : ¬ n ≤ i := fun z_ => (show ¬ nI n ≤ nI i from c_1) ((nI_leI (by omega) (by omega)).mpr z_)
        refine x_iload_n C d_Tu_endSeasons_10 2 rfl rfl ?_
        refine x_iload_n C d_Tu_endSeasons_11 0 rfl rfl ?_
        refine x_ishr C d_Tu_endSeasons_12 ?_
        refine x_iconst C d_Tu_endSeasons_13 (v := 1) (by decide) ?_
        refine x_iand C d_Tu_endSeasons_14 ?_
        refine x_iconst C d_Tu_endSeasons_15 (v := 1) (by decide) ?_
        refine x_icmp_ne C d_Tu_endSeasons_16 29 (by decide) (fun c_2 => ?_) (fun c_2 => ?_)
        · have nc_2 := Ne.symm c_2
          refine x_iinc C d_Tu_endSeasons_29 0 rfl (v := nI (i + 1)) (nI_1 _) (by decide) (lv' := [(2, .int (nI (i + 1))), (0, .ref (Z.2.1 (14 + 12 * t))), (1, .int (s))]) rfl ?_
          refine x_goto C d_Tu_endSeasons_32 2 (by decide) ?_
          refine x_eqg (g' := va_up g t (outN s (g t) (i + 1))) (by simp [outN, *]) ?_
          exact ih_2 (i + 1) (by omega) (by omega)
        · refine x_aload_n C d_Tu_endSeasons_19 1 rfl rfl ?_
          refine gf_Tu_people C (by omega) k_81 d_Tu_endSeasons_20 ?_
          refine x_iload_n C d_Tu_endSeasons_23 0 rfl rfl ?_
          refine al_pp C (by omega) i rfl (by omega) d_Tu_endSeasons_24 ?_
          refine x_iconst C d_Tu_endSeasons_25 (v := 0) (by decide) ?_
          refine pf_Pe_season C (by omega) (by omega) (v := 0) (G := va_up g t (upd (outN s (g t) (i)) (pI i 3) 0)) up_va k_46 d_Tu_endSeasons_26 ?_
          refine x_iinc C d_Tu_endSeasons_29 0 rfl (v := nI (i + 1)) (nI_1 _) (by decide) (lv' := [(2, .int (nI (i + 1))), (0, .ref (Z.2.1 (14 + 12 * t))), (1, .int (s))]) rfl ?_
          refine x_goto C d_Tu_endSeasons_32 2 (by decide) ?_
          refine x_eqg (g' := va_up g t (outN s (g t) (i + 1))) (by simp [outN, *]) ?_
          exact ih_2 (i + 1) (by omega) (by omega)
  refine x_eqg (g' := va_up g t (outN s (g t) (0))) (va_id g t).symm ?_
  exact LP_2 (n + 1) 0 (Nat.zero_le _) (by omega)

set_option maxRecDepth 100000 in
set_option maxHeartbeats 600000 in
theorem c_Tu_meetAll (Z : ZT) (t : Nat) (ht : t < 3) (g : St)  (r : Nat → Int32) (hr : g t = r) (hk : okR r) : CT yC Z y_Tu_meetAll b_Tu_meetAll 5 none 2 43 [.ref (Z.2.1 (14 + 12 * t))] (g) (QcV yC Z (va_up g t (mtO (sz r) r (sz r)))) := by
  refine CT.mk "TunnelPeace$Tunnel" (by decide) rfl (Nat.le_of_ble_eq_true rfl) (fun X C => ?_)
  refine x_lv [0] (lv' := [(0, .ref (Z.2.1 (14 + 12 * t)))]) rfl ?_
  subst hr
  obtain ⟨⟨n, hn8, hn⟩, dd, hdd, hd⟩ := hk
  refine x_iconst C d_Tu_meetAll_0 (v := 0) (by decide) ?_
  refine x_topi (show (0 : Int32) = nI 0 by decide) ?_
  refine x_istore_n C d_Tu_meetAll_1 rfl (by decide) (lv' := [(1, .int (nI 0)), (0, .ref (Z.2.1 (14 + 12 * t)))]) rfl ?_
  have LP_2 : ∀ (f_ a : Nat), a ≤ n → n - a < f_ → WX X 5 yC Z (QX X yC Z (QcV yC Z (va_up g t (mtO (sz (g t)) (g t) (sz (g t)))))) (va_up g t (mtO n (g t) (a))) 2 [(1, .int (nI a)), (0, .ref (Z.2.1 (14 + 12 * t)))] [] := by
    intro f_
    induction f_ with
    | zero => intro a h1_ h2_; exact absurd h2_ (Nat.not_lt_zero _)
    | succ f_ ih_2 =>
      intro a hi_2 hf_2
      refine x_iload_n C d_Tu_meetAll_2 0 rfl rfl ?_
      refine x_aload_n C d_Tu_meetAll_3 1 rfl rfl ?_
      refine gf_Tu_size C (by omega) (v := nI n) (Eq.trans (Eq.trans (congrFun (va_up_self _ _ _) _) (mtO_hd (by decide))) hn) k_74 d_Tu_meetAll_4 ?_
      refine x_icmp_ge C d_Tu_meetAll_7 90 (by decide) (fun c_1 => ?_) (fun c_1 => ?_)
      · have nc_1 := Int32.not_lt.mpr c_1
        have mc_1 : n ≤ a := (nI_leI (by omega) (by omega)).mp (show nI n ≤ nI a from c_1)
        have e_a : n = a := by omega
        subst e_a
        exact x_vret C (by rw [sz_of hn hn8]) d_Tu_meetAll_90
      · have nc_1 := Int32.not_le.mp c_1
        have mc_1 : ¬ n ≤ a := fun z_ => (show ¬ nI n ≤ nI a from c_1) ((nI_leI (by omega) (by omega)).mpr z_)
        refine x_aload_n C d_Tu_meetAll_10 1 rfl rfl ?_
        refine gf_Tu_people C (by omega) k_81 d_Tu_meetAll_11 ?_
        refine x_iload_n C d_Tu_meetAll_14 0 rfl rfl ?_
        refine al_pp C (by omega) a rfl (by omega) d_Tu_meetAll_15 ?_
        refine x_astore_n C d_Tu_meetAll_16 rfl (by decide) (lv' := [(2, .ref (Z.2.1 (18 + 12 * t + a))), (1, .int (nI a)), (0, .ref (Z.2.1 (14 + 12 * t)))]) rfl ?_
        refine x_iload_n C d_Tu_meetAll_17 1 rfl rfl ?_
        refine x_iconst C d_Tu_meetAll_18 (v := 1) (by decide) ?_
        refine x_iadd C d_Tu_meetAll_19 ?_
        refine x_topi (x' := nI (a + 1 + 0)) (nI_1 a) ?_
        refine x_istore_n C d_Tu_meetAll_20 rfl (by decide) (lv' := [(3, .int (nI (a + 1 + 0))), (2, .ref (Z.2.1 (18 + 12 * t + a))), (1, .int (nI a)), (0, .ref (Z.2.1 (14 + 12 * t)))]) rfl ?_
        have LP_21 : ∀ (f_ k : Nat), k ≤ n - (a + 1) → (n - (a + 1)) - k < f_ → WX X 5 yC Z (QX X yC Z (QcV yC Z (va_up g t (mtO (sz (g t)) (g t) (sz (g t)))))) (va_up g t (mtI a (mtO n (g t) a) (k))) 21 [(3, .int (nI (a + 1 + k))), (2, .ref (Z.2.1 (18 + 12 * t + a))), (1, .int (nI a)), (0, .ref (Z.2.1 (14 + 12 * t)))] [] := by
          intro f_
          induction f_ with
          | zero => intro k h1_ h2_; exact absurd h2_ (Nat.not_lt_zero _)
          | succ f_ ih_21 =>
            intro k hi_21 hf_21
            refine x_iload_n C d_Tu_meetAll_21 0 rfl rfl ?_
            refine x_aload_n C d_Tu_meetAll_22 3 rfl rfl ?_
            refine gf_Tu_size C (by omega) (v := nI n) (Eq.trans (Eq.trans (Eq.trans (congrFun (va_up_self _ _ _) _) (mtI_hd (by decide))) (mtO_hd (by decide))) hn) k_74 d_Tu_meetAll_23 ?_
            refine x_icmp_ge C d_Tu_meetAll_26 84 (by decide) (fun c_2 => ?_) (fun c_2 => ?_)
            · have nc_2 := Int32.not_lt.mpr c_2
              have mc_2 : n ≤ a + 1 + k := (nI_leI (by omega) (by omega)).mp (show nI n ≤ nI (a + 1 + k) from c_2)
              have e_k : n - (a + 1) = k := by omega
              subst e_k
              refine x_iinc C d_Tu_meetAll_84 2 rfl (v := nI (a + 1)) (nI_1 _) (by decide) (lv' := [(1, .int (nI (a + 1))), (3, .int (nI (a + 1 + (n - (a + 1))))), (2, .ref (Z.2.1 (18 + 12 * t + a))), (0, .ref (Z.2.1 (14 + 12 * t)))]) rfl ?_
              refine x_goto C d_Tu_meetAll_87 2 (by decide) ?_
              refine x_lv [0, 3] (lv' := [(1, .int (nI (a + 1))), (0, .ref (Z.2.1 (14 + 12 * t)))]) rfl ?_
              refine x_eqg (g' := va_up g t (mtO n (g t) (a + 1))) rfl ?_
              exact ih_2 (a + 1) (by omega) (by omega)
            · have nc_2 := Int32.not_le.mp c_2
              have mc_2 : ¬ n ≤ a + 1 + k := fun z_ => (show ¬ nI n ≤ nI (a + 1 + k) from c_2) ((nI_leI (by omega) (by omega)).mpr z_)
              refine x_aload_n C d_Tu_meetAll_29 3 rfl rfl ?_
              refine gf_Tu_people C (by omega) k_81 d_Tu_meetAll_30 ?_
              refine x_iload_n C d_Tu_meetAll_33 0 rfl rfl ?_
              refine al_pp C (by omega) (a + 1 + k) rfl (by omega) d_Tu_meetAll_34 ?_
              refine x_astore C d_Tu_meetAll_35 (by decide) (lv' := [(4, .ref (Z.2.1 (18 + 12 * t + (a + 1 + k)))), (3, .int (nI (a + 1 + k))), (2, .ref (Z.2.1 (18 + 12 * t + a))), (1, .int (nI a)), (0, .ref (Z.2.1 (14 + 12 * t)))]) rfl ?_
              refine x_aload_n C d_Tu_meetAll_37 2 rfl rfl ?_
              refine x_aload C d_Tu_meetAll_38 0 rfl ?_
              refine x_callVi C (c_Pe_wouldMeet Z t a (a + 1 + k) (by omega) (by omega) (by omega) (va_up g t (mtI a (mtO n (g t) a) (k))) _ (va_up_self _ _ _)) mi_Pe_wouldMeet k_327 (show 18 + 12 * t + a < 50 by omega) (e_Pe Z t (by omega) _) rfl (As := [.ref (Z.2.1 (18 + 12 * t + (a + 1 + k)))]) ⟨Nat.le_of_ble_eq_true rfl, Nat.le_of_ble_eq_true rfl⟩ rfl rfl (Nat.le_of_ble_eq_true rfl) d_Tu_meetAll_40 ?_
              refine x_ifeqB C d_Tu_meetAll_43 78 (by decide) (fun c_3 => ?_) (fun c_3 => ?_)
              · refine x_iinc C d_Tu_meetAll_78 1 rfl (v := nI (a + 1 + k + 1)) (nI_1 _) (by decide) (lv' := [(3, .int (nI (a + 1 + k + 1))), (4, .ref (Z.2.1 (18 + 12 * t + (a + 1 + k)))), (2, .ref (Z.2.1 (18 + 12 * t + a))), (1, .int (nI a)), (0, .ref (Z.2.1 (14 + 12 * t)))]) rfl ?_
                refine x_goto C d_Tu_meetAll_81 21 (by decide) ?_
                refine x_lv [0, 2, 3, 4] (lv' := [(3, .int (nI (a + 1 + k + 1))), (2, .ref (Z.2.1 (18 + 12 * t + a))), (1, .int (nI a)), (0, .ref (Z.2.1 (14 + 12 * t)))]) rfl ?_
                refine x_lve (lv' := [(3, .int (nI (a + 1 + (k + 1)))), (2, .ref (Z.2.1 (18 + 12 * t + a))), (1, .int (nI a)), (0, .ref (Z.2.1 (14 + 12 * t)))]) rfl ?_
                refine x_eqg (g' := va_up g t (mtI a (mtO n (g t) a) (k + 1))) (by simp [mtI, mt1, *]) ?_
                exact ih_21 (k + 1) (by omega) (by omega)
              · refine x_aload_n C d_Tu_meetAll_46 2 rfl rfl ?_
                refine x_callVv C (c_Pe_countMeeting Z t a (by omega) (by omega) (va_up g t (mtI a (mtO n (g t) a) (k))) _ (va_up_self _ _ _)) mi_Pe_countMeeting k_328 (show 18 + 12 * t + a < 50 by omega) (e_Pe Z t (by omega) _) rfl (As := []) ⟨Nat.le_of_ble_eq_true rfl, Nat.le_of_ble_eq_true rfl⟩ rfl rfl (Nat.le_of_ble_eq_true rfl) d_Tu_meetAll_47 ?_
                refine x_eqg (g' := va_up g t (cmtR (mtI a (mtO n (g t) a) (k)) a)) (bx_uu _ _ _ _) ?_
                refine x_aload C d_Tu_meetAll_50 0 rfl ?_
                refine x_callVv C (c_Pe_countMeeting Z t (a + 1 + k) (by omega) (by omega) (va_up g t (cmtR (mtI a (mtO n (g t) a) (k)) a)) _ (va_up_self _ _ _)) mi_Pe_countMeeting k_328 (show 18 + 12 * t + (a + 1 + k) < 50 by omega) (e_Pe Z t (by omega) _) rfl (As := []) ⟨Nat.le_of_ble_eq_true rfl, Nat.le_of_ble_eq_true rfl⟩ rfl rfl (Nat.le_of_ble_eq_true rfl) d_Tu_meetAll_52 ?_
                refine x_eqg (g' := va_up g t (cmtR (cmtR (mtI a (mtO n (g t) a) (k)) a) (a + 1 + k))) (bx_uu _ _ _ _) ?_
                refine x_aload_n C d_Tu_meetAll_55 4 rfl rfl ?_
                refine x_iconst C d_Tu_meetAll_56 (v := 0) (by decide) ?_
                refine x_aload_n C d_Tu_meetAll_57 4 rfl rfl ?_
                refine gf_Tu_guns C (by omega) (v := (cmtR (cmtR (mtI a (mtO n (g t) a) (k)) a) (a + 1 + k)) 3) (congrFun (va_up_self _ _ _) _) k_68 d_Tu_meetAll_58 ?_
                refine x_aload_n C d_Tu_meetAll_61 2 rfl rfl ?_
                refine x_callVi C (c_Pe_calms Z t a (by omega) (by omega) (va_up g t (cmtR (cmtR (mtI a (mtO n (g t) a) (k)) a) (a + 1 + k))) _ (va_up_self _ _ _)) mi_Pe_calms k_254 (show 18 + 12 * t + a < 50 by omega) (e_Pe Z t (by omega) _) rfl (As := []) ⟨Nat.le_of_ble_eq_true rfl, Nat.le_of_ble_eq_true rfl⟩ rfl rfl (Nat.le_of_ble_eq_true rfl) d_Tu_meetAll_62 ?_
                refine x_isub C d_Tu_meetAll_65 ?_
                refine x_aload C d_Tu_meetAll_66 0 rfl ?_
                refine x_callVi C (c_Pe_calms Z t (a + 1 + k) (by omega) (by omega) (va_up g t (cmtR (cmtR (mtI a (mtO n (g t) a) (k)) a) (a + 1 + k))) _ (va_up_self _ _ _)) mi_Pe_calms k_254 (show 18 + 12 * t + (a + 1 + k) < 50 by omega) (e_Pe Z t (by omega) _) rfl (As := []) ⟨Nat.le_of_ble_eq_true rfl, Nat.le_of_ble_eq_true rfl⟩ rfl rfl (Nat.le_of_ble_eq_true rfl) d_Tu_meetAll_68 ?_
                refine x_isub C d_Tu_meetAll_71 ?_
                refine x_mx C k_333 (Nat.le_of_ble_eq_true rfl) (Nat.le_of_ble_eq_true rfl) d_Tu_meetAll_72 ?_
                refine pf_Tu_guns C (by omega) (v := mx 0 ((((cmtR (cmtR (mtI a (mtO n (g t) a) (k)) a) (a + 1 + k)) 3) - (clm ((cmtR (cmtR (mtI a (mtO n (g t) a) (k)) a) (a + 1 + k)) (pI a 0)))) - (clm ((cmtR (cmtR (mtI a (mtO n (g t) a) (k)) a) (a + 1 + k)) (pI (a + 1 + k) 0))))) (G := va_up g t (upd (cmtR (cmtR (mtI a (mtO n (g t) a) (k)) a) (a + 1 + k)) 3 (mx 0 ((((cmtR (cmtR (mtI a (mtO n (g t) a) (k)) a) (a + 1 + k)) 3) - (clm ((cmtR (cmtR (mtI a (mtO n (g t) a) (k)) a) (a + 1 + k)) (pI a 0)))) - (clm ((cmtR (cmtR (mtI a (mtO n (g t) a) (k)) a) (a + 1 + k)) (pI (a + 1 + k) 0))))))) up_va k_68 d_Tu_meetAll_75 ?_
                refine x_iinc C d_Tu_meetAll_78 1 rfl (v := nI (a + 1 + k + 1)) (nI_1 _) (by decide) (lv' := [(3, .int (nI (a + 1 + k + 1))), (4, .ref (Z.2.1 (18 + 12 * t + (a + 1 + k)))), (2, .ref (Z.2.1 (18 + 12 * t + a))), (1, .int (nI a)), (0, .ref (Z.2.1 (14 + 12 * t)))]) rfl ?_
                refine x_goto C d_Tu_meetAll_81 21 (by decide) ?_
                refine x_lv [0, 2, 3, 4] (lv' := [(3, .int (nI (a + 1 + k + 1))), (2, .ref (Z.2.1 (18 + 12 * t + a))), (1, .int (nI a)), (0, .ref (Z.2.1 (14 + 12 * t)))]) rfl ?_
                refine x_lve (lv' := [(3, .int (nI (a + 1 + (k + 1)))), (2, .ref (Z.2.1 (18 + 12 * t + a))), (1, .int (nI a)), (0, .ref (Z.2.1 (14 + 12 * t)))]) rfl ?_
                refine x_eqg (g' := va_up g t (mtI a (mtO n (g t) a) (k + 1))) (by simp [mtI, mt1, *]) ?_
                exact ih_21 (k + 1) (by omega) (by omega)
        refine x_eqg (g' := va_up g t (mtI a (mtO n (g t) a) (0))) rfl ?_
        exact LP_21 (n - (a + 1) + 1) 0 (Nat.zero_le _) (by omega)
  refine x_eqg (g' := va_up g t (mtO n (g t) (0))) (va_id g t).symm ?_
  exact LP_2 (n + 1) 0 (Nat.zero_le _) (by omega)

set_option maxRecDepth 100000 in
set_option maxHeartbeats 600000 in
theorem c_Tu_passDay (Z : ZT) (t : Nat) (ht : t < 3) (g : St)  (r : Nat → Int32) (hr : g t = r) (hk : okR r) : CT yC Z y_Tu_passDay b_Tu_passDay 3 none 3 72 [.ref (Z.2.1 (14 + 12 * t))] (g) (QcV yC Z (va_up g t (dayR r))) := by
  refine CT.mk "TunnelPeace$Tunnel" (by decide) rfl (Nat.le_of_ble_eq_true rfl) (fun X C => ?_)
  refine x_lv [0] (lv' := [(0, .ref (Z.2.1 (14 + 12 * t)))]) rfl ?_
  subst hr
  obtain ⟨⟨n, hn8, hn⟩, dd, hdd, hd⟩ := hk
  refine x_aload_n C d_Tu_passDay_0 0 rfl rfl ?_
  refine gf_Tu_list C (by omega) k_77 d_Tu_passDay_1 ?_
  refine x_aload_n C d_Tu_passDay_4 0 rfl rfl ?_
  refine gf_Tu_day C (by omega) (v := g t 0) rfl k_66 d_Tu_passDay_5 ?_
  refine x_bipush C d_Tu_passDay_8 (v := 6) (by decide) ?_
  refine x_irem C d_Tu_passDay_10 (by decide) ?_
  refine x_topi (x' := nI (dd % 6)) (by rw [hd]; exact pk_rem (d := 6) (by omega) (by decide) (by decide)) ?_
  refine al_li C (by omega) (dd % 6) (v := g t (4 + (dd % 6))) rfl (by omega) rfl d_Tu_passDay_11 ?_
  refine x_istore_n C d_Tu_passDay_12 rfl (by decide) (lv' := [(1, .int (g t (4 + (dd % 6)))), (0, .ref (Z.2.1 (14 + 12 * t)))]) rfl ?_
  refine x_iconst C d_Tu_passDay_13 (v := 0) (by decide) ?_
  refine x_topi (show (0 : Int32) = nI 0 by decide) ?_
  refine x_istore_n C d_Tu_passDay_14 rfl (by decide) (lv' := [(2, .int (nI 0)), (1, .int (g t (4 + (dd % 6)))), (0, .ref (Z.2.1 (14 + 12 * t)))]) rfl ?_
  have LP_15 : ∀ (f_ i : Nat), i ≤ n → n - i < f_ → WX X 3 yC Z (QX X yC Z (QcV yC Z (va_up g t (dayR (g t))))) (va_up g t (wkN (g t (4 + dd % 6)) (g t 0) (g t 3) (g t) (i))) 15 [(2, .int (nI i)), (1, .int (g t (4 + dd % 6))), (0, .ref (Z.2.1 (14 + 12 * t)))] [] := by
    intro f_
    induction f_ with
    | zero => intro i h1_ h2_; exact absurd h2_ (Nat.not_lt_zero _)
    | succ f_ ih_15 =>
      intro i hi_15 hf_15
      refine x_iload_n C d_Tu_passDay_15 0 rfl rfl ?_
      refine x_aload_n C d_Tu_passDay_16 2 rfl rfl ?_
      refine gf_Tu_size C (by omega) (v := nI n) (Eq.trans (Eq.trans (congrFun (va_up_self _ _ _) _) (wkN_hd (by decide))) hn) k_74 d_Tu_passDay_17 ?_
      refine x_icmp_ge C d_Tu_passDay_20 47 (by decide) (fun c_1 => ?_) (fun c_1 => ?_)
      · have nc_1 := Int32.not_lt.mpr c_1
        have mc_1 : n ≤ i := (nI_leI (by omega) (by omega)).mp (show nI n ≤ nI i from c_1)
        have e_i : n = i := by omega
        subst e_i
        refine x_aload_n C d_Tu_passDay_47 2 rfl rfl ?_
        refine x_callVv C (c_Tu_meetAll Z t ht (va_up g t (wkN (g t (4 + dd % 6)) (g t 0) (g t 3) (g t) (n))) _ (va_up_self _ _ _) ⟨⟨n, hn8, (wkN_hd (by decide)).trans hn⟩, dd, hdd, (wkN_hd (by decide)).trans hd⟩) mi_Tu_meetAll k_323 (show 14 + 12 * t < 50 by omega) (e_Tu Z t _) rfl (As := []) ⟨Nat.le_of_ble_eq_true rfl, Nat.le_of_ble_eq_true rfl⟩ rfl rfl (Nat.le_of_ble_eq_true rfl) d_Tu_passDay_48 ?_
        refine x_eqg (g' := va_up g t (mtO n (wkN (g t (4 + dd % 6)) (g t 0) (g t 3) (g t) n) n)) (by rw [bx_uu, sz_of ((wkN_hd (by decide)).trans hn) hn8]) ?_
        have J_73 : WX X 3 yC Z (QX X yC Z (QcV yC Z (va_up g t (dayR (g t))))) (va_up g t (g5 (mtO n (wkN (g t (4 + dd % 6)) (g t 0) (g t 3) (g t) n) n))) 73 [(0, .ref (Z.2.1 (14 + 12 * t)))] [] := by
          refine x_iconst C d_Tu_passDay_73 (v := 0) (by decide) ?_
          refine x_topi (show (0 : Int32) = nI 0 by decide) ?_
          refine x_istore_n C d_Tu_passDay_74 rfl (by decide) (lv' := [(2, .int (nI 0)), (0, .ref (Z.2.1 (14 + 12 * t)))]) rfl ?_
          have LP_75 : ∀ (f_ i : Nat), i ≤ n → n - i < f_ → WX X 3 yC Z (QX X yC Z (QcV yC Z (va_up g t (dayR (g t))))) (va_up g t (enN (g t 0) (g5 (mtO n (wkN (g t (4 + dd % 6)) (g t 0) (g t 3) (g t) n) n)) (i))) 75 [(2, .int (nI i)), (0, .ref (Z.2.1 (14 + 12 * t)))] [] := by
            intro f_
            induction f_ with
            | zero => intro i h1_ h2_; exact absurd h2_ (Nat.not_lt_zero _)
            | succ f_ ih_75 =>
              intro i hi_75 hf_75
              refine x_iload_n C d_Tu_passDay_75 0 rfl rfl ?_
              refine x_aload_n C d_Tu_passDay_76 1 rfl rfl ?_
              refine gf_Tu_size C (by omega) (v := nI n) (Eq.trans (Eq.trans (Eq.trans (Eq.trans (Eq.trans (congrFun (va_up_self _ _ _) _) (enN_hd (by decide))) (g5_hd (by decide))) (mtO_hd (by decide))) (wkN_hd (by decide))) hn) k_74 d_Tu_passDay_77 ?_
              refine x_icmp_ge C d_Tu_passDay_80 102 (by decide) (fun c_2 => ?_) (fun c_2 => ?_)
              · have nc_2 := Int32.not_lt.mpr c_2
                have mc_2 : n ≤ i := (nI_leI (by omega) (by omega)).mp (show nI n ≤ nI i from c_2)
                have e_i : n = i := by omega
                subst e_i
                refine x_aload_n C d_Tu_passDay_102 1 rfl rfl ?_
                refine x_ldc C d_Tu_passDay_103 k_300 ?_
                refine x_aload_n C d_Tu_passDay_105 1 rfl rfl ?_
                refine gf_Tu_day C (by omega) (v := g t 0) (Eq.trans (Eq.trans (Eq.trans (Eq.trans (congrFun (va_up_self _ _ _) _) (enN_hd (by decide))) (g5_hd (by decide))) (mtO_hd (by decide))) (wkN_hd (by decide))) k_66 d_Tu_passDay_106 ?_
                refine x_iconst C d_Tu_passDay_109 (v := 1) (by decide) ?_
                refine x_iadd C d_Tu_passDay_110 ?_
                refine x_mn C k_334 (Nat.le_of_ble_eq_true rfl) (Nat.le_of_ble_eq_true rfl) d_Tu_passDay_111 ?_
                refine pf_Tu_day C (by omega) (v := mn (99999) ((g t 0) + 1)) (G := va_up g t (upd (enN (g t 0) (g5 (mtO n (wkN (g t (4 + dd % 6)) (g t 0) (g t 3) (g t) n) n)) (n)) 0 (mn (99999) ((g t 0) + 1)))) up_va k_66 d_Tu_passDay_114 ?_
                exact x_vret C (by unfold dayR; rw [sz_of hn hn8, dy_of hd hdd]) d_Tu_passDay_117
              · have nc_2 := Int32.not_le.mp c_2
                have mc_2 : ¬ n ≤ i := fun z_ => (show ¬ nI n ≤ nI i from c_2) ((nI_leI (by omega) (by omega)).mpr z_)
                refine x_aload_n C d_Tu_passDay_83 1 rfl rfl ?_
                refine gf_Tu_people C (by omega) k_81 d_Tu_passDay_84 ?_
                refine x_iload_n C d_Tu_passDay_87 0 rfl rfl ?_
                refine al_pp C (by omega) i rfl (by omega) d_Tu_passDay_88 ?_
                refine x_aload_n C d_Tu_passDay_89 1 rfl rfl ?_
                refine gf_Tu_day C (by omega) (v := g t 0) (Eq.trans (Eq.trans (Eq.trans (Eq.trans (congrFun (va_up_self _ _ _) _) (enN_hd (by decide))) (g5_hd (by decide))) (mtO_hd (by decide))) (wkN_hd (by decide))) k_66 d_Tu_passDay_90 ?_
                refine x_callVv C (c_Pe_endDay Z t i (by omega) (by omega) (g t 0) (va_up g t (enN (g t 0) (g5 (mtO n (wkN (g t (4 + dd % 6)) (g t 0) (g t 3) (g t) n) n)) (i))) _ (va_up_self _ _ _)) mi_Pe_endDay k_335 (show 18 + 12 * t + i < 50 by omega) (e_Pe Z t (by omega) _) rfl (As := [.int (g t 0)]) ⟨Nat.le_of_ble_eq_true rfl, Nat.le_of_ble_eq_true rfl⟩ rfl rfl (Nat.le_of_ble_eq_true rfl) d_Tu_passDay_93 ?_
                refine x_eqg (g' := va_up g t (endR (enN (g t 0) (g5 (mtO n (wkN (g t (4 + dd % 6)) (g t 0) (g t 3) (g t) n) n)) (i)) i (g t 0))) (bx_uu _ _ _ _) ?_
                refine x_iinc C d_Tu_passDay_96 0 rfl (v := nI (i + 1)) (nI_1 _) (by decide) (lv' := [(2, .int (nI (i + 1))), (0, .ref (Z.2.1 (14 + 12 * t)))]) rfl ?_
                refine x_goto C d_Tu_passDay_99 75 (by decide) ?_
                refine x_eqg (g' := va_up g t (enN (g t 0) (g5 (mtO n (wkN (g t (4 + dd % 6)) (g t 0) (g t 3) (g t) n) n)) (i + 1))) rfl ?_
                exact ih_75 (i + 1) (by omega) (by omega)
          refine x_eqg (g' := va_up g t (enN (g t 0) (g5 (mtO n (wkN (g t (4 + dd % 6)) (g t 0) (g t 3) (g t) n) n)) (0))) rfl ?_
          exact LP_75 (n + 1) 0 (Nat.zero_le _) (by omega)
        refine x_aload_n C d_Tu_passDay_51 2 rfl rfl ?_
        refine gf_Tu_guns C (by omega) (v := (mtO n (wkN (g t (4 + dd % 6)) (g t 0) (g t 3) (g t) n) n) 3) (congrFun (va_up_self _ _ _) _) k_68 d_Tu_passDay_52 ?_
        refine x_ifle C d_Tu_passDay_55 73 (by decide) (fun c_3 => ?_) (fun c_3 => ?_)
        · have nc_3 := Int32.not_lt.mpr c_3
          refine x_lv [2] (lv' := [(0, .ref (Z.2.1 (14 + 12 * t)))]) rfl ?_
          refine x_eqg (g' := va_up g t (g5 (mtO n (wkN (g t (4 + dd % 6)) (g t 0) (g t 3) (g t) n) n))) (by unfold g5; first | rw [if_pos (by assumption)] | rw [if_neg (by assumption)]) ?_
          exact J_73
        · have nc_3 := Int32.not_le.mp c_3
          refine x_aload_n C d_Tu_passDay_58 2 rfl rfl ?_
          refine x_bipush C d_Tu_passDay_59 (v := 99) (by decide) ?_
          refine x_aload_n C d_Tu_passDay_61 2 rfl rfl ?_
          refine gf_Tu_guns C (by omega) (v := (mtO n (wkN (g t (4 + dd % 6)) (g t 0) (g t 3) (g t) n) n) 3) (congrFun (va_up_self _ _ _) _) k_68 d_Tu_passDay_62 ?_
          refine x_iconst C d_Tu_passDay_65 (v := 5) (by decide) ?_
          refine x_iadd C d_Tu_passDay_66 ?_
          refine x_mn C k_334 (Nat.le_of_ble_eq_true rfl) (Nat.le_of_ble_eq_true rfl) d_Tu_passDay_67 ?_
          refine pf_Tu_guns C (by omega) (v := mn 99 (((mtO n (wkN (g t (4 + dd % 6)) (g t 0) (g t 3) (g t) n) n) 3) + 5)) (G := va_up g t (upd (mtO n (wkN (g t (4 + dd % 6)) (g t 0) (g t 3) (g t) n) n) 3 (mn 99 (((mtO n (wkN (g t (4 + dd % 6)) (g t 0) (g t 3) (g t) n) n) 3) + 5)))) up_va k_68 d_Tu_passDay_70 ?_
          refine x_lv [2] (lv' := [(0, .ref (Z.2.1 (14 + 12 * t)))]) rfl ?_
          refine x_eqg (g' := va_up g t (g5 (mtO n (wkN (g t (4 + dd % 6)) (g t 0) (g t 3) (g t) n) n))) (by unfold g5; first | rw [if_pos (by assumption)] | rw [if_neg (by assumption)]) ?_
          exact J_73
      · have nc_1 := Int32.not_le.mp c_1
        have mc_1 : ¬ n ≤ i := fun z_ => (show ¬ nI n ≤ nI i from c_1) ((nI_leI (by omega) (by omega)).mpr z_)
        refine x_aload_n C d_Tu_passDay_23 2 rfl rfl ?_
        refine gf_Tu_people C (by omega) k_81 d_Tu_passDay_24 ?_
        refine x_iload_n C d_Tu_passDay_27 0 rfl rfl ?_
        refine al_pp C (by omega) i rfl (by omega) d_Tu_passDay_28 ?_
        refine x_iload_n C d_Tu_passDay_29 1 rfl rfl ?_
        refine x_aload_n C d_Tu_passDay_30 2 rfl rfl ?_
        refine gf_Tu_day C (by omega) (v := g t 0) (Eq.trans (congrFun (va_up_self _ _ _) _) (wkN_hd (by decide))) k_66 d_Tu_passDay_31 ?_
        refine x_aload_n C d_Tu_passDay_34 2 rfl rfl ?_
        refine gf_Tu_guns C (by omega) (v := g t 3) (Eq.trans (congrFun (va_up_self _ _ _) _) (wkN_hd (by decide))) k_68 d_Tu_passDay_35 ?_
        refine x_callVv C (c_Pe_walk Z t i (by omega) (by omega) (g t (4 + dd % 6)) (g t 0) (g t 3) (va_up g t (wkN (g t (4 + dd % 6)) (g t 0) (g t 3) (g t) (i))) _ (va_up_self _ _ _)) mi_Pe_walk k_310 (show 18 + 12 * t + i < 50 by omega) (e_Pe Z t (by omega) _) rfl (As := [.int (g t (4 + dd % 6)), .int (g t 0), .int (g t 3)]) ⟨Nat.le_of_ble_eq_true rfl, Nat.le_of_ble_eq_true rfl⟩ rfl rfl (Nat.le_of_ble_eq_true rfl) d_Tu_passDay_38 ?_
        refine x_eqg (g' := va_up g t (upd (wkN (g t (4 + dd % 6)) (g t 0) (g t 3) (g t) (i)) (pI i 2) (wlkC (wkN (g t (4 + dd % 6)) (g t 0) (g t 3) (g t) (i)) i (g t (4 + dd % 6)) (g t 0) (g t 3)))) (bx_uu _ _ _ _) ?_
        refine x_iinc C d_Tu_passDay_41 0 rfl (v := nI (i + 1)) (nI_1 _) (by decide) (lv' := [(2, .int (nI (i + 1))), (1, .int (g t (4 + dd % 6))), (0, .ref (Z.2.1 (14 + 12 * t)))]) rfl ?_
        refine x_goto C d_Tu_passDay_44 15 (by decide) ?_
        refine x_eqg (g' := va_up g t (wkN (g t (4 + dd % 6)) (g t 0) (g t 3) (g t) (i + 1))) rfl ?_
        exact ih_15 (i + 1) (by omega) (by omega)
  refine x_lve (lv' := [(2, .int (nI 0)), (1, .int (g t (4 + dd % 6))), (0, .ref (Z.2.1 (14 + 12 * t)))]) rfl ?_
  refine x_eqg (g' := va_up g t (wkN (g t (4 + dd % 6)) (g t 0) (g t 3) (g t) (0))) (va_id g t).symm ?_
  exact LP_15 (n + 1) 0 (Nat.zero_le _) (by omega)

set_option maxRecDepth 100000 in
set_option maxHeartbeats 600000 in
theorem c_Tu_passDays (Z : ZT) (t : Nat) (ht : t < 3) (m : Nat) (hm : m < 2 ^ 31) (g : St)  (r : Nat → Int32) (hr : g t = r) (hk : okR r) : CT yC Z y_Tu_passDays b_Tu_passDays 3 none 4 94 [.ref (Z.2.1 (14 + 12 * t)), .int (nI m)] (g) (QcV yC Z (va_up g t (dysR r m))) := by
  refine CT.mk "TunnelPeace$Tunnel" (by decide) rfl (Nat.le_of_ble_eq_true rfl) (fun X C => ?_)
  refine x_lv [0, 1] (lv' := [(0, .ref (Z.2.1 (14 + 12 * t))), (1, .int (nI m))]) rfl ?_
  subst hr
  refine x_iconst C d_Tu_passDays_0 (v := 0) (by decide) ?_
  refine x_topi (show (0 : Int32) = nI 0 by decide) ?_
  refine x_istore_n C d_Tu_passDays_1 rfl (by decide) (lv' := [(2, .int (nI 0)), (0, .ref (Z.2.1 (14 + 12 * t))), (1, .int (nI m))]) rfl ?_
  have LP_2 : ∀ (f_ i : Nat), i ≤ m → m - i < f_ → WX X 3 yC Z (QX X yC Z (QcV yC Z (va_up g t (dysR (g t) m)))) (va_up g t (dysR (g t) (i))) 2 [(2, .int (nI i)), (1, .int (nI m)), (0, .ref (Z.2.1 (14 + 12 * t)))] [] := by
    intro f_
    induction f_ with
    | zero => intro i h1_ h2_; exact absurd h2_ (Nat.not_lt_zero _)
    | succ f_ ih_2 =>
      intro i hi_2 hf_2
      refine x_iload_n C d_Tu_passDays_2 0 rfl rfl ?_
      refine x_iload_n C d_Tu_passDays_3 1 rfl rfl ?_
      refine x_icmp_ge C d_Tu_passDays_4 17 (by decide) (fun c_1 => ?_) (fun c_1 => ?_)
      · have nc_1 := Int32.not_lt.mpr c_1
        have mc_1 : m ≤ i := (nI_leI (by omega) (by omega)).mp (show nI m ≤ nI i from c_1)
        have e_i : m = i := by omega
        subst e_i
        exact x_vret C (by simp_all) d_Tu_passDays_17
      · have nc_1 := Int32.not_le.mp c_1
        have mc_1 : ¬ m ≤ i := fun z_ => (show ¬ nI m ≤ nI i from c_1) ((nI_leI (by omega) (by omega)).mpr z_)
        refine x_aload_n C d_Tu_passDays_7 2 rfl rfl ?_
        refine x_callVv C (c_Tu_passDay Z t (by omega) (va_up g t (dysR (g t) (i))) _ (va_up_self _ _ _) (okR_dys hk _)) mi_Tu_passDay k_306 (show 14 + 12 * t < 50 by omega) (e_Tu Z t _) rfl (As := []) ⟨Nat.le_of_ble_eq_true rfl, Nat.le_of_ble_eq_true rfl⟩ rfl rfl (Nat.le_of_ble_eq_true rfl) d_Tu_passDays_8 ?_
        refine x_eqg (g' := va_up g t (dayR (dysR (g t) (i)))) (bx_uu _ _ _ _) ?_
        refine x_iinc C d_Tu_passDays_11 0 rfl (v := nI (i + 1)) (nI_1 _) (by decide) (lv' := [(2, .int (nI (i + 1))), (1, .int (nI m)), (0, .ref (Z.2.1 (14 + 12 * t)))]) rfl ?_
        refine x_goto C d_Tu_passDays_14 2 (by decide) ?_
        refine x_eqg (g' := va_up g t (dysR (g t) (i + 1))) rfl ?_
        exact ih_2 (i + 1) (by omega) (by omega)
  refine x_lv [0, 2, 1] (lv' := [(2, .int (nI 0)), (1, .int (nI m)), (0, .ref (Z.2.1 (14 + 12 * t)))]) rfl ?_
  refine x_eqg (g' := va_up g t (dysR (g t) (0))) (va_id g t).symm ?_
  exact LP_2 (m + 1) 0 (Nat.zero_le _) (by omega)
