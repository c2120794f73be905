theorem out_days {r ρ : Nat → Int32} {s : Int32} {k : Nat} : eqv (sz r) (dysR (outN s (becR ρ r) (sz r)) k) (dysR (outN s r (sz r)) k) := by
  refine dysR_e ?_ (outN_sz.trans becR_sz)
  exact outN_e becR_e (Nat.le_refl _)
theorem shl_n {n : Nat} (h : n ≤ 8) : (1 : Int32) <<< (nI n &&& 31) = nI (2 ^ n) := by
  rcases (show n = 0 ∨ n = 1 ∨ n = 2 ∨ n = 3 ∨ n = 4 ∨ n = 5 ∨ n = 6 ∨ n = 7 ∨ n = 8 by omega) with rfl | rfl | rfl | rfl | rfl | rfl | rfl | rfl | rfl <;> decide
theorem pow_8 {n : Nat} (h : n ≤ 8) : 2 ^ n ≤ 256 := by
  rcases (show n = 0 ∨ n = 1 ∨ n = 2 ∨ n = 3 ∨ n = 4 ∨ n = 5 ∨ n = 6 ∨ n = 7 ∨ n = 8 by omega) with rfl | rfl | rfl | rfl | rfl | rfl | rfl | rfl | rfl <;> decide
/-- how far numbers of a sheet are seasons -/
def gvF (nu : Nat → Int32) : Nat → Nat → Nat
  | 0, i => i
  | k + 1, i => if 0 ≤ nu i ∧ nu i ≤ 99 then gvF nu k (i + 1) else i
theorem gv_end {nu : Nat → Int32} {N i : Nat} (h : N = i) : gvF nu (N - i) i = i := by subst h; rw [Nat.sub_self]; rfl
theorem gv_bad {nu : Nat → Int32} {N i : Nat} (hi : i < N) (h : ¬ (0 ≤ nu i ∧ nu i ≤ 99)) : gvF nu (N - i) i = i := by
  rw [show N - i = (N - (i + 1)) + 1 by omega]
  unfold gvF
  rw [if_neg h]
theorem gv_s {nu : Nat → Int32} {N i : Nat} (hi : i < N) (h : 0 ≤ nu i ∧ nu i ≤ 99) : gvF nu (N - i) i = gvF nu (N - (i + 1)) (i + 1) := by
  rw [show N - i = (N - (i + 1)) + 1 by omega]
  conv => lhs; unfold gvF
  rw [if_pos h]
def gvN (nu r : Nat → Int32) : Nat → Nat → Int32
  | 0 => r
  | i + 1 => upd (gvN nu r i) (pI i 3) (nu i)
theorem gvN_hd {nu r : Nat → Int32} {i n : Nat} (h : n < 20) : gvN nu r i n = r n := by
  induction i with
  | zero => rfl
  | succ i ih => exact (upd_hd h).trans ih

set_option maxRecDepth 100000 in
set_option maxHeartbeats 600000 in
theorem c_JI_bitCount (Z : ZT) (x : Int32) (g : St)  : CT yC Z y_JI_bitCount b_JI_bitCount 1 (some (.int)) 0 0 [.int (x)] (g) (QcI yC Z (bc x) (g)) := by
  refine CT.mk "java/lang/Integer" (by decide) rfl (Nat.le_of_ble_eq_true rfl) (fun X C => ?_)
  refine x_lv [0] (lv' := [(0, .int (x))]) rfl ?_
  refine x_iload_n C d_JI_bitCount_0 0 rfl rfl ?_
  refine x_iload_n C d_JI_bitCount_1 0 rfl rfl ?_
  refine x_iconst C d_JI_bitCount_2 (v := 1) (by decide) ?_
  refine x_iushr C d_JI_bitCount_3 ?_
  refine x_ldcw C d_JI_bitCount_4 k_477 ?_
  refine x_iand C d_JI_bitCount_7 ?_
  refine x_isub C d_JI_bitCount_8 ?_
  refine x_istore_n C d_JI_bitCount_9 rfl (by decide) (lv' := [(0, .int (x - (((x.toUInt32 >>> ((1 : Int32).toUInt32 &&& Int32.toUInt32 31)).toInt32) &&& (1431655765))))]) rfl ?_
  refine x_iload_n C d_JI_bitCount_10 0 rfl rfl ?_
  refine x_ldcw C d_JI_bitCount_11 k_478 ?_
  refine x_iand C d_JI_bitCount_14 ?_
  refine x_iload_n C d_JI_bitCount_15 0 rfl rfl ?_
  refine x_iconst C d_JI_bitCount_16 (v := 2) (by decide) ?_
  refine x_iushr C d_JI_bitCount_17 ?_
  refine x_ldcw C d_JI_bitCount_18 k_478 ?_
  refine x_iand C d_JI_bitCount_21 ?_
  refine x_iadd C d_JI_bitCount_22 ?_
  refine x_istore_n C d_JI_bitCount_23 rfl (by decide) (lv' := [(0, .int (((x - (((x.toUInt32 >>> ((1 : Int32).toUInt32 &&& Int32.toUInt32 31)).toInt32) &&& (1431655765))) &&& (858993459)) + ((((x - (((x.toUInt32 >>> ((1 : Int32).toUInt32 &&& Int32.toUInt32 31)).toInt32) &&& (1431655765))).toUInt32 >>> ((2 : Int32).toUInt32 &&& Int32.toUInt32 31)).toInt32) &&& (858993459))))]) rfl ?_
  refine x_iload_n C d_JI_bitCount_24 0 rfl rfl ?_
  refine x_iload_n C d_JI_bitCount_25 0 rfl rfl ?_
  refine x_iconst C d_JI_bitCount_26 (v := 4) (by decide) ?_
  refine x_iushr C d_JI_bitCount_27 ?_
  refine x_iadd C d_JI_bitCount_28 ?_
  refine x_ldcw C d_JI_bitCount_29 k_479 ?_
  refine x_iand C d_JI_bitCount_32 ?_
  refine x_istore_n C d_JI_bitCount_33 rfl (by decide) (lv' := [(0, .int (((((x - (((x.toUInt32 >>> ((1 : Int32).toUInt32 &&& Int32.toUInt32 31)).toInt32) &&& (1431655765))) &&& (858993459)) + ((((x - (((x.toUInt32 >>> ((1 : Int32).toUInt32 &&& Int32.toUInt32 31)).toInt32) &&& (1431655765))).toUInt32 >>> ((2 : Int32).toUInt32 &&& Int32.toUInt32 31)).toInt32) &&& (858993459))) + (((((x - (((x.toUInt32 >>> ((1 : Int32).toUInt32 &&& Int32.toUInt32 31)).toInt32) &&& (1431655765))) &&& (858993459)) + ((((x - (((x.toUInt32 >>> ((1 : Int32).toUInt32 &&& Int32.toUInt32 31)).toInt32) &&& (1431655765))).toUInt32 >>> ((2 : Int32).toUInt32 &&& Int32.toUInt32 31)).toInt32) &&& (858993459))).toUInt32 >>> ((4 : Int32).toUInt32 &&& Int32.toUInt32 31)).toInt32)) &&& (252645135)))]) rfl ?_
  refine x_iload_n C d_JI_bitCount_34 0 rfl rfl ?_
  refine x_iload_n C d_JI_bitCount_35 0 rfl rfl ?_
  refine x_bipush C d_JI_bitCount_36 (v := 8) (by decide) ?_
  refine x_iushr C d_JI_bitCount_38 ?_
  refine x_iadd C d_JI_bitCount_39 ?_
  refine x_istore_n C d_JI_bitCount_40 rfl (by decide) (lv' := [(0, .int ((((((x - (((x.toUInt32 >>> ((1 : Int32).toUInt32 &&& Int32.toUInt32 31)).toInt32) &&& (1431655765))) &&& (858993459)) + ((((x - (((x.toUInt32 >>> ((1 : Int32).toUInt32 &&& Int32.toUInt32 31)).toInt32) &&& (1431655765))).toUInt32 >>> ((2 : Int32).toUInt32 &&& Int32.toUInt32 31)).toInt32) &&& (858993459))) + (((((x - (((x.toUInt32 >>> ((1 : Int32).toUInt32 &&& Int32.toUInt32 31)).toInt32) &&& (1431655765))) &&& (858993459)) + ((((x - (((x.toUInt32 >>> ((1 : Int32).toUInt32 &&& Int32.toUInt32 31)).toInt32) &&& (1431655765))).toUInt32 >>> ((2 : Int32).toUInt32 &&& Int32.toUInt32 31)).toInt32) &&& (858993459))).toUInt32 >>> ((4 : Int32).toUInt32 &&& Int32.toUInt32 31)).toInt32)) &&& (252645135)) + (((((((x - (((x.toUInt32 >>> ((1 : Int32).toUInt32 &&& Int32.toUInt32 31)).toInt32) &&& (1431655765))) &&& (858993459)) + ((((x - (((x.toUInt32 >>> ((1 : Int32).toUInt32 &&& Int32.toUInt32 31)).toInt32) &&& (1431655765))).toUInt32 >>> ((2 : Int32).toUInt32 &&& Int32.toUInt32 31)).toInt32) &&& (858993459))) + (((((x - (((x.toUInt32 >>> ((1 : Int32).toUInt32 &&& Int32.toUInt32 31)).toInt32) &&& (1431655765))) &&& (858993459)) + ((((x - (((x.toUInt32 >>> ((1 : Int32).toUInt32 &&& Int32.toUInt32 31)).toInt32) &&& (1431655765))).toUInt32 >>> ((2 : Int32).toUInt32 &&& Int32.toUInt32 31)).toInt32) &&& (858993459))).toUInt32 >>> ((4 : Int32).toUInt32 &&& Int32.toUInt32 31)).toInt32)) &&& (252645135)).toUInt32 >>> ((8 : Int32).toUInt32 &&& Int32.toUInt32 31)).toInt32)))]) rfl ?_
  refine x_iload_n C d_JI_bitCount_41 0 rfl rfl ?_
  refine x_iload_n C d_JI_bitCount_42 0 rfl rfl ?_
  refine x_bipush C d_JI_bitCount_43 (v := 16) (by decide) ?_
  refine x_iushr C d_JI_bitCount_45 ?_
  refine x_iadd C d_JI_bitCount_46 ?_
  refine x_istore_n C d_JI_bitCount_47 rfl (by decide) (lv' := [(0, .int (((((((x - (((x.toUInt32 >>> ((1 : Int32).toUInt32 &&& Int32.toUInt32 31)).toInt32) &&& (1431655765))) &&& (858993459)) + ((((x - (((x.toUInt32 >>> ((1 : Int32).toUInt32 &&& Int32.toUInt32 31)).toInt32) &&& (1431655765))).toUInt32 >>> ((2 : Int32).toUInt32 &&& Int32.toUInt32 31)).toInt32) &&& (858993459))) + (((((x - (((x.toUInt32 >>> ((1 : Int32).toUInt32 &&& Int32.toUInt32 31)).toInt32) &&& (1431655765))) &&& (858993459)) + ((((x - (((x.toUInt32 >>> ((1 : Int32).toUInt32 &&& Int32.toUInt32 31)).toInt32) &&& (1431655765))).toUInt32 >>> ((2 : Int32).toUInt32 &&& Int32.toUInt32 31)).toInt32) &&& (858993459))).toUInt32 >>> ((4 : Int32).toUInt32 &&& Int32.toUInt32 31)).toInt32)) &&& (252645135)) + (((((((x - (((x.toUInt32 >>> ((1 : Int32).toUInt32 &&& Int32.toUInt32 31)).toInt32) &&& (1431655765))) &&& (858993459)) + ((((x - (((x.toUInt32 >>> ((1 : Int32).toUInt32 &&& Int32.toUInt32 31)).toInt32) &&& (1431655765))).toUInt32 >>> ((2 : Int32).toUInt32 &&& Int32.toUInt32 31)).toInt32) &&& (858993459))) + (((((x - (((x.toUInt32 >>> ((1 : Int32).toUInt32 &&& Int32.toUInt32 31)).toInt32) &&& (1431655765))) &&& (858993459)) + ((((x - (((x.toUInt32 >>> ((1 : Int32).toUInt32 &&& Int32.toUInt32 31)).toInt32) &&& (1431655765))).toUInt32 >>> ((2 : Int32).toUInt32 &&& Int32.toUInt32 31)).toInt32) &&& (858993459))).toUInt32 >>> ((4 : Int32).toUInt32 &&& Int32.toUInt32 31)).toInt32)) &&& (252645135)).toUInt32 >>> ((8 : Int32).toUInt32 &&& Int32.toUInt32 31)).toInt32)) + ((((((((x - (((x.toUInt32 >>> ((1 : Int32).toUInt32 &&& Int32.toUInt32 31)).toInt32) &&& (1431655765))) &&& (858993459)) + ((((x - (((x.toUInt32 >>> ((1 : Int32).toUInt32 &&& Int32.toUInt32 31)).toInt32) &&& (1431655765))).toUInt32 >>> ((2 : Int32).toUInt32 &&& Int32.toUInt32 31)).toInt32) &&& (858993459))) + (((((x - (((x.toUInt32 >>> ((1 : Int32).toUInt32 &&& Int32.toUInt32 31)).toInt32) &&& (1431655765))) &&& (858993459)) + ((((x - (((x.toUInt32 >>> ((1 : Int32).toUInt32 &&& Int32.toUInt32 31)).toInt32) &&& (1431655765))).toUInt32 >>> ((2 : Int32).toUInt32 &&& Int32.toUInt32 31)).toInt32) &&& (858993459))).toUInt32 >>> ((4 : Int32).toUInt32 &&& Int32.toUInt32 31)).toInt32)) &&& (252645135)) + (((((((x - (((x.toUInt32 >>> ((1 : Int32).toUInt32 &&& Int32.toUInt32 31)).toInt32) &&& (1431655765))) &&& (858993459)) + ((((x - (((x.toUInt32 >>> ((1 : Int32).toUInt32 &&& Int32.toUInt32 31)).toInt32) &&& (1431655765))).toUInt32 >>> ((2 : Int32).toUInt32 &&& Int32.toUInt32 31)).toInt32) &&& (858993459))) + (((((x - (((x.toUInt32 >>> ((1 : Int32).toUInt32 &&& Int32.toUInt32 31)).toInt32) &&& (1431655765))) &&& (858993459)) + ((((x - (((x.toUInt32 >>> ((1 : Int32).toUInt32 &&& Int32.toUInt32 31)).toInt32) &&& (1431655765))).toUInt32 >>> ((2 : Int32).toUInt32 &&& Int32.toUInt32 31)).toInt32) &&& (858993459))).toUInt32 >>> ((4 : Int32).toUInt32 &&& Int32.toUInt32 31)).toInt32)) &&& (252645135)).toUInt32 >>> ((8 : Int32).toUInt32 &&& Int32.toUInt32 31)).toInt32)).toUInt32 >>> ((16 : Int32).toUInt32 &&& Int32.toUInt32 31)).toInt32)))]) rfl ?_
  refine x_iload_n C d_JI_bitCount_48 0 rfl rfl ?_
  refine x_bipush C d_JI_bitCount_49 (v := 63) (by decide) ?_
  refine x_iand C d_JI_bitCount_51 ?_
  exact x_iret C rfl rfl d_JI_bitCount_52

set_option maxRecDepth 100000 in
set_option maxHeartbeats 600000 in
theorem c_Fo_keepsApart (Z : ZT) (s : Int32) (m : Nat) (hm : m < 2 ^ 31) (g : St)  (r : Nat → Int32) (hr : g 0 = r) (hk : okR r) : CT yC Z y_Fo_keepsApart b_Fo_keepsApart 5 (some (.boolean)) 4 94 [.ref (Z.2.1 (1)), .int (s), .int (nI m)] (g) (QkI yC Z (bI (kapN (fun i_ => sumN (dysR (outN s r (sz r)) i_) (sz r)) (sumN r (sz r)) m = true)) (fun u => ∃ ρ : Nat → Int32, u = va_up g 1 ρ)) := by
  refine CT.mk "TunnelPeace$Forecast" (by decide) rfl (Nat.le_of_ble_eq_true rfl) (fun X C => ?_)
  refine x_lv [0, 1, 2] (lv' := [(0, .ref (Z.2.1 (1))), (1, .int (s)), (2, .int (nI m))]) rfl ?_
  subst hr
  have hk0 := hk
  obtain ⟨⟨n, hn8, hn⟩, dd, hdd, hd⟩ := hk
  refine x_aload_n C d_Fo_keepsApart_0 0 rfl rfl ?_
  refine gf_Fo_trial C k_110 d_Fo_keepsApart_1 ?_
  refine x_aload_n C d_Fo_keepsApart_4 0 rfl rfl ?_
  refine gf_Fo_now C k_109 d_Fo_keepsApart_5 ?_
  refine x_callVv C (c_Tu_become Z 1 0 (by omega) (by omega) (by omega) (g) _ rfl _ rfl hk0) mi_Tu_become k_380 (show 14 + 12 * 1 < 50 by omega) (e_Tu Z 1 _) rfl (As := [.ref (Z.2.1 (14 + 12 * 0))]) ⟨Nat.le_of_ble_eq_true rfl, Nat.le_of_ble_eq_true rfl⟩ rfl rfl (Nat.le_of_ble_eq_true rfl) d_Fo_keepsApart_8 ?_
  refine x_aload_n C d_Fo_keepsApart_11 0 rfl rfl ?_
  refine gf_Fo_trial C k_110 d_Fo_keepsApart_12 ?_
  refine x_iload_n C d_Fo_keepsApart_15 1 rfl rfl ?_
  refine x_callVv C (c_Tu_endSeasons Z 1 (by omega) s (va_up g 1 (becR (g 1) (g 0))) _ (va_up_self _ _ _) (okR_bec hk0)) mi_Tu_endSeasons k_484 (show 14 + 12 * 1 < 50 by omega) (e_Tu Z 1 _) rfl (As := [.int (s)]) ⟨Nat.le_of_ble_eq_true rfl, Nat.le_of_ble_eq_true rfl⟩ rfl rfl (Nat.le_of_ble_eq_true rfl) d_Fo_keepsApart_16 ?_
  refine x_eqg (g' := va_up g 1 (outN s (becR (g 1) (g 0)) (sz (becR (g 1) (g 0))))) (bx_uu _ _ _ _) ?_
  refine x_aload_n C d_Fo_keepsApart_19 0 rfl rfl ?_
  refine gf_Fo_now C k_109 d_Fo_keepsApart_20 ?_
  refine x_callVi C (c_Tu_allMet Z 0 (by omega) (va_up g 1 (outN s (becR (g 1) (g 0)) (sz (becR (g 1) (g 0))))) _ (va_up_ne _ _ (by omega)) hk0) mi_Tu_allMet k_488 (show 14 + 12 * 0 < 50 by omega) (e_Tu Z 0 _) rfl (As := []) ⟨Nat.le_of_ble_eq_true rfl, Nat.le_of_ble_eq_true rfl⟩ rfl rfl (Nat.le_of_ble_eq_true rfl) d_Fo_keepsApart_23 ?_
  refine x_istore_n C d_Fo_keepsApart_26 rfl (by decide) (lv' := [(3, .int (sumN (g 0) (sz (g 0)))), (0, .ref (Z.2.1 (1))), (1, .int (s)), (2, .int (nI m))]) rfl ?_
  refine x_iconst C d_Fo_keepsApart_27 (v := 0) (by decide) ?_
  refine x_topi (show (0 : Int32) = nI 0 by decide) ?_
  refine x_istore C d_Fo_keepsApart_28 (by decide) (lv' := [(4, .int (nI 0)), (3, .int (sumN (g 0) (sz (g 0)))), (0, .ref (Z.2.1 (1))), (1, .int (s)), (2, .int (nI m))]) rfl ?_
  have LP_30 : ∀ (f_ i : Nat), i ≤ m → m - i < f_ → (kapN (fun i_ => sumN (dysR (outN s (g 0) (sz (g 0))) i_) (sz (g 0))) (sumN (g 0) (sz (g 0))) i = true) → WX X 5 yC Z (QX X yC Z (QkI yC Z (bI (kapN (fun i_ => sumN (dysR (outN s (g 0) (sz (g 0))) i_) (sz (g 0))) (sumN (g 0) (sz (g 0))) m = true)) (fun u => ∃ ρ : Nat → Int32, u = va_up g 1 ρ))) (va_up g 1 (dysR (outN s (becR (g 1) (g 0)) (sz (becR (g 1) (g 0)))) (i))) 30 [(4, .int (nI i)), (3, .int (sumN (g 0) (sz (g 0)))), (0, .ref (Z.2.1 (1))), (1, .int (s)), (2, .int (nI m))] [] := by
    intro f_
    induction f_ with
    | zero => intro i h1_ h2_ _; exact absurd h2_ (Nat.not_lt_zero _)
    | succ f_ ih_30 =>
      intro i hi_30 hf_30 hy_30
      refine x_iload C d_Fo_keepsApart_30 0 rfl ?_
      refine x_iload_n C d_Fo_keepsApart_32 4 rfl rfl ?_
      refine x_icmp_ge C d_Fo_keepsApart_33 62 (by decide) (fun c_1 => ?_) (fun c_1 => ?_)
      · have nc_1 := Int32.not_lt.mpr c_1
        have mc_1 : m ≤ i := (nI_leI (by omega) (by omega)).mp (show nI m ≤ nI i from c_1)
        have e_i : m = i := by omega
        subst e_i
        refine x_iconst C d_Fo_keepsApart_62 (v := 1) (by decide) ?_
        exact x_zretK C (by decide) (bI_t hy_30).symm ⟨_, rfl⟩ d_Fo_keepsApart_63
      · have nc_1 := Int32.not_le.mp c_1
        have mc_1 : ¬ m ≤ i := fun z_ => (show ¬ nI m ≤ nI i from c_1) ((nI_leI (by omega) (by omega)).mpr z_)
        refine x_aload_n C d_Fo_keepsApart_36 2 rfl rfl ?_
        refine gf_Fo_trial C k_110 d_Fo_keepsApart_37 ?_
        refine x_callVv C (c_Tu_passDay Z 1 (by omega) (va_up g 1 (dysR (outN s (becR (g 1) (g 0)) (sz (becR (g 1) (g 0)))) (i))) _ (va_up_self _ _ _) (okR_dys (okR_out (okR_bec hk0)) _)) mi_Tu_passDay k_404 (show 14 + 12 * 1 < 50 by omega) (e_Tu Z 1 _) rfl (As := []) ⟨Nat.le_of_ble_eq_true rfl, Nat.le_of_ble_eq_true rfl⟩ rfl rfl (Nat.le_of_ble_eq_true rfl) d_Fo_keepsApart_40 ?_
        refine x_eqg (g' := va_up g 1 (dysR (outN s (becR (g 1) (g 0)) (sz (becR (g 1) (g 0)))) (i + 1))) (bx_uu _ _ _ _) ?_
        refine x_aload_n C d_Fo_keepsApart_43 2 rfl rfl ?_
        refine gf_Fo_trial C k_110 d_Fo_keepsApart_44 ?_
        refine x_callVi C (c_Tu_allMet Z 1 (by omega) (va_up g 1 (dysR (outN s (becR (g 1) (g 0)) (sz (becR (g 1) (g 0)))) (i + 1))) _ (va_up_self _ _ _) (okR_dys (okR_out (okR_bec hk0)) _)) mi_Tu_allMet k_488 (show 14 + 12 * 1 < 50 by omega) (e_Tu Z 1 _) rfl (As := []) ⟨Nat.le_of_ble_eq_true rfl, Nat.le_of_ble_eq_true rfl⟩ rfl rfl (Nat.le_of_ble_eq_true rfl) d_Fo_keepsApart_47 ?_
        refine x_topi (x' := sumN (dysR (outN s (g 0) (sz (g 0))) (i + 1)) (sz (g 0))) (by rw [dysR_sz, outN_sz, becR_sz]; exact sumN_e out_days (Nat.le_refl _)) ?_
        refine x_iload_n C d_Fo_keepsApart_50 1 rfl rfl ?_
        refine x_icmp_eq C d_Fo_keepsApart_51 56 (by decide) (fun c_2 => ?_) (fun c_2 => ?_)
        · refine x_iinc C d_Fo_keepsApart_56 0 rfl (v := nI (i + 1)) (nI_1 _) (by decide) (lv' := [(4, .int (nI (i + 1))), (3, .int (sumN (g 0) (sz (g 0)))), (0, .ref (Z.2.1 (1))), (1, .int (s)), (2, .int (nI m))]) rfl ?_
          refine x_goto C d_Fo_keepsApart_59 30 (by decide) ?_
          exact ih_30 (i + 1) (by omega) (by omega) (kapN_s hy_30 (by assumption))
        · have nc_2 := Ne.symm c_2
          refine x_iconst C d_Fo_keepsApart_54 (v := 0) (by decide) ?_
          exact x_zretK C (by decide) (bI_f (by rw [kapN_f (i := i) (by omega) (by assumption)]; decide)).symm ⟨_, rfl⟩ d_Fo_keepsApart_55
  refine x_eqg (g' := va_up g 1 (dysR (outN s (becR (g 1) (g 0)) (sz (becR (g 1) (g 0)))) (0))) rfl ?_
  exact LP_30 (m + 1) 0 (Nat.zero_le _) (by omega) rfl

set_option maxRecDepth 100000 in
set_option maxHeartbeats 600000 in
theorem c_Fo_fewestLeftOut (Z : ZT) (m : Nat) (hm : m < 2 ^ 31) (g : St)  (hk : okR (g 0)) : CT yC Z y_Fo_fewestLeftOut b_Fo_fewestLeftOut 5 (some (.int)) 5 118 [.ref (Z.2.1 (1)), .int (nI m)] (g) (QkI yC Z (oI (fO (fun a_ s_ => decide (bc (nI s_) = nI a_) && kapN (fun i_ => sumN (dysR (outN (nI s_) (g 0) (sz (g 0))) i_) (sz (g 0))) (sumN (g 0) (sz (g 0))) m) (2 ^ sz (g 0)) (sz (g 0) + 1) 0)) (fun u => ∃ ρ : Nat → Int32, u = va_up g 1 ρ)) := by
  refine CT.mk "TunnelPeace$Forecast" (by decide) rfl (Nat.le_of_ble_eq_true rfl) (fun X C => ?_)
  refine x_lv [0, 1] (lv' := [(0, .ref (Z.2.1 (1))), (1, .int (nI m))]) rfl ?_
  have hk0 := hk
  obtain ⟨⟨n, hn8, hn⟩, dd, hdd, hd⟩ := hk
  obtain ⟨M, hM, hM2⟩ : ∃ M, 2 ^ n = M ∧ M ≤ 256 := ⟨_, rfl, pow_8 hn8⟩
  have hres : fO (fun a_ s_ => decide (bc (nI s_) = nI a_) && kapN (fun i_ => sumN (dysR (outN (nI s_) (g 0) (sz (g 0))) i_) (sz (g 0))) (sumN (g 0) (sz (g 0))) m) (2 ^ sz (g 0)) (sz (g 0) + 1) 0 = fO (fun a_ s_ => decide (bc (nI s_) = nI a_) && kapN (fun i_ => sumN (dysR (outN (nI s_) (g 0) (sz (g 0))) i_) (sz (g 0))) (sumN (g 0) (sz (g 0))) m) M (n + 1) 0 := by rw [show 2 ^ sz (g 0) = M by rw [sz_of hn hn8]; exact hM, show sz (g 0) + 1 = n + 1 by rw [sz_of hn hn8]]
  refine x_iconst C d_Fo_fewestLeftOut_0 (v := 1) (by decide) ?_
  refine x_aload_n C d_Fo_fewestLeftOut_1 0 rfl rfl ?_
  refine gf_Fo_now C k_109 d_Fo_fewestLeftOut_2 ?_
  refine gf_Tu_size C (by omega) (v := nI n) hn k_75 d_Fo_fewestLeftOut_5 ?_
  refine x_ishl C d_Fo_fewestLeftOut_8 ?_
  refine x_topi (x' := nI M) (by rw [← hM]; exact shl_n hn8) ?_
  refine x_istore_n C d_Fo_fewestLeftOut_9 rfl (by decide) (lv' := [(2, .int (nI M)), (0, .ref (Z.2.1 (1))), (1, .int (nI m))]) rfl ?_
  refine x_iconst C d_Fo_fewestLeftOut_10 (v := 0) (by decide) ?_
  refine x_topi (show (0 : Int32) = nI 0 by decide) ?_
  refine x_istore_n C d_Fo_fewestLeftOut_11 rfl (by decide) (lv' := [(3, .int (nI 0)), (2, .int (nI M)), (0, .ref (Z.2.1 (1))), (1, .int (nI m))]) rfl ?_
  have LP_12 : ∀ (f_ a : Nat) (ρ : Nat → Int32), a ≤ n + 1 → (n + 1) - a < f_ → (fO (fun a_ s_ => decide (bc (nI s_) = nI a_) && kapN (fun i_ => sumN (dysR (outN (nI s_) (g 0) (sz (g 0))) i_) (sz (g 0))) (sumN (g 0) (sz (g 0))) m) M (n + 1) 0 = fO (fun a_ s_ => decide (bc (nI s_) = nI a_) && kapN (fun i_ => sumN (dysR (outN (nI s_) (g 0) (sz (g 0))) i_) (sz (g 0))) (sumN (g 0) (sz (g 0))) m) M (n + 1 - a) a) → WX X 5 yC Z (QX X yC Z (QkI yC Z (oI (fO (fun a_ s_ => decide (bc (nI s_) = nI a_) && kapN (fun i_ => sumN (dysR (outN (nI s_) (g 0) (sz (g 0))) i_) (sz (g 0))) (sumN (g 0) (sz (g 0))) m) (2 ^ sz (g 0)) (sz (g 0) + 1) 0)) (fun u => ∃ ρ : Nat → Int32, u = va_up g 1 ρ))) (va_up g 1 ρ) 12 [(3, .int (nI a)), (2, .int (nI M)), (0, .ref (Z.2.1 (1))), (1, .int (nI m))] [] := by
    intro f_
    induction f_ with
    | zero => intro a _ h1_ h2_ _; exact absurd h2_ (Nat.not_lt_zero _)
    | succ f_ ih_12 =>
      intro a ρ hi_12 hf_12 hy_12
      refine x_iload_n C d_Fo_fewestLeftOut_12 0 rfl rfl ?_
      refine x_aload_n C d_Fo_fewestLeftOut_13 2 rfl rfl ?_
      refine gf_Fo_now C k_109 d_Fo_fewestLeftOut_14 ?_
      refine gf_Tu_size C (by omega) (v := nI n) (Eq.trans (congrFun (va_up_ne _ _ (by omega)) _) hn) k_75 d_Fo_fewestLeftOut_17 ?_
      refine x_icmp_gt C d_Fo_fewestLeftOut_20 66 (by decide) (fun c_1 => ?_) (fun c_1 => ?_)
      · have nc_1 := Int32.not_le.mpr c_1
        have mc_1 : n < a := (nI_ltI (by omega) (by omega)).mp (show nI n < nI a from c_1)
        have e_a : n + 1 = a := by omega
        subst e_a
        refine x_iconst C d_Fo_fewestLeftOut_66 (v := -1) (by decide) ?_
        exact x_iretK C (by rw [hres, hy_12, Nat.sub_self]; rfl) ⟨_, rfl⟩ d_Fo_fewestLeftOut_67
      · have nc_1 := Int32.not_lt.mp c_1
        have mc_1 : ¬ n < a := fun z_ => (show ¬ nI n < nI a from c_1) ((nI_ltI (by omega) (by omega)).mpr z_)
        refine x_iconst C d_Fo_fewestLeftOut_23 (v := 0) (by decide) ?_
        refine x_topi (show (0 : Int32) = nI 0 by decide) ?_
        refine x_istore C d_Fo_fewestLeftOut_24 (by decide) (lv' := [(4, .int (nI 0)), (3, .int (nI a)), (2, .int (nI M)), (0, .ref (Z.2.1 (1))), (1, .int (nI m))]) rfl ?_
        have LP_26 : ∀ (f_ s : Nat) (ρ2 : Nat → Int32), s ≤ M → M - s < f_ → (fdo ((fun a_ s_ => decide (bc (nI s_) = nI a_) && kapN (fun i_ => sumN (dysR (outN (nI s_) (g 0) (sz (g 0))) i_) (sz (g 0))) (sumN (g 0) (sz (g 0))) m) a) M 0 = fdo ((fun a_ s_ => decide (bc (nI s_) = nI a_) && kapN (fun i_ => sumN (dysR (outN (nI s_) (g 0) (sz (g 0))) i_) (sz (g 0))) (sumN (g 0) (sz (g 0))) m) a) (M - s) s) → WX X 5 yC Z (QX X yC Z (QkI yC Z (oI (fO (fun a_ s_ => decide (bc (nI s_) = nI a_) && kapN (fun i_ => sumN (dysR (outN (nI s_) (g 0) (sz (g 0))) i_) (sz (g 0))) (sumN (g 0) (sz (g 0))) m) (2 ^ sz (g 0)) (sz (g 0) + 1) 0)) (fun u => ∃ ρ : Nat → Int32, u = va_up g 1 ρ))) (va_up g 1 ρ2) 26 [(4, .int (nI s)), (3, .int (nI a)), (2, .int (nI M)), (0, .ref (Z.2.1 (1))), (1, .int (nI m))] [] := by
          intro f_
          induction f_ with
          | zero => intro s _ h1_ h2_ _; exact absurd h2_ (Nat.not_lt_zero _)
          | succ f_ ih_26 =>
            intro s ρ2 hi_26 hf_26 hy_26
            refine x_iload C d_Fo_fewestLeftOut_26 0 rfl ?_
            refine x_iload_n C d_Fo_fewestLeftOut_28 2 rfl rfl ?_
            refine x_icmp_ge C d_Fo_fewestLeftOut_29 60 (by decide) (fun c_2 => ?_) (fun c_2 => ?_)
            · have nc_2 := Int32.not_lt.mpr c_2
              have mc_2 : M ≤ s := (nI_leI (by omega) (by omega)).mp (show nI M ≤ nI s from c_2)
              have e_s : M = s := by omega
              subst e_s
              refine x_iinc C d_Fo_fewestLeftOut_60 1 rfl (v := nI (a + 1)) (nI_1 _) (by decide) (lv' := [(3, .int (nI (a + 1))), (4, .int (nI M)), (2, .int (nI M)), (0, .ref (Z.2.1 (1))), (1, .int (nI m))]) rfl ?_
              refine x_goto C d_Fo_fewestLeftOut_63 12 (by decide) ?_
              refine x_lv [0, 2, 3, 4] (lv' := [(3, .int (nI (a + 1))), (2, .int (nI M)), (0, .ref (Z.2.1 (1))), (1, .int (nI m))]) rfl ?_
              exact ih_12 (a + 1) ρ2 (by omega) (by omega) (hy_12.trans (fO_n (by omega) (hy_26.trans (by rw [Nat.sub_self]; rfl))))
            · have nc_2 := Int32.not_le.mp c_2
              have mc_2 : ¬ M ≤ s := fun z_ => (show ¬ nI M ≤ nI s from c_2) ((nI_leI (by omega) (by omega)).mpr z_)
              refine x_iload C d_Fo_fewestLeftOut_32 0 rfl ?_
              refine x_callSi C (c_JI_bitCount Z (nI s) (va_up g 1 ρ2)) mi_JI_bitCount k_474 (As := [.int (nI s)]) ⟨Nat.le_of_ble_eq_true rfl, Nat.le_of_ble_eq_true rfl⟩ rfl rfl (Nat.le_of_ble_eq_true rfl) d_Fo_fewestLeftOut_34 ?_
              refine x_iload_n C d_Fo_fewestLeftOut_37 1 rfl rfl ?_
              refine x_icmp_ne C d_Fo_fewestLeftOut_38 54 (by decide) (fun c_3 => ?_) (fun c_3 => ?_)
              · have nc_3 := Ne.symm c_3
                refine x_iinc C d_Fo_fewestLeftOut_54 0 rfl (v := nI (s + 1)) (nI_1 _) (by decide) (lv' := [(4, .int (nI (s + 1))), (3, .int (nI a)), (2, .int (nI M)), (0, .ref (Z.2.1 (1))), (1, .int (nI m))]) rfl ?_
                refine x_goto C d_Fo_fewestLeftOut_57 26 (by decide) ?_
                exact ih_26 (s + 1) ρ2 (by omega) (by omega) (hy_26.trans (fdo_n (by omega) (by simp [*])))
              · refine x_aload_n C d_Fo_fewestLeftOut_41 3 rfl rfl ?_
                refine x_iload C d_Fo_fewestLeftOut_42 0 rfl ?_
                refine x_iload_n C d_Fo_fewestLeftOut_44 4 rfl rfl ?_
                refine x_callVki C (c_Fo_keepsApart Z (nI s) m (by omega) (va_up g 1 ρ2) _ (va_up_ne _ _ (by omega)) hk0) mi_Fo_keepsApart k_480 (show 1 < 50 by omega) (e_Fo Z (sr yC (va_up g 1 ρ2) 1)) rfl (As := [.int (nI s), .int (nI m)]) ⟨Nat.le_of_ble_eq_true rfl, Nat.le_of_ble_eq_true rfl⟩ rfl rfl (Nat.le_of_ble_eq_true rfl) d_Fo_fewestLeftOut_45 (fun u_ hu_ => ?_)
                obtain ⟨ρ_4, rfl⟩ := hu_
                refine x_eqg (g' := va_up g 1 ρ_4) (bx_uu _ _ _ _) ?_
                refine x_ifeqB C d_Fo_fewestLeftOut_48 54 (by decide) (fun c_5 => ?_) (fun c_5 => ?_)
                · refine x_iinc C d_Fo_fewestLeftOut_54 0 rfl (v := nI (s + 1)) (nI_1 _) (by decide) (lv' := [(4, .int (nI (s + 1))), (3, .int (nI a)), (2, .int (nI M)), (0, .ref (Z.2.1 (1))), (1, .int (nI m))]) rfl ?_
                  refine x_goto C d_Fo_fewestLeftOut_57 26 (by decide) ?_
                  exact ih_26 (s + 1) ρ_4 (by omega) (by omega) (hy_26.trans (fdo_n (by omega) (by simp [*])))
                · refine x_iload C d_Fo_fewestLeftOut_51 0 rfl ?_
                  exact x_iretK C (by rw [hres, hy_12, fO_t (by omega) (hy_26.trans (fdo_t (by omega) (by simp [*])))]; rfl) ⟨_, rfl⟩ d_Fo_fewestLeftOut_53
        exact LP_26 (M + 1) 0 ρ (Nat.zero_le _) (by omega) rfl
  refine x_eqg (g' := va_up g 1 (g 1)) (va_id g 1).symm ?_
  exact LP_12 (n + 1 + 1) 0 (g 1) (Nat.zero_le _) (by omega) rfl

set_option maxRecDepth 100000 in
set_option maxHeartbeats 600000 in
theorem c_Fo_goesAsTold (Z : ZT) (s p L : Nat) (hs : s < 4) (hp8 : p < 8) (hL4 : L ≤ 40) (g : St)  (r nu : Nat → Int32) (hr : g 1 = r) (hk1 : okR r) (hnu : g (12 + s) = nu) (hL : g (8 + s) 1 = nI L) : CT yC Z y_Fo_goesAsTold b_Fo_goesAsTold 5 (some (.boolean)) 4 94 [.ref (Z.2.1 (1)), .ref (Z.2.1 (5 + s)), .int (nI p)] (g) (QkI yC Z (bI (gatN nu r p L = true)) (fun u => ∃ ρ : Nat → Int32, u = va_up g 1 ρ)) := by
  refine CT.mk "TunnelPeace$Forecast" (by decide) rfl (Nat.le_of_ble_eq_true rfl) (fun X C => ?_)
  refine x_lv [0, 1, 2] (lv' := [(0, .ref (Z.2.1 (1))), (1, .ref (Z.2.1 (5 + s))), (2, .int (nI p))]) rfl ?_
  subst hr
  subst hnu
  refine x_iconst C d_Fo_goesAsTold_0 (v := 0) (by decide) ?_
  refine x_topi (show (0 : Int32) = nI 0 by decide) ?_
  refine x_istore_n C d_Fo_goesAsTold_1 rfl (by decide) (lv' := [(3, .int (nI 0)), (0, .ref (Z.2.1 (1))), (1, .ref (Z.2.1 (5 + s))), (2, .int (nI p))]) rfl ?_
  have LP_2 : ∀ (f_ i : Nat), i ≤ L → L - i < f_ → (gatN (g (12 + s)) (g 1) p i = true) → WX X 5 yC Z (QX X yC Z (QkI yC Z (bI (gatN (g (12 + s)) (g 1) p L = true)) (fun u => ∃ ρ : Nat → Int32, u = va_up g 1 ρ))) (va_up g 1 (dysR (g 1) (i))) 2 [(3, .int (nI i)), (0, .ref (Z.2.1 (1))), (1, .ref (Z.2.1 (5 + s))), (2, .int (nI p))] [] := by
    intro f_
    induction f_ with
    | zero => intro i h1_ h2_ _; exact absurd h2_ (Nat.not_lt_zero _)
    | succ f_ ih_2 =>
      intro i hi_2 hf_2 hy_2
      refine x_iload_n C d_Fo_goesAsTold_2 0 rfl rfl ?_
      refine x_aload_n C d_Fo_goesAsTold_3 2 rfl rfl ?_
      refine gf_Sh_length C (by omega) (v := nI L) (Eq.trans (congrFun (va_up_ne _ _ (by omega)) _) hL) k_153 d_Fo_goesAsTold_4 ?_
      refine x_icmp_ge C d_Fo_goesAsTold_7 56 (by decide) (fun c_1 => ?_) (fun c_1 => ?_)
      · have nc_1 := Int32.not_lt.mpr c_1
        have mc_1 : L ≤ i := (nI_leI (by omega) (by omega)).mp (show nI L ≤ nI i from c_1)
        have e_i : L = i := by omega
        subst e_i
        refine x_iconst C d_Fo_goesAsTold_56 (v := 1) (by decide) ?_
        exact x_zretK C (by decide) (bI_t hy_2).symm ⟨_, rfl⟩ d_Fo_goesAsTold_57
      · have nc_1 := Int32.not_le.mp c_1
        have mc_1 : ¬ L ≤ i := fun z_ => (show ¬ nI L ≤ nI i from c_1) ((nI_leI (by omega) (by omega)).mpr z_)
        refine x_aload_n C d_Fo_goesAsTold_10 1 rfl rfl ?_
        refine gf_Fo_trial C k_110 d_Fo_goesAsTold_11 ?_
        refine x_callVv C (c_Tu_passDay Z 1 (by omega) (va_up g 1 (dysR (g 1) (i))) _ (va_up_self _ _ _) (okR_dys hk1 _)) mi_Tu_passDay k_404 (show 14 + 12 * 1 < 50 by omega) (e_Tu Z 1 _) rfl (As := []) ⟨Nat.le_of_ble_eq_true rfl, Nat.le_of_ble_eq_true rfl⟩ rfl rfl (Nat.le_of_ble_eq_true rfl) d_Fo_goesAsTold_14 ?_
        refine x_eqg (g' := va_up g 1 (dysR (g 1) (i + 1))) (bx_uu _ _ _ _) ?_
        refine x_aload_n C d_Fo_goesAsTold_17 2 rfl rfl ?_
        refine gf_Sh_numbers C (by omega) k_156 d_Fo_goesAsTold_18 ?_
        refine x_iload_n C d_Fo_goesAsTold_21 0 rfl rfl ?_
        refine al_nu C (by omega) i (v := (g (12 + s)) i) rfl (by omega) (congrFun (va_up_ne _ _ (by omega)) _) d_Fo_goesAsTold_22 ?_
        refine x_istore C d_Fo_goesAsTold_23 (by decide) (lv' := [(4, .int ((g (12 + s)) i)), (3, .int (nI i)), (0, .ref (Z.2.1 (1))), (1, .ref (Z.2.1 (5 + s))), (2, .int (nI p))]) rfl ?_
        refine x_iload C d_Fo_goesAsTold_25 0 rfl ?_
        refine x_iconst C d_Fo_goesAsTold_27 (v := -1) (by decide) ?_
        refine x_icmp_eq C d_Fo_goesAsTold_28 50 (by decide) (fun c_2 => ?_) (fun c_2 => ?_)
        · refine x_iinc C d_Fo_goesAsTold_50 1 rfl (v := nI (i + 1)) (nI_1 _) (by decide) (lv' := [(3, .int (nI (i + 1))), (4, .int ((g (12 + s)) i)), (0, .ref (Z.2.1 (1))), (1, .ref (Z.2.1 (5 + s))), (2, .int (nI p))]) rfl ?_
          refine x_goto C d_Fo_goesAsTold_53 2 (by decide) ?_
          refine x_lv [0, 2, 3, 4] (lv' := [(3, .int (nI (i + 1))), (0, .ref (Z.2.1 (1))), (1, .ref (Z.2.1 (5 + s))), (2, .int (nI p))]) rfl ?_
          exact ih_2 (i + 1) (by omega) (by omega) (gatN_s hy_2 (by first | exact Or.inl (by assumption) | exact Or.inr (by assumption)))
        · have nc_2 := Ne.symm c_2
          refine x_iload C d_Fo_goesAsTold_31 0 rfl ?_
          refine x_aload_n C d_Fo_goesAsTold_33 2 rfl rfl ?_
          refine gf_Fo_trial C k_110 d_Fo_goesAsTold_34 ?_
          refine gf_Tu_people C (by omega) k_82 d_Fo_goesAsTold_37 ?_
          refine x_iload_n C d_Fo_goesAsTold_40 4 rfl rfl ?_
          refine al_pp C (by omega) p rfl (by omega) d_Fo_goesAsTold_41 ?_
          refine gf_Pe_cell C (by omega) (by omega) (v := (dysR (g 1) (i + 1)) (pI p 2)) (congrFun (va_up_self _ _ _) _) k_43 d_Fo_goesAsTold_42 ?_
          refine x_icmp_eq C d_Fo_goesAsTold_45 50 (by decide) (fun c_3 => ?_) (fun c_3 => ?_)
          · refine x_iinc C d_Fo_goesAsTold_50 1 rfl (v := nI (i + 1)) (nI_1 _) (by decide) (lv' := [(3, .int (nI (i + 1))), (4, .int ((g (12 + s)) i)), (0, .ref (Z.2.1 (1))), (1, .ref (Z.2.1 (5 + s))), (2, .int (nI p))]) rfl ?_
            refine x_goto C d_Fo_goesAsTold_53 2 (by decide) ?_
            refine x_lv [0, 2, 3, 4] (lv' := [(3, .int (nI (i + 1))), (0, .ref (Z.2.1 (1))), (1, .ref (Z.2.1 (5 + s))), (2, .int (nI p))]) rfl ?_
            exact ih_2 (i + 1) (by omega) (by omega) (gatN_s hy_2 (by first | exact Or.inl (by assumption) | exact Or.inr (by assumption)))
          · have nc_3 := Ne.symm c_3
            refine x_iconst C d_Fo_goesAsTold_48 (v := 0) (by decide) ?_
            exact x_zretK C (by decide) (bI_f (by rw [gatN_f (i := i) (by omega) (by assumption) (by assumption)]; decide)).symm ⟨_, rfl⟩ d_Fo_goesAsTold_49
  refine x_eqg (g' := va_up g 1 (dysR (g 1) (0))) (va_id g 1).symm ?_
  exact LP_2 (L + 1) 0 (Nat.zero_le _) (by omega) rfl

set_option maxRecDepth 100000 in
set_option maxHeartbeats 600000 in
theorem c_Fo_valuesAsTold_2 (Z : ZT) (s p L : Nat) (hs : s < 4) (hp8 : p < 8) (hL4 : L ≤ 40) (g : St)  (hk : okR (g 0)) (hps : p < sz (g 0)) (hL : g (8 + s) 1 = nI L) : CT yC Z y_Fo_valuesAsTold b_Fo_valuesAsTold 6 (some (.int)) 5 118 [.ref (Z.2.1 (1)), .ref (Z.2.1 (5 + s)), .int (nI p), .int (nI 2)] (g) (QkI yC Z (vatN (fun v_ => gatN (g (12 + s)) (upd (g 0) (pI p 2) (nI v_)) p L) 16) (fun u => ∃ ρ : Nat → Int32, u = va_up g 1 ρ)) := by
  refine CT.mk "TunnelPeace$Forecast" (by decide) rfl (Nat.le_of_ble_eq_true rfl) (fun X C => ?_)
  refine x_lv [0, 1, 2, 3] (lv' := [(0, .ref (Z.2.1 (1))), (1, .ref (Z.2.1 (5 + s))), (2, .int (nI p)), (3, .int (nI 2))]) rfl ?_
  have hk0 := hk
  obtain ⟨⟨n, hn8, hn⟩, dd, hdd, hd⟩ := hk
  refine x_iconst C d_Fo_valuesAsTold_0 (v := 0) (by decide) ?_
  refine x_istore C d_Fo_valuesAsTold_1 (by decide) (lv' := [(4, .int (0)), (0, .ref (Z.2.1 (1))), (1, .ref (Z.2.1 (5 + s))), (2, .int (nI p)), (3, .int (nI 2))]) rfl ?_
  refine x_iconst C d_Fo_valuesAsTold_3 (v := 0) (by decide) ?_
  refine x_topi (show (0 : Int32) = nI 0 by decide) ?_
  refine x_istore C d_Fo_valuesAsTold_4 (by decide) (lv' := [(5, .int (nI 0)), (4, .int (0)), (0, .ref (Z.2.1 (1))), (1, .ref (Z.2.1 (5 + s))), (2, .int (nI p)), (3, .int (nI 2))]) rfl ?_
  have LP_6 : ∀ (f_ c : Nat) (ρ : Nat → Int32), c ≤ 16 → 16 - c < f_ → WX X 6 yC Z (QX X yC Z (QkI yC Z (vatN (fun v_ => gatN (g (12 + s)) (upd (g 0) (pI p 2) (nI v_)) p L) 16) (fun u => ∃ ρ : Nat → Int32, u = va_up g 1 ρ))) (va_up g 1 ρ) 6 [(5, .int (nI c)), (4, .int (vatN (fun v_ => gatN (g (12 + s)) (upd (g 0) (pI p 2) (nI v_)) p L) (c))), (0, .ref (Z.2.1 (1))), (1, .ref (Z.2.1 (5 + s))), (2, .int (nI p)), (3, .int (nI 2))] [] := by
    intro f_
    induction f_ with
    | zero => intro c _ h1_ h2_; exact absurd h2_ (Nat.not_lt_zero _)
    | succ f_ ih_6 =>
      intro c ρ hi_6 hf_6
      refine x_iload C d_Fo_valuesAsTold_6 0 rfl ?_
      refine x_getst0N C (List.mem_of_getElem? (i := 1) rfl) d_Fo_valuesAsTold_8 ?_
      refine x_iload_n C d_Fo_valuesAsTold_11 5 rfl rfl ?_
      refine x_stld0 C 2 rfl (by decide) rfl d_Fo_valuesAsTold_12 ?_
      refine x_icmp_gt C d_Fo_valuesAsTold_13 48 (by decide) (fun c_1 => ?_) (fun c_1 => ?_)
      · have nc_1 := Int32.not_le.mpr c_1
        have mc_1 : 15 < c := (nI_ltI (by omega) (by omega)).mp (show nI 15 < nI c from c_1)
        have e_c : 16 = c := by omega
        subst e_c
        refine x_iload C d_Fo_valuesAsTold_48 1 rfl ?_
        exact x_iretK C rfl ⟨_, rfl⟩ d_Fo_valuesAsTold_50
      · have nc_1 := Int32.not_lt.mp c_1
        have mc_1 : ¬ 15 < c := fun z_ => (show ¬ nI 15 < nI c from c_1) ((nI_ltI (by omega) (by omega)).mpr z_)
        refine x_aload_n C d_Fo_valuesAsTold_16 2 rfl rfl ?_
        refine x_iload_n C d_Fo_valuesAsTold_17 4 rfl rfl ?_
        refine x_iload_n C d_Fo_valuesAsTold_18 5 rfl rfl ?_
        refine x_iload C d_Fo_valuesAsTold_19 0 rfl ?_
        refine x_callVv C (c_Fo_tryWith Z p 2 (by omega) (by omega) (nI c) (va_up g 1 ρ) (by rw [va_up_ne _ _ (by decide)]; exact hk0)) mi_Fo_tryWith k_443 (show 1 < 50 by omega) (e_Fo Z (sr yC (va_up g 1 ρ) 1)) rfl (As := [.int (nI p), .int (nI 2), .int (nI c)]) ⟨Nat.le_of_ble_eq_true rfl, Nat.le_of_ble_eq_true rfl⟩ rfl rfl (Nat.le_of_ble_eq_true rfl) d_Fo_valuesAsTold_21 ?_
        refine x_eqg (g' := va_up g 1 (upd (becR ρ (g 0)) (pI p 2) (nI c))) (by rw [va_up_self, va_up_ne _ _ (by decide), bx_uu]) ?_
        refine x_aload_n C d_Fo_valuesAsTold_24 2 rfl rfl ?_
        refine x_aload_n C d_Fo_valuesAsTold_25 3 rfl rfl ?_
        refine x_iload_n C d_Fo_valuesAsTold_26 4 rfl rfl ?_
        refine x_callVki C (c_Fo_goesAsTold Z s p L hs hp8 hL4 (va_up g 1 (upd (becR ρ (g 0)) (pI p 2) (nI c))) _ _ (va_up_self _ _ _) (okR_updP (okR_bec hk0)) (va_up_ne _ _ (by omega)) (by rw [va_up_ne _ _ (by omega)]; exact hL)) mi_Fo_goesAsTold k_510 (show 1 < 50 by omega) (e_Fo Z (sr yC (va_up g 1 (upd (becR ρ (g 0)) (pI p 2) (nI c))) 1)) rfl (As := [.ref (Z.2.1 (5 + s)), .int (nI p)]) ⟨Nat.le_of_ble_eq_true rfl, Nat.le_of_ble_eq_true rfl⟩ rfl rfl (Nat.le_of_ble_eq_true rfl) d_Fo_valuesAsTold_27 (fun u_ hu_ => ?_)
        obtain ⟨ρ_2, rfl⟩ := hu_
        refine x_eqg (g' := va_up g 1 ρ_2) (bx_uu _ _ _ _) ?_
        refine x_topi (x' := bI (gatN (g (12 + s)) (upd (g 0) (pI p 2) (nI c)) p L = true)) (by rw [gatN_e (becR_e.updE _ _) (sz_updP.trans becR_sz) hps]) ?_
        refine x_ifeqB C d_Fo_valuesAsTold_30 42 (by decide) (fun c_3 => ?_) (fun c_3 => ?_)
        · refine x_iinc C d_Fo_valuesAsTold_42 0 rfl (v := nI (c + 1)) (nI_1 _) (by decide) (lv' := [(5, .int (nI (c + 1))), (4, .int (vatN (fun v_ => gatN (g (12 + s)) (upd (g 0) (pI p 2) (nI v_)) p L) (c))), (0, .ref (Z.2.1 (1))), (1, .ref (Z.2.1 (5 + s))), (2, .int (nI p)), (3, .int (nI 2))]) rfl ?_
          refine x_goto C d_Fo_valuesAsTold_45 6 (by decide) ?_
          refine x_lve (lv' := [(5, .int (nI (c + 1))), (4, .int (vatN (fun v_ => gatN (g (12 + s)) (upd (g 0) (pI p 2) (nI v_)) p L) (c + 1))), (0, .ref (Z.2.1 (1))), (1, .ref (Z.2.1 (5 + s))), (2, .int (nI p)), (3, .int (nI 2))]) (by first | rfl | simp [vatN, bit, *]) ?_
          exact ih_6 (c + 1) ρ_2 (by omega) (by omega)
        · refine x_iload C d_Fo_valuesAsTold_33 1 rfl ?_
          refine x_iconst C d_Fo_valuesAsTold_35 (v := 1) (by decide) ?_
          refine x_iload C d_Fo_valuesAsTold_36 0 rfl ?_
          refine x_ishl C d_Fo_valuesAsTold_38 ?_
          refine x_ior C d_Fo_valuesAsTold_39 ?_
          refine x_istore C d_Fo_valuesAsTold_40 (by decide) (lv' := [(4, .int ((vatN (fun v_ => gatN (g (12 + s)) (upd (g 0) (pI p 2) (nI v_)) p L) (c)) ||| (1 <<< ((nI c) &&& 31)))), (5, .int (nI c)), (0, .ref (Z.2.1 (1))), (1, .ref (Z.2.1 (5 + s))), (2, .int (nI p)), (3, .int (nI 2))]) rfl ?_
          refine x_iinc C d_Fo_valuesAsTold_42 1 rfl (v := nI (c + 1)) (nI_1 _) (by decide) (lv' := [(5, .int (nI (c + 1))), (4, .int ((vatN (fun v_ => gatN (g (12 + s)) (upd (g 0) (pI p 2) (nI v_)) p L) (c)) ||| (1 <<< ((nI c) &&& 31)))), (0, .ref (Z.2.1 (1))), (1, .ref (Z.2.1 (5 + s))), (2, .int (nI p)), (3, .int (nI 2))]) rfl ?_
          refine x_goto C d_Fo_valuesAsTold_45 6 (by decide) ?_
          refine x_lve (lv' := [(5, .int (nI (c + 1))), (4, .int (vatN (fun v_ => gatN (g (12 + s)) (upd (g 0) (pI p 2) (nI v_)) p L) (c + 1))), (0, .ref (Z.2.1 (1))), (1, .ref (Z.2.1 (5 + s))), (2, .int (nI p)), (3, .int (nI 2))]) (by first | rfl | simp [vatN, bit, *]) ?_
          exact ih_6 (c + 1) ρ_2 (by omega) (by omega)
  refine x_lve (lv' := [(5, .int (nI 0)), (4, .int (vatN (fun v_ => gatN (g (12 + s)) (upd (g 0) (pI p 2) (nI v_)) p L) (0))), (0, .ref (Z.2.1 (1))), (1, .ref (Z.2.1 (5 + s))), (2, .int (nI p)), (3, .int (nI 2))]) rfl ?_
  refine x_eqg (g' := va_up g 1 (g 1)) (va_id g 1).symm ?_
  exact LP_6 (16 + 1) 0 (g 1) (Nat.zero_le _) (by omega)

set_option maxRecDepth 100000 in
set_option maxHeartbeats 600000 in
theorem c_Fo_valuesAsTold_0 (Z : ZT) (s p L : Nat) (hs : s < 4) (hp8 : p < 8) (hL4 : L ≤ 40) (g : St)  (hk : okR (g 0)) (hps : p < sz (g 0)) (hL : g (8 + s) 1 = nI L) : CT yC Z y_Fo_valuesAsTold b_Fo_valuesAsTold 6 (some (.int)) 5 118 [.ref (Z.2.1 (1)), .ref (Z.2.1 (5 + s)), .int (nI p), .int (nI 0)] (g) (QkI yC Z (vatN (fun v_ => gatN (g (12 + s)) (upd (g 0) (pI p 0) (nI v_)) p L) 7) (fun u => ∃ ρ : Nat → Int32, u = va_up g 1 ρ)) := by
  refine CT.mk "TunnelPeace$Forecast" (by decide) rfl (Nat.le_of_ble_eq_true rfl) (fun X C => ?_)
  refine x_lv [0, 1, 2, 3] (lv' := [(0, .ref (Z.2.1 (1))), (1, .ref (Z.2.1 (5 + s))), (2, .int (nI p)), (3, .int (nI 0))]) rfl ?_
  have hk0 := hk
  obtain ⟨⟨n, hn8, hn⟩, dd, hdd, hd⟩ := hk
  refine x_iconst C d_Fo_valuesAsTold_0 (v := 0) (by decide) ?_
  refine x_istore C d_Fo_valuesAsTold_1 (by decide) (lv' := [(4, .int (0)), (0, .ref (Z.2.1 (1))), (1, .ref (Z.2.1 (5 + s))), (2, .int (nI p)), (3, .int (nI 0))]) rfl ?_
  refine x_iconst C d_Fo_valuesAsTold_3 (v := 0) (by decide) ?_
  refine x_topi (show (0 : Int32) = nI 0 by decide) ?_
  refine x_istore C d_Fo_valuesAsTold_4 (by decide) (lv' := [(5, .int (nI 0)), (4, .int (0)), (0, .ref (Z.2.1 (1))), (1, .ref (Z.2.1 (5 + s))), (2, .int (nI p)), (3, .int (nI 0))]) rfl ?_
  have LP_6 : ∀ (f_ c : Nat) (ρ : Nat → Int32), c ≤ 7 → 7 - c < f_ → WX X 6 yC Z (QX X yC Z (QkI yC Z (vatN (fun v_ => gatN (g (12 + s)) (upd (g 0) (pI p 0) (nI v_)) p L) 7) (fun u => ∃ ρ : Nat → Int32, u = va_up g 1 ρ))) (va_up g 1 ρ) 6 [(5, .int (nI c)), (4, .int (vatN (fun v_ => gatN (g (12 + s)) (upd (g 0) (pI p 0) (nI v_)) p L) (c))), (0, .ref (Z.2.1 (1))), (1, .ref (Z.2.1 (5 + s))), (2, .int (nI p)), (3, .int (nI 0))] [] := by
    intro f_
    induction f_ with
    | zero => intro c _ h1_ h2_; exact absurd h2_ (Nat.not_lt_zero _)
    | succ f_ ih_6 =>
      intro c ρ hi_6 hf_6
      refine x_iload C d_Fo_valuesAsTold_6 0 rfl ?_
      refine x_getst0N C (List.mem_of_getElem? (i := 1) rfl) d_Fo_valuesAsTold_8 ?_
      refine x_iload_n C d_Fo_valuesAsTold_11 5 rfl rfl ?_
      refine x_stld0 C 0 rfl (by decide) rfl d_Fo_valuesAsTold_12 ?_
      refine x_icmp_gt C d_Fo_valuesAsTold_13 48 (by decide) (fun c_1 => ?_) (fun c_1 => ?_)
      · have nc_1 := Int32.not_le.mpr c_1
        have mc_1 : 6 < c := (nI_ltI (by omega) (by omega)).mp (show nI 6 < nI c from c_1)
        have e_c : 7 = c := by omega
        subst e_c
        refine x_iload C d_Fo_valuesAsTold_48 1 rfl ?_
        exact x_iretK C rfl ⟨_, rfl⟩ d_Fo_valuesAsTold_50
      · have nc_1 := Int32.not_lt.mp c_1
        have mc_1 : ¬ 6 < c := fun z_ => (show ¬ nI 6 < nI c from c_1) ((nI_ltI (by omega) (by omega)).mpr z_)
        refine x_aload_n C d_Fo_valuesAsTold_16 2 rfl rfl ?_
        refine x_iload_n C d_Fo_valuesAsTold_17 4 rfl rfl ?_
        refine x_iload_n C d_Fo_valuesAsTold_18 5 rfl rfl ?_
        refine x_iload C d_Fo_valuesAsTold_19 0 rfl ?_
        refine x_callVv C (c_Fo_tryWith Z p 0 (by omega) (by omega) (nI c) (va_up g 1 ρ) (by rw [va_up_ne _ _ (by decide)]; exact hk0)) mi_Fo_tryWith k_443 (show 1 < 50 by omega) (e_Fo Z (sr yC (va_up g 1 ρ) 1)) rfl (As := [.int (nI p), .int (nI 0), .int (nI c)]) ⟨Nat.le_of_ble_eq_true rfl, Nat.le_of_ble_eq_true rfl⟩ rfl rfl (Nat.le_of_ble_eq_true rfl) d_Fo_valuesAsTold_21 ?_
        refine x_eqg (g' := va_up g 1 (upd (becR ρ (g 0)) (pI p 0) (nI c))) (by rw [va_up_self, va_up_ne _ _ (by decide), bx_uu]) ?_
        refine x_aload_n C d_Fo_valuesAsTold_24 2 rfl rfl ?_
        refine x_aload_n C d_Fo_valuesAsTold_25 3 rfl rfl ?_
        refine x_iload_n C d_Fo_valuesAsTold_26 4 rfl rfl ?_
        refine x_callVki C (c_Fo_goesAsTold Z s p L hs hp8 hL4 (va_up g 1 (upd (becR ρ (g 0)) (pI p 0) (nI c))) _ _ (va_up_self _ _ _) (okR_updP (okR_bec hk0)) (va_up_ne _ _ (by omega)) (by rw [va_up_ne _ _ (by omega)]; exact hL)) mi_Fo_goesAsTold k_510 (show 1 < 50 by omega) (e_Fo Z (sr yC (va_up g 1 (upd (becR ρ (g 0)) (pI p 0) (nI c))) 1)) rfl (As := [.ref (Z.2.1 (5 + s)), .int (nI p)]) ⟨Nat.le_of_ble_eq_true rfl, Nat.le_of_ble_eq_true rfl⟩ rfl rfl (Nat.le_of_ble_eq_true rfl) d_Fo_valuesAsTold_27 (fun u_ hu_ => ?_)
        obtain ⟨ρ_2, rfl⟩ := hu_
        refine x_eqg (g' := va_up g 1 ρ_2) (bx_uu _ _ _ _) ?_
        refine x_topi (x' := bI (gatN (g (12 + s)) (upd (g 0) (pI p 0) (nI c)) p L = true)) (by rw [gatN_e (becR_e.updE _ _) (sz_updP.trans becR_sz) hps]) ?_
        refine x_ifeqB C d_Fo_valuesAsTold_30 42 (by decide) (fun c_3 => ?_) (fun c_3 => ?_)
        · refine x_iinc C d_Fo_valuesAsTold_42 0 rfl (v := nI (c + 1)) (nI_1 _) (by decide) (lv' := [(5, .int (nI (c + 1))), (4, .int (vatN (fun v_ => gatN (g (12 + s)) (upd (g 0) (pI p 0) (nI v_)) p L) (c))), (0, .ref (Z.2.1 (1))), (1, .ref (Z.2.1 (5 + s))), (2, .int (nI p)), (3, .int (nI 0))]) rfl ?_
          refine x_goto C d_Fo_valuesAsTold_45 6 (by decide) ?_
          refine x_lve (lv' := [(5, .int (nI (c + 1))), (4, .int (vatN (fun v_ => gatN (g (12 + s)) (upd (g 0) (pI p 0) (nI v_)) p L) (c + 1))), (0, .ref (Z.2.1 (1))), (1, .ref (Z.2.1 (5 + s))), (2, .int (nI p)), (3, .int (nI 0))]) (by first | rfl | simp [vatN, bit, *]) ?_
          exact ih_6 (c + 1) ρ_2 (by omega) (by omega)
        · refine x_iload C d_Fo_valuesAsTold_33 1 rfl ?_
          refine x_iconst C d_Fo_valuesAsTold_35 (v := 1) (by decide) ?_
          refine x_iload C d_Fo_valuesAsTold_36 0 rfl ?_
          refine x_ishl C d_Fo_valuesAsTold_38 ?_
          refine x_ior C d_Fo_valuesAsTold_39 ?_
          refine x_istore C d_Fo_valuesAsTold_40 (by decide) (lv' := [(4, .int ((vatN (fun v_ => gatN (g (12 + s)) (upd (g 0) (pI p 0) (nI v_)) p L) (c)) ||| (1 <<< ((nI c) &&& 31)))), (5, .int (nI c)), (0, .ref (Z.2.1 (1))), (1, .ref (Z.2.1 (5 + s))), (2, .int (nI p)), (3, .int (nI 0))]) rfl ?_
          refine x_iinc C d_Fo_valuesAsTold_42 1 rfl (v := nI (c + 1)) (nI_1 _) (by decide) (lv' := [(5, .int (nI (c + 1))), (4, .int ((vatN (fun v_ => gatN (g (12 + s)) (upd (g 0) (pI p 0) (nI v_)) p L) (c)) ||| (1 <<< ((nI c) &&& 31)))), (0, .ref (Z.2.1 (1))), (1, .ref (Z.2.1 (5 + s))), (2, .int (nI p)), (3, .int (nI 0))]) rfl ?_
          refine x_goto C d_Fo_valuesAsTold_45 6 (by decide) ?_
          refine x_lve (lv' := [(5, .int (nI (c + 1))), (4, .int (vatN (fun v_ => gatN (g (12 + s)) (upd (g 0) (pI p 0) (nI v_)) p L) (c + 1))), (0, .ref (Z.2.1 (1))), (1, .ref (Z.2.1 (5 + s))), (2, .int (nI p)), (3, .int (nI 0))]) (by first | rfl | simp [vatN, bit, *]) ?_
          exact ih_6 (c + 1) ρ_2 (by omega) (by omega)
  refine x_lve (lv' := [(5, .int (nI 0)), (4, .int (vatN (fun v_ => gatN (g (12 + s)) (upd (g 0) (pI p 0) (nI v_)) p L) (0))), (0, .ref (Z.2.1 (1))), (1, .ref (Z.2.1 (5 + s))), (2, .int (nI p)), (3, .int (nI 0))]) rfl ?_
  refine x_eqg (g' := va_up g 1 (g 1)) (va_id g 1).symm ?_
  exact LP_6 (7 + 1) 0 (g 1) (Nat.zero_le _) (by omega)

set_option maxRecDepth 100000 in
set_option maxHeartbeats 600000 in
theorem c_Sh_giveSeasons (Z : ZT) (s L : Nat) (hs : s < 4) (hL4 : L ≤ 40) (g : St)  (hk : okR (g 0)) (hL : g (8 + s) 1 = nI L) : CT yC Z y_Sh_giveSeasons b_Sh_giveSeasons 3 (some (.int)) 1 21 [.ref (Z.2.1 (5 + s)), .ref (Z.2.1 (14 + 12 * 0))] (g) (QcI yC Z (nI (gvF (g (12 + s)) (min L (sz (g 0))) 0)) (va_up g 0 (gvN (g (12 + s)) (g 0) (gvF (g (12 + s)) (min L (sz (g 0))) 0)))) := by
  refine CT.mk "TunnelPeace$Sheet" (by decide) rfl (Nat.le_of_ble_eq_true rfl) (fun X C => ?_)
  refine x_lv [0, 1] (lv' := [(0, .ref (Z.2.1 (5 + s))), (1, .ref (Z.2.1 (14 + 12 * 0)))]) rfl ?_
  have hk0 := hk
  obtain ⟨⟨n, hn8, hn⟩, dd, hdd, hd⟩ := hk
  obtain ⟨N, hN⟩ : ∃ N, min L (sz (g 0)) = N := ⟨_, rfl⟩
  have hN2 : N = min L n := by rw [← hN, sz_of hn hn8]
  refine x_iconst C d_Sh_giveSeasons_0 (v := 0) (by decide) ?_
  refine x_topi (show (0 : Int32) = nI 0 by decide) ?_
  refine x_istore_n C d_Sh_giveSeasons_1 rfl (by decide) (lv' := [(2, .int (nI 0)), (0, .ref (Z.2.1 (5 + s))), (1, .ref (Z.2.1 (14 + 12 * 0)))]) rfl ?_
  have LP_2 : ∀ (f_ i : Nat), i ≤ N → N - i < f_ → (gvF (g (12 + s)) N 0 = gvF (g (12 + s)) (N - i) i) → WX X 3 yC Z (QX X yC Z (QcI yC Z (nI (gvF (g (12 + s)) (min L (sz (g 0))) 0)) (va_up g 0 (gvN (g (12 + s)) (g 0) (gvF (g (12 + s)) (min L (sz (g 0))) 0))))) (va_up g 0 (gvN (g (12 + s)) (g 0) (i))) 2 [(2, .int (nI i)), (0, .ref (Z.2.1 (5 + s))), (1, .ref (Z.2.1 (14 + 12 * 0)))] [] := by
    intro f_
    induction f_ with
    | zero => intro i h1_ h2_ _; exact absurd h2_ (Nat.not_lt_zero _)
    | succ f_ ih_2 =>
      intro i hi_2 hf_2 hy_2
      refine x_iload_n C d_Sh_giveSeasons_2 0 rfl rfl ?_
      refine x_aload_n C d_Sh_giveSeasons_3 1 rfl rfl ?_
      refine gf_Sh_length C (by omega) (v := nI L) (Eq.trans (congrFun (va_up_ne _ _ (by omega)) _) hL) k_152 d_Sh_giveSeasons_4 ?_
      refine x_icmp_ge C d_Sh_giveSeasons_7 56 (by decide) (fun c_1 => ?_) (fun c_1 => ?_)
      · have nc_1 := Int32.not_lt.mpr c_1
        have mc_1 : L ≤ i := (nI_leI (by omega) (by omega)).mp (show nI L ≤ nI i from c_1)
        refine x_iload_n C d_Sh_giveSeasons_56 0 rfl rfl ?_
        exact x_iret C (by rw [hN, hy_2]; first | rw [gv_end (by omega)] | rw [gv_bad (by omega) (by assumption)]) (by rw [hN, hy_2]; first | rw [gv_end (by omega)] | rw [gv_bad (by omega) (by assumption)]) d_Sh_giveSeasons_57
      · have nc_1 := Int32.not_le.mp c_1
        have mc_1 : ¬ L ≤ i := fun z_ => (show ¬ nI L ≤ nI i from c_1) ((nI_leI (by omega) (by omega)).mpr z_)
        refine x_aload_n C d_Sh_giveSeasons_10 2 rfl rfl ?_
        refine x_iload_n C d_Sh_giveSeasons_11 0 rfl rfl ?_
        refine x_callVi C (c_Tu_has Z 0 (by omega) (nI i) (va_up g 0 (gvN (g (12 + s)) (g 0) (i))) _ (Eq.trans (Eq.trans (congrFun (va_up_self _ _ _) _) (gvN_hd (by decide))) hn)) mi_Tu_has k_736 (show 14 + 12 * 0 < 50 by omega) (e_Tu Z 0 _) rfl (As := [.int (nI i)]) ⟨Nat.le_of_ble_eq_true rfl, Nat.le_of_ble_eq_true rfl⟩ rfl rfl (Nat.le_of_ble_eq_true rfl) d_Sh_giveSeasons_12 ?_
        refine x_ifeqB C d_Sh_giveSeasons_15 56 (by decide) (fun c_2 => ?_) (fun c_2 => ?_)
        · have mc_2 := has_f c_2 (by omega) (by omega)
          refine x_iload_n C d_Sh_giveSeasons_56 0 rfl rfl ?_
          exact x_iret C (by rw [hN, hy_2]; first | rw [gv_end (by omega)] | rw [gv_bad (by omega) (by assumption)]) (by rw [hN, hy_2]; first | rw [gv_end (by omega)] | rw [gv_bad (by omega) (by assumption)]) d_Sh_giveSeasons_57
        · have mc_2 := has_t c_2 (by omega) (by omega)
          refine x_aload_n C d_Sh_giveSeasons_18 1 rfl rfl ?_
          refine gf_Sh_numbers C (by omega) k_155 d_Sh_giveSeasons_19 ?_
          refine x_iload_n C d_Sh_giveSeasons_22 0 rfl rfl ?_
          refine al_nu C (by omega) i (v := (g (12 + s)) i) rfl (by omega) (congrFun (va_up_ne _ _ (by omega)) _) d_Sh_giveSeasons_23 ?_
          refine x_getst0N C (List.mem_of_getElem? (i := 5) rfl) d_Sh_giveSeasons_24 ?_
          refine x_iconst C d_Sh_giveSeasons_27 (v := 3) (by decide) ?_
          refine x_stld0 C 3 (by decide) (by decide) rfl d_Sh_giveSeasons_28 ?_
          refine x_callNi C (c_TP_within Z ((g (12 + s)) i) 99 (va_up g 0 (gvN (g (12 + s)) (g 0) (i)))) mi_TP_within (List.mem_of_getElem? (i := 4) rfl) (As := [.int ((g (12 + s)) i), .int (99)]) ⟨Nat.le_of_ble_eq_true rfl, Nat.le_of_ble_eq_true rfl⟩ rfl rfl (Nat.le_of_ble_eq_true rfl) d_Sh_giveSeasons_29 ?_
          refine x_ifeqB C d_Sh_giveSeasons_32 56 (by decide) (fun c_3 => ?_) (fun c_3 => ?_)
          · refine x_iload_n C d_Sh_giveSeasons_56 0 rfl rfl ?_
            exact x_iret C (by rw [hN, hy_2]; first | rw [gv_end (by omega)] | rw [gv_bad (by omega) (by assumption)]) (by rw [hN, hy_2]; first | rw [gv_end (by omega)] | rw [gv_bad (by omega) (by assumption)]) d_Sh_giveSeasons_57
          · refine x_aload_n C d_Sh_giveSeasons_35 2 rfl rfl ?_
            refine gf_Tu_people C (by omega) k_84 d_Sh_giveSeasons_36 ?_
            refine x_iload_n C d_Sh_giveSeasons_39 0 rfl rfl ?_
            refine al_pp C (by omega) i rfl (by omega) d_Sh_giveSeasons_40 ?_
            refine x_aload_n C d_Sh_giveSeasons_41 1 rfl rfl ?_
            refine gf_Sh_numbers C (by omega) k_155 d_Sh_giveSeasons_42 ?_
            refine x_iload_n C d_Sh_giveSeasons_45 0 rfl rfl ?_
            refine al_nu C (by omega) i (v := (g (12 + s)) i) rfl (by omega) (congrFun (va_up_ne _ _ (by omega)) _) d_Sh_giveSeasons_46 ?_
            refine pf_Pe_season C (by omega) (by omega) (v := (g (12 + s)) i) (G := va_up g 0 (upd (gvN (g (12 + s)) (g 0) (i)) (pI i 3) ((g (12 + s)) i))) up_va k_45 d_Sh_giveSeasons_47 ?_
            refine x_iinc C d_Sh_giveSeasons_50 0 rfl (v := nI (i + 1)) (nI_1 _) (by decide) (lv' := [(2, .int (nI (i + 1))), (0, .ref (Z.2.1 (5 + s))), (1, .ref (Z.2.1 (14 + 12 * 0)))]) rfl ?_
            refine x_goto C d_Sh_giveSeasons_53 2 (by decide) ?_
            refine x_eqg (g' := va_up g 0 (gvN (g (12 + s)) (g 0) (i + 1))) rfl ?_
            exact ih_2 (i + 1) (by omega) (by omega) (hy_2.trans (gv_s (by omega) (by assumption)))
  refine x_eqg (g' := va_up g 0 (gvN (g (12 + s)) (g 0) (0))) (va_id g 0).symm ?_
  exact LP_2 (N + 1) 0 (Nat.zero_le _) (by omega) rfl

set_option maxRecDepth 100000 in
set_option maxHeartbeats 600000 in
theorem c_Sh_firstWrongCell (Z : ZT) (s L : Nat) (hs : s < 4) (hL4 : L ≤ 40) (g : St)  (hk : okR (g 0)) (hL : g (8 + s) 1 = nI L) : CT yC Z y_Sh_firstWrongCell b_Sh_firstWrongCell 3 (some (.int)) 1 21 [.ref (Z.2.1 (5 + s)), .ref (Z.2.1 (14 + 12 * 0))] (g) (QcI yC Z (oI (fdo (fun i_ => !(decide (i_ < sz (g 0)) && decide (g 0 (pI i_ 2) = g (12 + s) i_))) L 0)) (g)) := by
  refine CT.mk "TunnelPeace$Sheet" (by decide) rfl (Nat.le_of_ble_eq_true rfl) (fun X C => ?_)
  refine x_lv [0, 1] (lv' := [(0, .ref (Z.2.1 (5 + s))), (1, .ref (Z.2.1 (14 + 12 * 0)))]) rfl ?_
  have hk0 := hk
  obtain ⟨⟨n, hn8, hn⟩, dd, hdd, hd⟩ := hk
  have hsz := sz_of hn hn8
  refine x_iconst C d_Sh_firstWrongCell_0 (v := 0) (by decide) ?_
  refine x_topi (show (0 : Int32) = nI 0 by decide) ?_
  refine x_istore_n C d_Sh_firstWrongCell_1 rfl (by decide) (lv' := [(2, .int (nI 0)), (0, .ref (Z.2.1 (5 + s))), (1, .ref (Z.2.1 (14 + 12 * 0)))]) rfl ?_
  have LP_2 : ∀ (f_ i : Nat), i ≤ L → L - i < f_ → (fdo (fun i_ => !(decide (i_ < sz (g 0)) && decide (g 0 (pI i_ 2) = g (12 + s) i_))) L 0 = fdo (fun i_ => !(decide (i_ < sz (g 0)) && decide (g 0 (pI i_ 2) = g (12 + s) i_))) (L - i) i) → WX X 3 yC Z (QX X yC Z (QcI yC Z (oI (fdo (fun i_ => !(decide (i_ < sz (g 0)) && decide (g 0 (pI i_ 2) = g (12 + s) i_))) L 0)) (g))) (g) 2 [(2, .int (nI i)), (0, .ref (Z.2.1 (5 + s))), (1, .ref (Z.2.1 (14 + 12 * 0)))] [] := by
    intro f_
    induction f_ with
    | zero => intro i h1_ h2_ _; exact absurd h2_ (Nat.not_lt_zero _)
    | succ f_ ih_2 =>
      intro i hi_2 hf_2 hy_2
      refine x_iload_n C d_Sh_firstWrongCell_2 0 rfl rfl ?_
      refine x_aload_n C d_Sh_firstWrongCell_3 1 rfl rfl ?_
      refine gf_Sh_length C (by omega) (v := nI L) hL k_152 d_Sh_firstWrongCell_4 ?_
      refine x_icmp_ge C d_Sh_firstWrongCell_7 44 (by decide) (fun c_1 => ?_) (fun c_1 => ?_)
      · have nc_1 := Int32.not_lt.mpr c_1
        have mc_1 : L ≤ i := (nI_leI (by omega) (by omega)).mp (show nI L ≤ nI i from c_1)
        have e_i : L = i := by omega
        subst e_i
        refine x_iconst C d_Sh_firstWrongCell_44 (v := -1) (by decide) ?_
        exact x_iret C (by rw [hy_2, Nat.sub_self]; rfl) rfl d_Sh_firstWrongCell_45
      · have nc_1 := Int32.not_le.mp c_1
        have mc_1 : ¬ L ≤ i := fun z_ => (show ¬ nI L ≤ nI i from c_1) ((nI_leI (by omega) (by omega)).mpr z_)
        refine x_aload_n C d_Sh_firstWrongCell_10 2 rfl rfl ?_
        refine x_iload_n C d_Sh_firstWrongCell_11 0 rfl rfl ?_
        refine x_callVi C (c_Tu_has Z 0 (by omega) (nI i) (g) _ hn) mi_Tu_has k_736 (show 14 + 12 * 0 < 50 by omega) (e_Tu Z 0 _) rfl (As := [.int (nI i)]) ⟨Nat.le_of_ble_eq_true rfl, Nat.le_of_ble_eq_true rfl⟩ rfl rfl (Nat.le_of_ble_eq_true rfl) d_Sh_firstWrongCell_12 ?_
        refine x_ifeqB C d_Sh_firstWrongCell_15 36 (by decide) (fun c_2 => ?_) (fun c_2 => ?_)
        · have mc_2 := has_f c_2 (by omega) (by omega)
          refine x_iload_n C d_Sh_firstWrongCell_36 0 rfl rfl ?_
          exact x_iret C (by rw [hy_2, fdo_t (by omega) (by simp; omega)]; rfl) rfl d_Sh_firstWrongCell_37
        · have mc_2 := has_t c_2 (by omega) (by omega)
          refine x_aload_n C d_Sh_firstWrongCell_18 2 rfl rfl ?_
          refine gf_Tu_people C (by omega) k_84 d_Sh_firstWrongCell_19 ?_
          refine x_iload_n C d_Sh_firstWrongCell_22 0 rfl rfl ?_
          refine al_pp C (by omega) i rfl (by omega) d_Sh_firstWrongCell_23 ?_
          refine gf_Pe_cell C (by omega) (by omega) (v := g 0 (pI i 2)) rfl k_42 d_Sh_firstWrongCell_24 ?_
          refine x_aload_n C d_Sh_firstWrongCell_27 1 rfl rfl ?_
          refine gf_Sh_numbers C (by omega) k_155 d_Sh_firstWrongCell_28 ?_
          refine x_iload_n C d_Sh_firstWrongCell_31 0 rfl rfl ?_
          refine al_nu C (by omega) i (v := (g (12 + s)) i) rfl (by omega) rfl d_Sh_firstWrongCell_32 ?_
          refine x_icmp_eq C d_Sh_firstWrongCell_33 38 (by decide) (fun c_3 => ?_) (fun c_3 => ?_)
          · refine x_iinc C d_Sh_firstWrongCell_38 0 rfl (v := nI (i + 1)) (nI_1 _) (by decide) (lv' := [(2, .int (nI (i + 1))), (0, .ref (Z.2.1 (5 + s))), (1, .ref (Z.2.1 (14 + 12 * 0)))]) rfl ?_
            refine x_goto C d_Sh_firstWrongCell_41 2 (by decide) ?_
            exact ih_2 (i + 1) (by omega) (by omega) (hy_2.trans (fdo_n (by omega) (by first | (simp [*]; done) | (simp [*]; omega))))
          · have nc_3 := Ne.symm c_3
            refine x_iload_n C d_Sh_firstWrongCell_36 0 rfl rfl ?_
            exact x_iret C (by rw [hy_2, fdo_t (by omega) (by simp [*])]; rfl) rfl d_Sh_firstWrongCell_37
  exact LP_2 (L + 1) 0 (Nat.zero_le _) (by omega) rfl
