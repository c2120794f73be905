set_option maxRecDepth 100000 in
set_option maxHeartbeats 600000 in
theorem c_Mo_isSo (Z : ZT) (s k L : Nat) (hs : s < 4) (hk6 : k < 68) (hL4 : L ≤ 40) (g : St)  (r nu : Nat → Int32) (hr : g 0 = r) (hk : okR r) (hnu : nuM (g 10) s = nu) (hL : g 9 s = nI L) : CT yM Z y_Mo_isSo b_Mo_isSo 6 (some (.boolean)) 5 112 [.ref (Z.2.1 (0)), .int (nI s), .int (nI k)] (g) (QkI yM Z (bI (gatM nu r k L = true)) (fun u => ∃ ρ : Nat → Int32, u = va_up g 2 ρ)) := by
  refine CT.mk "TunnelPeaceModel" (by decide) rfl (Nat.le_of_ble_eq_true rfl) (fun X C => ?_)
  refine x_lv [0, 1, 2] (lv' := [(0, .ref (Z.2.1 (0))), (1, .int (nI s)), (2, .int (nI k))]) rfl ?_
  subst hr
  subst hnu
  have hk0 := hk
  refine x_aload_n C d_Mo_isSo_0 0 rfl rfl ?_
  refine gf_Mo_now C k_791 d_Mo_isSo_1 ?_
  refine x_aload_n C d_Mo_isSo_4 0 rfl rfl ?_
  refine gf_Mo_aside C k_793 d_Mo_isSo_5 ?_
  refine x_callSv C (c_Mo_copyRow_02 Z (g) _ _ rfl rfl) mi_Mo_copyRow k_1021 (As := [.ref (Z.2.1 (1)), .ref (Z.2.1 (3))]) ⟨Nat.le_of_ble_eq_true rfl, Nat.le_of_ble_eq_true rfl⟩ rfl rfl (Nat.le_of_ble_eq_true rfl) d_Mo_isSo_8 ?_
  refine x_iconst C d_Mo_isSo_11 (v := 1) (by decide) ?_
  refine x_istore_n C d_Mo_isSo_12 rfl (by decide) (lv' := [(3, .int (1)), (0, .ref (Z.2.1 (0))), (1, .int (nI s)), (2, .int (nI k))]) rfl ?_
  refine x_iconst C d_Mo_isSo_13 (v := 0) (by decide) ?_
  refine x_topi (show (0 : Int32) = nI 0 by decide) ?_
  refine x_istore C d_Mo_isSo_14 (by decide) (lv' := [(4, .int (nI 0)), (3, .int (1)), (0, .ref (Z.2.1 (0))), (1, .int (nI s)), (2, .int (nI k))]) rfl ?_
  have LP_16 : ∀ (f_ i : Nat), i ≤ L → L - i < f_ → (gatM (nuM (g 10) s) (g 0) k i = true) → WX X 6 yM Z (QX X yM Z (QkI yM Z (bI (gatM (nuM (g 10) s) (g 0) k L = true)) (fun u => ∃ ρ : Nat → Int32, u = va_up g 2 ρ))) (va_up (va_up g 2 (c68 (g 0) (g 2))) 0 (dysM (g 0) (i))) 16 [(4, .int (nI i)), (3, .int (1)), (0, .ref (Z.2.1 (0))), (1, .int (nI s)), (2, .int (nI k))] [] := by
    intro f_
    induction f_ with
    | zero => intro i h1_ h2_ _; exact absurd h2_ (Nat.not_lt_zero _)
    | succ f_ ih_16 =>
      intro i hi_16 hf_16 hy_16
      refine x_iload C d_Mo_isSo_16 0 rfl ?_
      refine x_aload_n C d_Mo_isSo_18 2 rfl rfl ?_
      refine gf_Mo_sizes C k_808 d_Mo_isSo_19 ?_
      refine x_iload_n C d_Mo_isSo_22 3 rfl rfl ?_
      refine al_m_sizes C s (v := nI L) rfl (by first | omega | (simp only [pI]; omega)) (Eq.trans (congrFun (Eq.trans (va_up_ne _ _ (by omega)) (va_up_ne _ _ (by omega))) _) hL) d_Mo_isSo_23 ?_
      refine x_icmp_ge C d_Mo_isSo_24 78 (by decide) (fun c_1 => ?_) (fun c_1 => ?_)
      · have nc_1 := Int32.not_lt.mpr c_1
        have mc_1 : L ≤ i := (nI_leI (by omega) (by omega)).mp (show nI L ≤ nI i from c_1)
        refine x_aload_n C d_Mo_isSo_78 2 rfl rfl ?_
        refine gf_Mo_aside C k_793 d_Mo_isSo_79 ?_
        refine x_aload_n C d_Mo_isSo_82 2 rfl rfl ?_
        refine gf_Mo_now C k_791 d_Mo_isSo_83 ?_
        refine x_callSv C (c_Mo_copyRow_20 Z (va_up (va_up g 2 (c68 (g 0) (g 2))) 0 (dysM (g 0) (i))) _ _ (Eq.trans (va_up_ne _ _ (by omega)) (va_up_self _ _ _)) (va_up_self _ _ _)) mi_Mo_copyRow k_1021 (As := [.ref (Z.2.1 (3)), .ref (Z.2.1 (1))]) ⟨Nat.le_of_ble_eq_true rfl, Nat.le_of_ble_eq_true rfl⟩ rfl rfl (Nat.le_of_ble_eq_true rfl) d_Mo_isSo_86 ?_
        refine x_eqg (g' := va_up (va_up g 2 (c68 (g 0) (g 2))) 0 (c68 (c68 (g 0) (g 2)) (dysM (g 0) (i)))) (bx_uu _ _ _ _) ?_
        refine x_iload_n C d_Mo_isSo_89 1 rfl rfl ?_
        exact x_zretK C (by decide) (bI_t (by rw [show L = i by omega]; exact hy_16)).symm ⟨_, by rw [back_id (fun j hj => dysM_hi hk0 hj)]; exact va_idn (by decide)⟩ d_Mo_isSo_90
      · have nc_1 := Int32.not_le.mp c_1
        have mc_1 : ¬ L ≤ i := fun z_ => (show ¬ nI L ≤ nI i from c_1) ((nI_leI (by omega) (by omega)).mpr z_)
        refine x_iload_n C d_Mo_isSo_27 1 rfl rfl ?_
        refine x_ifeq C d_Mo_isSo_28 78 (by decide) (fun c_2 => ?_) (fun c_2 => ?_)
        · exact absurd c_2 (by decide)
        · refine x_aload_n C d_Mo_isSo_31 2 rfl rfl ?_
          refine gf_Mo_numbers C k_809 d_Mo_isSo_32 ?_
          refine x_bipush C d_Mo_isSo_35 (v := 40) (by decide) ?_
          refine x_iload_n C d_Mo_isSo_37 3 rfl rfl ?_
          refine x_imul C d_Mo_isSo_38 ?_
          refine x_topi (x' := nI (40 * s)) (pk_mul 40 _) ?_
          refine x_iload C d_Mo_isSo_39 0 rfl ?_
          refine x_iadd C d_Mo_isSo_41 ?_
          refine x_topi (x' := nI (40 * s + i)) (nI_add _ _) ?_
          refine al_m_numbers C (40 * s + i) (v := g 10 (40 * s + i)) rfl (by first | omega | (simp only [pI]; omega)) (congrFun (Eq.trans (va_up_ne _ _ (by omega)) (va_up_ne _ _ (by omega))) _) d_Mo_isSo_42 ?_
          refine x_istore C d_Mo_isSo_43 (by decide) (lv' := [(5, .int (g 10 (40 * s + i))), (4, .int (nI i)), (3, .int (1)), (0, .ref (Z.2.1 (0))), (1, .int (nI s)), (2, .int (nI k))]) rfl ?_
          refine x_aload_n C d_Mo_isSo_45 3 rfl rfl ?_
          refine x_callVv C (c_Mo_day Z (va_up (va_up g 2 (c68 (g 0) (g 2))) 0 (dysM (g 0) (i))) _ (va_up_self _ _ _) (okR_dysM hk0 _)) mi_Mo_day k_965 (show 0 < 12 by omega) (m_0 Z _) rfl (As := []) ⟨Nat.le_of_ble_eq_true rfl, Nat.le_of_ble_eq_true rfl⟩ rfl rfl (Nat.le_of_ble_eq_true rfl) d_Mo_isSo_46 ?_
          refine x_eqg (g' := va_up (va_up g 2 (c68 (g 0) (g 2))) 0 (dysM (g 0) (i + 1))) (bx_uu _ _ _ _) ?_
          refine x_iload C d_Mo_isSo_49 0 rfl ?_
          refine x_iconst C d_Mo_isSo_51 (v := -1) (by decide) ?_
          refine x_icmp_eq C d_Mo_isSo_52 66 (by decide) (fun c_3 => ?_) (fun c_3 => ?_)
          · refine x_iconst C d_Mo_isSo_66 (v := 1) (by decide) ?_
            refine x_goto C d_Mo_isSo_67 71 (by decide) ?_
            refine x_istore_n C d_Mo_isSo_71 rfl (by decide) (lv' := [(3, .int (1)), (5, .int (g 10 (40 * s + i))), (4, .int (nI i)), (0, .ref (Z.2.1 (0))), (1, .int (nI s)), (2, .int (nI k))]) rfl ?_
            refine x_iinc C d_Mo_isSo_72 2 rfl (v := nI (i + 1)) (nI_1 _) (by decide) (lv' := [(4, .int (nI (i + 1))), (3, .int (1)), (5, .int (g 10 (40 * s + i))), (0, .ref (Z.2.1 (0))), (1, .int (nI s)), (2, .int (nI k))]) rfl ?_
            refine x_goto C d_Mo_isSo_75 16 (by decide) ?_
            refine x_lv [0, 1, 3, 4, 5] (lv' := [(4, .int (nI (i + 1))), (3, .int (1)), (0, .ref (Z.2.1 (0))), (1, .int (nI s)), (2, .int (nI k))]) rfl ?_
            exact ih_16 (i + 1) (by omega) (by omega) (gatM_s hy_16 (by first | exact Or.inl (by assumption) | exact Or.inr (by assumption)))
          · have nc_3 := Ne.symm c_3
            refine x_iload C d_Mo_isSo_55 0 rfl ?_
            refine x_aload_n C d_Mo_isSo_57 3 rfl rfl ?_
            refine gf_Mo_now C k_791 d_Mo_isSo_58 ?_
            refine x_iload_n C d_Mo_isSo_61 5 rfl rfl ?_
            refine al_m_now C k (v := (dysM (g 0) (i + 1)) k) rfl (by first | omega | (simp only [pI]; omega)) (congrFun (va_up_self _ _ _) _) d_Mo_isSo_62 ?_
            refine x_icmp_ne C d_Mo_isSo_63 70 (by decide) (fun c_4 => ?_) (fun c_4 => ?_)
            · have nc_4 := Ne.symm c_4
              refine x_iconst C d_Mo_isSo_70 (v := 0) (by decide) ?_
              refine x_istore_n C d_Mo_isSo_71 rfl (by decide) (lv' := [(3, .int (0)), (5, .int (g 10 (40 * s + i))), (4, .int (nI i)), (0, .ref (Z.2.1 (0))), (1, .int (nI s)), (2, .int (nI k))]) rfl ?_
              refine x_iinc C d_Mo_isSo_72 2 rfl (v := nI (i + 1)) (nI_1 _) (by decide) (lv' := [(4, .int (nI (i + 1))), (3, .int (0)), (5, .int (g 10 (40 * s + i))), (0, .ref (Z.2.1 (0))), (1, .int (nI s)), (2, .int (nI k))]) rfl ?_
              refine x_goto C d_Mo_isSo_75 16 (by decide) ?_
              refine x_iload C d_Mo_isSo_16 0 rfl ?_
              refine x_aload_n C d_Mo_isSo_18 3 rfl rfl ?_
              refine gf_Mo_sizes C k_808 d_Mo_isSo_19 ?_
              refine x_iload_n C d_Mo_isSo_22 4 rfl rfl ?_
              refine al_m_sizes C s (v := nI L) rfl (by first | omega | (simp only [pI]; omega)) (Eq.trans (congrFun (Eq.trans (va_up_ne _ _ (by omega)) (va_up_ne _ _ (by omega))) _) hL) d_Mo_isSo_23 ?_
              refine x_icmp_ge C d_Mo_isSo_24 78 (by decide) (fun c_5 => ?_) (fun c_5 => ?_)
              · have nc_5 := Int32.not_lt.mpr c_5
                have mc_5 : L ≤ i + 1 := (nI_leI (by omega) (by omega)).mp (show nI L ≤ nI (i + 1) from c_5)
                refine x_aload_n C d_Mo_isSo_78 3 rfl rfl ?_
                refine gf_Mo_aside C k_793 d_Mo_isSo_79 ?_
                refine x_aload_n C d_Mo_isSo_82 3 rfl rfl ?_
                refine gf_Mo_now C k_791 d_Mo_isSo_83 ?_
                refine x_callSv C (c_Mo_copyRow_20 Z (va_up (va_up g 2 (c68 (g 0) (g 2))) 0 (dysM (g 0) (i + 1))) _ _ (Eq.trans (va_up_ne _ _ (by omega)) (va_up_self _ _ _)) (va_up_self _ _ _)) mi_Mo_copyRow k_1021 (As := [.ref (Z.2.1 (3)), .ref (Z.2.1 (1))]) ⟨Nat.le_of_ble_eq_true rfl, Nat.le_of_ble_eq_true rfl⟩ rfl rfl (Nat.le_of_ble_eq_true rfl) d_Mo_isSo_86 ?_
                refine x_eqg (g' := va_up (va_up g 2 (c68 (g 0) (g 2))) 0 (c68 (c68 (g 0) (g 2)) (dysM (g 0) (i + 1)))) (bx_uu _ _ _ _) ?_
                refine x_iload_n C d_Mo_isSo_89 1 rfl rfl ?_
                exact x_zretK C (by decide) (bI_f (by rw [gatM_f (i := i) (by omega) (by assumption) (by assumption)]; decide)).symm ⟨_, by rw [back_id (fun j hj => dysM_hi hk0 hj)]; exact va_idn (by decide)⟩ d_Mo_isSo_90
              · have nc_5 := Int32.not_le.mp c_5
                have mc_5 : ¬ L ≤ i + 1 := fun z_ => (show ¬ nI L ≤ nI (i + 1) from c_5) ((nI_leI (by omega) (by omega)).mpr z_)
                refine x_iload_n C d_Mo_isSo_27 1 rfl rfl ?_
                refine x_ifeq C d_Mo_isSo_28 78 (by decide) (fun c_6 => ?_) (fun c_6 => ?_)
                · refine x_aload_n C d_Mo_isSo_78 3 rfl rfl ?_
                  refine gf_Mo_aside C k_793 d_Mo_isSo_79 ?_
                  refine x_aload_n C d_Mo_isSo_82 3 rfl rfl ?_
                  refine gf_Mo_now C k_791 d_Mo_isSo_83 ?_
                  refine x_callSv C (c_Mo_copyRow_20 Z (va_up (va_up g 2 (c68 (g 0) (g 2))) 0 (dysM (g 0) (i + 1))) _ _ (Eq.trans (va_up_ne _ _ (by omega)) (va_up_self _ _ _)) (va_up_self _ _ _)) mi_Mo_copyRow k_1021 (As := [.ref (Z.2.1 (3)), .ref (Z.2.1 (1))]) ⟨Nat.le_of_ble_eq_true rfl, Nat.le_of_ble_eq_true rfl⟩ rfl rfl (Nat.le_of_ble_eq_true rfl) d_Mo_isSo_86 ?_
                  refine x_eqg (g' := va_up (va_up g 2 (c68 (g 0) (g 2))) 0 (c68 (c68 (g 0) (g 2)) (dysM (g 0) (i + 1)))) (bx_uu _ _ _ _) ?_
                  refine x_iload_n C d_Mo_isSo_89 1 rfl rfl ?_
                  exact x_zretK C (by decide) (bI_f (by rw [gatM_f (i := i) (by omega) (by assumption) (by assumption)]; decide)).symm ⟨_, by rw [back_id (fun j hj => dysM_hi hk0 hj)]; exact va_idn (by decide)⟩ d_Mo_isSo_90
                · exact absurd c_6 (by decide)
            · refine x_iconst C d_Mo_isSo_66 (v := 1) (by decide) ?_
              refine x_goto C d_Mo_isSo_67 71 (by decide) ?_
              refine x_istore_n C d_Mo_isSo_71 rfl (by decide) (lv' := [(3, .int (1)), (5, .int (g 10 (40 * s + i))), (4, .int (nI i)), (0, .ref (Z.2.1 (0))), (1, .int (nI s)), (2, .int (nI k))]) rfl ?_
              refine x_iinc C d_Mo_isSo_72 2 rfl (v := nI (i + 1)) (nI_1 _) (by decide) (lv' := [(4, .int (nI (i + 1))), (3, .int (1)), (5, .int (g 10 (40 * s + i))), (0, .ref (Z.2.1 (0))), (1, .int (nI s)), (2, .int (nI k))]) rfl ?_
              refine x_goto C d_Mo_isSo_75 16 (by decide) ?_
              refine x_lv [0, 1, 3, 4, 5] (lv' := [(4, .int (nI (i + 1))), (3, .int (1)), (0, .ref (Z.2.1 (0))), (1, .int (nI s)), (2, .int (nI k))]) rfl ?_
              exact ih_16 (i + 1) (by omega) (by omega) (gatM_s hy_16 (by first | exact Or.inl (by assumption) | exact Or.inr (by assumption)))
  refine x_eqg (g' := va_up (va_up g 2 (c68 (g 0) (g 2))) 0 (dysM (g 0) (0))) (va_idn (by decide)).symm ?_
  exact LP_16 (L + 1) 0 (Nat.zero_le _) (by omega) rfl

set_option maxRecDepth 100000 in
set_option maxHeartbeats 600000 in
theorem c_Mo_fitting (Z : ZT) (s k a N L : Nat) (hs : s < 4) (hk6 : k < 68) (ha2 : 2 ≤ a) (ha6 : a < 68) (hN : N < 2 ^ 31) (hL4 : L ≤ 40) (g : St)  (hk : okR (g 0)) (hL : g 9 s = nI L) : CT yM Z y_Mo_fitting b_Mo_fitting 8 (some (.int)) 6 137 [.ref (Z.2.1 (0)), .int (nI s), .int (nI k), .int (nI a), .int (nI N)] (g) (QkI yM Z (vatN (fun v_ => gatM (nuM (g 10) s) (upd (g 0) a (nI v_)) k L) N) (fun u => ∃ ρ : Nat → Int32, u = va_up g 2 ρ)) := by
  refine CT.mk "TunnelPeaceModel" (by decide) rfl (Nat.le_of_ble_eq_true rfl) (fun X C => ?_)
  refine x_lv [0, 1, 2, 3, 4] (lv' := [(0, .ref (Z.2.1 (0))), (1, .int (nI s)), (2, .int (nI k)), (3, .int (nI a)), (4, .int (nI N))]) rfl ?_
  have hk0 := hk
  refine x_aload_n C d_Mo_fitting_0 0 rfl rfl ?_
  refine gf_Mo_now C k_791 d_Mo_fitting_1 ?_
  refine x_iload_n C d_Mo_fitting_4 3 rfl rfl ?_
  refine al_m_now C a (v := g 0 a) rfl (by first | omega | (simp only [pI]; omega)) rfl d_Mo_fitting_5 ?_
  refine x_istore C d_Mo_fitting_6 (by decide) (lv' := [(5, .int (g 0 a)), (0, .ref (Z.2.1 (0))), (1, .int (nI s)), (2, .int (nI k)), (3, .int (nI a)), (4, .int (nI N))]) rfl ?_
  refine x_iconst C d_Mo_fitting_8 (v := 0) (by decide) ?_
  refine x_istore C d_Mo_fitting_9 (by decide) (lv' := [(6, .int (0)), (5, .int (g 0 a)), (0, .ref (Z.2.1 (0))), (1, .int (nI s)), (2, .int (nI k)), (3, .int (nI a)), (4, .int (nI N))]) rfl ?_
  refine x_iconst C d_Mo_fitting_11 (v := 0) (by decide) ?_
  refine x_topi (show (0 : Int32) = nI 0 by decide) ?_
  refine x_istore C d_Mo_fitting_12 (by decide) (lv' := [(7, .int (nI 0)), (6, .int (0)), (5, .int (g 0 a)), (0, .ref (Z.2.1 (0))), (1, .int (nI s)), (2, .int (nI k)), (3, .int (nI a)), (4, .int (nI N))]) rfl ?_
  have LP_14 : ∀ (f_ v : Nat) (ρ : Nat → Int32), v ≤ N → N - v < f_ → WX X 8 yM Z (QX X yM Z (QkI yM Z (vatN (fun v_ => gatM (nuM (g 10) s) (upd (g 0) a (nI v_)) k L) N) (fun u => ∃ ρ : Nat → Int32, u = va_up g 2 ρ))) (va_up (va_up g 0 (upd (g 0) a (cvl (g 0) a (v)))) 2 ρ) 14 [(7, .int (nI v)), (6, .int (vatN (fun v_ => gatM (nuM (g 10) s) (upd (g 0) a (nI v_)) k L) (v))), (5, .int (g 0 a)), (0, .ref (Z.2.1 (0))), (1, .int (nI s)), (2, .int (nI k)), (3, .int (nI a)), (4, .int (nI N))] [] := by
    intro f_
    induction f_ with
    | zero => intro v _ h1_ h2_; exact absurd h2_ (Nat.not_lt_zero _)
    | succ f_ ih_14 =>
      intro v ρ hi_14 hf_14
      refine x_iload C d_Mo_fitting_14 0 rfl ?_
      refine x_iload C d_Mo_fitting_16 7 rfl ?_
      refine x_icmp_ge C d_Mo_fitting_18 57 (by decide) (fun c_1 => ?_) (fun c_1 => ?_)
      · have nc_1 := Int32.not_lt.mpr c_1
        have mc_1 : N ≤ v := (nI_leI (by omega) (by omega)).mp (show nI N ≤ nI v from c_1)
        have e_v : N = v := by omega
        subst e_v
        refine x_aload_n C d_Mo_fitting_57 3 rfl rfl ?_
        refine gf_Mo_now C k_791 d_Mo_fitting_58 ?_
        refine x_iload_n C d_Mo_fitting_61 6 rfl rfl ?_
        refine x_iload C d_Mo_fitting_62 2 rfl ?_
        refine as_m_now C a (v := g 0 a) rfl (by first | omega | (simp only [pI]; omega)) (G := va_up (va_up g 2 ρ) 0 (upd (upd (g 0) a (cvl (g 0) a (N))) a (g 0 a))) (up_vb (by omega)) d_Mo_fitting_64 ?_
        refine x_iload C d_Mo_fitting_65 1 rfl ?_
        exact x_iretK C rfl ⟨_, by rw [upd_upd, upd_id]; exact va_idn (by decide)⟩ d_Mo_fitting_67
      · have nc_1 := Int32.not_le.mp c_1
        have mc_1 : ¬ N ≤ v := fun z_ => (show ¬ nI N ≤ nI v from c_1) ((nI_leI (by omega) (by omega)).mpr z_)
        refine x_aload_n C d_Mo_fitting_21 3 rfl rfl ?_
        refine gf_Mo_now C k_791 d_Mo_fitting_22 ?_
        refine x_iload_n C d_Mo_fitting_25 6 rfl rfl ?_
        refine x_iload C d_Mo_fitting_26 0 rfl ?_
        refine as_m_now C a (v := nI v) rfl (by first | omega | (simp only [pI]; omega)) (G := va_up (va_up g 2 ρ) 0 (upd (upd (g 0) a (cvl (g 0) a (v))) a (nI v))) (up_vb (by omega)) d_Mo_fitting_28 ?_
        refine x_iload C d_Mo_fitting_29 1 rfl ?_
        refine x_aload_n C d_Mo_fitting_31 3 rfl rfl ?_
        refine x_iload_n C d_Mo_fitting_32 4 rfl rfl ?_
        refine x_iload_n C d_Mo_fitting_33 5 rfl rfl ?_
        refine x_callVki C (c_Mo_isSo Z s k L (by omega) (by first | omega | (simp only [pI]; omega)) (by omega) (va_up (va_up g 2 ρ) 0 (upd (upd (g 0) a (cvl (g 0) a (v))) a (nI v))) _ _ (Eq.trans (va_up_self _ _ _) upd_upd) (okR_upd hk0 (by omega)) (congrArg (fun z => nuM z s) (Eq.trans (va_up_ne _ _ (by omega)) (va_up_ne _ _ (by omega)))) (by rw [va_up_ne _ _ (by decide), va_up_ne _ _ (by decide)]; exact hL)) mi_Mo_isSo k_1111 (show 0 < 12 by omega) (m_0 Z _) rfl (As := [.int (nI s), .int (nI k)]) ⟨Nat.le_of_ble_eq_true rfl, Nat.le_of_ble_eq_true rfl⟩ rfl rfl (Nat.le_of_ble_eq_true rfl) d_Mo_fitting_34 (fun u_ hu_ => ?_)
        obtain ⟨ρ_2, rfl⟩ := hu_
        refine x_eqg (g' := va_up (va_up g 0 (upd (upd (g 0) a (cvl (g 0) a (v))) a (nI v))) 2 ρ_2) (by rw [va_com (a := 2) (b := 0) (by decide), bx_uu]) ?_
        refine x_ifeqB C d_Mo_fitting_37 47 (by decide) (fun c_3 => ?_) (fun c_3 => ?_)
        · refine x_iconst C d_Mo_fitting_47 (v := 0) (by decide) ?_
          refine x_ior C d_Mo_fitting_48 ?_
          refine x_istore C d_Mo_fitting_49 (by decide) (lv' := [(6, .int ((vatN (fun v_ => gatM (nuM (g 10) s) (upd (g 0) a (nI v_)) k L) (v)) ||| 0)), (7, .int (nI v)), (5, .int (g 0 a)), (0, .ref (Z.2.1 (0))), (1, .int (nI s)), (2, .int (nI k)), (3, .int (nI a)), (4, .int (nI N))]) rfl ?_
          refine x_iinc C d_Mo_fitting_51 1 rfl (v := nI (v + 1)) (nI_1 _) (by decide) (lv' := [(7, .int (nI (v + 1))), (6, .int ((vatN (fun v_ => gatM (nuM (g 10) s) (upd (g 0) a (nI v_)) k L) (v)) ||| 0)), (5, .int (g 0 a)), (0, .ref (Z.2.1 (0))), (1, .int (nI s)), (2, .int (nI k)), (3, .int (nI a)), (4, .int (nI N))]) rfl ?_
          refine x_goto C d_Mo_fitting_54 14 (by decide) ?_
          refine x_lve (lv' := [(7, .int (nI (v + 1))), (6, .int (vatN (fun v_ => gatM (nuM (g 10) s) (upd (g 0) a (nI v_)) k L) (v + 1))), (5, .int (g 0 a)), (0, .ref (Z.2.1 (0))), (1, .int (nI s)), (2, .int (nI k)), (3, .int (nI a)), (4, .int (nI N))]) (by first | with_reducible rfl | simp [vatN, bit, *]) ?_
          refine x_eqg (g' := va_up (va_up g 0 (upd (g 0) a (cvl (g 0) a (v + 1)))) 2 ρ_2) (by simp only [upd_upd, cvl_s]) ?_
          exact ih_14 (v + 1) ρ_2 (by omega) (by omega)
        · refine x_iconst C d_Mo_fitting_40 (v := 1) (by decide) ?_
          refine x_iload C d_Mo_fitting_41 0 rfl ?_
          refine x_ishl C d_Mo_fitting_43 ?_
          refine x_goto C d_Mo_fitting_44 48 (by decide) ?_
          refine x_ior C d_Mo_fitting_48 ?_
          refine x_istore C d_Mo_fitting_49 (by decide) (lv' := [(6, .int ((vatN (fun v_ => gatM (nuM (g 10) s) (upd (g 0) a (nI v_)) k L) (v)) ||| (1 <<< ((nI v) &&& 31)))), (7, .int (nI v)), (5, .int (g 0 a)), (0, .ref (Z.2.1 (0))), (1, .int (nI s)), (2, .int (nI k)), (3, .int (nI a)), (4, .int (nI N))]) rfl ?_
          refine x_iinc C d_Mo_fitting_51 1 rfl (v := nI (v + 1)) (nI_1 _) (by decide) (lv' := [(7, .int (nI (v + 1))), (6, .int ((vatN (fun v_ => gatM (nuM (g 10) s) (upd (g 0) a (nI v_)) k L) (v)) ||| (1 <<< ((nI v) &&& 31)))), (5, .int (g 0 a)), (0, .ref (Z.2.1 (0))), (1, .int (nI s)), (2, .int (nI k)), (3, .int (nI a)), (4, .int (nI N))]) rfl ?_
          refine x_goto C d_Mo_fitting_54 14 (by decide) ?_
          refine x_lve (lv' := [(7, .int (nI (v + 1))), (6, .int (vatN (fun v_ => gatM (nuM (g 10) s) (upd (g 0) a (nI v_)) k L) (v + 1))), (5, .int (g 0 a)), (0, .ref (Z.2.1 (0))), (1, .int (nI s)), (2, .int (nI k)), (3, .int (nI a)), (4, .int (nI N))]) (by first | with_reducible rfl | simp [vatN, bit, *]) ?_
          refine x_eqg (g' := va_up (va_up g 0 (upd (g 0) a (cvl (g 0) a (v + 1)))) 2 ρ_2) (by simp only [upd_upd, cvl_s]) ?_
          exact ih_14 (v + 1) ρ_2 (by omega) (by omega)
  refine x_lve (lv' := [(7, .int (nI 0)), (6, .int (vatN (fun v_ => gatM (nuM (g 10) s) (upd (g 0) a (nI v_)) k L) (0))), (5, .int (g 0 a)), (0, .ref (Z.2.1 (0))), (1, .int (nI s)), (2, .int (nI k)), (3, .int (nI a)), (4, .int (nI N))]) rfl ?_
  refine x_eqg (g' := va_up (va_up g 0 (upd (g 0) a (cvl (g 0) a (0)))) 2 (g 2)) (by rw [show cvl (g 0) a 0 = g 0 a from rfl, upd_id, va_id, va_id]) ?_
  exact LP_14 (N + 1) 0 (g 2) (Nat.zero_le _) (by omega)

set_option maxRecDepth 100000 in
set_option maxHeartbeats 600000 in
theorem c_Mo_fits (Z : ZT) (s p : Int32) (g : St)  (hk : okR (g 0)) (hS : ∀ s, s < 4 → ∃ L, L ≤ 40 ∧ g 9 s = nI L) : CT yM Z y_Mo_fits b_Mo_fits 4 (some (.int)) 7 164 [.ref (Z.2.1 (0)), .int (s), .int (p)] (g) (QkI yM Z (if ¬ (0 ≤ s ∧ s ≤ 3) then (-1000001) else if g 8 s.toNatClampNeg = 0 then (-1000006) else if ¬ (0 ≤ p ∧ p < g 0 1) then (-1000001) else vatN (fun v_ => gatM (nuM (g 10) s.toNatClampNeg) (upd (g 0) (pI p.toNatClampNeg 2) (nI v_)) (pI p.toNatClampNeg 2) (g 9 s.toNatClampNeg).toNatClampNeg) 16) (fun u => ∃ ρ : Nat → Int32, u = va_up (if ¬ (0 ≤ s ∧ s ≤ 3) then va_up g 4 (mfnR (g 4) 0) else if g 8 s.toNatClampNeg = 0 then va_up g 4 (mfnR (g 4) 5) else if ¬ (0 ≤ p ∧ p < g 0 1) then va_up g 4 (mfnR (g 4) 0) else g) 2 ρ)) := by
  refine CT.mk "TunnelPeaceModel" (by decide) rfl (Nat.le_of_ble_eq_true rfl) (fun X C => ?_)
  refine x_lv [0, 1, 2] (lv' := [(0, .ref (Z.2.1 (0))), (1, .int (s)), (2, .int (p))]) rfl ?_
  have hk0 := hk
  obtain ⟨⟨n, hn8, hn⟩, dd, hdd, hd⟩ := hk
  by_cases t_1 : 0 ≤ s ∧ s ≤ 3
  · obtain ⟨sq, hsq, rfl⟩ := in_le (n := 3) t_1 (by decide)
    have hcs : (nI sq).toNatClampNeg = sq := nI_clamp (by omega)
    obtain ⟨L, hL4, hL⟩ := hS sq (by omega)
    have hcL : (nI L).toNatClampNeg = L := nI_clamp (by omega)
    by_cases t_2 : g 8 sq = 0
    · skip
      refine x_aload_n C d_Mo_fits_0 0 rfl rfl ?_
      refine x_iload_n C d_Mo_fits_1 1 rfl rfl ?_
      refine x_aload_n C d_Mo_fits_2 0 rfl rfl ?_
      refine x_iload_n C d_Mo_fits_3 2 rfl rfl ?_
      refine x_callVi C (c_Mo_isPerson Z p n (by omega) (g) hn) mi_Mo_isPerson k_907 (show 0 < 12 by omega) (m_0 Z _) rfl (As := [.int (p)]) ⟨Nat.le_of_ble_eq_true rfl, Nat.le_of_ble_eq_true rfl⟩ rfl rfl (Nat.le_of_ble_eq_true rfl) d_Mo_fits_4 ?_
      refine x_callVi C (c_Mo_lacks_b Z sq (by omega) (bI (0 ≤ p ∧ p < nI n)) (g) (by assumption)) mi_Mo_lacks k_1099 (show 0 < 12 by omega) (m_0 Z _) rfl (As := [.int (nI sq), .int (bI (0 ≤ p ∧ p < nI n))]) ⟨Nat.le_of_ble_eq_true rfl, Nat.le_of_ble_eq_true rfl⟩ rfl rfl (Nat.le_of_ble_eq_true rfl) d_Mo_fits_7 ?_
      refine x_istore_n C d_Mo_fits_10 rfl (by decide) (lv' := [(3, .int ((-1000006))), (0, .ref (Z.2.1 (0))), (1, .int (nI sq)), (2, .int (p))]) rfl ?_
      refine x_iload_n C d_Mo_fits_11 0 rfl rfl ?_
      refine x_ifeq C d_Mo_fits_12 23 (by decide) (fun c_3 => ?_) (fun c_3 => ?_)
      · exact absurd c_3 (by decide)
      · refine x_aload_n C d_Mo_fits_15 1 rfl rfl ?_
        refine x_iload_n C d_Mo_fits_16 0 rfl rfl ?_
        refine x_callVi C (c_Mo_finding_5 Z (g) _ rfl) mi_Mo_finding k_867 (show 0 < 12 by omega) (m_0 Z _) rfl (As := [.int ((-1000006))]) ⟨Nat.le_of_ble_eq_true rfl, Nat.le_of_ble_eq_true rfl⟩ rfl rfl (Nat.le_of_ble_eq_true rfl) d_Mo_fits_17 ?_
        refine x_goto C d_Mo_fits_20 40 (by decide) ?_
        exact x_iretK C (by first | with_reducible rfl | (simp [*, -hd]; done) | (simp [*]; done) | (simp_all; done)) (kfinM (G' := va_up g 4 (mfnR (g 4) 5)) (by first | with_reducible rfl | (simp [*, -hd]; done) | (simp [*]; done) | (simp_all; done)) (va_idn (by omega)).symm) d_Mo_fits_40
    · by_cases t_4 : 0 ≤ p ∧ p < g 0 1
      · obtain ⟨pq, hpq, rfl⟩ := in_of (by rw [← hn]; exact t_4) (by omega)
        have hcp : (nI pq).toNatClampNeg = pq := nI_clamp (by omega)
        skip
        refine x_aload_n C d_Mo_fits_0 0 rfl rfl ?_
        refine x_iload_n C d_Mo_fits_1 1 rfl rfl ?_
        refine x_aload_n C d_Mo_fits_2 0 rfl rfl ?_
        refine x_iload_n C d_Mo_fits_3 2 rfl rfl ?_
        refine x_callVi C (c_Mo_isPerson Z (nI pq) n (by omega) (g) hn) mi_Mo_isPerson k_907 (show 0 < 12 by omega) (m_0 Z _) rfl (As := [.int (nI pq)]) ⟨Nat.le_of_ble_eq_true rfl, Nat.le_of_ble_eq_true rfl⟩ rfl rfl (Nat.le_of_ble_eq_true rfl) d_Mo_fits_4 ?_
        refine x_topi (x' := 1) (bI_t (by first | assumption | (rw [← hn]; assumption))) ?_
        refine x_callVi C (c_Mo_lacks_c Z sq (by omega) (g) (by assumption)) mi_Mo_lacks k_1099 (show 0 < 12 by omega) (m_0 Z _) rfl (As := [.int (nI sq), .int (1)]) ⟨Nat.le_of_ble_eq_true rfl, Nat.le_of_ble_eq_true rfl⟩ rfl rfl (Nat.le_of_ble_eq_true rfl) d_Mo_fits_7 ?_
        refine x_istore_n C d_Mo_fits_10 rfl (by decide) (lv' := [(3, .int (0)), (0, .ref (Z.2.1 (0))), (1, .int (nI sq)), (2, .int (nI pq))]) rfl ?_
        refine x_iload_n C d_Mo_fits_11 0 rfl rfl ?_
        refine x_ifeq C d_Mo_fits_12 23 (by decide) (fun c_5 => ?_) (fun c_5 => ?_)
        · refine x_aload_n C d_Mo_fits_23 1 rfl rfl ?_
          refine x_iload_n C d_Mo_fits_24 2 rfl rfl ?_
          refine x_iload_n C d_Mo_fits_25 3 rfl rfl ?_
          refine x_iconst C d_Mo_fits_26 (v := 2) (by decide) ?_
          refine x_callSi C (c_Mo_personAt Z pq 2 (g)) mi_Mo_personAt k_897 (As := [.int (nI pq), .int (2)]) ⟨Nat.le_of_ble_eq_true rfl, Nat.le_of_ble_eq_true rfl⟩ rfl rfl (Nat.le_of_ble_eq_true rfl) d_Mo_fits_27 ?_
          refine x_iload_n C d_Mo_fits_30 3 rfl rfl ?_
          refine x_iconst C d_Mo_fits_31 (v := 2) (by decide) ?_
          refine x_callSi C (c_Mo_personAt Z pq 2 (g)) mi_Mo_personAt k_897 (As := [.int (nI pq), .int (2)]) ⟨Nat.le_of_ble_eq_true rfl, Nat.le_of_ble_eq_true rfl⟩ rfl rfl (Nat.le_of_ble_eq_true rfl) d_Mo_fits_32 ?_
          refine x_bipush C d_Mo_fits_35 (v := 16) (by decide) ?_
          refine x_callVki C (c_Mo_fitting Z sq (pI pq 2) (pI pq 2) 16 L (by omega) (by first | omega | (simp only [pI]; omega)) (by first | omega | (simp only [pI]; omega)) (by first | omega | (simp only [pI]; omega)) (by omega) (by omega) (g) hk0 hL) mi_Mo_fitting k_1107 (show 0 < 12 by omega) (m_0 Z _) rfl (As := [.int (nI sq), .int (nI (pI pq 2)), .int (nI (pI pq 2)), .int (16)]) ⟨Nat.le_of_ble_eq_true rfl, Nat.le_of_ble_eq_true rfl⟩ rfl rfl (Nat.le_of_ble_eq_true rfl) d_Mo_fits_37 (fun u_ hu_ => ?_)
          obtain ⟨ρ_6, rfl⟩ := hu_
          exact x_iretK C (by first | with_reducible rfl | (simp [*, -hd]; done) | (simp [*]; done) | (simp_all; done)) (kfinM (G' := g) (by first | with_reducible rfl | (simp [*, -hd]; done) | (simp [*]; done) | (simp_all; done)) rfl) d_Mo_fits_40
        · exact absurd c_5 (by decide)
      · skip
        refine x_aload_n C d_Mo_fits_0 0 rfl rfl ?_
        refine x_iload_n C d_Mo_fits_1 1 rfl rfl ?_
        refine x_aload_n C d_Mo_fits_2 0 rfl rfl ?_
        refine x_iload_n C d_Mo_fits_3 2 rfl rfl ?_
        refine x_callVi C (c_Mo_isPerson Z p n (by omega) (g) hn) mi_Mo_isPerson k_907 (show 0 < 12 by omega) (m_0 Z _) rfl (As := [.int (p)]) ⟨Nat.le_of_ble_eq_true rfl, Nat.le_of_ble_eq_true rfl⟩ rfl rfl (Nat.le_of_ble_eq_true rfl) d_Mo_fits_4 ?_
        refine x_topi (x' := 0) (bI_f (by first | assumption | (rw [← hn]; assumption))) ?_
        refine x_callVi C (c_Mo_lacks_d Z sq (by omega) (g) (by assumption)) mi_Mo_lacks k_1099 (show 0 < 12 by omega) (m_0 Z _) rfl (As := [.int (nI sq), .int (0)]) ⟨Nat.le_of_ble_eq_true rfl, Nat.le_of_ble_eq_true rfl⟩ rfl rfl (Nat.le_of_ble_eq_true rfl) d_Mo_fits_7 ?_
        refine x_istore_n C d_Mo_fits_10 rfl (by decide) (lv' := [(3, .int ((-1000001))), (0, .ref (Z.2.1 (0))), (1, .int (nI sq)), (2, .int (p))]) rfl ?_
        refine x_iload_n C d_Mo_fits_11 0 rfl rfl ?_
        refine x_ifeq C d_Mo_fits_12 23 (by decide) (fun c_7 => ?_) (fun c_7 => ?_)
        · exact absurd c_7 (by decide)
        · refine x_aload_n C d_Mo_fits_15 1 rfl rfl ?_
          refine x_iload_n C d_Mo_fits_16 0 rfl rfl ?_
          refine x_callVi C (c_Mo_finding_0 Z (g) _ rfl) mi_Mo_finding k_867 (show 0 < 12 by omega) (m_0 Z _) rfl (As := [.int ((-1000001))]) ⟨Nat.le_of_ble_eq_true rfl, Nat.le_of_ble_eq_true rfl⟩ rfl rfl (Nat.le_of_ble_eq_true rfl) d_Mo_fits_17 ?_
          refine x_goto C d_Mo_fits_20 40 (by decide) ?_
          exact x_iretK C (by first | with_reducible rfl | (simp [*, -hd]; done) | (simp [*]; done) | (simp_all; done)) (kfinM (G' := va_up g 4 (mfnR (g 4) 0)) (by first | with_reducible rfl | (simp [*, -hd]; done) | (simp [*]; done) | (simp_all; done)) (va_idn (by omega)).symm) d_Mo_fits_40
  · skip
    refine x_aload_n C d_Mo_fits_0 0 rfl rfl ?_
    refine x_iload_n C d_Mo_fits_1 1 rfl rfl ?_
    refine x_aload_n C d_Mo_fits_2 0 rfl rfl ?_
    refine x_iload_n C d_Mo_fits_3 2 rfl rfl ?_
    refine x_callVi C (c_Mo_isPerson Z p n (by omega) (g) hn) mi_Mo_isPerson k_907 (show 0 < 12 by omega) (m_0 Z _) rfl (As := [.int (p)]) ⟨Nat.le_of_ble_eq_true rfl, Nat.le_of_ble_eq_true rfl⟩ rfl rfl (Nat.le_of_ble_eq_true rfl) d_Mo_fits_4 ?_
    refine x_callVi C (c_Mo_lacks_a Z s (bI (0 ≤ p ∧ p < nI n)) (by assumption) (g)) mi_Mo_lacks k_1099 (show 0 < 12 by omega) (m_0 Z _) rfl (As := [.int (s), .int (bI (0 ≤ p ∧ p < nI n))]) ⟨Nat.le_of_ble_eq_true rfl, Nat.le_of_ble_eq_true rfl⟩ rfl rfl (Nat.le_of_ble_eq_true rfl) d_Mo_fits_7 ?_
    refine x_istore_n C d_Mo_fits_10 rfl (by decide) (lv' := [(3, .int ((-1000001))), (0, .ref (Z.2.1 (0))), (1, .int (s)), (2, .int (p))]) rfl ?_
    refine x_iload_n C d_Mo_fits_11 0 rfl rfl ?_
    refine x_ifeq C d_Mo_fits_12 23 (by decide) (fun c_8 => ?_) (fun c_8 => ?_)
    · exact absurd c_8 (by decide)
    · refine x_aload_n C d_Mo_fits_15 1 rfl rfl ?_
      refine x_iload_n C d_Mo_fits_16 0 rfl rfl ?_
      refine x_callVi C (c_Mo_finding_0 Z (g) _ rfl) mi_Mo_finding k_867 (show 0 < 12 by omega) (m_0 Z _) rfl (As := [.int ((-1000001))]) ⟨Nat.le_of_ble_eq_true rfl, Nat.le_of_ble_eq_true rfl⟩ rfl rfl (Nat.le_of_ble_eq_true rfl) d_Mo_fits_17 ?_
      refine x_goto C d_Mo_fits_20 40 (by decide) ?_
      exact x_iretK C (by first | with_reducible rfl | (simp [*, -hd]; done) | (simp [*]; done) | (simp_all; done)) (kfinM (G' := va_up g 4 (mfnR (g 4) 0)) (by first | with_reducible rfl | (simp [*, -hd]; done) | (simp [*]; done) | (simp_all; done)) (va_idn (by omega)).symm) d_Mo_fits_40

set_option maxRecDepth 100000 in
set_option maxHeartbeats 600000 in
theorem c_Mo_kinds (Z : ZT) (s p : Int32) (g : St)  (hk : okR (g 0)) (hS : ∀ s, s < 4 → ∃ L, L ≤ 40 ∧ g 9 s = nI L) : CT yM Z y_Mo_kinds b_Mo_kinds 4 (some (.int)) 7 164 [.ref (Z.2.1 (0)), .int (s), .int (p)] (g) (QkI yM Z (if ¬ (0 ≤ s ∧ s ≤ 3) then (-1000001) else if g 8 s.toNatClampNeg = 0 then (-1000006) else if ¬ (0 ≤ p ∧ p < g 0 1) then (-1000001) else vatN (fun v_ => gatM (nuM (g 10) s.toNatClampNeg) (upd (g 0) (pI p.toNatClampNeg 0) (nI v_)) (pI p.toNatClampNeg 2) (g 9 s.toNatClampNeg).toNatClampNeg) 7) (fun u => ∃ ρ : Nat → Int32, u = va_up (if ¬ (0 ≤ s ∧ s ≤ 3) then va_up g 4 (mfnR (g 4) 0) else if g 8 s.toNatClampNeg = 0 then va_up g 4 (mfnR (g 4) 5) else if ¬ (0 ≤ p ∧ p < g 0 1) then va_up g 4 (mfnR (g 4) 0) else g) 2 ρ)) := by
  refine CT.mk "TunnelPeaceModel" (by decide) rfl (Nat.le_of_ble_eq_true rfl) (fun X C => ?_)
  refine x_lv [0, 1, 2] (lv' := [(0, .ref (Z.2.1 (0))), (1, .int (s)), (2, .int (p))]) rfl ?_
  have hk0 := hk
  obtain ⟨⟨n, hn8, hn⟩, dd, hdd, hd⟩ := hk
  by_cases t_1 : 0 ≤ s ∧ s ≤ 3
  · obtain ⟨sq, hsq, rfl⟩ := in_le (n := 3) t_1 (by decide)
    have hcs : (nI sq).toNatClampNeg = sq := nI_clamp (by omega)
    obtain ⟨L, hL4, hL⟩ := hS sq (by omega)
    have hcL : (nI L).toNatClampNeg = L := nI_clamp (by omega)
    by_cases t_2 : g 8 sq = 0
    · skip
      refine x_aload_n C d_Mo_kinds_0 0 rfl rfl ?_
      refine x_iload_n C d_Mo_kinds_1 1 rfl rfl ?_
      refine x_aload_n C d_Mo_kinds_2 0 rfl rfl ?_
      refine x_iload_n C d_Mo_kinds_3 2 rfl rfl ?_
      refine x_callVi C (c_Mo_isPerson Z p n (by omega) (g) hn) mi_Mo_isPerson k_907 (show 0 < 12 by omega) (m_0 Z _) rfl (As := [.int (p)]) ⟨Nat.le_of_ble_eq_true rfl, Nat.le_of_ble_eq_true rfl⟩ rfl rfl (Nat.le_of_ble_eq_true rfl) d_Mo_kinds_4 ?_
      refine x_callVi C (c_Mo_lacks_b Z sq (by omega) (bI (0 ≤ p ∧ p < nI n)) (g) (by assumption)) mi_Mo_lacks k_1099 (show 0 < 12 by omega) (m_0 Z _) rfl (As := [.int (nI sq), .int (bI (0 ≤ p ∧ p < nI n))]) ⟨Nat.le_of_ble_eq_true rfl, Nat.le_of_ble_eq_true rfl⟩ rfl rfl (Nat.le_of_ble_eq_true rfl) d_Mo_kinds_7 ?_
      refine x_istore_n C d_Mo_kinds_10 rfl (by decide) (lv' := [(3, .int ((-1000006))), (0, .ref (Z.2.1 (0))), (1, .int (nI sq)), (2, .int (p))]) rfl ?_
      refine x_iload_n C d_Mo_kinds_11 0 rfl rfl ?_
      refine x_ifeq C d_Mo_kinds_12 23 (by decide) (fun c_3 => ?_) (fun c_3 => ?_)
      · exact absurd c_3 (by decide)
      · refine x_aload_n C d_Mo_kinds_15 1 rfl rfl ?_
        refine x_iload_n C d_Mo_kinds_16 0 rfl rfl ?_
        refine x_callVi C (c_Mo_finding_5 Z (g) _ rfl) mi_Mo_finding k_867 (show 0 < 12 by omega) (m_0 Z _) rfl (As := [.int ((-1000006))]) ⟨Nat.le_of_ble_eq_true rfl, Nat.le_of_ble_eq_true rfl⟩ rfl rfl (Nat.le_of_ble_eq_true rfl) d_Mo_kinds_17 ?_
        refine x_goto C d_Mo_kinds_20 40 (by decide) ?_
        exact x_iretK C (by first | with_reducible rfl | (simp [*, -hd]; done) | (simp [*]; done) | (simp_all; done)) (kfinM (G' := va_up g 4 (mfnR (g 4) 5)) (by first | with_reducible rfl | (simp [*, -hd]; done) | (simp [*]; done) | (simp_all; done)) (va_idn (by omega)).symm) d_Mo_kinds_40
    · by_cases t_4 : 0 ≤ p ∧ p < g 0 1
      · obtain ⟨pq, hpq, rfl⟩ := in_of (by rw [← hn]; exact t_4) (by omega)
        have hcp : (nI pq).toNatClampNeg = pq := nI_clamp (by omega)
        skip
        refine x_aload_n C d_Mo_kinds_0 0 rfl rfl ?_
        refine x_iload_n C d_Mo_kinds_1 1 rfl rfl ?_
        refine x_aload_n C d_Mo_kinds_2 0 rfl rfl ?_
        refine x_iload_n C d_Mo_kinds_3 2 rfl rfl ?_
        refine x_callVi C (c_Mo_isPerson Z (nI pq) n (by omega) (g) hn) mi_Mo_isPerson k_907 (show 0 < 12 by omega) (m_0 Z _) rfl (As := [.int (nI pq)]) ⟨Nat.le_of_ble_eq_true rfl, Nat.le_of_ble_eq_true rfl⟩ rfl rfl (Nat.le_of_ble_eq_true rfl) d_Mo_kinds_4 ?_
        refine x_topi (x' := 1) (bI_t (by first | assumption | (rw [← hn]; assumption))) ?_
        refine x_callVi C (c_Mo_lacks_c Z sq (by omega) (g) (by assumption)) mi_Mo_lacks k_1099 (show 0 < 12 by omega) (m_0 Z _) rfl (As := [.int (nI sq), .int (1)]) ⟨Nat.le_of_ble_eq_true rfl, Nat.le_of_ble_eq_true rfl⟩ rfl rfl (Nat.le_of_ble_eq_true rfl) d_Mo_kinds_7 ?_
        refine x_istore_n C d_Mo_kinds_10 rfl (by decide) (lv' := [(3, .int (0)), (0, .ref (Z.2.1 (0))), (1, .int (nI sq)), (2, .int (nI pq))]) rfl ?_
        refine x_iload_n C d_Mo_kinds_11 0 rfl rfl ?_
        refine x_ifeq C d_Mo_kinds_12 23 (by decide) (fun c_5 => ?_) (fun c_5 => ?_)
        · refine x_aload_n C d_Mo_kinds_23 1 rfl rfl ?_
          refine x_iload_n C d_Mo_kinds_24 2 rfl rfl ?_
          refine x_iload_n C d_Mo_kinds_25 3 rfl rfl ?_
          refine x_iconst C d_Mo_kinds_26 (v := 2) (by decide) ?_
          refine x_callSi C (c_Mo_personAt Z pq 2 (g)) mi_Mo_personAt k_897 (As := [.int (nI pq), .int (2)]) ⟨Nat.le_of_ble_eq_true rfl, Nat.le_of_ble_eq_true rfl⟩ rfl rfl (Nat.le_of_ble_eq_true rfl) d_Mo_kinds_27 ?_
          refine x_iload_n C d_Mo_kinds_30 3 rfl rfl ?_
          refine x_iconst C d_Mo_kinds_31 (v := 0) (by decide) ?_
          refine x_callSi C (c_Mo_personAt Z pq 0 (g)) mi_Mo_personAt k_897 (As := [.int (nI pq), .int (0)]) ⟨Nat.le_of_ble_eq_true rfl, Nat.le_of_ble_eq_true rfl⟩ rfl rfl (Nat.le_of_ble_eq_true rfl) d_Mo_kinds_32 ?_
          refine x_bipush C d_Mo_kinds_35 (v := 7) (by decide) ?_
          refine x_callVki C (c_Mo_fitting Z sq (pI pq 2) (pI pq 0) 7 L (by omega) (by first | omega | (simp only [pI]; omega)) (by first | omega | (simp only [pI]; omega)) (by first | omega | (simp only [pI]; omega)) (by omega) (by omega) (g) hk0 hL) mi_Mo_fitting k_1107 (show 0 < 12 by omega) (m_0 Z _) rfl (As := [.int (nI sq), .int (nI (pI pq 2)), .int (nI (pI pq 0)), .int (7)]) ⟨Nat.le_of_ble_eq_true rfl, Nat.le_of_ble_eq_true rfl⟩ rfl rfl (Nat.le_of_ble_eq_true rfl) d_Mo_kinds_37 (fun u_ hu_ => ?_)
          obtain ⟨ρ_6, rfl⟩ := hu_
          exact x_iretK C (by first | with_reducible rfl | (simp [*, -hd]; done) | (simp [*]; done) | (simp_all; done)) (kfinM (G' := g) (by first | with_reducible rfl | (simp [*, -hd]; done) | (simp [*]; done) | (simp_all; done)) rfl) d_Mo_kinds_40
        · exact absurd c_5 (by decide)
      · skip
        refine x_aload_n C d_Mo_kinds_0 0 rfl rfl ?_
        refine x_iload_n C d_Mo_kinds_1 1 rfl rfl ?_
        refine x_aload_n C d_Mo_kinds_2 0 rfl rfl ?_
        refine x_iload_n C d_Mo_kinds_3 2 rfl rfl ?_
        refine x_callVi C (c_Mo_isPerson Z p n (by omega) (g) hn) mi_Mo_isPerson k_907 (show 0 < 12 by omega) (m_0 Z _) rfl (As := [.int (p)]) ⟨Nat.le_of_ble_eq_true rfl, Nat.le_of_ble_eq_true rfl⟩ rfl rfl (Nat.le_of_ble_eq_true rfl) d_Mo_kinds_4 ?_
        refine x_topi (x' := 0) (bI_f (by first | assumption | (rw [← hn]; assumption))) ?_
        refine x_callVi C (c_Mo_lacks_d Z sq (by omega) (g) (by assumption)) mi_Mo_lacks k_1099 (show 0 < 12 by omega) (m_0 Z _) rfl (As := [.int (nI sq), .int (0)]) ⟨Nat.le_of_ble_eq_true rfl, Nat.le_of_ble_eq_true rfl⟩ rfl rfl (Nat.le_of_ble_eq_true rfl) d_Mo_kinds_7 ?_
        refine x_istore_n C d_Mo_kinds_10 rfl (by decide) (lv' := [(3, .int ((-1000001))), (0, .ref (Z.2.1 (0))), (1, .int (nI sq)), (2, .int (p))]) rfl ?_
        refine x_iload_n C d_Mo_kinds_11 0 rfl rfl ?_
        refine x_ifeq C d_Mo_kinds_12 23 (by decide) (fun c_7 => ?_) (fun c_7 => ?_)
        · exact absurd c_7 (by decide)
        · refine x_aload_n C d_Mo_kinds_15 1 rfl rfl ?_
          refine x_iload_n C d_Mo_kinds_16 0 rfl rfl ?_
          refine x_callVi C (c_Mo_finding_0 Z (g) _ rfl) mi_Mo_finding k_867 (show 0 < 12 by omega) (m_0 Z _) rfl (As := [.int ((-1000001))]) ⟨Nat.le_of_ble_eq_true rfl, Nat.le_of_ble_eq_true rfl⟩ rfl rfl (Nat.le_of_ble_eq_true rfl) d_Mo_kinds_17 ?_
          refine x_goto C d_Mo_kinds_20 40 (by decide) ?_
          exact x_iretK C (by first | with_reducible rfl | (simp [*, -hd]; done) | (simp [*]; done) | (simp_all; done)) (kfinM (G' := va_up g 4 (mfnR (g 4) 0)) (by first | with_reducible rfl | (simp [*, -hd]; done) | (simp [*]; done) | (simp_all; done)) (va_idn (by omega)).symm) d_Mo_kinds_40
  · skip
    refine x_aload_n C d_Mo_kinds_0 0 rfl rfl ?_
    refine x_iload_n C d_Mo_kinds_1 1 rfl rfl ?_
    refine x_aload_n C d_Mo_kinds_2 0 rfl rfl ?_
    refine x_iload_n C d_Mo_kinds_3 2 rfl rfl ?_
    refine x_callVi C (c_Mo_isPerson Z p n (by omega) (g) hn) mi_Mo_isPerson k_907 (show 0 < 12 by omega) (m_0 Z _) rfl (As := [.int (p)]) ⟨Nat.le_of_ble_eq_true rfl, Nat.le_of_ble_eq_true rfl⟩ rfl rfl (Nat.le_of_ble_eq_true rfl) d_Mo_kinds_4 ?_
    refine x_callVi C (c_Mo_lacks_a Z s (bI (0 ≤ p ∧ p < nI n)) (by assumption) (g)) mi_Mo_lacks k_1099 (show 0 < 12 by omega) (m_0 Z _) rfl (As := [.int (s), .int (bI (0 ≤ p ∧ p < nI n))]) ⟨Nat.le_of_ble_eq_true rfl, Nat.le_of_ble_eq_true rfl⟩ rfl rfl (Nat.le_of_ble_eq_true rfl) d_Mo_kinds_7 ?_
    refine x_istore_n C d_Mo_kinds_10 rfl (by decide) (lv' := [(3, .int ((-1000001))), (0, .ref (Z.2.1 (0))), (1, .int (s)), (2, .int (p))]) rfl ?_
    refine x_iload_n C d_Mo_kinds_11 0 rfl rfl ?_
    refine x_ifeq C d_Mo_kinds_12 23 (by decide) (fun c_8 => ?_) (fun c_8 => ?_)
    · exact absurd c_8 (by decide)
    · refine x_aload_n C d_Mo_kinds_15 1 rfl rfl ?_
      refine x_iload_n C d_Mo_kinds_16 0 rfl rfl ?_
      refine x_callVi C (c_Mo_finding_0 Z (g) _ rfl) mi_Mo_finding k_867 (show 0 < 12 by omega) (m_0 Z _) rfl (As := [.int ((-1000001))]) ⟨Nat.le_of_ble_eq_true rfl, Nat.le_of_ble_eq_true rfl⟩ rfl rfl (Nat.le_of_ble_eq_true rfl) d_Mo_kinds_17 ?_
      refine x_goto C d_Mo_kinds_20 40 (by decide) ?_
      exact x_iretK C (by first | with_reducible rfl | (simp [*, -hd]; done) | (simp [*]; done) | (simp_all; done)) (kfinM (G' := va_up g 4 (mfnR (g 4) 0)) (by first | with_reducible rfl | (simp [*, -hd]; done) | (simp [*]; done) | (simp_all; done)) (va_idn (by omega)).symm) d_Mo_kinds_40

set_option maxRecDepth 100000 in
set_option maxHeartbeats 600000 in
theorem c_Mo_meetsSomebodyAt (Z : ZT) (p : Nat) (hp : p < 8) (c : Int32) (g : St)  (r : Nat → Int32) (hr : g 0 = r) (hk : okR r) : CT yM Z y_Mo_meetsSomebodyAt b_Mo_meetsSomebodyAt 7 (some (.boolean)) 3 68 [.ref (Z.2.1 (0)), .int (nI p), .int (c)] (g) (QcI yM Z (bI (mabM r p c (sz r) = true)) (g)) := by
  refine CT.mk "TunnelPeaceModel" (by decide) rfl (Nat.le_of_ble_eq_true rfl) (fun X C => ?_)
  refine x_lv [0, 1, 2] (lv' := [(0, .ref (Z.2.1 (0))), (1, .int (nI p)), (2, .int (c))]) rfl ?_
  subst hr
  have hk0 := hk
  obtain ⟨⟨n, hn8, hn⟩, dd, hdd, hd⟩ := hk
  refine x_iload_n C d_Mo_meetsSomebodyAt_0 1 rfl rfl ?_
  refine x_iconst C d_Mo_meetsSomebodyAt_1 (v := 2) (by decide) ?_
  refine x_callSi C (c_Mo_personAt Z p 2 (g)) mi_Mo_personAt k_897 (As := [.int (nI p), .int (2)]) ⟨Nat.le_of_ble_eq_true rfl, Nat.le_of_ble_eq_true rfl⟩ rfl rfl (Nat.le_of_ble_eq_true rfl) d_Mo_meetsSomebodyAt_2 ?_
  refine x_istore_n C d_Mo_meetsSomebodyAt_5 rfl (by decide) (lv' := [(3, .int (nI (pI p 2))), (0, .ref (Z.2.1 (0))), (1, .int (nI p)), (2, .int (c))]) rfl ?_
  refine x_aload_n C d_Mo_meetsSomebodyAt_6 1 rfl rfl ?_
  refine gf_Mo_now C k_791 d_Mo_meetsSomebodyAt_7 ?_
  refine x_iload_n C d_Mo_meetsSomebodyAt_10 0 rfl rfl ?_
  refine al_m_now C (pI p 2) (v := g 0 (pI p 2)) rfl (by first | omega | (simp only [pI]; omega)) rfl d_Mo_meetsSomebodyAt_11 ?_
  refine x_istore C d_Mo_meetsSomebodyAt_12 (by decide) (lv' := [(4, .int (g 0 (pI p 2))), (3, .int (nI (pI p 2))), (0, .ref (Z.2.1 (0))), (1, .int (nI p)), (2, .int (c))]) rfl ?_
  refine x_aload_n C d_Mo_meetsSomebodyAt_14 2 rfl rfl ?_
  refine gf_Mo_now C k_791 d_Mo_meetsSomebodyAt_15 ?_
  refine x_iload_n C d_Mo_meetsSomebodyAt_18 1 rfl rfl ?_
  refine x_iload_n C d_Mo_meetsSomebodyAt_19 4 rfl rfl ?_
  refine as_m_now C (pI p 2) (v := c) rfl (by first | omega | (simp only [pI]; omega)) (G := va_up g 0 (upd (g 0) (pI p 2) c)) rfl d_Mo_meetsSomebodyAt_20 ?_
  refine x_iconst C d_Mo_meetsSomebodyAt_21 (v := 0) (by decide) ?_
  refine x_istore C d_Mo_meetsSomebodyAt_22 (by decide) (lv' := [(5, .int (0)), (4, .int (g 0 (pI p 2))), (3, .int (nI (pI p 2))), (0, .ref (Z.2.1 (0))), (1, .int (nI p)), (2, .int (c))]) rfl ?_
  refine x_iconst C d_Mo_meetsSomebodyAt_24 (v := 0) (by decide) ?_
  refine x_topi (show (0 : Int32) = nI 0 by decide) ?_
  refine x_istore C d_Mo_meetsSomebodyAt_25 (by decide) (lv' := [(6, .int (nI 0)), (5, .int (0)), (4, .int (g 0 (pI p 2))), (3, .int (nI (pI p 2))), (0, .ref (Z.2.1 (0))), (1, .int (nI p)), (2, .int (c))]) rfl ?_
  have LP_27 : ∀ (f_ i : Nat), i ≤ n → n - i < f_ → WX X 7 yM Z (QX X yM Z (QcI yM Z (bI (mabM (g 0) p c (sz (g 0)) = true)) (g))) (va_up g 0 (upd (g 0) (pI p 2) c)) 27 [(6, .int (nI i)), (5, .int (bI (mabM (g 0) p c i = true))), (4, .int (g 0 (pI p 2))), (3, .int (nI (pI p 2))), (0, .ref (Z.2.1 (0))), (1, .int (nI p)), (2, .int (c))] [] := by
    intro f_
    induction f_ with
    | zero => intro i h1_ h2_; exact absurd h2_ (Nat.not_lt_zero _)
    | succ f_ ih_27 =>
      intro i hi_27 hf_27
      refine x_iload C d_Mo_meetsSomebodyAt_27 0 rfl ?_
      refine x_aload_n C d_Mo_meetsSomebodyAt_29 4 rfl rfl ?_
      refine gf_Mo_now C k_791 d_Mo_meetsSomebodyAt_30 ?_
      refine x_iconst C d_Mo_meetsSomebodyAt_33 (v := 1) (by decide) ?_
      refine al_m_now C 1 (v := nI n) (by decide) (by first | omega | (simp only [pI]; omega)) (Eq.trans (Eq.trans (congrFun (va_up_self _ _ _) _) (pk_un (by first | decide | (simp only [pI]; omega)))) hn) d_Mo_meetsSomebodyAt_34 ?_
      refine x_icmp_ge C d_Mo_meetsSomebodyAt_35 72 (by decide) (fun c_1 => ?_) (fun c_1 => ?_)
      · have nc_1 := Int32.not_lt.mpr c_1
        have mc_1 : n ≤ i := (nI_leI (by omega) (by omega)).mp (show nI n ≤ nI i from c_1)
        have e_i : n = i := by omega
        subst e_i
        refine x_aload_n C d_Mo_meetsSomebodyAt_72 4 rfl rfl ?_
        refine gf_Mo_now C k_791 d_Mo_meetsSomebodyAt_73 ?_
        refine x_iload_n C d_Mo_meetsSomebodyAt_76 3 rfl rfl ?_
        refine x_iload C d_Mo_meetsSomebodyAt_77 2 rfl ?_
        refine as_m_now C (pI p 2) (v := g 0 (pI p 2)) rfl (by first | omega | (simp only [pI]; omega)) (G := va_up g 0 (upd (upd (g 0) (pI p 2) c) (pI p 2) (g 0 (pI p 2)))) up_va d_Mo_meetsSomebodyAt_79 ?_
        refine x_iload C d_Mo_meetsSomebodyAt_80 1 rfl ?_
        exact x_zret C (bI_01 _) (by rw [sz_of hn hn8]) (by rw [upd_upd, upd_id, va_id]) d_Mo_meetsSomebodyAt_82
      · have nc_1 := Int32.not_le.mp c_1
        have mc_1 : ¬ n ≤ i := fun z_ => (show ¬ nI n ≤ nI i from c_1) ((nI_leI (by omega) (by omega)).mpr z_)
        refine x_iload C d_Mo_meetsSomebodyAt_38 1 rfl ?_
        refine x_ifneB C d_Mo_meetsSomebodyAt_40 59 (by decide) (fun c_2 => ?_) (fun c_2 => ?_)
        · refine x_iconst C d_Mo_meetsSomebodyAt_59 (v := 1) (by decide) ?_
          refine x_goto C d_Mo_meetsSomebodyAt_60 64 (by decide) ?_
          refine x_istore C d_Mo_meetsSomebodyAt_64 (by decide) (lv' := [(5, .int (1)), (6, .int (nI i)), (4, .int (g 0 (pI p 2))), (3, .int (nI (pI p 2))), (0, .ref (Z.2.1 (0))), (1, .int (nI p)), (2, .int (c))]) rfl ?_
          refine x_iinc C d_Mo_meetsSomebodyAt_66 1 rfl (v := nI (i + 1)) (nI_1 _) (by decide) (lv' := [(6, .int (nI (i + 1))), (5, .int (1)), (4, .int (g 0 (pI p 2))), (3, .int (nI (pI p 2))), (0, .ref (Z.2.1 (0))), (1, .int (nI p)), (2, .int (c))]) rfl ?_
          refine x_goto C d_Mo_meetsSomebodyAt_69 27 (by decide) ?_
          refine x_lve (lv' := [(6, .int (nI (i + 1))), (5, .int (bI (mabM (g 0) p c (i + 1) = true))), (4, .int (g 0 (pI p 2))), (3, .int (nI (pI p 2))), (0, .ref (Z.2.1 (0))), (1, .int (nI p)), (2, .int (c))]) (by first | (simp [mabM, bI, *]; done) | (simp_all [mabM, bI]; done)) ?_
          exact ih_27 (i + 1) (by omega) (by omega)
        · refine x_iload C d_Mo_meetsSomebodyAt_43 0 rfl ?_
          refine x_iload_n C d_Mo_meetsSomebodyAt_45 5 rfl rfl ?_
          refine x_icmp_eq C d_Mo_meetsSomebodyAt_46 63 (by decide) (fun c_3 => ?_) (fun c_3 => ?_)
          · have mc_3 : i = p := (nI_eq (by omega) (by omega)).mp (show nI i = nI p from c_3)
            refine x_iconst C d_Mo_meetsSomebodyAt_63 (v := 0) (by decide) ?_
            refine x_istore C d_Mo_meetsSomebodyAt_64 (by decide) (lv' := [(5, .int (0)), (6, .int (nI i)), (4, .int (g 0 (pI p 2))), (3, .int (nI (pI p 2))), (0, .ref (Z.2.1 (0))), (1, .int (nI p)), (2, .int (c))]) rfl ?_
            refine x_iinc C d_Mo_meetsSomebodyAt_66 1 rfl (v := nI (i + 1)) (nI_1 _) (by decide) (lv' := [(6, .int (nI (i + 1))), (5, .int (0)), (4, .int (g 0 (pI p 2))), (3, .int (nI (pI p 2))), (0, .ref (Z.2.1 (0))), (1, .int (nI p)), (2, .int (c))]) rfl ?_
            refine x_goto C d_Mo_meetsSomebodyAt_69 27 (by decide) ?_
            refine x_lve (lv' := [(6, .int (nI (i + 1))), (5, .int (bI (mabM (g 0) p c (i + 1) = true))), (4, .int (g 0 (pI p 2))), (3, .int (nI (pI p 2))), (0, .ref (Z.2.1 (0))), (1, .int (nI p)), (2, .int (c))]) (by first | (simp [mabM, bI, *]; done) | (simp_all [mabM, bI]; done)) ?_
            exact ih_27 (i + 1) (by omega) (by omega)
          · have nc_3 := Ne.symm c_3
            have mc_3 : ¬ i = p := fun z_ => (show ¬ nI i = nI p from c_3) ((nI_eq (by omega) (by omega)).mpr z_)
            have e1 : (upd (g 0) (pI p 2) c) (pI i 2) = g 0 (pI i 2) := pk_un (by simp only [pI]; omega)
            have e2 : (upd (g 0) (pI p 2) c) (pI p 2) = c := pk_us
            have e3 : (upd (g 0) (pI p 2) c) (pI i 1) = g 0 (pI i 1) := pk_un (by simp only [pI]; omega)
            have e4 : (upd (g 0) (pI p 2) c) (pI p 1) = g 0 (pI p 1) := pk_un (by simp only [pI]; omega)
            refine x_aload_n C d_Mo_meetsSomebodyAt_49 4 rfl rfl ?_
            refine x_iload_n C d_Mo_meetsSomebodyAt_50 5 rfl rfl ?_
            refine x_iload C d_Mo_meetsSomebodyAt_51 0 rfl ?_
            refine x_callVi C (c_Mo_wouldMeet Z p i (by omega) (by omega) (va_up g 0 (upd (g 0) (pI p 2) c)) _ (va_up_self _ _ _)) mi_Mo_wouldMeet k_951 (show 0 < 12 by omega) (m_0 Z _) rfl (As := [.int (nI p), .int (nI i)]) ⟨Nat.le_of_ble_eq_true rfl, Nat.le_of_ble_eq_true rfl⟩ rfl rfl (Nat.le_of_ble_eq_true rfl) d_Mo_meetsSomebodyAt_53 ?_
            refine x_topi (x' := bI (mtA (g 0 (pI p 1)) c (g 0 (pI i 1)) (g 0 (pI i 2)) = true)) (by rw [e1, e2, e3, e4]) ?_
            refine x_ifeqB C d_Mo_meetsSomebodyAt_56 63 (by decide) (fun c_4 => ?_) (fun c_4 => ?_)
            · refine x_iconst C d_Mo_meetsSomebodyAt_63 (v := 0) (by decide) ?_
              refine x_istore C d_Mo_meetsSomebodyAt_64 (by decide) (lv' := [(5, .int (0)), (6, .int (nI i)), (4, .int (g 0 (pI p 2))), (3, .int (nI (pI p 2))), (0, .ref (Z.2.1 (0))), (1, .int (nI p)), (2, .int (c))]) rfl ?_
              refine x_iinc C d_Mo_meetsSomebodyAt_66 1 rfl (v := nI (i + 1)) (nI_1 _) (by decide) (lv' := [(6, .int (nI (i + 1))), (5, .int (0)), (4, .int (g 0 (pI p 2))), (3, .int (nI (pI p 2))), (0, .ref (Z.2.1 (0))), (1, .int (nI p)), (2, .int (c))]) rfl ?_
              refine x_goto C d_Mo_meetsSomebodyAt_69 27 (by decide) ?_
              refine x_lve (lv' := [(6, .int (nI (i + 1))), (5, .int (bI (mabM (g 0) p c (i + 1) = true))), (4, .int (g 0 (pI p 2))), (3, .int (nI (pI p 2))), (0, .ref (Z.2.1 (0))), (1, .int (nI p)), (2, .int (c))]) (by first | (simp [mabM, bI, *]; done) | (simp_all [mabM, bI]; done)) ?_
              exact ih_27 (i + 1) (by omega) (by omega)
            · refine x_iconst C d_Mo_meetsSomebodyAt_59 (v := 1) (by decide) ?_
              refine x_goto C d_Mo_meetsSomebodyAt_60 64 (by decide) ?_
              refine x_istore C d_Mo_meetsSomebodyAt_64 (by decide) (lv' := [(5, .int (1)), (6, .int (nI i)), (4, .int (g 0 (pI p 2))), (3, .int (nI (pI p 2))), (0, .ref (Z.2.1 (0))), (1, .int (nI p)), (2, .int (c))]) rfl ?_
              refine x_iinc C d_Mo_meetsSomebodyAt_66 1 rfl (v := nI (i + 1)) (nI_1 _) (by decide) (lv' := [(6, .int (nI (i + 1))), (5, .int (1)), (4, .int (g 0 (pI p 2))), (3, .int (nI (pI p 2))), (0, .ref (Z.2.1 (0))), (1, .int (nI p)), (2, .int (c))]) rfl ?_
              refine x_goto C d_Mo_meetsSomebodyAt_69 27 (by decide) ?_
              refine x_lve (lv' := [(6, .int (nI (i + 1))), (5, .int (bI (mabM (g 0) p c (i + 1) = true))), (4, .int (g 0 (pI p 2))), (3, .int (nI (pI p 2))), (0, .ref (Z.2.1 (0))), (1, .int (nI p)), (2, .int (c))]) (by first | (simp [mabM, bI, *]; done) | (simp_all [mabM, bI]; done)) ?_
              exact ih_27 (i + 1) (by omega) (by omega)
  refine x_lve (lv' := [(6, .int (nI 0)), (5, .int (bI (mabM (g 0) p c 0 = true))), (4, .int (g 0 (pI p 2))), (3, .int (nI (pI p 2))), (0, .ref (Z.2.1 (0))), (1, .int (nI p)), (2, .int (c))]) (by rw [show mabM (g 0) p c 0 = false from rfl]; rfl) ?_
  exact LP_27 (n + 1) 0 (Nat.zero_le _) (by omega)

theorem ctm_le {r : Nat → Int32} {p n c : Nat} : ∃ k, k ≤ c ∧ ctmM r p n c = nI k := by
  induction c with
  | zero => exact ⟨0, Nat.le_refl _, rfl⟩
  | succ c ih =>
    obtain ⟨k, hk, e⟩ := ih
    unfold ctmM
    split
    · exact ⟨k + 1, by omega, by rw [e, nI_1]⟩
    · exact ⟨k, by omega, e⟩

theorem x_topl {X : XT} {Y : YT} {Z : ZT} {Q : State → Prop} {g : St} {pc nL : Nat} {lv : List (Nat × Value)} {st : List Value} {x x' : Int64} (h : x = x') (k : WX X nL Y Z Q g pc lv (.long x' :: st)) : WX X nL Y Z Q g pc lv (.long x :: st) := h ▸ k

set_option maxRecDepth 100000 in
set_option maxHeartbeats 600000 in
theorem c_Mo_odds (Z : ZT) (p m w : Int32) (g : St)  (hk : okR (g 0)) : CT yM Z y_Mo_odds b_Mo_odds 10 (some (.long)) 4 94 [.ref (Z.2.1 (0)), .int (p), .int (m), .int (w)] (g) (QcL yM Z (if (0 ≤ p ∧ p < g 0 1) ∧ (0 ≤ m ∧ m ≤ 15) ∧ (0 ≤ w ∧ w ≤ 1) then pwN (((if w = 0 then ctmM (g 0) p.toNatClampNeg (sz (g 0)) 16 else 16) / nI (Nat.gcd (ctmM (g 0) p.toNatClampNeg (sz (g 0)) 16).toNatClampNeg 16)).toInt64) m.toNatClampNeg else (-1000001 : Int32).toInt64) (if (0 ≤ p ∧ p < g 0 1) ∧ (0 ≤ m ∧ m ≤ 15) ∧ (0 ≤ w ∧ w ≤ 1) then g else va_up g 4 (mfnR (g 4) 0))) := by
  refine CT.mk "TunnelPeaceModel" (by decide) rfl (Nat.le_of_ble_eq_true rfl) (fun X C => ?_)
  refine x_lv [0, 1, 2, 3] (lv' := [(0, .ref (Z.2.1 (0))), (1, .int (p)), (2, .int (m)), (3, .int (w))]) rfl ?_
  have hk0 := hk
  obtain ⟨⟨n, hn8, hn⟩, dd, hdd, hd⟩ := hk
  refine x_aload_n C d_Mo_odds_0 0 rfl rfl ?_
  refine x_iload_n C d_Mo_odds_1 1 rfl rfl ?_
  refine x_callVi C (c_Mo_isPerson Z p n (by omega) (g) hn) mi_Mo_isPerson k_907 (show 0 < 12 by omega) (m_0 Z _) rfl (As := [.int (p)]) ⟨Nat.le_of_ble_eq_true rfl, Nat.le_of_ble_eq_true rfl⟩ rfl rfl (Nat.le_of_ble_eq_true rfl) d_Mo_odds_2 ?_
  refine x_ifeqB C d_Mo_odds_5 27 (by decide) (fun c_1 => ?_) (fun c_1 => ?_)
  · refine x_aload_n C d_Mo_odds_27 0 rfl rfl ?_
    refine x_ldc C d_Mo_odds_28 k_866 ?_
    refine x_callVi C (c_Mo_finding_0 Z (g) _ rfl) mi_Mo_finding k_867 (show 0 < 12 by omega) (m_0 Z _) rfl (As := [.int ((-1000001))]) ⟨Nat.le_of_ble_eq_true rfl, Nat.le_of_ble_eq_true rfl⟩ rfl rfl (Nat.le_of_ble_eq_true rfl) d_Mo_odds_30 ?_
    refine x_i2l C d_Mo_odds_33 ?_
    exact x_lret C (by first | (simp [*, -hd]; done) | (simp [*]; done)) (by first | (simp [*, -hd]; done) | (simp [*]; done)) d_Mo_odds_34
  · obtain ⟨pq, hpq, rfl⟩ := in_of c_1 (by omega)
    have hcp : (nI pq).toNatClampNeg = pq := nI_clamp (by omega)
    refine x_iload_n C d_Mo_odds_8 2 rfl rfl ?_
    refine x_iconst C d_Mo_odds_9 (v := 0) (by decide) ?_
    refine x_bipush C d_Mo_odds_10 (v := 15) (by decide) ?_
    refine x_callSi C (c_Mo_within Z m 0 15 (g)) mi_Mo_within k_859 (As := [.int (m), .int (0), .int (15)]) ⟨Nat.le_of_ble_eq_true rfl, Nat.le_of_ble_eq_true rfl⟩ rfl rfl (Nat.le_of_ble_eq_true rfl) d_Mo_odds_12 ?_
    refine x_ifeqB C d_Mo_odds_15 27 (by decide) (fun c_2 => ?_) (fun c_2 => ?_)
    · refine x_aload_n C d_Mo_odds_27 0 rfl rfl ?_
      refine x_ldc C d_Mo_odds_28 k_866 ?_
      refine x_callVi C (c_Mo_finding_0 Z (g) _ rfl) mi_Mo_finding k_867 (show 0 < 12 by omega) (m_0 Z _) rfl (As := [.int ((-1000001))]) ⟨Nat.le_of_ble_eq_true rfl, Nat.le_of_ble_eq_true rfl⟩ rfl rfl (Nat.le_of_ble_eq_true rfl) d_Mo_odds_30 ?_
      refine x_i2l C d_Mo_odds_33 ?_
      exact x_lret C (by first | (simp [*, -hd]; done) | (simp [*]; done)) (by first | (simp [*, -hd]; done) | (simp [*]; done)) d_Mo_odds_34
    · obtain ⟨mq, hmq, rfl⟩ := in_le (n := 15) c_2 (by decide)
      have hcm : (nI mq).toNatClampNeg = mq := nI_clamp (by omega)
      refine x_iload_n C d_Mo_odds_18 3 rfl rfl ?_
      refine x_iconst C d_Mo_odds_19 (v := 0) (by decide) ?_
      refine x_iconst C d_Mo_odds_20 (v := 1) (by decide) ?_
      refine x_callSi C (c_Mo_within Z w 0 1 (g)) mi_Mo_within k_859 (As := [.int (w), .int (0), .int (1)]) ⟨Nat.le_of_ble_eq_true rfl, Nat.le_of_ble_eq_true rfl⟩ rfl rfl (Nat.le_of_ble_eq_true rfl) d_Mo_odds_21 ?_
      refine x_ifneB C d_Mo_odds_24 35 (by decide) (fun c_3 => ?_) (fun c_3 => ?_)
      · refine x_iconst C d_Mo_odds_35 (v := 0) (by decide) ?_
        refine x_istore C d_Mo_odds_36 (by decide) (lv' := [(4, .int (0)), (0, .ref (Z.2.1 (0))), (1, .int (nI pq)), (2, .int (nI mq)), (3, .int (w))]) rfl ?_
        refine x_iconst C d_Mo_odds_38 (v := 0) (by decide) ?_
        refine x_topi (show (0 : Int32) = nI 0 by decide) ?_
        refine x_istore C d_Mo_odds_39 (by decide) (lv' := [(5, .int (nI 0)), (4, .int (0)), (0, .ref (Z.2.1 (0))), (1, .int (nI pq)), (2, .int (nI mq)), (3, .int (w))]) rfl ?_
        have LP_41 : ∀ (f_ c : Nat), c ≤ 16 → 16 - c < f_ → WX X 10 yM Z (QX X yM Z (QcL yM Z (if (0 ≤ (nI pq) ∧ (nI pq) < g 0 1) ∧ (0 ≤ (nI mq) ∧ (nI mq) ≤ 15) ∧ (0 ≤ w ∧ w ≤ 1) then pwN (((if w = 0 then ctmM (g 0) (nI pq).toNatClampNeg (sz (g 0)) 16 else 16) / nI (Nat.gcd (ctmM (g 0) (nI pq).toNatClampNeg (sz (g 0)) 16).toNatClampNeg 16)).toInt64) (nI mq).toNatClampNeg else (-1000001 : Int32).toInt64) (if (0 ≤ (nI pq) ∧ (nI pq) < g 0 1) ∧ (0 ≤ (nI mq) ∧ (nI mq) ≤ 15) ∧ (0 ≤ w ∧ w ≤ 1) then g else va_up g 4 (mfnR (g 4) 0)))) (g) 41 [(5, .int (nI c)), (4, .int (ctmM (g 0) pq (sz (g 0)) (c))), (0, .ref (Z.2.1 (0))), (1, .int (nI pq)), (2, .int (nI mq)), (3, .int (w))] [] := by
          intro f_
          induction f_ with
          | zero => intro c h1_ h2_; exact absurd h2_ (Nat.not_lt_zero _)
          | succ f_ ih_41 =>
            intro c hi_41 hf_41
            refine x_iload C d_Mo_odds_41 0 rfl ?_
            refine x_bipush C d_Mo_odds_43 (v := 16) (by decide) ?_
            refine x_icmp_ge C d_Mo_odds_45 74 (by decide) (fun c_4 => ?_) (fun c_4 => ?_)
            · have nc_4 := Int32.not_lt.mpr c_4
              have mc_4 : 16 ≤ c := (nI_leI (by omega) (by omega)).mp (show nI 16 ≤ nI c from c_4)
              have e_c : 16 = c := by omega
              subst e_c
              obtain ⟨kk, hkk, ekk⟩ := ctm_le (r := g 0) (p := pq) (n := sz (g 0)) (c := 16)
              refine x_lve (lv' := [(5, .int (nI 16)), (4, .int (nI kk)), (0, .ref (Z.2.1 (0))), (1, .int (nI pq)), (2, .int (nI mq)), (3, .int (w))]) (by rw [ekk]) ?_
              refine x_bipush C d_Mo_odds_74 (v := 16) (by decide) ?_
              refine x_topi (show (16 : Int32) = nI 16 by decide) ?_
              refine x_istore C d_Mo_odds_76 (by decide) (lv' := [(5, .int (nI 16)), (4, .int (nI kk)), (0, .ref (Z.2.1 (0))), (1, .int (nI pq)), (2, .int (nI mq)), (3, .int (w))]) rfl ?_
              rcases (show kk = 0 ∨ kk = 1 ∨ kk = 2 ∨ kk = 3 ∨ kk = 4 ∨ kk = 5 ∨ kk = 6 ∨ kk = 7 ∨ kk = 8 ∨ kk = 9 ∨ kk = 10 ∨ kk = 11 ∨ kk = 12 ∨ kk = 13 ∨ kk = 14 ∨ kk = 15 ∨ kk = 16 by omega) with rfl | rfl | rfl | rfl | rfl | rfl | rfl | rfl | rfl | rfl | rfl | rfl | rfl | rfl | rfl | rfl | rfl
              · skip
                refine x_iload C d_Mo_odds_78 1 rfl ?_
                refine x_istore C d_Mo_odds_80 (by decide) (lv' := [(6, .int (nI 0)), (5, .int (nI 16)), (4, .int (nI 0)), (0, .ref (Z.2.1 (0))), (1, .int (nI pq)), (2, .int (nI mq)), (3, .int (w))]) rfl ?_
                refine x_iload C d_Mo_odds_82 0 rfl ?_
                refine x_ifeq C d_Mo_odds_84 105 (by decide) (fun c_5 => ?_) (fun c_5 => ?_)
                · obtain ⟨B, hB⟩ : ∃ B : Int64, B = ((if w = 0 then nI 0 else 16) / nI (Nat.gcd (nI 0).toNatClampNeg 16)).toInt64 := ⟨_, rfl⟩
                  have hbase : pwN B mq = pwN (((if w = 0 then nI 0 else 16) / nI (Nat.gcd (nI 0).toNatClampNeg 16)).toInt64) mq := by rw [hB]
                  refine x_lconst C d_Mo_odds_105 (v := 1) (by decide) ?_
                  refine x_lstore C d_Mo_odds_106 (by decide) (lv' := [(7, .long (1)), (6, .int (nI 0)), (5, .int (nI 16)), (4, .int (nI 0)), (0, .ref (Z.2.1 (0))), (1, .int (nI pq)), (2, .int (nI mq)), (3, .int (w))]) rfl ?_
                  refine x_iconst C d_Mo_odds_108 (v := 0) (by decide) ?_
                  refine x_topi (show (0 : Int32) = nI 0 by decide) ?_
                  refine x_istore C d_Mo_odds_109 (by decide) (lv' := [(9, .int (nI 0)), (7, .long (1)), (6, .int (nI 0)), (5, .int (nI 16)), (4, .int (nI 0)), (0, .ref (Z.2.1 (0))), (1, .int (nI pq)), (2, .int (nI mq)), (3, .int (w))]) rfl ?_
                  have LP_111 : ∀ (f_ i : Nat), i ≤ mq → mq - i < f_ → WX X 10 yM Z (QX X yM Z (QcL yM Z (if (0 ≤ (nI pq) ∧ (nI pq) < g 0 1) ∧ (0 ≤ (nI mq) ∧ (nI mq) ≤ 15) ∧ (0 ≤ w ∧ w ≤ 1) then pwN (((if w = 0 then ctmM (g 0) (nI pq).toNatClampNeg (sz (g 0)) 16 else 16) / nI (Nat.gcd (ctmM (g 0) (nI pq).toNatClampNeg (sz (g 0)) 16).toNatClampNeg 16)).toInt64) (nI mq).toNatClampNeg else (-1000001 : Int32).toInt64) (if (0 ≤ (nI pq) ∧ (nI pq) < g 0 1) ∧ (0 ≤ (nI mq) ∧ (nI mq) ≤ 15) ∧ (0 ≤ w ∧ w ≤ 1) then g else va_up g 4 (mfnR (g 4) 0)))) (g) 111 [(9, .int (nI i)), (7, .long (pwN B (i))), (5, .int (nI 16)), (4, .int (nI 0)), (0, .ref (Z.2.1 (0))), (1, .int (nI pq)), (2, .int (nI mq)), (3, .int (w))] [] := by
                    intro f_
                    induction f_ with
                    | zero => intro i h1_ h2_; exact absurd h2_ (Nat.not_lt_zero _)
                    | succ f_ ih_111 =>
                      intro i hi_111 hf_111
                      refine x_iload C d_Mo_odds_111 0 rfl ?_
                      refine x_iload_n C d_Mo_odds_113 6 rfl rfl ?_
                      refine x_icmp_ge C d_Mo_odds_114 143 (by decide) (fun c_6 => ?_) (fun c_6 => ?_)
                      · have nc_6 := Int32.not_lt.mpr c_6
                        have mc_6 : mq ≤ i := (nI_leI (by omega) (by omega)).mp (show nI mq ≤ nI i from c_6)
                        have e_i : mq = i := by omega
                        subst e_i
                        refine x_lload C d_Mo_odds_143 1 rfl ?_
                        exact x_lret C (by rw [if_pos (by simp [*])]; simp only [hcp, hcm, ekk]; rw [hbase]) (by rw [if_pos (by simp [*])]) d_Mo_odds_145
                      · have nc_6 := Int32.not_le.mp c_6
                        have mc_6 : ¬ mq ≤ i := fun z_ => (show ¬ nI mq ≤ nI i from c_6) ((nI_leI (by omega) (by omega)).mpr z_)
                        refine x_lload C d_Mo_odds_117 1 rfl ?_
                        refine x_iload_n C d_Mo_odds_119 7 rfl rfl ?_
                        refine x_ifne C d_Mo_odds_120 128 (by decide) (fun c_7 => ?_) (fun c_7 => ?_)
                        · refine x_bipush C d_Mo_odds_128 (v := 16) (by decide) ?_
                          refine x_iload C d_Mo_odds_130 2 rfl ?_
                          refine x_idiv C d_Mo_odds_132 (by decide) ?_
                          refine x_topi (x' := 1) (by decide) ?_
                          refine x_i2l C d_Mo_odds_133 ?_
                          refine x_topl (x' := B) (by rw [hB]; first | (rw [if_pos (by assumption)]; decide) | (rw [if_neg (by assumption)]; decide)) ?_
                          refine x_lmul C d_Mo_odds_134 ?_
                          refine x_lstore C d_Mo_odds_135 (by decide) (lv' := [(7, .long ((pwN B (i)) * B)), (9, .int (nI i)), (5, .int (nI 16)), (4, .int (nI 0)), (0, .ref (Z.2.1 (0))), (1, .int (nI pq)), (2, .int (nI mq)), (3, .int (w))]) rfl ?_
                          refine x_iinc C d_Mo_odds_137 1 rfl (v := nI (i + 1)) (nI_1 _) (by decide) (lv' := [(9, .int (nI (i + 1))), (7, .long ((pwN B (i)) * B)), (5, .int (nI 16)), (4, .int (nI 0)), (0, .ref (Z.2.1 (0))), (1, .int (nI pq)), (2, .int (nI mq)), (3, .int (w))]) rfl ?_
                          refine x_goto C d_Mo_odds_140 111 (by decide) ?_
                          refine x_lve (lv' := [(9, .int (nI (i + 1))), (7, .long (pwN B (i + 1))), (5, .int (nI 16)), (4, .int (nI 0)), (0, .ref (Z.2.1 (0))), (1, .int (nI pq)), (2, .int (nI mq)), (3, .int (w))]) rfl ?_
                          exact ih_111 (i + 1) (by omega) (by omega)
                        · refine x_iload C d_Mo_odds_123 3 rfl ?_
                          refine x_goto C d_Mo_odds_125 130 (by decide) ?_
                          refine x_iload C d_Mo_odds_130 2 rfl ?_
                          refine x_idiv C d_Mo_odds_132 (by decide) ?_
                          refine x_topi (x' := 0) (by decide) ?_
                          refine x_i2l C d_Mo_odds_133 ?_
                          refine x_topl (x' := B) (by rw [hB]; first | (rw [if_pos (by assumption)]; decide) | (rw [if_neg (by assumption)]; decide)) ?_
                          refine x_lmul C d_Mo_odds_134 ?_
                          refine x_lstore C d_Mo_odds_135 (by decide) (lv' := [(7, .long ((pwN B (i)) * B)), (9, .int (nI i)), (5, .int (nI 16)), (4, .int (nI 0)), (0, .ref (Z.2.1 (0))), (1, .int (nI pq)), (2, .int (nI mq)), (3, .int (w))]) rfl ?_
                          refine x_iinc C d_Mo_odds_137 1 rfl (v := nI (i + 1)) (nI_1 _) (by decide) (lv' := [(9, .int (nI (i + 1))), (7, .long ((pwN B (i)) * B)), (5, .int (nI 16)), (4, .int (nI 0)), (0, .ref (Z.2.1 (0))), (1, .int (nI pq)), (2, .int (nI mq)), (3, .int (w))]) rfl ?_
                          refine x_goto C d_Mo_odds_140 111 (by decide) ?_
                          refine x_lve (lv' := [(9, .int (nI (i + 1))), (7, .long (pwN B (i + 1))), (5, .int (nI 16)), (4, .int (nI 0)), (0, .ref (Z.2.1 (0))), (1, .int (nI pq)), (2, .int (nI mq)), (3, .int (w))]) rfl ?_
                          exact ih_111 (i + 1) (by omega) (by omega)
                  refine x_lv [0, 1, 3, 4, 5, 6, 7, 8] (lv' := [(9, .int (nI 0)), (7, .long (1)), (5, .int (nI 16)), (4, .int (nI 0)), (0, .ref (Z.2.1 (0))), (1, .int (nI pq)), (2, .int (nI mq)), (3, .int (w))]) rfl ?_
                  refine x_lve (lv' := [(9, .int (nI 0)), (7, .long (pwN B (0))), (5, .int (nI 16)), (4, .int (nI 0)), (0, .ref (Z.2.1 (0))), (1, .int (nI pq)), (2, .int (nI mq)), (3, .int (w))]) rfl ?_
                  exact LP_111 (mq + 1) 0 (Nat.zero_le _) (by omega)
                · exact absurd c_5 (by decide)
              · skip
                refine x_iload C d_Mo_odds_78 1 rfl ?_
                refine x_istore C d_Mo_odds_80 (by decide) (lv' := [(6, .int (nI 1)), (5, .int (nI 16)), (4, .int (nI 1)), (0, .ref (Z.2.1 (0))), (1, .int (nI pq)), (2, .int (nI mq)), (3, .int (w))]) rfl ?_
                refine x_iload C d_Mo_odds_82 0 rfl ?_
                refine x_ifeq C d_Mo_odds_84 105 (by decide) (fun c_8 => ?_) (fun c_8 => ?_)
                · exact absurd c_8 (by decide)
                · refine x_iload C d_Mo_odds_87 1 rfl ?_
                  refine x_iload C d_Mo_odds_89 0 rfl ?_
                  refine x_irem C d_Mo_odds_91 (by assumption) ?_
                  refine x_topi (x' := 0) (by decide) ?_
                  refine x_istore C d_Mo_odds_92 (by decide) (lv' := [(7, .int (0)), (6, .int (nI 1)), (5, .int (nI 16)), (4, .int (nI 1)), (0, .ref (Z.2.1 (0))), (1, .int (nI pq)), (2, .int (nI mq)), (3, .int (w))]) rfl ?_
                  refine x_iload C d_Mo_odds_94 1 rfl ?_
                  refine x_istore C d_Mo_odds_96 (by decide) (lv' := [(5, .int (nI 1)), (7, .int (0)), (6, .int (nI 1)), (4, .int (nI 1)), (0, .ref (Z.2.1 (0))), (1, .int (nI pq)), (2, .int (nI mq)), (3, .int (w))]) rfl ?_
                  refine x_iload C d_Mo_odds_98 1 rfl ?_
                  refine x_istore C d_Mo_odds_100 (by decide) (lv' := [(6, .int (0)), (5, .int (nI 1)), (7, .int (0)), (4, .int (nI 1)), (0, .ref (Z.2.1 (0))), (1, .int (nI pq)), (2, .int (nI mq)), (3, .int (w))]) rfl ?_
                  refine x_goto C d_Mo_odds_102 82 (by decide) ?_
                  refine x_iload C d_Mo_odds_82 0 rfl ?_
                  refine x_ifeq C d_Mo_odds_84 105 (by decide) (fun c_9 => ?_) (fun c_9 => ?_)
                  · obtain ⟨B, hB⟩ : ∃ B : Int64, B = ((if w = 0 then nI 1 else 16) / nI (Nat.gcd (nI 1).toNatClampNeg 16)).toInt64 := ⟨_, rfl⟩
                    have hbase : pwN B mq = pwN (((if w = 0 then nI 1 else 16) / nI (Nat.gcd (nI 1).toNatClampNeg 16)).toInt64) mq := by rw [hB]
                    refine x_lconst C d_Mo_odds_105 (v := 1) (by decide) ?_
                    refine x_lstore C d_Mo_odds_106 (by decide) (lv' := [(7, .long (1)), (6, .int (0)), (5, .int (nI 1)), (4, .int (nI 1)), (0, .ref (Z.2.1 (0))), (1, .int (nI pq)), (2, .int (nI mq)), (3, .int (w))]) rfl ?_
                    refine x_iconst C d_Mo_odds_108 (v := 0) (by decide) ?_
                    refine x_topi (show (0 : Int32) = nI 0 by decide) ?_
                    refine x_istore C d_Mo_odds_109 (by decide) (lv' := [(9, .int (nI 0)), (7, .long (1)), (6, .int (0)), (5, .int (nI 1)), (4, .int (nI 1)), (0, .ref (Z.2.1 (0))), (1, .int (nI pq)), (2, .int (nI mq)), (3, .int (w))]) rfl ?_
                    have LP_111 : ∀ (f_ i : Nat), i ≤ mq → mq - i < f_ → WX X 10 yM Z (QX X yM Z (QcL yM Z (if (0 ≤ (nI pq) ∧ (nI pq) < g 0 1) ∧ (0 ≤ (nI mq) ∧ (nI mq) ≤ 15) ∧ (0 ≤ w ∧ w ≤ 1) then pwN (((if w = 0 then ctmM (g 0) (nI pq).toNatClampNeg (sz (g 0)) 16 else 16) / nI (Nat.gcd (ctmM (g 0) (nI pq).toNatClampNeg (sz (g 0)) 16).toNatClampNeg 16)).toInt64) (nI mq).toNatClampNeg else (-1000001 : Int32).toInt64) (if (0 ≤ (nI pq) ∧ (nI pq) < g 0 1) ∧ (0 ≤ (nI mq) ∧ (nI mq) ≤ 15) ∧ (0 ≤ w ∧ w ≤ 1) then g else va_up g 4 (mfnR (g 4) 0)))) (g) 111 [(9, .int (nI i)), (7, .long (pwN B (i))), (5, .int (nI 1)), (4, .int (nI 1)), (0, .ref (Z.2.1 (0))), (1, .int (nI pq)), (2, .int (nI mq)), (3, .int (w))] [] := by
                      intro f_
                      induction f_ with
                      | zero => intro i h1_ h2_; exact absurd h2_ (Nat.not_lt_zero _)
                      | succ f_ ih_111 =>
                        intro i hi_111 hf_111
                        refine x_iload C d_Mo_odds_111 0 rfl ?_
                        refine x_iload_n C d_Mo_odds_113 6 rfl rfl ?_
                        refine x_icmp_ge C d_Mo_odds_114 143 (by decide) (fun c_10 => ?_) (fun c_10 => ?_)
                        · have nc_10 := Int32.not_lt.mpr c_10
                          have mc_10 : mq ≤ i := (nI_leI (by omega) (by omega)).mp (show nI mq ≤ nI i from c_10)
                          have e_i : mq = i := by omega
                          subst e_i
                          refine x_lload C d_Mo_odds_143 1 rfl ?_
                          exact x_lret C (by rw [if_pos (by simp [*])]; simp only [hcp, hcm, ekk]; rw [hbase]) (by rw [if_pos (by simp [*])]) d_Mo_odds_145
                        · have nc_10 := Int32.not_le.mp c_10
                          have mc_10 : ¬ mq ≤ i := fun z_ => (show ¬ nI mq ≤ nI i from c_10) ((nI_leI (by omega) (by omega)).mpr z_)
                          refine x_lload C d_Mo_odds_117 1 rfl ?_
                          refine x_iload_n C d_Mo_odds_119 7 rfl rfl ?_
                          refine x_ifne C d_Mo_odds_120 128 (by decide) (fun c_11 => ?_) (fun c_11 => ?_)
                          · refine x_bipush C d_Mo_odds_128 (v := 16) (by decide) ?_
                            refine x_iload C d_Mo_odds_130 2 rfl ?_
                            refine x_idiv C d_Mo_odds_132 (by decide) ?_
                            refine x_topi (x' := 16) (by decide) ?_
                            refine x_i2l C d_Mo_odds_133 ?_
                            refine x_topl (x' := B) (by rw [hB]; first | (rw [if_pos (by assumption)]; decide) | (rw [if_neg (by assumption)]; decide)) ?_
                            refine x_lmul C d_Mo_odds_134 ?_
                            refine x_lstore C d_Mo_odds_135 (by decide) (lv' := [(7, .long ((pwN B (i)) * B)), (9, .int (nI i)), (5, .int (nI 1)), (4, .int (nI 1)), (0, .ref (Z.2.1 (0))), (1, .int (nI pq)), (2, .int (nI mq)), (3, .int (w))]) rfl ?_
                            refine x_iinc C d_Mo_odds_137 1 rfl (v := nI (i + 1)) (nI_1 _) (by decide) (lv' := [(9, .int (nI (i + 1))), (7, .long ((pwN B (i)) * B)), (5, .int (nI 1)), (4, .int (nI 1)), (0, .ref (Z.2.1 (0))), (1, .int (nI pq)), (2, .int (nI mq)), (3, .int (w))]) rfl ?_
                            refine x_goto C d_Mo_odds_140 111 (by decide) ?_
                            refine x_lve (lv' := [(9, .int (nI (i + 1))), (7, .long (pwN B (i + 1))), (5, .int (nI 1)), (4, .int (nI 1)), (0, .ref (Z.2.1 (0))), (1, .int (nI pq)), (2, .int (nI mq)), (3, .int (w))]) rfl ?_
                            exact ih_111 (i + 1) (by omega) (by omega)
                          · refine x_iload C d_Mo_odds_123 3 rfl ?_
                            refine x_goto C d_Mo_odds_125 130 (by decide) ?_
                            refine x_iload C d_Mo_odds_130 2 rfl ?_
                            refine x_idiv C d_Mo_odds_132 (by decide) ?_
                            refine x_topi (x' := 1) (by decide) ?_
                            refine x_i2l C d_Mo_odds_133 ?_
                            refine x_topl (x' := B) (by rw [hB]; first | (rw [if_pos (by assumption)]; decide) | (rw [if_neg (by assumption)]; decide)) ?_
                            refine x_lmul C d_Mo_odds_134 ?_
                            refine x_lstore C d_Mo_odds_135 (by decide) (lv' := [(7, .long ((pwN B (i)) * B)), (9, .int (nI i)), (5, .int (nI 1)), (4, .int (nI 1)), (0, .ref (Z.2.1 (0))), (1, .int (nI pq)), (2, .int (nI mq)), (3, .int (w))]) rfl ?_
                            refine x_iinc C d_Mo_odds_137 1 rfl (v := nI (i + 1)) (nI_1 _) (by decide) (lv' := [(9, .int (nI (i + 1))), (7, .long ((pwN B (i)) * B)), (5, .int (nI 1)), (4, .int (nI 1)), (0, .ref (Z.2.1 (0))), (1, .int (nI pq)), (2, .int (nI mq)), (3, .int (w))]) rfl ?_
                            refine x_goto C d_Mo_odds_140 111 (by decide) ?_
                            refine x_lve (lv' := [(9, .int (nI (i + 1))), (7, .long (pwN B (i + 1))), (5, .int (nI 1)), (4, .int (nI 1)), (0, .ref (Z.2.1 (0))), (1, .int (nI pq)), (2, .int (nI mq)), (3, .int (w))]) rfl ?_
                            exact ih_111 (i + 1) (by omega) (by omega)
                    refine x_lv [0, 1, 3, 4, 5, 6, 7, 8] (lv' := [(9, .int (nI 0)), (7, .long (1)), (5, .int (nI 1)), (4, .int (nI 1)), (0, .ref (Z.2.1 (0))), (1, .int (nI pq)), (2, .int (nI mq)), (3, .int (w))]) rfl ?_
                    refine x_lve (lv' := [(9, .int (nI 0)), (7, .long (pwN B (0))), (5, .int (nI 1)), (4, .int (nI 1)), (0, .ref (Z.2.1 (0))), (1, .int (nI pq)), (2, .int (nI mq)), (3, .int (w))]) rfl ?_
                    exact LP_111 (mq + 1) 0 (Nat.zero_le _) (by omega)
                  · exact absurd c_9 (by decide)
              · skip
                refine x_iload C d_Mo_odds_78 1 rfl ?_
                refine x_istore C d_Mo_odds_80 (by decide) (lv' := [(6, .int (nI 2)), (5, .int (nI 16)), (4, .int (nI 2)), (0, .ref (Z.2.1 (0))), (1, .int (nI pq)), (2, .int (nI mq)), (3, .int (w))]) rfl ?_
                refine x_iload C d_Mo_odds_82 0 rfl ?_
                refine x_ifeq C d_Mo_odds_84 105 (by decide) (fun c_12 => ?_) (fun c_12 => ?_)
                · exact absurd c_12 (by decide)
                · refine x_iload C d_Mo_odds_87 1 rfl ?_
                  refine x_iload C d_Mo_odds_89 0 rfl ?_
                  refine x_irem C d_Mo_odds_91 (by assumption) ?_
                  refine x_topi (x' := 0) (by decide) ?_
                  refine x_istore C d_Mo_odds_92 (by decide) (lv' := [(7, .int (0)), (6, .int (nI 2)), (5, .int (nI 16)), (4, .int (nI 2)), (0, .ref (Z.2.1 (0))), (1, .int (nI pq)), (2, .int (nI mq)), (3, .int (w))]) rfl ?_
                  refine x_iload C d_Mo_odds_94 1 rfl ?_
                  refine x_istore C d_Mo_odds_96 (by decide) (lv' := [(5, .int (nI 2)), (7, .int (0)), (6, .int (nI 2)), (4, .int (nI 2)), (0, .ref (Z.2.1 (0))), (1, .int (nI pq)), (2, .int (nI mq)), (3, .int (w))]) rfl ?_
                  refine x_iload C d_Mo_odds_98 1 rfl ?_
                  refine x_istore C d_Mo_odds_100 (by decide) (lv' := [(6, .int (0)), (5, .int (nI 2)), (7, .int (0)), (4, .int (nI 2)), (0, .ref (Z.2.1 (0))), (1, .int (nI pq)), (2, .int (nI mq)), (3, .int (w))]) rfl ?_
                  refine x_goto C d_Mo_odds_102 82 (by decide) ?_
                  refine x_iload C d_Mo_odds_82 0 rfl ?_
                  refine x_ifeq C d_Mo_odds_84 105 (by decide) (fun c_13 => ?_) (fun c_13 => ?_)
                  · obtain ⟨B, hB⟩ : ∃ B : Int64, B = ((if w = 0 then nI 2 else 16) / nI (Nat.gcd (nI 2).toNatClampNeg 16)).toInt64 := ⟨_, rfl⟩
                    have hbase : pwN B mq = pwN (((if w = 0 then nI 2 else 16) / nI (Nat.gcd (nI 2).toNatClampNeg 16)).toInt64) mq := by rw [hB]
                    refine x_lconst C d_Mo_odds_105 (v := 1) (by decide) ?_
                    refine x_lstore C d_Mo_odds_106 (by decide) (lv' := [(7, .long (1)), (6, .int (0)), (5, .int (nI 2)), (4, .int (nI 2)), (0, .ref (Z.2.1 (0))), (1, .int (nI pq)), (2, .int (nI mq)), (3, .int (w))]) rfl ?_
                    refine x_iconst C d_Mo_odds_108 (v := 0) (by decide) ?_
                    refine x_topi (show (0 : Int32) = nI 0 by decide) ?_
                    refine x_istore C d_Mo_odds_109 (by decide) (lv' := [(9, .int (nI 0)), (7, .long (1)), (6, .int (0)), (5, .int (nI 2)), (4, .int (nI 2)), (0, .ref (Z.2.1 (0))), (1, .int (nI pq)), (2, .int (nI mq)), (3, .int (w))]) rfl ?_
                    have LP_111 : ∀ (f_ i : Nat), i ≤ mq → mq - i < f_ → WX X 10 yM Z (QX X yM Z (QcL yM Z (if (0 ≤ (nI pq) ∧ (nI pq) < g 0 1) ∧ (0 ≤ (nI mq) ∧ (nI mq) ≤ 15) ∧ (0 ≤ w ∧ w ≤ 1) then pwN (((if w = 0 then ctmM (g 0) (nI pq).toNatClampNeg (sz (g 0)) 16 else 16) / nI (Nat.gcd (ctmM (g 0) (nI pq).toNatClampNeg (sz (g 0)) 16).toNatClampNeg 16)).toInt64) (nI mq).toNatClampNeg else (-1000001 : Int32).toInt64) (if (0 ≤ (nI pq) ∧ (nI pq) < g 0 1) ∧ (0 ≤ (nI mq) ∧ (nI mq) ≤ 15) ∧ (0 ≤ w ∧ w ≤ 1) then g else va_up g 4 (mfnR (g 4) 0)))) (g) 111 [(9, .int (nI i)), (7, .long (pwN B (i))), (5, .int (nI 2)), (4, .int (nI 2)), (0, .ref (Z.2.1 (0))), (1, .int (nI pq)), (2, .int (nI mq)), (3, .int (w))] [] := by
                      intro f_
                      induction f_ with
                      | zero => intro i h1_ h2_; exact absurd h2_ (Nat.not_lt_zero _)
                      | succ f_ ih_111 =>
                        intro i hi_111 hf_111
                        refine x_iload C d_Mo_odds_111 0 rfl ?_
                        refine x_iload_n C d_Mo_odds_113 6 rfl rfl ?_
                        refine x_icmp_ge C d_Mo_odds_114 143 (by decide) (fun c_14 => ?_) (fun c_14 => ?_)
                        · have nc_14 := Int32.not_lt.mpr c_14
                          have mc_14 : mq ≤ i := (nI_leI (by omega) (by omega)).mp (show nI mq ≤ nI i from c_14)
                          have e_i : mq = i := by omega
                          subst e_i
                          refine x_lload C d_Mo_odds_143 1 rfl ?_
                          exact x_lret C (by rw [if_pos (by simp [*])]; simp only [hcp, hcm, ekk]; rw [hbase]) (by rw [if_pos (by simp [*])]) d_Mo_odds_145
                        · have nc_14 := Int32.not_le.mp c_14
                          have mc_14 : ¬ mq ≤ i := fun z_ => (show ¬ nI mq ≤ nI i from c_14) ((nI_leI (by omega) (by omega)).mpr z_)
                          refine x_lload C d_Mo_odds_117 1 rfl ?_
                          refine x_iload_n C d_Mo_odds_119 7 rfl rfl ?_
                          refine x_ifne C d_Mo_odds_120 128 (by decide) (fun c_15 => ?_) (fun c_15 => ?_)
                          · refine x_bipush C d_Mo_odds_128 (v := 16) (by decide) ?_
                            refine x_iload C d_Mo_odds_130 2 rfl ?_
                            refine x_idiv C d_Mo_odds_132 (by decide) ?_
                            refine x_topi (x' := 8) (by decide) ?_
                            refine x_i2l C d_Mo_odds_133 ?_
                            refine x_topl (x' := B) (by rw [hB]; first | (rw [if_pos (by assumption)]; decide) | (rw [if_neg (by assumption)]; decide)) ?_
                            refine x_lmul C d_Mo_odds_134 ?_
                            refine x_lstore C d_Mo_odds_135 (by decide) (lv' := [(7, .long ((pwN B (i)) * B)), (9, .int (nI i)), (5, .int (nI 2)), (4, .int (nI 2)), (0, .ref (Z.2.1 (0))), (1, .int (nI pq)), (2, .int (nI mq)), (3, .int (w))]) rfl ?_
                            refine x_iinc C d_Mo_odds_137 1 rfl (v := nI (i + 1)) (nI_1 _) (by decide) (lv' := [(9, .int (nI (i + 1))), (7, .long ((pwN B (i)) * B)), (5, .int (nI 2)), (4, .int (nI 2)), (0, .ref (Z.2.1 (0))), (1, .int (nI pq)), (2, .int (nI mq)), (3, .int (w))]) rfl ?_
                            refine x_goto C d_Mo_odds_140 111 (by decide) ?_
                            refine x_lve (lv' := [(9, .int (nI (i + 1))), (7, .long (pwN B (i + 1))), (5, .int (nI 2)), (4, .int (nI 2)), (0, .ref (Z.2.1 (0))), (1, .int (nI pq)), (2, .int (nI mq)), (3, .int (w))]) rfl ?_
                            exact ih_111 (i + 1) (by omega) (by omega)
                          · refine x_iload C d_Mo_odds_123 3 rfl ?_
                            refine x_goto C d_Mo_odds_125 130 (by decide) ?_
                            refine x_iload C d_Mo_odds_130 2 rfl ?_
                            refine x_idiv C d_Mo_odds_132 (by decide) ?_
                            refine x_topi (x' := 1) (by decide) ?_
                            refine x_i2l C d_Mo_odds_133 ?_
                            refine x_topl (x' := B) (by rw [hB]; first | (rw [if_pos (by assumption)]; decide) | (rw [if_neg (by assumption)]; decide)) ?_
                            refine x_lmul C d_Mo_odds_134 ?_
                            refine x_lstore C d_Mo_odds_135 (by decide) (lv' := [(7, .long ((pwN B (i)) * B)), (9, .int (nI i)), (5, .int (nI 2)), (4, .int (nI 2)), (0, .ref (Z.2.1 (0))), (1, .int (nI pq)), (2, .int (nI mq)), (3, .int (w))]) rfl ?_
                            refine x_iinc C d_Mo_odds_137 1 rfl (v := nI (i + 1)) (nI_1 _) (by decide) (lv' := [(9, .int (nI (i + 1))), (7, .long ((pwN B (i)) * B)), (5, .int (nI 2)), (4, .int (nI 2)), (0, .ref (Z.2.1 (0))), (1, .int (nI pq)), (2, .int (nI mq)), (3, .int (w))]) rfl ?_
                            refine x_goto C d_Mo_odds_140 111 (by decide) ?_
                            refine x_lve (lv' := [(9, .int (nI (i + 1))), (7, .long (pwN B (i + 1))), (5, .int (nI 2)), (4, .int (nI 2)), (0, .ref (Z.2.1 (0))), (1, .int (nI pq)), (2, .int (nI mq)), (3, .int (w))]) rfl ?_
                            exact ih_111 (i + 1) (by omega) (by omega)
                    refine x_lv [0, 1, 3, 4, 5, 6, 7, 8] (lv' := [(9, .int (nI 0)), (7, .long (1)), (5, .int (nI 2)), (4, .int (nI 2)), (0, .ref (Z.2.1 (0))), (1, .int (nI pq)), (2, .int (nI mq)), (3, .int (w))]) rfl ?_
                    refine x_lve (lv' := [(9, .int (nI 0)), (7, .long (pwN B (0))), (5, .int (nI 2)), (4, .int (nI 2)), (0, .ref (Z.2.1 (0))), (1, .int (nI pq)), (2, .int (nI mq)), (3, .int (w))]) rfl ?_
                    exact LP_111 (mq + 1) 0 (Nat.zero_le _) (by omega)
                  · exact absurd c_13 (by decide)
              · skip
                refine x_iload C d_Mo_odds_78 1 rfl ?_
                refine x_istore C d_Mo_odds_80 (by decide) (lv' := [(6, .int (nI 3)), (5, .int (nI 16)), (4, .int (nI 3)), (0, .ref (Z.2.1 (0))), (1, .int (nI pq)), (2, .int (nI mq)), (3, .int (w))]) rfl ?_
                refine x_iload C d_Mo_odds_82 0 rfl ?_
                refine x_ifeq C d_Mo_odds_84 105 (by decide) (fun c_16 => ?_) (fun c_16 => ?_)
                · exact absurd c_16 (by decide)
                · refine x_iload C d_Mo_odds_87 1 rfl ?_
                  refine x_iload C d_Mo_odds_89 0 rfl ?_
                  refine x_irem C d_Mo_odds_91 (by assumption) ?_
                  refine x_topi (x' := 1) (by decide) ?_
                  refine x_istore C d_Mo_odds_92 (by decide) (lv' := [(7, .int (1)), (6, .int (nI 3)), (5, .int (nI 16)), (4, .int (nI 3)), (0, .ref (Z.2.1 (0))), (1, .int (nI pq)), (2, .int (nI mq)), (3, .int (w))]) rfl ?_
                  refine x_iload C d_Mo_odds_94 1 rfl ?_
                  refine x_istore C d_Mo_odds_96 (by decide) (lv' := [(5, .int (nI 3)), (7, .int (1)), (6, .int (nI 3)), (4, .int (nI 3)), (0, .ref (Z.2.1 (0))), (1, .int (nI pq)), (2, .int (nI mq)), (3, .int (w))]) rfl ?_
                  refine x_iload C d_Mo_odds_98 1 rfl ?_
                  refine x_istore C d_Mo_odds_100 (by decide) (lv' := [(6, .int (1)), (5, .int (nI 3)), (7, .int (1)), (4, .int (nI 3)), (0, .ref (Z.2.1 (0))), (1, .int (nI pq)), (2, .int (nI mq)), (3, .int (w))]) rfl ?_
                  refine x_goto C d_Mo_odds_102 82 (by decide) ?_
                  refine x_iload C d_Mo_odds_82 0 rfl ?_
                  refine x_ifeq C d_Mo_odds_84 105 (by decide) (fun c_17 => ?_) (fun c_17 => ?_)
                  · exact absurd c_17 (by decide)
                  · refine x_iload C d_Mo_odds_87 1 rfl ?_
                    refine x_iload C d_Mo_odds_89 0 rfl ?_
                    refine x_irem C d_Mo_odds_91 (by decide) ?_
                    refine x_topi (x' := 0) (by decide) ?_
                    refine x_istore C d_Mo_odds_92 (by decide) (lv' := [(7, .int (0)), (6, .int (1)), (5, .int (nI 3)), (4, .int (nI 3)), (0, .ref (Z.2.1 (0))), (1, .int (nI pq)), (2, .int (nI mq)), (3, .int (w))]) rfl ?_
                    refine x_iload C d_Mo_odds_94 1 rfl ?_
                    refine x_topi (show (1 : Int32) = nI 1 by decide) ?_
                    refine x_istore C d_Mo_odds_96 (by decide) (lv' := [(5, .int (nI 1)), (7, .int (0)), (6, .int (1)), (4, .int (nI 3)), (0, .ref (Z.2.1 (0))), (1, .int (nI pq)), (2, .int (nI mq)), (3, .int (w))]) rfl ?_
                    refine x_iload C d_Mo_odds_98 1 rfl ?_
                    refine x_istore C d_Mo_odds_100 (by decide) (lv' := [(6, .int (0)), (5, .int (nI 1)), (7, .int (0)), (4, .int (nI 3)), (0, .ref (Z.2.1 (0))), (1, .int (nI pq)), (2, .int (nI mq)), (3, .int (w))]) rfl ?_
                    refine x_goto C d_Mo_odds_102 82 (by decide) ?_
                    refine x_iload C d_Mo_odds_82 0 rfl ?_
                    refine x_ifeq C d_Mo_odds_84 105 (by decide) (fun c_18 => ?_) (fun c_18 => ?_)
                    · obtain ⟨B, hB⟩ : ∃ B : Int64, B = ((if w = 0 then nI 3 else 16) / nI (Nat.gcd (nI 3).toNatClampNeg 16)).toInt64 := ⟨_, rfl⟩
                      have hbase : pwN B mq = pwN (((if w = 0 then nI 3 else 16) / nI (Nat.gcd (nI 3).toNatClampNeg 16)).toInt64) mq := by rw [hB]
                      refine x_lconst C d_Mo_odds_105 (v := 1) (by decide) ?_
                      refine x_lstore C d_Mo_odds_106 (by decide) (lv' := [(7, .long (1)), (6, .int (0)), (5, .int (nI 1)), (4, .int (nI 3)), (0, .ref (Z.2.1 (0))), (1, .int (nI pq)), (2, .int (nI mq)), (3, .int (w))]) rfl ?_
                      refine x_iconst C d_Mo_odds_108 (v := 0) (by decide) ?_
                      refine x_topi (show (0 : Int32) = nI 0 by decide) ?_
                      refine x_istore C d_Mo_odds_109 (by decide) (lv' := [(9, .int (nI 0)), (7, .long (1)), (6, .int (0)), (5, .int (nI 1)), (4, .int (nI 3)), (0, .ref (Z.2.1 (0))), (1, .int (nI pq)), (2, .int (nI mq)), (3, .int (w))]) rfl ?_
                      have LP_111 : ∀ (f_ i : Nat), i ≤ mq → mq - i < f_ → WX X 10 yM Z (QX X yM Z (QcL yM Z (if (0 ≤ (nI pq) ∧ (nI pq) < g 0 1) ∧ (0 ≤ (nI mq) ∧ (nI mq) ≤ 15) ∧ (0 ≤ w ∧ w ≤ 1) then pwN (((if w = 0 then ctmM (g 0) (nI pq).toNatClampNeg (sz (g 0)) 16 else 16) / nI (Nat.gcd (ctmM (g 0) (nI pq).toNatClampNeg (sz (g 0)) 16).toNatClampNeg 16)).toInt64) (nI mq).toNatClampNeg else (-1000001 : Int32).toInt64) (if (0 ≤ (nI pq) ∧ (nI pq) < g 0 1) ∧ (0 ≤ (nI mq) ∧ (nI mq) ≤ 15) ∧ (0 ≤ w ∧ w ≤ 1) then g else va_up g 4 (mfnR (g 4) 0)))) (g) 111 [(9, .int (nI i)), (7, .long (pwN B (i))), (5, .int (nI 1)), (4, .int (nI 3)), (0, .ref (Z.2.1 (0))), (1, .int (nI pq)), (2, .int (nI mq)), (3, .int (w))] [] := by
                        intro f_
                        induction f_ with
                        | zero => intro i h1_ h2_; exact absurd h2_ (Nat.not_lt_zero _)
                        | succ f_ ih_111 =>
                          intro i hi_111 hf_111
                          refine x_iload C d_Mo_odds_111 0 rfl ?_
                          refine x_iload_n C d_Mo_odds_113 6 rfl rfl ?_
                          refine x_icmp_ge C d_Mo_odds_114 143 (by decide) (fun c_19 => ?_) (fun c_19 => ?_)
                          · have nc_19 := Int32.not_lt.mpr c_19
                            have mc_19 : mq ≤ i := (nI_leI (by omega) (by omega)).mp (show nI mq ≤ nI i from c_19)
                            have e_i : mq = i := by omega
                            subst e_i
                            refine x_lload C d_Mo_odds_143 1 rfl ?_
                            exact x_lret C (by rw [if_pos (by simp [*])]; simp only [hcp, hcm, ekk]; rw [hbase]) (by rw [if_pos (by simp [*])]) d_Mo_odds_145
                          · have nc_19 := Int32.not_le.mp c_19
                            have mc_19 : ¬ mq ≤ i := fun z_ => (show ¬ nI mq ≤ nI i from c_19) ((nI_leI (by omega) (by omega)).mpr z_)
                            refine x_lload C d_Mo_odds_117 1 rfl ?_
                            refine x_iload_n C d_Mo_odds_119 7 rfl rfl ?_
                            refine x_ifne C d_Mo_odds_120 128 (by decide) (fun c_20 => ?_) (fun c_20 => ?_)
                            · refine x_bipush C d_Mo_odds_128 (v := 16) (by decide) ?_
                              refine x_iload C d_Mo_odds_130 2 rfl ?_
                              refine x_idiv C d_Mo_odds_132 (by decide) ?_
                              refine x_topi (x' := 16) (by decide) ?_
                              refine x_i2l C d_Mo_odds_133 ?_
                              refine x_topl (x' := B) (by rw [hB]; first | (rw [if_pos (by assumption)]; decide) | (rw [if_neg (by assumption)]; decide)) ?_
                              refine x_lmul C d_Mo_odds_134 ?_
                              refine x_lstore C d_Mo_odds_135 (by decide) (lv' := [(7, .long ((pwN B (i)) * B)), (9, .int (nI i)), (5, .int (nI 1)), (4, .int (nI 3)), (0, .ref (Z.2.1 (0))), (1, .int (nI pq)), (2, .int (nI mq)), (3, .int (w))]) rfl ?_
                              refine x_iinc C d_Mo_odds_137 1 rfl (v := nI (i + 1)) (nI_1 _) (by decide) (lv' := [(9, .int (nI (i + 1))), (7, .long ((pwN B (i)) * B)), (5, .int (nI 1)), (4, .int (nI 3)), (0, .ref (Z.2.1 (0))), (1, .int (nI pq)), (2, .int (nI mq)), (3, .int (w))]) rfl ?_
                              refine x_goto C d_Mo_odds_140 111 (by decide) ?_
                              refine x_lve (lv' := [(9, .int (nI (i + 1))), (7, .long (pwN B (i + 1))), (5, .int (nI 1)), (4, .int (nI 3)), (0, .ref (Z.2.1 (0))), (1, .int (nI pq)), (2, .int (nI mq)), (3, .int (w))]) rfl ?_
                              exact ih_111 (i + 1) (by omega) (by omega)
                            · refine x_iload C d_Mo_odds_123 3 rfl ?_
                              refine x_goto C d_Mo_odds_125 130 (by decide) ?_
                              refine x_iload C d_Mo_odds_130 2 rfl ?_
                              refine x_idiv C d_Mo_odds_132 (by decide) ?_
                              refine x_topi (x' := 3) (by decide) ?_
                              refine x_i2l C d_Mo_odds_133 ?_
                              refine x_topl (x' := B) (by rw [hB]; first | (rw [if_pos (by assumption)]; decide) | (rw [if_neg (by assumption)]; decide)) ?_
                              refine x_lmul C d_Mo_odds_134 ?_
                              refine x_lstore C d_Mo_odds_135 (by decide) (lv' := [(7, .long ((pwN B (i)) * B)), (9, .int (nI i)), (5, .int (nI 1)), (4, .int (nI 3)), (0, .ref (Z.2.1 (0))), (1, .int (nI pq)), (2, .int (nI mq)), (3, .int (w))]) rfl ?_
                              refine x_iinc C d_Mo_odds_137 1 rfl (v := nI (i + 1)) (nI_1 _) (by decide) (lv' := [(9, .int (nI (i + 1))), (7, .long ((pwN B (i)) * B)), (5, .int (nI 1)), (4, .int (nI 3)), (0, .ref (Z.2.1 (0))), (1, .int (nI pq)), (2, .int (nI mq)), (3, .int (w))]) rfl ?_
                              refine x_goto C d_Mo_odds_140 111 (by decide) ?_
                              refine x_lve (lv' := [(9, .int (nI (i + 1))), (7, .long (pwN B (i + 1))), (5, .int (nI 1)), (4, .int (nI 3)), (0, .ref (Z.2.1 (0))), (1, .int (nI pq)), (2, .int (nI mq)), (3, .int (w))]) rfl ?_
                              exact ih_111 (i + 1) (by omega) (by omega)
                      refine x_lv [0, 1, 3, 4, 5, 6, 7, 8] (lv' := [(9, .int (nI 0)), (7, .long (1)), (5, .int (nI 1)), (4, .int (nI 3)), (0, .ref (Z.2.1 (0))), (1, .int (nI pq)), (2, .int (nI mq)), (3, .int (w))]) rfl ?_
                      refine x_lve (lv' := [(9, .int (nI 0)), (7, .long (pwN B (0))), (5, .int (nI 1)), (4, .int (nI 3)), (0, .ref (Z.2.1 (0))), (1, .int (nI pq)), (2, .int (nI mq)), (3, .int (w))]) rfl ?_
                      exact LP_111 (mq + 1) 0 (Nat.zero_le _) (by omega)
                    · exact absurd c_18 (by decide)
              · skip
                refine x_iload C d_Mo_odds_78 1 rfl ?_
                refine x_istore C d_Mo_odds_80 (by decide) (lv' := [(6, .int (nI 4)), (5, .int (nI 16)), (4, .int (nI 4)), (0, .ref (Z.2.1 (0))), (1, .int (nI pq)), (2, .int (nI mq)), (3, .int (w))]) rfl ?_
                refine x_iload C d_Mo_odds_82 0 rfl ?_
                refine x_ifeq C d_Mo_odds_84 105 (by decide) (fun c_21 => ?_) (fun c_21 => ?_)
                · exact absurd c_21 (by decide)
                · refine x_iload C d_Mo_odds_87 1 rfl ?_
                  refine x_iload C d_Mo_odds_89 0 rfl ?_
                  refine x_irem C d_Mo_odds_91 (by assumption) ?_
                  refine x_topi (x' := 0) (by decide) ?_
                  refine x_istore C d_Mo_odds_92 (by decide) (lv' := [(7, .int (0)), (6, .int (nI 4)), (5, .int (nI 16)), (4, .int (nI 4)), (0, .ref (Z.2.1 (0))), (1, .int (nI pq)), (2, .int (nI mq)), (3, .int (w))]) rfl ?_
                  refine x_iload C d_Mo_odds_94 1 rfl ?_
                  refine x_istore C d_Mo_odds_96 (by decide) (lv' := [(5, .int (nI 4)), (7, .int (0)), (6, .int (nI 4)), (4, .int (nI 4)), (0, .ref (Z.2.1 (0))), (1, .int (nI pq)), (2, .int (nI mq)), (3, .int (w))]) rfl ?_
                  refine x_iload C d_Mo_odds_98 1 rfl ?_
                  refine x_istore C d_Mo_odds_100 (by decide) (lv' := [(6, .int (0)), (5, .int (nI 4)), (7, .int (0)), (4, .int (nI 4)), (0, .ref (Z.2.1 (0))), (1, .int (nI pq)), (2, .int (nI mq)), (3, .int (w))]) rfl ?_
                  refine x_goto C d_Mo_odds_102 82 (by decide) ?_
                  refine x_iload C d_Mo_odds_82 0 rfl ?_
                  refine x_ifeq C d_Mo_odds_84 105 (by decide) (fun c_22 => ?_) (fun c_22 => ?_)
                  · obtain ⟨B, hB⟩ : ∃ B : Int64, B = ((if w = 0 then nI 4 else 16) / nI (Nat.gcd (nI 4).toNatClampNeg 16)).toInt64 := ⟨_, rfl⟩
                    have hbase : pwN B mq = pwN (((if w = 0 then nI 4 else 16) / nI (Nat.gcd (nI 4).toNatClampNeg 16)).toInt64) mq := by rw [hB]
                    refine x_lconst C d_Mo_odds_105 (v := 1) (by decide) ?_
                    refine x_lstore C d_Mo_odds_106 (by decide) (lv' := [(7, .long (1)), (6, .int (0)), (5, .int (nI 4)), (4, .int (nI 4)), (0, .ref (Z.2.1 (0))), (1, .int (nI pq)), (2, .int (nI mq)), (3, .int (w))]) rfl ?_
                    refine x_iconst C d_Mo_odds_108 (v := 0) (by decide) ?_
                    refine x_topi (show (0 : Int32) = nI 0 by decide) ?_
                    refine x_istore C d_Mo_odds_109 (by decide) (lv' := [(9, .int (nI 0)), (7, .long (1)), (6, .int (0)), (5, .int (nI 4)), (4, .int (nI 4)), (0, .ref (Z.2.1 (0))), (1, .int (nI pq)), (2, .int (nI mq)), (3, .int (w))]) rfl ?_
                    have LP_111 : ∀ (f_ i : Nat), i ≤ mq → mq - i < f_ → WX X 10 yM Z (QX X yM Z (QcL yM Z (if (0 ≤ (nI pq) ∧ (nI pq) < g 0 1) ∧ (0 ≤ (nI mq) ∧ (nI mq) ≤ 15) ∧ (0 ≤ w ∧ w ≤ 1) then pwN (((if w = 0 then ctmM (g 0) (nI pq).toNatClampNeg (sz (g 0)) 16 else 16) / nI (Nat.gcd (ctmM (g 0) (nI pq).toNatClampNeg (sz (g 0)) 16).toNatClampNeg 16)).toInt64) (nI mq).toNatClampNeg else (-1000001 : Int32).toInt64) (if (0 ≤ (nI pq) ∧ (nI pq) < g 0 1) ∧ (0 ≤ (nI mq) ∧ (nI mq) ≤ 15) ∧ (0 ≤ w ∧ w ≤ 1) then g else va_up g 4 (mfnR (g 4) 0)))) (g) 111 [(9, .int (nI i)), (7, .long (pwN B (i))), (5, .int (nI 4)), (4, .int (nI 4)), (0, .ref (Z.2.1 (0))), (1, .int (nI pq)), (2, .int (nI mq)), (3, .int (w))] [] := by
                      intro f_
                      induction f_ with
                      | zero => intro i h1_ h2_; exact absurd h2_ (Nat.not_lt_zero _)
                      | succ f_ ih_111 =>
                        intro i hi_111 hf_111
                        refine x_iload C d_Mo_odds_111 0 rfl ?_
                        refine x_iload_n C d_Mo_odds_113 6 rfl rfl ?_
                        refine x_icmp_ge C d_Mo_odds_114 143 (by decide) (fun c_23 => ?_) (fun c_23 => ?_)
                        · have nc_23 := Int32.not_lt.mpr c_23
                          have mc_23 : mq ≤ i := (nI_leI (by omega) (by omega)).mp (show nI mq ≤ nI i from c_23)
                          have e_i : mq = i := by omega
                          subst e_i
                          refine x_lload C d_Mo_odds_143 1 rfl ?_
                          exact x_lret C (by rw [if_pos (by simp [*])]; simp only [hcp, hcm, ekk]; rw [hbase]) (by rw [if_pos (by simp [*])]) d_Mo_odds_145
                        · have nc_23 := Int32.not_le.mp c_23
                          have mc_23 : ¬ mq ≤ i := fun z_ => (show ¬ nI mq ≤ nI i from c_23) ((nI_leI (by omega) (by omega)).mpr z_)
                          refine x_lload C d_Mo_odds_117 1 rfl ?_
                          refine x_iload_n C d_Mo_odds_119 7 rfl rfl ?_
                          refine x_ifne C d_Mo_odds_120 128 (by decide) (fun c_24 => ?_) (fun c_24 => ?_)
                          · refine x_bipush C d_Mo_odds_128 (v := 16) (by decide) ?_
                            refine x_iload C d_Mo_odds_130 2 rfl ?_
                            refine x_idiv C d_Mo_odds_132 (by decide) ?_
                            refine x_topi (x' := 4) (by decide) ?_
                            refine x_i2l C d_Mo_odds_133 ?_
                            refine x_topl (x' := B) (by rw [hB]; first | (rw [if_pos (by assumption)]; decide) | (rw [if_neg (by assumption)]; decide)) ?_
                            refine x_lmul C d_Mo_odds_134 ?_
                            refine x_lstore C d_Mo_odds_135 (by decide) (lv' := [(7, .long ((pwN B (i)) * B)), (9, .int (nI i)), (5, .int (nI 4)), (4, .int (nI 4)), (0, .ref (Z.2.1 (0))), (1, .int (nI pq)), (2, .int (nI mq)), (3, .int (w))]) rfl ?_
                            refine x_iinc C d_Mo_odds_137 1 rfl (v := nI (i + 1)) (nI_1 _) (by decide) (lv' := [(9, .int (nI (i + 1))), (7, .long ((pwN B (i)) * B)), (5, .int (nI 4)), (4, .int (nI 4)), (0, .ref (Z.2.1 (0))), (1, .int (nI pq)), (2, .int (nI mq)), (3, .int (w))]) rfl ?_
                            refine x_goto C d_Mo_odds_140 111 (by decide) ?_
                            refine x_lve (lv' := [(9, .int (nI (i + 1))), (7, .long (pwN B (i + 1))), (5, .int (nI 4)), (4, .int (nI 4)), (0, .ref (Z.2.1 (0))), (1, .int (nI pq)), (2, .int (nI mq)), (3, .int (w))]) rfl ?_
                            exact ih_111 (i + 1) (by omega) (by omega)
                          · refine x_iload C d_Mo_odds_123 3 rfl ?_
                            refine x_goto C d_Mo_odds_125 130 (by decide) ?_
                            refine x_iload C d_Mo_odds_130 2 rfl ?_
                            refine x_idiv C d_Mo_odds_132 (by decide) ?_
                            refine x_topi (x' := 1) (by decide) ?_
                            refine x_i2l C d_Mo_odds_133 ?_
                            refine x_topl (x' := B) (by rw [hB]; first | (rw [if_pos (by assumption)]; decide) | (rw [if_neg (by assumption)]; decide)) ?_
                            refine x_lmul C d_Mo_odds_134 ?_
                            refine x_lstore C d_Mo_odds_135 (by decide) (lv' := [(7, .long ((pwN B (i)) * B)), (9, .int (nI i)), (5, .int (nI 4)), (4, .int (nI 4)), (0, .ref (Z.2.1 (0))), (1, .int (nI pq)), (2, .int (nI mq)), (3, .int (w))]) rfl ?_
                            refine x_iinc C d_Mo_odds_137 1 rfl (v := nI (i + 1)) (nI_1 _) (by decide) (lv' := [(9, .int (nI (i + 1))), (7, .long ((pwN B (i)) * B)), (5, .int (nI 4)), (4, .int (nI 4)), (0, .ref (Z.2.1 (0))), (1, .int (nI pq)), (2, .int (nI mq)), (3, .int (w))]) rfl ?_
                            refine x_goto C d_Mo_odds_140 111 (by decide) ?_
                            refine x_lve (lv' := [(9, .int (nI (i + 1))), (7, .long (pwN B (i + 1))), (5, .int (nI 4)), (4, .int (nI 4)), (0, .ref (Z.2.1 (0))), (1, .int (nI pq)), (2, .int (nI mq)), (3, .int (w))]) rfl ?_
                            exact ih_111 (i + 1) (by omega) (by omega)
                    refine x_lv [0, 1, 3, 4, 5, 6, 7, 8] (lv' := [(9, .int (nI 0)), (7, .long (1)), (5, .int (nI 4)), (4, .int (nI 4)), (0, .ref (Z.2.1 (0))), (1, .int (nI pq)), (2, .int (nI mq)), (3, .int (w))]) rfl ?_
                    refine x_lve (lv' := [(9, .int (nI 0)), (7, .long (pwN B (0))), (5, .int (nI 4)), (4, .int (nI 4)), (0, .ref (Z.2.1 (0))), (1, .int (nI pq)), (2, .int (nI mq)), (3, .int (w))]) rfl ?_
                    exact LP_111 (mq + 1) 0 (Nat.zero_le _) (by omega)
                  · exact absurd c_22 (by decide)
              · skip
                refine x_iload C d_Mo_odds_78 1 rfl ?_
                refine x_istore C d_Mo_odds_80 (by decide) (lv' := [(6, .int (nI 5)), (5, .int (nI 16)), (4, .int (nI 5)), (0, .ref (Z.2.1 (0))), (1, .int (nI pq)), (2, .int (nI mq)), (3, .int (w))]) rfl ?_
                refine x_iload C d_Mo_odds_82 0 rfl ?_
                refine x_ifeq C d_Mo_odds_84 105 (by decide) (fun c_25 => ?_) (fun c_25 => ?_)
                · exact absurd c_25 (by decide)
                · refine x_iload C d_Mo_odds_87 1 rfl ?_
                  refine x_iload C d_Mo_odds_89 0 rfl ?_
                  refine x_irem C d_Mo_odds_91 (by assumption) ?_
                  refine x_topi (x' := 1) (by decide) ?_
                  refine x_istore C d_Mo_odds_92 (by decide) (lv' := [(7, .int (1)), (6, .int (nI 5)), (5, .int (nI 16)), (4, .int (nI 5)), (0, .ref (Z.2.1 (0))), (1, .int (nI pq)), (2, .int (nI mq)), (3, .int (w))]) rfl ?_
                  refine x_iload C d_Mo_odds_94 1 rfl ?_
                  refine x_istore C d_Mo_odds_96 (by decide) (lv' := [(5, .int (nI 5)), (7, .int (1)), (6, .int (nI 5)), (4, .int (nI 5)), (0, .ref (Z.2.1 (0))), (1, .int (nI pq)), (2, .int (nI mq)), (3, .int (w))]) rfl ?_
                  refine x_iload C d_Mo_odds_98 1 rfl ?_
                  refine x_istore C d_Mo_odds_100 (by decide) (lv' := [(6, .int (1)), (5, .int (nI 5)), (7, .int (1)), (4, .int (nI 5)), (0, .ref (Z.2.1 (0))), (1, .int (nI pq)), (2, .int (nI mq)), (3, .int (w))]) rfl ?_
                  refine x_goto C d_Mo_odds_102 82 (by decide) ?_
                  refine x_iload C d_Mo_odds_82 0 rfl ?_
                  refine x_ifeq C d_Mo_odds_84 105 (by decide) (fun c_26 => ?_) (fun c_26 => ?_)
                  · exact absurd c_26 (by decide)
                  · refine x_iload C d_Mo_odds_87 1 rfl ?_
                    refine x_iload C d_Mo_odds_89 0 rfl ?_
                    refine x_irem C d_Mo_odds_91 (by decide) ?_
                    refine x_topi (x' := 0) (by decide) ?_
                    refine x_istore C d_Mo_odds_92 (by decide) (lv' := [(7, .int (0)), (6, .int (1)), (5, .int (nI 5)), (4, .int (nI 5)), (0, .ref (Z.2.1 (0))), (1, .int (nI pq)), (2, .int (nI mq)), (3, .int (w))]) rfl ?_
                    refine x_iload C d_Mo_odds_94 1 rfl ?_
                    refine x_topi (show (1 : Int32) = nI 1 by decide) ?_
                    refine x_istore C d_Mo_odds_96 (by decide) (lv' := [(5, .int (nI 1)), (7, .int (0)), (6, .int (1)), (4, .int (nI 5)), (0, .ref (Z.2.1 (0))), (1, .int (nI pq)), (2, .int (nI mq)), (3, .int (w))]) rfl ?_
                    refine x_iload C d_Mo_odds_98 1 rfl ?_
                    refine x_istore C d_Mo_odds_100 (by decide) (lv' := [(6, .int (0)), (5, .int (nI 1)), (7, .int (0)), (4, .int (nI 5)), (0, .ref (Z.2.1 (0))), (1, .int (nI pq)), (2, .int (nI mq)), (3, .int (w))]) rfl ?_
                    refine x_goto C d_Mo_odds_102 82 (by decide) ?_
                    refine x_iload C d_Mo_odds_82 0 rfl ?_
                    refine x_ifeq C d_Mo_odds_84 105 (by decide) (fun c_27 => ?_) (fun c_27 => ?_)
                    · obtain ⟨B, hB⟩ : ∃ B : Int64, B = ((if w = 0 then nI 5 else 16) / nI (Nat.gcd (nI 5).toNatClampNeg 16)).toInt64 := ⟨_, rfl⟩
                      have hbase : pwN B mq = pwN (((if w = 0 then nI 5 else 16) / nI (Nat.gcd (nI 5).toNatClampNeg 16)).toInt64) mq := by rw [hB]
                      refine x_lconst C d_Mo_odds_105 (v := 1) (by decide) ?_
                      refine x_lstore C d_Mo_odds_106 (by decide) (lv' := [(7, .long (1)), (6, .int (0)), (5, .int (nI 1)), (4, .int (nI 5)), (0, .ref (Z.2.1 (0))), (1, .int (nI pq)), (2, .int (nI mq)), (3, .int (w))]) rfl ?_
                      refine x_iconst C d_Mo_odds_108 (v := 0) (by decide) ?_
                      refine x_topi (show (0 : Int32) = nI 0 by decide) ?_
                      refine x_istore C d_Mo_odds_109 (by decide) (lv' := [(9, .int (nI 0)), (7, .long (1)), (6, .int (0)), (5, .int (nI 1)), (4, .int (nI 5)), (0, .ref (Z.2.1 (0))), (1, .int (nI pq)), (2, .int (nI mq)), (3, .int (w))]) rfl ?_
                      have LP_111 : ∀ (f_ i : Nat), i ≤ mq → mq - i < f_ → WX X 10 yM Z (QX X yM Z (QcL yM Z (if (0 ≤ (nI pq) ∧ (nI pq) < g 0 1) ∧ (0 ≤ (nI mq) ∧ (nI mq) ≤ 15) ∧ (0 ≤ w ∧ w ≤ 1) then pwN (((if w = 0 then ctmM (g 0) (nI pq).toNatClampNeg (sz (g 0)) 16 else 16) / nI (Nat.gcd (ctmM (g 0) (nI pq).toNatClampNeg (sz (g 0)) 16).toNatClampNeg 16)).toInt64) (nI mq).toNatClampNeg else (-1000001 : Int32).toInt64) (if (0 ≤ (nI pq) ∧ (nI pq) < g 0 1) ∧ (0 ≤ (nI mq) ∧ (nI mq) ≤ 15) ∧ (0 ≤ w ∧ w ≤ 1) then g else va_up g 4 (mfnR (g 4) 0)))) (g) 111 [(9, .int (nI i)), (7, .long (pwN B (i))), (5, .int (nI 1)), (4, .int (nI 5)), (0, .ref (Z.2.1 (0))), (1, .int (nI pq)), (2, .int (nI mq)), (3, .int (w))] [] := by
                        intro f_
                        induction f_ with
                        | zero => intro i h1_ h2_; exact absurd h2_ (Nat.not_lt_zero _)
                        | succ f_ ih_111 =>
                          intro i hi_111 hf_111
                          refine x_iload C d_Mo_odds_111 0 rfl ?_
                          refine x_iload_n C d_Mo_odds_113 6 rfl rfl ?_
                          refine x_icmp_ge C d_Mo_odds_114 143 (by decide) (fun c_28 => ?_) (fun c_28 => ?_)
                          · have nc_28 := Int32.not_lt.mpr c_28
                            have mc_28 : mq ≤ i := (nI_leI (by omega) (by omega)).mp (show nI mq ≤ nI i from c_28)
                            have e_i : mq = i := by omega
                            subst e_i
                            refine x_lload C d_Mo_odds_143 1 rfl ?_
                            exact x_lret C (by rw [if_pos (by simp [*])]; simp only [hcp, hcm, ekk]; rw [hbase]) (by rw [if_pos (by simp [*])]) d_Mo_odds_145
                          · have nc_28 := Int32.not_le.mp c_28
                            have mc_28 : ¬ mq ≤ i := fun z_ => (show ¬ nI mq ≤ nI i from c_28) ((nI_leI (by omega) (by omega)).mpr z_)
                            refine x_lload C d_Mo_odds_117 1 rfl ?_
                            refine x_iload_n C d_Mo_odds_119 7 rfl rfl ?_
                            refine x_ifne C d_Mo_odds_120 128 (by decide) (fun c_29 => ?_) (fun c_29 => ?_)
                            · refine x_bipush C d_Mo_odds_128 (v := 16) (by decide) ?_
                              refine x_iload C d_Mo_odds_130 2 rfl ?_
                              refine x_idiv C d_Mo_odds_132 (by decide) ?_
                              refine x_topi (x' := 16) (by decide) ?_
                              refine x_i2l C d_Mo_odds_133 ?_
                              refine x_topl (x' := B) (by rw [hB]; first | (rw [if_pos (by assumption)]; decide) | (rw [if_neg (by assumption)]; decide)) ?_
                              refine x_lmul C d_Mo_odds_134 ?_
                              refine x_lstore C d_Mo_odds_135 (by decide) (lv' := [(7, .long ((pwN B (i)) * B)), (9, .int (nI i)), (5, .int (nI 1)), (4, .int (nI 5)), (0, .ref (Z.2.1 (0))), (1, .int (nI pq)), (2, .int (nI mq)), (3, .int (w))]) rfl ?_
                              refine x_iinc C d_Mo_odds_137 1 rfl (v := nI (i + 1)) (nI_1 _) (by decide) (lv' := [(9, .int (nI (i + 1))), (7, .long ((pwN B (i)) * B)), (5, .int (nI 1)), (4, .int (nI 5)), (0, .ref (Z.2.1 (0))), (1, .int (nI pq)), (2, .int (nI mq)), (3, .int (w))]) rfl ?_
                              refine x_goto C d_Mo_odds_140 111 (by decide) ?_
                              refine x_lve (lv' := [(9, .int (nI (i + 1))), (7, .long (pwN B (i + 1))), (5, .int (nI 1)), (4, .int (nI 5)), (0, .ref (Z.2.1 (0))), (1, .int (nI pq)), (2, .int (nI mq)), (3, .int (w))]) rfl ?_
                              exact ih_111 (i + 1) (by omega) (by omega)
                            · refine x_iload C d_Mo_odds_123 3 rfl ?_
                              refine x_goto C d_Mo_odds_125 130 (by decide) ?_
                              refine x_iload C d_Mo_odds_130 2 rfl ?_
                              refine x_idiv C d_Mo_odds_132 (by decide) ?_
                              refine x_topi (x' := 5) (by decide) ?_
                              refine x_i2l C d_Mo_odds_133 ?_
                              refine x_topl (x' := B) (by rw [hB]; first | (rw [if_pos (by assumption)]; decide) | (rw [if_neg (by assumption)]; decide)) ?_
                              refine x_lmul C d_Mo_odds_134 ?_
                              refine x_lstore C d_Mo_odds_135 (by decide) (lv' := [(7, .long ((pwN B (i)) * B)), (9, .int (nI i)), (5, .int (nI 1)), (4, .int (nI 5)), (0, .ref (Z.2.1 (0))), (1, .int (nI pq)), (2, .int (nI mq)), (3, .int (w))]) rfl ?_
                              refine x_iinc C d_Mo_odds_137 1 rfl (v := nI (i + 1)) (nI_1 _) (by decide) (lv' := [(9, .int (nI (i + 1))), (7, .long ((pwN B (i)) * B)), (5, .int (nI 1)), (4, .int (nI 5)), (0, .ref (Z.2.1 (0))), (1, .int (nI pq)), (2, .int (nI mq)), (3, .int (w))]) rfl ?_
                              refine x_goto C d_Mo_odds_140 111 (by decide) ?_
                              refine x_lve (lv' := [(9, .int (nI (i + 1))), (7, .long (pwN B (i + 1))), (5, .int (nI 1)), (4, .int (nI 5)), (0, .ref (Z.2.1 (0))), (1, .int (nI pq)), (2, .int (nI mq)), (3, .int (w))]) rfl ?_
                              exact ih_111 (i + 1) (by omega) (by omega)
                      refine x_lv [0, 1, 3, 4, 5, 6, 7, 8] (lv' := [(9, .int (nI 0)), (7, .long (1)), (5, .int (nI 1)), (4, .int (nI 5)), (0, .ref (Z.2.1 (0))), (1, .int (nI pq)), (2, .int (nI mq)), (3, .int (w))]) rfl ?_
                      refine x_lve (lv' := [(9, .int (nI 0)), (7, .long (pwN B (0))), (5, .int (nI 1)), (4, .int (nI 5)), (0, .ref (Z.2.1 (0))), (1, .int (nI pq)), (2, .int (nI mq)), (3, .int (w))]) rfl ?_
                      exact LP_111 (mq + 1) 0 (Nat.zero_le _) (by omega)
                    · exact absurd c_27 (by decide)
              · skip
                refine x_iload C d_Mo_odds_78 1 rfl ?_
                refine x_istore C d_Mo_odds_80 (by decide) (lv' := [(6, .int (nI 6)), (5, .int (nI 16)), (4, .int (nI 6)), (0, .ref (Z.2.1 (0))), (1, .int (nI pq)), (2, .int (nI mq)), (3, .int (w))]) rfl ?_
                refine x_iload C d_Mo_odds_82 0 rfl ?_
                refine x_ifeq C d_Mo_odds_84 105 (by decide) (fun c_30 => ?_) (fun c_30 => ?_)
                · exact absurd c_30 (by decide)
                · refine x_iload C d_Mo_odds_87 1 rfl ?_
                  refine x_iload C d_Mo_odds_89 0 rfl ?_
                  refine x_irem C d_Mo_odds_91 (by assumption) ?_
                  refine x_topi (x' := 4) (by decide) ?_
                  refine x_istore C d_Mo_odds_92 (by decide) (lv' := [(7, .int (4)), (6, .int (nI 6)), (5, .int (nI 16)), (4, .int (nI 6)), (0, .ref (Z.2.1 (0))), (1, .int (nI pq)), (2, .int (nI mq)), (3, .int (w))]) rfl ?_
                  refine x_iload C d_Mo_odds_94 1 rfl ?_
                  refine x_istore C d_Mo_odds_96 (by decide) (lv' := [(5, .int (nI 6)), (7, .int (4)), (6, .int (nI 6)), (4, .int (nI 6)), (0, .ref (Z.2.1 (0))), (1, .int (nI pq)), (2, .int (nI mq)), (3, .int (w))]) rfl ?_
                  refine x_iload C d_Mo_odds_98 1 rfl ?_
                  refine x_istore C d_Mo_odds_100 (by decide) (lv' := [(6, .int (4)), (5, .int (nI 6)), (7, .int (4)), (4, .int (nI 6)), (0, .ref (Z.2.1 (0))), (1, .int (nI pq)), (2, .int (nI mq)), (3, .int (w))]) rfl ?_
                  refine x_goto C d_Mo_odds_102 82 (by decide) ?_
                  refine x_iload C d_Mo_odds_82 0 rfl ?_
                  refine x_ifeq C d_Mo_odds_84 105 (by decide) (fun c_31 => ?_) (fun c_31 => ?_)
                  · exact absurd c_31 (by decide)
                  · refine x_iload C d_Mo_odds_87 1 rfl ?_
                    refine x_iload C d_Mo_odds_89 0 rfl ?_
                    refine x_irem C d_Mo_odds_91 (by decide) ?_
                    refine x_topi (x' := 2) (by decide) ?_
                    refine x_istore C d_Mo_odds_92 (by decide) (lv' := [(7, .int (2)), (6, .int (4)), (5, .int (nI 6)), (4, .int (nI 6)), (0, .ref (Z.2.1 (0))), (1, .int (nI pq)), (2, .int (nI mq)), (3, .int (w))]) rfl ?_
                    refine x_iload C d_Mo_odds_94 1 rfl ?_
                    refine x_topi (show (4 : Int32) = nI 4 by decide) ?_
                    refine x_istore C d_Mo_odds_96 (by decide) (lv' := [(5, .int (nI 4)), (7, .int (2)), (6, .int (4)), (4, .int (nI 6)), (0, .ref (Z.2.1 (0))), (1, .int (nI pq)), (2, .int (nI mq)), (3, .int (w))]) rfl ?_
                    refine x_iload C d_Mo_odds_98 1 rfl ?_
                    refine x_istore C d_Mo_odds_100 (by decide) (lv' := [(6, .int (2)), (5, .int (nI 4)), (7, .int (2)), (4, .int (nI 6)), (0, .ref (Z.2.1 (0))), (1, .int (nI pq)), (2, .int (nI mq)), (3, .int (w))]) rfl ?_
                    refine x_goto C d_Mo_odds_102 82 (by decide) ?_
                    refine x_iload C d_Mo_odds_82 0 rfl ?_
                    refine x_ifeq C d_Mo_odds_84 105 (by decide) (fun c_32 => ?_) (fun c_32 => ?_)
                    · exact absurd c_32 (by decide)
                    · refine x_iload C d_Mo_odds_87 1 rfl ?_
                      refine x_iload C d_Mo_odds_89 0 rfl ?_
                      refine x_irem C d_Mo_odds_91 (by decide) ?_
                      refine x_topi (x' := 0) (by decide) ?_
                      refine x_istore C d_Mo_odds_92 (by decide) (lv' := [(7, .int (0)), (6, .int (2)), (5, .int (nI 4)), (4, .int (nI 6)), (0, .ref (Z.2.1 (0))), (1, .int (nI pq)), (2, .int (nI mq)), (3, .int (w))]) rfl ?_
                      refine x_iload C d_Mo_odds_94 1 rfl ?_
                      refine x_topi (show (2 : Int32) = nI 2 by decide) ?_
                      refine x_istore C d_Mo_odds_96 (by decide) (lv' := [(5, .int (nI 2)), (7, .int (0)), (6, .int (2)), (4, .int (nI 6)), (0, .ref (Z.2.1 (0))), (1, .int (nI pq)), (2, .int (nI mq)), (3, .int (w))]) rfl ?_
                      refine x_iload C d_Mo_odds_98 1 rfl ?_
                      refine x_istore C d_Mo_odds_100 (by decide) (lv' := [(6, .int (0)), (5, .int (nI 2)), (7, .int (0)), (4, .int (nI 6)), (0, .ref (Z.2.1 (0))), (1, .int (nI pq)), (2, .int (nI mq)), (3, .int (w))]) rfl ?_
                      refine x_goto C d_Mo_odds_102 82 (by decide) ?_
                      refine x_iload C d_Mo_odds_82 0 rfl ?_
                      refine x_ifeq C d_Mo_odds_84 105 (by decide) (fun c_33 => ?_) (fun c_33 => ?_)
                      · obtain ⟨B, hB⟩ : ∃ B : Int64, B = ((if w = 0 then nI 6 else 16) / nI (Nat.gcd (nI 6).toNatClampNeg 16)).toInt64 := ⟨_, rfl⟩
                        have hbase : pwN B mq = pwN (((if w = 0 then nI 6 else 16) / nI (Nat.gcd (nI 6).toNatClampNeg 16)).toInt64) mq := by rw [hB]
                        refine x_lconst C d_Mo_odds_105 (v := 1) (by decide) ?_
                        refine x_lstore C d_Mo_odds_106 (by decide) (lv' := [(7, .long (1)), (6, .int (0)), (5, .int (nI 2)), (4, .int (nI 6)), (0, .ref (Z.2.1 (0))), (1, .int (nI pq)), (2, .int (nI mq)), (3, .int (w))]) rfl ?_
                        refine x_iconst C d_Mo_odds_108 (v := 0) (by decide) ?_
                        refine x_topi (show (0 : Int32) = nI 0 by decide) ?_
                        refine x_istore C d_Mo_odds_109 (by decide) (lv' := [(9, .int (nI 0)), (7, .long (1)), (6, .int (0)), (5, .int (nI 2)), (4, .int (nI 6)), (0, .ref (Z.2.1 (0))), (1, .int (nI pq)), (2, .int (nI mq)), (3, .int (w))]) rfl ?_
                        have LP_111 : ∀ (f_ i : Nat), i ≤ mq → mq - i < f_ → WX X 10 yM Z (QX X yM Z (QcL yM Z (if (0 ≤ (nI pq) ∧ (nI pq) < g 0 1) ∧ (0 ≤ (nI mq) ∧ (nI mq) ≤ 15) ∧ (0 ≤ w ∧ w ≤ 1) then pwN (((if w = 0 then ctmM (g 0) (nI pq).toNatClampNeg (sz (g 0)) 16 else 16) / nI (Nat.gcd (ctmM (g 0) (nI pq).toNatClampNeg (sz (g 0)) 16).toNatClampNeg 16)).toInt64) (nI mq).toNatClampNeg else (-1000001 : Int32).toInt64) (if (0 ≤ (nI pq) ∧ (nI pq) < g 0 1) ∧ (0 ≤ (nI mq) ∧ (nI mq) ≤ 15) ∧ (0 ≤ w ∧ w ≤ 1) then g else va_up g 4 (mfnR (g 4) 0)))) (g) 111 [(9, .int (nI i)), (7, .long (pwN B (i))), (5, .int (nI 2)), (4, .int (nI 6)), (0, .ref (Z.2.1 (0))), (1, .int (nI pq)), (2, .int (nI mq)), (3, .int (w))] [] := by
                          intro f_
                          induction f_ with
                          | zero => intro i h1_ h2_; exact absurd h2_ (Nat.not_lt_zero _)
                          | succ f_ ih_111 =>
                            intro i hi_111 hf_111
                            refine x_iload C d_Mo_odds_111 0 rfl ?_
                            refine x_iload_n C d_Mo_odds_113 6 rfl rfl ?_
                            refine x_icmp_ge C d_Mo_odds_114 143 (by decide) (fun c_34 => ?_) (fun c_34 => ?_)
                            · have nc_34 := Int32.not_lt.mpr c_34
                              have mc_34 : mq ≤ i := (nI_leI (by omega) (by omega)).mp (show nI mq ≤ nI i from c_34)
                              have e_i : mq = i := by omega
                              subst e_i
                              refine x_lload C d_Mo_odds_143 1 rfl ?_
                              exact x_lret C (by rw [if_pos (by simp [*])]; simp only [hcp, hcm, ekk]; rw [hbase]) (by rw [if_pos (by simp [*])]) d_Mo_odds_145
                            · have nc_34 := Int32.not_le.mp c_34
                              have mc_34 : ¬ mq ≤ i := fun z_ => (show ¬ nI mq ≤ nI i from c_34) ((nI_leI (by omega) (by omega)).mpr z_)
                              refine x_lload C d_Mo_odds_117 1 rfl ?_
                              refine x_iload_n C d_Mo_odds_119 7 rfl rfl ?_
                              refine x_ifne C d_Mo_odds_120 128 (by decide) (fun c_35 => ?_) (fun c_35 => ?_)
                              · refine x_bipush C d_Mo_odds_128 (v := 16) (by decide) ?_
                                refine x_iload C d_Mo_odds_130 2 rfl ?_
                                refine x_idiv C d_Mo_odds_132 (by decide) ?_
                                refine x_topi (x' := 8) (by decide) ?_
                                refine x_i2l C d_Mo_odds_133 ?_
                                refine x_topl (x' := B) (by rw [hB]; first | (rw [if_pos (by assumption)]; decide) | (rw [if_neg (by assumption)]; decide)) ?_
                                refine x_lmul C d_Mo_odds_134 ?_
                                refine x_lstore C d_Mo_odds_135 (by decide) (lv' := [(7, .long ((pwN B (i)) * B)), (9, .int (nI i)), (5, .int (nI 2)), (4, .int (nI 6)), (0, .ref (Z.2.1 (0))), (1, .int (nI pq)), (2, .int (nI mq)), (3, .int (w))]) rfl ?_
                                refine x_iinc C d_Mo_odds_137 1 rfl (v := nI (i + 1)) (nI_1 _) (by decide) (lv' := [(9, .int (nI (i + 1))), (7, .long ((pwN B (i)) * B)), (5, .int (nI 2)), (4, .int (nI 6)), (0, .ref (Z.2.1 (0))), (1, .int (nI pq)), (2, .int (nI mq)), (3, .int (w))]) rfl ?_
                                refine x_goto C d_Mo_odds_140 111 (by decide) ?_
                                refine x_lve (lv' := [(9, .int (nI (i + 1))), (7, .long (pwN B (i + 1))), (5, .int (nI 2)), (4, .int (nI 6)), (0, .ref (Z.2.1 (0))), (1, .int (nI pq)), (2, .int (nI mq)), (3, .int (w))]) rfl ?_
                                exact ih_111 (i + 1) (by omega) (by omega)
                              · refine x_iload C d_Mo_odds_123 3 rfl ?_
                                refine x_goto C d_Mo_odds_125 130 (by decide) ?_
                                refine x_iload C d_Mo_odds_130 2 rfl ?_
                                refine x_idiv C d_Mo_odds_132 (by decide) ?_
                                refine x_topi (x' := 3) (by decide) ?_
                                refine x_i2l C d_Mo_odds_133 ?_
                                refine x_topl (x' := B) (by rw [hB]; first | (rw [if_pos (by assumption)]; decide) | (rw [if_neg (by assumption)]; decide)) ?_
                                refine x_lmul C d_Mo_odds_134 ?_
                                refine x_lstore C d_Mo_odds_135 (by decide) (lv' := [(7, .long ((pwN B (i)) * B)), (9, .int (nI i)), (5, .int (nI 2)), (4, .int (nI 6)), (0, .ref (Z.2.1 (0))), (1, .int (nI pq)), (2, .int (nI mq)), (3, .int (w))]) rfl ?_
                                refine x_iinc C d_Mo_odds_137 1 rfl (v := nI (i + 1)) (nI_1 _) (by decide) (lv' := [(9, .int (nI (i + 1))), (7, .long ((pwN B (i)) * B)), (5, .int (nI 2)), (4, .int (nI 6)), (0, .ref (Z.2.1 (0))), (1, .int (nI pq)), (2, .int (nI mq)), (3, .int (w))]) rfl ?_
                                refine x_goto C d_Mo_odds_140 111 (by decide) ?_
                                refine x_lve (lv' := [(9, .int (nI (i + 1))), (7, .long (pwN B (i + 1))), (5, .int (nI 2)), (4, .int (nI 6)), (0, .ref (Z.2.1 (0))), (1, .int (nI pq)), (2, .int (nI mq)), (3, .int (w))]) rfl ?_
                                exact ih_111 (i + 1) (by omega) (by omega)
                        refine x_lv [0, 1, 3, 4, 5, 6, 7, 8] (lv' := [(9, .int (nI 0)), (7, .long (1)), (5, .int (nI 2)), (4, .int (nI 6)), (0, .ref (Z.2.1 (0))), (1, .int (nI pq)), (2, .int (nI mq)), (3, .int (w))]) rfl ?_
                        refine x_lve (lv' := [(9, .int (nI 0)), (7, .long (pwN B (0))), (5, .int (nI 2)), (4, .int (nI 6)), (0, .ref (Z.2.1 (0))), (1, .int (nI pq)), (2, .int (nI mq)), (3, .int (w))]) rfl ?_
                        exact LP_111 (mq + 1) 0 (Nat.zero_le _) (by omega)
                      · exact absurd c_33 (by decide)
              · skip
                refine x_iload C d_Mo_odds_78 1 rfl ?_
                refine x_istore C d_Mo_odds_80 (by decide) (lv' := [(6, .int (nI 7)), (5, .int (nI 16)), (4, .int (nI 7)), (0, .ref (Z.2.1 (0))), (1, .int (nI pq)), (2, .int (nI mq)), (3, .int (w))]) rfl ?_
                refine x_iload C d_Mo_odds_82 0 rfl ?_
                refine x_ifeq C d_Mo_odds_84 105 (by decide) (fun c_36 => ?_) (fun c_36 => ?_)
                · exact absurd c_36 (by decide)
                · refine x_iload C d_Mo_odds_87 1 rfl ?_
                  refine x_iload C d_Mo_odds_89 0 rfl ?_
                  refine x_irem C d_Mo_odds_91 (by assumption) ?_
                  refine x_topi (x' := 2) (by decide) ?_
                  refine x_istore C d_Mo_odds_92 (by decide) (lv' := [(7, .int (2)), (6, .int (nI 7)), (5, .int (nI 16)), (4, .int (nI 7)), (0, .ref (Z.2.1 (0))), (1, .int (nI pq)), (2, .int (nI mq)), (3, .int (w))]) rfl ?_
                  refine x_iload C d_Mo_odds_94 1 rfl ?_
                  refine x_istore C d_Mo_odds_96 (by decide) (lv' := [(5, .int (nI 7)), (7, .int (2)), (6, .int (nI 7)), (4, .int (nI 7)), (0, .ref (Z.2.1 (0))), (1, .int (nI pq)), (2, .int (nI mq)), (3, .int (w))]) rfl ?_
                  refine x_iload C d_Mo_odds_98 1 rfl ?_
                  refine x_istore C d_Mo_odds_100 (by decide) (lv' := [(6, .int (2)), (5, .int (nI 7)), (7, .int (2)), (4, .int (nI 7)), (0, .ref (Z.2.1 (0))), (1, .int (nI pq)), (2, .int (nI mq)), (3, .int (w))]) rfl ?_
                  refine x_goto C d_Mo_odds_102 82 (by decide) ?_
                  refine x_iload C d_Mo_odds_82 0 rfl ?_
                  refine x_ifeq C d_Mo_odds_84 105 (by decide) (fun c_37 => ?_) (fun c_37 => ?_)
                  · exact absurd c_37 (by decide)
                  · refine x_iload C d_Mo_odds_87 1 rfl ?_
                    refine x_iload C d_Mo_odds_89 0 rfl ?_
                    refine x_irem C d_Mo_odds_91 (by decide) ?_
                    refine x_topi (x' := 1) (by decide) ?_
                    refine x_istore C d_Mo_odds_92 (by decide) (lv' := [(7, .int (1)), (6, .int (2)), (5, .int (nI 7)), (4, .int (nI 7)), (0, .ref (Z.2.1 (0))), (1, .int (nI pq)), (2, .int (nI mq)), (3, .int (w))]) rfl ?_
                    refine x_iload C d_Mo_odds_94 1 rfl ?_
                    refine x_topi (show (2 : Int32) = nI 2 by decide) ?_
                    refine x_istore C d_Mo_odds_96 (by decide) (lv' := [(5, .int (nI 2)), (7, .int (1)), (6, .int (2)), (4, .int (nI 7)), (0, .ref (Z.2.1 (0))), (1, .int (nI pq)), (2, .int (nI mq)), (3, .int (w))]) rfl ?_
                    refine x_iload C d_Mo_odds_98 1 rfl ?_
                    refine x_istore C d_Mo_odds_100 (by decide) (lv' := [(6, .int (1)), (5, .int (nI 2)), (7, .int (1)), (4, .int (nI 7)), (0, .ref (Z.2.1 (0))), (1, .int (nI pq)), (2, .int (nI mq)), (3, .int (w))]) rfl ?_
                    refine x_goto C d_Mo_odds_102 82 (by decide) ?_
                    refine x_iload C d_Mo_odds_82 0 rfl ?_
                    refine x_ifeq C d_Mo_odds_84 105 (by decide) (fun c_38 => ?_) (fun c_38 => ?_)
                    · exact absurd c_38 (by decide)
                    · refine x_iload C d_Mo_odds_87 1 rfl ?_
                      refine x_iload C d_Mo_odds_89 0 rfl ?_
                      refine x_irem C d_Mo_odds_91 (by decide) ?_
                      refine x_topi (x' := 0) (by decide) ?_
                      refine x_istore C d_Mo_odds_92 (by decide) (lv' := [(7, .int (0)), (6, .int (1)), (5, .int (nI 2)), (4, .int (nI 7)), (0, .ref (Z.2.1 (0))), (1, .int (nI pq)), (2, .int (nI mq)), (3, .int (w))]) rfl ?_
                      refine x_iload C d_Mo_odds_94 1 rfl ?_
                      refine x_topi (show (1 : Int32) = nI 1 by decide) ?_
                      refine x_istore C d_Mo_odds_96 (by decide) (lv' := [(5, .int (nI 1)), (7, .int (0)), (6, .int (1)), (4, .int (nI 7)), (0, .ref (Z.2.1 (0))), (1, .int (nI pq)), (2, .int (nI mq)), (3, .int (w))]) rfl ?_
                      refine x_iload C d_Mo_odds_98 1 rfl ?_
                      refine x_istore C d_Mo_odds_100 (by decide) (lv' := [(6, .int (0)), (5, .int (nI 1)), (7, .int (0)), (4, .int (nI 7)), (0, .ref (Z.2.1 (0))), (1, .int (nI pq)), (2, .int (nI mq)), (3, .int (w))]) rfl ?_
                      refine x_goto C d_Mo_odds_102 82 (by decide) ?_
                      refine x_iload C d_Mo_odds_82 0 rfl ?_
                      refine x_ifeq C d_Mo_odds_84 105 (by decide) (fun c_39 => ?_) (fun c_39 => ?_)
                      · obtain ⟨B, hB⟩ : ∃ B : Int64, B = ((if w = 0 then nI 7 else 16) / nI (Nat.gcd (nI 7).toNatClampNeg 16)).toInt64 := ⟨_, rfl⟩
                        have hbase : pwN B mq = pwN (((if w = 0 then nI 7 else 16) / nI (Nat.gcd (nI 7).toNatClampNeg 16)).toInt64) mq := by rw [hB]
                        refine x_lconst C d_Mo_odds_105 (v := 1) (by decide) ?_
                        refine x_lstore C d_Mo_odds_106 (by decide) (lv' := [(7, .long (1)), (6, .int (0)), (5, .int (nI 1)), (4, .int (nI 7)), (0, .ref (Z.2.1 (0))), (1, .int (nI pq)), (2, .int (nI mq)), (3, .int (w))]) rfl ?_
                        refine x_iconst C d_Mo_odds_108 (v := 0) (by decide) ?_
                        refine x_topi (show (0 : Int32) = nI 0 by decide) ?_
                        refine x_istore C d_Mo_odds_109 (by decide) (lv' := [(9, .int (nI 0)), (7, .long (1)), (6, .int (0)), (5, .int (nI 1)), (4, .int (nI 7)), (0, .ref (Z.2.1 (0))), (1, .int (nI pq)), (2, .int (nI mq)), (3, .int (w))]) rfl ?_
                        have LP_111 : ∀ (f_ i : Nat), i ≤ mq → mq - i < f_ → WX X 10 yM Z (QX X yM Z (QcL yM Z (if (0 ≤ (nI pq) ∧ (nI pq) < g 0 1) ∧ (0 ≤ (nI mq) ∧ (nI mq) ≤ 15) ∧ (0 ≤ w ∧ w ≤ 1) then pwN (((if w = 0 then ctmM (g 0) (nI pq).toNatClampNeg (sz (g 0)) 16 else 16) / nI (Nat.gcd (ctmM (g 0) (nI pq).toNatClampNeg (sz (g 0)) 16).toNatClampNeg 16)).toInt64) (nI mq).toNatClampNeg else (-1000001 : Int32).toInt64) (if (0 ≤ (nI pq) ∧ (nI pq) < g 0 1) ∧ (0 ≤ (nI mq) ∧ (nI mq) ≤ 15) ∧ (0 ≤ w ∧ w ≤ 1) then g else va_up g 4 (mfnR (g 4) 0)))) (g) 111 [(9, .int (nI i)), (7, .long (pwN B (i))), (5, .int (nI 1)), (4, .int (nI 7)), (0, .ref (Z.2.1 (0))), (1, .int (nI pq)), (2, .int (nI mq)), (3, .int (w))] [] := by
                          intro f_
                          induction f_ with
                          | zero => intro i h1_ h2_; exact absurd h2_ (Nat.not_lt_zero _)
                          | succ f_ ih_111 =>
                            intro i hi_111 hf_111
                            refine x_iload C d_Mo_odds_111 0 rfl ?_
                            refine x_iload_n C d_Mo_odds_113 6 rfl rfl ?_
                            refine x_icmp_ge C d_Mo_odds_114 143 (by decide) (fun c_40 => ?_) (fun c_40 => ?_)
                            · have nc_40 := Int32.not_lt.mpr c_40
                              have mc_40 : mq ≤ i := (nI_leI (by omega) (by omega)).mp (show nI mq ≤ nI i from c_40)
                              have e_i : mq = i := by omega
                              subst e_i
                              refine x_lload C d_Mo_odds_143 1 rfl ?_
                              exact x_lret C (by rw [if_pos (by simp [*])]; simp only [hcp, hcm, ekk]; rw [hbase]) (by rw [if_pos (by simp [*])]) d_Mo_odds_145
                            · have nc_40 := Int32.not_le.mp c_40
                              have mc_40 : ¬ mq ≤ i := fun z_ => (show ¬ nI mq ≤ nI i from c_40) ((nI_leI (by omega) (by omega)).mpr z_)
                              refine x_lload C d_Mo_odds_117 1 rfl ?_
                              refine x_iload_n C d_Mo_odds_119 7 rfl rfl ?_
                              refine x_ifne C d_Mo_odds_120 128 (by decide) (fun c_41 => ?_) (fun c_41 => ?_)
                              · refine x_bipush C d_Mo_odds_128 (v := 16) (by decide) ?_
                                refine x_iload C d_Mo_odds_130 2 rfl ?_
                                refine x_idiv C d_Mo_odds_132 (by decide) ?_
                                refine x_topi (x' := 16) (by decide) ?_
                                refine x_i2l C d_Mo_odds_133 ?_
                                refine x_topl (x' := B) (by rw [hB]; first | (rw [if_pos (by assumption)]; decide) | (rw [if_neg (by assumption)]; decide)) ?_
                                refine x_lmul C d_Mo_odds_134 ?_
                                refine x_lstore C d_Mo_odds_135 (by decide) (lv' := [(7, .long ((pwN B (i)) * B)), (9, .int (nI i)), (5, .int (nI 1)), (4, .int (nI 7)), (0, .ref (Z.2.1 (0))), (1, .int (nI pq)), (2, .int (nI mq)), (3, .int (w))]) rfl ?_
                                refine x_iinc C d_Mo_odds_137 1 rfl (v := nI (i + 1)) (nI_1 _) (by decide) (lv' := [(9, .int (nI (i + 1))), (7, .long ((pwN B (i)) * B)), (5, .int (nI 1)), (4, .int (nI 7)), (0, .ref (Z.2.1 (0))), (1, .int (nI pq)), (2, .int (nI mq)), (3, .int (w))]) rfl ?_
                                refine x_goto C d_Mo_odds_140 111 (by decide) ?_
                                refine x_lve (lv' := [(9, .int (nI (i + 1))), (7, .long (pwN B (i + 1))), (5, .int (nI 1)), (4, .int (nI 7)), (0, .ref (Z.2.1 (0))), (1, .int (nI pq)), (2, .int (nI mq)), (3, .int (w))]) rfl ?_
                                exact ih_111 (i + 1) (by omega) (by omega)
                              · refine x_iload C d_Mo_odds_123 3 rfl ?_
                                refine x_goto C d_Mo_odds_125 130 (by decide) ?_
                                refine x_iload C d_Mo_odds_130 2 rfl ?_
                                refine x_idiv C d_Mo_odds_132 (by decide) ?_
                                refine x_topi (x' := 7) (by decide) ?_
                                refine x_i2l C d_Mo_odds_133 ?_
                                refine x_topl (x' := B) (by rw [hB]; first | (rw [if_pos (by assumption)]; decide) | (rw [if_neg (by assumption)]; decide)) ?_
                                refine x_lmul C d_Mo_odds_134 ?_
                                refine x_lstore C d_Mo_odds_135 (by decide) (lv' := [(7, .long ((pwN B (i)) * B)), (9, .int (nI i)), (5, .int (nI 1)), (4, .int (nI 7)), (0, .ref (Z.2.1 (0))), (1, .int (nI pq)), (2, .int (nI mq)), (3, .int (w))]) rfl ?_
                                refine x_iinc C d_Mo_odds_137 1 rfl (v := nI (i + 1)) (nI_1 _) (by decide) (lv' := [(9, .int (nI (i + 1))), (7, .long ((pwN B (i)) * B)), (5, .int (nI 1)), (4, .int (nI 7)), (0, .ref (Z.2.1 (0))), (1, .int (nI pq)), (2, .int (nI mq)), (3, .int (w))]) rfl ?_
                                refine x_goto C d_Mo_odds_140 111 (by decide) ?_
                                refine x_lve (lv' := [(9, .int (nI (i + 1))), (7, .long (pwN B (i + 1))), (5, .int (nI 1)), (4, .int (nI 7)), (0, .ref (Z.2.1 (0))), (1, .int (nI pq)), (2, .int (nI mq)), (3, .int (w))]) rfl ?_
                                exact ih_111 (i + 1) (by omega) (by omega)
                        refine x_lv [0, 1, 3, 4, 5, 6, 7, 8] (lv' := [(9, .int (nI 0)), (7, .long (1)), (5, .int (nI 1)), (4, .int (nI 7)), (0, .ref (Z.2.1 (0))), (1, .int (nI pq)), (2, .int (nI mq)), (3, .int (w))]) rfl ?_
                        refine x_lve (lv' := [(9, .int (nI 0)), (7, .long (pwN B (0))), (5, .int (nI 1)), (4, .int (nI 7)), (0, .ref (Z.2.1 (0))), (1, .int (nI pq)), (2, .int (nI mq)), (3, .int (w))]) rfl ?_
                        exact LP_111 (mq + 1) 0 (Nat.zero_le _) (by omega)
                      · exact absurd c_39 (by decide)
              · skip
                refine x_iload C d_Mo_odds_78 1 rfl ?_
                refine x_istore C d_Mo_odds_80 (by decide) (lv' := [(6, .int (nI 8)), (5, .int (nI 16)), (4, .int (nI 8)), (0, .ref (Z.2.1 (0))), (1, .int (nI pq)), (2, .int (nI mq)), (3, .int (w))]) rfl ?_
                refine x_iload C d_Mo_odds_82 0 rfl ?_
                refine x_ifeq C d_Mo_odds_84 105 (by decide) (fun c_42 => ?_) (fun c_42 => ?_)
                · exact absurd c_42 (by decide)
                · refine x_iload C d_Mo_odds_87 1 rfl ?_
                  refine x_iload C d_Mo_odds_89 0 rfl ?_
                  refine x_irem C d_Mo_odds_91 (by assumption) ?_
                  refine x_topi (x' := 0) (by decide) ?_
                  refine x_istore C d_Mo_odds_92 (by decide) (lv' := [(7, .int (0)), (6, .int (nI 8)), (5, .int (nI 16)), (4, .int (nI 8)), (0, .ref (Z.2.1 (0))), (1, .int (nI pq)), (2, .int (nI mq)), (3, .int (w))]) rfl ?_
                  refine x_iload C d_Mo_odds_94 1 rfl ?_
                  refine x_istore C d_Mo_odds_96 (by decide) (lv' := [(5, .int (nI 8)), (7, .int (0)), (6, .int (nI 8)), (4, .int (nI 8)), (0, .ref (Z.2.1 (0))), (1, .int (nI pq)), (2, .int (nI mq)), (3, .int (w))]) rfl ?_
                  refine x_iload C d_Mo_odds_98 1 rfl ?_
                  refine x_istore C d_Mo_odds_100 (by decide) (lv' := [(6, .int (0)), (5, .int (nI 8)), (7, .int (0)), (4, .int (nI 8)), (0, .ref (Z.2.1 (0))), (1, .int (nI pq)), (2, .int (nI mq)), (3, .int (w))]) rfl ?_
                  refine x_goto C d_Mo_odds_102 82 (by decide) ?_
                  refine x_iload C d_Mo_odds_82 0 rfl ?_
                  refine x_ifeq C d_Mo_odds_84 105 (by decide) (fun c_43 => ?_) (fun c_43 => ?_)
                  · obtain ⟨B, hB⟩ : ∃ B : Int64, B = ((if w = 0 then nI 8 else 16) / nI (Nat.gcd (nI 8).toNatClampNeg 16)).toInt64 := ⟨_, rfl⟩
                    have hbase : pwN B mq = pwN (((if w = 0 then nI 8 else 16) / nI (Nat.gcd (nI 8).toNatClampNeg 16)).toInt64) mq := by rw [hB]
                    refine x_lconst C d_Mo_odds_105 (v := 1) (by decide) ?_
                    refine x_lstore C d_Mo_odds_106 (by decide) (lv' := [(7, .long (1)), (6, .int (0)), (5, .int (nI 8)), (4, .int (nI 8)), (0, .ref (Z.2.1 (0))), (1, .int (nI pq)), (2, .int (nI mq)), (3, .int (w))]) rfl ?_
                    refine x_iconst C d_Mo_odds_108 (v := 0) (by decide) ?_
                    refine x_topi (show (0 : Int32) = nI 0 by decide) ?_
                    refine x_istore C d_Mo_odds_109 (by decide) (lv' := [(9, .int (nI 0)), (7, .long (1)), (6, .int (0)), (5, .int (nI 8)), (4, .int (nI 8)), (0, .ref (Z.2.1 (0))), (1, .int (nI pq)), (2, .int (nI mq)), (3, .int (w))]) rfl ?_
                    have LP_111 : ∀ (f_ i : Nat), i ≤ mq → mq - i < f_ → WX X 10 yM Z (QX X yM Z (QcL yM Z (if (0 ≤ (nI pq) ∧ (nI pq) < g 0 1) ∧ (0 ≤ (nI mq) ∧ (nI mq) ≤ 15) ∧ (0 ≤ w ∧ w ≤ 1) then pwN (((if w = 0 then ctmM (g 0) (nI pq).toNatClampNeg (sz (g 0)) 16 else 16) / nI (Nat.gcd (ctmM (g 0) (nI pq).toNatClampNeg (sz (g 0)) 16).toNatClampNeg 16)).toInt64) (nI mq).toNatClampNeg else (-1000001 : Int32).toInt64) (if (0 ≤ (nI pq) ∧ (nI pq) < g 0 1) ∧ (0 ≤ (nI mq) ∧ (nI mq) ≤ 15) ∧ (0 ≤ w ∧ w ≤ 1) then g else va_up g 4 (mfnR (g 4) 0)))) (g) 111 [(9, .int (nI i)), (7, .long (pwN B (i))), (5, .int (nI 8)), (4, .int (nI 8)), (0, .ref (Z.2.1 (0))), (1, .int (nI pq)), (2, .int (nI mq)), (3, .int (w))] [] := by
                      intro f_
                      induction f_ with
                      | zero => intro i h1_ h2_; exact absurd h2_ (Nat.not_lt_zero _)
                      | succ f_ ih_111 =>
                        intro i hi_111 hf_111
                        refine x_iload C d_Mo_odds_111 0 rfl ?_
                        refine x_iload_n C d_Mo_odds_113 6 rfl rfl ?_
                        refine x_icmp_ge C d_Mo_odds_114 143 (by decide) (fun c_44 => ?_) (fun c_44 => ?_)
                        · have nc_44 := Int32.not_lt.mpr c_44
                          have mc_44 : mq ≤ i := (nI_leI (by omega) (by omega)).mp (show nI mq ≤ nI i from c_44)
                          have e_i : mq = i := by omega
                          subst e_i
                          refine x_lload C d_Mo_odds_143 1 rfl ?_
                          exact x_lret C (by rw [if_pos (by simp [*])]; simp only [hcp, hcm, ekk]; rw [hbase]) (by rw [if_pos (by simp [*])]) d_Mo_odds_145
                        · have nc_44 := Int32.not_le.mp c_44
                          have mc_44 : ¬ mq ≤ i := fun z_ => (show ¬ nI mq ≤ nI i from c_44) ((nI_leI (by omega) (by omega)).mpr z_)
                          refine x_lload C d_Mo_odds_117 1 rfl ?_
                          refine x_iload_n C d_Mo_odds_119 7 rfl rfl ?_
                          refine x_ifne C d_Mo_odds_120 128 (by decide) (fun c_45 => ?_) (fun c_45 => ?_)
                          · refine x_bipush C d_Mo_odds_128 (v := 16) (by decide) ?_
                            refine x_iload C d_Mo_odds_130 2 rfl ?_
                            refine x_idiv C d_Mo_odds_132 (by decide) ?_
                            refine x_topi (x' := 2) (by decide) ?_
                            refine x_i2l C d_Mo_odds_133 ?_
                            refine x_topl (x' := B) (by rw [hB]; first | (rw [if_pos (by assumption)]; decide) | (rw [if_neg (by assumption)]; decide)) ?_
                            refine x_lmul C d_Mo_odds_134 ?_
                            refine x_lstore C d_Mo_odds_135 (by decide) (lv' := [(7, .long ((pwN B (i)) * B)), (9, .int (nI i)), (5, .int (nI 8)), (4, .int (nI 8)), (0, .ref (Z.2.1 (0))), (1, .int (nI pq)), (2, .int (nI mq)), (3, .int (w))]) rfl ?_
                            refine x_iinc C d_Mo_odds_137 1 rfl (v := nI (i + 1)) (nI_1 _) (by decide) (lv' := [(9, .int (nI (i + 1))), (7, .long ((pwN B (i)) * B)), (5, .int (nI 8)), (4, .int (nI 8)), (0, .ref (Z.2.1 (0))), (1, .int (nI pq)), (2, .int (nI mq)), (3, .int (w))]) rfl ?_
                            refine x_goto C d_Mo_odds_140 111 (by decide) ?_
                            refine x_lve (lv' := [(9, .int (nI (i + 1))), (7, .long (pwN B (i + 1))), (5, .int (nI 8)), (4, .int (nI 8)), (0, .ref (Z.2.1 (0))), (1, .int (nI pq)), (2, .int (nI mq)), (3, .int (w))]) rfl ?_
                            exact ih_111 (i + 1) (by omega) (by omega)
                          · refine x_iload C d_Mo_odds_123 3 rfl ?_
                            refine x_goto C d_Mo_odds_125 130 (by decide) ?_
                            refine x_iload C d_Mo_odds_130 2 rfl ?_
                            refine x_idiv C d_Mo_odds_132 (by decide) ?_
                            refine x_topi (x' := 1) (by decide) ?_
                            refine x_i2l C d_Mo_odds_133 ?_
                            refine x_topl (x' := B) (by rw [hB]; first | (rw [if_pos (by assumption)]; decide) | (rw [if_neg (by assumption)]; decide)) ?_
                            refine x_lmul C d_Mo_odds_134 ?_
                            refine x_lstore C d_Mo_odds_135 (by decide) (lv' := [(7, .long ((pwN B (i)) * B)), (9, .int (nI i)), (5, .int (nI 8)), (4, .int (nI 8)), (0, .ref (Z.2.1 (0))), (1, .int (nI pq)), (2, .int (nI mq)), (3, .int (w))]) rfl ?_
                            refine x_iinc C d_Mo_odds_137 1 rfl (v := nI (i + 1)) (nI_1 _) (by decide) (lv' := [(9, .int (nI (i + 1))), (7, .long ((pwN B (i)) * B)), (5, .int (nI 8)), (4, .int (nI 8)), (0, .ref (Z.2.1 (0))), (1, .int (nI pq)), (2, .int (nI mq)), (3, .int (w))]) rfl ?_
                            refine x_goto C d_Mo_odds_140 111 (by decide) ?_
                            refine x_lve (lv' := [(9, .int (nI (i + 1))), (7, .long (pwN B (i + 1))), (5, .int (nI 8)), (4, .int (nI 8)), (0, .ref (Z.2.1 (0))), (1, .int (nI pq)), (2, .int (nI mq)), (3, .int (w))]) rfl ?_
                            exact ih_111 (i + 1) (by omega) (by omega)
                    refine x_lv [0, 1, 3, 4, 5, 6, 7, 8] (lv' := [(9, .int (nI 0)), (7, .long (1)), (5, .int (nI 8)), (4, .int (nI 8)), (0, .ref (Z.2.1 (0))), (1, .int (nI pq)), (2, .int (nI mq)), (3, .int (w))]) rfl ?_
                    refine x_lve (lv' := [(9, .int (nI 0)), (7, .long (pwN B (0))), (5, .int (nI 8)), (4, .int (nI 8)), (0, .ref (Z.2.1 (0))), (1, .int (nI pq)), (2, .int (nI mq)), (3, .int (w))]) rfl ?_
                    exact LP_111 (mq + 1) 0 (Nat.zero_le _) (by omega)
                  · exact absurd c_43 (by decide)
              · skip
                refine x_iload C d_Mo_odds_78 1 rfl ?_
                refine x_istore C d_Mo_odds_80 (by decide) (lv' := [(6, .int (nI 9)), (5, .int (nI 16)), (4, .int (nI 9)), (0, .ref (Z.2.1 (0))), (1, .int (nI pq)), (2, .int (nI mq)), (3, .int (w))]) rfl ?_
                refine x_iload C d_Mo_odds_82 0 rfl ?_
                refine x_ifeq C d_Mo_odds_84 105 (by decide) (fun c_46 => ?_) (fun c_46 => ?_)
                · exact absurd c_46 (by decide)
                · refine x_iload C d_Mo_odds_87 1 rfl ?_
                  refine x_iload C d_Mo_odds_89 0 rfl ?_
                  refine x_irem C d_Mo_odds_91 (by assumption) ?_
                  refine x_topi (x' := 7) (by decide) ?_
                  refine x_istore C d_Mo_odds_92 (by decide) (lv' := [(7, .int (7)), (6, .int (nI 9)), (5, .int (nI 16)), (4, .int (nI 9)), (0, .ref (Z.2.1 (0))), (1, .int (nI pq)), (2, .int (nI mq)), (3, .int (w))]) rfl ?_
                  refine x_iload C d_Mo_odds_94 1 rfl ?_
                  refine x_istore C d_Mo_odds_96 (by decide) (lv' := [(5, .int (nI 9)), (7, .int (7)), (6, .int (nI 9)), (4, .int (nI 9)), (0, .ref (Z.2.1 (0))), (1, .int (nI pq)), (2, .int (nI mq)), (3, .int (w))]) rfl ?_
                  refine x_iload C d_Mo_odds_98 1 rfl ?_
                  refine x_istore C d_Mo_odds_100 (by decide) (lv' := [(6, .int (7)), (5, .int (nI 9)), (7, .int (7)), (4, .int (nI 9)), (0, .ref (Z.2.1 (0))), (1, .int (nI pq)), (2, .int (nI mq)), (3, .int (w))]) rfl ?_
                  refine x_goto C d_Mo_odds_102 82 (by decide) ?_
                  refine x_iload C d_Mo_odds_82 0 rfl ?_
                  refine x_ifeq C d_Mo_odds_84 105 (by decide) (fun c_47 => ?_) (fun c_47 => ?_)
                  · exact absurd c_47 (by decide)
                  · refine x_iload C d_Mo_odds_87 1 rfl ?_
                    refine x_iload C d_Mo_odds_89 0 rfl ?_
                    refine x_irem C d_Mo_odds_91 (by decide) ?_
                    refine x_topi (x' := 2) (by decide) ?_
                    refine x_istore C d_Mo_odds_92 (by decide) (lv' := [(7, .int (2)), (6, .int (7)), (5, .int (nI 9)), (4, .int (nI 9)), (0, .ref (Z.2.1 (0))), (1, .int (nI pq)), (2, .int (nI mq)), (3, .int (w))]) rfl ?_
                    refine x_iload C d_Mo_odds_94 1 rfl ?_
                    refine x_topi (show (7 : Int32) = nI 7 by decide) ?_
                    refine x_istore C d_Mo_odds_96 (by decide) (lv' := [(5, .int (nI 7)), (7, .int (2)), (6, .int (7)), (4, .int (nI 9)), (0, .ref (Z.2.1 (0))), (1, .int (nI pq)), (2, .int (nI mq)), (3, .int (w))]) rfl ?_
                    refine x_iload C d_Mo_odds_98 1 rfl ?_
                    refine x_istore C d_Mo_odds_100 (by decide) (lv' := [(6, .int (2)), (5, .int (nI 7)), (7, .int (2)), (4, .int (nI 9)), (0, .ref (Z.2.1 (0))), (1, .int (nI pq)), (2, .int (nI mq)), (3, .int (w))]) rfl ?_
                    refine x_goto C d_Mo_odds_102 82 (by decide) ?_
                    refine x_iload C d_Mo_odds_82 0 rfl ?_
                    refine x_ifeq C d_Mo_odds_84 105 (by decide) (fun c_48 => ?_) (fun c_48 => ?_)
                    · exact absurd c_48 (by decide)
                    · refine x_iload C d_Mo_odds_87 1 rfl ?_
                      refine x_iload C d_Mo_odds_89 0 rfl ?_
                      refine x_irem C d_Mo_odds_91 (by decide) ?_
                      refine x_topi (x' := 1) (by decide) ?_
                      refine x_istore C d_Mo_odds_92 (by decide) (lv' := [(7, .int (1)), (6, .int (2)), (5, .int (nI 7)), (4, .int (nI 9)), (0, .ref (Z.2.1 (0))), (1, .int (nI pq)), (2, .int (nI mq)), (3, .int (w))]) rfl ?_
                      refine x_iload C d_Mo_odds_94 1 rfl ?_
                      refine x_topi (show (2 : Int32) = nI 2 by decide) ?_
                      refine x_istore C d_Mo_odds_96 (by decide) (lv' := [(5, .int (nI 2)), (7, .int (1)), (6, .int (2)), (4, .int (nI 9)), (0, .ref (Z.2.1 (0))), (1, .int (nI pq)), (2, .int (nI mq)), (3, .int (w))]) rfl ?_
                      refine x_iload C d_Mo_odds_98 1 rfl ?_
                      refine x_istore C d_Mo_odds_100 (by decide) (lv' := [(6, .int (1)), (5, .int (nI 2)), (7, .int (1)), (4, .int (nI 9)), (0, .ref (Z.2.1 (0))), (1, .int (nI pq)), (2, .int (nI mq)), (3, .int (w))]) rfl ?_
                      refine x_goto C d_Mo_odds_102 82 (by decide) ?_
                      refine x_iload C d_Mo_odds_82 0 rfl ?_
                      refine x_ifeq C d_Mo_odds_84 105 (by decide) (fun c_49 => ?_) (fun c_49 => ?_)
                      · exact absurd c_49 (by decide)
                      · refine x_iload C d_Mo_odds_87 1 rfl ?_
                        refine x_iload C d_Mo_odds_89 0 rfl ?_
                        refine x_irem C d_Mo_odds_91 (by decide) ?_
                        refine x_topi (x' := 0) (by decide) ?_
                        refine x_istore C d_Mo_odds_92 (by decide) (lv' := [(7, .int (0)), (6, .int (1)), (5, .int (nI 2)), (4, .int (nI 9)), (0, .ref (Z.2.1 (0))), (1, .int (nI pq)), (2, .int (nI mq)), (3, .int (w))]) rfl ?_
                        refine x_iload C d_Mo_odds_94 1 rfl ?_
                        refine x_topi (show (1 : Int32) = nI 1 by decide) ?_
                        refine x_istore C d_Mo_odds_96 (by decide) (lv' := [(5, .int (nI 1)), (7, .int (0)), (6, .int (1)), (4, .int (nI 9)), (0, .ref (Z.2.1 (0))), (1, .int (nI pq)), (2, .int (nI mq)), (3, .int (w))]) rfl ?_
                        refine x_iload C d_Mo_odds_98 1 rfl ?_
                        refine x_istore C d_Mo_odds_100 (by decide) (lv' := [(6, .int (0)), (5, .int (nI 1)), (7, .int (0)), (4, .int (nI 9)), (0, .ref (Z.2.1 (0))), (1, .int (nI pq)), (2, .int (nI mq)), (3, .int (w))]) rfl ?_
                        refine x_goto C d_Mo_odds_102 82 (by decide) ?_
                        refine x_iload C d_Mo_odds_82 0 rfl ?_
                        refine x_ifeq C d_Mo_odds_84 105 (by decide) (fun c_50 => ?_) (fun c_50 => ?_)
                        · obtain ⟨B, hB⟩ : ∃ B : Int64, B = ((if w = 0 then nI 9 else 16) / nI (Nat.gcd (nI 9).toNatClampNeg 16)).toInt64 := ⟨_, rfl⟩
                          have hbase : pwN B mq = pwN (((if w = 0 then nI 9 else 16) / nI (Nat.gcd (nI 9).toNatClampNeg 16)).toInt64) mq := by rw [hB]
                          refine x_lconst C d_Mo_odds_105 (v := 1) (by decide) ?_
                          refine x_lstore C d_Mo_odds_106 (by decide) (lv' := [(7, .long (1)), (6, .int (0)), (5, .int (nI 1)), (4, .int (nI 9)), (0, .ref (Z.2.1 (0))), (1, .int (nI pq)), (2, .int (nI mq)), (3, .int (w))]) rfl ?_
                          refine x_iconst C d_Mo_odds_108 (v := 0) (by decide) ?_
                          refine x_topi (show (0 : Int32) = nI 0 by decide) ?_
                          refine x_istore C d_Mo_odds_109 (by decide) (lv' := [(9, .int (nI 0)), (7, .long (1)), (6, .int (0)), (5, .int (nI 1)), (4, .int (nI 9)), (0, .ref (Z.2.1 (0))), (1, .int (nI pq)), (2, .int (nI mq)), (3, .int (w))]) rfl ?_
                          have LP_111 : ∀ (f_ i : Nat), i ≤ mq → mq - i < f_ → WX X 10 yM Z (QX X yM Z (QcL yM Z (if (0 ≤ (nI pq) ∧ (nI pq) < g 0 1) ∧ (0 ≤ (nI mq) ∧ (nI mq) ≤ 15) ∧ (0 ≤ w ∧ w ≤ 1) then pwN (((if w = 0 then ctmM (g 0) (nI pq).toNatClampNeg (sz (g 0)) 16 else 16) / nI (Nat.gcd (ctmM (g 0) (nI pq).toNatClampNeg (sz (g 0)) 16).toNatClampNeg 16)).toInt64) (nI mq).toNatClampNeg else (-1000001 : Int32).toInt64) (if (0 ≤ (nI pq) ∧ (nI pq) < g 0 1) ∧ (0 ≤ (nI mq) ∧ (nI mq) ≤ 15) ∧ (0 ≤ w ∧ w ≤ 1) then g else va_up g 4 (mfnR (g 4) 0)))) (g) 111 [(9, .int (nI i)), (7, .long (pwN B (i))), (5, .int (nI 1)), (4, .int (nI 9)), (0, .ref (Z.2.1 (0))), (1, .int (nI pq)), (2, .int (nI mq)), (3, .int (w))] [] := by
                            intro f_
                            induction f_ with
                            | zero => intro i h1_ h2_; exact absurd h2_ (Nat.not_lt_zero _)
                            | succ f_ ih_111 =>
                              intro i hi_111 hf_111
                              refine x_iload C d_Mo_odds_111 0 rfl ?_
                              refine x_iload_n C d_Mo_odds_113 6 rfl rfl ?_
                              refine x_icmp_ge C d_Mo_odds_114 143 (by decide) (fun c_51 => ?_) (fun c_51 => ?_)
                              · have nc_51 := Int32.not_lt.mpr c_51
                                have mc_51 : mq ≤ i := (nI_leI (by omega) (by omega)).mp (show nI mq ≤ nI i from c_51)
                                have e_i : mq = i := by omega
                                subst e_i
                                refine x_lload C d_Mo_odds_143 1 rfl ?_
                                exact x_lret C (by rw [if_pos (by simp [*])]; simp only [hcp, hcm, ekk]; rw [hbase]) (by rw [if_pos (by simp [*])]) d_Mo_odds_145
                              · have nc_51 := Int32.not_le.mp c_51
                                have mc_51 : ¬ mq ≤ i := fun z_ => (show ¬ nI mq ≤ nI i from c_51) ((nI_leI (by omega) (by omega)).mpr z_)
                                refine x_lload C d_Mo_odds_117 1 rfl ?_
                                refine x_iload_n C d_Mo_odds_119 7 rfl rfl ?_
                                refine x_ifne C d_Mo_odds_120 128 (by decide) (fun c_52 => ?_) (fun c_52 => ?_)
                                · refine x_bipush C d_Mo_odds_128 (v := 16) (by decide) ?_
                                  refine x_iload C d_Mo_odds_130 2 rfl ?_
                                  refine x_idiv C d_Mo_odds_132 (by decide) ?_
                                  refine x_topi (x' := 16) (by decide) ?_
                                  refine x_i2l C d_Mo_odds_133 ?_
                                  refine x_topl (x' := B) (by rw [hB]; first | (rw [if_pos (by assumption)]; decide) | (rw [if_neg (by assumption)]; decide)) ?_
                                  refine x_lmul C d_Mo_odds_134 ?_
                                  refine x_lstore C d_Mo_odds_135 (by decide) (lv' := [(7, .long ((pwN B (i)) * B)), (9, .int (nI i)), (5, .int (nI 1)), (4, .int (nI 9)), (0, .ref (Z.2.1 (0))), (1, .int (nI pq)), (2, .int (nI mq)), (3, .int (w))]) rfl ?_
                                  refine x_iinc C d_Mo_odds_137 1 rfl (v := nI (i + 1)) (nI_1 _) (by decide) (lv' := [(9, .int (nI (i + 1))), (7, .long ((pwN B (i)) * B)), (5, .int (nI 1)), (4, .int (nI 9)), (0, .ref (Z.2.1 (0))), (1, .int (nI pq)), (2, .int (nI mq)), (3, .int (w))]) rfl ?_
                                  refine x_goto C d_Mo_odds_140 111 (by decide) ?_
                                  refine x_lve (lv' := [(9, .int (nI (i + 1))), (7, .long (pwN B (i + 1))), (5, .int (nI 1)), (4, .int (nI 9)), (0, .ref (Z.2.1 (0))), (1, .int (nI pq)), (2, .int (nI mq)), (3, .int (w))]) rfl ?_
                                  exact ih_111 (i + 1) (by omega) (by omega)
                                · refine x_iload C d_Mo_odds_123 3 rfl ?_
                                  refine x_goto C d_Mo_odds_125 130 (by decide) ?_
                                  refine x_iload C d_Mo_odds_130 2 rfl ?_
                                  refine x_idiv C d_Mo_odds_132 (by decide) ?_
                                  refine x_topi (x' := 9) (by decide) ?_
                                  refine x_i2l C d_Mo_odds_133 ?_
                                  refine x_topl (x' := B) (by rw [hB]; first | (rw [if_pos (by assumption)]; decide) | (rw [if_neg (by assumption)]; decide)) ?_
                                  refine x_lmul C d_Mo_odds_134 ?_
                                  refine x_lstore C d_Mo_odds_135 (by decide) (lv' := [(7, .long ((pwN B (i)) * B)), (9, .int (nI i)), (5, .int (nI 1)), (4, .int (nI 9)), (0, .ref (Z.2.1 (0))), (1, .int (nI pq)), (2, .int (nI mq)), (3, .int (w))]) rfl ?_
                                  refine x_iinc C d_Mo_odds_137 1 rfl (v := nI (i + 1)) (nI_1 _) (by decide) (lv' := [(9, .int (nI (i + 1))), (7, .long ((pwN B (i)) * B)), (5, .int (nI 1)), (4, .int (nI 9)), (0, .ref (Z.2.1 (0))), (1, .int (nI pq)), (2, .int (nI mq)), (3, .int (w))]) rfl ?_
                                  refine x_goto C d_Mo_odds_140 111 (by decide) ?_
                                  refine x_lve (lv' := [(9, .int (nI (i + 1))), (7, .long (pwN B (i + 1))), (5, .int (nI 1)), (4, .int (nI 9)), (0, .ref (Z.2.1 (0))), (1, .int (nI pq)), (2, .int (nI mq)), (3, .int (w))]) rfl ?_
                                  exact ih_111 (i + 1) (by omega) (by omega)
                          refine x_lv [0, 1, 3, 4, 5, 6, 7, 8] (lv' := [(9, .int (nI 0)), (7, .long (1)), (5, .int (nI 1)), (4, .int (nI 9)), (0, .ref (Z.2.1 (0))), (1, .int (nI pq)), (2, .int (nI mq)), (3, .int (w))]) rfl ?_
                          refine x_lve (lv' := [(9, .int (nI 0)), (7, .long (pwN B (0))), (5, .int (nI 1)), (4, .int (nI 9)), (0, .ref (Z.2.1 (0))), (1, .int (nI pq)), (2, .int (nI mq)), (3, .int (w))]) rfl ?_
                          exact LP_111 (mq + 1) 0 (Nat.zero_le _) (by omega)
                        · exact absurd c_50 (by decide)
              · skip
                refine x_iload C d_Mo_odds_78 1 rfl ?_
                refine x_istore C d_Mo_odds_80 (by decide) (lv' := [(6, .int (nI 10)), (5, .int (nI 16)), (4, .int (nI 10)), (0, .ref (Z.2.1 (0))), (1, .int (nI pq)), (2, .int (nI mq)), (3, .int (w))]) rfl ?_
                refine x_iload C d_Mo_odds_82 0 rfl ?_
                refine x_ifeq C d_Mo_odds_84 105 (by decide) (fun c_53 => ?_) (fun c_53 => ?_)
                · exact absurd c_53 (by decide)
                · refine x_iload C d_Mo_odds_87 1 rfl ?_
                  refine x_iload C d_Mo_odds_89 0 rfl ?_
                  refine x_irem C d_Mo_odds_91 (by assumption) ?_
                  refine x_topi (x' := 6) (by decide) ?_
                  refine x_istore C d_Mo_odds_92 (by decide) (lv' := [(7, .int (6)), (6, .int (nI 10)), (5, .int (nI 16)), (4, .int (nI 10)), (0, .ref (Z.2.1 (0))), (1, .int (nI pq)), (2, .int (nI mq)), (3, .int (w))]) rfl ?_
                  refine x_iload C d_Mo_odds_94 1 rfl ?_
                  refine x_istore C d_Mo_odds_96 (by decide) (lv' := [(5, .int (nI 10)), (7, .int (6)), (6, .int (nI 10)), (4, .int (nI 10)), (0, .ref (Z.2.1 (0))), (1, .int (nI pq)), (2, .int (nI mq)), (3, .int (w))]) rfl ?_
                  refine x_iload C d_Mo_odds_98 1 rfl ?_
                  refine x_istore C d_Mo_odds_100 (by decide) (lv' := [(6, .int (6)), (5, .int (nI 10)), (7, .int (6)), (4, .int (nI 10)), (0, .ref (Z.2.1 (0))), (1, .int (nI pq)), (2, .int (nI mq)), (3, .int (w))]) rfl ?_
                  refine x_goto C d_Mo_odds_102 82 (by decide) ?_
                  refine x_iload C d_Mo_odds_82 0 rfl ?_
                  refine x_ifeq C d_Mo_odds_84 105 (by decide) (fun c_54 => ?_) (fun c_54 => ?_)
                  · exact absurd c_54 (by decide)
                  · refine x_iload C d_Mo_odds_87 1 rfl ?_
                    refine x_iload C d_Mo_odds_89 0 rfl ?_
                    refine x_irem C d_Mo_odds_91 (by decide) ?_
                    refine x_topi (x' := 4) (by decide) ?_
                    refine x_istore C d_Mo_odds_92 (by decide) (lv' := [(7, .int (4)), (6, .int (6)), (5, .int (nI 10)), (4, .int (nI 10)), (0, .ref (Z.2.1 (0))), (1, .int (nI pq)), (2, .int (nI mq)), (3, .int (w))]) rfl ?_
                    refine x_iload C d_Mo_odds_94 1 rfl ?_
                    refine x_topi (show (6 : Int32) = nI 6 by decide) ?_
                    refine x_istore C d_Mo_odds_96 (by decide) (lv' := [(5, .int (nI 6)), (7, .int (4)), (6, .int (6)), (4, .int (nI 10)), (0, .ref (Z.2.1 (0))), (1, .int (nI pq)), (2, .int (nI mq)), (3, .int (w))]) rfl ?_
                    refine x_iload C d_Mo_odds_98 1 rfl ?_
                    refine x_istore C d_Mo_odds_100 (by decide) (lv' := [(6, .int (4)), (5, .int (nI 6)), (7, .int (4)), (4, .int (nI 10)), (0, .ref (Z.2.1 (0))), (1, .int (nI pq)), (2, .int (nI mq)), (3, .int (w))]) rfl ?_
                    refine x_goto C d_Mo_odds_102 82 (by decide) ?_
                    refine x_iload C d_Mo_odds_82 0 rfl ?_
                    refine x_ifeq C d_Mo_odds_84 105 (by decide) (fun c_55 => ?_) (fun c_55 => ?_)
                    · exact absurd c_55 (by decide)
                    · refine x_iload C d_Mo_odds_87 1 rfl ?_
                      refine x_iload C d_Mo_odds_89 0 rfl ?_
                      refine x_irem C d_Mo_odds_91 (by decide) ?_
                      refine x_topi (x' := 2) (by decide) ?_
                      refine x_istore C d_Mo_odds_92 (by decide) (lv' := [(7, .int (2)), (6, .int (4)), (5, .int (nI 6)), (4, .int (nI 10)), (0, .ref (Z.2.1 (0))), (1, .int (nI pq)), (2, .int (nI mq)), (3, .int (w))]) rfl ?_
                      refine x_iload C d_Mo_odds_94 1 rfl ?_
                      refine x_topi (show (4 : Int32) = nI 4 by decide) ?_
                      refine x_istore C d_Mo_odds_96 (by decide) (lv' := [(5, .int (nI 4)), (7, .int (2)), (6, .int (4)), (4, .int (nI 10)), (0, .ref (Z.2.1 (0))), (1, .int (nI pq)), (2, .int (nI mq)), (3, .int (w))]) rfl ?_
                      refine x_iload C d_Mo_odds_98 1 rfl ?_
                      refine x_istore C d_Mo_odds_100 (by decide) (lv' := [(6, .int (2)), (5, .int (nI 4)), (7, .int (2)), (4, .int (nI 10)), (0, .ref (Z.2.1 (0))), (1, .int (nI pq)), (2, .int (nI mq)), (3, .int (w))]) rfl ?_
                      refine x_goto C d_Mo_odds_102 82 (by decide) ?_
                      refine x_iload C d_Mo_odds_82 0 rfl ?_
                      refine x_ifeq C d_Mo_odds_84 105 (by decide) (fun c_56 => ?_) (fun c_56 => ?_)
                      · exact absurd c_56 (by decide)
                      · refine x_iload C d_Mo_odds_87 1 rfl ?_
                        refine x_iload C d_Mo_odds_89 0 rfl ?_
                        refine x_irem C d_Mo_odds_91 (by decide) ?_
                        refine x_topi (x' := 0) (by decide) ?_
                        refine x_istore C d_Mo_odds_92 (by decide) (lv' := [(7, .int (0)), (6, .int (2)), (5, .int (nI 4)), (4, .int (nI 10)), (0, .ref (Z.2.1 (0))), (1, .int (nI pq)), (2, .int (nI mq)), (3, .int (w))]) rfl ?_
                        refine x_iload C d_Mo_odds_94 1 rfl ?_
                        refine x_topi (show (2 : Int32) = nI 2 by decide) ?_
                        refine x_istore C d_Mo_odds_96 (by decide) (lv' := [(5, .int (nI 2)), (7, .int (0)), (6, .int (2)), (4, .int (nI 10)), (0, .ref (Z.2.1 (0))), (1, .int (nI pq)), (2, .int (nI mq)), (3, .int (w))]) rfl ?_
                        refine x_iload C d_Mo_odds_98 1 rfl ?_
                        refine x_istore C d_Mo_odds_100 (by decide) (lv' := [(6, .int (0)), (5, .int (nI 2)), (7, .int (0)), (4, .int (nI 10)), (0, .ref (Z.2.1 (0))), (1, .int (nI pq)), (2, .int (nI mq)), (3, .int (w))]) rfl ?_
                        refine x_goto C d_Mo_odds_102 82 (by decide) ?_
                        refine x_iload C d_Mo_odds_82 0 rfl ?_
                        refine x_ifeq C d_Mo_odds_84 105 (by decide) (fun c_57 => ?_) (fun c_57 => ?_)
                        · obtain ⟨B, hB⟩ : ∃ B : Int64, B = ((if w = 0 then nI 10 else 16) / nI (Nat.gcd (nI 10).toNatClampNeg 16)).toInt64 := ⟨_, rfl⟩
                          have hbase : pwN B mq = pwN (((if w = 0 then nI 10 else 16) / nI (Nat.gcd (nI 10).toNatClampNeg 16)).toInt64) mq := by rw [hB]
                          refine x_lconst C d_Mo_odds_105 (v := 1) (by decide) ?_
                          refine x_lstore C d_Mo_odds_106 (by decide) (lv' := [(7, .long (1)), (6, .int (0)), (5, .int (nI 2)), (4, .int (nI 10)), (0, .ref (Z.2.1 (0))), (1, .int (nI pq)), (2, .int (nI mq)), (3, .int (w))]) rfl ?_
                          refine x_iconst C d_Mo_odds_108 (v := 0) (by decide) ?_
                          refine x_topi (show (0 : Int32) = nI 0 by decide) ?_
                          refine x_istore C d_Mo_odds_109 (by decide) (lv' := [(9, .int (nI 0)), (7, .long (1)), (6, .int (0)), (5, .int (nI 2)), (4, .int (nI 10)), (0, .ref (Z.2.1 (0))), (1, .int (nI pq)), (2, .int (nI mq)), (3, .int (w))]) rfl ?_
                          have LP_111 : ∀ (f_ i : Nat), i ≤ mq → mq - i < f_ → WX X 10 yM Z (QX X yM Z (QcL yM Z (if (0 ≤ (nI pq) ∧ (nI pq) < g 0 1) ∧ (0 ≤ (nI mq) ∧ (nI mq) ≤ 15) ∧ (0 ≤ w ∧ w ≤ 1) then pwN (((if w = 0 then ctmM (g 0) (nI pq).toNatClampNeg (sz (g 0)) 16 else 16) / nI (Nat.gcd (ctmM (g 0) (nI pq).toNatClampNeg (sz (g 0)) 16).toNatClampNeg 16)).toInt64) (nI mq).toNatClampNeg else (-1000001 : Int32).toInt64) (if (0 ≤ (nI pq) ∧ (nI pq) < g 0 1) ∧ (0 ≤ (nI mq) ∧ (nI mq) ≤ 15) ∧ (0 ≤ w ∧ w ≤ 1) then g else va_up g 4 (mfnR (g 4) 0)))) (g) 111 [(9, .int (nI i)), (7, .long (pwN B (i))), (5, .int (nI 2)), (4, .int (nI 10)), (0, .ref (Z.2.1 (0))), (1, .int (nI pq)), (2, .int (nI mq)), (3, .int (w))] [] := by
                            intro f_
                            induction f_ with
                            | zero => intro i h1_ h2_; exact absurd h2_ (Nat.not_lt_zero _)
                            | succ f_ ih_111 =>
                              intro i hi_111 hf_111
                              refine x_iload C d_Mo_odds_111 0 rfl ?_
                              refine x_iload_n C d_Mo_odds_113 6 rfl rfl ?_
                              refine x_icmp_ge C d_Mo_odds_114 143 (by decide) (fun c_58 => ?_) (fun c_58 => ?_)
                              · have nc_58 := Int32.not_lt.mpr c_58
                                have mc_58 : mq ≤ i := (nI_leI (by omega) (by omega)).mp (show nI mq ≤ nI i from c_58)
                                have e_i : mq = i := by omega
                                subst e_i
                                refine x_lload C d_Mo_odds_143 1 rfl ?_
                                exact x_lret C (by rw [if_pos (by simp [*])]; simp only [hcp, hcm, ekk]; rw [hbase]) (by rw [if_pos (by simp [*])]) d_Mo_odds_145
                              · have nc_58 := Int32.not_le.mp c_58
                                have mc_58 : ¬ mq ≤ i := fun z_ => (show ¬ nI mq ≤ nI i from c_58) ((nI_leI (by omega) (by omega)).mpr z_)
                                refine x_lload C d_Mo_odds_117 1 rfl ?_
                                refine x_iload_n C d_Mo_odds_119 7 rfl rfl ?_
                                refine x_ifne C d_Mo_odds_120 128 (by decide) (fun c_59 => ?_) (fun c_59 => ?_)
                                · refine x_bipush C d_Mo_odds_128 (v := 16) (by decide) ?_
                                  refine x_iload C d_Mo_odds_130 2 rfl ?_
                                  refine x_idiv C d_Mo_odds_132 (by decide) ?_
                                  refine x_topi (x' := 8) (by decide) ?_
                                  refine x_i2l C d_Mo_odds_133 ?_
                                  refine x_topl (x' := B) (by rw [hB]; first | (rw [if_pos (by assumption)]; decide) | (rw [if_neg (by assumption)]; decide)) ?_
                                  refine x_lmul C d_Mo_odds_134 ?_
                                  refine x_lstore C d_Mo_odds_135 (by decide) (lv' := [(7, .long ((pwN B (i)) * B)), (9, .int (nI i)), (5, .int (nI 2)), (4, .int (nI 10)), (0, .ref (Z.2.1 (0))), (1, .int (nI pq)), (2, .int (nI mq)), (3, .int (w))]) rfl ?_
                                  refine x_iinc C d_Mo_odds_137 1 rfl (v := nI (i + 1)) (nI_1 _) (by decide) (lv' := [(9, .int (nI (i + 1))), (7, .long ((pwN B (i)) * B)), (5, .int (nI 2)), (4, .int (nI 10)), (0, .ref (Z.2.1 (0))), (1, .int (nI pq)), (2, .int (nI mq)), (3, .int (w))]) rfl ?_
                                  refine x_goto C d_Mo_odds_140 111 (by decide) ?_
                                  refine x_lve (lv' := [(9, .int (nI (i + 1))), (7, .long (pwN B (i + 1))), (5, .int (nI 2)), (4, .int (nI 10)), (0, .ref (Z.2.1 (0))), (1, .int (nI pq)), (2, .int (nI mq)), (3, .int (w))]) rfl ?_
                                  exact ih_111 (i + 1) (by omega) (by omega)
                                · refine x_iload C d_Mo_odds_123 3 rfl ?_
                                  refine x_goto C d_Mo_odds_125 130 (by decide) ?_
                                  refine x_iload C d_Mo_odds_130 2 rfl ?_
                                  refine x_idiv C d_Mo_odds_132 (by decide) ?_
                                  refine x_topi (x' := 5) (by decide) ?_
                                  refine x_i2l C d_Mo_odds_133 ?_
                                  refine x_topl (x' := B) (by rw [hB]; first | (rw [if_pos (by assumption)]; decide) | (rw [if_neg (by assumption)]; decide)) ?_
                                  refine x_lmul C d_Mo_odds_134 ?_
                                  refine x_lstore C d_Mo_odds_135 (by decide) (lv' := [(7, .long ((pwN B (i)) * B)), (9, .int (nI i)), (5, .int (nI 2)), (4, .int (nI 10)), (0, .ref (Z.2.1 (0))), (1, .int (nI pq)), (2, .int (nI mq)), (3, .int (w))]) rfl ?_
                                  refine x_iinc C d_Mo_odds_137 1 rfl (v := nI (i + 1)) (nI_1 _) (by decide) (lv' := [(9, .int (nI (i + 1))), (7, .long ((pwN B (i)) * B)), (5, .int (nI 2)), (4, .int (nI 10)), (0, .ref (Z.2.1 (0))), (1, .int (nI pq)), (2, .int (nI mq)), (3, .int (w))]) rfl ?_
                                  refine x_goto C d_Mo_odds_140 111 (by decide) ?_
                                  refine x_lve (lv' := [(9, .int (nI (i + 1))), (7, .long (pwN B (i + 1))), (5, .int (nI 2)), (4, .int (nI 10)), (0, .ref (Z.2.1 (0))), (1, .int (nI pq)), (2, .int (nI mq)), (3, .int (w))]) rfl ?_
                                  exact ih_111 (i + 1) (by omega) (by omega)
                          refine x_lv [0, 1, 3, 4, 5, 6, 7, 8] (lv' := [(9, .int (nI 0)), (7, .long (1)), (5, .int (nI 2)), (4, .int (nI 10)), (0, .ref (Z.2.1 (0))), (1, .int (nI pq)), (2, .int (nI mq)), (3, .int (w))]) rfl ?_
                          refine x_lve (lv' := [(9, .int (nI 0)), (7, .long (pwN B (0))), (5, .int (nI 2)), (4, .int (nI 10)), (0, .ref (Z.2.1 (0))), (1, .int (nI pq)), (2, .int (nI mq)), (3, .int (w))]) rfl ?_
                          exact LP_111 (mq + 1) 0 (Nat.zero_le _) (by omega)
                        · exact absurd c_57 (by decide)
              · skip
                refine x_iload C d_Mo_odds_78 1 rfl ?_
                refine x_istore C d_Mo_odds_80 (by decide) (lv' := [(6, .int (nI 11)), (5, .int (nI 16)), (4, .int (nI 11)), (0, .ref (Z.2.1 (0))), (1, .int (nI pq)), (2, .int (nI mq)), (3, .int (w))]) rfl ?_
                refine x_iload C d_Mo_odds_82 0 rfl ?_
                refine x_ifeq C d_Mo_odds_84 105 (by decide) (fun c_60 => ?_) (fun c_60 => ?_)
                · exact absurd c_60 (by decide)
                · refine x_iload C d_Mo_odds_87 1 rfl ?_
                  refine x_iload C d_Mo_odds_89 0 rfl ?_
                  refine x_irem C d_Mo_odds_91 (by assumption) ?_
                  refine x_topi (x' := 5) (by decide) ?_
                  refine x_istore C d_Mo_odds_92 (by decide) (lv' := [(7, .int (5)), (6, .int (nI 11)), (5, .int (nI 16)), (4, .int (nI 11)), (0, .ref (Z.2.1 (0))), (1, .int (nI pq)), (2, .int (nI mq)), (3, .int (w))]) rfl ?_
                  refine x_iload C d_Mo_odds_94 1 rfl ?_
                  refine x_istore C d_Mo_odds_96 (by decide) (lv' := [(5, .int (nI 11)), (7, .int (5)), (6, .int (nI 11)), (4, .int (nI 11)), (0, .ref (Z.2.1 (0))), (1, .int (nI pq)), (2, .int (nI mq)), (3, .int (w))]) rfl ?_
                  refine x_iload C d_Mo_odds_98 1 rfl ?_
                  refine x_istore C d_Mo_odds_100 (by decide) (lv' := [(6, .int (5)), (5, .int (nI 11)), (7, .int (5)), (4, .int (nI 11)), (0, .ref (Z.2.1 (0))), (1, .int (nI pq)), (2, .int (nI mq)), (3, .int (w))]) rfl ?_
                  refine x_goto C d_Mo_odds_102 82 (by decide) ?_
                  refine x_iload C d_Mo_odds_82 0 rfl ?_
                  refine x_ifeq C d_Mo_odds_84 105 (by decide) (fun c_61 => ?_) (fun c_61 => ?_)
                  · exact absurd c_61 (by decide)
                  · refine x_iload C d_Mo_odds_87 1 rfl ?_
                    refine x_iload C d_Mo_odds_89 0 rfl ?_
                    refine x_irem C d_Mo_odds_91 (by decide) ?_
                    refine x_topi (x' := 1) (by decide) ?_
                    refine x_istore C d_Mo_odds_92 (by decide) (lv' := [(7, .int (1)), (6, .int (5)), (5, .int (nI 11)), (4, .int (nI 11)), (0, .ref (Z.2.1 (0))), (1, .int (nI pq)), (2, .int (nI mq)), (3, .int (w))]) rfl ?_
                    refine x_iload C d_Mo_odds_94 1 rfl ?_
                    refine x_topi (show (5 : Int32) = nI 5 by decide) ?_
                    refine x_istore C d_Mo_odds_96 (by decide) (lv' := [(5, .int (nI 5)), (7, .int (1)), (6, .int (5)), (4, .int (nI 11)), (0, .ref (Z.2.1 (0))), (1, .int (nI pq)), (2, .int (nI mq)), (3, .int (w))]) rfl ?_
                    refine x_iload C d_Mo_odds_98 1 rfl ?_
                    refine x_istore C d_Mo_odds_100 (by decide) (lv' := [(6, .int (1)), (5, .int (nI 5)), (7, .int (1)), (4, .int (nI 11)), (0, .ref (Z.2.1 (0))), (1, .int (nI pq)), (2, .int (nI mq)), (3, .int (w))]) rfl ?_
                    refine x_goto C d_Mo_odds_102 82 (by decide) ?_
                    refine x_iload C d_Mo_odds_82 0 rfl ?_
                    refine x_ifeq C d_Mo_odds_84 105 (by decide) (fun c_62 => ?_) (fun c_62 => ?_)
                    · exact absurd c_62 (by decide)
                    · refine x_iload C d_Mo_odds_87 1 rfl ?_
                      refine x_iload C d_Mo_odds_89 0 rfl ?_
                      refine x_irem C d_Mo_odds_91 (by decide) ?_
                      refine x_topi (x' := 0) (by decide) ?_
                      refine x_istore C d_Mo_odds_92 (by decide) (lv' := [(7, .int (0)), (6, .int (1)), (5, .int (nI 5)), (4, .int (nI 11)), (0, .ref (Z.2.1 (0))), (1, .int (nI pq)), (2, .int (nI mq)), (3, .int (w))]) rfl ?_
                      refine x_iload C d_Mo_odds_94 1 rfl ?_
                      refine x_topi (show (1 : Int32) = nI 1 by decide) ?_
                      refine x_istore C d_Mo_odds_96 (by decide) (lv' := [(5, .int (nI 1)), (7, .int (0)), (6, .int (1)), (4, .int (nI 11)), (0, .ref (Z.2.1 (0))), (1, .int (nI pq)), (2, .int (nI mq)), (3, .int (w))]) rfl ?_
                      refine x_iload C d_Mo_odds_98 1 rfl ?_
                      refine x_istore C d_Mo_odds_100 (by decide) (lv' := [(6, .int (0)), (5, .int (nI 1)), (7, .int (0)), (4, .int (nI 11)), (0, .ref (Z.2.1 (0))), (1, .int (nI pq)), (2, .int (nI mq)), (3, .int (w))]) rfl ?_
                      refine x_goto C d_Mo_odds_102 82 (by decide) ?_
                      refine x_iload C d_Mo_odds_82 0 rfl ?_
                      refine x_ifeq C d_Mo_odds_84 105 (by decide) (fun c_63 => ?_) (fun c_63 => ?_)
                      · obtain ⟨B, hB⟩ : ∃ B : Int64, B = ((if w = 0 then nI 11 else 16) / nI (Nat.gcd (nI 11).toNatClampNeg 16)).toInt64 := ⟨_, rfl⟩
                        have hbase : pwN B mq = pwN (((if w = 0 then nI 11 else 16) / nI (Nat.gcd (nI 11).toNatClampNeg 16)).toInt64) mq := by rw [hB]
                        refine x_lconst C d_Mo_odds_105 (v := 1) (by decide) ?_
                        refine x_lstore C d_Mo_odds_106 (by decide) (lv' := [(7, .long (1)), (6, .int (0)), (5, .int (nI 1)), (4, .int (nI 11)), (0, .ref (Z.2.1 (0))), (1, .int (nI pq)), (2, .int (nI mq)), (3, .int (w))]) rfl ?_
                        refine x_iconst C d_Mo_odds_108 (v := 0) (by decide) ?_
                        refine x_topi (show (0 : Int32) = nI 0 by decide) ?_
                        refine x_istore C d_Mo_odds_109 (by decide) (lv' := [(9, .int (nI 0)), (7, .long (1)), (6, .int (0)), (5, .int (nI 1)), (4, .int (nI 11)), (0, .ref (Z.2.1 (0))), (1, .int (nI pq)), (2, .int (nI mq)), (3, .int (w))]) rfl ?_
                        have LP_111 : ∀ (f_ i : Nat), i ≤ mq → mq - i < f_ → WX X 10 yM Z (QX X yM Z (QcL yM Z (if (0 ≤ (nI pq) ∧ (nI pq) < g 0 1) ∧ (0 ≤ (nI mq) ∧ (nI mq) ≤ 15) ∧ (0 ≤ w ∧ w ≤ 1) then pwN (((if w = 0 then ctmM (g 0) (nI pq).toNatClampNeg (sz (g 0)) 16 else 16) / nI (Nat.gcd (ctmM (g 0) (nI pq).toNatClampNeg (sz (g 0)) 16).toNatClampNeg 16)).toInt64) (nI mq).toNatClampNeg else (-1000001 : Int32).toInt64) (if (0 ≤ (nI pq) ∧ (nI pq) < g 0 1) ∧ (0 ≤ (nI mq) ∧ (nI mq) ≤ 15) ∧ (0 ≤ w ∧ w ≤ 1) then g else va_up g 4 (mfnR (g 4) 0)))) (g) 111 [(9, .int (nI i)), (7, .long (pwN B (i))), (5, .int (nI 1)), (4, .int (nI 11)), (0, .ref (Z.2.1 (0))), (1, .int (nI pq)), (2, .int (nI mq)), (3, .int (w))] [] := by
                          intro f_
                          induction f_ with
                          | zero => intro i h1_ h2_; exact absurd h2_ (Nat.not_lt_zero _)
                          | succ f_ ih_111 =>
                            intro i hi_111 hf_111
                            refine x_iload C d_Mo_odds_111 0 rfl ?_
                            refine x_iload_n C d_Mo_odds_113 6 rfl rfl ?_
                            refine x_icmp_ge C d_Mo_odds_114 143 (by decide) (fun c_64 => ?_) (fun c_64 => ?_)
                            · have nc_64 := Int32.not_lt.mpr c_64
                              have mc_64 : mq ≤ i := (nI_leI (by omega) (by omega)).mp (show nI mq ≤ nI i from c_64)
                              have e_i : mq = i := by omega
                              subst e_i
                              refine x_lload C d_Mo_odds_143 1 rfl ?_
                              exact x_lret C (by rw [if_pos (by simp [*])]; simp only [hcp, hcm, ekk]; rw [hbase]) (by rw [if_pos (by simp [*])]) d_Mo_odds_145
                            · have nc_64 := Int32.not_le.mp c_64
                              have mc_64 : ¬ mq ≤ i := fun z_ => (show ¬ nI mq ≤ nI i from c_64) ((nI_leI (by omega) (by omega)).mpr z_)
                              refine x_lload C d_Mo_odds_117 1 rfl ?_
                              refine x_iload_n C d_Mo_odds_119 7 rfl rfl ?_
                              refine x_ifne C d_Mo_odds_120 128 (by decide) (fun c_65 => ?_) (fun c_65 => ?_)
                              · refine x_bipush C d_Mo_odds_128 (v := 16) (by decide) ?_
                                refine x_iload C d_Mo_odds_130 2 rfl ?_
                                refine x_idiv C d_Mo_odds_132 (by decide) ?_
                                refine x_topi (x' := 16) (by decide) ?_
                                refine x_i2l C d_Mo_odds_133 ?_
                                refine x_topl (x' := B) (by rw [hB]; first | (rw [if_pos (by assumption)]; decide) | (rw [if_neg (by assumption)]; decide)) ?_
                                refine x_lmul C d_Mo_odds_134 ?_
                                refine x_lstore C d_Mo_odds_135 (by decide) (lv' := [(7, .long ((pwN B (i)) * B)), (9, .int (nI i)), (5, .int (nI 1)), (4, .int (nI 11)), (0, .ref (Z.2.1 (0))), (1, .int (nI pq)), (2, .int (nI mq)), (3, .int (w))]) rfl ?_
                                refine x_iinc C d_Mo_odds_137 1 rfl (v := nI (i + 1)) (nI_1 _) (by decide) (lv' := [(9, .int (nI (i + 1))), (7, .long ((pwN B (i)) * B)), (5, .int (nI 1)), (4, .int (nI 11)), (0, .ref (Z.2.1 (0))), (1, .int (nI pq)), (2, .int (nI mq)), (3, .int (w))]) rfl ?_
                                refine x_goto C d_Mo_odds_140 111 (by decide) ?_
                                refine x_lve (lv' := [(9, .int (nI (i + 1))), (7, .long (pwN B (i + 1))), (5, .int (nI 1)), (4, .int (nI 11)), (0, .ref (Z.2.1 (0))), (1, .int (nI pq)), (2, .int (nI mq)), (3, .int (w))]) rfl ?_
                                exact ih_111 (i + 1) (by omega) (by omega)
                              · refine x_iload C d_Mo_odds_123 3 rfl ?_
                                refine x_goto C d_Mo_odds_125 130 (by decide) ?_
                                refine x_iload C d_Mo_odds_130 2 rfl ?_
                                refine x_idiv C d_Mo_odds_132 (by decide) ?_
                                refine x_topi (x' := 11) (by decide) ?_
                                refine x_i2l C d_Mo_odds_133 ?_
                                refine x_topl (x' := B) (by rw [hB]; first | (rw [if_pos (by assumption)]; decide) | (rw [if_neg (by assumption)]; decide)) ?_
                                refine x_lmul C d_Mo_odds_134 ?_
                                refine x_lstore C d_Mo_odds_135 (by decide) (lv' := [(7, .long ((pwN B (i)) * B)), (9, .int (nI i)), (5, .int (nI 1)), (4, .int (nI 11)), (0, .ref (Z.2.1 (0))), (1, .int (nI pq)), (2, .int (nI mq)), (3, .int (w))]) rfl ?_
                                refine x_iinc C d_Mo_odds_137 1 rfl (v := nI (i + 1)) (nI_1 _) (by decide) (lv' := [(9, .int (nI (i + 1))), (7, .long ((pwN B (i)) * B)), (5, .int (nI 1)), (4, .int (nI 11)), (0, .ref (Z.2.1 (0))), (1, .int (nI pq)), (2, .int (nI mq)), (3, .int (w))]) rfl ?_
                                refine x_goto C d_Mo_odds_140 111 (by decide) ?_
                                refine x_lve (lv' := [(9, .int (nI (i + 1))), (7, .long (pwN B (i + 1))), (5, .int (nI 1)), (4, .int (nI 11)), (0, .ref (Z.2.1 (0))), (1, .int (nI pq)), (2, .int (nI mq)), (3, .int (w))]) rfl ?_
                                exact ih_111 (i + 1) (by omega) (by omega)
                        refine x_lv [0, 1, 3, 4, 5, 6, 7, 8] (lv' := [(9, .int (nI 0)), (7, .long (1)), (5, .int (nI 1)), (4, .int (nI 11)), (0, .ref (Z.2.1 (0))), (1, .int (nI pq)), (2, .int (nI mq)), (3, .int (w))]) rfl ?_
                        refine x_lve (lv' := [(9, .int (nI 0)), (7, .long (pwN B (0))), (5, .int (nI 1)), (4, .int (nI 11)), (0, .ref (Z.2.1 (0))), (1, .int (nI pq)), (2, .int (nI mq)), (3, .int (w))]) rfl ?_
                        exact LP_111 (mq + 1) 0 (Nat.zero_le _) (by omega)
                      · exact absurd c_63 (by decide)
              · skip
                refine x_iload C d_Mo_odds_78 1 rfl ?_
                refine x_istore C d_Mo_odds_80 (by decide) (lv' := [(6, .int (nI 12)), (5, .int (nI 16)), (4, .int (nI 12)), (0, .ref (Z.2.1 (0))), (1, .int (nI pq)), (2, .int (nI mq)), (3, .int (w))]) rfl ?_
                refine x_iload C d_Mo_odds_82 0 rfl ?_
                refine x_ifeq C d_Mo_odds_84 105 (by decide) (fun c_66 => ?_) (fun c_66 => ?_)
                · exact absurd c_66 (by decide)
                · refine x_iload C d_Mo_odds_87 1 rfl ?_
                  refine x_iload C d_Mo_odds_89 0 rfl ?_
                  refine x_irem C d_Mo_odds_91 (by assumption) ?_
                  refine x_topi (x' := 4) (by decide) ?_
                  refine x_istore C d_Mo_odds_92 (by decide) (lv' := [(7, .int (4)), (6, .int (nI 12)), (5, .int (nI 16)), (4, .int (nI 12)), (0, .ref (Z.2.1 (0))), (1, .int (nI pq)), (2, .int (nI mq)), (3, .int (w))]) rfl ?_
                  refine x_iload C d_Mo_odds_94 1 rfl ?_
                  refine x_istore C d_Mo_odds_96 (by decide) (lv' := [(5, .int (nI 12)), (7, .int (4)), (6, .int (nI 12)), (4, .int (nI 12)), (0, .ref (Z.2.1 (0))), (1, .int (nI pq)), (2, .int (nI mq)), (3, .int (w))]) rfl ?_
                  refine x_iload C d_Mo_odds_98 1 rfl ?_
                  refine x_istore C d_Mo_odds_100 (by decide) (lv' := [(6, .int (4)), (5, .int (nI 12)), (7, .int (4)), (4, .int (nI 12)), (0, .ref (Z.2.1 (0))), (1, .int (nI pq)), (2, .int (nI mq)), (3, .int (w))]) rfl ?_
                  refine x_goto C d_Mo_odds_102 82 (by decide) ?_
                  refine x_iload C d_Mo_odds_82 0 rfl ?_
                  refine x_ifeq C d_Mo_odds_84 105 (by decide) (fun c_67 => ?_) (fun c_67 => ?_)
                  · exact absurd c_67 (by decide)
                  · refine x_iload C d_Mo_odds_87 1 rfl ?_
                    refine x_iload C d_Mo_odds_89 0 rfl ?_
                    refine x_irem C d_Mo_odds_91 (by decide) ?_
                    refine x_topi (x' := 0) (by decide) ?_
                    refine x_istore C d_Mo_odds_92 (by decide) (lv' := [(7, .int (0)), (6, .int (4)), (5, .int (nI 12)), (4, .int (nI 12)), (0, .ref (Z.2.1 (0))), (1, .int (nI pq)), (2, .int (nI mq)), (3, .int (w))]) rfl ?_
                    refine x_iload C d_Mo_odds_94 1 rfl ?_
                    refine x_topi (show (4 : Int32) = nI 4 by decide) ?_
                    refine x_istore C d_Mo_odds_96 (by decide) (lv' := [(5, .int (nI 4)), (7, .int (0)), (6, .int (4)), (4, .int (nI 12)), (0, .ref (Z.2.1 (0))), (1, .int (nI pq)), (2, .int (nI mq)), (3, .int (w))]) rfl ?_
                    refine x_iload C d_Mo_odds_98 1 rfl ?_
                    refine x_istore C d_Mo_odds_100 (by decide) (lv' := [(6, .int (0)), (5, .int (nI 4)), (7, .int (0)), (4, .int (nI 12)), (0, .ref (Z.2.1 (0))), (1, .int (nI pq)), (2, .int (nI mq)), (3, .int (w))]) rfl ?_
                    refine x_goto C d_Mo_odds_102 82 (by decide) ?_
                    refine x_iload C d_Mo_odds_82 0 rfl ?_
                    refine x_ifeq C d_Mo_odds_84 105 (by decide) (fun c_68 => ?_) (fun c_68 => ?_)
                    · obtain ⟨B, hB⟩ : ∃ B : Int64, B = ((if w = 0 then nI 12 else 16) / nI (Nat.gcd (nI 12).toNatClampNeg 16)).toInt64 := ⟨_, rfl⟩
                      have hbase : pwN B mq = pwN (((if w = 0 then nI 12 else 16) / nI (Nat.gcd (nI 12).toNatClampNeg 16)).toInt64) mq := by rw [hB]
                      refine x_lconst C d_Mo_odds_105 (v := 1) (by decide) ?_
                      refine x_lstore C d_Mo_odds_106 (by decide) (lv' := [(7, .long (1)), (6, .int (0)), (5, .int (nI 4)), (4, .int (nI 12)), (0, .ref (Z.2.1 (0))), (1, .int (nI pq)), (2, .int (nI mq)), (3, .int (w))]) rfl ?_
                      refine x_iconst C d_Mo_odds_108 (v := 0) (by decide) ?_
                      refine x_topi (show (0 : Int32) = nI 0 by decide) ?_
                      refine x_istore C d_Mo_odds_109 (by decide) (lv' := [(9, .int (nI 0)), (7, .long (1)), (6, .int (0)), (5, .int (nI 4)), (4, .int (nI 12)), (0, .ref (Z.2.1 (0))), (1, .int (nI pq)), (2, .int (nI mq)), (3, .int (w))]) rfl ?_
                      have LP_111 : ∀ (f_ i : Nat), i ≤ mq → mq - i < f_ → WX X 10 yM Z (QX X yM Z (QcL yM Z (if (0 ≤ (nI pq) ∧ (nI pq) < g 0 1) ∧ (0 ≤ (nI mq) ∧ (nI mq) ≤ 15) ∧ (0 ≤ w ∧ w ≤ 1) then pwN (((if w = 0 then ctmM (g 0) (nI pq).toNatClampNeg (sz (g 0)) 16 else 16) / nI (Nat.gcd (ctmM (g 0) (nI pq).toNatClampNeg (sz (g 0)) 16).toNatClampNeg 16)).toInt64) (nI mq).toNatClampNeg else (-1000001 : Int32).toInt64) (if (0 ≤ (nI pq) ∧ (nI pq) < g 0 1) ∧ (0 ≤ (nI mq) ∧ (nI mq) ≤ 15) ∧ (0 ≤ w ∧ w ≤ 1) then g else va_up g 4 (mfnR (g 4) 0)))) (g) 111 [(9, .int (nI i)), (7, .long (pwN B (i))), (5, .int (nI 4)), (4, .int (nI 12)), (0, .ref (Z.2.1 (0))), (1, .int (nI pq)), (2, .int (nI mq)), (3, .int (w))] [] := by
                        intro f_
                        induction f_ with
                        | zero => intro i h1_ h2_; exact absurd h2_ (Nat.not_lt_zero _)
                        | succ f_ ih_111 =>
                          intro i hi_111 hf_111
                          refine x_iload C d_Mo_odds_111 0 rfl ?_
                          refine x_iload_n C d_Mo_odds_113 6 rfl rfl ?_
                          refine x_icmp_ge C d_Mo_odds_114 143 (by decide) (fun c_69 => ?_) (fun c_69 => ?_)
                          · have nc_69 := Int32.not_lt.mpr c_69
                            have mc_69 : mq ≤ i := (nI_leI (by omega) (by omega)).mp (show nI mq ≤ nI i from c_69)
                            have e_i : mq = i := by omega
                            subst e_i
                            refine x_lload C d_Mo_odds_143 1 rfl ?_
                            exact x_lret C (by rw [if_pos (by simp [*])]; simp only [hcp, hcm, ekk]; rw [hbase]) (by rw [if_pos (by simp [*])]) d_Mo_odds_145
                          · have nc_69 := Int32.not_le.mp c_69
                            have mc_69 : ¬ mq ≤ i := fun z_ => (show ¬ nI mq ≤ nI i from c_69) ((nI_leI (by omega) (by omega)).mpr z_)
                            refine x_lload C d_Mo_odds_117 1 rfl ?_
                            refine x_iload_n C d_Mo_odds_119 7 rfl rfl ?_
                            refine x_ifne C d_Mo_odds_120 128 (by decide) (fun c_70 => ?_) (fun c_70 => ?_)
                            · refine x_bipush C d_Mo_odds_128 (v := 16) (by decide) ?_
                              refine x_iload C d_Mo_odds_130 2 rfl ?_
                              refine x_idiv C d_Mo_odds_132 (by decide) ?_
                              refine x_topi (x' := 4) (by decide) ?_
                              refine x_i2l C d_Mo_odds_133 ?_
                              refine x_topl (x' := B) (by rw [hB]; first | (rw [if_pos (by assumption)]; decide) | (rw [if_neg (by assumption)]; decide)) ?_
                              refine x_lmul C d_Mo_odds_134 ?_
                              refine x_lstore C d_Mo_odds_135 (by decide) (lv' := [(7, .long ((pwN B (i)) * B)), (9, .int (nI i)), (5, .int (nI 4)), (4, .int (nI 12)), (0, .ref (Z.2.1 (0))), (1, .int (nI pq)), (2, .int (nI mq)), (3, .int (w))]) rfl ?_
                              refine x_iinc C d_Mo_odds_137 1 rfl (v := nI (i + 1)) (nI_1 _) (by decide) (lv' := [(9, .int (nI (i + 1))), (7, .long ((pwN B (i)) * B)), (5, .int (nI 4)), (4, .int (nI 12)), (0, .ref (Z.2.1 (0))), (1, .int (nI pq)), (2, .int (nI mq)), (3, .int (w))]) rfl ?_
                              refine x_goto C d_Mo_odds_140 111 (by decide) ?_
                              refine x_lve (lv' := [(9, .int (nI (i + 1))), (7, .long (pwN B (i + 1))), (5, .int (nI 4)), (4, .int (nI 12)), (0, .ref (Z.2.1 (0))), (1, .int (nI pq)), (2, .int (nI mq)), (3, .int (w))]) rfl ?_
                              exact ih_111 (i + 1) (by omega) (by omega)
                            · refine x_iload C d_Mo_odds_123 3 rfl ?_
                              refine x_goto C d_Mo_odds_125 130 (by decide) ?_
                              refine x_iload C d_Mo_odds_130 2 rfl ?_
                              refine x_idiv C d_Mo_odds_132 (by decide) ?_
                              refine x_topi (x' := 3) (by decide) ?_
                              refine x_i2l C d_Mo_odds_133 ?_
                              refine x_topl (x' := B) (by rw [hB]; first | (rw [if_pos (by assumption)]; decide) | (rw [if_neg (by assumption)]; decide)) ?_
                              refine x_lmul C d_Mo_odds_134 ?_
                              refine x_lstore C d_Mo_odds_135 (by decide) (lv' := [(7, .long ((pwN B (i)) * B)), (9, .int (nI i)), (5, .int (nI 4)), (4, .int (nI 12)), (0, .ref (Z.2.1 (0))), (1, .int (nI pq)), (2, .int (nI mq)), (3, .int (w))]) rfl ?_
                              refine x_iinc C d_Mo_odds_137 1 rfl (v := nI (i + 1)) (nI_1 _) (by decide) (lv' := [(9, .int (nI (i + 1))), (7, .long ((pwN B (i)) * B)), (5, .int (nI 4)), (4, .int (nI 12)), (0, .ref (Z.2.1 (0))), (1, .int (nI pq)), (2, .int (nI mq)), (3, .int (w))]) rfl ?_
                              refine x_goto C d_Mo_odds_140 111 (by decide) ?_
                              refine x_lve (lv' := [(9, .int (nI (i + 1))), (7, .long (pwN B (i + 1))), (5, .int (nI 4)), (4, .int (nI 12)), (0, .ref (Z.2.1 (0))), (1, .int (nI pq)), (2, .int (nI mq)), (3, .int (w))]) rfl ?_
                              exact ih_111 (i + 1) (by omega) (by omega)
                      refine x_lv [0, 1, 3, 4, 5, 6, 7, 8] (lv' := [(9, .int (nI 0)), (7, .long (1)), (5, .int (nI 4)), (4, .int (nI 12)), (0, .ref (Z.2.1 (0))), (1, .int (nI pq)), (2, .int (nI mq)), (3, .int (w))]) rfl ?_
                      refine x_lve (lv' := [(9, .int (nI 0)), (7, .long (pwN B (0))), (5, .int (nI 4)), (4, .int (nI 12)), (0, .ref (Z.2.1 (0))), (1, .int (nI pq)), (2, .int (nI mq)), (3, .int (w))]) rfl ?_
                      exact LP_111 (mq + 1) 0 (Nat.zero_le _) (by omega)
                    · exact absurd c_68 (by decide)
              · skip
                refine x_iload C d_Mo_odds_78 1 rfl ?_
                refine x_istore C d_Mo_odds_80 (by decide) (lv' := [(6, .int (nI 13)), (5, .int (nI 16)), (4, .int (nI 13)), (0, .ref (Z.2.1 (0))), (1, .int (nI pq)), (2, .int (nI mq)), (3, .int (w))]) rfl ?_
                refine x_iload C d_Mo_odds_82 0 rfl ?_
                refine x_ifeq C d_Mo_odds_84 105 (by decide) (fun c_71 => ?_) (fun c_71 => ?_)
                · exact absurd c_71 (by decide)
                · refine x_iload C d_Mo_odds_87 1 rfl ?_
                  refine x_iload C d_Mo_odds_89 0 rfl ?_
                  refine x_irem C d_Mo_odds_91 (by assumption) ?_
                  refine x_topi (x' := 3) (by decide) ?_
                  refine x_istore C d_Mo_odds_92 (by decide) (lv' := [(7, .int (3)), (6, .int (nI 13)), (5, .int (nI 16)), (4, .int (nI 13)), (0, .ref (Z.2.1 (0))), (1, .int (nI pq)), (2, .int (nI mq)), (3, .int (w))]) rfl ?_
                  refine x_iload C d_Mo_odds_94 1 rfl ?_
                  refine x_istore C d_Mo_odds_96 (by decide) (lv' := [(5, .int (nI 13)), (7, .int (3)), (6, .int (nI 13)), (4, .int (nI 13)), (0, .ref (Z.2.1 (0))), (1, .int (nI pq)), (2, .int (nI mq)), (3, .int (w))]) rfl ?_
                  refine x_iload C d_Mo_odds_98 1 rfl ?_
                  refine x_istore C d_Mo_odds_100 (by decide) (lv' := [(6, .int (3)), (5, .int (nI 13)), (7, .int (3)), (4, .int (nI 13)), (0, .ref (Z.2.1 (0))), (1, .int (nI pq)), (2, .int (nI mq)), (3, .int (w))]) rfl ?_
                  refine x_goto C d_Mo_odds_102 82 (by decide) ?_
                  refine x_iload C d_Mo_odds_82 0 rfl ?_
                  refine x_ifeq C d_Mo_odds_84 105 (by decide) (fun c_72 => ?_) (fun c_72 => ?_)
                  · exact absurd c_72 (by decide)
                  · refine x_iload C d_Mo_odds_87 1 rfl ?_
                    refine x_iload C d_Mo_odds_89 0 rfl ?_
                    refine x_irem C d_Mo_odds_91 (by decide) ?_
                    refine x_topi (x' := 1) (by decide) ?_
                    refine x_istore C d_Mo_odds_92 (by decide) (lv' := [(7, .int (1)), (6, .int (3)), (5, .int (nI 13)), (4, .int (nI 13)), (0, .ref (Z.2.1 (0))), (1, .int (nI pq)), (2, .int (nI mq)), (3, .int (w))]) rfl ?_
                    refine x_iload C d_Mo_odds_94 1 rfl ?_
                    refine x_topi (show (3 : Int32) = nI 3 by decide) ?_
                    refine x_istore C d_Mo_odds_96 (by decide) (lv' := [(5, .int (nI 3)), (7, .int (1)), (6, .int (3)), (4, .int (nI 13)), (0, .ref (Z.2.1 (0))), (1, .int (nI pq)), (2, .int (nI mq)), (3, .int (w))]) rfl ?_
                    refine x_iload C d_Mo_odds_98 1 rfl ?_
                    refine x_istore C d_Mo_odds_100 (by decide) (lv' := [(6, .int (1)), (5, .int (nI 3)), (7, .int (1)), (4, .int (nI 13)), (0, .ref (Z.2.1 (0))), (1, .int (nI pq)), (2, .int (nI mq)), (3, .int (w))]) rfl ?_
                    refine x_goto C d_Mo_odds_102 82 (by decide) ?_
                    refine x_iload C d_Mo_odds_82 0 rfl ?_
                    refine x_ifeq C d_Mo_odds_84 105 (by decide) (fun c_73 => ?_) (fun c_73 => ?_)
                    · exact absurd c_73 (by decide)
                    · refine x_iload C d_Mo_odds_87 1 rfl ?_
                      refine x_iload C d_Mo_odds_89 0 rfl ?_
                      refine x_irem C d_Mo_odds_91 (by decide) ?_
                      refine x_topi (x' := 0) (by decide) ?_
                      refine x_istore C d_Mo_odds_92 (by decide) (lv' := [(7, .int (0)), (6, .int (1)), (5, .int (nI 3)), (4, .int (nI 13)), (0, .ref (Z.2.1 (0))), (1, .int (nI pq)), (2, .int (nI mq)), (3, .int (w))]) rfl ?_
                      refine x_iload C d_Mo_odds_94 1 rfl ?_
                      refine x_topi (show (1 : Int32) = nI 1 by decide) ?_
                      refine x_istore C d_Mo_odds_96 (by decide) (lv' := [(5, .int (nI 1)), (7, .int (0)), (6, .int (1)), (4, .int (nI 13)), (0, .ref (Z.2.1 (0))), (1, .int (nI pq)), (2, .int (nI mq)), (3, .int (w))]) rfl ?_
                      refine x_iload C d_Mo_odds_98 1 rfl ?_
                      refine x_istore C d_Mo_odds_100 (by decide) (lv' := [(6, .int (0)), (5, .int (nI 1)), (7, .int (0)), (4, .int (nI 13)), (0, .ref (Z.2.1 (0))), (1, .int (nI pq)), (2, .int (nI mq)), (3, .int (w))]) rfl ?_
                      refine x_goto C d_Mo_odds_102 82 (by decide) ?_
                      refine x_iload C d_Mo_odds_82 0 rfl ?_
                      refine x_ifeq C d_Mo_odds_84 105 (by decide) (fun c_74 => ?_) (fun c_74 => ?_)
                      · obtain ⟨B, hB⟩ : ∃ B : Int64, B = ((if w = 0 then nI 13 else 16) / nI (Nat.gcd (nI 13).toNatClampNeg 16)).toInt64 := ⟨_, rfl⟩
                        have hbase : pwN B mq = pwN (((if w = 0 then nI 13 else 16) / nI (Nat.gcd (nI 13).toNatClampNeg 16)).toInt64) mq := by rw [hB]
                        refine x_lconst C d_Mo_odds_105 (v := 1) (by decide) ?_
                        refine x_lstore C d_Mo_odds_106 (by decide) (lv' := [(7, .long (1)), (6, .int (0)), (5, .int (nI 1)), (4, .int (nI 13)), (0, .ref (Z.2.1 (0))), (1, .int (nI pq)), (2, .int (nI mq)), (3, .int (w))]) rfl ?_
                        refine x_iconst C d_Mo_odds_108 (v := 0) (by decide) ?_
                        refine x_topi (show (0 : Int32) = nI 0 by decide) ?_
                        refine x_istore C d_Mo_odds_109 (by decide) (lv' := [(9, .int (nI 0)), (7, .long (1)), (6, .int (0)), (5, .int (nI 1)), (4, .int (nI 13)), (0, .ref (Z.2.1 (0))), (1, .int (nI pq)), (2, .int (nI mq)), (3, .int (w))]) rfl ?_
                        have LP_111 : ∀ (f_ i : Nat), i ≤ mq → mq - i < f_ → WX X 10 yM Z (QX X yM Z (QcL yM Z (if (0 ≤ (nI pq) ∧ (nI pq) < g 0 1) ∧ (0 ≤ (nI mq) ∧ (nI mq) ≤ 15) ∧ (0 ≤ w ∧ w ≤ 1) then pwN (((if w = 0 then ctmM (g 0) (nI pq).toNatClampNeg (sz (g 0)) 16 else 16) / nI (Nat.gcd (ctmM (g 0) (nI pq).toNatClampNeg (sz (g 0)) 16).toNatClampNeg 16)).toInt64) (nI mq).toNatClampNeg else (-1000001 : Int32).toInt64) (if (0 ≤ (nI pq) ∧ (nI pq) < g 0 1) ∧ (0 ≤ (nI mq) ∧ (nI mq) ≤ 15) ∧ (0 ≤ w ∧ w ≤ 1) then g else va_up g 4 (mfnR (g 4) 0)))) (g) 111 [(9, .int (nI i)), (7, .long (pwN B (i))), (5, .int (nI 1)), (4, .int (nI 13)), (0, .ref (Z.2.1 (0))), (1, .int (nI pq)), (2, .int (nI mq)), (3, .int (w))] [] := by
                          intro f_
                          induction f_ with
                          | zero => intro i h1_ h2_; exact absurd h2_ (Nat.not_lt_zero _)
                          | succ f_ ih_111 =>
                            intro i hi_111 hf_111
                            refine x_iload C d_Mo_odds_111 0 rfl ?_
                            refine x_iload_n C d_Mo_odds_113 6 rfl rfl ?_
                            refine x_icmp_ge C d_Mo_odds_114 143 (by decide) (fun c_75 => ?_) (fun c_75 => ?_)
                            · have nc_75 := Int32.not_lt.mpr c_75
                              have mc_75 : mq ≤ i := (nI_leI (by omega) (by omega)).mp (show nI mq ≤ nI i from c_75)
                              have e_i : mq = i := by omega
                              subst e_i
                              refine x_lload C d_Mo_odds_143 1 rfl ?_
                              exact x_lret C (by rw [if_pos (by simp [*])]; simp only [hcp, hcm, ekk]; rw [hbase]) (by rw [if_pos (by simp [*])]) d_Mo_odds_145
                            · have nc_75 := Int32.not_le.mp c_75
                              have mc_75 : ¬ mq ≤ i := fun z_ => (show ¬ nI mq ≤ nI i from c_75) ((nI_leI (by omega) (by omega)).mpr z_)
                              refine x_lload C d_Mo_odds_117 1 rfl ?_
                              refine x_iload_n C d_Mo_odds_119 7 rfl rfl ?_
                              refine x_ifne C d_Mo_odds_120 128 (by decide) (fun c_76 => ?_) (fun c_76 => ?_)
                              · refine x_bipush C d_Mo_odds_128 (v := 16) (by decide) ?_
                                refine x_iload C d_Mo_odds_130 2 rfl ?_
                                refine x_idiv C d_Mo_odds_132 (by decide) ?_
                                refine x_topi (x' := 16) (by decide) ?_
                                refine x_i2l C d_Mo_odds_133 ?_
                                refine x_topl (x' := B) (by rw [hB]; first | (rw [if_pos (by assumption)]; decide) | (rw [if_neg (by assumption)]; decide)) ?_
                                refine x_lmul C d_Mo_odds_134 ?_
                                refine x_lstore C d_Mo_odds_135 (by decide) (lv' := [(7, .long ((pwN B (i)) * B)), (9, .int (nI i)), (5, .int (nI 1)), (4, .int (nI 13)), (0, .ref (Z.2.1 (0))), (1, .int (nI pq)), (2, .int (nI mq)), (3, .int (w))]) rfl ?_
                                refine x_iinc C d_Mo_odds_137 1 rfl (v := nI (i + 1)) (nI_1 _) (by decide) (lv' := [(9, .int (nI (i + 1))), (7, .long ((pwN B (i)) * B)), (5, .int (nI 1)), (4, .int (nI 13)), (0, .ref (Z.2.1 (0))), (1, .int (nI pq)), (2, .int (nI mq)), (3, .int (w))]) rfl ?_
                                refine x_goto C d_Mo_odds_140 111 (by decide) ?_
                                refine x_lve (lv' := [(9, .int (nI (i + 1))), (7, .long (pwN B (i + 1))), (5, .int (nI 1)), (4, .int (nI 13)), (0, .ref (Z.2.1 (0))), (1, .int (nI pq)), (2, .int (nI mq)), (3, .int (w))]) rfl ?_
                                exact ih_111 (i + 1) (by omega) (by omega)
                              · refine x_iload C d_Mo_odds_123 3 rfl ?_
                                refine x_goto C d_Mo_odds_125 130 (by decide) ?_
                                refine x_iload C d_Mo_odds_130 2 rfl ?_
                                refine x_idiv C d_Mo_odds_132 (by decide) ?_
                                refine x_topi (x' := 13) (by decide) ?_
                                refine x_i2l C d_Mo_odds_133 ?_
                                refine x_topl (x' := B) (by rw [hB]; first | (rw [if_pos (by assumption)]; decide) | (rw [if_neg (by assumption)]; decide)) ?_
                                refine x_lmul C d_Mo_odds_134 ?_
                                refine x_lstore C d_Mo_odds_135 (by decide) (lv' := [(7, .long ((pwN B (i)) * B)), (9, .int (nI i)), (5, .int (nI 1)), (4, .int (nI 13)), (0, .ref (Z.2.1 (0))), (1, .int (nI pq)), (2, .int (nI mq)), (3, .int (w))]) rfl ?_
                                refine x_iinc C d_Mo_odds_137 1 rfl (v := nI (i + 1)) (nI_1 _) (by decide) (lv' := [(9, .int (nI (i + 1))), (7, .long ((pwN B (i)) * B)), (5, .int (nI 1)), (4, .int (nI 13)), (0, .ref (Z.2.1 (0))), (1, .int (nI pq)), (2, .int (nI mq)), (3, .int (w))]) rfl ?_
                                refine x_goto C d_Mo_odds_140 111 (by decide) ?_
                                refine x_lve (lv' := [(9, .int (nI (i + 1))), (7, .long (pwN B (i + 1))), (5, .int (nI 1)), (4, .int (nI 13)), (0, .ref (Z.2.1 (0))), (1, .int (nI pq)), (2, .int (nI mq)), (3, .int (w))]) rfl ?_
                                exact ih_111 (i + 1) (by omega) (by omega)
                        refine x_lv [0, 1, 3, 4, 5, 6, 7, 8] (lv' := [(9, .int (nI 0)), (7, .long (1)), (5, .int (nI 1)), (4, .int (nI 13)), (0, .ref (Z.2.1 (0))), (1, .int (nI pq)), (2, .int (nI mq)), (3, .int (w))]) rfl ?_
                        refine x_lve (lv' := [(9, .int (nI 0)), (7, .long (pwN B (0))), (5, .int (nI 1)), (4, .int (nI 13)), (0, .ref (Z.2.1 (0))), (1, .int (nI pq)), (2, .int (nI mq)), (3, .int (w))]) rfl ?_
                        exact LP_111 (mq + 1) 0 (Nat.zero_le _) (by omega)
                      · exact absurd c_74 (by decide)
              · skip
                refine x_iload C d_Mo_odds_78 1 rfl ?_
                refine x_istore C d_Mo_odds_80 (by decide) (lv' := [(6, .int (nI 14)), (5, .int (nI 16)), (4, .int (nI 14)), (0, .ref (Z.2.1 (0))), (1, .int (nI pq)), (2, .int (nI mq)), (3, .int (w))]) rfl ?_
                refine x_iload C d_Mo_odds_82 0 rfl ?_
                refine x_ifeq C d_Mo_odds_84 105 (by decide) (fun c_77 => ?_) (fun c_77 => ?_)
                · exact absurd c_77 (by decide)
                · refine x_iload C d_Mo_odds_87 1 rfl ?_
                  refine x_iload C d_Mo_odds_89 0 rfl ?_
                  refine x_irem C d_Mo_odds_91 (by assumption) ?_
                  refine x_topi (x' := 2) (by decide) ?_
                  refine x_istore C d_Mo_odds_92 (by decide) (lv' := [(7, .int (2)), (6, .int (nI 14)), (5, .int (nI 16)), (4, .int (nI 14)), (0, .ref (Z.2.1 (0))), (1, .int (nI pq)), (2, .int (nI mq)), (3, .int (w))]) rfl ?_
                  refine x_iload C d_Mo_odds_94 1 rfl ?_
                  refine x_istore C d_Mo_odds_96 (by decide) (lv' := [(5, .int (nI 14)), (7, .int (2)), (6, .int (nI 14)), (4, .int (nI 14)), (0, .ref (Z.2.1 (0))), (1, .int (nI pq)), (2, .int (nI mq)), (3, .int (w))]) rfl ?_
                  refine x_iload C d_Mo_odds_98 1 rfl ?_
                  refine x_istore C d_Mo_odds_100 (by decide) (lv' := [(6, .int (2)), (5, .int (nI 14)), (7, .int (2)), (4, .int (nI 14)), (0, .ref (Z.2.1 (0))), (1, .int (nI pq)), (2, .int (nI mq)), (3, .int (w))]) rfl ?_
                  refine x_goto C d_Mo_odds_102 82 (by decide) ?_
                  refine x_iload C d_Mo_odds_82 0 rfl ?_
                  refine x_ifeq C d_Mo_odds_84 105 (by decide) (fun c_78 => ?_) (fun c_78 => ?_)
                  · exact absurd c_78 (by decide)
                  · refine x_iload C d_Mo_odds_87 1 rfl ?_
                    refine x_iload C d_Mo_odds_89 0 rfl ?_
                    refine x_irem C d_Mo_odds_91 (by decide) ?_
                    refine x_topi (x' := 0) (by decide) ?_
                    refine x_istore C d_Mo_odds_92 (by decide) (lv' := [(7, .int (0)), (6, .int (2)), (5, .int (nI 14)), (4, .int (nI 14)), (0, .ref (Z.2.1 (0))), (1, .int (nI pq)), (2, .int (nI mq)), (3, .int (w))]) rfl ?_
                    refine x_iload C d_Mo_odds_94 1 rfl ?_
                    refine x_topi (show (2 : Int32) = nI 2 by decide) ?_
                    refine x_istore C d_Mo_odds_96 (by decide) (lv' := [(5, .int (nI 2)), (7, .int (0)), (6, .int (2)), (4, .int (nI 14)), (0, .ref (Z.2.1 (0))), (1, .int (nI pq)), (2, .int (nI mq)), (3, .int (w))]) rfl ?_
                    refine x_iload C d_Mo_odds_98 1 rfl ?_
                    refine x_istore C d_Mo_odds_100 (by decide) (lv' := [(6, .int (0)), (5, .int (nI 2)), (7, .int (0)), (4, .int (nI 14)), (0, .ref (Z.2.1 (0))), (1, .int (nI pq)), (2, .int (nI mq)), (3, .int (w))]) rfl ?_
                    refine x_goto C d_Mo_odds_102 82 (by decide) ?_
                    refine x_iload C d_Mo_odds_82 0 rfl ?_
                    refine x_ifeq C d_Mo_odds_84 105 (by decide) (fun c_79 => ?_) (fun c_79 => ?_)
                    · obtain ⟨B, hB⟩ : ∃ B : Int64, B = ((if w = 0 then nI 14 else 16) / nI (Nat.gcd (nI 14).toNatClampNeg 16)).toInt64 := ⟨_, rfl⟩
                      have hbase : pwN B mq = pwN (((if w = 0 then nI 14 else 16) / nI (Nat.gcd (nI 14).toNatClampNeg 16)).toInt64) mq := by rw [hB]
                      refine x_lconst C d_Mo_odds_105 (v := 1) (by decide) ?_
                      refine x_lstore C d_Mo_odds_106 (by decide) (lv' := [(7, .long (1)), (6, .int (0)), (5, .int (nI 2)), (4, .int (nI 14)), (0, .ref (Z.2.1 (0))), (1, .int (nI pq)), (2, .int (nI mq)), (3, .int (w))]) rfl ?_
                      refine x_iconst C d_Mo_odds_108 (v := 0) (by decide) ?_
                      refine x_topi (show (0 : Int32) = nI 0 by decide) ?_
                      refine x_istore C d_Mo_odds_109 (by decide) (lv' := [(9, .int (nI 0)), (7, .long (1)), (6, .int (0)), (5, .int (nI 2)), (4, .int (nI 14)), (0, .ref (Z.2.1 (0))), (1, .int (nI pq)), (2, .int (nI mq)), (3, .int (w))]) rfl ?_
                      have LP_111 : ∀ (f_ i : Nat), i ≤ mq → mq - i < f_ → WX X 10 yM Z (QX X yM Z (QcL yM Z (if (0 ≤ (nI pq) ∧ (nI pq) < g 0 1) ∧ (0 ≤ (nI mq) ∧ (nI mq) ≤ 15) ∧ (0 ≤ w ∧ w ≤ 1) then pwN (((if w = 0 then ctmM (g 0) (nI pq).toNatClampNeg (sz (g 0)) 16 else 16) / nI (Nat.gcd (ctmM (g 0) (nI pq).toNatClampNeg (sz (g 0)) 16).toNatClampNeg 16)).toInt64) (nI mq).toNatClampNeg else (-1000001 : Int32).toInt64) (if (0 ≤ (nI pq) ∧ (nI pq) < g 0 1) ∧ (0 ≤ (nI mq) ∧ (nI mq) ≤ 15) ∧ (0 ≤ w ∧ w ≤ 1) then g else va_up g 4 (mfnR (g 4) 0)))) (g) 111 [(9, .int (nI i)), (7, .long (pwN B (i))), (5, .int (nI 2)), (4, .int (nI 14)), (0, .ref (Z.2.1 (0))), (1, .int (nI pq)), (2, .int (nI mq)), (3, .int (w))] [] := by
                        intro f_
                        induction f_ with
                        | zero => intro i h1_ h2_; exact absurd h2_ (Nat.not_lt_zero _)
                        | succ f_ ih_111 =>
                          intro i hi_111 hf_111
                          refine x_iload C d_Mo_odds_111 0 rfl ?_
                          refine x_iload_n C d_Mo_odds_113 6 rfl rfl ?_
                          refine x_icmp_ge C d_Mo_odds_114 143 (by decide) (fun c_80 => ?_) (fun c_80 => ?_)
                          · have nc_80 := Int32.not_lt.mpr c_80
                            have mc_80 : mq ≤ i := (nI_leI (by omega) (by omega)).mp (show nI mq ≤ nI i from c_80)
                            have e_i : mq = i := by omega
                            subst e_i
                            refine x_lload C d_Mo_odds_143 1 rfl ?_
                            exact x_lret C (by rw [if_pos (by simp [*])]; simp only [hcp, hcm, ekk]; rw [hbase]) (by rw [if_pos (by simp [*])]) d_Mo_odds_145
                          · have nc_80 := Int32.not_le.mp c_80
                            have mc_80 : ¬ mq ≤ i := fun z_ => (show ¬ nI mq ≤ nI i from c_80) ((nI_leI (by omega) (by omega)).mpr z_)
                            refine x_lload C d_Mo_odds_117 1 rfl ?_
                            refine x_iload_n C d_Mo_odds_119 7 rfl rfl ?_
                            refine x_ifne C d_Mo_odds_120 128 (by decide) (fun c_81 => ?_) (fun c_81 => ?_)
                            · refine x_bipush C d_Mo_odds_128 (v := 16) (by decide) ?_
                              refine x_iload C d_Mo_odds_130 2 rfl ?_
                              refine x_idiv C d_Mo_odds_132 (by decide) ?_
                              refine x_topi (x' := 8) (by decide) ?_
                              refine x_i2l C d_Mo_odds_133 ?_
                              refine x_topl (x' := B) (by rw [hB]; first | (rw [if_pos (by assumption)]; decide) | (rw [if_neg (by assumption)]; decide)) ?_
                              refine x_lmul C d_Mo_odds_134 ?_
                              refine x_lstore C d_Mo_odds_135 (by decide) (lv' := [(7, .long ((pwN B (i)) * B)), (9, .int (nI i)), (5, .int (nI 2)), (4, .int (nI 14)), (0, .ref (Z.2.1 (0))), (1, .int (nI pq)), (2, .int (nI mq)), (3, .int (w))]) rfl ?_
                              refine x_iinc C d_Mo_odds_137 1 rfl (v := nI (i + 1)) (nI_1 _) (by decide) (lv' := [(9, .int (nI (i + 1))), (7, .long ((pwN B (i)) * B)), (5, .int (nI 2)), (4, .int (nI 14)), (0, .ref (Z.2.1 (0))), (1, .int (nI pq)), (2, .int (nI mq)), (3, .int (w))]) rfl ?_
                              refine x_goto C d_Mo_odds_140 111 (by decide) ?_
                              refine x_lve (lv' := [(9, .int (nI (i + 1))), (7, .long (pwN B (i + 1))), (5, .int (nI 2)), (4, .int (nI 14)), (0, .ref (Z.2.1 (0))), (1, .int (nI pq)), (2, .int (nI mq)), (3, .int (w))]) rfl ?_
                              exact ih_111 (i + 1) (by omega) (by omega)
                            · refine x_iload C d_Mo_odds_123 3 rfl ?_
                              refine x_goto C d_Mo_odds_125 130 (by decide) ?_
                              refine x_iload C d_Mo_odds_130 2 rfl ?_
                              refine x_idiv C d_Mo_odds_132 (by decide) ?_
                              refine x_topi (x' := 7) (by decide) ?_
                              refine x_i2l C d_Mo_odds_133 ?_
                              refine x_topl (x' := B) (by rw [hB]; first | (rw [if_pos (by assumption)]; decide) | (rw [if_neg (by assumption)]; decide)) ?_
                              refine x_lmul C d_Mo_odds_134 ?_
                              refine x_lstore C d_Mo_odds_135 (by decide) (lv' := [(7, .long ((pwN B (i)) * B)), (9, .int (nI i)), (5, .int (nI 2)), (4, .int (nI 14)), (0, .ref (Z.2.1 (0))), (1, .int (nI pq)), (2, .int (nI mq)), (3, .int (w))]) rfl ?_
                              refine x_iinc C d_Mo_odds_137 1 rfl (v := nI (i + 1)) (nI_1 _) (by decide) (lv' := [(9, .int (nI (i + 1))), (7, .long ((pwN B (i)) * B)), (5, .int (nI 2)), (4, .int (nI 14)), (0, .ref (Z.2.1 (0))), (1, .int (nI pq)), (2, .int (nI mq)), (3, .int (w))]) rfl ?_
                              refine x_goto C d_Mo_odds_140 111 (by decide) ?_
                              refine x_lve (lv' := [(9, .int (nI (i + 1))), (7, .long (pwN B (i + 1))), (5, .int (nI 2)), (4, .int (nI 14)), (0, .ref (Z.2.1 (0))), (1, .int (nI pq)), (2, .int (nI mq)), (3, .int (w))]) rfl ?_
                              exact ih_111 (i + 1) (by omega) (by omega)
                      refine x_lv [0, 1, 3, 4, 5, 6, 7, 8] (lv' := [(9, .int (nI 0)), (7, .long (1)), (5, .int (nI 2)), (4, .int (nI 14)), (0, .ref (Z.2.1 (0))), (1, .int (nI pq)), (2, .int (nI mq)), (3, .int (w))]) rfl ?_
                      refine x_lve (lv' := [(9, .int (nI 0)), (7, .long (pwN B (0))), (5, .int (nI 2)), (4, .int (nI 14)), (0, .ref (Z.2.1 (0))), (1, .int (nI pq)), (2, .int (nI mq)), (3, .int (w))]) rfl ?_
                      exact LP_111 (mq + 1) 0 (Nat.zero_le _) (by omega)
                    · exact absurd c_79 (by decide)
              · skip
                refine x_iload C d_Mo_odds_78 1 rfl ?_
                refine x_istore C d_Mo_odds_80 (by decide) (lv' := [(6, .int (nI 15)), (5, .int (nI 16)), (4, .int (nI 15)), (0, .ref (Z.2.1 (0))), (1, .int (nI pq)), (2, .int (nI mq)), (3, .int (w))]) rfl ?_
                refine x_iload C d_Mo_odds_82 0 rfl ?_
                refine x_ifeq C d_Mo_odds_84 105 (by decide) (fun c_82 => ?_) (fun c_82 => ?_)
                · exact absurd c_82 (by decide)
                · refine x_iload C d_Mo_odds_87 1 rfl ?_
                  refine x_iload C d_Mo_odds_89 0 rfl ?_
                  refine x_irem C d_Mo_odds_91 (by assumption) ?_
                  refine x_topi (x' := 1) (by decide) ?_
                  refine x_istore C d_Mo_odds_92 (by decide) (lv' := [(7, .int (1)), (6, .int (nI 15)), (5, .int (nI 16)), (4, .int (nI 15)), (0, .ref (Z.2.1 (0))), (1, .int (nI pq)), (2, .int (nI mq)), (3, .int (w))]) rfl ?_
                  refine x_iload C d_Mo_odds_94 1 rfl ?_
                  refine x_istore C d_Mo_odds_96 (by decide) (lv' := [(5, .int (nI 15)), (7, .int (1)), (6, .int (nI 15)), (4, .int (nI 15)), (0, .ref (Z.2.1 (0))), (1, .int (nI pq)), (2, .int (nI mq)), (3, .int (w))]) rfl ?_
                  refine x_iload C d_Mo_odds_98 1 rfl ?_
                  refine x_istore C d_Mo_odds_100 (by decide) (lv' := [(6, .int (1)), (5, .int (nI 15)), (7, .int (1)), (4, .int (nI 15)), (0, .ref (Z.2.1 (0))), (1, .int (nI pq)), (2, .int (nI mq)), (3, .int (w))]) rfl ?_
                  refine x_goto C d_Mo_odds_102 82 (by decide) ?_
                  refine x_iload C d_Mo_odds_82 0 rfl ?_
                  refine x_ifeq C d_Mo_odds_84 105 (by decide) (fun c_83 => ?_) (fun c_83 => ?_)
                  · exact absurd c_83 (by decide)
                  · refine x_iload C d_Mo_odds_87 1 rfl ?_
                    refine x_iload C d_Mo_odds_89 0 rfl ?_
                    refine x_irem C d_Mo_odds_91 (by decide) ?_
                    refine x_topi (x' := 0) (by decide) ?_
                    refine x_istore C d_Mo_odds_92 (by decide) (lv' := [(7, .int (0)), (6, .int (1)), (5, .int (nI 15)), (4, .int (nI 15)), (0, .ref (Z.2.1 (0))), (1, .int (nI pq)), (2, .int (nI mq)), (3, .int (w))]) rfl ?_
                    refine x_iload C d_Mo_odds_94 1 rfl ?_
                    refine x_topi (show (1 : Int32) = nI 1 by decide) ?_
                    refine x_istore C d_Mo_odds_96 (by decide) (lv' := [(5, .int (nI 1)), (7, .int (0)), (6, .int (1)), (4, .int (nI 15)), (0, .ref (Z.2.1 (0))), (1, .int (nI pq)), (2, .int (nI mq)), (3, .int (w))]) rfl ?_
                    refine x_iload C d_Mo_odds_98 1 rfl ?_
                    refine x_istore C d_Mo_odds_100 (by decide) (lv' := [(6, .int (0)), (5, .int (nI 1)), (7, .int (0)), (4, .int (nI 15)), (0, .ref (Z.2.1 (0))), (1, .int (nI pq)), (2, .int (nI mq)), (3, .int (w))]) rfl ?_
                    refine x_goto C d_Mo_odds_102 82 (by decide) ?_
                    refine x_iload C d_Mo_odds_82 0 rfl ?_
                    refine x_ifeq C d_Mo_odds_84 105 (by decide) (fun c_84 => ?_) (fun c_84 => ?_)
                    · obtain ⟨B, hB⟩ : ∃ B : Int64, B = ((if w = 0 then nI 15 else 16) / nI (Nat.gcd (nI 15).toNatClampNeg 16)).toInt64 := ⟨_, rfl⟩
                      have hbase : pwN B mq = pwN (((if w = 0 then nI 15 else 16) / nI (Nat.gcd (nI 15).toNatClampNeg 16)).toInt64) mq := by rw [hB]
                      refine x_lconst C d_Mo_odds_105 (v := 1) (by decide) ?_
                      refine x_lstore C d_Mo_odds_106 (by decide) (lv' := [(7, .long (1)), (6, .int (0)), (5, .int (nI 1)), (4, .int (nI 15)), (0, .ref (Z.2.1 (0))), (1, .int (nI pq)), (2, .int (nI mq)), (3, .int (w))]) rfl ?_
                      refine x_iconst C d_Mo_odds_108 (v := 0) (by decide) ?_
                      refine x_topi (show (0 : Int32) = nI 0 by decide) ?_
                      refine x_istore C d_Mo_odds_109 (by decide) (lv' := [(9, .int (nI 0)), (7, .long (1)), (6, .int (0)), (5, .int (nI 1)), (4, .int (nI 15)), (0, .ref (Z.2.1 (0))), (1, .int (nI pq)), (2, .int (nI mq)), (3, .int (w))]) rfl ?_
                      have LP_111 : ∀ (f_ i : Nat), i ≤ mq → mq - i < f_ → WX X 10 yM Z (QX X yM Z (QcL yM Z (if (0 ≤ (nI pq) ∧ (nI pq) < g 0 1) ∧ (0 ≤ (nI mq) ∧ (nI mq) ≤ 15) ∧ (0 ≤ w ∧ w ≤ 1) then pwN (((if w = 0 then ctmM (g 0) (nI pq).toNatClampNeg (sz (g 0)) 16 else 16) / nI (Nat.gcd (ctmM (g 0) (nI pq).toNatClampNeg (sz (g 0)) 16).toNatClampNeg 16)).toInt64) (nI mq).toNatClampNeg else (-1000001 : Int32).toInt64) (if (0 ≤ (nI pq) ∧ (nI pq) < g 0 1) ∧ (0 ≤ (nI mq) ∧ (nI mq) ≤ 15) ∧ (0 ≤ w ∧ w ≤ 1) then g else va_up g 4 (mfnR (g 4) 0)))) (g) 111 [(9, .int (nI i)), (7, .long (pwN B (i))), (5, .int (nI 1)), (4, .int (nI 15)), (0, .ref (Z.2.1 (0))), (1, .int (nI pq)), (2, .int (nI mq)), (3, .int (w))] [] := by
                        intro f_
                        induction f_ with
                        | zero => intro i h1_ h2_; exact absurd h2_ (Nat.not_lt_zero _)
                        | succ f_ ih_111 =>
                          intro i hi_111 hf_111
                          refine x_iload C d_Mo_odds_111 0 rfl ?_
                          refine x_iload_n C d_Mo_odds_113 6 rfl rfl ?_
                          refine x_icmp_ge C d_Mo_odds_114 143 (by decide) (fun c_85 => ?_) (fun c_85 => ?_)
                          · have nc_85 := Int32.not_lt.mpr c_85
                            have mc_85 : mq ≤ i := (nI_leI (by omega) (by omega)).mp (show nI mq ≤ nI i from c_85)
                            have e_i : mq = i := by omega
                            subst e_i
                            refine x_lload C d_Mo_odds_143 1 rfl ?_
                            exact x_lret C (by rw [if_pos (by simp [*])]; simp only [hcp, hcm, ekk]; rw [hbase]) (by rw [if_pos (by simp [*])]) d_Mo_odds_145
                          · have nc_85 := Int32.not_le.mp c_85
                            have mc_85 : ¬ mq ≤ i := fun z_ => (show ¬ nI mq ≤ nI i from c_85) ((nI_leI (by omega) (by omega)).mpr z_)
                            refine x_lload C d_Mo_odds_117 1 rfl ?_
                            refine x_iload_n C d_Mo_odds_119 7 rfl rfl ?_
                            refine x_ifne C d_Mo_odds_120 128 (by decide) (fun c_86 => ?_) (fun c_86 => ?_)
                            · refine x_bipush C d_Mo_odds_128 (v := 16) (by decide) ?_
                              refine x_iload C d_Mo_odds_130 2 rfl ?_
                              refine x_idiv C d_Mo_odds_132 (by decide) ?_
                              refine x_topi (x' := 16) (by decide) ?_
                              refine x_i2l C d_Mo_odds_133 ?_
                              refine x_topl (x' := B) (by rw [hB]; first | (rw [if_pos (by assumption)]; decide) | (rw [if_neg (by assumption)]; decide)) ?_
                              refine x_lmul C d_Mo_odds_134 ?_
                              refine x_lstore C d_Mo_odds_135 (by decide) (lv' := [(7, .long ((pwN B (i)) * B)), (9, .int (nI i)), (5, .int (nI 1)), (4, .int (nI 15)), (0, .ref (Z.2.1 (0))), (1, .int (nI pq)), (2, .int (nI mq)), (3, .int (w))]) rfl ?_
                              refine x_iinc C d_Mo_odds_137 1 rfl (v := nI (i + 1)) (nI_1 _) (by decide) (lv' := [(9, .int (nI (i + 1))), (7, .long ((pwN B (i)) * B)), (5, .int (nI 1)), (4, .int (nI 15)), (0, .ref (Z.2.1 (0))), (1, .int (nI pq)), (2, .int (nI mq)), (3, .int (w))]) rfl ?_
                              refine x_goto C d_Mo_odds_140 111 (by decide) ?_
                              refine x_lve (lv' := [(9, .int (nI (i + 1))), (7, .long (pwN B (i + 1))), (5, .int (nI 1)), (4, .int (nI 15)), (0, .ref (Z.2.1 (0))), (1, .int (nI pq)), (2, .int (nI mq)), (3, .int (w))]) rfl ?_
                              exact ih_111 (i + 1) (by omega) (by omega)
                            · refine x_iload C d_Mo_odds_123 3 rfl ?_
                              refine x_goto C d_Mo_odds_125 130 (by decide) ?_
                              refine x_iload C d_Mo_odds_130 2 rfl ?_
                              refine x_idiv C d_Mo_odds_132 (by decide) ?_
                              refine x_topi (x' := 15) (by decide) ?_
                              refine x_i2l C d_Mo_odds_133 ?_
                              refine x_topl (x' := B) (by rw [hB]; first | (rw [if_pos (by assumption)]; decide) | (rw [if_neg (by assumption)]; decide)) ?_
                              refine x_lmul C d_Mo_odds_134 ?_
                              refine x_lstore C d_Mo_odds_135 (by decide) (lv' := [(7, .long ((pwN B (i)) * B)), (9, .int (nI i)), (5, .int (nI 1)), (4, .int (nI 15)), (0, .ref (Z.2.1 (0))), (1, .int (nI pq)), (2, .int (nI mq)), (3, .int (w))]) rfl ?_
                              refine x_iinc C d_Mo_odds_137 1 rfl (v := nI (i + 1)) (nI_1 _) (by decide) (lv' := [(9, .int (nI (i + 1))), (7, .long ((pwN B (i)) * B)), (5, .int (nI 1)), (4, .int (nI 15)), (0, .ref (Z.2.1 (0))), (1, .int (nI pq)), (2, .int (nI mq)), (3, .int (w))]) rfl ?_
                              refine x_goto C d_Mo_odds_140 111 (by decide) ?_
                              refine x_lve (lv' := [(9, .int (nI (i + 1))), (7, .long (pwN B (i + 1))), (5, .int (nI 1)), (4, .int (nI 15)), (0, .ref (Z.2.1 (0))), (1, .int (nI pq)), (2, .int (nI mq)), (3, .int (w))]) rfl ?_
                              exact ih_111 (i + 1) (by omega) (by omega)
                      refine x_lv [0, 1, 3, 4, 5, 6, 7, 8] (lv' := [(9, .int (nI 0)), (7, .long (1)), (5, .int (nI 1)), (4, .int (nI 15)), (0, .ref (Z.2.1 (0))), (1, .int (nI pq)), (2, .int (nI mq)), (3, .int (w))]) rfl ?_
                      refine x_lve (lv' := [(9, .int (nI 0)), (7, .long (pwN B (0))), (5, .int (nI 1)), (4, .int (nI 15)), (0, .ref (Z.2.1 (0))), (1, .int (nI pq)), (2, .int (nI mq)), (3, .int (w))]) rfl ?_
                      exact LP_111 (mq + 1) 0 (Nat.zero_le _) (by omega)
                    · exact absurd c_84 (by decide)
              · skip
                refine x_iload C d_Mo_odds_78 1 rfl ?_
                refine x_istore C d_Mo_odds_80 (by decide) (lv' := [(6, .int (nI 16)), (5, .int (nI 16)), (4, .int (nI 16)), (0, .ref (Z.2.1 (0))), (1, .int (nI pq)), (2, .int (nI mq)), (3, .int (w))]) rfl ?_
                refine x_iload C d_Mo_odds_82 0 rfl ?_
                refine x_ifeq C d_Mo_odds_84 105 (by decide) (fun c_87 => ?_) (fun c_87 => ?_)
                · exact absurd c_87 (by decide)
                · refine x_iload C d_Mo_odds_87 1 rfl ?_
                  refine x_iload C d_Mo_odds_89 0 rfl ?_
                  refine x_irem C d_Mo_odds_91 (by assumption) ?_
                  refine x_topi (x' := 0) (by decide) ?_
                  refine x_istore C d_Mo_odds_92 (by decide) (lv' := [(7, .int (0)), (6, .int (nI 16)), (5, .int (nI 16)), (4, .int (nI 16)), (0, .ref (Z.2.1 (0))), (1, .int (nI pq)), (2, .int (nI mq)), (3, .int (w))]) rfl ?_
                  refine x_iload C d_Mo_odds_94 1 rfl ?_
                  refine x_istore C d_Mo_odds_96 (by decide) (lv' := [(5, .int (nI 16)), (7, .int (0)), (6, .int (nI 16)), (4, .int (nI 16)), (0, .ref (Z.2.1 (0))), (1, .int (nI pq)), (2, .int (nI mq)), (3, .int (w))]) rfl ?_
                  refine x_iload C d_Mo_odds_98 1 rfl ?_
                  refine x_istore C d_Mo_odds_100 (by decide) (lv' := [(6, .int (0)), (5, .int (nI 16)), (7, .int (0)), (4, .int (nI 16)), (0, .ref (Z.2.1 (0))), (1, .int (nI pq)), (2, .int (nI mq)), (3, .int (w))]) rfl ?_
                  refine x_goto C d_Mo_odds_102 82 (by decide) ?_
                  refine x_iload C d_Mo_odds_82 0 rfl ?_
                  refine x_ifeq C d_Mo_odds_84 105 (by decide) (fun c_88 => ?_) (fun c_88 => ?_)
                  · obtain ⟨B, hB⟩ : ∃ B : Int64, B = ((if w = 0 then nI 16 else 16) / nI (Nat.gcd (nI 16).toNatClampNeg 16)).toInt64 := ⟨_, rfl⟩
                    have hbase : pwN B mq = pwN (((if w = 0 then nI 16 else 16) / nI (Nat.gcd (nI 16).toNatClampNeg 16)).toInt64) mq := by rw [hB]
                    refine x_lconst C d_Mo_odds_105 (v := 1) (by decide) ?_
                    refine x_lstore C d_Mo_odds_106 (by decide) (lv' := [(7, .long (1)), (6, .int (0)), (5, .int (nI 16)), (4, .int (nI 16)), (0, .ref (Z.2.1 (0))), (1, .int (nI pq)), (2, .int (nI mq)), (3, .int (w))]) rfl ?_
                    refine x_iconst C d_Mo_odds_108 (v := 0) (by decide) ?_
                    refine x_topi (show (0 : Int32) = nI 0 by decide) ?_
                    refine x_istore C d_Mo_odds_109 (by decide) (lv' := [(9, .int (nI 0)), (7, .long (1)), (6, .int (0)), (5, .int (nI 16)), (4, .int (nI 16)), (0, .ref (Z.2.1 (0))), (1, .int (nI pq)), (2, .int (nI mq)), (3, .int (w))]) rfl ?_
                    have LP_111 : ∀ (f_ i : Nat), i ≤ mq → mq - i < f_ → WX X 10 yM Z (QX X yM Z (QcL yM Z (if (0 ≤ (nI pq) ∧ (nI pq) < g 0 1) ∧ (0 ≤ (nI mq) ∧ (nI mq) ≤ 15) ∧ (0 ≤ w ∧ w ≤ 1) then pwN (((if w = 0 then ctmM (g 0) (nI pq).toNatClampNeg (sz (g 0)) 16 else 16) / nI (Nat.gcd (ctmM (g 0) (nI pq).toNatClampNeg (sz (g 0)) 16).toNatClampNeg 16)).toInt64) (nI mq).toNatClampNeg else (-1000001 : Int32).toInt64) (if (0 ≤ (nI pq) ∧ (nI pq) < g 0 1) ∧ (0 ≤ (nI mq) ∧ (nI mq) ≤ 15) ∧ (0 ≤ w ∧ w ≤ 1) then g else va_up g 4 (mfnR (g 4) 0)))) (g) 111 [(9, .int (nI i)), (7, .long (pwN B (i))), (5, .int (nI 16)), (4, .int (nI 16)), (0, .ref (Z.2.1 (0))), (1, .int (nI pq)), (2, .int (nI mq)), (3, .int (w))] [] := by
                      intro f_
                      induction f_ with
                      | zero => intro i h1_ h2_; exact absurd h2_ (Nat.not_lt_zero _)
                      | succ f_ ih_111 =>
                        intro i hi_111 hf_111
                        refine x_iload C d_Mo_odds_111 0 rfl ?_
                        refine x_iload_n C d_Mo_odds_113 6 rfl rfl ?_
                        refine x_icmp_ge C d_Mo_odds_114 143 (by decide) (fun c_89 => ?_) (fun c_89 => ?_)
                        · have nc_89 := Int32.not_lt.mpr c_89
                          have mc_89 : mq ≤ i := (nI_leI (by omega) (by omega)).mp (show nI mq ≤ nI i from c_89)
                          have e_i : mq = i := by omega
                          subst e_i
                          refine x_lload C d_Mo_odds_143 1 rfl ?_
                          exact x_lret C (by rw [if_pos (by simp [*])]; simp only [hcp, hcm, ekk]; rw [hbase]) (by rw [if_pos (by simp [*])]) d_Mo_odds_145
                        · have nc_89 := Int32.not_le.mp c_89
                          have mc_89 : ¬ mq ≤ i := fun z_ => (show ¬ nI mq ≤ nI i from c_89) ((nI_leI (by omega) (by omega)).mpr z_)
                          refine x_lload C d_Mo_odds_117 1 rfl ?_
                          refine x_iload_n C d_Mo_odds_119 7 rfl rfl ?_
                          refine x_ifne C d_Mo_odds_120 128 (by decide) (fun c_90 => ?_) (fun c_90 => ?_)
                          · refine x_bipush C d_Mo_odds_128 (v := 16) (by decide) ?_
                            refine x_iload C d_Mo_odds_130 2 rfl ?_
                            refine x_idiv C d_Mo_odds_132 (by decide) ?_
                            refine x_topi (x' := 1) (by decide) ?_
                            refine x_i2l C d_Mo_odds_133 ?_
                            refine x_topl (x' := B) (by rw [hB]; first | (rw [if_pos (by assumption)]; decide) | (rw [if_neg (by assumption)]; decide)) ?_
                            refine x_lmul C d_Mo_odds_134 ?_
                            refine x_lstore C d_Mo_odds_135 (by decide) (lv' := [(7, .long ((pwN B (i)) * B)), (9, .int (nI i)), (5, .int (nI 16)), (4, .int (nI 16)), (0, .ref (Z.2.1 (0))), (1, .int (nI pq)), (2, .int (nI mq)), (3, .int (w))]) rfl ?_
                            refine x_iinc C d_Mo_odds_137 1 rfl (v := nI (i + 1)) (nI_1 _) (by decide) (lv' := [(9, .int (nI (i + 1))), (7, .long ((pwN B (i)) * B)), (5, .int (nI 16)), (4, .int (nI 16)), (0, .ref (Z.2.1 (0))), (1, .int (nI pq)), (2, .int (nI mq)), (3, .int (w))]) rfl ?_
                            refine x_goto C d_Mo_odds_140 111 (by decide) ?_
                            refine x_lve (lv' := [(9, .int (nI (i + 1))), (7, .long (pwN B (i + 1))), (5, .int (nI 16)), (4, .int (nI 16)), (0, .ref (Z.2.1 (0))), (1, .int (nI pq)), (2, .int (nI mq)), (3, .int (w))]) rfl ?_
                            exact ih_111 (i + 1) (by omega) (by omega)
                          · refine x_iload C d_Mo_odds_123 3 rfl ?_
                            refine x_goto C d_Mo_odds_125 130 (by decide) ?_
                            refine x_iload C d_Mo_odds_130 2 rfl ?_
                            refine x_idiv C d_Mo_odds_132 (by decide) ?_
                            refine x_topi (x' := 1) (by decide) ?_
                            refine x_i2l C d_Mo_odds_133 ?_
                            refine x_topl (x' := B) (by rw [hB]; first | (rw [if_pos (by assumption)]; decide) | (rw [if_neg (by assumption)]; decide)) ?_
                            refine x_lmul C d_Mo_odds_134 ?_
                            refine x_lstore C d_Mo_odds_135 (by decide) (lv' := [(7, .long ((pwN B (i)) * B)), (9, .int (nI i)), (5, .int (nI 16)), (4, .int (nI 16)), (0, .ref (Z.2.1 (0))), (1, .int (nI pq)), (2, .int (nI mq)), (3, .int (w))]) rfl ?_
                            refine x_iinc C d_Mo_odds_137 1 rfl (v := nI (i + 1)) (nI_1 _) (by decide) (lv' := [(9, .int (nI (i + 1))), (7, .long ((pwN B (i)) * B)), (5, .int (nI 16)), (4, .int (nI 16)), (0, .ref (Z.2.1 (0))), (1, .int (nI pq)), (2, .int (nI mq)), (3, .int (w))]) rfl ?_
                            refine x_goto C d_Mo_odds_140 111 (by decide) ?_
                            refine x_lve (lv' := [(9, .int (nI (i + 1))), (7, .long (pwN B (i + 1))), (5, .int (nI 16)), (4, .int (nI 16)), (0, .ref (Z.2.1 (0))), (1, .int (nI pq)), (2, .int (nI mq)), (3, .int (w))]) rfl ?_
                            exact ih_111 (i + 1) (by omega) (by omega)
                    refine x_lv [0, 1, 3, 4, 5, 6, 7, 8] (lv' := [(9, .int (nI 0)), (7, .long (1)), (5, .int (nI 16)), (4, .int (nI 16)), (0, .ref (Z.2.1 (0))), (1, .int (nI pq)), (2, .int (nI mq)), (3, .int (w))]) rfl ?_
                    refine x_lve (lv' := [(9, .int (nI 0)), (7, .long (pwN B (0))), (5, .int (nI 16)), (4, .int (nI 16)), (0, .ref (Z.2.1 (0))), (1, .int (nI pq)), (2, .int (nI mq)), (3, .int (w))]) rfl ?_
                    exact LP_111 (mq + 1) 0 (Nat.zero_le _) (by omega)
                  · exact absurd c_88 (by decide)
            · have nc_4 := Int32.not_le.mp c_4
              have mc_4 : ¬ 16 ≤ c := fun z_ => (show ¬ nI 16 ≤ nI c from c_4) ((nI_leI (by omega) (by omega)).mpr z_)
              refine x_iload C d_Mo_odds_48 1 rfl ?_
              refine x_aload_n C d_Mo_odds_50 2 rfl rfl ?_
              refine x_iload_n C d_Mo_odds_51 3 rfl rfl ?_
              refine x_iload C d_Mo_odds_52 0 rfl ?_
              refine x_callVi C (c_Mo_meetsSomebodyAt Z pq (by omega) (nI c) (g) _ rfl hk0) mi_Mo_meetsSomebodyAt k_1132 (show 0 < 12 by omega) (m_0 Z _) rfl (As := [.int (nI pq), .int (nI c)]) ⟨Nat.le_of_ble_eq_true rfl, Nat.le_of_ble_eq_true rfl⟩ rfl rfl (Nat.le_of_ble_eq_true rfl) d_Mo_odds_54 ?_
              refine x_ifeqB C d_Mo_odds_57 64 (by decide) (fun c_91 => ?_) (fun c_91 => ?_)
              · refine x_iconst C d_Mo_odds_64 (v := 0) (by decide) ?_
                refine x_iadd C d_Mo_odds_65 ?_
                refine x_istore C d_Mo_odds_66 (by decide) (lv' := [(4, .int ((ctmM (g 0) pq (sz (g 0)) (c)) + 0)), (5, .int (nI c)), (0, .ref (Z.2.1 (0))), (1, .int (nI pq)), (2, .int (nI mq)), (3, .int (w))]) rfl ?_
                refine x_iinc C d_Mo_odds_68 1 rfl (v := nI (c + 1)) (nI_1 _) (by decide) (lv' := [(5, .int (nI (c + 1))), (4, .int ((ctmM (g 0) pq (sz (g 0)) (c)) + 0)), (0, .ref (Z.2.1 (0))), (1, .int (nI pq)), (2, .int (nI mq)), (3, .int (w))]) rfl ?_
                refine x_goto C d_Mo_odds_71 41 (by decide) ?_
                refine x_lve (lv' := [(5, .int (nI (c + 1))), (4, .int (ctmM (g 0) pq (sz (g 0)) (c + 1))), (0, .ref (Z.2.1 (0))), (1, .int (nI pq)), (2, .int (nI mq)), (3, .int (w))]) (by first | with_reducible rfl | simp [ctmM, *]) ?_
                exact ih_41 (c + 1) (by omega) (by omega)
              · refine x_iconst C d_Mo_odds_60 (v := 1) (by decide) ?_
                refine x_goto C d_Mo_odds_61 65 (by decide) ?_
                refine x_iadd C d_Mo_odds_65 ?_
                refine x_istore C d_Mo_odds_66 (by decide) (lv' := [(4, .int ((ctmM (g 0) pq (sz (g 0)) (c)) + 1)), (5, .int (nI c)), (0, .ref (Z.2.1 (0))), (1, .int (nI pq)), (2, .int (nI mq)), (3, .int (w))]) rfl ?_
                refine x_iinc C d_Mo_odds_68 1 rfl (v := nI (c + 1)) (nI_1 _) (by decide) (lv' := [(5, .int (nI (c + 1))), (4, .int ((ctmM (g 0) pq (sz (g 0)) (c)) + 1)), (0, .ref (Z.2.1 (0))), (1, .int (nI pq)), (2, .int (nI mq)), (3, .int (w))]) rfl ?_
                refine x_goto C d_Mo_odds_71 41 (by decide) ?_
                refine x_lve (lv' := [(5, .int (nI (c + 1))), (4, .int (ctmM (g 0) pq (sz (g 0)) (c + 1))), (0, .ref (Z.2.1 (0))), (1, .int (nI pq)), (2, .int (nI mq)), (3, .int (w))]) (by first | with_reducible rfl | simp [ctmM, *]) ?_
                exact ih_41 (c + 1) (by omega) (by omega)
        refine x_lve (lv' := [(5, .int (nI 0)), (4, .int (ctmM (g 0) pq (sz (g 0)) (0))), (0, .ref (Z.2.1 (0))), (1, .int (nI pq)), (2, .int (nI mq)), (3, .int (w))]) rfl ?_
        exact LP_41 (16 + 1) 0 (Nat.zero_le _) (by omega)
      · refine x_aload_n C d_Mo_odds_27 0 rfl rfl ?_
        refine x_ldc C d_Mo_odds_28 k_866 ?_
        refine x_callVi C (c_Mo_finding_0 Z (g) _ rfl) mi_Mo_finding k_867 (show 0 < 12 by omega) (m_0 Z _) rfl (As := [.int ((-1000001))]) ⟨Nat.le_of_ble_eq_true rfl, Nat.le_of_ble_eq_true rfl⟩ rfl rfl (Nat.le_of_ble_eq_true rfl) d_Mo_odds_30 ?_
        refine x_i2l C d_Mo_odds_33 ?_
        exact x_lret C (by first | (simp [*, -hd]; done) | (simp [*]; done)) (by first | (simp [*, -hd]; done) | (simp [*]; done)) d_Mo_odds_34
