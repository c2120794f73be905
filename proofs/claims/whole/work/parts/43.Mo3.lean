set_option maxRecDepth 100000 in
set_option maxHeartbeats 600000 in
theorem c_Mo_lapses (Z : ZT)  (g : St)  (hk : okR (g 0)) : CT yM Z y_Mo_lapses b_Mo_lapses 2 (some (.int)) 5 112 [.ref (Z.2.1 (0))] (g) (QkI yM Z (if oI (fdo (fun i_ => decide (seaN (dysM (g 0) i_) (sz (dysM (g 0) i_)) = 0)) 201 0) < 0 then (-1000004) else oI (fdo (fun i_ => decide (seaN (dysM (g 0) i_) (sz (dysM (g 0) i_)) = 0)) 201 0)) (fun u => ∃ ρ : Nat → Int32, u = va_up (if oI (fdo (fun i_ => decide (seaN (dysM (g 0) i_) (sz (dysM (g 0) i_)) = 0)) 201 0) < 0 then va_up g 4 (mfnR (g 4) 3) else g) 2 ρ)) := by
  refine CT.mk "TunnelPeaceModel" (by decide) rfl (Nat.le_of_ble_eq_true rfl) (fun X C => ?_)
  refine x_lv [0] (lv' := [(0, .ref (Z.2.1 (0)))]) rfl ?_
  have hk0 := hk
  obtain ⟨⟨n, hn8, hn⟩, dd, hdd, hd⟩ := hk
  refine x_aload_n C d_Mo_lapses_0 0 rfl rfl ?_
  refine gf_Mo_now C k_791 d_Mo_lapses_1 ?_
  refine x_aload_n C d_Mo_lapses_4 0 rfl rfl ?_
  refine gf_Mo_aside C k_793 d_Mo_lapses_5 ?_
  refine x_callSv C (c_Mo_copyRow_02 Z (g) _ _ rfl rfl) mi_Mo_copyRow k_1021 (As := [.ref (Z.2.1 (1)), .ref (Z.2.1 (3))]) ⟨Nat.le_of_ble_eq_true rfl, Nat.le_of_ble_eq_true rfl⟩ rfl rfl (Nat.le_of_ble_eq_true rfl) d_Mo_lapses_8 ?_
  refine x_iconst C d_Mo_lapses_11 (v := 0) (by decide) ?_
  refine x_topi (show (0 : Int32) = nI 0 by decide) ?_
  refine x_istore_n C d_Mo_lapses_12 rfl (by decide) (lv' := [(1, .int (nI 0)), (0, .ref (Z.2.1 (0)))]) rfl ?_
  have LP_13 : ∀ (f_ i : Nat), i ≤ 200 → 200 - i < f_ → (fdo (fun i_ => decide (seaN (dysM (g 0) i_) (sz (dysM (g 0) i_)) = 0)) 201 0 = fdo (fun i_ => decide (seaN (dysM (g 0) i_) (sz (dysM (g 0) i_)) = 0)) (201 - i) i) → WX X 2 yM Z (QX X yM Z (QkI yM Z (if oI (fdo (fun i_ => decide (seaN (dysM (g 0) i_) (sz (dysM (g 0) i_)) = 0)) 201 0) < 0 then (-1000004) else oI (fdo (fun i_ => decide (seaN (dysM (g 0) i_) (sz (dysM (g 0) i_)) = 0)) 201 0)) (fun u => ∃ ρ : Nat → Int32, u = va_up (if oI (fdo (fun i_ => decide (seaN (dysM (g 0) i_) (sz (dysM (g 0) i_)) = 0)) 201 0) < 0 then va_up g 4 (mfnR (g 4) 3) else g) 2 ρ))) (va_up (va_up g 2 (c68 (g 0) (g 2))) 0 (dysM (g 0) (i))) 13 [(1, .int (nI i)), (0, .ref (Z.2.1 (0)))] [] := by
    intro f_
    induction f_ with
    | zero => intro i h1_ h2_ _; exact absurd h2_ (Nat.not_lt_zero _)
    | succ f_ ih_13 =>
      intro i hi_13 hf_13 hy_13
      refine x_iload_n C d_Mo_lapses_13 0 rfl rfl ?_
      refine x_sipush C d_Mo_lapses_14 (v := 200) (by decide) ?_
      refine x_icmp_ge C d_Mo_lapses_17 37 (by decide) (fun c_1 => ?_) (fun c_1 => ?_)
      · have nc_1 := Int32.not_lt.mpr c_1
        have mc_1 : 200 ≤ i := (nI_leI (by omega) (by omega)).mp (show nI 200 ≤ nI i from c_1)
        refine x_aload_n C d_Mo_lapses_37 1 rfl rfl ?_
        refine x_aload_n C d_Mo_lapses_38 1 rfl rfl ?_
        refine x_aload_n C d_Mo_lapses_39 1 rfl rfl ?_
        refine x_callVi C (c_Mo_subscribers Z (va_up (va_up g 2 (c68 (g 0) (g 2))) 0 (dysM (g 0) (i))) _ (va_up_self _ _ _) (okR_dysM hk0 _)) mi_Mo_subscribers k_1001 (show 0 < 12 by omega) (m_0 Z _) rfl (As := []) ⟨Nat.le_of_ble_eq_true rfl, Nat.le_of_ble_eq_true rfl⟩ rfl rfl (Nat.le_of_ble_eq_true rfl) d_Mo_lapses_40 ?_
        refine x_ifne C d_Mo_lapses_43 50 (by decide) (fun c_2 => ?_) (fun c_2 => ?_)
        · refine x_iconst C d_Mo_lapses_50 (v := -1) (by decide) ?_
          refine x_callVi C (c_Mo_putBack Z (-1) (va_up (va_up g 2 (c68 (g 0) (g 2))) 0 (dysM (g 0) (i))) _ _ (Eq.trans (va_up_ne _ _ (by omega)) (va_up_self _ _ _)) (va_up_self _ _ _)) mi_Mo_putBack k_1024 (show 0 < 12 by omega) (m_0 Z _) rfl (As := [.int ((-1))]) ⟨Nat.le_of_ble_eq_true rfl, Nat.le_of_ble_eq_true rfl⟩ rfl rfl (Nat.le_of_ble_eq_true rfl) d_Mo_lapses_51 ?_
          refine x_eqg (g' := va_up (va_up g 2 (c68 (g 0) (g 2))) 0 (c68 (c68 (g 0) (g 2)) (dysM (g 0) (i)))) (bx_uu _ _ _ _) ?_
          refine x_topi (x' := oI (fdo (fun i_ => decide (seaN (dysM (g 0) i_) (sz (dysM (g 0) i_)) = 0)) 201 0)) (by first | contradiction | (rw [hy_13, fdo_n (by omega) (by simp [*]), show 201 - (i + 1) = 0 by omega]; rfl)) ?_
          by_cases c_3 : oI (fdo (fun i_ => decide (seaN (dysM (g 0) i_) (sz (dysM (g 0) i_)) = 0)) 201 0) < 0
          · skip
            refine x_callVi C (c_Mo_orNone_t Z (oI (fdo (fun i_ => decide (seaN (dysM (g 0) i_) (sz (dysM (g 0) i_)) = 0)) 201 0)) (by assumption) (va_up (va_up g 2 (c68 (g 0) (g 2))) 0 (c68 (c68 (g 0) (g 2)) (dysM (g 0) (i)))) _ (Eq.trans (va_up_ne _ _ (by omega)) (va_up_ne _ _ (by omega)))) mi_Mo_orNone k_1044 (show 0 < 12 by omega) (m_0 Z _) rfl (As := [.int (oI (fdo (fun i_ => decide (seaN (dysM (g 0) i_) (sz (dysM (g 0) i_)) = 0)) 201 0))]) ⟨Nat.le_of_ble_eq_true rfl, Nat.le_of_ble_eq_true rfl⟩ rfl rfl (Nat.le_of_ble_eq_true rfl) d_Mo_lapses_54 ?_
            exact x_iretK C (by first | rw [if_pos (by assumption)] | rw [if_neg (by assumption)]) (kfinM (G' := va_up g 4 (mfnR (g 4) 3)) (by rw [if_pos (by assumption)]) (by rw [back_id (fun j hj => dysM_hi hk0 hj), va_idn (by decide)]; exact va_com (by decide))) d_Mo_lapses_57
          · skip
            refine x_callVi C (c_Mo_orNone_f Z (oI (fdo (fun i_ => decide (seaN (dysM (g 0) i_) (sz (dysM (g 0) i_)) = 0)) 201 0)) (by assumption) (va_up (va_up g 2 (c68 (g 0) (g 2))) 0 (c68 (c68 (g 0) (g 2)) (dysM (g 0) (i))))) mi_Mo_orNone k_1044 (show 0 < 12 by omega) (m_0 Z _) rfl (As := [.int (oI (fdo (fun i_ => decide (seaN (dysM (g 0) i_) (sz (dysM (g 0) i_)) = 0)) 201 0))]) ⟨Nat.le_of_ble_eq_true rfl, Nat.le_of_ble_eq_true rfl⟩ rfl rfl (Nat.le_of_ble_eq_true rfl) d_Mo_lapses_54 ?_
            exact x_iretK C (by first | rw [if_pos (by assumption)] | rw [if_neg (by assumption)]) (kfinM (G' := g) (by rw [if_neg (by assumption)]) (by rw [back_id (fun j hj => dysM_hi hk0 hj)]; exact va_idn (by decide))) d_Mo_lapses_57
        · refine x_iload_n C d_Mo_lapses_46 0 rfl rfl ?_
          refine x_goto C d_Mo_lapses_47 51 (by decide) ?_
          refine x_callVi C (c_Mo_putBack Z (nI i) (va_up (va_up g 2 (c68 (g 0) (g 2))) 0 (dysM (g 0) (i))) _ _ (Eq.trans (va_up_ne _ _ (by omega)) (va_up_self _ _ _)) (va_up_self _ _ _)) mi_Mo_putBack k_1024 (show 0 < 12 by omega) (m_0 Z _) rfl (As := [.int (nI i)]) ⟨Nat.le_of_ble_eq_true rfl, Nat.le_of_ble_eq_true rfl⟩ rfl rfl (Nat.le_of_ble_eq_true rfl) d_Mo_lapses_51 ?_
          refine x_eqg (g' := va_up (va_up g 2 (c68 (g 0) (g 2))) 0 (c68 (c68 (g 0) (g 2)) (dysM (g 0) (i)))) (bx_uu _ _ _ _) ?_
          refine x_topi (x' := oI (fdo (fun i_ => decide (seaN (dysM (g 0) i_) (sz (dysM (g 0) i_)) = 0)) 201 0)) (by rw [hy_13, fdo_t (by omega) (by simp [*])]; rfl) ?_
          by_cases c_4 : oI (fdo (fun i_ => decide (seaN (dysM (g 0) i_) (sz (dysM (g 0) i_)) = 0)) 201 0) < 0
          · skip
            refine x_callVi C (c_Mo_orNone_t Z (oI (fdo (fun i_ => decide (seaN (dysM (g 0) i_) (sz (dysM (g 0) i_)) = 0)) 201 0)) (by assumption) (va_up (va_up g 2 (c68 (g 0) (g 2))) 0 (c68 (c68 (g 0) (g 2)) (dysM (g 0) (i)))) _ (Eq.trans (va_up_ne _ _ (by omega)) (va_up_ne _ _ (by omega)))) mi_Mo_orNone k_1044 (show 0 < 12 by omega) (m_0 Z _) rfl (As := [.int (oI (fdo (fun i_ => decide (seaN (dysM (g 0) i_) (sz (dysM (g 0) i_)) = 0)) 201 0))]) ⟨Nat.le_of_ble_eq_true rfl, Nat.le_of_ble_eq_true rfl⟩ rfl rfl (Nat.le_of_ble_eq_true rfl) d_Mo_lapses_54 ?_
            exact x_iretK C (by first | rw [if_pos (by assumption)] | rw [if_neg (by assumption)]) (kfinM (G' := va_up g 4 (mfnR (g 4) 3)) (by rw [if_pos (by assumption)]) (by rw [back_id (fun j hj => dysM_hi hk0 hj), va_idn (by decide)]; exact va_com (by decide))) d_Mo_lapses_57
          · skip
            refine x_callVi C (c_Mo_orNone_f Z (oI (fdo (fun i_ => decide (seaN (dysM (g 0) i_) (sz (dysM (g 0) i_)) = 0)) 201 0)) (by assumption) (va_up (va_up g 2 (c68 (g 0) (g 2))) 0 (c68 (c68 (g 0) (g 2)) (dysM (g 0) (i))))) mi_Mo_orNone k_1044 (show 0 < 12 by omega) (m_0 Z _) rfl (As := [.int (oI (fdo (fun i_ => decide (seaN (dysM (g 0) i_) (sz (dysM (g 0) i_)) = 0)) 201 0))]) ⟨Nat.le_of_ble_eq_true rfl, Nat.le_of_ble_eq_true rfl⟩ rfl rfl (Nat.le_of_ble_eq_true rfl) d_Mo_lapses_54 ?_
            exact x_iretK C (by first | rw [if_pos (by assumption)] | rw [if_neg (by assumption)]) (kfinM (G' := g) (by rw [if_neg (by assumption)]) (by rw [back_id (fun j hj => dysM_hi hk0 hj)]; exact va_idn (by decide))) d_Mo_lapses_57
      · have nc_1 := Int32.not_le.mp c_1
        have mc_1 : ¬ 200 ≤ i := fun z_ => (show ¬ nI 200 ≤ nI i from c_1) ((nI_leI (by omega) (by omega)).mpr z_)
        refine x_aload_n C d_Mo_lapses_20 1 rfl rfl ?_
        refine x_callVi C (c_Mo_subscribers Z (va_up (va_up g 2 (c68 (g 0) (g 2))) 0 (dysM (g 0) (i))) _ (va_up_self _ _ _) (okR_dysM hk0 _)) mi_Mo_subscribers k_1001 (show 0 < 12 by omega) (m_0 Z _) rfl (As := []) ⟨Nat.le_of_ble_eq_true rfl, Nat.le_of_ble_eq_true rfl⟩ rfl rfl (Nat.le_of_ble_eq_true rfl) d_Mo_lapses_21 ?_
        refine x_ifeq C d_Mo_lapses_24 37 (by decide) (fun c_5 => ?_) (fun c_5 => ?_)
        · refine x_aload_n C d_Mo_lapses_37 1 rfl rfl ?_
          refine x_aload_n C d_Mo_lapses_38 1 rfl rfl ?_
          refine x_aload_n C d_Mo_lapses_39 1 rfl rfl ?_
          refine x_callVi C (c_Mo_subscribers Z (va_up (va_up g 2 (c68 (g 0) (g 2))) 0 (dysM (g 0) (i))) _ (va_up_self _ _ _) (okR_dysM hk0 _)) mi_Mo_subscribers k_1001 (show 0 < 12 by omega) (m_0 Z _) rfl (As := []) ⟨Nat.le_of_ble_eq_true rfl, Nat.le_of_ble_eq_true rfl⟩ rfl rfl (Nat.le_of_ble_eq_true rfl) d_Mo_lapses_40 ?_
          refine x_ifne C d_Mo_lapses_43 50 (by decide) (fun c_6 => ?_) (fun c_6 => ?_)
          · refine x_iconst C d_Mo_lapses_50 (v := -1) (by decide) ?_
            refine x_callVi C (c_Mo_putBack Z (-1) (va_up (va_up g 2 (c68 (g 0) (g 2))) 0 (dysM (g 0) (i))) _ _ (Eq.trans (va_up_ne _ _ (by omega)) (va_up_self _ _ _)) (va_up_self _ _ _)) mi_Mo_putBack k_1024 (show 0 < 12 by omega) (m_0 Z _) rfl (As := [.int ((-1))]) ⟨Nat.le_of_ble_eq_true rfl, Nat.le_of_ble_eq_true rfl⟩ rfl rfl (Nat.le_of_ble_eq_true rfl) d_Mo_lapses_51 ?_
            refine x_eqg (g' := va_up (va_up g 2 (c68 (g 0) (g 2))) 0 (c68 (c68 (g 0) (g 2)) (dysM (g 0) (i)))) (bx_uu _ _ _ _) ?_
            refine x_topi (x' := oI (fdo (fun i_ => decide (seaN (dysM (g 0) i_) (sz (dysM (g 0) i_)) = 0)) 201 0)) (by first | contradiction | (rw [hy_13, fdo_n (by omega) (by simp [*]), show 201 - (i + 1) = 0 by omega]; rfl)) ?_
            by_cases c_7 : oI (fdo (fun i_ => decide (seaN (dysM (g 0) i_) (sz (dysM (g 0) i_)) = 0)) 201 0) < 0
            · skip
              refine x_callVi C (c_Mo_orNone_t Z (oI (fdo (fun i_ => decide (seaN (dysM (g 0) i_) (sz (dysM (g 0) i_)) = 0)) 201 0)) (by assumption) (va_up (va_up g 2 (c68 (g 0) (g 2))) 0 (c68 (c68 (g 0) (g 2)) (dysM (g 0) (i)))) _ (Eq.trans (va_up_ne _ _ (by omega)) (va_up_ne _ _ (by omega)))) mi_Mo_orNone k_1044 (show 0 < 12 by omega) (m_0 Z _) rfl (As := [.int (oI (fdo (fun i_ => decide (seaN (dysM (g 0) i_) (sz (dysM (g 0) i_)) = 0)) 201 0))]) ⟨Nat.le_of_ble_eq_true rfl, Nat.le_of_ble_eq_true rfl⟩ rfl rfl (Nat.le_of_ble_eq_true rfl) d_Mo_lapses_54 ?_
              exact x_iretK C (by first | rw [if_pos (by assumption)] | rw [if_neg (by assumption)]) (kfinM (G' := va_up g 4 (mfnR (g 4) 3)) (by rw [if_pos (by assumption)]) (by rw [back_id (fun j hj => dysM_hi hk0 hj), va_idn (by decide)]; exact va_com (by decide))) d_Mo_lapses_57
            · skip
              refine x_callVi C (c_Mo_orNone_f Z (oI (fdo (fun i_ => decide (seaN (dysM (g 0) i_) (sz (dysM (g 0) i_)) = 0)) 201 0)) (by assumption) (va_up (va_up g 2 (c68 (g 0) (g 2))) 0 (c68 (c68 (g 0) (g 2)) (dysM (g 0) (i))))) mi_Mo_orNone k_1044 (show 0 < 12 by omega) (m_0 Z _) rfl (As := [.int (oI (fdo (fun i_ => decide (seaN (dysM (g 0) i_) (sz (dysM (g 0) i_)) = 0)) 201 0))]) ⟨Nat.le_of_ble_eq_true rfl, Nat.le_of_ble_eq_true rfl⟩ rfl rfl (Nat.le_of_ble_eq_true rfl) d_Mo_lapses_54 ?_
              exact x_iretK C (by first | rw [if_pos (by assumption)] | rw [if_neg (by assumption)]) (kfinM (G' := g) (by rw [if_neg (by assumption)]) (by rw [back_id (fun j hj => dysM_hi hk0 hj)]; exact va_idn (by decide))) d_Mo_lapses_57
          · refine x_iload_n C d_Mo_lapses_46 0 rfl rfl ?_
            refine x_goto C d_Mo_lapses_47 51 (by decide) ?_
            refine x_callVi C (c_Mo_putBack Z (nI i) (va_up (va_up g 2 (c68 (g 0) (g 2))) 0 (dysM (g 0) (i))) _ _ (Eq.trans (va_up_ne _ _ (by omega)) (va_up_self _ _ _)) (va_up_self _ _ _)) mi_Mo_putBack k_1024 (show 0 < 12 by omega) (m_0 Z _) rfl (As := [.int (nI i)]) ⟨Nat.le_of_ble_eq_true rfl, Nat.le_of_ble_eq_true rfl⟩ rfl rfl (Nat.le_of_ble_eq_true rfl) d_Mo_lapses_51 ?_
            refine x_eqg (g' := va_up (va_up g 2 (c68 (g 0) (g 2))) 0 (c68 (c68 (g 0) (g 2)) (dysM (g 0) (i)))) (bx_uu _ _ _ _) ?_
            refine x_topi (x' := oI (fdo (fun i_ => decide (seaN (dysM (g 0) i_) (sz (dysM (g 0) i_)) = 0)) 201 0)) (by rw [hy_13, fdo_t (by omega) (by simp [*])]; rfl) ?_
            by_cases c_8 : oI (fdo (fun i_ => decide (seaN (dysM (g 0) i_) (sz (dysM (g 0) i_)) = 0)) 201 0) < 0
            · skip
              refine x_callVi C (c_Mo_orNone_t Z (oI (fdo (fun i_ => decide (seaN (dysM (g 0) i_) (sz (dysM (g 0) i_)) = 0)) 201 0)) (by assumption) (va_up (va_up g 2 (c68 (g 0) (g 2))) 0 (c68 (c68 (g 0) (g 2)) (dysM (g 0) (i)))) _ (Eq.trans (va_up_ne _ _ (by omega)) (va_up_ne _ _ (by omega)))) mi_Mo_orNone k_1044 (show 0 < 12 by omega) (m_0 Z _) rfl (As := [.int (oI (fdo (fun i_ => decide (seaN (dysM (g 0) i_) (sz (dysM (g 0) i_)) = 0)) 201 0))]) ⟨Nat.le_of_ble_eq_true rfl, Nat.le_of_ble_eq_true rfl⟩ rfl rfl (Nat.le_of_ble_eq_true rfl) d_Mo_lapses_54 ?_
              exact x_iretK C (by first | rw [if_pos (by assumption)] | rw [if_neg (by assumption)]) (kfinM (G' := va_up g 4 (mfnR (g 4) 3)) (by rw [if_pos (by assumption)]) (by rw [back_id (fun j hj => dysM_hi hk0 hj), va_idn (by decide)]; exact va_com (by decide))) d_Mo_lapses_57
            · skip
              refine x_callVi C (c_Mo_orNone_f Z (oI (fdo (fun i_ => decide (seaN (dysM (g 0) i_) (sz (dysM (g 0) i_)) = 0)) 201 0)) (by assumption) (va_up (va_up g 2 (c68 (g 0) (g 2))) 0 (c68 (c68 (g 0) (g 2)) (dysM (g 0) (i))))) mi_Mo_orNone k_1044 (show 0 < 12 by omega) (m_0 Z _) rfl (As := [.int (oI (fdo (fun i_ => decide (seaN (dysM (g 0) i_) (sz (dysM (g 0) i_)) = 0)) 201 0))]) ⟨Nat.le_of_ble_eq_true rfl, Nat.le_of_ble_eq_true rfl⟩ rfl rfl (Nat.le_of_ble_eq_true rfl) d_Mo_lapses_54 ?_
              exact x_iretK C (by first | rw [if_pos (by assumption)] | rw [if_neg (by assumption)]) (kfinM (G' := g) (by rw [if_neg (by assumption)]) (by rw [back_id (fun j hj => dysM_hi hk0 hj)]; exact va_idn (by decide))) d_Mo_lapses_57
        · refine x_aload_n C d_Mo_lapses_27 1 rfl rfl ?_
          refine x_callVv C (c_Mo_day Z (va_up (va_up g 2 (c68 (g 0) (g 2))) 0 (dysM (g 0) (i))) _ (va_up_self _ _ _) (okR_dysM hk0 _)) mi_Mo_day k_965 (show 0 < 12 by omega) (m_0 Z _) rfl (As := []) ⟨Nat.le_of_ble_eq_true rfl, Nat.le_of_ble_eq_true rfl⟩ rfl rfl (Nat.le_of_ble_eq_true rfl) d_Mo_lapses_28 ?_
          refine x_eqg (g' := va_up (va_up g 2 (c68 (g 0) (g 2))) 0 (dayM (dysM (g 0) (i)))) (bx_uu _ _ _ _) ?_
          refine x_iinc C d_Mo_lapses_31 0 rfl (v := nI (i + 1)) (nI_1 _) (by decide) (lv' := [(1, .int (nI (i + 1))), (0, .ref (Z.2.1 (0)))]) rfl ?_
          refine x_goto C d_Mo_lapses_34 13 (by decide) ?_
          refine x_eqg (g' := va_up (va_up g 2 (c68 (g 0) (g 2))) 0 (dysM (g 0) (i + 1))) rfl ?_
          exact ih_13 (i + 1) (by omega) (by omega) (hy_13.trans (fdo_n (by omega) (by simp [*])))
  refine x_eqg (g' := va_up (va_up g 2 (c68 (g 0) (g 2))) 0 (dysM (g 0) (0))) (va_idn (by decide)).symm ?_
  exact LP_13 (200 + 1) 0 (Nat.zero_le _) (by omega) rfl

set_option maxRecDepth 100000 in
set_option maxHeartbeats 600000 in
theorem c_Mo_calmest (Z : ZT) (a N m : Nat) (ha2 : 2 ≤ a) (ha6 : a < 68) (hN : N < 2 ^ 31) (hm : m < 2 ^ 31) (g : St)  (r : Nat → Int32) (hr : g 0 = r) (hk : okR r) : CT yM Z y_Mo_calmest b_Mo_calmest 9 (some (.int)) 7 156 [.ref (Z.2.1 (0)), .int (nI a), .int (nI N), .int (nI m)] (g) (QkI yM Z ((bst (fun c_ => dysM (upd r a (nI c_)) m 3) N).1) (fun u => ∃ ρ : Nat → Int32, u = va_up g 2 ρ)) := by
  refine CT.mk "TunnelPeaceModel" (by decide) rfl (Nat.le_of_ble_eq_true rfl) (fun X C => ?_)
  refine x_lv [0, 1, 2, 3] (lv' := [(0, .ref (Z.2.1 (0))), (1, .int (nI a)), (2, .int (nI N)), (3, .int (nI m))]) rfl ?_
  subst hr
  have hk0 := hk
  obtain ⟨⟨n, hn8, hn⟩, dd, hdd, hd⟩ := hk
  refine x_aload_n C d_Mo_calmest_0 0 rfl rfl ?_
  refine gf_Mo_now C k_791 d_Mo_calmest_1 ?_
  refine x_iload_n C d_Mo_calmest_4 1 rfl rfl ?_
  refine al_m_now C a (v := g 0 a) rfl (by first | omega | (simp only [pI]; omega)) rfl d_Mo_calmest_5 ?_
  refine x_istore C d_Mo_calmest_6 (by decide) (lv' := [(4, .int (g 0 a)), (0, .ref (Z.2.1 (0))), (1, .int (nI a)), (2, .int (nI N)), (3, .int (nI m))]) rfl ?_
  refine x_iconst C d_Mo_calmest_8 (v := 0) (by decide) ?_
  refine x_istore C d_Mo_calmest_9 (by decide) (lv' := [(5, .int (0)), (4, .int (g 0 a)), (0, .ref (Z.2.1 (0))), (1, .int (nI a)), (2, .int (nI N)), (3, .int (nI m))]) rfl ?_
  refine x_bipush C d_Mo_calmest_11 (v := 100) (by decide) ?_
  refine x_istore C d_Mo_calmest_13 (by decide) (lv' := [(6, .int (100)), (5, .int (0)), (4, .int (g 0 a)), (0, .ref (Z.2.1 (0))), (1, .int (nI a)), (2, .int (nI N)), (3, .int (nI m))]) rfl ?_
  refine x_iconst C d_Mo_calmest_15 (v := 0) (by decide) ?_
  refine x_topi (show (0 : Int32) = nI 0 by decide) ?_
  refine x_istore C d_Mo_calmest_16 (by decide) (lv' := [(7, .int (nI 0)), (6, .int (100)), (5, .int (0)), (4, .int (g 0 a)), (0, .ref (Z.2.1 (0))), (1, .int (nI a)), (2, .int (nI N)), (3, .int (nI m))]) rfl ?_
  have LP_18 : ∀ (f_ v : Nat) (ρ : Nat → Int32), v ≤ N → N - v < f_ → WX X 9 yM Z (QX X yM Z (QkI yM Z ((bst (fun c_ => dysM (upd (g 0) a (nI c_)) m 3) N).1) (fun u => ∃ ρ : Nat → Int32, u = va_up g 2 ρ))) (va_up (va_up g 0 (upd (g 0) a (cvl (g 0) a (v)))) 2 ρ) 18 [(7, .int (nI v)), (6, .int ((bst (fun c_ => dysM (upd (g 0) a (nI c_)) m 3) (v)).2)), (5, .int ((bst (fun c_ => dysM (upd (g 0) a (nI c_)) m 3) (v)).1)), (4, .int (g 0 a)), (0, .ref (Z.2.1 (0))), (1, .int (nI a)), (2, .int (nI N)), (3, .int (nI m))] [] := by
    intro f_
    induction f_ with
    | zero => intro v _ h1_ h2_; exact absurd h2_ (Nat.not_lt_zero _)
    | succ f_ ih_18 =>
      intro v ρ hi_18 hf_18
      refine x_iload C d_Mo_calmest_18 0 rfl ?_
      refine x_iload_n C d_Mo_calmest_20 6 rfl rfl ?_
      refine x_icmp_ge C d_Mo_calmest_21 61 (by decide) (fun c_1 => ?_) (fun c_1 => ?_)
      · have nc_1 := Int32.not_lt.mpr c_1
        have mc_1 : N ≤ v := (nI_leI (by omega) (by omega)).mp (show nI N ≤ nI v from c_1)
        have e_v : N = v := by omega
        subst e_v
        refine x_aload_n C d_Mo_calmest_61 4 rfl rfl ?_
        refine gf_Mo_now C k_791 d_Mo_calmest_62 ?_
        refine x_iload_n C d_Mo_calmest_65 5 rfl rfl ?_
        refine x_iload C d_Mo_calmest_66 3 rfl ?_
        refine as_m_now C a (v := g 0 a) rfl (by first | omega | (simp only [pI]; omega)) (G := va_up (va_up g 2 ρ) 0 (upd (upd (g 0) a (cvl (g 0) a (N))) a (g 0 a))) (up_vb (by omega)) d_Mo_calmest_68 ?_
        refine x_iload C d_Mo_calmest_69 2 rfl ?_
        exact x_iretK C rfl ⟨_, by rw [upd_upd, upd_id]; exact va_idn (by decide)⟩ d_Mo_calmest_71
      · have nc_1 := Int32.not_le.mp c_1
        have mc_1 : ¬ N ≤ v := fun z_ => (show ¬ nI N ≤ nI v from c_1) ((nI_leI (by omega) (by omega)).mpr z_)
        refine x_aload_n C d_Mo_calmest_24 4 rfl rfl ?_
        refine gf_Mo_now C k_791 d_Mo_calmest_25 ?_
        refine x_iload_n C d_Mo_calmest_28 5 rfl rfl ?_
        refine x_iload C d_Mo_calmest_29 0 rfl ?_
        refine as_m_now C a (v := nI v) rfl (by first | omega | (simp only [pI]; omega)) (G := va_up (va_up g 2 ρ) 0 (upd (upd (g 0) a (cvl (g 0) a (v))) a (nI v))) (up_vb (by omega)) d_Mo_calmest_31 ?_
        refine x_aload_n C d_Mo_calmest_32 4 rfl rfl ?_
        refine x_iconst C d_Mo_calmest_33 (v := 3) (by decide) ?_
        refine x_iload_n C d_Mo_calmest_34 7 rfl rfl ?_
        refine x_callVki C (c_Mo_behind Z 3 m (by first | omega | (simp only [pI]; omega)) (by omega) (va_up (va_up g 2 ρ) 0 (upd (upd (g 0) a (cvl (g 0) a (v))) a (nI v))) _ (Eq.trans (va_up_self _ _ _) upd_upd) (okR_upd hk0 (by omega))) mi_Mo_behind k_1032 (show 0 < 12 by omega) (m_0 Z _) rfl (As := [.int (3), .int (nI m)]) ⟨Nat.le_of_ble_eq_true rfl, Nat.le_of_ble_eq_true rfl⟩ rfl rfl (Nat.le_of_ble_eq_true rfl) d_Mo_calmest_35 (fun u_ hu_ => ?_)
        obtain ⟨ρ_2, rfl⟩ := hu_
        refine x_eqg (g' := va_up (va_up g 0 (upd (upd (g 0) a (cvl (g 0) a (v))) a (nI v))) 2 ρ_2) (by rw [va_com (a := 2) (b := 0) (by decide), bx_uu]) ?_
        refine x_istore C d_Mo_calmest_38 (by decide) (lv' := [(8, .int (dysM (upd (g 0) a (nI v)) m 3)), (7, .int (nI v)), (6, .int ((bst (fun c_ => dysM (upd (g 0) a (nI c_)) m 3) (v)).2)), (5, .int ((bst (fun c_ => dysM (upd (g 0) a (nI c_)) m 3) (v)).1)), (4, .int (g 0 a)), (0, .ref (Z.2.1 (0))), (1, .int (nI a)), (2, .int (nI N)), (3, .int (nI m))]) rfl ?_
        refine x_iload C d_Mo_calmest_40 0 rfl ?_
        refine x_iload C d_Mo_calmest_42 2 rfl ?_
        refine x_icmp_ge C d_Mo_calmest_44 55 (by decide) (fun c_3 => ?_) (fun c_3 => ?_)
        · have nc_3 := Int32.not_lt.mpr c_3
          refine x_iinc C d_Mo_calmest_55 1 rfl (v := nI (v + 1)) (nI_1 _) (by decide) (lv' := [(7, .int (nI (v + 1))), (8, .int (dysM (upd (g 0) a (nI v)) m 3)), (6, .int ((bst (fun c_ => dysM (upd (g 0) a (nI c_)) m 3) (v)).2)), (5, .int ((bst (fun c_ => dysM (upd (g 0) a (nI c_)) m 3) (v)).1)), (4, .int (g 0 a)), (0, .ref (Z.2.1 (0))), (1, .int (nI a)), (2, .int (nI N)), (3, .int (nI m))]) rfl ?_
          refine x_goto C d_Mo_calmest_58 18 (by decide) ?_
          refine x_lv [0, 2, 3, 4, 5, 6, 7, 8] (lv' := [(7, .int (nI (v + 1))), (6, .int ((bst (fun c_ => dysM (upd (g 0) a (nI c_)) m 3) (v)).2)), (5, .int ((bst (fun c_ => dysM (upd (g 0) a (nI c_)) m 3) (v)).1)), (4, .int (g 0 a)), (0, .ref (Z.2.1 (0))), (1, .int (nI a)), (2, .int (nI N)), (3, .int (nI m))]) rfl ?_
          refine x_lve (lv' := [(7, .int (nI (v + 1))), (6, .int ((bst (fun c_ => dysM (upd (g 0) a (nI c_)) m 3) (v + 1)).2)), (5, .int ((bst (fun c_ => dysM (upd (g 0) a (nI c_)) m 3) (v + 1)).1)), (4, .int (g 0 a)), (0, .ref (Z.2.1 (0))), (1, .int (nI a)), (2, .int (nI N)), (3, .int (nI m))]) (by simp [bst, *]) ?_
          refine x_eqg (g' := va_up (va_up g 0 (upd (g 0) a (cvl (g 0) a (v + 1)))) 2 ρ_2) (by simp only [upd_upd, cvl_s]) ?_
          exact ih_18 (v + 1) ρ_2 (by omega) (by omega)
        · have nc_3 := Int32.not_le.mp c_3
          refine x_iload C d_Mo_calmest_47 1 rfl ?_
          refine x_istore C d_Mo_calmest_49 (by decide) (lv' := [(5, .int (nI v)), (8, .int (dysM (upd (g 0) a (nI v)) m 3)), (7, .int (nI v)), (6, .int ((bst (fun c_ => dysM (upd (g 0) a (nI c_)) m 3) (v)).2)), (4, .int (g 0 a)), (0, .ref (Z.2.1 (0))), (1, .int (nI a)), (2, .int (nI N)), (3, .int (nI m))]) rfl ?_
          refine x_iload C d_Mo_calmest_51 1 rfl ?_
          refine x_istore C d_Mo_calmest_53 (by decide) (lv' := [(6, .int (dysM (upd (g 0) a (nI v)) m 3)), (5, .int (nI v)), (8, .int (dysM (upd (g 0) a (nI v)) m 3)), (7, .int (nI v)), (4, .int (g 0 a)), (0, .ref (Z.2.1 (0))), (1, .int (nI a)), (2, .int (nI N)), (3, .int (nI m))]) rfl ?_
          refine x_iinc C d_Mo_calmest_55 3 rfl (v := nI (v + 1)) (nI_1 _) (by decide) (lv' := [(7, .int (nI (v + 1))), (6, .int (dysM (upd (g 0) a (nI v)) m 3)), (5, .int (nI v)), (8, .int (dysM (upd (g 0) a (nI v)) m 3)), (4, .int (g 0 a)), (0, .ref (Z.2.1 (0))), (1, .int (nI a)), (2, .int (nI N)), (3, .int (nI m))]) rfl ?_
          refine x_goto C d_Mo_calmest_58 18 (by decide) ?_
          refine x_lv [0, 1, 2, 4, 5, 6, 7, 8] (lv' := [(7, .int (nI (v + 1))), (6, .int (dysM (upd (g 0) a (nI v)) m 3)), (5, .int (nI v)), (4, .int (g 0 a)), (0, .ref (Z.2.1 (0))), (1, .int (nI a)), (2, .int (nI N)), (3, .int (nI m))]) rfl ?_
          refine x_lve (lv' := [(7, .int (nI (v + 1))), (6, .int ((bst (fun c_ => dysM (upd (g 0) a (nI c_)) m 3) (v + 1)).2)), (5, .int ((bst (fun c_ => dysM (upd (g 0) a (nI c_)) m 3) (v + 1)).1)), (4, .int (g 0 a)), (0, .ref (Z.2.1 (0))), (1, .int (nI a)), (2, .int (nI N)), (3, .int (nI m))]) (by simp [bst, *]) ?_
          refine x_eqg (g' := va_up (va_up g 0 (upd (g 0) a (cvl (g 0) a (v + 1)))) 2 ρ_2) (by simp only [upd_upd, cvl_s]) ?_
          exact ih_18 (v + 1) ρ_2 (by omega) (by omega)
  refine x_lve (lv' := [(7, .int (nI 0)), (6, .int ((bst (fun c_ => dysM (upd (g 0) a (nI c_)) m 3) (0)).2)), (5, .int ((bst (fun c_ => dysM (upd (g 0) a (nI c_)) m 3) (0)).1)), (4, .int (g 0 a)), (0, .ref (Z.2.1 (0))), (1, .int (nI a)), (2, .int (nI N)), (3, .int (nI m))]) rfl ?_
  refine x_eqg (g' := va_up (va_up g 0 (upd (g 0) a (cvl (g 0) a (0)))) 2 (g 2)) (by rw [show cvl (g 0) a 0 = g 0 a from rfl, upd_id, va_id, va_id]) ?_
  exact LP_18 (N + 1) 0 (g 2) (Nat.zero_le _) (by omega)

set_option maxRecDepth 100000 in
set_option maxHeartbeats 600000 in
theorem c_Mo_placeFor (Z : ZT) (i m : Int32) (g : St)  (hk : okR (g 0)) : CT yM Z y_Mo_placeFor b_Mo_placeFor 3 (some (.int)) 8 184 [.ref (Z.2.1 (0)), .int (i), .int (m)] (g) (QkI yM Z (if (0 ≤ i ∧ i ≤ 5) ∧ (0 ≤ m ∧ m ≤ 40) then (bst (fun c_ => dysM (upd (g 0) (4 + i.toNatClampNeg) (nI c_)) m.toNatClampNeg 3) 16).1 else (-1000001)) (fun u => ∃ ρ : Nat → Int32, u = va_up (if (0 ≤ i ∧ i ≤ 5) ∧ (0 ≤ m ∧ m ≤ 40) then g else va_up g 4 (mfnR (g 4) 0)) 2 ρ)) := by
  refine CT.mk "TunnelPeaceModel" (by decide) rfl (Nat.le_of_ble_eq_true rfl) (fun X C => ?_)
  refine x_lv [0, 1, 2] (lv' := [(0, .ref (Z.2.1 (0))), (1, .int (i)), (2, .int (m))]) rfl ?_
  have hk0 := hk
  obtain ⟨⟨n, hn8, hn⟩, dd, hdd, hd⟩ := hk
  refine x_iload_n C d_Mo_placeFor_0 1 rfl rfl ?_
  refine x_callSi C (c_Mo_isPlace Z i (g)) mi_Mo_isPlace k_875 (As := [.int (i)]) ⟨Nat.le_of_ble_eq_true rfl, Nat.le_of_ble_eq_true rfl⟩ rfl rfl (Nat.le_of_ble_eq_true rfl) d_Mo_placeFor_1 ?_
  refine x_ifeqB C d_Mo_placeFor_4 27 (by decide) (fun c_1 => ?_) (fun c_1 => ?_)
  · refine x_aload_n C d_Mo_placeFor_27 0 rfl rfl ?_
    refine x_ldc C d_Mo_placeFor_28 k_866 ?_
    refine x_callVi C (c_Mo_finding_0 Z (g) _ rfl) mi_Mo_finding k_867 (show 0 < 12 by omega) (m_0 Z _) rfl (As := [.int ((-1000001))]) ⟨Nat.le_of_ble_eq_true rfl, Nat.le_of_ble_eq_true rfl⟩ rfl rfl (Nat.le_of_ble_eq_true rfl) d_Mo_placeFor_30 ?_
    exact x_iretK C (by first | with_reducible rfl | (simp [*, -hd]; done) | (simp [*]; done) | (simp_all; done)) (kfinM (G' := va_up g 4 (mfnR (g 4) 0)) (by first | with_reducible rfl | (simp [*, -hd]; done) | (simp [*]; done) | (simp_all; done)) (va_idn (by omega)).symm) d_Mo_placeFor_33
  · obtain ⟨iq, hiq, rfl⟩ := in_le (n := 5) c_1 (by decide)
    have hci : (nI iq).toNatClampNeg = iq := nI_clamp (by omega)
    refine x_iload_n C d_Mo_placeFor_7 2 rfl rfl ?_
    refine x_callSi C (c_Mo_isThought Z m (g)) mi_Mo_isThought k_1061 (As := [.int (m)]) ⟨Nat.le_of_ble_eq_true rfl, Nat.le_of_ble_eq_true rfl⟩ rfl rfl (Nat.le_of_ble_eq_true rfl) d_Mo_placeFor_8 ?_
    refine x_ifeqB C d_Mo_placeFor_11 27 (by decide) (fun c_2 => ?_) (fun c_2 => ?_)
    · refine x_aload_n C d_Mo_placeFor_27 0 rfl rfl ?_
      refine x_ldc C d_Mo_placeFor_28 k_866 ?_
      refine x_callVi C (c_Mo_finding_0 Z (g) _ rfl) mi_Mo_finding k_867 (show 0 < 12 by omega) (m_0 Z _) rfl (As := [.int ((-1000001))]) ⟨Nat.le_of_ble_eq_true rfl, Nat.le_of_ble_eq_true rfl⟩ rfl rfl (Nat.le_of_ble_eq_true rfl) d_Mo_placeFor_30 ?_
      exact x_iretK C (by first | with_reducible rfl | (simp [*, -hd]; done) | (simp [*]; done) | (simp_all; done)) (kfinM (G' := va_up g 4 (mfnR (g 4) 0)) (by first | with_reducible rfl | (simp [*, -hd]; done) | (simp [*]; done) | (simp_all; done)) (va_idn (by omega)).symm) d_Mo_placeFor_33
    · obtain ⟨mq, hmq, rfl⟩ := in_le (n := 40) c_2 (by decide)
      have hcm : (nI mq).toNatClampNeg = mq := nI_clamp (by omega)
      refine x_aload_n C d_Mo_placeFor_14 0 rfl rfl ?_
      refine x_iconst C d_Mo_placeFor_15 (v := 4) (by decide) ?_
      refine x_iload_n C d_Mo_placeFor_16 1 rfl rfl ?_
      refine x_iadd C d_Mo_placeFor_17 ?_
      refine x_topi (x' := nI (4 + iq)) (nI_add 4 _) ?_
      refine x_bipush C d_Mo_placeFor_18 (v := 16) (by decide) ?_
      refine x_iload_n C d_Mo_placeFor_20 2 rfl rfl ?_
      refine x_callVki C (c_Mo_calmest Z (4 + iq) 16 mq (by first | omega | (simp only [pI]; omega)) (by first | omega | (simp only [pI]; omega)) (by omega) (by omega) (g) _ rfl hk0) mi_Mo_calmest k_1064 (show 0 < 12 by omega) (m_0 Z _) rfl (As := [.int (nI (4 + iq)), .int (16), .int (nI mq)]) ⟨Nat.le_of_ble_eq_true rfl, Nat.le_of_ble_eq_true rfl⟩ rfl rfl (Nat.le_of_ble_eq_true rfl) d_Mo_placeFor_21 (fun u_ hu_ => ?_)
      obtain ⟨ρ_3, rfl⟩ := hu_
      refine x_goto C d_Mo_placeFor_24 33 (by decide) ?_
      exact x_iretK C (by first | with_reducible rfl | (simp [*, -hd]; done) | (simp [*]; done) | (simp_all; done)) (kfinM (G' := g) (by first | with_reducible rfl | (simp [*, -hd]; done) | (simp [*]; done) | (simp_all; done)) rfl) d_Mo_placeFor_33

set_option maxRecDepth 100000 in
set_option maxHeartbeats 600000 in
theorem c_Mo_kindFor (Z : ZT) (p m : Int32) (g : St)  (hk : okR (g 0)) : CT yM Z y_Mo_kindFor b_Mo_kindFor 3 (some (.int)) 8 184 [.ref (Z.2.1 (0)), .int (p), .int (m)] (g) (QkI yM Z (if (0 ≤ p ∧ p < g 0 1) ∧ (0 ≤ m ∧ m ≤ 40) then (bst (fun c_ => dysM (upd (g 0) (pI p.toNatClampNeg 0) (nI c_)) m.toNatClampNeg 3) 7).1 else (-1000001)) (fun u => ∃ ρ : Nat → Int32, u = va_up (if (0 ≤ p ∧ p < g 0 1) ∧ (0 ≤ m ∧ m ≤ 40) then g else va_up g 4 (mfnR (g 4) 0)) 2 ρ)) := by
  refine CT.mk "TunnelPeaceModel" (by decide) rfl (Nat.le_of_ble_eq_true rfl) (fun X C => ?_)
  refine x_lv [0, 1, 2] (lv' := [(0, .ref (Z.2.1 (0))), (1, .int (p)), (2, .int (m))]) rfl ?_
  have hk0 := hk
  obtain ⟨⟨n, hn8, hn⟩, dd, hdd, hd⟩ := hk
  refine x_aload_n C d_Mo_kindFor_0 0 rfl rfl ?_
  refine x_iload_n C d_Mo_kindFor_1 1 rfl rfl ?_
  refine x_callVi C (c_Mo_isPerson Z p n (by omega) (g) hn) mi_Mo_isPerson k_907 (show 0 < 12 by omega) (m_0 Z _) rfl (As := [.int (p)]) ⟨Nat.le_of_ble_eq_true rfl, Nat.le_of_ble_eq_true rfl⟩ rfl rfl (Nat.le_of_ble_eq_true rfl) d_Mo_kindFor_2 ?_
  refine x_ifeqB C d_Mo_kindFor_5 30 (by decide) (fun c_1 => ?_) (fun c_1 => ?_)
  · refine x_aload_n C d_Mo_kindFor_30 0 rfl rfl ?_
    refine x_ldc C d_Mo_kindFor_31 k_866 ?_
    refine x_callVi C (c_Mo_finding_0 Z (g) _ rfl) mi_Mo_finding k_867 (show 0 < 12 by omega) (m_0 Z _) rfl (As := [.int ((-1000001))]) ⟨Nat.le_of_ble_eq_true rfl, Nat.le_of_ble_eq_true rfl⟩ rfl rfl (Nat.le_of_ble_eq_true rfl) d_Mo_kindFor_33 ?_
    exact x_iretK C (by first | with_reducible rfl | (simp [*, -hd]; done) | (simp [*]; done) | (simp_all; done)) (kfinM (G' := va_up g 4 (mfnR (g 4) 0)) (by first | with_reducible rfl | (simp [*, -hd]; done) | (simp [*]; done) | (simp_all; done)) (va_idn (by omega)).symm) d_Mo_kindFor_36
  · obtain ⟨pq, hpq, rfl⟩ := in_of c_1 (by omega)
    have hcp : (nI pq).toNatClampNeg = pq := nI_clamp (by omega)
    refine x_iload_n C d_Mo_kindFor_8 2 rfl rfl ?_
    refine x_callSi C (c_Mo_isThought Z m (g)) mi_Mo_isThought k_1061 (As := [.int (m)]) ⟨Nat.le_of_ble_eq_true rfl, Nat.le_of_ble_eq_true rfl⟩ rfl rfl (Nat.le_of_ble_eq_true rfl) d_Mo_kindFor_9 ?_
    refine x_ifeqB C d_Mo_kindFor_12 30 (by decide) (fun c_2 => ?_) (fun c_2 => ?_)
    · refine x_aload_n C d_Mo_kindFor_30 0 rfl rfl ?_
      refine x_ldc C d_Mo_kindFor_31 k_866 ?_
      refine x_callVi C (c_Mo_finding_0 Z (g) _ rfl) mi_Mo_finding k_867 (show 0 < 12 by omega) (m_0 Z _) rfl (As := [.int ((-1000001))]) ⟨Nat.le_of_ble_eq_true rfl, Nat.le_of_ble_eq_true rfl⟩ rfl rfl (Nat.le_of_ble_eq_true rfl) d_Mo_kindFor_33 ?_
      exact x_iretK C (by first | with_reducible rfl | (simp [*, -hd]; done) | (simp [*]; done) | (simp_all; done)) (kfinM (G' := va_up g 4 (mfnR (g 4) 0)) (by first | with_reducible rfl | (simp [*, -hd]; done) | (simp [*]; done) | (simp_all; done)) (va_idn (by omega)).symm) d_Mo_kindFor_36
    · obtain ⟨mq, hmq, rfl⟩ := in_le (n := 40) c_2 (by decide)
      have hcm : (nI mq).toNatClampNeg = mq := nI_clamp (by omega)
      refine x_aload_n C d_Mo_kindFor_15 0 rfl rfl ?_
      refine x_iload_n C d_Mo_kindFor_16 1 rfl rfl ?_
      refine x_iconst C d_Mo_kindFor_17 (v := 0) (by decide) ?_
      refine x_callSi C (c_Mo_personAt Z pq 0 (g)) mi_Mo_personAt k_897 (As := [.int (nI pq), .int (0)]) ⟨Nat.le_of_ble_eq_true rfl, Nat.le_of_ble_eq_true rfl⟩ rfl rfl (Nat.le_of_ble_eq_true rfl) d_Mo_kindFor_18 ?_
      refine x_bipush C d_Mo_kindFor_21 (v := 7) (by decide) ?_
      refine x_iload_n C d_Mo_kindFor_23 2 rfl rfl ?_
      refine x_callVki C (c_Mo_calmest Z (pI pq 0) 7 mq (by first | omega | (simp only [pI]; omega)) (by first | omega | (simp only [pI]; omega)) (by omega) (by omega) (g) _ rfl hk0) mi_Mo_calmest k_1064 (show 0 < 12 by omega) (m_0 Z _) rfl (As := [.int (nI (pI pq 0)), .int (7), .int (nI mq)]) ⟨Nat.le_of_ble_eq_true rfl, Nat.le_of_ble_eq_true rfl⟩ rfl rfl (Nat.le_of_ble_eq_true rfl) d_Mo_kindFor_24 (fun u_ hu_ => ?_)
      obtain ⟨ρ_3, rfl⟩ := hu_
      refine x_goto C d_Mo_kindFor_27 36 (by decide) ?_
      exact x_iretK C (by first | with_reducible rfl | (simp [*, -hd]; done) | (simp [*]; done) | (simp_all; done)) (kfinM (G' := g) (by first | with_reducible rfl | (simp [*, -hd]; done) | (simp [*]; done) | (simp_all; done)) rfl) d_Mo_kindFor_36

set_option maxRecDepth 100000 in
set_option maxHeartbeats 600000 in
theorem c_Mo_firstFor_u (Z : ZT) (a p m : Nat) (v : Int32) (ha2 : 2 ≤ a) (ha6 : a < 68) (hp : p < 8) (hm : m < 2 ^ 31) (g : St)  (r : Nat → Int32) (hr : g 0 = r) (hk : okR r) : CT yM Z y_Mo_firstFor b_Mo_firstFor 11 (some (.int)) 7 156 [.ref (Z.2.1 (0)), .int (nI a), .int (0), .int (99), .int (nI p), .int (v), .int (nI m)] (g) (QkI yM Z (oI (fdo (fun c_ => decide (v ≤ dysM (upd r a (nI c_)) m (pI p 5))) 100 0)) (fun u => ∃ ρ : Nat → Int32, u = va_up g 2 ρ)) := by
  refine CT.mk "TunnelPeaceModel" (by decide) rfl (Nat.le_of_ble_eq_true rfl) (fun X C => ?_)
  refine x_lv [0, 1, 2, 3, 4, 5, 6] (lv' := [(0, .ref (Z.2.1 (0))), (1, .int (nI a)), (2, .int (0)), (3, .int (99)), (4, .int (nI p)), (5, .int (v)), (6, .int (nI m))]) rfl ?_
  subst hr
  have hk0 := hk
  obtain ⟨⟨n, hn8, hn⟩, dd, hdd, hd⟩ := hk
  refine x_aload_n C d_Mo_firstFor_0 0 rfl rfl ?_
  refine gf_Mo_now C k_791 d_Mo_firstFor_1 ?_
  refine x_iload_n C d_Mo_firstFor_4 1 rfl rfl ?_
  refine al_m_now C a (v := g 0 a) rfl (by first | omega | (simp only [pI]; omega)) rfl d_Mo_firstFor_5 ?_
  refine x_istore C d_Mo_firstFor_6 (by decide) (lv' := [(7, .int (g 0 a)), (0, .ref (Z.2.1 (0))), (1, .int (nI a)), (2, .int (0)), (3, .int (99)), (4, .int (nI p)), (5, .int (v)), (6, .int (nI m))]) rfl ?_
  refine x_iload_n C d_Mo_firstFor_8 3 rfl rfl ?_
  refine x_iload_n C d_Mo_firstFor_9 4 rfl rfl ?_
  refine x_icmp_ge C d_Mo_firstFor_10 17 (by decide) (fun c_1 => ?_) (fun c_1 => ?_)
  · exact absurd c_1 (by decide)
  · have nc_1 := Int32.not_le.mp c_1
    refine x_iconst C d_Mo_firstFor_13 (v := 1) (by decide) ?_
    refine x_goto C d_Mo_firstFor_14 18 (by decide) ?_
    refine x_istore C d_Mo_firstFor_18 (by decide) (lv' := [(8, .int (1)), (7, .int (g 0 a)), (0, .ref (Z.2.1 (0))), (1, .int (nI a)), (2, .int (0)), (3, .int (99)), (4, .int (nI p)), (5, .int (v)), (6, .int (nI m))]) rfl ?_
    refine x_iconst C d_Mo_firstFor_20 (v := -1) (by decide) ?_
    refine x_istore C d_Mo_firstFor_21 (by decide) (lv' := [(9, .int ((-1))), (8, .int (1)), (7, .int (g 0 a)), (0, .ref (Z.2.1 (0))), (1, .int (nI a)), (2, .int (0)), (3, .int (99)), (4, .int (nI p)), (5, .int (v)), (6, .int (nI m))]) rfl ?_
    refine x_iload_n C d_Mo_firstFor_23 5 rfl rfl ?_
    refine x_topi (show (0 : Int32) = nI 0 by decide) ?_
    refine x_istore C d_Mo_firstFor_24 (by decide) (lv' := [(10, .int (nI 0)), (9, .int ((-1))), (8, .int (1)), (7, .int (g 0 a)), (0, .ref (Z.2.1 (0))), (1, .int (nI a)), (2, .int (0)), (3, .int (99)), (4, .int (nI p)), (5, .int (v)), (6, .int (nI m))]) rfl ?_
    have LP_26 : ∀ (f_ k : Nat) (ρ : Nat → Int32), k ≤ 100 → 100 - k < f_ → (fdo (fun c_ => decide (v ≤ dysM (upd (g 0) a (nI c_)) m (pI p 5))) 100 0 = fdo (fun c_ => decide (v ≤ dysM (upd (g 0) a (nI c_)) m (pI p 5))) (100 - k) k) → WX X 11 yM Z (QX X yM Z (QkI yM Z (oI (fdo (fun c_ => decide (v ≤ dysM (upd (g 0) a (nI c_)) m (pI p 5))) 100 0)) (fun u => ∃ ρ : Nat → Int32, u = va_up g 2 ρ))) (va_up (va_up g 0 (upd (g 0) a (cvl (g 0) a (k)))) 2 ρ) 26 [(10, .int (nI k)), (9, .int ((-1))), (8, .int (1)), (7, .int (g 0 a)), (0, .ref (Z.2.1 (0))), (1, .int (nI a)), (3, .int (99)), (4, .int (nI p)), (5, .int (v)), (6, .int (nI m))] [] := by
      intro f_
      induction f_ with
      | zero => intro k _ h1_ h2_ _; exact absurd h2_ (Nat.not_lt_zero _)
      | succ f_ ih_26 =>
        intro k ρ hi_26 hf_26 hy_26
        refine x_iload C d_Mo_firstFor_26 0 rfl ?_
        refine x_iload_n C d_Mo_firstFor_28 6 rfl rfl ?_
        refine x_iload C d_Mo_firstFor_29 2 rfl ?_
        refine x_iadd C d_Mo_firstFor_31 ?_
        refine x_topi (x' := 100) (by decide) ?_
        refine x_icmp_eq C d_Mo_firstFor_32 83 (by decide) (fun c_2 => ?_) (fun c_2 => ?_)
        · have mc_2 : k = 100 := (nI_eq (by omega) (by omega)).mp (show nI k = nI 100 from c_2)
          refine x_aload_n C d_Mo_firstFor_83 4 rfl rfl ?_
          refine gf_Mo_now C k_791 d_Mo_firstFor_84 ?_
          refine x_iload_n C d_Mo_firstFor_87 5 rfl rfl ?_
          refine x_iload C d_Mo_firstFor_88 3 rfl ?_
          refine as_m_now C a (v := g 0 a) rfl (by first | omega | (simp only [pI]; omega)) (G := va_up (va_up g 2 ρ) 0 (upd (upd (g 0) a (cvl (g 0) a (k))) a (g 0 a))) (up_vb (by omega)) d_Mo_firstFor_90 ?_
          refine x_iload C d_Mo_firstFor_91 1 rfl ?_
          exact x_iretK C (by rw [hy_26, show k = 100 by omega]; rfl) ⟨_, by simp only [upd_upd, upd_id]; exact va_idn (by decide)⟩ d_Mo_firstFor_93
        · have nc_2 := Ne.symm c_2
          have mc_2 : ¬ k = 100 := fun z_ => (show ¬ nI k = nI 100 from c_2) ((nI_eq (by omega) (by omega)).mpr z_)
          refine x_iload C d_Mo_firstFor_35 1 rfl ?_
          refine x_ifge C d_Mo_firstFor_37 83 (by decide) (fun c_3 => ?_) (fun c_3 => ?_)
          · exact absurd c_3 (by decide)
          · have nc_3 := Int32.not_le.mp c_3
            refine x_aload_n C d_Mo_firstFor_40 4 rfl rfl ?_
            refine gf_Mo_now C k_791 d_Mo_firstFor_41 ?_
            refine x_iload_n C d_Mo_firstFor_44 5 rfl rfl ?_
            refine x_iload C d_Mo_firstFor_45 0 rfl ?_
            refine as_m_now C a (v := nI k) rfl (by first | omega | (simp only [pI]; omega)) (G := va_up (va_up g 2 ρ) 0 (upd (upd (g 0) a (cvl (g 0) a (k))) a (nI k))) (up_vb (by omega)) d_Mo_firstFor_47 ?_
            refine x_aload_n C d_Mo_firstFor_48 4 rfl rfl ?_
            refine x_iload C d_Mo_firstFor_49 7 rfl ?_
            refine x_iconst C d_Mo_firstFor_51 (v := 5) (by decide) ?_
            refine x_callSi C (c_Mo_personAt Z p 5 (va_up (va_up g 2 ρ) 0 (upd (upd (g 0) a (cvl (g 0) a (k))) a (nI k)))) mi_Mo_personAt k_897 (As := [.int (nI p), .int (5)]) ⟨Nat.le_of_ble_eq_true rfl, Nat.le_of_ble_eq_true rfl⟩ rfl rfl (Nat.le_of_ble_eq_true rfl) d_Mo_firstFor_52 ?_
            refine x_iload C d_Mo_firstFor_55 9 rfl ?_
            refine x_callVki C (c_Mo_behind Z (pI p 5) m (by first | omega | (simp only [pI]; omega)) (by omega) (va_up (va_up g 2 ρ) 0 (upd (upd (g 0) a (cvl (g 0) a (k))) a (nI k))) _ (Eq.trans (va_up_self _ _ _) upd_upd) (okR_upd hk0 (by omega))) mi_Mo_behind k_1032 (show 0 < 12 by omega) (m_0 Z _) rfl (As := [.int (nI (pI p 5)), .int (nI m)]) ⟨Nat.le_of_ble_eq_true rfl, Nat.le_of_ble_eq_true rfl⟩ rfl rfl (Nat.le_of_ble_eq_true rfl) d_Mo_firstFor_57 (fun u_ hu_ => ?_)
            obtain ⟨ρ_4, rfl⟩ := hu_
            refine x_eqg (g' := va_up (va_up g 0 (upd (upd (g 0) a (cvl (g 0) a (k))) a (nI k))) 2 ρ_4) (by rw [va_com (a := 2) (b := 0) (by decide), bx_uu]) ?_
            refine x_iload C d_Mo_firstFor_60 8 rfl ?_
            refine x_icmp_lt C d_Mo_firstFor_62 70 (by decide) (fun c_5 => ?_) (fun c_5 => ?_)
            · have nc_5 := Int32.not_le.mpr c_5
              refine x_iconst C d_Mo_firstFor_70 (v := -1) (by decide) ?_
              refine x_istore C d_Mo_firstFor_71 (by decide) (lv' := [(9, .int ((-1))), (10, .int (nI k)), (8, .int (1)), (7, .int (g 0 a)), (0, .ref (Z.2.1 (0))), (1, .int (nI a)), (3, .int (99)), (4, .int (nI p)), (5, .int (v)), (6, .int (nI m))]) rfl ?_
              refine x_iload C d_Mo_firstFor_73 1 rfl ?_
              refine x_iload C d_Mo_firstFor_75 2 rfl ?_
              refine x_iadd C d_Mo_firstFor_77 ?_
              refine x_topi (x' := nI (k + 1)) (nI_1 _) ?_
              refine x_istore C d_Mo_firstFor_78 (by decide) (lv' := [(10, .int (nI (k + 1))), (9, .int ((-1))), (8, .int (1)), (7, .int (g 0 a)), (0, .ref (Z.2.1 (0))), (1, .int (nI a)), (3, .int (99)), (4, .int (nI p)), (5, .int (v)), (6, .int (nI m))]) rfl ?_
              refine x_goto C d_Mo_firstFor_80 26 (by decide) ?_
              refine x_eqg (g' := va_up (va_up g 0 (upd (g 0) a (cvl (g 0) a (k + 1)))) 2 ρ_4) (by simp only [upd_upd, cvl_s]) ?_
              exact ih_26 (k + 1) ρ_4 (by omega) (by omega) (hy_26.trans (fdo_n (by omega) (by simp [*])))
            · have nc_5 := Int32.not_lt.mp c_5
              refine x_iload C d_Mo_firstFor_65 0 rfl ?_
              refine x_goto C d_Mo_firstFor_67 71 (by decide) ?_
              refine x_istore C d_Mo_firstFor_71 (by decide) (lv' := [(9, .int (nI k)), (10, .int (nI k)), (8, .int (1)), (7, .int (g 0 a)), (0, .ref (Z.2.1 (0))), (1, .int (nI a)), (3, .int (99)), (4, .int (nI p)), (5, .int (v)), (6, .int (nI m))]) rfl ?_
              refine x_iload C d_Mo_firstFor_73 1 rfl ?_
              refine x_iload C d_Mo_firstFor_75 2 rfl ?_
              refine x_iadd C d_Mo_firstFor_77 ?_
              refine x_topi (x' := nI (k + 1)) (nI_1 _) ?_
              refine x_istore C d_Mo_firstFor_78 (by decide) (lv' := [(10, .int (nI (k + 1))), (9, .int (nI k)), (8, .int (1)), (7, .int (g 0 a)), (0, .ref (Z.2.1 (0))), (1, .int (nI a)), (3, .int (99)), (4, .int (nI p)), (5, .int (v)), (6, .int (nI m))]) rfl ?_
              refine x_goto C d_Mo_firstFor_80 26 (by decide) ?_
              refine x_iload C d_Mo_firstFor_26 0 rfl ?_
              refine x_iload_n C d_Mo_firstFor_28 6 rfl rfl ?_
              refine x_iload C d_Mo_firstFor_29 2 rfl ?_
              refine x_iadd C d_Mo_firstFor_31 ?_
              refine x_topi (x' := 100) (by decide) ?_
              refine x_icmp_eq C d_Mo_firstFor_32 83 (by decide) (fun c_6 => ?_) (fun c_6 => ?_)
              · have mc_6 : k + 1 = 100 := (nI_eq (by omega) (by omega)).mp (show nI (k + 1) = nI 100 from c_6)
                refine x_aload_n C d_Mo_firstFor_83 4 rfl rfl ?_
                refine gf_Mo_now C k_791 d_Mo_firstFor_84 ?_
                refine x_iload_n C d_Mo_firstFor_87 5 rfl rfl ?_
                refine x_iload C d_Mo_firstFor_88 3 rfl ?_
                refine as_m_now C a (v := g 0 a) rfl (by first | omega | (simp only [pI]; omega)) (G := va_up (va_up g 2 ρ_4) 0 (upd (upd (upd (g 0) a (cvl (g 0) a (k))) a (nI k)) a (g 0 a))) (up_vb (by omega)) d_Mo_firstFor_90 ?_
                refine x_iload C d_Mo_firstFor_91 1 rfl ?_
                exact x_iretK C (by rw [hy_26, fdo_t (by omega) (by simp [*])]; rfl) ⟨_, by simp only [upd_upd, upd_id]; exact va_idn (by decide)⟩ d_Mo_firstFor_93
              · have nc_6 := Ne.symm c_6
                have mc_6 : ¬ k + 1 = 100 := fun z_ => (show ¬ nI (k + 1) = nI 100 from c_6) ((nI_eq (by omega) (by omega)).mpr z_)
                refine x_iload C d_Mo_firstFor_35 1 rfl ?_
                refine x_ifge C d_Mo_firstFor_37 83 (by decide) (fun c_7 => ?_) (fun c_7 => ?_)
                · have nc_7 := Int32.not_lt.mpr c_7
                  refine x_aload_n C d_Mo_firstFor_83 4 rfl rfl ?_
                  refine gf_Mo_now C k_791 d_Mo_firstFor_84 ?_
                  refine x_iload_n C d_Mo_firstFor_87 5 rfl rfl ?_
                  refine x_iload C d_Mo_firstFor_88 3 rfl ?_
                  refine as_m_now C a (v := g 0 a) rfl (by first | omega | (simp only [pI]; omega)) (G := va_up (va_up g 2 ρ_4) 0 (upd (upd (upd (g 0) a (cvl (g 0) a (k))) a (nI k)) a (g 0 a))) (up_vb (by omega)) d_Mo_firstFor_90 ?_
                  refine x_iload C d_Mo_firstFor_91 1 rfl ?_
                  exact x_iretK C (by rw [hy_26, fdo_t (by omega) (by simp [*])]; rfl) ⟨_, by simp only [upd_upd, upd_id]; exact va_idn (by decide)⟩ d_Mo_firstFor_93
                · exact absurd (nI_pos' (by omega)) c_7
    refine x_lv [0, 1, 2, 3, 4, 5, 7, 8, 9, 10] (lv' := [(10, .int (nI 0)), (9, .int ((-1))), (8, .int (1)), (7, .int (g 0 a)), (0, .ref (Z.2.1 (0))), (1, .int (nI a)), (3, .int (99)), (4, .int (nI p)), (5, .int (v)), (6, .int (nI m))]) rfl ?_
    refine x_eqg (g' := va_up (va_up g 0 (upd (g 0) a (cvl (g 0) a (0)))) 2 (g 2)) (by rw [show cvl (g 0) a 0 = g 0 a from rfl, upd_id, va_id, va_id]) ?_
    exact LP_26 (100 + 1) 0 (g 2) (Nat.zero_le _) (by omega) rfl

set_option maxRecDepth 100000 in
set_option maxHeartbeats 600000 in
theorem c_Mo_firstFor_d (Z : ZT) (a p m : Nat) (v : Int32) (ha2 : 2 ≤ a) (ha6 : a < 68) (hp : p < 8) (hm : m < 2 ^ 31) (g : St)  (r : Nat → Int32) (hr : g 0 = r) (hk : okR r) : CT yM Z y_Mo_firstFor b_Mo_firstFor 11 (some (.int)) 7 156 [.ref (Z.2.1 (0)), .int (nI a), .int (9), .int (0), .int (nI p), .int (v), .int (nI m)] (g) (QkI yM Z (fdn (fun c_ => decide (v ≤ dysM (upd r a (nI c_)) m (pI p 5))) 10) (fun u => ∃ ρ : Nat → Int32, u = va_up g 2 ρ)) := by
  refine CT.mk "TunnelPeaceModel" (by decide) rfl (Nat.le_of_ble_eq_true rfl) (fun X C => ?_)
  refine x_lv [0, 1, 2, 3, 4, 5, 6] (lv' := [(0, .ref (Z.2.1 (0))), (1, .int (nI a)), (2, .int (9)), (3, .int (0)), (4, .int (nI p)), (5, .int (v)), (6, .int (nI m))]) rfl ?_
  subst hr
  have hk0 := hk
  obtain ⟨⟨n, hn8, hn⟩, dd, hdd, hd⟩ := hk
  refine x_aload_n C d_Mo_firstFor_0 0 rfl rfl ?_
  refine gf_Mo_now C k_791 d_Mo_firstFor_1 ?_
  refine x_iload_n C d_Mo_firstFor_4 1 rfl rfl ?_
  refine al_m_now C a (v := g 0 a) rfl (by first | omega | (simp only [pI]; omega)) rfl d_Mo_firstFor_5 ?_
  refine x_istore C d_Mo_firstFor_6 (by decide) (lv' := [(7, .int (g 0 a)), (0, .ref (Z.2.1 (0))), (1, .int (nI a)), (2, .int (9)), (3, .int (0)), (4, .int (nI p)), (5, .int (v)), (6, .int (nI m))]) rfl ?_
  refine x_iload_n C d_Mo_firstFor_8 3 rfl rfl ?_
  refine x_iload_n C d_Mo_firstFor_9 4 rfl rfl ?_
  refine x_icmp_ge C d_Mo_firstFor_10 17 (by decide) (fun c_1 => ?_) (fun c_1 => ?_)
  · have nc_1 := Int32.not_lt.mpr c_1
    refine x_iconst C d_Mo_firstFor_17 (v := -1) (by decide) ?_
    refine x_istore C d_Mo_firstFor_18 (by decide) (lv' := [(8, .int ((-1))), (7, .int (g 0 a)), (0, .ref (Z.2.1 (0))), (1, .int (nI a)), (2, .int (9)), (3, .int (0)), (4, .int (nI p)), (5, .int (v)), (6, .int (nI m))]) rfl ?_
    refine x_iconst C d_Mo_firstFor_20 (v := -1) (by decide) ?_
    refine x_istore C d_Mo_firstFor_21 (by decide) (lv' := [(9, .int ((-1))), (8, .int ((-1))), (7, .int (g 0 a)), (0, .ref (Z.2.1 (0))), (1, .int (nI a)), (2, .int (9)), (3, .int (0)), (4, .int (nI p)), (5, .int (v)), (6, .int (nI m))]) rfl ?_
    refine x_iload_n C d_Mo_firstFor_23 5 rfl rfl ?_
    refine x_topi (show (9 : Int32) = nI 9 by decide) ?_
    refine x_istore C d_Mo_firstFor_24 (by decide) (lv' := [(10, .int (nI 9)), (9, .int ((-1))), (8, .int ((-1))), (7, .int (g 0 a)), (0, .ref (Z.2.1 (0))), (1, .int (nI a)), (2, .int (9)), (3, .int (0)), (4, .int (nI p)), (5, .int (v)), (6, .int (nI m))]) rfl ?_
    refine x_iload C d_Mo_firstFor_26 0 rfl ?_
    refine x_iload_n C d_Mo_firstFor_28 7 rfl rfl ?_
    refine x_iload C d_Mo_firstFor_29 2 rfl ?_
    refine x_iadd C d_Mo_firstFor_31 ?_
    refine x_topi (x' := (-1)) (by decide) ?_
    refine x_icmp_eq C d_Mo_firstFor_32 83 (by decide) (fun c_2 => ?_) (fun c_2 => ?_)
    · exact absurd c_2 (by decide)
    · have nc_2 := Ne.symm c_2
      refine x_iload C d_Mo_firstFor_35 1 rfl ?_
      refine x_ifge C d_Mo_firstFor_37 83 (by decide) (fun c_3 => ?_) (fun c_3 => ?_)
      · exact absurd c_3 (by decide)
      · have nc_3 := Int32.not_le.mp c_3
        refine x_aload_n C d_Mo_firstFor_40 4 rfl rfl ?_
        refine gf_Mo_now C k_791 d_Mo_firstFor_41 ?_
        refine x_iload_n C d_Mo_firstFor_44 5 rfl rfl ?_
        refine x_iload C d_Mo_firstFor_45 0 rfl ?_
        refine as_m_now C a (v := nI 9) rfl (by first | omega | (simp only [pI]; omega)) (G := va_up g 0 (upd (g 0) a (nI 9))) rfl d_Mo_firstFor_47 ?_
        refine x_aload_n C d_Mo_firstFor_48 4 rfl rfl ?_
        refine x_iload C d_Mo_firstFor_49 8 rfl ?_
        refine x_iconst C d_Mo_firstFor_51 (v := 5) (by decide) ?_
        refine x_callSi C (c_Mo_personAt Z p 5 (va_up g 0 (upd (g 0) a (nI 9)))) mi_Mo_personAt k_897 (As := [.int (nI p), .int (5)]) ⟨Nat.le_of_ble_eq_true rfl, Nat.le_of_ble_eq_true rfl⟩ rfl rfl (Nat.le_of_ble_eq_true rfl) d_Mo_firstFor_52 ?_
        refine x_iload C d_Mo_firstFor_55 10 rfl ?_
        refine x_callVki C (c_Mo_behind Z (pI p 5) m (by first | omega | (simp only [pI]; omega)) (by omega) (va_up g 0 (upd (g 0) a (nI 9))) _ (va_up_self _ _ _) (okR_upd hk0 (by omega))) mi_Mo_behind k_1032 (show 0 < 12 by omega) (m_0 Z _) rfl (As := [.int (nI (pI p 5)), .int (nI m)]) ⟨Nat.le_of_ble_eq_true rfl, Nat.le_of_ble_eq_true rfl⟩ rfl rfl (Nat.le_of_ble_eq_true rfl) d_Mo_firstFor_57 (fun u_ hu_ => ?_)
        obtain ⟨ρ_4, rfl⟩ := hu_
        refine x_iload C d_Mo_firstFor_60 9 rfl ?_
        refine x_icmp_lt C d_Mo_firstFor_62 70 (by decide) (fun c_5 => ?_) (fun c_5 => ?_)
        · have nc_5 := Int32.not_le.mpr c_5
          refine x_iconst C d_Mo_firstFor_70 (v := -1) (by decide) ?_
          refine x_istore C d_Mo_firstFor_71 (by decide) (lv' := [(9, .int ((-1))), (10, .int (nI 9)), (8, .int ((-1))), (7, .int (g 0 a)), (0, .ref (Z.2.1 (0))), (1, .int (nI a)), (2, .int (9)), (3, .int (0)), (4, .int (nI p)), (5, .int (v)), (6, .int (nI m))]) rfl ?_
          refine x_iload C d_Mo_firstFor_73 1 rfl ?_
          refine x_iload C d_Mo_firstFor_75 2 rfl ?_
          refine x_iadd C d_Mo_firstFor_77 ?_
          refine x_topi (x' := nI 8) (by decide) ?_
          refine x_istore C d_Mo_firstFor_78 (by decide) (lv' := [(10, .int (nI 8)), (9, .int ((-1))), (8, .int ((-1))), (7, .int (g 0 a)), (0, .ref (Z.2.1 (0))), (1, .int (nI a)), (2, .int (9)), (3, .int (0)), (4, .int (nI p)), (5, .int (v)), (6, .int (nI m))]) rfl ?_
          refine x_goto C d_Mo_firstFor_80 26 (by decide) ?_
          refine x_iload C d_Mo_firstFor_26 0 rfl ?_
          refine x_iload_n C d_Mo_firstFor_28 7 rfl rfl ?_
          refine x_iload C d_Mo_firstFor_29 2 rfl ?_
          refine x_iadd C d_Mo_firstFor_31 ?_
          refine x_topi (x' := (-1)) (by decide) ?_
          refine x_icmp_eq C d_Mo_firstFor_32 83 (by decide) (fun c_6 => ?_) (fun c_6 => ?_)
          · exact absurd c_6 (by decide)
          · have nc_6 := Ne.symm c_6
            refine x_iload C d_Mo_firstFor_35 1 rfl ?_
            refine x_ifge C d_Mo_firstFor_37 83 (by decide) (fun c_7 => ?_) (fun c_7 => ?_)
            · exact absurd c_7 (by decide)
            · have nc_7 := Int32.not_le.mp c_7
              refine x_aload_n C d_Mo_firstFor_40 4 rfl rfl ?_
              refine gf_Mo_now C k_791 d_Mo_firstFor_41 ?_
              refine x_iload_n C d_Mo_firstFor_44 5 rfl rfl ?_
              refine x_iload C d_Mo_firstFor_45 0 rfl ?_
              refine as_m_now C a (v := nI 8) rfl (by first | omega | (simp only [pI]; omega)) (G := va_up (va_up g 2 ρ_4) 0 (upd (upd (g 0) a (nI 9)) a (nI 8))) (up_vb (by omega)) d_Mo_firstFor_47 ?_
              refine x_aload_n C d_Mo_firstFor_48 4 rfl rfl ?_
              refine x_iload C d_Mo_firstFor_49 8 rfl ?_
              refine x_iconst C d_Mo_firstFor_51 (v := 5) (by decide) ?_
              refine x_callSi C (c_Mo_personAt Z p 5 (va_up (va_up g 2 ρ_4) 0 (upd (upd (g 0) a (nI 9)) a (nI 8)))) mi_Mo_personAt k_897 (As := [.int (nI p), .int (5)]) ⟨Nat.le_of_ble_eq_true rfl, Nat.le_of_ble_eq_true rfl⟩ rfl rfl (Nat.le_of_ble_eq_true rfl) d_Mo_firstFor_52 ?_
              refine x_iload C d_Mo_firstFor_55 10 rfl ?_
              refine x_callVki C (c_Mo_behind Z (pI p 5) m (by first | omega | (simp only [pI]; omega)) (by omega) (va_up (va_up g 2 ρ_4) 0 (upd (upd (g 0) a (nI 9)) a (nI 8))) _ (Eq.trans (va_up_self _ _ _) upd_upd) (okR_upd hk0 (by omega))) mi_Mo_behind k_1032 (show 0 < 12 by omega) (m_0 Z _) rfl (As := [.int (nI (pI p 5)), .int (nI m)]) ⟨Nat.le_of_ble_eq_true rfl, Nat.le_of_ble_eq_true rfl⟩ rfl rfl (Nat.le_of_ble_eq_true rfl) d_Mo_firstFor_57 (fun u_ hu_ => ?_)
              obtain ⟨ρ_8, rfl⟩ := hu_
              refine x_eqg (g' := va_up (va_up g 0 (upd (upd (g 0) a (nI 9)) a (nI 8))) 2 ρ_8) (by rw [va_com (a := 2) (b := 0) (by decide), bx_uu]) ?_
              refine x_iload C d_Mo_firstFor_60 9 rfl ?_
              refine x_icmp_lt C d_Mo_firstFor_62 70 (by decide) (fun c_9 => ?_) (fun c_9 => ?_)
              · have nc_9 := Int32.not_le.mpr c_9
                refine x_iconst C d_Mo_firstFor_70 (v := -1) (by decide) ?_
                refine x_istore C d_Mo_firstFor_71 (by decide) (lv' := [(9, .int ((-1))), (10, .int (nI 8)), (8, .int ((-1))), (7, .int (g 0 a)), (0, .ref (Z.2.1 (0))), (1, .int (nI a)), (2, .int (9)), (3, .int (0)), (4, .int (nI p)), (5, .int (v)), (6, .int (nI m))]) rfl ?_
                refine x_iload C d_Mo_firstFor_73 1 rfl ?_
                refine x_iload C d_Mo_firstFor_75 2 rfl ?_
                refine x_iadd C d_Mo_firstFor_77 ?_
                refine x_topi (x' := nI 7) (by decide) ?_
                refine x_istore C d_Mo_firstFor_78 (by decide) (lv' := [(10, .int (nI 7)), (9, .int ((-1))), (8, .int ((-1))), (7, .int (g 0 a)), (0, .ref (Z.2.1 (0))), (1, .int (nI a)), (2, .int (9)), (3, .int (0)), (4, .int (nI p)), (5, .int (v)), (6, .int (nI m))]) rfl ?_
                refine x_goto C d_Mo_firstFor_80 26 (by decide) ?_
                refine x_iload C d_Mo_firstFor_26 0 rfl ?_
                refine x_iload_n C d_Mo_firstFor_28 7 rfl rfl ?_
                refine x_iload C d_Mo_firstFor_29 2 rfl ?_
                refine x_iadd C d_Mo_firstFor_31 ?_
                refine x_topi (x' := (-1)) (by decide) ?_
                refine x_icmp_eq C d_Mo_firstFor_32 83 (by decide) (fun c_10 => ?_) (fun c_10 => ?_)
                · exact absurd c_10 (by decide)
                · have nc_10 := Ne.symm c_10
                  refine x_iload C d_Mo_firstFor_35 1 rfl ?_
                  refine x_ifge C d_Mo_firstFor_37 83 (by decide) (fun c_11 => ?_) (fun c_11 => ?_)
                  · exact absurd c_11 (by decide)
                  · have nc_11 := Int32.not_le.mp c_11
                    refine x_aload_n C d_Mo_firstFor_40 4 rfl rfl ?_
                    refine gf_Mo_now C k_791 d_Mo_firstFor_41 ?_
                    refine x_iload_n C d_Mo_firstFor_44 5 rfl rfl ?_
                    refine x_iload C d_Mo_firstFor_45 0 rfl ?_
                    refine as_m_now C a (v := nI 7) rfl (by first | omega | (simp only [pI]; omega)) (G := va_up (va_up g 2 ρ_8) 0 (upd (upd (upd (g 0) a (nI 9)) a (nI 8)) a (nI 7))) (up_vb (by omega)) d_Mo_firstFor_47 ?_
                    refine x_aload_n C d_Mo_firstFor_48 4 rfl rfl ?_
                    refine x_iload C d_Mo_firstFor_49 8 rfl ?_
                    refine x_iconst C d_Mo_firstFor_51 (v := 5) (by decide) ?_
                    refine x_callSi C (c_Mo_personAt Z p 5 (va_up (va_up g 2 ρ_8) 0 (upd (upd (upd (g 0) a (nI 9)) a (nI 8)) a (nI 7)))) mi_Mo_personAt k_897 (As := [.int (nI p), .int (5)]) ⟨Nat.le_of_ble_eq_true rfl, Nat.le_of_ble_eq_true rfl⟩ rfl rfl (Nat.le_of_ble_eq_true rfl) d_Mo_firstFor_52 ?_
                    refine x_iload C d_Mo_firstFor_55 10 rfl ?_
                    refine x_callVki C (c_Mo_behind Z (pI p 5) m (by first | omega | (simp only [pI]; omega)) (by omega) (va_up (va_up g 2 ρ_8) 0 (upd (upd (upd (g 0) a (nI 9)) a (nI 8)) a (nI 7))) _ (Eq.trans (Eq.trans (va_up_self _ _ _) upd_upd) upd_upd) (okR_upd hk0 (by omega))) mi_Mo_behind k_1032 (show 0 < 12 by omega) (m_0 Z _) rfl (As := [.int (nI (pI p 5)), .int (nI m)]) ⟨Nat.le_of_ble_eq_true rfl, Nat.le_of_ble_eq_true rfl⟩ rfl rfl (Nat.le_of_ble_eq_true rfl) d_Mo_firstFor_57 (fun u_ hu_ => ?_)
                    obtain ⟨ρ_12, rfl⟩ := hu_
                    refine x_eqg (g' := va_up (va_up g 0 (upd (upd (upd (g 0) a (nI 9)) a (nI 8)) a (nI 7))) 2 ρ_12) (by rw [va_com (a := 2) (b := 0) (by decide), bx_uu]) ?_
                    refine x_iload C d_Mo_firstFor_60 9 rfl ?_
                    refine x_icmp_lt C d_Mo_firstFor_62 70 (by decide) (fun c_13 => ?_) (fun c_13 => ?_)
                    · have nc_13 := Int32.not_le.mpr c_13
                      refine x_iconst C d_Mo_firstFor_70 (v := -1) (by decide) ?_
                      refine x_istore C d_Mo_firstFor_71 (by decide) (lv' := [(9, .int ((-1))), (10, .int (nI 7)), (8, .int ((-1))), (7, .int (g 0 a)), (0, .ref (Z.2.1 (0))), (1, .int (nI a)), (2, .int (9)), (3, .int (0)), (4, .int (nI p)), (5, .int (v)), (6, .int (nI m))]) rfl ?_
                      refine x_iload C d_Mo_firstFor_73 1 rfl ?_
                      refine x_iload C d_Mo_firstFor_75 2 rfl ?_
                      refine x_iadd C d_Mo_firstFor_77 ?_
                      refine x_topi (x' := nI 6) (by decide) ?_
                      refine x_istore C d_Mo_firstFor_78 (by decide) (lv' := [(10, .int (nI 6)), (9, .int ((-1))), (8, .int ((-1))), (7, .int (g 0 a)), (0, .ref (Z.2.1 (0))), (1, .int (nI a)), (2, .int (9)), (3, .int (0)), (4, .int (nI p)), (5, .int (v)), (6, .int (nI m))]) rfl ?_
                      refine x_goto C d_Mo_firstFor_80 26 (by decide) ?_
                      refine x_iload C d_Mo_firstFor_26 0 rfl ?_
                      refine x_iload_n C d_Mo_firstFor_28 7 rfl rfl ?_
                      refine x_iload C d_Mo_firstFor_29 2 rfl ?_
                      refine x_iadd C d_Mo_firstFor_31 ?_
                      refine x_topi (x' := (-1)) (by decide) ?_
                      refine x_icmp_eq C d_Mo_firstFor_32 83 (by decide) (fun c_14 => ?_) (fun c_14 => ?_)
                      · exact absurd c_14 (by decide)
                      · have nc_14 := Ne.symm c_14
                        refine x_iload C d_Mo_firstFor_35 1 rfl ?_
                        refine x_ifge C d_Mo_firstFor_37 83 (by decide) (fun c_15 => ?_) (fun c_15 => ?_)
                        · exact absurd c_15 (by decide)
                        · have nc_15 := Int32.not_le.mp c_15
                          refine x_aload_n C d_Mo_firstFor_40 4 rfl rfl ?_
                          refine gf_Mo_now C k_791 d_Mo_firstFor_41 ?_
                          refine x_iload_n C d_Mo_firstFor_44 5 rfl rfl ?_
                          refine x_iload C d_Mo_firstFor_45 0 rfl ?_
                          refine as_m_now C a (v := nI 6) rfl (by first | omega | (simp only [pI]; omega)) (G := va_up (va_up g 2 ρ_12) 0 (upd (upd (upd (upd (g 0) a (nI 9)) a (nI 8)) a (nI 7)) a (nI 6))) (up_vb (by omega)) d_Mo_firstFor_47 ?_
                          refine x_aload_n C d_Mo_firstFor_48 4 rfl rfl ?_
                          refine x_iload C d_Mo_firstFor_49 8 rfl ?_
                          refine x_iconst C d_Mo_firstFor_51 (v := 5) (by decide) ?_
                          refine x_callSi C (c_Mo_personAt Z p 5 (va_up (va_up g 2 ρ_12) 0 (upd (upd (upd (upd (g 0) a (nI 9)) a (nI 8)) a (nI 7)) a (nI 6)))) mi_Mo_personAt k_897 (As := [.int (nI p), .int (5)]) ⟨Nat.le_of_ble_eq_true rfl, Nat.le_of_ble_eq_true rfl⟩ rfl rfl (Nat.le_of_ble_eq_true rfl) d_Mo_firstFor_52 ?_
                          refine x_iload C d_Mo_firstFor_55 10 rfl ?_
                          refine x_callVki C (c_Mo_behind Z (pI p 5) m (by first | omega | (simp only [pI]; omega)) (by omega) (va_up (va_up g 2 ρ_12) 0 (upd (upd (upd (upd (g 0) a (nI 9)) a (nI 8)) a (nI 7)) a (nI 6))) _ (Eq.trans (Eq.trans (Eq.trans (va_up_self _ _ _) upd_upd) upd_upd) upd_upd) (okR_upd hk0 (by omega))) mi_Mo_behind k_1032 (show 0 < 12 by omega) (m_0 Z _) rfl (As := [.int (nI (pI p 5)), .int (nI m)]) ⟨Nat.le_of_ble_eq_true rfl, Nat.le_of_ble_eq_true rfl⟩ rfl rfl (Nat.le_of_ble_eq_true rfl) d_Mo_firstFor_57 (fun u_ hu_ => ?_)
                          obtain ⟨ρ_16, rfl⟩ := hu_
                          refine x_eqg (g' := va_up (va_up g 0 (upd (upd (upd (upd (g 0) a (nI 9)) a (nI 8)) a (nI 7)) a (nI 6))) 2 ρ_16) (by rw [va_com (a := 2) (b := 0) (by decide), bx_uu]) ?_
                          refine x_iload C d_Mo_firstFor_60 9 rfl ?_
                          refine x_icmp_lt C d_Mo_firstFor_62 70 (by decide) (fun c_17 => ?_) (fun c_17 => ?_)
                          · have nc_17 := Int32.not_le.mpr c_17
                            refine x_iconst C d_Mo_firstFor_70 (v := -1) (by decide) ?_
                            refine x_istore C d_Mo_firstFor_71 (by decide) (lv' := [(9, .int ((-1))), (10, .int (nI 6)), (8, .int ((-1))), (7, .int (g 0 a)), (0, .ref (Z.2.1 (0))), (1, .int (nI a)), (2, .int (9)), (3, .int (0)), (4, .int (nI p)), (5, .int (v)), (6, .int (nI m))]) rfl ?_
                            refine x_iload C d_Mo_firstFor_73 1 rfl ?_
                            refine x_iload C d_Mo_firstFor_75 2 rfl ?_
                            refine x_iadd C d_Mo_firstFor_77 ?_
                            refine x_topi (x' := nI 5) (by decide) ?_
                            refine x_istore C d_Mo_firstFor_78 (by decide) (lv' := [(10, .int (nI 5)), (9, .int ((-1))), (8, .int ((-1))), (7, .int (g 0 a)), (0, .ref (Z.2.1 (0))), (1, .int (nI a)), (2, .int (9)), (3, .int (0)), (4, .int (nI p)), (5, .int (v)), (6, .int (nI m))]) rfl ?_
                            refine x_goto C d_Mo_firstFor_80 26 (by decide) ?_
                            refine x_iload C d_Mo_firstFor_26 0 rfl ?_
                            refine x_iload_n C d_Mo_firstFor_28 7 rfl rfl ?_
                            refine x_iload C d_Mo_firstFor_29 2 rfl ?_
                            refine x_iadd C d_Mo_firstFor_31 ?_
                            refine x_topi (x' := (-1)) (by decide) ?_
                            refine x_icmp_eq C d_Mo_firstFor_32 83 (by decide) (fun c_18 => ?_) (fun c_18 => ?_)
                            · exact absurd c_18 (by decide)
                            · have nc_18 := Ne.symm c_18
                              refine x_iload C d_Mo_firstFor_35 1 rfl ?_
                              refine x_ifge C d_Mo_firstFor_37 83 (by decide) (fun c_19 => ?_) (fun c_19 => ?_)
                              · exact absurd c_19 (by decide)
                              · have nc_19 := Int32.not_le.mp c_19
                                refine x_aload_n C d_Mo_firstFor_40 4 rfl rfl ?_
                                refine gf_Mo_now C k_791 d_Mo_firstFor_41 ?_
                                refine x_iload_n C d_Mo_firstFor_44 5 rfl rfl ?_
                                refine x_iload C d_Mo_firstFor_45 0 rfl ?_
                                refine as_m_now C a (v := nI 5) rfl (by first | omega | (simp only [pI]; omega)) (G := va_up (va_up g 2 ρ_16) 0 (upd (upd (upd (upd (upd (g 0) a (nI 9)) a (nI 8)) a (nI 7)) a (nI 6)) a (nI 5))) (up_vb (by omega)) d_Mo_firstFor_47 ?_
                                refine x_aload_n C d_Mo_firstFor_48 4 rfl rfl ?_
                                refine x_iload C d_Mo_firstFor_49 8 rfl ?_
                                refine x_iconst C d_Mo_firstFor_51 (v := 5) (by decide) ?_
                                refine x_callSi C (c_Mo_personAt Z p 5 (va_up (va_up g 2 ρ_16) 0 (upd (upd (upd (upd (upd (g 0) a (nI 9)) a (nI 8)) a (nI 7)) a (nI 6)) a (nI 5)))) mi_Mo_personAt k_897 (As := [.int (nI p), .int (5)]) ⟨Nat.le_of_ble_eq_true rfl, Nat.le_of_ble_eq_true rfl⟩ rfl rfl (Nat.le_of_ble_eq_true rfl) d_Mo_firstFor_52 ?_
                                refine x_iload C d_Mo_firstFor_55 10 rfl ?_
                                refine x_callVki C (c_Mo_behind Z (pI p 5) m (by first | omega | (simp only [pI]; omega)) (by omega) (va_up (va_up g 2 ρ_16) 0 (upd (upd (upd (upd (upd (g 0) a (nI 9)) a (nI 8)) a (nI 7)) a (nI 6)) a (nI 5))) _ (Eq.trans (Eq.trans (Eq.trans (Eq.trans (va_up_self _ _ _) upd_upd) upd_upd) upd_upd) upd_upd) (okR_upd hk0 (by omega))) mi_Mo_behind k_1032 (show 0 < 12 by omega) (m_0 Z _) rfl (As := [.int (nI (pI p 5)), .int (nI m)]) ⟨Nat.le_of_ble_eq_true rfl, Nat.le_of_ble_eq_true rfl⟩ rfl rfl (Nat.le_of_ble_eq_true rfl) d_Mo_firstFor_57 (fun u_ hu_ => ?_)
                                obtain ⟨ρ_20, rfl⟩ := hu_
                                refine x_eqg (g' := va_up (va_up g 0 (upd (upd (upd (upd (upd (g 0) a (nI 9)) a (nI 8)) a (nI 7)) a (nI 6)) a (nI 5))) 2 ρ_20) (by rw [va_com (a := 2) (b := 0) (by decide), bx_uu]) ?_
                                refine x_iload C d_Mo_firstFor_60 9 rfl ?_
                                refine x_icmp_lt C d_Mo_firstFor_62 70 (by decide) (fun c_21 => ?_) (fun c_21 => ?_)
                                · have nc_21 := Int32.not_le.mpr c_21
                                  refine x_iconst C d_Mo_firstFor_70 (v := -1) (by decide) ?_
                                  refine x_istore C d_Mo_firstFor_71 (by decide) (lv' := [(9, .int ((-1))), (10, .int (nI 5)), (8, .int ((-1))), (7, .int (g 0 a)), (0, .ref (Z.2.1 (0))), (1, .int (nI a)), (2, .int (9)), (3, .int (0)), (4, .int (nI p)), (5, .int (v)), (6, .int (nI m))]) rfl ?_
                                  refine x_iload C d_Mo_firstFor_73 1 rfl ?_
                                  refine x_iload C d_Mo_firstFor_75 2 rfl ?_
                                  refine x_iadd C d_Mo_firstFor_77 ?_
                                  refine x_topi (x' := nI 4) (by decide) ?_
                                  refine x_istore C d_Mo_firstFor_78 (by decide) (lv' := [(10, .int (nI 4)), (9, .int ((-1))), (8, .int ((-1))), (7, .int (g 0 a)), (0, .ref (Z.2.1 (0))), (1, .int (nI a)), (2, .int (9)), (3, .int (0)), (4, .int (nI p)), (5, .int (v)), (6, .int (nI m))]) rfl ?_
                                  refine x_goto C d_Mo_firstFor_80 26 (by decide) ?_
                                  refine x_iload C d_Mo_firstFor_26 0 rfl ?_
                                  refine x_iload_n C d_Mo_firstFor_28 7 rfl rfl ?_
                                  refine x_iload C d_Mo_firstFor_29 2 rfl ?_
                                  refine x_iadd C d_Mo_firstFor_31 ?_
                                  refine x_topi (x' := (-1)) (by decide) ?_
                                  refine x_icmp_eq C d_Mo_firstFor_32 83 (by decide) (fun c_22 => ?_) (fun c_22 => ?_)
                                  · exact absurd c_22 (by decide)
                                  · have nc_22 := Ne.symm c_22
                                    refine x_iload C d_Mo_firstFor_35 1 rfl ?_
                                    refine x_ifge C d_Mo_firstFor_37 83 (by decide) (fun c_23 => ?_) (fun c_23 => ?_)
                                    · exact absurd c_23 (by decide)
                                    · have nc_23 := Int32.not_le.mp c_23
                                      refine x_aload_n C d_Mo_firstFor_40 4 rfl rfl ?_
                                      refine gf_Mo_now C k_791 d_Mo_firstFor_41 ?_
                                      refine x_iload_n C d_Mo_firstFor_44 5 rfl rfl ?_
                                      refine x_iload C d_Mo_firstFor_45 0 rfl ?_
                                      refine as_m_now C a (v := nI 4) rfl (by first | omega | (simp only [pI]; omega)) (G := va_up (va_up g 2 ρ_20) 0 (upd (upd (upd (upd (upd (upd (g 0) a (nI 9)) a (nI 8)) a (nI 7)) a (nI 6)) a (nI 5)) a (nI 4))) (up_vb (by omega)) d_Mo_firstFor_47 ?_
                                      refine x_aload_n C d_Mo_firstFor_48 4 rfl rfl ?_
                                      refine x_iload C d_Mo_firstFor_49 8 rfl ?_
                                      refine x_iconst C d_Mo_firstFor_51 (v := 5) (by decide) ?_
                                      refine x_callSi C (c_Mo_personAt Z p 5 (va_up (va_up g 2 ρ_20) 0 (upd (upd (upd (upd (upd (upd (g 0) a (nI 9)) a (nI 8)) a (nI 7)) a (nI 6)) a (nI 5)) a (nI 4)))) mi_Mo_personAt k_897 (As := [.int (nI p), .int (5)]) ⟨Nat.le_of_ble_eq_true rfl, Nat.le_of_ble_eq_true rfl⟩ rfl rfl (Nat.le_of_ble_eq_true rfl) d_Mo_firstFor_52 ?_
                                      refine x_iload C d_Mo_firstFor_55 10 rfl ?_
                                      refine x_callVki C (c_Mo_behind Z (pI p 5) m (by first | omega | (simp only [pI]; omega)) (by omega) (va_up (va_up g 2 ρ_20) 0 (upd (upd (upd (upd (upd (upd (g 0) a (nI 9)) a (nI 8)) a (nI 7)) a (nI 6)) a (nI 5)) a (nI 4))) _ (Eq.trans (Eq.trans (Eq.trans (Eq.trans (Eq.trans (va_up_self _ _ _) upd_upd) upd_upd) upd_upd) upd_upd) upd_upd) (okR_upd hk0 (by omega))) mi_Mo_behind k_1032 (show 0 < 12 by omega) (m_0 Z _) rfl (As := [.int (nI (pI p 5)), .int (nI m)]) ⟨Nat.le_of_ble_eq_true rfl, Nat.le_of_ble_eq_true rfl⟩ rfl rfl (Nat.le_of_ble_eq_true rfl) d_Mo_firstFor_57 (fun u_ hu_ => ?_)
                                      obtain ⟨ρ_24, rfl⟩ := hu_
                                      refine x_eqg (g' := va_up (va_up g 0 (upd (upd (upd (upd (upd (upd (g 0) a (nI 9)) a (nI 8)) a (nI 7)) a (nI 6)) a (nI 5)) a (nI 4))) 2 ρ_24) (by rw [va_com (a := 2) (b := 0) (by decide), bx_uu]) ?_
                                      refine x_iload C d_Mo_firstFor_60 9 rfl ?_
                                      refine x_icmp_lt C d_Mo_firstFor_62 70 (by decide) (fun c_25 => ?_) (fun c_25 => ?_)
                                      · have nc_25 := Int32.not_le.mpr c_25
                                        refine x_iconst C d_Mo_firstFor_70 (v := -1) (by decide) ?_
                                        refine x_istore C d_Mo_firstFor_71 (by decide) (lv' := [(9, .int ((-1))), (10, .int (nI 4)), (8, .int ((-1))), (7, .int (g 0 a)), (0, .ref (Z.2.1 (0))), (1, .int (nI a)), (2, .int (9)), (3, .int (0)), (4, .int (nI p)), (5, .int (v)), (6, .int (nI m))]) rfl ?_
                                        refine x_iload C d_Mo_firstFor_73 1 rfl ?_
                                        refine x_iload C d_Mo_firstFor_75 2 rfl ?_
                                        refine x_iadd C d_Mo_firstFor_77 ?_
                                        refine x_topi (x' := nI 3) (by decide) ?_
                                        refine x_istore C d_Mo_firstFor_78 (by decide) (lv' := [(10, .int (nI 3)), (9, .int ((-1))), (8, .int ((-1))), (7, .int (g 0 a)), (0, .ref (Z.2.1 (0))), (1, .int (nI a)), (2, .int (9)), (3, .int (0)), (4, .int (nI p)), (5, .int (v)), (6, .int (nI m))]) rfl ?_
                                        refine x_goto C d_Mo_firstFor_80 26 (by decide) ?_
                                        refine x_iload C d_Mo_firstFor_26 0 rfl ?_
                                        refine x_iload_n C d_Mo_firstFor_28 7 rfl rfl ?_
                                        refine x_iload C d_Mo_firstFor_29 2 rfl ?_
                                        refine x_iadd C d_Mo_firstFor_31 ?_
                                        refine x_topi (x' := (-1)) (by decide) ?_
                                        refine x_icmp_eq C d_Mo_firstFor_32 83 (by decide) (fun c_26 => ?_) (fun c_26 => ?_)
                                        · exact absurd c_26 (by decide)
                                        · have nc_26 := Ne.symm c_26
                                          refine x_iload C d_Mo_firstFor_35 1 rfl ?_
                                          refine x_ifge C d_Mo_firstFor_37 83 (by decide) (fun c_27 => ?_) (fun c_27 => ?_)
                                          · exact absurd c_27 (by decide)
                                          · have nc_27 := Int32.not_le.mp c_27
                                            refine x_aload_n C d_Mo_firstFor_40 4 rfl rfl ?_
                                            refine gf_Mo_now C k_791 d_Mo_firstFor_41 ?_
                                            refine x_iload_n C d_Mo_firstFor_44 5 rfl rfl ?_
                                            refine x_iload C d_Mo_firstFor_45 0 rfl ?_
                                            refine as_m_now C a (v := nI 3) rfl (by first | omega | (simp only [pI]; omega)) (G := va_up (va_up g 2 ρ_24) 0 (upd (upd (upd (upd (upd (upd (upd (g 0) a (nI 9)) a (nI 8)) a (nI 7)) a (nI 6)) a (nI 5)) a (nI 4)) a (nI 3))) (up_vb (by omega)) d_Mo_firstFor_47 ?_
                                            refine x_aload_n C d_Mo_firstFor_48 4 rfl rfl ?_
                                            refine x_iload C d_Mo_firstFor_49 8 rfl ?_
                                            refine x_iconst C d_Mo_firstFor_51 (v := 5) (by decide) ?_
                                            refine x_callSi C (c_Mo_personAt Z p 5 (va_up (va_up g 2 ρ_24) 0 (upd (upd (upd (upd (upd (upd (upd (g 0) a (nI 9)) a (nI 8)) a (nI 7)) a (nI 6)) a (nI 5)) a (nI 4)) a (nI 3)))) mi_Mo_personAt k_897 (As := [.int (nI p), .int (5)]) ⟨Nat.le_of_ble_eq_true rfl, Nat.le_of_ble_eq_true rfl⟩ rfl rfl (Nat.le_of_ble_eq_true rfl) d_Mo_firstFor_52 ?_
                                            refine x_iload C d_Mo_firstFor_55 10 rfl ?_
                                            refine x_callVki C (c_Mo_behind Z (pI p 5) m (by first | omega | (simp only [pI]; omega)) (by omega) (va_up (va_up g 2 ρ_24) 0 (upd (upd (upd (upd (upd (upd (upd (g 0) a (nI 9)) a (nI 8)) a (nI 7)) a (nI 6)) a (nI 5)) a (nI 4)) a (nI 3))) _ (Eq.trans (Eq.trans (Eq.trans (Eq.trans (Eq.trans (Eq.trans (va_up_self _ _ _) upd_upd) upd_upd) upd_upd) upd_upd) upd_upd) upd_upd) (okR_upd hk0 (by omega))) mi_Mo_behind k_1032 (show 0 < 12 by omega) (m_0 Z _) rfl (As := [.int (nI (pI p 5)), .int (nI m)]) ⟨Nat.le_of_ble_eq_true rfl, Nat.le_of_ble_eq_true rfl⟩ rfl rfl (Nat.le_of_ble_eq_true rfl) d_Mo_firstFor_57 (fun u_ hu_ => ?_)
                                            obtain ⟨ρ_28, rfl⟩ := hu_
                                            refine x_eqg (g' := va_up (va_up g 0 (upd (upd (upd (upd (upd (upd (upd (g 0) a (nI 9)) a (nI 8)) a (nI 7)) a (nI 6)) a (nI 5)) a (nI 4)) a (nI 3))) 2 ρ_28) (by rw [va_com (a := 2) (b := 0) (by decide), bx_uu]) ?_
                                            refine x_iload C d_Mo_firstFor_60 9 rfl ?_
                                            refine x_icmp_lt C d_Mo_firstFor_62 70 (by decide) (fun c_29 => ?_) (fun c_29 => ?_)
                                            · have nc_29 := Int32.not_le.mpr c_29
                                              refine x_iconst C d_Mo_firstFor_70 (v := -1) (by decide) ?_
                                              refine x_istore C d_Mo_firstFor_71 (by decide) (lv' := [(9, .int ((-1))), (10, .int (nI 3)), (8, .int ((-1))), (7, .int (g 0 a)), (0, .ref (Z.2.1 (0))), (1, .int (nI a)), (2, .int (9)), (3, .int (0)), (4, .int (nI p)), (5, .int (v)), (6, .int (nI m))]) rfl ?_
                                              refine x_iload C d_Mo_firstFor_73 1 rfl ?_
                                              refine x_iload C d_Mo_firstFor_75 2 rfl ?_
                                              refine x_iadd C d_Mo_firstFor_77 ?_
                                              refine x_topi (x' := nI 2) (by decide) ?_
                                              refine x_istore C d_Mo_firstFor_78 (by decide) (lv' := [(10, .int (nI 2)), (9, .int ((-1))), (8, .int ((-1))), (7, .int (g 0 a)), (0, .ref (Z.2.1 (0))), (1, .int (nI a)), (2, .int (9)), (3, .int (0)), (4, .int (nI p)), (5, .int (v)), (6, .int (nI m))]) rfl ?_
                                              refine x_goto C d_Mo_firstFor_80 26 (by decide) ?_
                                              refine x_iload C d_Mo_firstFor_26 0 rfl ?_
                                              refine x_iload_n C d_Mo_firstFor_28 7 rfl rfl ?_
                                              refine x_iload C d_Mo_firstFor_29 2 rfl ?_
                                              refine x_iadd C d_Mo_firstFor_31 ?_
                                              refine x_topi (x' := (-1)) (by decide) ?_
                                              refine x_icmp_eq C d_Mo_firstFor_32 83 (by decide) (fun c_30 => ?_) (fun c_30 => ?_)
                                              · exact absurd c_30 (by decide)
                                              · have nc_30 := Ne.symm c_30
                                                refine x_iload C d_Mo_firstFor_35 1 rfl ?_
                                                refine x_ifge C d_Mo_firstFor_37 83 (by decide) (fun c_31 => ?_) (fun c_31 => ?_)
                                                · exact absurd c_31 (by decide)
                                                · have nc_31 := Int32.not_le.mp c_31
                                                  refine x_aload_n C d_Mo_firstFor_40 4 rfl rfl ?_
                                                  refine gf_Mo_now C k_791 d_Mo_firstFor_41 ?_
                                                  refine x_iload_n C d_Mo_firstFor_44 5 rfl rfl ?_
                                                  refine x_iload C d_Mo_firstFor_45 0 rfl ?_
                                                  refine as_m_now C a (v := nI 2) rfl (by first | omega | (simp only [pI]; omega)) (G := va_up (va_up g 2 ρ_28) 0 (upd (upd (upd (upd (upd (upd (upd (upd (g 0) a (nI 9)) a (nI 8)) a (nI 7)) a (nI 6)) a (nI 5)) a (nI 4)) a (nI 3)) a (nI 2))) (up_vb (by omega)) d_Mo_firstFor_47 ?_
                                                  refine x_aload_n C d_Mo_firstFor_48 4 rfl rfl ?_
                                                  refine x_iload C d_Mo_firstFor_49 8 rfl ?_
                                                  refine x_iconst C d_Mo_firstFor_51 (v := 5) (by decide) ?_
                                                  refine x_callSi C (c_Mo_personAt Z p 5 (va_up (va_up g 2 ρ_28) 0 (upd (upd (upd (upd (upd (upd (upd (upd (g 0) a (nI 9)) a (nI 8)) a (nI 7)) a (nI 6)) a (nI 5)) a (nI 4)) a (nI 3)) a (nI 2)))) mi_Mo_personAt k_897 (As := [.int (nI p), .int (5)]) ⟨Nat.le_of_ble_eq_true rfl, Nat.le_of_ble_eq_true rfl⟩ rfl rfl (Nat.le_of_ble_eq_true rfl) d_Mo_firstFor_52 ?_
                                                  refine x_iload C d_Mo_firstFor_55 10 rfl ?_
                                                  refine x_callVki C (c_Mo_behind Z (pI p 5) m (by first | omega | (simp only [pI]; omega)) (by omega) (va_up (va_up g 2 ρ_28) 0 (upd (upd (upd (upd (upd (upd (upd (upd (g 0) a (nI 9)) a (nI 8)) a (nI 7)) a (nI 6)) a (nI 5)) a (nI 4)) a (nI 3)) a (nI 2))) _ (Eq.trans (Eq.trans (Eq.trans (Eq.trans (Eq.trans (Eq.trans (Eq.trans (va_up_self _ _ _) upd_upd) upd_upd) upd_upd) upd_upd) upd_upd) upd_upd) upd_upd) (okR_upd hk0 (by omega))) mi_Mo_behind k_1032 (show 0 < 12 by omega) (m_0 Z _) rfl (As := [.int (nI (pI p 5)), .int (nI m)]) ⟨Nat.le_of_ble_eq_true rfl, Nat.le_of_ble_eq_true rfl⟩ rfl rfl (Nat.le_of_ble_eq_true rfl) d_Mo_firstFor_57 (fun u_ hu_ => ?_)
                                                  obtain ⟨ρ_32, rfl⟩ := hu_
                                                  refine x_eqg (g' := va_up (va_up g 0 (upd (upd (upd (upd (upd (upd (upd (upd (g 0) a (nI 9)) a (nI 8)) a (nI 7)) a (nI 6)) a (nI 5)) a (nI 4)) a (nI 3)) a (nI 2))) 2 ρ_32) (by rw [va_com (a := 2) (b := 0) (by decide), bx_uu]) ?_
                                                  refine x_iload C d_Mo_firstFor_60 9 rfl ?_
                                                  refine x_icmp_lt C d_Mo_firstFor_62 70 (by decide) (fun c_33 => ?_) (fun c_33 => ?_)
                                                  · have nc_33 := Int32.not_le.mpr c_33
                                                    refine x_iconst C d_Mo_firstFor_70 (v := -1) (by decide) ?_
                                                    refine x_istore C d_Mo_firstFor_71 (by decide) (lv' := [(9, .int ((-1))), (10, .int (nI 2)), (8, .int ((-1))), (7, .int (g 0 a)), (0, .ref (Z.2.1 (0))), (1, .int (nI a)), (2, .int (9)), (3, .int (0)), (4, .int (nI p)), (5, .int (v)), (6, .int (nI m))]) rfl ?_
                                                    refine x_iload C d_Mo_firstFor_73 1 rfl ?_
                                                    refine x_iload C d_Mo_firstFor_75 2 rfl ?_
                                                    refine x_iadd C d_Mo_firstFor_77 ?_
                                                    refine x_topi (x' := nI 1) (by decide) ?_
                                                    refine x_istore C d_Mo_firstFor_78 (by decide) (lv' := [(10, .int (nI 1)), (9, .int ((-1))), (8, .int ((-1))), (7, .int (g 0 a)), (0, .ref (Z.2.1 (0))), (1, .int (nI a)), (2, .int (9)), (3, .int (0)), (4, .int (nI p)), (5, .int (v)), (6, .int (nI m))]) rfl ?_
                                                    refine x_goto C d_Mo_firstFor_80 26 (by decide) ?_
                                                    refine x_iload C d_Mo_firstFor_26 0 rfl ?_
                                                    refine x_iload_n C d_Mo_firstFor_28 7 rfl rfl ?_
                                                    refine x_iload C d_Mo_firstFor_29 2 rfl ?_
                                                    refine x_iadd C d_Mo_firstFor_31 ?_
                                                    refine x_topi (x' := (-1)) (by decide) ?_
                                                    refine x_icmp_eq C d_Mo_firstFor_32 83 (by decide) (fun c_34 => ?_) (fun c_34 => ?_)
                                                    · exact absurd c_34 (by decide)
                                                    · have nc_34 := Ne.symm c_34
                                                      refine x_iload C d_Mo_firstFor_35 1 rfl ?_
                                                      refine x_ifge C d_Mo_firstFor_37 83 (by decide) (fun c_35 => ?_) (fun c_35 => ?_)
                                                      · exact absurd c_35 (by decide)
                                                      · have nc_35 := Int32.not_le.mp c_35
                                                        refine x_aload_n C d_Mo_firstFor_40 4 rfl rfl ?_
                                                        refine gf_Mo_now C k_791 d_Mo_firstFor_41 ?_
                                                        refine x_iload_n C d_Mo_firstFor_44 5 rfl rfl ?_
                                                        refine x_iload C d_Mo_firstFor_45 0 rfl ?_
                                                        refine as_m_now C a (v := nI 1) rfl (by first | omega | (simp only [pI]; omega)) (G := va_up (va_up g 2 ρ_32) 0 (upd (upd (upd (upd (upd (upd (upd (upd (upd (g 0) a (nI 9)) a (nI 8)) a (nI 7)) a (nI 6)) a (nI 5)) a (nI 4)) a (nI 3)) a (nI 2)) a (nI 1))) (up_vb (by omega)) d_Mo_firstFor_47 ?_
                                                        refine x_aload_n C d_Mo_firstFor_48 4 rfl rfl ?_
                                                        refine x_iload C d_Mo_firstFor_49 8 rfl ?_
                                                        refine x_iconst C d_Mo_firstFor_51 (v := 5) (by decide) ?_
                                                        refine x_callSi C (c_Mo_personAt Z p 5 (va_up (va_up g 2 ρ_32) 0 (upd (upd (upd (upd (upd (upd (upd (upd (upd (g 0) a (nI 9)) a (nI 8)) a (nI 7)) a (nI 6)) a (nI 5)) a (nI 4)) a (nI 3)) a (nI 2)) a (nI 1)))) mi_Mo_personAt k_897 (As := [.int (nI p), .int (5)]) ⟨Nat.le_of_ble_eq_true rfl, Nat.le_of_ble_eq_true rfl⟩ rfl rfl (Nat.le_of_ble_eq_true rfl) d_Mo_firstFor_52 ?_
                                                        refine x_iload C d_Mo_firstFor_55 10 rfl ?_
                                                        refine x_callVki C (c_Mo_behind Z (pI p 5) m (by first | omega | (simp only [pI]; omega)) (by omega) (va_up (va_up g 2 ρ_32) 0 (upd (upd (upd (upd (upd (upd (upd (upd (upd (g 0) a (nI 9)) a (nI 8)) a (nI 7)) a (nI 6)) a (nI 5)) a (nI 4)) a (nI 3)) a (nI 2)) a (nI 1))) _ (Eq.trans (Eq.trans (Eq.trans (Eq.trans (Eq.trans (Eq.trans (Eq.trans (Eq.trans (va_up_self _ _ _) upd_upd) upd_upd) upd_upd) upd_upd) upd_upd) upd_upd) upd_upd) upd_upd) (okR_upd hk0 (by omega))) mi_Mo_behind k_1032 (show 0 < 12 by omega) (m_0 Z _) rfl (As := [.int (nI (pI p 5)), .int (nI m)]) ⟨Nat.le_of_ble_eq_true rfl, Nat.le_of_ble_eq_true rfl⟩ rfl rfl (Nat.le_of_ble_eq_true rfl) d_Mo_firstFor_57 (fun u_ hu_ => ?_)
                                                        obtain ⟨ρ_36, rfl⟩ := hu_
                                                        refine x_eqg (g' := va_up (va_up g 0 (upd (upd (upd (upd (upd (upd (upd (upd (upd (g 0) a (nI 9)) a (nI 8)) a (nI 7)) a (nI 6)) a (nI 5)) a (nI 4)) a (nI 3)) a (nI 2)) a (nI 1))) 2 ρ_36) (by rw [va_com (a := 2) (b := 0) (by decide), bx_uu]) ?_
                                                        refine x_iload C d_Mo_firstFor_60 9 rfl ?_
                                                        refine x_icmp_lt C d_Mo_firstFor_62 70 (by decide) (fun c_37 => ?_) (fun c_37 => ?_)
                                                        · have nc_37 := Int32.not_le.mpr c_37
                                                          refine x_iconst C d_Mo_firstFor_70 (v := -1) (by decide) ?_
                                                          refine x_istore C d_Mo_firstFor_71 (by decide) (lv' := [(9, .int ((-1))), (10, .int (nI 1)), (8, .int ((-1))), (7, .int (g 0 a)), (0, .ref (Z.2.1 (0))), (1, .int (nI a)), (2, .int (9)), (3, .int (0)), (4, .int (nI p)), (5, .int (v)), (6, .int (nI m))]) rfl ?_
                                                          refine x_iload C d_Mo_firstFor_73 1 rfl ?_
                                                          refine x_iload C d_Mo_firstFor_75 2 rfl ?_
                                                          refine x_iadd C d_Mo_firstFor_77 ?_
                                                          refine x_topi (x' := nI 0) (by decide) ?_
                                                          refine x_istore C d_Mo_firstFor_78 (by decide) (lv' := [(10, .int (nI 0)), (9, .int ((-1))), (8, .int ((-1))), (7, .int (g 0 a)), (0, .ref (Z.2.1 (0))), (1, .int (nI a)), (2, .int (9)), (3, .int (0)), (4, .int (nI p)), (5, .int (v)), (6, .int (nI m))]) rfl ?_
                                                          refine x_goto C d_Mo_firstFor_80 26 (by decide) ?_
                                                          refine x_iload C d_Mo_firstFor_26 0 rfl ?_
                                                          refine x_iload_n C d_Mo_firstFor_28 7 rfl rfl ?_
                                                          refine x_iload C d_Mo_firstFor_29 2 rfl ?_
                                                          refine x_iadd C d_Mo_firstFor_31 ?_
                                                          refine x_topi (x' := (-1)) (by decide) ?_
                                                          refine x_icmp_eq C d_Mo_firstFor_32 83 (by decide) (fun c_38 => ?_) (fun c_38 => ?_)
                                                          · exact absurd c_38 (by decide)
                                                          · have nc_38 := Ne.symm c_38
                                                            refine x_iload C d_Mo_firstFor_35 1 rfl ?_
                                                            refine x_ifge C d_Mo_firstFor_37 83 (by decide) (fun c_39 => ?_) (fun c_39 => ?_)
                                                            · exact absurd c_39 (by decide)
                                                            · have nc_39 := Int32.not_le.mp c_39
                                                              refine x_aload_n C d_Mo_firstFor_40 4 rfl rfl ?_
                                                              refine gf_Mo_now C k_791 d_Mo_firstFor_41 ?_
                                                              refine x_iload_n C d_Mo_firstFor_44 5 rfl rfl ?_
                                                              refine x_iload C d_Mo_firstFor_45 0 rfl ?_
                                                              refine as_m_now C a (v := nI 0) rfl (by first | omega | (simp only [pI]; omega)) (G := va_up (va_up g 2 ρ_36) 0 (upd (upd (upd (upd (upd (upd (upd (upd (upd (upd (g 0) a (nI 9)) a (nI 8)) a (nI 7)) a (nI 6)) a (nI 5)) a (nI 4)) a (nI 3)) a (nI 2)) a (nI 1)) a (nI 0))) (up_vb (by omega)) d_Mo_firstFor_47 ?_
                                                              refine x_aload_n C d_Mo_firstFor_48 4 rfl rfl ?_
                                                              refine x_iload C d_Mo_firstFor_49 8 rfl ?_
                                                              refine x_iconst C d_Mo_firstFor_51 (v := 5) (by decide) ?_
                                                              refine x_callSi C (c_Mo_personAt Z p 5 (va_up (va_up g 2 ρ_36) 0 (upd (upd (upd (upd (upd (upd (upd (upd (upd (upd (g 0) a (nI 9)) a (nI 8)) a (nI 7)) a (nI 6)) a (nI 5)) a (nI 4)) a (nI 3)) a (nI 2)) a (nI 1)) a (nI 0)))) mi_Mo_personAt k_897 (As := [.int (nI p), .int (5)]) ⟨Nat.le_of_ble_eq_true rfl, Nat.le_of_ble_eq_true rfl⟩ rfl rfl (Nat.le_of_ble_eq_true rfl) d_Mo_firstFor_52 ?_
                                                              refine x_iload C d_Mo_firstFor_55 10 rfl ?_
                                                              refine x_callVki C (c_Mo_behind Z (pI p 5) m (by first | omega | (simp only [pI]; omega)) (by omega) (va_up (va_up g 2 ρ_36) 0 (upd (upd (upd (upd (upd (upd (upd (upd (upd (upd (g 0) a (nI 9)) a (nI 8)) a (nI 7)) a (nI 6)) a (nI 5)) a (nI 4)) a (nI 3)) a (nI 2)) a (nI 1)) a (nI 0))) _ (Eq.trans (Eq.trans (Eq.trans (Eq.trans (Eq.trans (Eq.trans (Eq.trans (Eq.trans (Eq.trans (va_up_self _ _ _) upd_upd) upd_upd) upd_upd) upd_upd) upd_upd) upd_upd) upd_upd) upd_upd) upd_upd) (okR_upd hk0 (by omega))) mi_Mo_behind k_1032 (show 0 < 12 by omega) (m_0 Z _) rfl (As := [.int (nI (pI p 5)), .int (nI m)]) ⟨Nat.le_of_ble_eq_true rfl, Nat.le_of_ble_eq_true rfl⟩ rfl rfl (Nat.le_of_ble_eq_true rfl) d_Mo_firstFor_57 (fun u_ hu_ => ?_)
                                                              obtain ⟨ρ_40, rfl⟩ := hu_
                                                              refine x_eqg (g' := va_up (va_up g 0 (upd (upd (upd (upd (upd (upd (upd (upd (upd (upd (g 0) a (nI 9)) a (nI 8)) a (nI 7)) a (nI 6)) a (nI 5)) a (nI 4)) a (nI 3)) a (nI 2)) a (nI 1)) a (nI 0))) 2 ρ_40) (by rw [va_com (a := 2) (b := 0) (by decide), bx_uu]) ?_
                                                              refine x_iload C d_Mo_firstFor_60 9 rfl ?_
                                                              refine x_icmp_lt C d_Mo_firstFor_62 70 (by decide) (fun c_41 => ?_) (fun c_41 => ?_)
                                                              · have nc_41 := Int32.not_le.mpr c_41
                                                                refine x_iconst C d_Mo_firstFor_70 (v := -1) (by decide) ?_
                                                                refine x_istore C d_Mo_firstFor_71 (by decide) (lv' := [(9, .int ((-1))), (10, .int (nI 0)), (8, .int ((-1))), (7, .int (g 0 a)), (0, .ref (Z.2.1 (0))), (1, .int (nI a)), (2, .int (9)), (3, .int (0)), (4, .int (nI p)), (5, .int (v)), (6, .int (nI m))]) rfl ?_
                                                                refine x_iload C d_Mo_firstFor_73 1 rfl ?_
                                                                refine x_iload C d_Mo_firstFor_75 2 rfl ?_
                                                                refine x_iadd C d_Mo_firstFor_77 ?_
                                                                refine x_topi (x' := (-1)) (by decide) ?_
                                                                refine x_istore C d_Mo_firstFor_78 (by decide) (lv' := [(10, .int ((-1))), (9, .int ((-1))), (8, .int ((-1))), (7, .int (g 0 a)), (0, .ref (Z.2.1 (0))), (1, .int (nI a)), (2, .int (9)), (3, .int (0)), (4, .int (nI p)), (5, .int (v)), (6, .int (nI m))]) rfl ?_
                                                                refine x_goto C d_Mo_firstFor_80 26 (by decide) ?_
                                                                refine x_iload C d_Mo_firstFor_26 0 rfl ?_
                                                                refine x_iload_n C d_Mo_firstFor_28 7 rfl rfl ?_
                                                                refine x_iload C d_Mo_firstFor_29 2 rfl ?_
                                                                refine x_iadd C d_Mo_firstFor_31 ?_
                                                                refine x_topi (x' := (-1)) (by decide) ?_
                                                                refine x_icmp_eq C d_Mo_firstFor_32 83 (by decide) (fun c_42 => ?_) (fun c_42 => ?_)
                                                                · refine x_aload_n C d_Mo_firstFor_83 4 rfl rfl ?_
                                                                  refine gf_Mo_now C k_791 d_Mo_firstFor_84 ?_
                                                                  refine x_iload_n C d_Mo_firstFor_87 5 rfl rfl ?_
                                                                  refine x_iload C d_Mo_firstFor_88 3 rfl ?_
                                                                  refine as_m_now C a (v := g 0 a) rfl (by first | omega | (simp only [pI]; omega)) (G := va_up (va_up g 2 ρ_40) 0 (upd (upd (upd (upd (upd (upd (upd (upd (upd (upd (upd (g 0) a (nI 9)) a (nI 8)) a (nI 7)) a (nI 6)) a (nI 5)) a (nI 4)) a (nI 3)) a (nI 2)) a (nI 1)) a (nI 0)) a (g 0 a))) (up_vb (by omega)) d_Mo_firstFor_90 ?_
                                                                  refine x_iload C d_Mo_firstFor_91 1 rfl ?_
                                                                  exact x_iretK C (by simp [fdn, *]; try rfl) ⟨_, by simp only [upd_upd, upd_id]; exact va_idn (by decide)⟩ d_Mo_firstFor_93
                                                                · exact absurd c_42 (by decide)
                                                              · have nc_41 := Int32.not_lt.mp c_41
                                                                refine x_iload C d_Mo_firstFor_65 0 rfl ?_
                                                                refine x_goto C d_Mo_firstFor_67 71 (by decide) ?_
                                                                refine x_istore C d_Mo_firstFor_71 (by decide) (lv' := [(9, .int (nI 0)), (10, .int (nI 0)), (8, .int ((-1))), (7, .int (g 0 a)), (0, .ref (Z.2.1 (0))), (1, .int (nI a)), (2, .int (9)), (3, .int (0)), (4, .int (nI p)), (5, .int (v)), (6, .int (nI m))]) rfl ?_
                                                                refine x_iload C d_Mo_firstFor_73 1 rfl ?_
                                                                refine x_iload C d_Mo_firstFor_75 2 rfl ?_
                                                                refine x_iadd C d_Mo_firstFor_77 ?_
                                                                refine x_topi (x' := (-1)) (by decide) ?_
                                                                refine x_istore C d_Mo_firstFor_78 (by decide) (lv' := [(10, .int ((-1))), (9, .int (nI 0)), (8, .int ((-1))), (7, .int (g 0 a)), (0, .ref (Z.2.1 (0))), (1, .int (nI a)), (2, .int (9)), (3, .int (0)), (4, .int (nI p)), (5, .int (v)), (6, .int (nI m))]) rfl ?_
                                                                refine x_goto C d_Mo_firstFor_80 26 (by decide) ?_
                                                                refine x_iload C d_Mo_firstFor_26 0 rfl ?_
                                                                refine x_iload_n C d_Mo_firstFor_28 7 rfl rfl ?_
                                                                refine x_iload C d_Mo_firstFor_29 2 rfl ?_
                                                                refine x_iadd C d_Mo_firstFor_31 ?_
                                                                refine x_topi (x' := (-1)) (by decide) ?_
                                                                refine x_icmp_eq C d_Mo_firstFor_32 83 (by decide) (fun c_43 => ?_) (fun c_43 => ?_)
                                                                · refine x_aload_n C d_Mo_firstFor_83 4 rfl rfl ?_
                                                                  refine gf_Mo_now C k_791 d_Mo_firstFor_84 ?_
                                                                  refine x_iload_n C d_Mo_firstFor_87 5 rfl rfl ?_
                                                                  refine x_iload C d_Mo_firstFor_88 3 rfl ?_
                                                                  refine as_m_now C a (v := g 0 a) rfl (by first | omega | (simp only [pI]; omega)) (G := va_up (va_up g 2 ρ_40) 0 (upd (upd (upd (upd (upd (upd (upd (upd (upd (upd (upd (g 0) a (nI 9)) a (nI 8)) a (nI 7)) a (nI 6)) a (nI 5)) a (nI 4)) a (nI 3)) a (nI 2)) a (nI 1)) a (nI 0)) a (g 0 a))) (up_vb (by omega)) d_Mo_firstFor_90 ?_
                                                                  refine x_iload C d_Mo_firstFor_91 1 rfl ?_
                                                                  exact x_iretK C (by simp [fdn, *]; try rfl) ⟨_, by simp only [upd_upd, upd_id]; exact va_idn (by decide)⟩ d_Mo_firstFor_93
                                                                · exact absurd c_43 (by decide)
                                                        · have nc_37 := Int32.not_lt.mp c_37
                                                          refine x_iload C d_Mo_firstFor_65 0 rfl ?_
                                                          refine x_goto C d_Mo_firstFor_67 71 (by decide) ?_
                                                          refine x_istore C d_Mo_firstFor_71 (by decide) (lv' := [(9, .int (nI 1)), (10, .int (nI 1)), (8, .int ((-1))), (7, .int (g 0 a)), (0, .ref (Z.2.1 (0))), (1, .int (nI a)), (2, .int (9)), (3, .int (0)), (4, .int (nI p)), (5, .int (v)), (6, .int (nI m))]) rfl ?_
                                                          refine x_iload C d_Mo_firstFor_73 1 rfl ?_
                                                          refine x_iload C d_Mo_firstFor_75 2 rfl ?_
                                                          refine x_iadd C d_Mo_firstFor_77 ?_
                                                          refine x_topi (x' := nI 0) (by decide) ?_
                                                          refine x_istore C d_Mo_firstFor_78 (by decide) (lv' := [(10, .int (nI 0)), (9, .int (nI 1)), (8, .int ((-1))), (7, .int (g 0 a)), (0, .ref (Z.2.1 (0))), (1, .int (nI a)), (2, .int (9)), (3, .int (0)), (4, .int (nI p)), (5, .int (v)), (6, .int (nI m))]) rfl ?_
                                                          refine x_goto C d_Mo_firstFor_80 26 (by decide) ?_
                                                          refine x_iload C d_Mo_firstFor_26 0 rfl ?_
                                                          refine x_iload_n C d_Mo_firstFor_28 7 rfl rfl ?_
                                                          refine x_iload C d_Mo_firstFor_29 2 rfl ?_
                                                          refine x_iadd C d_Mo_firstFor_31 ?_
                                                          refine x_topi (x' := (-1)) (by decide) ?_
                                                          refine x_icmp_eq C d_Mo_firstFor_32 83 (by decide) (fun c_44 => ?_) (fun c_44 => ?_)
                                                          · exact absurd c_44 (by decide)
                                                          · have nc_44 := Ne.symm c_44
                                                            refine x_iload C d_Mo_firstFor_35 1 rfl ?_
                                                            refine x_ifge C d_Mo_firstFor_37 83 (by decide) (fun c_45 => ?_) (fun c_45 => ?_)
                                                            · have nc_45 := Int32.not_lt.mpr c_45
                                                              refine x_aload_n C d_Mo_firstFor_83 4 rfl rfl ?_
                                                              refine gf_Mo_now C k_791 d_Mo_firstFor_84 ?_
                                                              refine x_iload_n C d_Mo_firstFor_87 5 rfl rfl ?_
                                                              refine x_iload C d_Mo_firstFor_88 3 rfl ?_
                                                              refine as_m_now C a (v := g 0 a) rfl (by first | omega | (simp only [pI]; omega)) (G := va_up (va_up g 2 ρ_36) 0 (upd (upd (upd (upd (upd (upd (upd (upd (upd (upd (g 0) a (nI 9)) a (nI 8)) a (nI 7)) a (nI 6)) a (nI 5)) a (nI 4)) a (nI 3)) a (nI 2)) a (nI 1)) a (g 0 a))) (up_vb (by omega)) d_Mo_firstFor_90 ?_
                                                              refine x_iload C d_Mo_firstFor_91 1 rfl ?_
                                                              exact x_iretK C (by simp [fdn, *]; try rfl) ⟨_, by simp only [upd_upd, upd_id]; exact va_idn (by decide)⟩ d_Mo_firstFor_93
                                                            · exact absurd (by decide) c_45
                                                  · have nc_33 := Int32.not_lt.mp c_33
                                                    refine x_iload C d_Mo_firstFor_65 0 rfl ?_
                                                    refine x_goto C d_Mo_firstFor_67 71 (by decide) ?_
                                                    refine x_istore C d_Mo_firstFor_71 (by decide) (lv' := [(9, .int (nI 2)), (10, .int (nI 2)), (8, .int ((-1))), (7, .int (g 0 a)), (0, .ref (Z.2.1 (0))), (1, .int (nI a)), (2, .int (9)), (3, .int (0)), (4, .int (nI p)), (5, .int (v)), (6, .int (nI m))]) rfl ?_
                                                    refine x_iload C d_Mo_firstFor_73 1 rfl ?_
                                                    refine x_iload C d_Mo_firstFor_75 2 rfl ?_
                                                    refine x_iadd C d_Mo_firstFor_77 ?_
                                                    refine x_topi (x' := nI 1) (by decide) ?_
                                                    refine x_istore C d_Mo_firstFor_78 (by decide) (lv' := [(10, .int (nI 1)), (9, .int (nI 2)), (8, .int ((-1))), (7, .int (g 0 a)), (0, .ref (Z.2.1 (0))), (1, .int (nI a)), (2, .int (9)), (3, .int (0)), (4, .int (nI p)), (5, .int (v)), (6, .int (nI m))]) rfl ?_
                                                    refine x_goto C d_Mo_firstFor_80 26 (by decide) ?_
                                                    refine x_iload C d_Mo_firstFor_26 0 rfl ?_
                                                    refine x_iload_n C d_Mo_firstFor_28 7 rfl rfl ?_
                                                    refine x_iload C d_Mo_firstFor_29 2 rfl ?_
                                                    refine x_iadd C d_Mo_firstFor_31 ?_
                                                    refine x_topi (x' := (-1)) (by decide) ?_
                                                    refine x_icmp_eq C d_Mo_firstFor_32 83 (by decide) (fun c_46 => ?_) (fun c_46 => ?_)
                                                    · exact absurd c_46 (by decide)
                                                    · have nc_46 := Ne.symm c_46
                                                      refine x_iload C d_Mo_firstFor_35 1 rfl ?_
                                                      refine x_ifge C d_Mo_firstFor_37 83 (by decide) (fun c_47 => ?_) (fun c_47 => ?_)
                                                      · have nc_47 := Int32.not_lt.mpr c_47
                                                        refine x_aload_n C d_Mo_firstFor_83 4 rfl rfl ?_
                                                        refine gf_Mo_now C k_791 d_Mo_firstFor_84 ?_
                                                        refine x_iload_n C d_Mo_firstFor_87 5 rfl rfl ?_
                                                        refine x_iload C d_Mo_firstFor_88 3 rfl ?_
                                                        refine as_m_now C a (v := g 0 a) rfl (by first | omega | (simp only [pI]; omega)) (G := va_up (va_up g 2 ρ_32) 0 (upd (upd (upd (upd (upd (upd (upd (upd (upd (g 0) a (nI 9)) a (nI 8)) a (nI 7)) a (nI 6)) a (nI 5)) a (nI 4)) a (nI 3)) a (nI 2)) a (g 0 a))) (up_vb (by omega)) d_Mo_firstFor_90 ?_
                                                        refine x_iload C d_Mo_firstFor_91 1 rfl ?_
                                                        exact x_iretK C (by simp [fdn, *]; try rfl) ⟨_, by simp only [upd_upd, upd_id]; exact va_idn (by decide)⟩ d_Mo_firstFor_93
                                                      · exact absurd (by decide) c_47
                                            · have nc_29 := Int32.not_lt.mp c_29
                                              refine x_iload C d_Mo_firstFor_65 0 rfl ?_
                                              refine x_goto C d_Mo_firstFor_67 71 (by decide) ?_
                                              refine x_istore C d_Mo_firstFor_71 (by decide) (lv' := [(9, .int (nI 3)), (10, .int (nI 3)), (8, .int ((-1))), (7, .int (g 0 a)), (0, .ref (Z.2.1 (0))), (1, .int (nI a)), (2, .int (9)), (3, .int (0)), (4, .int (nI p)), (5, .int (v)), (6, .int (nI m))]) rfl ?_
                                              refine x_iload C d_Mo_firstFor_73 1 rfl ?_
                                              refine x_iload C d_Mo_firstFor_75 2 rfl ?_
                                              refine x_iadd C d_Mo_firstFor_77 ?_
                                              refine x_topi (x' := nI 2) (by decide) ?_
                                              refine x_istore C d_Mo_firstFor_78 (by decide) (lv' := [(10, .int (nI 2)), (9, .int (nI 3)), (8, .int ((-1))), (7, .int (g 0 a)), (0, .ref (Z.2.1 (0))), (1, .int (nI a)), (2, .int (9)), (3, .int (0)), (4, .int (nI p)), (5, .int (v)), (6, .int (nI m))]) rfl ?_
                                              refine x_goto C d_Mo_firstFor_80 26 (by decide) ?_
                                              refine x_iload C d_Mo_firstFor_26 0 rfl ?_
                                              refine x_iload_n C d_Mo_firstFor_28 7 rfl rfl ?_
                                              refine x_iload C d_Mo_firstFor_29 2 rfl ?_
                                              refine x_iadd C d_Mo_firstFor_31 ?_
                                              refine x_topi (x' := (-1)) (by decide) ?_
                                              refine x_icmp_eq C d_Mo_firstFor_32 83 (by decide) (fun c_48 => ?_) (fun c_48 => ?_)
                                              · exact absurd c_48 (by decide)
                                              · have nc_48 := Ne.symm c_48
                                                refine x_iload C d_Mo_firstFor_35 1 rfl ?_
                                                refine x_ifge C d_Mo_firstFor_37 83 (by decide) (fun c_49 => ?_) (fun c_49 => ?_)
                                                · have nc_49 := Int32.not_lt.mpr c_49
                                                  refine x_aload_n C d_Mo_firstFor_83 4 rfl rfl ?_
                                                  refine gf_Mo_now C k_791 d_Mo_firstFor_84 ?_
                                                  refine x_iload_n C d_Mo_firstFor_87 5 rfl rfl ?_
                                                  refine x_iload C d_Mo_firstFor_88 3 rfl ?_
                                                  refine as_m_now C a (v := g 0 a) rfl (by first | omega | (simp only [pI]; omega)) (G := va_up (va_up g 2 ρ_28) 0 (upd (upd (upd (upd (upd (upd (upd (upd (g 0) a (nI 9)) a (nI 8)) a (nI 7)) a (nI 6)) a (nI 5)) a (nI 4)) a (nI 3)) a (g 0 a))) (up_vb (by omega)) d_Mo_firstFor_90 ?_
                                                  refine x_iload C d_Mo_firstFor_91 1 rfl ?_
                                                  exact x_iretK C (by simp [fdn, *]; try rfl) ⟨_, by simp only [upd_upd, upd_id]; exact va_idn (by decide)⟩ d_Mo_firstFor_93
                                                · exact absurd (by decide) c_49
                                      · have nc_25 := Int32.not_lt.mp c_25
                                        refine x_iload C d_Mo_firstFor_65 0 rfl ?_
                                        refine x_goto C d_Mo_firstFor_67 71 (by decide) ?_
                                        refine x_istore C d_Mo_firstFor_71 (by decide) (lv' := [(9, .int (nI 4)), (10, .int (nI 4)), (8, .int ((-1))), (7, .int (g 0 a)), (0, .ref (Z.2.1 (0))), (1, .int (nI a)), (2, .int (9)), (3, .int (0)), (4, .int (nI p)), (5, .int (v)), (6, .int (nI m))]) rfl ?_
                                        refine x_iload C d_Mo_firstFor_73 1 rfl ?_
                                        refine x_iload C d_Mo_firstFor_75 2 rfl ?_
                                        refine x_iadd C d_Mo_firstFor_77 ?_
                                        refine x_topi (x' := nI 3) (by decide) ?_
                                        refine x_istore C d_Mo_firstFor_78 (by decide) (lv' := [(10, .int (nI 3)), (9, .int (nI 4)), (8, .int ((-1))), (7, .int (g 0 a)), (0, .ref (Z.2.1 (0))), (1, .int (nI a)), (2, .int (9)), (3, .int (0)), (4, .int (nI p)), (5, .int (v)), (6, .int (nI m))]) rfl ?_
                                        refine x_goto C d_Mo_firstFor_80 26 (by decide) ?_
                                        refine x_iload C d_Mo_firstFor_26 0 rfl ?_
                                        refine x_iload_n C d_Mo_firstFor_28 7 rfl rfl ?_
                                        refine x_iload C d_Mo_firstFor_29 2 rfl ?_
                                        refine x_iadd C d_Mo_firstFor_31 ?_
                                        refine x_topi (x' := (-1)) (by decide) ?_
                                        refine x_icmp_eq C d_Mo_firstFor_32 83 (by decide) (fun c_50 => ?_) (fun c_50 => ?_)
                                        · exact absurd c_50 (by decide)
                                        · have nc_50 := Ne.symm c_50
                                          refine x_iload C d_Mo_firstFor_35 1 rfl ?_
                                          refine x_ifge C d_Mo_firstFor_37 83 (by decide) (fun c_51 => ?_) (fun c_51 => ?_)
                                          · have nc_51 := Int32.not_lt.mpr c_51
                                            refine x_aload_n C d_Mo_firstFor_83 4 rfl rfl ?_
                                            refine gf_Mo_now C k_791 d_Mo_firstFor_84 ?_
                                            refine x_iload_n C d_Mo_firstFor_87 5 rfl rfl ?_
                                            refine x_iload C d_Mo_firstFor_88 3 rfl ?_
                                            refine as_m_now C a (v := g 0 a) rfl (by first | omega | (simp only [pI]; omega)) (G := va_up (va_up g 2 ρ_24) 0 (upd (upd (upd (upd (upd (upd (upd (g 0) a (nI 9)) a (nI 8)) a (nI 7)) a (nI 6)) a (nI 5)) a (nI 4)) a (g 0 a))) (up_vb (by omega)) d_Mo_firstFor_90 ?_
                                            refine x_iload C d_Mo_firstFor_91 1 rfl ?_
                                            exact x_iretK C (by simp [fdn, *]; try rfl) ⟨_, by simp only [upd_upd, upd_id]; exact va_idn (by decide)⟩ d_Mo_firstFor_93
                                          · exact absurd (by decide) c_51
                                · have nc_21 := Int32.not_lt.mp c_21
                                  refine x_iload C d_Mo_firstFor_65 0 rfl ?_
                                  refine x_goto C d_Mo_firstFor_67 71 (by decide) ?_
                                  refine x_istore C d_Mo_firstFor_71 (by decide) (lv' := [(9, .int (nI 5)), (10, .int (nI 5)), (8, .int ((-1))), (7, .int (g 0 a)), (0, .ref (Z.2.1 (0))), (1, .int (nI a)), (2, .int (9)), (3, .int (0)), (4, .int (nI p)), (5, .int (v)), (6, .int (nI m))]) rfl ?_
                                  refine x_iload C d_Mo_firstFor_73 1 rfl ?_
                                  refine x_iload C d_Mo_firstFor_75 2 rfl ?_
                                  refine x_iadd C d_Mo_firstFor_77 ?_
                                  refine x_topi (x' := nI 4) (by decide) ?_
                                  refine x_istore C d_Mo_firstFor_78 (by decide) (lv' := [(10, .int (nI 4)), (9, .int (nI 5)), (8, .int ((-1))), (7, .int (g 0 a)), (0, .ref (Z.2.1 (0))), (1, .int (nI a)), (2, .int (9)), (3, .int (0)), (4, .int (nI p)), (5, .int (v)), (6, .int (nI m))]) rfl ?_
                                  refine x_goto C d_Mo_firstFor_80 26 (by decide) ?_
                                  refine x_iload C d_Mo_firstFor_26 0 rfl ?_
                                  refine x_iload_n C d_Mo_firstFor_28 7 rfl rfl ?_
                                  refine x_iload C d_Mo_firstFor_29 2 rfl ?_
                                  refine x_iadd C d_Mo_firstFor_31 ?_
                                  refine x_topi (x' := (-1)) (by decide) ?_
                                  refine x_icmp_eq C d_Mo_firstFor_32 83 (by decide) (fun c_52 => ?_) (fun c_52 => ?_)
                                  · exact absurd c_52 (by decide)
                                  · have nc_52 := Ne.symm c_52
                                    refine x_iload C d_Mo_firstFor_35 1 rfl ?_
                                    refine x_ifge C d_Mo_firstFor_37 83 (by decide) (fun c_53 => ?_) (fun c_53 => ?_)
                                    · have nc_53 := Int32.not_lt.mpr c_53
                                      refine x_aload_n C d_Mo_firstFor_83 4 rfl rfl ?_
                                      refine gf_Mo_now C k_791 d_Mo_firstFor_84 ?_
                                      refine x_iload_n C d_Mo_firstFor_87 5 rfl rfl ?_
                                      refine x_iload C d_Mo_firstFor_88 3 rfl ?_
                                      refine as_m_now C a (v := g 0 a) rfl (by first | omega | (simp only [pI]; omega)) (G := va_up (va_up g 2 ρ_20) 0 (upd (upd (upd (upd (upd (upd (g 0) a (nI 9)) a (nI 8)) a (nI 7)) a (nI 6)) a (nI 5)) a (g 0 a))) (up_vb (by omega)) d_Mo_firstFor_90 ?_
                                      refine x_iload C d_Mo_firstFor_91 1 rfl ?_
                                      exact x_iretK C (by simp [fdn, *]; try rfl) ⟨_, by simp only [upd_upd, upd_id]; exact va_idn (by decide)⟩ d_Mo_firstFor_93
                                    · exact absurd (by decide) c_53
                          · have nc_17 := Int32.not_lt.mp c_17
                            refine x_iload C d_Mo_firstFor_65 0 rfl ?_
                            refine x_goto C d_Mo_firstFor_67 71 (by decide) ?_
                            refine x_istore C d_Mo_firstFor_71 (by decide) (lv' := [(9, .int (nI 6)), (10, .int (nI 6)), (8, .int ((-1))), (7, .int (g 0 a)), (0, .ref (Z.2.1 (0))), (1, .int (nI a)), (2, .int (9)), (3, .int (0)), (4, .int (nI p)), (5, .int (v)), (6, .int (nI m))]) rfl ?_
                            refine x_iload C d_Mo_firstFor_73 1 rfl ?_
                            refine x_iload C d_Mo_firstFor_75 2 rfl ?_
                            refine x_iadd C d_Mo_firstFor_77 ?_
                            refine x_topi (x' := nI 5) (by decide) ?_
                            refine x_istore C d_Mo_firstFor_78 (by decide) (lv' := [(10, .int (nI 5)), (9, .int (nI 6)), (8, .int ((-1))), (7, .int (g 0 a)), (0, .ref (Z.2.1 (0))), (1, .int (nI a)), (2, .int (9)), (3, .int (0)), (4, .int (nI p)), (5, .int (v)), (6, .int (nI m))]) rfl ?_
                            refine x_goto C d_Mo_firstFor_80 26 (by decide) ?_
                            refine x_iload C d_Mo_firstFor_26 0 rfl ?_
                            refine x_iload_n C d_Mo_firstFor_28 7 rfl rfl ?_
                            refine x_iload C d_Mo_firstFor_29 2 rfl ?_
                            refine x_iadd C d_Mo_firstFor_31 ?_
                            refine x_topi (x' := (-1)) (by decide) ?_
                            refine x_icmp_eq C d_Mo_firstFor_32 83 (by decide) (fun c_54 => ?_) (fun c_54 => ?_)
                            · exact absurd c_54 (by decide)
                            · have nc_54 := Ne.symm c_54
                              refine x_iload C d_Mo_firstFor_35 1 rfl ?_
                              refine x_ifge C d_Mo_firstFor_37 83 (by decide) (fun c_55 => ?_) (fun c_55 => ?_)
                              · have nc_55 := Int32.not_lt.mpr c_55
                                refine x_aload_n C d_Mo_firstFor_83 4 rfl rfl ?_
                                refine gf_Mo_now C k_791 d_Mo_firstFor_84 ?_
                                refine x_iload_n C d_Mo_firstFor_87 5 rfl rfl ?_
                                refine x_iload C d_Mo_firstFor_88 3 rfl ?_
                                refine as_m_now C a (v := g 0 a) rfl (by first | omega | (simp only [pI]; omega)) (G := va_up (va_up g 2 ρ_16) 0 (upd (upd (upd (upd (upd (g 0) a (nI 9)) a (nI 8)) a (nI 7)) a (nI 6)) a (g 0 a))) (up_vb (by omega)) d_Mo_firstFor_90 ?_
                                refine x_iload C d_Mo_firstFor_91 1 rfl ?_
                                exact x_iretK C (by simp [fdn, *]; try rfl) ⟨_, by simp only [upd_upd, upd_id]; exact va_idn (by decide)⟩ d_Mo_firstFor_93
                              · exact absurd (by decide) c_55
                    · have nc_13 := Int32.not_lt.mp c_13
                      refine x_iload C d_Mo_firstFor_65 0 rfl ?_
                      refine x_goto C d_Mo_firstFor_67 71 (by decide) ?_
                      refine x_istore C d_Mo_firstFor_71 (by decide) (lv' := [(9, .int (nI 7)), (10, .int (nI 7)), (8, .int ((-1))), (7, .int (g 0 a)), (0, .ref (Z.2.1 (0))), (1, .int (nI a)), (2, .int (9)), (3, .int (0)), (4, .int (nI p)), (5, .int (v)), (6, .int (nI m))]) rfl ?_
                      refine x_iload C d_Mo_firstFor_73 1 rfl ?_
                      refine x_iload C d_Mo_firstFor_75 2 rfl ?_
                      refine x_iadd C d_Mo_firstFor_77 ?_
                      refine x_topi (x' := nI 6) (by decide) ?_
                      refine x_istore C d_Mo_firstFor_78 (by decide) (lv' := [(10, .int (nI 6)), (9, .int (nI 7)), (8, .int ((-1))), (7, .int (g 0 a)), (0, .ref (Z.2.1 (0))), (1, .int (nI a)), (2, .int (9)), (3, .int (0)), (4, .int (nI p)), (5, .int (v)), (6, .int (nI m))]) rfl ?_
                      refine x_goto C d_Mo_firstFor_80 26 (by decide) ?_
                      refine x_iload C d_Mo_firstFor_26 0 rfl ?_
                      refine x_iload_n C d_Mo_firstFor_28 7 rfl rfl ?_
                      refine x_iload C d_Mo_firstFor_29 2 rfl ?_
                      refine x_iadd C d_Mo_firstFor_31 ?_
                      refine x_topi (x' := (-1)) (by decide) ?_
                      refine x_icmp_eq C d_Mo_firstFor_32 83 (by decide) (fun c_56 => ?_) (fun c_56 => ?_)
                      · exact absurd c_56 (by decide)
                      · have nc_56 := Ne.symm c_56
                        refine x_iload C d_Mo_firstFor_35 1 rfl ?_
                        refine x_ifge C d_Mo_firstFor_37 83 (by decide) (fun c_57 => ?_) (fun c_57 => ?_)
                        · have nc_57 := Int32.not_lt.mpr c_57
                          refine x_aload_n C d_Mo_firstFor_83 4 rfl rfl ?_
                          refine gf_Mo_now C k_791 d_Mo_firstFor_84 ?_
                          refine x_iload_n C d_Mo_firstFor_87 5 rfl rfl ?_
                          refine x_iload C d_Mo_firstFor_88 3 rfl ?_
                          refine as_m_now C a (v := g 0 a) rfl (by first | omega | (simp only [pI]; omega)) (G := va_up (va_up g 2 ρ_12) 0 (upd (upd (upd (upd (g 0) a (nI 9)) a (nI 8)) a (nI 7)) a (g 0 a))) (up_vb (by omega)) d_Mo_firstFor_90 ?_
                          refine x_iload C d_Mo_firstFor_91 1 rfl ?_
                          exact x_iretK C (by simp [fdn, *]; try rfl) ⟨_, by simp only [upd_upd, upd_id]; exact va_idn (by decide)⟩ d_Mo_firstFor_93
                        · exact absurd (by decide) c_57
              · have nc_9 := Int32.not_lt.mp c_9
                refine x_iload C d_Mo_firstFor_65 0 rfl ?_
                refine x_goto C d_Mo_firstFor_67 71 (by decide) ?_
                refine x_istore C d_Mo_firstFor_71 (by decide) (lv' := [(9, .int (nI 8)), (10, .int (nI 8)), (8, .int ((-1))), (7, .int (g 0 a)), (0, .ref (Z.2.1 (0))), (1, .int (nI a)), (2, .int (9)), (3, .int (0)), (4, .int (nI p)), (5, .int (v)), (6, .int (nI m))]) rfl ?_
                refine x_iload C d_Mo_firstFor_73 1 rfl ?_
                refine x_iload C d_Mo_firstFor_75 2 rfl ?_
                refine x_iadd C d_Mo_firstFor_77 ?_
                refine x_topi (x' := nI 7) (by decide) ?_
                refine x_istore C d_Mo_firstFor_78 (by decide) (lv' := [(10, .int (nI 7)), (9, .int (nI 8)), (8, .int ((-1))), (7, .int (g 0 a)), (0, .ref (Z.2.1 (0))), (1, .int (nI a)), (2, .int (9)), (3, .int (0)), (4, .int (nI p)), (5, .int (v)), (6, .int (nI m))]) rfl ?_
                refine x_goto C d_Mo_firstFor_80 26 (by decide) ?_
                refine x_iload C d_Mo_firstFor_26 0 rfl ?_
                refine x_iload_n C d_Mo_firstFor_28 7 rfl rfl ?_
                refine x_iload C d_Mo_firstFor_29 2 rfl ?_
                refine x_iadd C d_Mo_firstFor_31 ?_
                refine x_topi (x' := (-1)) (by decide) ?_
                refine x_icmp_eq C d_Mo_firstFor_32 83 (by decide) (fun c_58 => ?_) (fun c_58 => ?_)
                · exact absurd c_58 (by decide)
                · have nc_58 := Ne.symm c_58
                  refine x_iload C d_Mo_firstFor_35 1 rfl ?_
                  refine x_ifge C d_Mo_firstFor_37 83 (by decide) (fun c_59 => ?_) (fun c_59 => ?_)
                  · have nc_59 := Int32.not_lt.mpr c_59
                    refine x_aload_n C d_Mo_firstFor_83 4 rfl rfl ?_
                    refine gf_Mo_now C k_791 d_Mo_firstFor_84 ?_
                    refine x_iload_n C d_Mo_firstFor_87 5 rfl rfl ?_
                    refine x_iload C d_Mo_firstFor_88 3 rfl ?_
                    refine as_m_now C a (v := g 0 a) rfl (by first | omega | (simp only [pI]; omega)) (G := va_up (va_up g 2 ρ_8) 0 (upd (upd (upd (g 0) a (nI 9)) a (nI 8)) a (g 0 a))) (up_vb (by omega)) d_Mo_firstFor_90 ?_
                    refine x_iload C d_Mo_firstFor_91 1 rfl ?_
                    exact x_iretK C (by simp [fdn, *]; try rfl) ⟨_, by simp only [upd_upd, upd_id]; exact va_idn (by decide)⟩ d_Mo_firstFor_93
                  · exact absurd (by decide) c_59
        · have nc_5 := Int32.not_lt.mp c_5
          refine x_iload C d_Mo_firstFor_65 0 rfl ?_
          refine x_goto C d_Mo_firstFor_67 71 (by decide) ?_
          refine x_istore C d_Mo_firstFor_71 (by decide) (lv' := [(9, .int (nI 9)), (10, .int (nI 9)), (8, .int ((-1))), (7, .int (g 0 a)), (0, .ref (Z.2.1 (0))), (1, .int (nI a)), (2, .int (9)), (3, .int (0)), (4, .int (nI p)), (5, .int (v)), (6, .int (nI m))]) rfl ?_
          refine x_iload C d_Mo_firstFor_73 1 rfl ?_
          refine x_iload C d_Mo_firstFor_75 2 rfl ?_
          refine x_iadd C d_Mo_firstFor_77 ?_
          refine x_topi (x' := nI 8) (by decide) ?_
          refine x_istore C d_Mo_firstFor_78 (by decide) (lv' := [(10, .int (nI 8)), (9, .int (nI 9)), (8, .int ((-1))), (7, .int (g 0 a)), (0, .ref (Z.2.1 (0))), (1, .int (nI a)), (2, .int (9)), (3, .int (0)), (4, .int (nI p)), (5, .int (v)), (6, .int (nI m))]) rfl ?_
          refine x_goto C d_Mo_firstFor_80 26 (by decide) ?_
          refine x_iload C d_Mo_firstFor_26 0 rfl ?_
          refine x_iload_n C d_Mo_firstFor_28 7 rfl rfl ?_
          refine x_iload C d_Mo_firstFor_29 2 rfl ?_
          refine x_iadd C d_Mo_firstFor_31 ?_
          refine x_topi (x' := (-1)) (by decide) ?_
          refine x_icmp_eq C d_Mo_firstFor_32 83 (by decide) (fun c_60 => ?_) (fun c_60 => ?_)
          · exact absurd c_60 (by decide)
          · have nc_60 := Ne.symm c_60
            refine x_iload C d_Mo_firstFor_35 1 rfl ?_
            refine x_ifge C d_Mo_firstFor_37 83 (by decide) (fun c_61 => ?_) (fun c_61 => ?_)
            · have nc_61 := Int32.not_lt.mpr c_61
              refine x_aload_n C d_Mo_firstFor_83 4 rfl rfl ?_
              refine gf_Mo_now C k_791 d_Mo_firstFor_84 ?_
              refine x_iload_n C d_Mo_firstFor_87 5 rfl rfl ?_
              refine x_iload C d_Mo_firstFor_88 3 rfl ?_
              refine as_m_now C a (v := g 0 a) rfl (by first | omega | (simp only [pI]; omega)) (G := va_up (va_up g 2 ρ_4) 0 (upd (upd (g 0) a (nI 9)) a (g 0 a))) (up_vb (by omega)) d_Mo_firstFor_90 ?_
              refine x_iload C d_Mo_firstFor_91 1 rfl ?_
              exact x_iretK C (by simp [fdn, *]; try rfl) ⟨_, by simp only [upd_upd, upd_id]; exact va_idn (by decide)⟩ d_Mo_firstFor_93
            · exact absurd (by decide) c_61
  · exact absurd c_1 (by decide)

set_option maxRecDepth 100000 in
set_option maxHeartbeats 600000 in
theorem c_Mo_seasonFor (Z : ZT) (p v m : Int32) (g : St)  (hk : okR (g 0)) : CT yM Z y_Mo_seasonFor b_Mo_seasonFor 5 (some (.int)) 8 186 [.ref (Z.2.1 (0)), .int (p), .int (v), .int (m)] (g) (QkI yM Z (if ¬ ((0 ≤ p ∧ p < g 0 1) ∧ (0 ≤ v ∧ v ≤ 9999) ∧ (0 ≤ m ∧ m ≤ 40)) then (-1000001) else if oI (fdo (fun c_ => decide (v ≤ dysM (upd (g 0) (pI p.toNatClampNeg 3) (nI c_)) m.toNatClampNeg (pI p.toNatClampNeg 5))) 100 0) < 0 then (-1000004) else oI (fdo (fun c_ => decide (v ≤ dysM (upd (g 0) (pI p.toNatClampNeg 3) (nI c_)) m.toNatClampNeg (pI p.toNatClampNeg 5))) 100 0)) (fun u => ∃ ρ : Nat → Int32, u = va_up (if ¬ ((0 ≤ p ∧ p < g 0 1) ∧ (0 ≤ v ∧ v ≤ 9999) ∧ (0 ≤ m ∧ m ≤ 40)) then va_up g 4 (mfnR (g 4) 0) else if oI (fdo (fun c_ => decide (v ≤ dysM (upd (g 0) (pI p.toNatClampNeg 3) (nI c_)) m.toNatClampNeg (pI p.toNatClampNeg 5))) 100 0) < 0 then va_up g 4 (mfnR (g 4) 3) else g) 2 ρ)) := by
  refine CT.mk "TunnelPeaceModel" (by decide) rfl (Nat.le_of_ble_eq_true rfl) (fun X C => ?_)
  refine x_lv [0, 1, 2, 3] (lv' := [(0, .ref (Z.2.1 (0))), (1, .int (p)), (2, .int (v)), (3, .int (m))]) rfl ?_
  have hk0 := hk
  obtain ⟨⟨n, hn8, hn⟩, dd, hdd, hd⟩ := hk
  refine x_aload_n C d_Mo_seasonFor_0 0 rfl rfl ?_
  refine x_iload_n C d_Mo_seasonFor_1 1 rfl rfl ?_
  refine x_callVi C (c_Mo_isPerson Z p n (by omega) (g) hn) mi_Mo_isPerson k_907 (show 0 < 12 by omega) (m_0 Z _) rfl (As := [.int (p)]) ⟨Nat.le_of_ble_eq_true rfl, Nat.le_of_ble_eq_true rfl⟩ rfl rfl (Nat.le_of_ble_eq_true rfl) d_Mo_seasonFor_2 ?_
  refine x_ifeqB C d_Mo_seasonFor_5 30 (by decide) (fun c_1 => ?_) (fun c_1 => ?_)
  · refine x_iconst C d_Mo_seasonFor_30 (v := 0) (by decide) ?_
    refine x_istore C d_Mo_seasonFor_31 (by decide) (lv' := [(4, .int (0)), (0, .ref (Z.2.1 (0))), (1, .int (p)), (2, .int (v)), (3, .int (m))]) rfl ?_
    refine x_iload C d_Mo_seasonFor_33 0 rfl ?_
    refine x_ifeq C d_Mo_seasonFor_35 60 (by decide) (fun c_2 => ?_) (fun c_2 => ?_)
    · refine x_aload_n C d_Mo_seasonFor_60 1 rfl rfl ?_
      refine x_ldc C d_Mo_seasonFor_61 k_866 ?_
      refine x_callVi C (c_Mo_finding_0 Z (g) _ rfl) mi_Mo_finding k_867 (show 0 < 12 by omega) (m_0 Z _) rfl (As := [.int ((-1000001))]) ⟨Nat.le_of_ble_eq_true rfl, Nat.le_of_ble_eq_true rfl⟩ rfl rfl (Nat.le_of_ble_eq_true rfl) d_Mo_seasonFor_63 ?_
      exact x_iretK C (by first | with_reducible rfl | (simp [*, -hd]; done) | (simp [*]; done) | (simp_all; done)) (kfinM (G' := va_up g 4 (mfnR (g 4) 0)) (by first | with_reducible rfl | (simp [*, -hd]; done) | (simp [*]; done) | (simp_all; done)) (va_idn (by omega)).symm) d_Mo_seasonFor_66
    · exact absurd c_2 (by decide)
  · obtain ⟨pq, hpq, rfl⟩ := in_of c_1 (by omega)
    have hcp : (nI pq).toNatClampNeg = pq := nI_clamp (by omega)
    refine x_iload_n C d_Mo_seasonFor_8 2 rfl rfl ?_
    refine x_iconst C d_Mo_seasonFor_9 (v := 0) (by decide) ?_
    refine x_sipush C d_Mo_seasonFor_10 (v := 9999) (by decide) ?_
    refine x_callSi C (c_Mo_within Z v 0 9999 (g)) mi_Mo_within k_859 (As := [.int (v), .int (0), .int (9999)]) ⟨Nat.le_of_ble_eq_true rfl, Nat.le_of_ble_eq_true rfl⟩ rfl rfl (Nat.le_of_ble_eq_true rfl) d_Mo_seasonFor_13 ?_
    refine x_ifeqB C d_Mo_seasonFor_16 30 (by decide) (fun c_3 => ?_) (fun c_3 => ?_)
    · refine x_iconst C d_Mo_seasonFor_30 (v := 0) (by decide) ?_
      refine x_istore C d_Mo_seasonFor_31 (by decide) (lv' := [(4, .int (0)), (0, .ref (Z.2.1 (0))), (1, .int (nI pq)), (2, .int (v)), (3, .int (m))]) rfl ?_
      refine x_iload C d_Mo_seasonFor_33 0 rfl ?_
      refine x_ifeq C d_Mo_seasonFor_35 60 (by decide) (fun c_4 => ?_) (fun c_4 => ?_)
      · refine x_aload_n C d_Mo_seasonFor_60 1 rfl rfl ?_
        refine x_ldc C d_Mo_seasonFor_61 k_866 ?_
        refine x_callVi C (c_Mo_finding_0 Z (g) _ rfl) mi_Mo_finding k_867 (show 0 < 12 by omega) (m_0 Z _) rfl (As := [.int ((-1000001))]) ⟨Nat.le_of_ble_eq_true rfl, Nat.le_of_ble_eq_true rfl⟩ rfl rfl (Nat.le_of_ble_eq_true rfl) d_Mo_seasonFor_63 ?_
        exact x_iretK C (by first | with_reducible rfl | (simp [*, -hd]; done) | (simp [*]; done) | (simp_all; done)) (kfinM (G' := va_up g 4 (mfnR (g 4) 0)) (by first | with_reducible rfl | (simp [*, -hd]; done) | (simp [*]; done) | (simp_all; done)) (va_idn (by omega)).symm) d_Mo_seasonFor_66
      · exact absurd c_4 (by decide)
    · refine x_iload_n C d_Mo_seasonFor_19 3 rfl rfl ?_
      refine x_callSi C (c_Mo_isThought Z m (g)) mi_Mo_isThought k_1061 (As := [.int (m)]) ⟨Nat.le_of_ble_eq_true rfl, Nat.le_of_ble_eq_true rfl⟩ rfl rfl (Nat.le_of_ble_eq_true rfl) d_Mo_seasonFor_20 ?_
      refine x_ifeqB C d_Mo_seasonFor_23 30 (by decide) (fun c_5 => ?_) (fun c_5 => ?_)
      · refine x_iconst C d_Mo_seasonFor_30 (v := 0) (by decide) ?_
        refine x_istore C d_Mo_seasonFor_31 (by decide) (lv' := [(4, .int (0)), (0, .ref (Z.2.1 (0))), (1, .int (nI pq)), (2, .int (v)), (3, .int (m))]) rfl ?_
        refine x_iload C d_Mo_seasonFor_33 0 rfl ?_
        refine x_ifeq C d_Mo_seasonFor_35 60 (by decide) (fun c_6 => ?_) (fun c_6 => ?_)
        · refine x_aload_n C d_Mo_seasonFor_60 1 rfl rfl ?_
          refine x_ldc C d_Mo_seasonFor_61 k_866 ?_
          refine x_callVi C (c_Mo_finding_0 Z (g) _ rfl) mi_Mo_finding k_867 (show 0 < 12 by omega) (m_0 Z _) rfl (As := [.int ((-1000001))]) ⟨Nat.le_of_ble_eq_true rfl, Nat.le_of_ble_eq_true rfl⟩ rfl rfl (Nat.le_of_ble_eq_true rfl) d_Mo_seasonFor_63 ?_
          exact x_iretK C (by first | with_reducible rfl | (simp [*, -hd]; done) | (simp [*]; done) | (simp_all; done)) (kfinM (G' := va_up g 4 (mfnR (g 4) 0)) (by first | with_reducible rfl | (simp [*, -hd]; done) | (simp [*]; done) | (simp_all; done)) (va_idn (by omega)).symm) d_Mo_seasonFor_66
        · exact absurd c_6 (by decide)
      · obtain ⟨mq, hmq, rfl⟩ := in_le (n := 40) c_5 (by decide)
        have hcm : (nI mq).toNatClampNeg = mq := nI_clamp (by omega)
        refine x_iconst C d_Mo_seasonFor_26 (v := 1) (by decide) ?_
        refine x_goto C d_Mo_seasonFor_27 31 (by decide) ?_
        refine x_istore C d_Mo_seasonFor_31 (by decide) (lv' := [(4, .int (1)), (0, .ref (Z.2.1 (0))), (1, .int (nI pq)), (2, .int (v)), (3, .int (nI mq))]) rfl ?_
        refine x_iload C d_Mo_seasonFor_33 0 rfl ?_
        refine x_ifeq C d_Mo_seasonFor_35 60 (by decide) (fun c_7 => ?_) (fun c_7 => ?_)
        · exact absurd c_7 (by decide)
        · refine x_aload_n C d_Mo_seasonFor_38 1 rfl rfl ?_
          refine x_aload_n C d_Mo_seasonFor_39 1 rfl rfl ?_
          refine x_iload_n C d_Mo_seasonFor_40 2 rfl rfl ?_
          refine x_iconst C d_Mo_seasonFor_41 (v := 3) (by decide) ?_
          refine x_callSi C (c_Mo_personAt Z pq 3 (g)) mi_Mo_personAt k_897 (As := [.int (nI pq), .int (3)]) ⟨Nat.le_of_ble_eq_true rfl, Nat.le_of_ble_eq_true rfl⟩ rfl rfl (Nat.le_of_ble_eq_true rfl) d_Mo_seasonFor_42 ?_
          refine x_iconst C d_Mo_seasonFor_45 (v := 0) (by decide) ?_
          refine x_bipush C d_Mo_seasonFor_46 (v := 99) (by decide) ?_
          refine x_iload_n C d_Mo_seasonFor_48 2 rfl rfl ?_
          refine x_iload_n C d_Mo_seasonFor_49 3 rfl rfl ?_
          refine x_iload_n C d_Mo_seasonFor_50 4 rfl rfl ?_
          refine x_callVki C (c_Mo_firstFor_u Z (pI pq 3) pq mq v (by first | omega | (simp only [pI]; omega)) (by first | omega | (simp only [pI]; omega)) (by omega) (by omega) (g) _ rfl hk0) mi_Mo_firstFor k_1076 (show 0 < 12 by omega) (m_0 Z _) rfl (As := [.int (nI (pI pq 3)), .int (0), .int (99), .int (nI pq), .int (v), .int (nI mq)]) ⟨Nat.le_of_ble_eq_true rfl, Nat.le_of_ble_eq_true rfl⟩ rfl rfl (Nat.le_of_ble_eq_true rfl) d_Mo_seasonFor_51 (fun u_ hu_ => ?_)
          obtain ⟨ρ_8, rfl⟩ := hu_
          by_cases c_9 : (oI (fdo (fun c_ => decide (v ≤ dysM (upd (g 0) (pI pq 3) (nI c_)) mq (pI pq 5))) 100 0)) < 0
          · skip
            refine x_callVi C (c_Mo_orNone_t Z (oI (fdo (fun c_ => decide (v ≤ dysM (upd (g 0) (pI pq 3) (nI c_)) mq (pI pq 5))) 100 0)) (by assumption) (va_up g 2 ρ_8) _ (va_up_ne _ _ (by omega))) mi_Mo_orNone k_1044 (show 0 < 12 by omega) (m_0 Z _) rfl (As := [.int (oI (fdo (fun c_ => decide (v ≤ dysM (upd (g 0) (pI pq 3) (nI c_)) mq (pI pq 5))) 100 0))]) ⟨Nat.le_of_ble_eq_true rfl, Nat.le_of_ble_eq_true rfl⟩ rfl rfl (Nat.le_of_ble_eq_true rfl) d_Mo_seasonFor_54 ?_
            refine x_goto C d_Mo_seasonFor_57 66 (by decide) ?_
            exact x_iretK C (by first | with_reducible rfl | (simp [*, -hd]; done) | (simp [*]; done) | (simp_all; done)) (kfinM (G' := va_up g 4 (mfnR (g 4) 3)) (by first | with_reducible rfl | (simp [*, -hd]; done) | (simp [*]; done) | (simp_all; done)) (va_com (by omega))) d_Mo_seasonFor_66
          · skip
            refine x_callVi C (c_Mo_orNone_f Z (oI (fdo (fun c_ => decide (v ≤ dysM (upd (g 0) (pI pq 3) (nI c_)) mq (pI pq 5))) 100 0)) (by assumption) (va_up g 2 ρ_8)) mi_Mo_orNone k_1044 (show 0 < 12 by omega) (m_0 Z _) rfl (As := [.int (oI (fdo (fun c_ => decide (v ≤ dysM (upd (g 0) (pI pq 3) (nI c_)) mq (pI pq 5))) 100 0))]) ⟨Nat.le_of_ble_eq_true rfl, Nat.le_of_ble_eq_true rfl⟩ rfl rfl (Nat.le_of_ble_eq_true rfl) d_Mo_seasonFor_54 ?_
            refine x_goto C d_Mo_seasonFor_57 66 (by decide) ?_
            exact x_iretK C (by first | with_reducible rfl | (simp [*, -hd]; done) | (simp [*]; done) | (simp_all; done)) (kfinM (G' := g) (by first | with_reducible rfl | (simp [*, -hd]; done) | (simp [*]; done) | (simp_all; done)) rfl) d_Mo_seasonFor_66

set_option maxRecDepth 100000 in
set_option maxHeartbeats 600000 in
theorem c_Mo_bagsFor (Z : ZT) (p m : Int32) (g : St)  (hk : okR (g 0)) : CT yM Z y_Mo_bagsFor b_Mo_bagsFor 3 (some (.int)) 8 186 [.ref (Z.2.1 (0)), .int (p), .int (m)] (g) (QkI yM Z (if ¬ ((0 ≤ p ∧ p < g 0 1) ∧ (0 ≤ m ∧ m ≤ 40)) then (-1000001) else if fdn (fun c_ => decide (g 0 (pI p.toNatClampNeg 5) + 1 ≤ dysM (upd (g 0) (pI p.toNatClampNeg 4) (nI c_)) m.toNatClampNeg (pI p.toNatClampNeg 5))) 10 < 0 then (-1000004) else fdn (fun c_ => decide (g 0 (pI p.toNatClampNeg 5) + 1 ≤ dysM (upd (g 0) (pI p.toNatClampNeg 4) (nI c_)) m.toNatClampNeg (pI p.toNatClampNeg 5))) 10) (fun u => ∃ ρ : Nat → Int32, u = va_up (if ¬ ((0 ≤ p ∧ p < g 0 1) ∧ (0 ≤ m ∧ m ≤ 40)) then va_up g 4 (mfnR (g 4) 0) else if fdn (fun c_ => decide (g 0 (pI p.toNatClampNeg 5) + 1 ≤ dysM (upd (g 0) (pI p.toNatClampNeg 4) (nI c_)) m.toNatClampNeg (pI p.toNatClampNeg 5))) 10 < 0 then va_up g 4 (mfnR (g 4) 3) else g) 2 ρ)) := by
  refine CT.mk "TunnelPeaceModel" (by decide) rfl (Nat.le_of_ble_eq_true rfl) (fun X C => ?_)
  refine x_lv [0, 1, 2] (lv' := [(0, .ref (Z.2.1 (0))), (1, .int (p)), (2, .int (m))]) rfl ?_
  have hk0 := hk
  obtain ⟨⟨n, hn8, hn⟩, dd, hdd, hd⟩ := hk
  refine x_aload_n C d_Mo_bagsFor_0 0 rfl rfl ?_
  refine x_iload_n C d_Mo_bagsFor_1 1 rfl rfl ?_
  refine x_callVi C (c_Mo_isPerson Z p n (by omega) (g) hn) mi_Mo_isPerson k_907 (show 0 < 12 by omega) (m_0 Z _) rfl (As := [.int (p)]) ⟨Nat.le_of_ble_eq_true rfl, Nat.le_of_ble_eq_true rfl⟩ rfl rfl (Nat.le_of_ble_eq_true rfl) d_Mo_bagsFor_2 ?_
  refine x_ifeqB C d_Mo_bagsFor_5 44 (by decide) (fun c_1 => ?_) (fun c_1 => ?_)
  · refine x_aload_n C d_Mo_bagsFor_44 0 rfl rfl ?_
    refine x_ldc C d_Mo_bagsFor_45 k_866 ?_
    refine x_callVi C (c_Mo_finding_0 Z (g) _ rfl) mi_Mo_finding k_867 (show 0 < 12 by omega) (m_0 Z _) rfl (As := [.int ((-1000001))]) ⟨Nat.le_of_ble_eq_true rfl, Nat.le_of_ble_eq_true rfl⟩ rfl rfl (Nat.le_of_ble_eq_true rfl) d_Mo_bagsFor_47 ?_
    exact x_iretK C (by first | with_reducible rfl | (simp [*, -hd]; done) | (simp [*]; done) | (simp_all; done)) (kfinM (G' := va_up g 4 (mfnR (g 4) 0)) (by first | with_reducible rfl | (simp [*, -hd]; done) | (simp [*]; done) | (simp_all; done)) (va_idn (by omega)).symm) d_Mo_bagsFor_50
  · obtain ⟨pq, hpq, rfl⟩ := in_of c_1 (by omega)
    have hcp : (nI pq).toNatClampNeg = pq := nI_clamp (by omega)
    refine x_iload_n C d_Mo_bagsFor_8 2 rfl rfl ?_
    refine x_callSi C (c_Mo_isThought Z m (g)) mi_Mo_isThought k_1061 (As := [.int (m)]) ⟨Nat.le_of_ble_eq_true rfl, Nat.le_of_ble_eq_true rfl⟩ rfl rfl (Nat.le_of_ble_eq_true rfl) d_Mo_bagsFor_9 ?_
    refine x_ifeqB C d_Mo_bagsFor_12 44 (by decide) (fun c_2 => ?_) (fun c_2 => ?_)
    · refine x_aload_n C d_Mo_bagsFor_44 0 rfl rfl ?_
      refine x_ldc C d_Mo_bagsFor_45 k_866 ?_
      refine x_callVi C (c_Mo_finding_0 Z (g) _ rfl) mi_Mo_finding k_867 (show 0 < 12 by omega) (m_0 Z _) rfl (As := [.int ((-1000001))]) ⟨Nat.le_of_ble_eq_true rfl, Nat.le_of_ble_eq_true rfl⟩ rfl rfl (Nat.le_of_ble_eq_true rfl) d_Mo_bagsFor_47 ?_
      exact x_iretK C (by first | with_reducible rfl | (simp [*, -hd]; done) | (simp [*]; done) | (simp_all; done)) (kfinM (G' := va_up g 4 (mfnR (g 4) 0)) (by first | with_reducible rfl | (simp [*, -hd]; done) | (simp [*]; done) | (simp_all; done)) (va_idn (by omega)).symm) d_Mo_bagsFor_50
    · obtain ⟨mq, hmq, rfl⟩ := in_le (n := 40) c_2 (by decide)
      have hcm : (nI mq).toNatClampNeg = mq := nI_clamp (by omega)
      refine x_aload_n C d_Mo_bagsFor_15 0 rfl rfl ?_
      refine x_aload_n C d_Mo_bagsFor_16 0 rfl rfl ?_
      refine x_iload_n C d_Mo_bagsFor_17 1 rfl rfl ?_
      refine x_iconst C d_Mo_bagsFor_18 (v := 4) (by decide) ?_
      refine x_callSi C (c_Mo_personAt Z pq 4 (g)) mi_Mo_personAt k_897 (As := [.int (nI pq), .int (4)]) ⟨Nat.le_of_ble_eq_true rfl, Nat.le_of_ble_eq_true rfl⟩ rfl rfl (Nat.le_of_ble_eq_true rfl) d_Mo_bagsFor_19 ?_
      refine x_bipush C d_Mo_bagsFor_22 (v := 9) (by decide) ?_
      refine x_iconst C d_Mo_bagsFor_24 (v := 0) (by decide) ?_
      refine x_iload_n C d_Mo_bagsFor_25 1 rfl rfl ?_
      refine x_aload_n C d_Mo_bagsFor_26 0 rfl rfl ?_
      refine x_iload_n C d_Mo_bagsFor_27 1 rfl rfl ?_
      refine x_iconst C d_Mo_bagsFor_28 (v := 5) (by decide) ?_
      refine x_callVi C (c_Mo_personIs Z pq 5 (by omega) (by omega) (g) _ rfl) mi_Mo_personIs k_919 (show 0 < 12 by omega) (m_0 Z _) rfl (As := [.int (nI pq), .int (5)]) ⟨Nat.le_of_ble_eq_true rfl, Nat.le_of_ble_eq_true rfl⟩ rfl rfl (Nat.le_of_ble_eq_true rfl) d_Mo_bagsFor_29 ?_
      refine x_iconst C d_Mo_bagsFor_32 (v := 1) (by decide) ?_
      refine x_iadd C d_Mo_bagsFor_33 ?_
      refine x_iload_n C d_Mo_bagsFor_34 2 rfl rfl ?_
      refine x_callVki C (c_Mo_firstFor_d Z (pI pq 4) pq mq ((g 0 (pI pq 5)) + 1) (by first | omega | (simp only [pI]; omega)) (by first | omega | (simp only [pI]; omega)) (by omega) (by omega) (g) _ rfl hk0) mi_Mo_firstFor k_1076 (show 0 < 12 by omega) (m_0 Z _) rfl (As := [.int (nI (pI pq 4)), .int (9), .int (0), .int (nI pq), .int ((g 0 (pI pq 5)) + 1), .int (nI mq)]) ⟨Nat.le_of_ble_eq_true rfl, Nat.le_of_ble_eq_true rfl⟩ rfl rfl (Nat.le_of_ble_eq_true rfl) d_Mo_bagsFor_35 (fun u_ hu_ => ?_)
      obtain ⟨ρ_3, rfl⟩ := hu_
      by_cases c_4 : (fdn (fun c_ => decide (((g 0 (pI pq 5)) + 1) ≤ dysM (upd (g 0) (pI pq 4) (nI c_)) mq (pI pq 5))) 10) < 0
      · skip
        refine x_callVi C (c_Mo_orNone_t Z (fdn (fun c_ => decide (((g 0 (pI pq 5)) + 1) ≤ dysM (upd (g 0) (pI pq 4) (nI c_)) mq (pI pq 5))) 10) (by assumption) (va_up g 2 ρ_3) _ (va_up_ne _ _ (by omega))) mi_Mo_orNone k_1044 (show 0 < 12 by omega) (m_0 Z _) rfl (As := [.int (fdn (fun c_ => decide (((g 0 (pI pq 5)) + 1) ≤ dysM (upd (g 0) (pI pq 4) (nI c_)) mq (pI pq 5))) 10)]) ⟨Nat.le_of_ble_eq_true rfl, Nat.le_of_ble_eq_true rfl⟩ rfl rfl (Nat.le_of_ble_eq_true rfl) d_Mo_bagsFor_38 ?_
        refine x_goto C d_Mo_bagsFor_41 50 (by decide) ?_
        exact x_iretK C (by first | with_reducible rfl | (simp [*, -hd]; done) | (simp [*]; done) | (simp_all; done)) (kfinM (G' := va_up g 4 (mfnR (g 4) 3)) (by first | with_reducible rfl | (simp [*, -hd]; done) | (simp [*]; done) | (simp_all; done)) (va_com (by omega))) d_Mo_bagsFor_50
      · skip
        refine x_callVi C (c_Mo_orNone_f Z (fdn (fun c_ => decide (((g 0 (pI pq 5)) + 1) ≤ dysM (upd (g 0) (pI pq 4) (nI c_)) mq (pI pq 5))) 10) (by assumption) (va_up g 2 ρ_3)) mi_Mo_orNone k_1044 (show 0 < 12 by omega) (m_0 Z _) rfl (As := [.int (fdn (fun c_ => decide (((g 0 (pI pq 5)) + 1) ≤ dysM (upd (g 0) (pI pq 4) (nI c_)) mq (pI pq 5))) 10)]) ⟨Nat.le_of_ble_eq_true rfl, Nat.le_of_ble_eq_true rfl⟩ rfl rfl (Nat.le_of_ble_eq_true rfl) d_Mo_bagsFor_38 ?_
        refine x_goto C d_Mo_bagsFor_41 50 (by decide) ?_
        exact x_iretK C (by first | with_reducible rfl | (simp [*, -hd]; done) | (simp [*]; done) | (simp_all; done)) (kfinM (G' := g) (by first | with_reducible rfl | (simp [*, -hd]; done) | (simp [*]; done) | (simp_all; done)) rfl) d_Mo_bagsFor_50

set_option maxRecDepth 100000 in
set_option maxHeartbeats 600000 in
theorem c_Mo_drawn (Z : ZT)  (g : St)  (r : Nat → Int32) (hr : g 0 = r) : CT yM Z y_Mo_drawn b_Mo_drawn 1 (some (.int)) 0 0 [.ref (Z.2.1 (0))] (g) (QcI yM Z (ush8 (drw (r 2))) (va_up g 0 (upd r 2 (drw (r 2))))) := by
  refine CT.mk "TunnelPeaceModel" (by decide) rfl (Nat.le_of_ble_eq_true rfl) (fun X C => ?_)
  refine x_lv [0] (lv' := [(0, .ref (Z.2.1 (0)))]) rfl ?_
  subst hr
  refine x_aload_n C d_Mo_drawn_0 0 rfl rfl ?_
  refine gf_Mo_now C k_791 d_Mo_drawn_1 ?_
  refine x_iconst C d_Mo_drawn_4 (v := 2) (by decide) ?_
  refine x_aload_n C d_Mo_drawn_5 0 rfl rfl ?_
  refine gf_Mo_now C k_791 d_Mo_drawn_6 ?_
  refine x_iconst C d_Mo_drawn_9 (v := 2) (by decide) ?_
  refine al_m_now C 2 (v := g 0 2) (by decide) (by first | omega | (simp only [pI]; omega)) rfl d_Mo_drawn_10 ?_
  refine x_ldc C d_Mo_drawn_11 k_1127 ?_
  refine x_imul C d_Mo_drawn_13 ?_
  refine x_sipush C d_Mo_drawn_14 (v := 12345) (by decide) ?_
  refine x_iadd C d_Mo_drawn_17 ?_
  refine as_m_now C 2 (v := ((g 0 2) * (1103515245)) + 12345) (by decide) (by first | omega | (simp only [pI]; omega)) (G := va_up g 0 (upd (g 0) 2 (((g 0 2) * (1103515245)) + 12345))) rfl d_Mo_drawn_18 ?_
  refine x_aload_n C d_Mo_drawn_19 0 rfl rfl ?_
  refine gf_Mo_now C k_791 d_Mo_drawn_20 ?_
  refine x_iconst C d_Mo_drawn_23 (v := 2) (by decide) ?_
  refine al_m_now C 2 (v := ((g 0 2) * (1103515245)) + 12345) (by decide) (by first | omega | (simp only [pI]; omega)) (Eq.trans (congrFun (va_up_self _ _ _) _) pk_us) d_Mo_drawn_24 ?_
  refine x_bipush C d_Mo_drawn_25 (v := 8) (by decide) ?_
  refine x_iushr C d_Mo_drawn_27 ?_
  refine x_topi (x' := ush8 (((g 0 2) * (1103515245)) + 12345)) rfl ?_
  exact x_iret C rfl rfl d_Mo_drawn_28

set_option maxRecDepth 100000 in
set_option maxHeartbeats 600000 in
theorem c_Mo_seed (Z : ZT) (v : Int32) (g : St)  (hk : okR (g 0)) : CT yM Z y_Mo_seed b_Mo_seed 2 (some (.int)) 1 23 [.ref (Z.2.1 (0)), .int (v)] (g) (QkI yM Z (g 0 2) (fun u => ∃ ρ : Nat → Int32, u = va_up (va_up g 0 (upd (g 0) 2 v)) 2 ρ)) := by
  refine CT.mk "TunnelPeaceModel" (by decide) rfl (Nat.le_of_ble_eq_true rfl) (fun X C => ?_)
  refine x_lv [0, 1] (lv' := [(0, .ref (Z.2.1 (0))), (1, .int (v))]) rfl ?_
  have hk0 := hk
  obtain ⟨⟨n, hn8, hn⟩, dd, hdd, hd⟩ := hk
  refine x_aload_n C d_Mo_seed_0 0 rfl rfl ?_
  refine x_iconst C d_Mo_seed_1 (v := 2) (by decide) ?_
  refine x_iload_n C d_Mo_seed_2 1 rfl rfl ?_
  refine x_callVi C (c_Mo_become Z 2 (by first | omega | (simp only [pI]; omega)) v (g) _ rfl) mi_Mo_become k_862 (show 0 < 12 by omega) (m_0 Z _) rfl (As := [.int (2), .int (v)]) ⟨Nat.le_of_ble_eq_true rfl, Nat.le_of_ble_eq_true rfl⟩ rfl rfl (Nat.le_of_ble_eq_true rfl) d_Mo_seed_3 ?_
  exact x_iretK C rfl (kfinM (G' := va_up g 0 (upd (g 0) 2 v)) (by first | with_reducible rfl | (simp [*, -hd]; done) | (simp [*]; done) | (simp_all; done)) (va_idn (by omega)).symm) d_Mo_seed_6
