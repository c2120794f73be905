set_option maxRecDepth 100000 in
set_option maxHeartbeats 600000 in
theorem c_Mo_readPerson (Z : ZT) (b r : Nat → Int32) (L e : Nat) (hL : L ≤ 120) (he : e ≤ L) (c n : Nat) (hc : c < 120) (hn8 : n ≤ 8) (g : St)  (h5 : g 5 = b) (h3 : g 3 = lxS b r L e 0 (nI c) (nI n)) (hr : r 6 = nI L) (hB : ∀ k, k < L → ¬ b k < 0) : CT yM Z y_Mo_readPerson b_Mo_readPerson 6 none 6 130 [.ref (Z.2.1 (0)), .int (nI (kd b L e))] (g) (QcV yM Z (va_up (va_up g 7 (perI b L n e c (g 7))) 3 (lxS b r L (pS5 b L n e).1 (wI (pS5 b L n e).2) (nI (c + 1)) (nI (n + 1))))) := by
  refine CT.mk "TunnelPeaceModel" (by decide) rfl (Nat.le_of_ble_eq_true rfl) (fun X C => ?_)
  refine x_lv [0, 1] (lv' := [(0, .ref (Z.2.1 (0))), (1, .int (nI (kd b L e)))]) rfl ?_
  subst h5
  have hp := pS_le (b := g 5) (n := n) he
  have hdl := tnd_le (b := g 5) he
  refine x_eqg (g' := va_up g 3 (lxS (g 5) r L e 0 (nI c) (nI n))) (by rw [← h3, va_id]) ?_
  refine x_aload_n C d_Mo_readPerson_0 0 rfl rfl ?_
  refine x_aload_n C d_Mo_readPerson_1 0 rfl rfl ?_
  have J_18 : WX X 6 yM Z (QX X yM Z (QcV yM Z (va_up (va_up g 7 (perI (g 5) L n e c (g 7))) 3 (lxS (g 5) r L (pS5 (g 5) L n e).1 (wI (pS5 (g 5) L n e).2) (nI (c + 1)) (nI (n + 1)))))) (va_up g 3 (lxS (g 5) r L (mS (g 5) L (n < 8) (e, false)).1 (wI (mS (g 5) L (n < 8) (e, false)).2) (nI c) (nI n))) 18 [(0, .ref (Z.2.1 (0))), (1, .int (nI (kd (g 5) L e)))] [] := by
    refine x_aload_n C d_Mo_readPerson_18 0 rfl rfl ?_
    refine x_iconst C d_Mo_readPerson_19 (v := 0) (by decide) ?_
    refine x_iconst C d_Mo_readPerson_20 (v := 1) (by decide) ?_
    refine x_callVi C (c_Mo_numberS Z (g 5) r L (mS (g 5) L (n < 8) (e, false)) hL (mS_le he) (nI c) (nI n) 1 (by decide) (va_up g 3 (lxS (g 5) r L (mS (g 5) L (n < 8) (e, false)).1 (wI (mS (g 5) L (n < 8) (e, false)).2) (nI c) (nI n))) ((va_up_ne _ _ (by omega))) ((va_up_self _ _ _)) hr hB) mi_Mo_number k_1178 (show 0 < 12 by omega) (m_0 Z _) rfl (As := [.int (0), .int (1)]) ⟨Nat.le_of_ble_eq_true rfl, Nat.le_of_ble_eq_true rfl⟩ rfl rfl (Nat.le_of_ble_eq_true rfl) d_Mo_readPerson_21 ?_
    refine x_eqg (g' := va_up g 3 (lxS (g 5) r L (nS (g 5) L 1 (mS (g 5) L (n < 8) (e, false))).1 (wI (nS (g 5) L 1 (mS (g 5) L (n < 8) (e, false))).2) (nI c) (nI n))) (bx_uu _ _ _ _) ?_
    refine x_istore_n C d_Mo_readPerson_24 rfl (by decide) (lv' := [(2, .int (nI (tnm (g 5) L ((mS (g 5) L (n < 8) (e, false)).1)))), (0, .ref (Z.2.1 (0))), (1, .int (nI (kd (g 5) L e)))]) rfl ?_
    refine x_eqg (g' := va_up g 3 (lxS (g 5) r L (pS1 (g 5) L n e).1 (wI (pS1 (g 5) L n e).2) (nI c) (nI n))) rfl ?_
    refine x_lve (lv' := [(2, .int (sdP (g 5) L n e)), (0, .ref (Z.2.1 (0))), (1, .int (nI (kd (g 5) L e)))]) rfl ?_
    refine x_aload_n C d_Mo_readPerson_25 1 rfl rfl ?_
    have J_50 : WX X 6 yM Z (QX X yM Z (QcV yM Z (va_up (va_up g 7 (perI (g 5) L n e c (g 7))) 3 (lxS (g 5) r L (pS5 (g 5) L n e).1 (wI (pS5 (g 5) L n e).2) (nI (c + 1)) (nI (n + 1)))))) (va_up g 3 (lxS (g 5) r L (pS2 (g 5) L n e).1 (wI (pS2 (g 5) L n e).2) (nI c) (nI n))) 50 [(3, .int (oV (g 5) L 9 (lft (sdP (g 5) L n e)) (pS1 (g 5) L n e))), (2, .int (sdP (g 5) L n e)), (0, .ref (Z.2.1 (0))), (1, .int (nI (kd (g 5) L e)))] [] := by
      refine x_aload_n C d_Mo_readPerson_50 2 rfl rfl ?_
      have J_74 : WX X 6 yM Z (QX X yM Z (QcV yM Z (va_up (va_up g 7 (perI (g 5) L n e c (g 7))) 3 (lxS (g 5) r L (pS5 (g 5) L n e).1 (wI (pS5 (g 5) L n e).2) (nI (c + 1)) (nI (n + 1)))))) (va_up g 3 (lxS (g 5) r L (pS3 (g 5) L n e).1 (wI (pS3 (g 5) L n e).2) (nI c) (nI n))) 74 [(4, .int (oV (g 5) L 10 30 (pS2 (g 5) L n e))), (3, .int (oV (g 5) L 9 (lft (sdP (g 5) L n e)) (pS1 (g 5) L n e))), (2, .int (sdP (g 5) L n e)), (0, .ref (Z.2.1 (0))), (1, .int (nI (kd (g 5) L e)))] [] := by
        refine x_aload_n C d_Mo_readPerson_74 3 rfl rfl ?_
        have J_97 : WX X 6 yM Z (QX X yM Z (QcV yM Z (va_up (va_up g 7 (perI (g 5) L n e c (g 7))) 3 (lxS (g 5) r L (pS5 (g 5) L n e).1 (wI (pS5 (g 5) L n e).2) (nI (c + 1)) (nI (n + 1)))))) (va_up g 3 (lxS (g 5) r L (pS4 (g 5) L n e).1 (wI (pS4 (g 5) L n e).2) (nI c) (nI n))) 97 [(5, .int (oV (g 5) L 11 0 (pS3 (g 5) L n e))), (4, .int (oV (g 5) L 10 30 (pS2 (g 5) L n e))), (3, .int (oV (g 5) L 9 (lft (sdP (g 5) L n e)) (pS1 (g 5) L n e))), (2, .int (sdP (g 5) L n e)), (0, .ref (Z.2.1 (0))), (1, .int (nI (kd (g 5) L e)))] [] := by
          refine x_aload_n C d_Mo_readPerson_97 4 rfl rfl ?_
          refine x_iload_n C d_Mo_readPerson_98 5 rfl rfl ?_
          refine x_iload_n C d_Mo_readPerson_99 3 rfl rfl ?_
          refine x_iload_n C d_Mo_readPerson_100 2 rfl rfl ?_
          refine x_iload C d_Mo_readPerson_101 1 rfl ?_
          refine x_iload C d_Mo_readPerson_103 0 rfl ?_
          refine x_aload_n C d_Mo_readPerson_105 4 rfl rfl ?_
          refine x_ldcSw C d_Mo_readPerson_106 23 rfl ?_
          by_cases c_1 : (pS4 (g 5) L n e).2 = false ∧ isW (g 5) L 12 (pS4 (g 5) L n e).1 = true
          · skip
            refine x_callVi C (c_Mo_takesWord_ST Z (g 5) r L (pS4 (g 5) L n e) hL (hp.2.2.2.1) (nI c) (nI n) 12 (by decide) (va_up g 3 (lxS (g 5) r L (pS4 (g 5) L n e).1 (wI (pS4 (g 5) L n e).2) (nI c) (nI n))) ((va_up_ne _ _ (by omega))) ((va_up_self _ _ _)) hr hB (by with_reducible assumption)) mi_Mo_takesWord k_1183 (show 0 < 12 by omega) (m_0 Z _) rfl (As := [.ref (Z.2.2.2.2.1 12)]) ⟨Nat.le_of_ble_eq_true rfl, Nat.le_of_ble_eq_true rfl⟩ rfl rfl (Nat.le_of_ble_eq_true rfl) d_Mo_readPerson_109 ?_
            refine x_eqg (g' := va_up g 3 (lxS (g 5) r L (tnd (g 5) L (pS4 (g 5) L n e).1) 0 (nI c) (nI n))) (bx_uu _ _ _ _) ?_
            refine x_ifeq C d_Mo_readPerson_112 126 (by decide) (fun c_2 => ?_) (fun c_2 => ?_)
            · exact absurd c_2 (by decide)
            · refine x_aload_n C d_Mo_readPerson_115 4 rfl rfl ?_
              refine x_iconst C d_Mo_readPerson_116 (v := 0) (by decide) ?_
              refine x_sipush C d_Mo_readPerson_117 (v := 9999) (by decide) ?_
              refine x_callVi C (c_Mo_numberS Z (g 5) r L ((tnd (g 5) L (pS4 (g 5) L n e).1, false)) hL (tnd_le (hp.2.2.2.1)) (nI c) (nI n) 9999 (by decide) (va_up g 3 (lxS (g 5) r L (tnd (g 5) L (pS4 (g 5) L n e).1) 0 (nI c) (nI n))) ((va_up_ne _ _ (by omega))) ((va_up_self _ _ _)) hr hB) mi_Mo_number k_1178 (show 0 < 12 by omega) (m_0 Z _) rfl (As := [.int (0), .int (9999)]) ⟨Nat.le_of_ble_eq_true rfl, Nat.le_of_ble_eq_true rfl⟩ rfl rfl (Nat.le_of_ble_eq_true rfl) d_Mo_readPerson_120 ?_
              refine x_eqg (g' := va_up g 3 (lxS (g 5) r L (nS (g 5) L 9999 (tnd (g 5) L (pS4 (g 5) L n e).1, false)).1 (wI (nS (g 5) L 9999 (tnd (g 5) L (pS4 (g 5) L n e).1, false)).2) (nI c) (nI n))) (bx_uu _ _ _ _) ?_
              refine x_goto C d_Mo_readPerson_123 127 (by decide) ?_
              refine x_callVv C (c_Mo_addItem Z c hc (nI (kd (g 5) L e)) (sdP (g 5) L n e) (oV (g 5) L 9 (lft (sdP (g 5) L n e)) (pS1 (g 5) L n e)) (oV (g 5) L 10 30 (pS2 (g 5) L n e)) (oV (g 5) L 11 0 (pS3 (g 5) L n e)) (nI (tnm (g 5) L (tnd (g 5) L (pS4 (g 5) L n e).1))) (va_up g 3 (lxS (g 5) r L (nS (g 5) L 9999 (tnd (g 5) L (pS4 (g 5) L n e).1, false)).1 (wI (nS (g 5) L 9999 (tnd (g 5) L (pS4 (g 5) L n e).1, false)).2) (nI c) (nI n))) (by rw [(va_up_self _ _ _)]; rfl)) mi_Mo_addItem k_1190 (show 0 < 12 by omega) (m_0 Z _) rfl (As := [.int (nI (kd (g 5) L e)), .int (sdP (g 5) L n e), .int (oV (g 5) L 9 (lft (sdP (g 5) L n e)) (pS1 (g 5) L n e)), .int (oV (g 5) L 10 30 (pS2 (g 5) L n e)), .int (oV (g 5) L 11 0 (pS3 (g 5) L n e)), .int (nI (tnm (g 5) L (tnd (g 5) L (pS4 (g 5) L n e).1)))]) ⟨Nat.le_of_ble_eq_true rfl, Nat.le_of_ble_eq_true rfl⟩ rfl rfl (Nat.le_of_ble_eq_true rfl) d_Mo_readPerson_127 ?_
              refine x_eqg (g' := va_up (va_up g 7 (add6 (g 7) c (nI (kd (g 5) L e)) (sdP (g 5) L n e) (oV (g 5) L 9 (lft (sdP (g 5) L n e)) (pS1 (g 5) L n e)) (oV (g 5) L 10 30 (pS2 (g 5) L n e)) (oV (g 5) L 11 0 (pS3 (g 5) L n e)) (nI (tnm (g 5) L (tnd (g 5) L (pS4 (g 5) L n e).1))))) 3 (lxS (g 5) r L (nS (g 5) L 9999 (tnd (g 5) L (pS4 (g 5) L n e).1, false)).1 (wI (nS (g 5) L 9999 (tnd (g 5) L (pS4 (g 5) L n e).1, false)).2) (nI (c + 1)) (nI n))) (by rw [va_up_self, va_up_ne _ _ (by decide), lxS_14, va_com (a := 3) (b := 7) (by decide), bx_uu]) ?_
              refine x_aload_n C d_Mo_readPerson_130 4 rfl rfl ?_
              refine x_dup C d_Mo_readPerson_131 rfl ?_
              refine gf_Mo_peopleThen C (v := nI n) (Eq.trans (congrFun (va_up_self _ _ _) _) rfl) k_806 d_Mo_readPerson_132 ?_
              refine x_iconst C d_Mo_readPerson_135 (v := 1) (by decide) ?_
              refine x_iadd C d_Mo_readPerson_136 ?_
              refine x_topi (x' := nI (n + 1)) (nI_1 _) ?_
              refine pf_Mo_peopleThen C (v := nI (n + 1)) (G := va_up (va_up g 7 (add6 (g 7) c (nI (kd (g 5) L e)) (sdP (g 5) L n e) (oV (g 5) L 9 (lft (sdP (g 5) L n e)) (pS1 (g 5) L n e)) (oV (g 5) L 10 30 (pS2 (g 5) L n e)) (oV (g 5) L 11 0 (pS3 (g 5) L n e)) (nI (tnm (g 5) L (tnd (g 5) L (pS4 (g 5) L n e).1))))) 3 (lxS (g 5) r L (nS (g 5) L 9999 (tnd (g 5) L (pS4 (g 5) L n e).1, false)).1 (wI (nS (g 5) L 9999 (tnd (g 5) L (pS4 (g 5) L n e).1, false)).2) (nI (c + 1)) (nI (n + 1)))) (Eq.trans up_va (congrArg (va_up _ _) lxS_15)) k_806 d_Mo_readPerson_137 ?_
              exact x_vret C (by unfold perI; rw [show pS5 (g 5) L n e = nS (g 5) L 9999 (tnd (g 5) L (pS4 (g 5) L n e).1, false) from if_pos (by with_reducible assumption), show oV (g 5) L 12 0 (pS4 (g 5) L n e) = nI (tnm (g 5) L (tnd (g 5) L (pS4 (g 5) L n e).1)) from if_pos (by with_reducible assumption)]) d_Mo_readPerson_140
          · skip
            refine x_callVi C (c_Mo_takesWord_SF Z (g 5) r L (pS4 (g 5) L n e) hL (hp.2.2.2.1) (nI c) (nI n) 12 (by decide) (va_up g 3 (lxS (g 5) r L (pS4 (g 5) L n e).1 (wI (pS4 (g 5) L n e).2) (nI c) (nI n))) ((va_up_ne _ _ (by omega))) ((va_up_self _ _ _)) hr hB (by with_reducible assumption)) mi_Mo_takesWord k_1183 (show 0 < 12 by omega) (m_0 Z _) rfl (As := [.ref (Z.2.2.2.2.1 12)]) ⟨Nat.le_of_ble_eq_true rfl, Nat.le_of_ble_eq_true rfl⟩ rfl rfl (Nat.le_of_ble_eq_true rfl) d_Mo_readPerson_109 ?_
            refine x_ifeq C d_Mo_readPerson_112 126 (by decide) (fun c_3 => ?_) (fun c_3 => ?_)
            · refine x_iconst C d_Mo_readPerson_126 (v := 0) (by decide) ?_
              refine x_callVv C (c_Mo_addItem Z c hc (nI (kd (g 5) L e)) (sdP (g 5) L n e) (oV (g 5) L 9 (lft (sdP (g 5) L n e)) (pS1 (g 5) L n e)) (oV (g 5) L 10 30 (pS2 (g 5) L n e)) (oV (g 5) L 11 0 (pS3 (g 5) L n e)) 0 (va_up g 3 (lxS (g 5) r L (pS4 (g 5) L n e).1 (wI (pS4 (g 5) L n e).2) (nI c) (nI n))) (by rw [(va_up_self _ _ _)]; rfl)) mi_Mo_addItem k_1190 (show 0 < 12 by omega) (m_0 Z _) rfl (As := [.int (nI (kd (g 5) L e)), .int (sdP (g 5) L n e), .int (oV (g 5) L 9 (lft (sdP (g 5) L n e)) (pS1 (g 5) L n e)), .int (oV (g 5) L 10 30 (pS2 (g 5) L n e)), .int (oV (g 5) L 11 0 (pS3 (g 5) L n e)), .int (0)]) ⟨Nat.le_of_ble_eq_true rfl, Nat.le_of_ble_eq_true rfl⟩ rfl rfl (Nat.le_of_ble_eq_true rfl) d_Mo_readPerson_127 ?_
              refine x_eqg (g' := va_up (va_up g 7 (add6 (g 7) c (nI (kd (g 5) L e)) (sdP (g 5) L n e) (oV (g 5) L 9 (lft (sdP (g 5) L n e)) (pS1 (g 5) L n e)) (oV (g 5) L 10 30 (pS2 (g 5) L n e)) (oV (g 5) L 11 0 (pS3 (g 5) L n e)) 0)) 3 (lxS (g 5) r L (pS4 (g 5) L n e).1 (wI (pS4 (g 5) L n e).2) (nI (c + 1)) (nI n))) (by rw [va_up_self, va_up_ne _ _ (by decide), lxS_14, va_com (a := 3) (b := 7) (by decide), bx_uu]) ?_
              refine x_aload_n C d_Mo_readPerson_130 4 rfl rfl ?_
              refine x_dup C d_Mo_readPerson_131 rfl ?_
              refine gf_Mo_peopleThen C (v := nI n) (Eq.trans (congrFun (va_up_self _ _ _) _) rfl) k_806 d_Mo_readPerson_132 ?_
              refine x_iconst C d_Mo_readPerson_135 (v := 1) (by decide) ?_
              refine x_iadd C d_Mo_readPerson_136 ?_
              refine x_topi (x' := nI (n + 1)) (nI_1 _) ?_
              refine pf_Mo_peopleThen C (v := nI (n + 1)) (G := va_up (va_up g 7 (add6 (g 7) c (nI (kd (g 5) L e)) (sdP (g 5) L n e) (oV (g 5) L 9 (lft (sdP (g 5) L n e)) (pS1 (g 5) L n e)) (oV (g 5) L 10 30 (pS2 (g 5) L n e)) (oV (g 5) L 11 0 (pS3 (g 5) L n e)) 0)) 3 (lxS (g 5) r L (pS4 (g 5) L n e).1 (wI (pS4 (g 5) L n e).2) (nI (c + 1)) (nI (n + 1)))) (Eq.trans up_va (congrArg (va_up _ _) lxS_15)) k_806 d_Mo_readPerson_137 ?_
              exact x_vret C (by unfold perI; rw [show pS5 (g 5) L n e = pS4 (g 5) L n e from if_neg (by with_reducible assumption), show oV (g 5) L 12 0 (pS4 (g 5) L n e) = 0 from if_neg (by with_reducible assumption)]) d_Mo_readPerson_140
            · exact absurd c_3 (by decide)
        refine x_ldcSw C d_Mo_readPerson_75 22 rfl ?_
        by_cases c_4 : (pS3 (g 5) L n e).2 = false ∧ isW (g 5) L 11 (pS3 (g 5) L n e).1 = true
        · skip
          refine x_callVi C (c_Mo_takesWord_ST Z (g 5) r L (pS3 (g 5) L n e) hL (hp.2.2.1) (nI c) (nI n) 11 (by decide) (va_up g 3 (lxS (g 5) r L (pS3 (g 5) L n e).1 (wI (pS3 (g 5) L n e).2) (nI c) (nI n))) ((va_up_ne _ _ (by omega))) ((va_up_self _ _ _)) hr hB (by with_reducible assumption)) mi_Mo_takesWord k_1183 (show 0 < 12 by omega) (m_0 Z _) rfl (As := [.ref (Z.2.2.2.2.1 11)]) ⟨Nat.le_of_ble_eq_true rfl, Nat.le_of_ble_eq_true rfl⟩ rfl rfl (Nat.le_of_ble_eq_true rfl) d_Mo_readPerson_78 ?_
          refine x_eqg (g' := va_up g 3 (lxS (g 5) r L (tnd (g 5) L (pS3 (g 5) L n e).1) 0 (nI c) (nI n))) (bx_uu _ _ _ _) ?_
          refine x_ifeq C d_Mo_readPerson_81 94 (by decide) (fun c_5 => ?_) (fun c_5 => ?_)
          · exact absurd c_5 (by decide)
          · refine x_aload_n C d_Mo_readPerson_84 3 rfl rfl ?_
            refine x_iconst C d_Mo_readPerson_85 (v := 0) (by decide) ?_
            refine x_bipush C d_Mo_readPerson_86 (v := 9) (by decide) ?_
            refine x_callVi C (c_Mo_numberS Z (g 5) r L ((tnd (g 5) L (pS3 (g 5) L n e).1, false)) hL (tnd_le (hp.2.2.1)) (nI c) (nI n) 9 (by decide) (va_up g 3 (lxS (g 5) r L (tnd (g 5) L (pS3 (g 5) L n e).1) 0 (nI c) (nI n))) ((va_up_ne _ _ (by omega))) ((va_up_self _ _ _)) hr hB) mi_Mo_number k_1178 (show 0 < 12 by omega) (m_0 Z _) rfl (As := [.int (0), .int (9)]) ⟨Nat.le_of_ble_eq_true rfl, Nat.le_of_ble_eq_true rfl⟩ rfl rfl (Nat.le_of_ble_eq_true rfl) d_Mo_readPerson_88 ?_
            refine x_eqg (g' := va_up g 3 (lxS (g 5) r L (nS (g 5) L 9 (tnd (g 5) L (pS3 (g 5) L n e).1, false)).1 (wI (nS (g 5) L 9 (tnd (g 5) L (pS3 (g 5) L n e).1, false)).2) (nI c) (nI n))) (bx_uu _ _ _ _) ?_
            refine x_goto C d_Mo_readPerson_91 95 (by decide) ?_
            refine x_istore C d_Mo_readPerson_95 (by decide) (lv' := [(5, .int (nI (tnm (g 5) L (tnd (g 5) L (pS3 (g 5) L n e).1)))), (4, .int (oV (g 5) L 10 30 (pS2 (g 5) L n e))), (3, .int (oV (g 5) L 9 (lft (sdP (g 5) L n e)) (pS1 (g 5) L n e))), (2, .int (sdP (g 5) L n e)), (0, .ref (Z.2.1 (0))), (1, .int (nI (kd (g 5) L e)))]) rfl ?_
            refine x_lve (lv' := [(5, .int (oV (g 5) L 11 0 (pS3 (g 5) L n e))), (4, .int (oV (g 5) L 10 30 (pS2 (g 5) L n e))), (3, .int (oV (g 5) L 9 (lft (sdP (g 5) L n e)) (pS1 (g 5) L n e))), (2, .int (sdP (g 5) L n e)), (0, .ref (Z.2.1 (0))), (1, .int (nI (kd (g 5) L e)))]) (by first | rw [show oV (g 5) L 11 0 (pS3 (g 5) L n e) = nI (tnm (g 5) L (tnd (g 5) L (pS3 (g 5) L n e).1)) from if_pos (by with_reducible assumption)] | rw [show oV (g 5) L 11 0 (pS3 (g 5) L n e) = 0 from if_neg (by with_reducible assumption)]) ?_
            refine x_eqg (g' := va_up g 3 (lxS (g 5) r L (pS4 (g 5) L n e).1 (wI (pS4 (g 5) L n e).2) (nI c) (nI n))) (by first | (rw [show pS4 (g 5) L n e = nS (g 5) L 9 (tnd (g 5) L (pS3 (g 5) L n e).1, false) from if_pos (by with_reducible assumption)]) | (rw [show pS4 (g 5) L n e = pS3 (g 5) L n e from if_neg (by with_reducible assumption)])) ?_
            exact J_97
        · skip
          refine x_callVi C (c_Mo_takesWord_SF Z (g 5) r L (pS3 (g 5) L n e) hL (hp.2.2.1) (nI c) (nI n) 11 (by decide) (va_up g 3 (lxS (g 5) r L (pS3 (g 5) L n e).1 (wI (pS3 (g 5) L n e).2) (nI c) (nI n))) ((va_up_ne _ _ (by omega))) ((va_up_self _ _ _)) hr hB (by with_reducible assumption)) mi_Mo_takesWord k_1183 (show 0 < 12 by omega) (m_0 Z _) rfl (As := [.ref (Z.2.2.2.2.1 11)]) ⟨Nat.le_of_ble_eq_true rfl, Nat.le_of_ble_eq_true rfl⟩ rfl rfl (Nat.le_of_ble_eq_true rfl) d_Mo_readPerson_78 ?_
          refine x_ifeq C d_Mo_readPerson_81 94 (by decide) (fun c_6 => ?_) (fun c_6 => ?_)
          · refine x_iconst C d_Mo_readPerson_94 (v := 0) (by decide) ?_
            refine x_istore C d_Mo_readPerson_95 (by decide) (lv' := [(5, .int (0)), (4, .int (oV (g 5) L 10 30 (pS2 (g 5) L n e))), (3, .int (oV (g 5) L 9 (lft (sdP (g 5) L n e)) (pS1 (g 5) L n e))), (2, .int (sdP (g 5) L n e)), (0, .ref (Z.2.1 (0))), (1, .int (nI (kd (g 5) L e)))]) rfl ?_
            refine x_lve (lv' := [(5, .int (oV (g 5) L 11 0 (pS3 (g 5) L n e))), (4, .int (oV (g 5) L 10 30 (pS2 (g 5) L n e))), (3, .int (oV (g 5) L 9 (lft (sdP (g 5) L n e)) (pS1 (g 5) L n e))), (2, .int (sdP (g 5) L n e)), (0, .ref (Z.2.1 (0))), (1, .int (nI (kd (g 5) L e)))]) (by first | rw [show oV (g 5) L 11 0 (pS3 (g 5) L n e) = nI (tnm (g 5) L (tnd (g 5) L (pS3 (g 5) L n e).1)) from if_pos (by with_reducible assumption)] | rw [show oV (g 5) L 11 0 (pS3 (g 5) L n e) = 0 from if_neg (by with_reducible assumption)]) ?_
            refine x_eqg (g' := va_up g 3 (lxS (g 5) r L (pS4 (g 5) L n e).1 (wI (pS4 (g 5) L n e).2) (nI c) (nI n))) (by first | (rw [show pS4 (g 5) L n e = nS (g 5) L 9 (tnd (g 5) L (pS3 (g 5) L n e).1, false) from if_pos (by with_reducible assumption)]) | (rw [show pS4 (g 5) L n e = pS3 (g 5) L n e from if_neg (by with_reducible assumption)])) ?_
            exact J_97
          · exact absurd c_6 (by decide)
      refine x_ldcSw C d_Mo_readPerson_51 21 rfl ?_
      by_cases c_7 : (pS2 (g 5) L n e).2 = false ∧ isW (g 5) L 10 (pS2 (g 5) L n e).1 = true
      · skip
        refine x_callVi C (c_Mo_takesWord_ST Z (g 5) r L (pS2 (g 5) L n e) hL (hp.2.1) (nI c) (nI n) 10 (by decide) (va_up g 3 (lxS (g 5) r L (pS2 (g 5) L n e).1 (wI (pS2 (g 5) L n e).2) (nI c) (nI n))) ((va_up_ne _ _ (by omega))) ((va_up_self _ _ _)) hr hB (by with_reducible assumption)) mi_Mo_takesWord k_1183 (show 0 < 12 by omega) (m_0 Z _) rfl (As := [.ref (Z.2.2.2.2.1 10)]) ⟨Nat.le_of_ble_eq_true rfl, Nat.le_of_ble_eq_true rfl⟩ rfl rfl (Nat.le_of_ble_eq_true rfl) d_Mo_readPerson_54 ?_
        refine x_eqg (g' := va_up g 3 (lxS (g 5) r L (tnd (g 5) L (pS2 (g 5) L n e).1) 0 (nI c) (nI n))) (bx_uu _ _ _ _) ?_
        refine x_ifeq C d_Mo_readPerson_57 70 (by decide) (fun c_8 => ?_) (fun c_8 => ?_)
        · exact absurd c_8 (by decide)
        · refine x_aload_n C d_Mo_readPerson_60 2 rfl rfl ?_
          refine x_iconst C d_Mo_readPerson_61 (v := 0) (by decide) ?_
          refine x_bipush C d_Mo_readPerson_62 (v := 99) (by decide) ?_
          refine x_callVi C (c_Mo_numberS Z (g 5) r L ((tnd (g 5) L (pS2 (g 5) L n e).1, false)) hL (tnd_le (hp.2.1)) (nI c) (nI n) 99 (by decide) (va_up g 3 (lxS (g 5) r L (tnd (g 5) L (pS2 (g 5) L n e).1) 0 (nI c) (nI n))) ((va_up_ne _ _ (by omega))) ((va_up_self _ _ _)) hr hB) mi_Mo_number k_1178 (show 0 < 12 by omega) (m_0 Z _) rfl (As := [.int (0), .int (99)]) ⟨Nat.le_of_ble_eq_true rfl, Nat.le_of_ble_eq_true rfl⟩ rfl rfl (Nat.le_of_ble_eq_true rfl) d_Mo_readPerson_64 ?_
          refine x_eqg (g' := va_up g 3 (lxS (g 5) r L (nS (g 5) L 99 (tnd (g 5) L (pS2 (g 5) L n e).1, false)).1 (wI (nS (g 5) L 99 (tnd (g 5) L (pS2 (g 5) L n e).1, false)).2) (nI c) (nI n))) (bx_uu _ _ _ _) ?_
          refine x_goto C d_Mo_readPerson_67 72 (by decide) ?_
          refine x_istore C d_Mo_readPerson_72 (by decide) (lv' := [(4, .int (nI (tnm (g 5) L (tnd (g 5) L (pS2 (g 5) L n e).1)))), (3, .int (oV (g 5) L 9 (lft (sdP (g 5) L n e)) (pS1 (g 5) L n e))), (2, .int (sdP (g 5) L n e)), (0, .ref (Z.2.1 (0))), (1, .int (nI (kd (g 5) L e)))]) rfl ?_
          refine x_lve (lv' := [(4, .int (oV (g 5) L 10 30 (pS2 (g 5) L n e))), (3, .int (oV (g 5) L 9 (lft (sdP (g 5) L n e)) (pS1 (g 5) L n e))), (2, .int (sdP (g 5) L n e)), (0, .ref (Z.2.1 (0))), (1, .int (nI (kd (g 5) L e)))]) (by first | rw [show oV (g 5) L 10 30 (pS2 (g 5) L n e) = nI (tnm (g 5) L (tnd (g 5) L (pS2 (g 5) L n e).1)) from if_pos (by with_reducible assumption)] | rw [show oV (g 5) L 10 30 (pS2 (g 5) L n e) = 30 from if_neg (by with_reducible assumption)]) ?_
          refine x_eqg (g' := va_up g 3 (lxS (g 5) r L (pS3 (g 5) L n e).1 (wI (pS3 (g 5) L n e).2) (nI c) (nI n))) (by first | (rw [show pS3 (g 5) L n e = nS (g 5) L 99 (tnd (g 5) L (pS2 (g 5) L n e).1, false) from if_pos (by with_reducible assumption)]) | (rw [show pS3 (g 5) L n e = pS2 (g 5) L n e from if_neg (by with_reducible assumption)])) ?_
          exact J_74
      · skip
        refine x_callVi C (c_Mo_takesWord_SF Z (g 5) r L (pS2 (g 5) L n e) hL (hp.2.1) (nI c) (nI n) 10 (by decide) (va_up g 3 (lxS (g 5) r L (pS2 (g 5) L n e).1 (wI (pS2 (g 5) L n e).2) (nI c) (nI n))) ((va_up_ne _ _ (by omega))) ((va_up_self _ _ _)) hr hB (by with_reducible assumption)) mi_Mo_takesWord k_1183 (show 0 < 12 by omega) (m_0 Z _) rfl (As := [.ref (Z.2.2.2.2.1 10)]) ⟨Nat.le_of_ble_eq_true rfl, Nat.le_of_ble_eq_true rfl⟩ rfl rfl (Nat.le_of_ble_eq_true rfl) d_Mo_readPerson_54 ?_
        refine x_ifeq C d_Mo_readPerson_57 70 (by decide) (fun c_9 => ?_) (fun c_9 => ?_)
        · refine x_bipush C d_Mo_readPerson_70 (v := 30) (by decide) ?_
          refine x_istore C d_Mo_readPerson_72 (by decide) (lv' := [(4, .int (30)), (3, .int (oV (g 5) L 9 (lft (sdP (g 5) L n e)) (pS1 (g 5) L n e))), (2, .int (sdP (g 5) L n e)), (0, .ref (Z.2.1 (0))), (1, .int (nI (kd (g 5) L e)))]) rfl ?_
          refine x_lve (lv' := [(4, .int (oV (g 5) L 10 30 (pS2 (g 5) L n e))), (3, .int (oV (g 5) L 9 (lft (sdP (g 5) L n e)) (pS1 (g 5) L n e))), (2, .int (sdP (g 5) L n e)), (0, .ref (Z.2.1 (0))), (1, .int (nI (kd (g 5) L e)))]) (by first | rw [show oV (g 5) L 10 30 (pS2 (g 5) L n e) = nI (tnm (g 5) L (tnd (g 5) L (pS2 (g 5) L n e).1)) from if_pos (by with_reducible assumption)] | rw [show oV (g 5) L 10 30 (pS2 (g 5) L n e) = 30 from if_neg (by with_reducible assumption)]) ?_
          refine x_eqg (g' := va_up g 3 (lxS (g 5) r L (pS3 (g 5) L n e).1 (wI (pS3 (g 5) L n e).2) (nI c) (nI n))) (by first | (rw [show pS3 (g 5) L n e = nS (g 5) L 99 (tnd (g 5) L (pS2 (g 5) L n e).1, false) from if_pos (by with_reducible assumption)]) | (rw [show pS3 (g 5) L n e = pS2 (g 5) L n e from if_neg (by with_reducible assumption)])) ?_
          exact J_74
        · exact absurd c_9 (by decide)
    refine x_ldcSw C d_Mo_readPerson_26 20 rfl ?_
    by_cases c_10 : (pS1 (g 5) L n e).2 = false ∧ isW (g 5) L 9 (pS1 (g 5) L n e).1 = true
    · skip
      refine x_callVi C (c_Mo_takesWord_ST Z (g 5) r L (pS1 (g 5) L n e) hL (hp.1) (nI c) (nI n) 9 (by decide) (va_up g 3 (lxS (g 5) r L (pS1 (g 5) L n e).1 (wI (pS1 (g 5) L n e).2) (nI c) (nI n))) ((va_up_ne _ _ (by omega))) ((va_up_self _ _ _)) hr hB (by with_reducible assumption)) mi_Mo_takesWord k_1183 (show 0 < 12 by omega) (m_0 Z _) rfl (As := [.ref (Z.2.2.2.2.1 9)]) ⟨Nat.le_of_ble_eq_true rfl, Nat.le_of_ble_eq_true rfl⟩ rfl rfl (Nat.le_of_ble_eq_true rfl) d_Mo_readPerson_29 ?_
      refine x_eqg (g' := va_up g 3 (lxS (g 5) r L (tnd (g 5) L (pS1 (g 5) L n e).1) 0 (nI c) (nI n))) (bx_uu _ _ _ _) ?_
      refine x_ifeq C d_Mo_readPerson_32 45 (by decide) (fun c_11 => ?_) (fun c_11 => ?_)
      · exact absurd c_11 (by decide)
      · refine x_aload_n C d_Mo_readPerson_35 1 rfl rfl ?_
        refine x_iconst C d_Mo_readPerson_36 (v := 0) (by decide) ?_
        refine x_bipush C d_Mo_readPerson_37 (v := 15) (by decide) ?_
        refine x_callVi C (c_Mo_numberS Z (g 5) r L ((tnd (g 5) L (pS1 (g 5) L n e).1, false)) hL (tnd_le (hp.1)) (nI c) (nI n) 15 (by decide) (va_up g 3 (lxS (g 5) r L (tnd (g 5) L (pS1 (g 5) L n e).1) 0 (nI c) (nI n))) ((va_up_ne _ _ (by omega))) ((va_up_self _ _ _)) hr hB) mi_Mo_number k_1178 (show 0 < 12 by omega) (m_0 Z _) rfl (As := [.int (0), .int (15)]) ⟨Nat.le_of_ble_eq_true rfl, Nat.le_of_ble_eq_true rfl⟩ rfl rfl (Nat.le_of_ble_eq_true rfl) d_Mo_readPerson_39 ?_
        refine x_eqg (g' := va_up g 3 (lxS (g 5) r L (nS (g 5) L 15 (tnd (g 5) L (pS1 (g 5) L n e).1, false)).1 (wI (nS (g 5) L 15 (tnd (g 5) L (pS1 (g 5) L n e).1, false)).2) (nI c) (nI n))) (bx_uu _ _ _ _) ?_
        refine x_goto C d_Mo_readPerson_42 49 (by decide) ?_
        refine x_istore_n C d_Mo_readPerson_49 rfl (by decide) (lv' := [(3, .int (nI (tnm (g 5) L (tnd (g 5) L (pS1 (g 5) L n e).1)))), (2, .int (sdP (g 5) L n e)), (0, .ref (Z.2.1 (0))), (1, .int (nI (kd (g 5) L e)))]) rfl ?_
        refine x_lve (lv' := [(3, .int (oV (g 5) L 9 (lft (sdP (g 5) L n e)) (pS1 (g 5) L n e))), (2, .int (sdP (g 5) L n e)), (0, .ref (Z.2.1 (0))), (1, .int (nI (kd (g 5) L e)))]) (by first | rw [show oV (g 5) L 9 (lft (sdP (g 5) L n e)) (pS1 (g 5) L n e) = nI (tnm (g 5) L (tnd (g 5) L (pS1 (g 5) L n e).1)) from if_pos (by with_reducible assumption)] | rw [show oV (g 5) L 9 (lft (sdP (g 5) L n e)) (pS1 (g 5) L n e) = (lft (sdP (g 5) L n e)) from if_neg (by with_reducible assumption)]) ?_
        refine x_eqg (g' := va_up g 3 (lxS (g 5) r L (pS2 (g 5) L n e).1 (wI (pS2 (g 5) L n e).2) (nI c) (nI n))) (by first | (rw [show pS2 (g 5) L n e = nS (g 5) L 15 (tnd (g 5) L (pS1 (g 5) L n e).1, false) from if_pos (by with_reducible assumption)]) | (rw [show pS2 (g 5) L n e = pS1 (g 5) L n e from if_neg (by with_reducible assumption)])) ?_
        exact J_50
    · skip
      refine x_callVi C (c_Mo_takesWord_SF Z (g 5) r L (pS1 (g 5) L n e) hL (hp.1) (nI c) (nI n) 9 (by decide) (va_up g 3 (lxS (g 5) r L (pS1 (g 5) L n e).1 (wI (pS1 (g 5) L n e).2) (nI c) (nI n))) ((va_up_ne _ _ (by omega))) ((va_up_self _ _ _)) hr hB (by with_reducible assumption)) mi_Mo_takesWord k_1183 (show 0 < 12 by omega) (m_0 Z _) rfl (As := [.ref (Z.2.2.2.2.1 9)]) ⟨Nat.le_of_ble_eq_true rfl, Nat.le_of_ble_eq_true rfl⟩ rfl rfl (Nat.le_of_ble_eq_true rfl) d_Mo_readPerson_29 ?_
      refine x_ifeq C d_Mo_readPerson_32 45 (by decide) (fun c_12 => ?_) (fun c_12 => ?_)
      · refine x_iload_n C d_Mo_readPerson_45 0 rfl rfl ?_
        refine x_callSi C (c_Mo_liftOf Z (sdP (g 5) L n e) (va_up g 3 (lxS (g 5) r L (pS1 (g 5) L n e).1 (wI (pS1 (g 5) L n e).2) (nI c) (nI n)))) mi_Mo_liftOf k_900 (As := [.int (sdP (g 5) L n e)]) ⟨Nat.le_of_ble_eq_true rfl, Nat.le_of_ble_eq_true rfl⟩ rfl rfl (Nat.le_of_ble_eq_true rfl) d_Mo_readPerson_46 ?_
        refine x_istore_n C d_Mo_readPerson_49 rfl (by decide) (lv' := [(3, .int (lft (sdP (g 5) L n e))), (2, .int (sdP (g 5) L n e)), (0, .ref (Z.2.1 (0))), (1, .int (nI (kd (g 5) L e)))]) rfl ?_
        refine x_lve (lv' := [(3, .int (oV (g 5) L 9 (lft (sdP (g 5) L n e)) (pS1 (g 5) L n e))), (2, .int (sdP (g 5) L n e)), (0, .ref (Z.2.1 (0))), (1, .int (nI (kd (g 5) L e)))]) (by first | rw [show oV (g 5) L 9 (lft (sdP (g 5) L n e)) (pS1 (g 5) L n e) = nI (tnm (g 5) L (tnd (g 5) L (pS1 (g 5) L n e).1)) from if_pos (by with_reducible assumption)] | rw [show oV (g 5) L 9 (lft (sdP (g 5) L n e)) (pS1 (g 5) L n e) = (lft (sdP (g 5) L n e)) from if_neg (by with_reducible assumption)]) ?_
        refine x_eqg (g' := va_up g 3 (lxS (g 5) r L (pS2 (g 5) L n e).1 (wI (pS2 (g 5) L n e).2) (nI c) (nI n))) (by first | (rw [show pS2 (g 5) L n e = nS (g 5) L 15 (tnd (g 5) L (pS1 (g 5) L n e).1, false) from if_pos (by with_reducible assumption)]) | (rw [show pS2 (g 5) L n e = pS1 (g 5) L n e from if_neg (by with_reducible assumption)])) ?_
        exact J_50
      · exact absurd c_12 (by decide)
  refine gf_Mo_peopleThen C (v := nI n) (Eq.trans (congrFun (va_up_self _ _ _) _) rfl) k_806 d_Mo_readPerson_2 ?_
  refine x_bipush C d_Mo_readPerson_5 (v := 8) (by decide) ?_
  refine x_icmp_ge C d_Mo_readPerson_7 14 (by decide) (fun c_13 => ?_) (fun c_13 => ?_)
  · have nc_13 := Int32.not_lt.mpr c_13
    have mc_13 : 8 ≤ n := (nI_leI (by omega) (by omega)).mp (show nI 8 ≤ nI n from c_13)
    refine x_iconst C d_Mo_readPerson_14 (v := 0) (by decide) ?_
    refine x_callVv C (c_Mo_must_f Z (g 5) r L e hL he (nI c) (nI n) (va_up g 3 (lxS (g 5) r L e 0 (nI c) (nI n))) ((va_up_ne _ _ (by omega))) ((va_up_self _ _ _)) hr hB) mi_Mo_must k_1174 (show 0 < 12 by omega) (m_0 Z _) rfl (As := [.int (0)]) ⟨Nat.le_of_ble_eq_true rfl, Nat.le_of_ble_eq_true rfl⟩ rfl rfl (Nat.le_of_ble_eq_true rfl) d_Mo_readPerson_15 ?_
    refine x_eqg (g' := va_up g 3 (lxS (g 5) r L e 1 (nI c) (nI n))) (bx_uu _ _ _ _) ?_
    refine x_lve (lv' := [(0, .ref (Z.2.1 (0))), (1, .int (nI (kd (g 5) L e)))]) rfl ?_
    refine x_eqg (g' := va_up g 3 (lxS (g 5) r L (mS (g 5) L (n < 8) (e, false)).1 (wI (mS (g 5) L (n < 8) (e, false)).2) (nI c) (nI n))) (by first | (rw [show mS (g 5) L (n < 8) (e, false) = (tnd (g 5) L e, false) from if_pos ⟨rfl, by omega⟩]; rfl) | (rw [show mS (g 5) L (n < 8) (e, false) = (e, true) from if_neg (fun z_ => absurd z_.2 (by omega))]; rfl)) ?_
    exact J_18
  · have nc_13 := Int32.not_le.mp c_13
    have mc_13 : ¬ 8 ≤ n := fun z_ => (show ¬ nI 8 ≤ nI n from c_13) ((nI_leI (by omega) (by omega)).mpr z_)
    refine x_iconst C d_Mo_readPerson_10 (v := 1) (by decide) ?_
    refine x_goto C d_Mo_readPerson_11 15 (by decide) ?_
    refine x_callVv C (c_Mo_must_t Z (g 5) r L e hL he (nI c) (nI n) (va_up g 3 (lxS (g 5) r L e 0 (nI c) (nI n))) ((va_up_ne _ _ (by omega))) ((va_up_self _ _ _)) hr hB) mi_Mo_must k_1174 (show 0 < 12 by omega) (m_0 Z _) rfl (As := [.int (1)]) ⟨Nat.le_of_ble_eq_true rfl, Nat.le_of_ble_eq_true rfl⟩ rfl rfl (Nat.le_of_ble_eq_true rfl) d_Mo_readPerson_15 ?_
    refine x_eqg (g' := va_up g 3 (lxS (g 5) r L (tnd (g 5) L e) 0 (nI c) (nI n))) (bx_uu _ _ _ _) ?_
    refine x_lve (lv' := [(0, .ref (Z.2.1 (0))), (1, .int (nI (kd (g 5) L e)))]) rfl ?_
    refine x_eqg (g' := va_up g 3 (lxS (g 5) r L (mS (g 5) L (n < 8) (e, false)).1 (wI (mS (g 5) L (n < 8) (e, false)).2) (nI c) (nI n))) (by first | (rw [show mS (g 5) L (n < 8) (e, false) = (tnd (g 5) L e, false) from if_pos ⟨rfl, by omega⟩]; rfl) | (rw [show mS (g 5) L (n < 8) (e, false) = (e, true) from if_neg (fun z_ => absurd z_.2 (by omega))]; rfl)) ?_
    exact J_18

set_option maxRecDepth 100000 in
set_option maxHeartbeats 600000 in
theorem c_Mo_readItem (Z : ZT) (b r : Nat → Int32) (L e : Nat) (hL : L ≤ 120) (he : e ≤ L) (c n : Nat) (hc : c < 120) (hn8 : n ≤ 8) (g : St)  (h5 : g 5 = b) (h3 : g 3 = lxS b r L e 0 (nI c) (nI n)) (hr : r 6 = nI L) (hB : ∀ k, k < L → ¬ b k < 0) : CT yM Z y_Mo_readItem b_Mo_readItem 3 none 7 155 [.ref (Z.2.1 (0))] (g) (QcV yM Z (va_up (va_up g 7 (itI b L n e c (g 7))) 3 (lxS b r L (itS b L n e).1 (wI (itS b L n e).2) (nI (itC b L e c)) (nI (itP b L e n))))) := by
  refine CT.mk "TunnelPeaceModel" (by decide) rfl (Nat.le_of_ble_eq_true rfl) (fun X C => ?_)
  refine x_lv [0] (lv' := [(0, .ref (Z.2.1 (0)))]) rfl ?_
  subst h5
  have hdl := tnd_le (b := g 5) he
  refine x_eqg (g' := va_up g 3 (lxS (g 5) r L e 0 (nI c) (nI n))) (by rw [← h3, va_id]) ?_
  refine x_iconst C d_Mo_readItem_0 (v := -1) (by decide) ?_
  refine x_istore_n C d_Mo_readItem_1 rfl (by decide) (lv' := [(1, .int ((-1))), (0, .ref (Z.2.1 (0)))]) rfl ?_
  refine x_iconst C d_Mo_readItem_2 (v := 0) (by decide) ?_
  refine x_topi (show (0 : Int32) = nI 0 by decide) ?_
  refine x_istore_n C d_Mo_readItem_3 rfl (by decide) (lv' := [(2, .int (nI 0)), (1, .int ((-1))), (0, .ref (Z.2.1 (0)))]) rfl ?_
  have LP_4 : ∀ (f_ k : Nat), k ≤ 7 → 7 - k < f_ → WX X 3 yM Z (QX X yM Z (QcV yM Z (va_up (va_up g 7 (itI (g 5) L n e c (g 7))) 3 (lxS (g 5) r L (itS (g 5) L n e).1 (wI (itS (g 5) L n e).2) (nI (itC (g 5) L e c)) (nI (itP (g 5) L e n)))))) (va_up g 3 (lxS (g 5) r L e 0 (nI c) (nI n))) 4 [(2, .int (nI k)), (1, .int (kdN (g 5) L e k)), (0, .ref (Z.2.1 (0)))] [] := by
    intro f_
    induction f_ with
    | zero => intro k h1_ h2_; exact absurd h2_ (Nat.not_lt_zero _)
    | succ f_ ih_4 =>
      intro k hi_4 hf_4
      refine x_iload_n C d_Mo_readItem_4 0 rfl rfl ?_
      refine x_aload_n C d_Mo_readItem_5 2 rfl rfl ?_
      refine gf_Mo_kindNames C k_803 d_Mo_readItem_6 ?_
      refine x_alen C (show 6 < 12 by decide) 4 (m_6 Z (sr yM (va_up g 3 (lxS (g 5) r L e 0 (nI c) (nI n))) 6)) rfl (v := nI 7) rfl d_Mo_readItem_9 ?_
      refine x_icmp_ge C d_Mo_readItem_10 38 (by decide) (fun c_1 => ?_) (fun c_1 => ?_)
      · have nc_1 := Int32.not_lt.mpr c_1
        have mc_1 : 7 ≤ k := (nI_leI (by omega) (by omega)).mp (show nI 7 ≤ nI k from c_1)
        have e_k : 7 = k := by omega
        subst e_k
        by_cases hk7 : kd (g 5) L e = 7
        · have hk6 := (kd_7 (b := g 5) (L := L) (e := e)).1
          refine x_lve (lv' := [(2, .int (nI 7)), (1, .int ((-1))), (0, .ref (Z.2.1 (0)))]) (by rw [kdN_7, if_pos hk7]) ?_
          refine x_iload_n C d_Mo_readItem_38 1 rfl rfl ?_
          refine x_iflt C d_Mo_readItem_39 50 (by decide) (fun c_2 => ?_) (fun c_2 => ?_)
          · have nc_2 := Int32.not_le.mpr c_2
            refine x_aload_n C d_Mo_readItem_50 2 rfl rfl ?_
            refine x_ldcSw C d_Mo_readItem_51 24 rfl ?_
            by_cases c_3 : isW (g 5) L 0 e = true
            · skip
              refine x_callVi C (c_Mo_takesWord_t Z (g 5) r L e hL he (nI c) (nI n) 0 (by decide) (va_up g 3 (lxS (g 5) r L e 0 (nI c) (nI n))) ((va_up_ne _ _ (by omega))) ((va_up_self _ _ _)) hr hB (by with_reducible assumption)) mi_Mo_takesWord k_1183 (show 0 < 12 by omega) (m_0 Z _) rfl (As := [.ref (Z.2.2.2.2.1 0)]) ⟨Nat.le_of_ble_eq_true rfl, Nat.le_of_ble_eq_true rfl⟩ rfl rfl (Nat.le_of_ble_eq_true rfl) d_Mo_readItem_54 ?_
              refine x_eqg (g' := va_up g 3 (lxS (g 5) r L (tnd (g 5) L e) 0 (nI c) (nI n))) (bx_uu _ _ _ _) ?_
              refine x_ifeq C d_Mo_readItem_57 87 (by decide) (fun c_4 => ?_) (fun c_4 => ?_)
              · exact absurd c_4 (by decide)
              · refine x_aload_n C d_Mo_readItem_60 2 rfl rfl ?_
                refine x_iconst C d_Mo_readItem_61 (v := 0) (by decide) ?_
                refine x_iconst C d_Mo_readItem_62 (v := 5) (by decide) ?_
                refine x_callVi C (c_Mo_numberS Z (g 5) r L ((tnd (g 5) L e, false)) hL hdl (nI c) (nI n) 5 (by decide) (va_up g 3 (lxS (g 5) r L (tnd (g 5) L e) 0 (nI c) (nI n))) ((va_up_ne _ _ (by omega))) ((va_up_self _ _ _)) hr hB) mi_Mo_number k_1178 (show 0 < 12 by omega) (m_0 Z _) rfl (As := [.int (0), .int (5)]) ⟨Nat.le_of_ble_eq_true rfl, Nat.le_of_ble_eq_true rfl⟩ rfl rfl (Nat.le_of_ble_eq_true rfl) d_Mo_readItem_63 ?_
                refine x_eqg (g' := va_up g 3 (lxS (g 5) r L (nS (g 5) L 5 (tnd (g 5) L e, false)).1 (wI (nS (g 5) L 5 (tnd (g 5) L e, false)).2) (nI c) (nI n))) (bx_uu _ _ _ _) ?_
                refine x_istore_n C d_Mo_readItem_66 rfl (by decide) (lv' := [(2, .int (nI (tnm (g 5) L (tnd (g 5) L e)))), (1, .int ((-1))), (0, .ref (Z.2.1 (0)))]) rfl ?_
                refine x_aload_n C d_Mo_readItem_67 2 rfl rfl ?_
                refine x_bipush C d_Mo_readItem_68 (v := 10) (by decide) ?_
                refine x_iload_n C d_Mo_readItem_70 0 rfl rfl ?_
                refine x_aload_n C d_Mo_readItem_71 2 rfl rfl ?_
                refine x_iconst C d_Mo_readItem_72 (v := 0) (by decide) ?_
                refine x_bipush C d_Mo_readItem_73 (v := 15) (by decide) ?_
                refine x_callVi C (c_Mo_numberS Z (g 5) r L (nS (g 5) L 5 (tnd (g 5) L e, false)) hL (nS_le hdl) (nI c) (nI n) 15 (by decide) (va_up g 3 (lxS (g 5) r L (nS (g 5) L 5 (tnd (g 5) L e, false)).1 (wI (nS (g 5) L 5 (tnd (g 5) L e, false)).2) (nI c) (nI n))) ((va_up_ne _ _ (by omega))) ((va_up_self _ _ _)) hr hB) mi_Mo_number k_1178 (show 0 < 12 by omega) (m_0 Z _) rfl (As := [.int (0), .int (15)]) ⟨Nat.le_of_ble_eq_true rfl, Nat.le_of_ble_eq_true rfl⟩ rfl rfl (Nat.le_of_ble_eq_true rfl) d_Mo_readItem_75 ?_
                refine x_eqg (g' := va_up g 3 (lxS (g 5) r L (nS (g 5) L 15 (nS (g 5) L 5 (tnd (g 5) L e, false))).1 (wI (nS (g 5) L 15 (nS (g 5) L 5 (tnd (g 5) L e, false))).2) (nI c) (nI n))) (bx_uu _ _ _ _) ?_
                refine x_iconst C d_Mo_readItem_78 (v := 0) (by decide) ?_
                refine x_iconst C d_Mo_readItem_79 (v := 0) (by decide) ?_
                refine x_iconst C d_Mo_readItem_80 (v := 0) (by decide) ?_
                refine x_callVv C (c_Mo_addItem Z c hc 10 (nI (tnm (g 5) L (tnd (g 5) L e))) (nI (tnm (g 5) L ((nS (g 5) L 5 (tnd (g 5) L e, false)).1))) 0 0 0 (va_up g 3 (lxS (g 5) r L (nS (g 5) L 15 (nS (g 5) L 5 (tnd (g 5) L e, false))).1 (wI (nS (g 5) L 15 (nS (g 5) L 5 (tnd (g 5) L e, false))).2) (nI c) (nI n))) (by rw [(va_up_self _ _ _)]; rfl)) mi_Mo_addItem k_1190 (show 0 < 12 by omega) (m_0 Z _) rfl (As := [.int (10), .int (nI (tnm (g 5) L (tnd (g 5) L e))), .int (nI (tnm (g 5) L ((nS (g 5) L 5 (tnd (g 5) L e, false)).1))), .int (0), .int (0), .int (0)]) ⟨Nat.le_of_ble_eq_true rfl, Nat.le_of_ble_eq_true rfl⟩ rfl rfl (Nat.le_of_ble_eq_true rfl) d_Mo_readItem_81 ?_
                refine x_eqg (g' := va_up (va_up g 7 (add6 (g 7) c 10 (nI (tnm (g 5) L (tnd (g 5) L e))) (nI (tnm (g 5) L ((nS (g 5) L 5 (tnd (g 5) L e, false)).1))) 0 0 0)) 3 (lxS (g 5) r L (nS (g 5) L 15 (nS (g 5) L 5 (tnd (g 5) L e, false))).1 (wI (nS (g 5) L 15 (nS (g 5) L 5 (tnd (g 5) L e, false))).2) (nI (c + 1)) (nI n))) (by rw [va_up_self, va_up_ne _ _ (by decide), lxS_14, va_com (a := 3) (b := 7) (by decide), bx_uu]) ?_
                refine x_goto C d_Mo_readItem_84 122 (by decide) ?_
                exact x_vret C (by unfold itI itC itP itS; rw [if_neg (not_not_intro hk7), if_neg (not_not_intro hk7), if_neg (not_not_intro hk7), if_pos (by with_reducible assumption), if_pos (by with_reducible assumption), if_pos (by with_reducible assumption)]) d_Mo_readItem_122
            · skip
              refine x_callVi C (c_Mo_takesWord_f Z (g 5) r L e hL he (nI c) (nI n) 0 (by decide) (va_up g 3 (lxS (g 5) r L e 0 (nI c) (nI n))) ((va_up_ne _ _ (by omega))) ((va_up_self _ _ _)) hr hB (by with_reducible assumption)) mi_Mo_takesWord k_1183 (show 0 < 12 by omega) (m_0 Z _) rfl (As := [.ref (Z.2.2.2.2.1 0)]) ⟨Nat.le_of_ble_eq_true rfl, Nat.le_of_ble_eq_true rfl⟩ rfl rfl (Nat.le_of_ble_eq_true rfl) d_Mo_readItem_54 ?_
              refine x_ifeq C d_Mo_readItem_57 87 (by decide) (fun c_5 => ?_) (fun c_5 => ?_)
              · refine x_aload_n C d_Mo_readItem_87 2 rfl rfl ?_
                refine x_ldcSw C d_Mo_readItem_88 25 rfl ?_
                by_cases c_6 : isW (g 5) L 1 e = true
                · skip
                  refine x_callVi C (c_Mo_takesWord_t Z (g 5) r L e hL he (nI c) (nI n) 1 (by decide) (va_up g 3 (lxS (g 5) r L e 0 (nI c) (nI n))) ((va_up_ne _ _ (by omega))) ((va_up_self _ _ _)) hr hB (by with_reducible assumption)) mi_Mo_takesWord k_1183 (show 0 < 12 by omega) (m_0 Z _) rfl (As := [.ref (Z.2.2.2.2.1 1)]) ⟨Nat.le_of_ble_eq_true rfl, Nat.le_of_ble_eq_true rfl⟩ rfl rfl (Nat.le_of_ble_eq_true rfl) d_Mo_readItem_91 ?_
                  refine x_eqg (g' := va_up g 3 (lxS (g 5) r L (tnd (g 5) L e) 0 (nI c) (nI n))) (bx_uu _ _ _ _) ?_
                  refine x_ifeq C d_Mo_readItem_94 117 (by decide) (fun c_7 => ?_) (fun c_7 => ?_)
                  · exact absurd c_7 (by decide)
                  · refine x_aload_n C d_Mo_readItem_97 2 rfl rfl ?_
                    refine x_bipush C d_Mo_readItem_98 (v := 11) (by decide) ?_
                    refine x_aload_n C d_Mo_readItem_100 2 rfl rfl ?_
                    refine x_iconst C d_Mo_readItem_101 (v := 0) (by decide) ?_
                    refine x_bipush C d_Mo_readItem_102 (v := 99) (by decide) ?_
                    refine x_callVi C (c_Mo_numberS Z (g 5) r L ((tnd (g 5) L e, false)) hL hdl (nI c) (nI n) 99 (by decide) (va_up g 3 (lxS (g 5) r L (tnd (g 5) L e) 0 (nI c) (nI n))) ((va_up_ne _ _ (by omega))) ((va_up_self _ _ _)) hr hB) mi_Mo_number k_1178 (show 0 < 12 by omega) (m_0 Z _) rfl (As := [.int (0), .int (99)]) ⟨Nat.le_of_ble_eq_true rfl, Nat.le_of_ble_eq_true rfl⟩ rfl rfl (Nat.le_of_ble_eq_true rfl) d_Mo_readItem_104 ?_
                    refine x_eqg (g' := va_up g 3 (lxS (g 5) r L (nS (g 5) L 99 (tnd (g 5) L e, false)).1 (wI (nS (g 5) L 99 (tnd (g 5) L e, false)).2) (nI c) (nI n))) (bx_uu _ _ _ _) ?_
                    refine x_iconst C d_Mo_readItem_107 (v := 0) (by decide) ?_
                    refine x_iconst C d_Mo_readItem_108 (v := 0) (by decide) ?_
                    refine x_iconst C d_Mo_readItem_109 (v := 0) (by decide) ?_
                    refine x_iconst C d_Mo_readItem_110 (v := 0) (by decide) ?_
                    refine x_callVv C (c_Mo_addItem Z c hc 11 (nI (tnm (g 5) L (tnd (g 5) L e))) 0 0 0 0 (va_up g 3 (lxS (g 5) r L (nS (g 5) L 99 (tnd (g 5) L e, false)).1 (wI (nS (g 5) L 99 (tnd (g 5) L e, false)).2) (nI c) (nI n))) (by rw [(va_up_self _ _ _)]; rfl)) mi_Mo_addItem k_1190 (show 0 < 12 by omega) (m_0 Z _) rfl (As := [.int (11), .int (nI (tnm (g 5) L (tnd (g 5) L e))), .int (0), .int (0), .int (0), .int (0)]) ⟨Nat.le_of_ble_eq_true rfl, Nat.le_of_ble_eq_true rfl⟩ rfl rfl (Nat.le_of_ble_eq_true rfl) d_Mo_readItem_111 ?_
                    refine x_eqg (g' := va_up (va_up g 7 (add6 (g 7) c 11 (nI (tnm (g 5) L (tnd (g 5) L e))) 0 0 0 0)) 3 (lxS (g 5) r L (nS (g 5) L 99 (tnd (g 5) L e, false)).1 (wI (nS (g 5) L 99 (tnd (g 5) L e, false)).2) (nI (c + 1)) (nI n))) (by rw [va_up_self, va_up_ne _ _ (by decide), lxS_14, va_com (a := 3) (b := 7) (by decide), bx_uu]) ?_
                    refine x_goto C d_Mo_readItem_114 122 (by decide) ?_
                    exact x_vret C (by unfold itI itC itP itS; rw [if_neg (not_not_intro hk7), if_neg (not_not_intro hk7), if_neg (not_not_intro hk7), if_neg (show ¬ isW (g 5) L 0 e = true by with_reducible assumption), if_neg (show ¬ isW (g 5) L 0 e = true by with_reducible assumption), if_neg (show ¬ isW (g 5) L 0 e = true by with_reducible assumption), if_pos (show isW (g 5) L 1 e = true by with_reducible assumption), if_pos (show isW (g 5) L 1 e = true by with_reducible assumption), if_pos (show isW (g 5) L 1 e = true by with_reducible assumption)]; try rfl) d_Mo_readItem_122
                · skip
                  refine x_callVi C (c_Mo_takesWord_f Z (g 5) r L e hL he (nI c) (nI n) 1 (by decide) (va_up g 3 (lxS (g 5) r L e 0 (nI c) (nI n))) ((va_up_ne _ _ (by omega))) ((va_up_self _ _ _)) hr hB (by with_reducible assumption)) mi_Mo_takesWord k_1183 (show 0 < 12 by omega) (m_0 Z _) rfl (As := [.ref (Z.2.2.2.2.1 1)]) ⟨Nat.le_of_ble_eq_true rfl, Nat.le_of_ble_eq_true rfl⟩ rfl rfl (Nat.le_of_ble_eq_true rfl) d_Mo_readItem_91 ?_
                  refine x_ifeq C d_Mo_readItem_94 117 (by decide) (fun c_8 => ?_) (fun c_8 => ?_)
                  · refine x_aload_n C d_Mo_readItem_117 2 rfl rfl ?_
                    refine x_iconst C d_Mo_readItem_118 (v := 0) (by decide) ?_
                    refine x_callVv C (c_Mo_must_f Z (g 5) r L e hL he (nI c) (nI n) (va_up g 3 (lxS (g 5) r L e 0 (nI c) (nI n))) ((va_up_ne _ _ (by omega))) ((va_up_self _ _ _)) hr hB) mi_Mo_must k_1174 (show 0 < 12 by omega) (m_0 Z _) rfl (As := [.int (0)]) ⟨Nat.le_of_ble_eq_true rfl, Nat.le_of_ble_eq_true rfl⟩ rfl rfl (Nat.le_of_ble_eq_true rfl) d_Mo_readItem_119 ?_
                    refine x_eqg (g' := va_up g 3 (lxS (g 5) r L e 1 (nI c) (nI n))) (bx_uu _ _ _ _) ?_
                    exact x_vret C (by unfold itI itC itP itS; rw [if_neg (not_not_intro hk7), if_neg (not_not_intro hk7), if_neg (not_not_intro hk7), if_neg (show ¬ isW (g 5) L 0 e = true by with_reducible assumption), if_neg (show ¬ isW (g 5) L 0 e = true by with_reducible assumption), if_neg (show ¬ isW (g 5) L 0 e = true by with_reducible assumption), if_neg (show ¬ isW (g 5) L 1 e = true by with_reducible assumption), if_neg (show ¬ isW (g 5) L 1 e = true by with_reducible assumption), if_neg (show ¬ isW (g 5) L 1 e = true by with_reducible assumption), if_pos hk7, va_id]; rfl) d_Mo_readItem_122
                  · exact absurd c_8 (by decide)
              · exact absurd c_5 (by decide)
          · exact absurd c_2 (by decide)
        · have hk6 := (kd_7 (b := g 5) (L := L) (e := e)).1
          refine x_lve (lv' := [(2, .int (nI 7)), (1, .int (nI (kd (g 5) L e))), (0, .ref (Z.2.1 (0)))]) (by rw [kdN_7, if_neg hk7]) ?_
          refine x_iload_n C d_Mo_readItem_38 1 rfl rfl ?_
          refine x_iflt C d_Mo_readItem_39 50 (by decide) (fun c_9 => ?_) (fun c_9 => ?_)
          · exact absurd c_9 (nI_pos (by omega))
          · have nc_9 := Int32.not_lt.mp c_9
            refine x_aload_n C d_Mo_readItem_42 2 rfl rfl ?_
            refine x_iload_n C d_Mo_readItem_43 1 rfl rfl ?_
            refine x_callVv C (c_Mo_readPerson Z (g 5) r L e hL he c n hc hn8 (va_up g 3 (lxS (g 5) r L e 0 (nI c) (nI n))) ((va_up_ne _ _ (by omega))) ((va_up_self _ _ _)) hr hB) mi_Mo_readPerson k_1170 (show 0 < 12 by omega) (m_0 Z _) rfl (As := [.int (nI (kd (g 5) L e))]) ⟨Nat.le_of_ble_eq_true rfl, Nat.le_of_ble_eq_true rfl⟩ rfl rfl (Nat.le_of_ble_eq_true rfl) d_Mo_readItem_44 ?_
            refine x_eqg (g' := va_up (va_up g 7 (perI (g 5) L n e c (g 7))) 3 (lxS (g 5) r L (pS5 (g 5) L n e).1 (wI (pS5 (g 5) L n e).2) (nI (c + 1)) (nI (n + 1)))) (by rw [va_up_ne _ _ (by decide), va_com (a := 3) (b := 7) (by decide), bx_uu]) ?_
            refine x_goto C d_Mo_readItem_47 122 (by decide) ?_
            exact x_vret C (by unfold itI itC itP itS; rw [if_pos hk7, if_pos hk7, if_pos hk7, if_neg (kd_no hk7 (by decide)), if_neg (kd_no hk7 (by decide)), if_neg hk7]) d_Mo_readItem_122
      · have nc_1 := Int32.not_le.mp c_1
        have mc_1 : ¬ 7 ≤ k := fun z_ => (show ¬ nI 7 ≤ nI k from c_1) ((nI_leI (by omega) (by omega)).mpr z_)
        refine x_aload_n C d_Mo_readItem_13 2 rfl rfl ?_
        refine x_aload_n C d_Mo_readItem_14 2 rfl rfl ?_
        refine gf_Mo_kindNames C k_803 d_Mo_readItem_15 ?_
        refine x_iload_n C d_Mo_readItem_18 0 rfl rfl ?_
        refine al_kn C k rfl (by first | omega | (simp only [pI]; omega)) d_Mo_readItem_19 ?_
        by_cases c_10 : isW (g 5) L (mTx k) e = true
        · skip
          refine x_callVi C (c_Mo_isWord_t Z (g 5) r L e hL he 0 (nI c) (nI n) (mTx k) (mTx_lt _ (by omega)) (va_up g 3 (lxS (g 5) r L e 0 (nI c) (nI n))) ((va_up_ne _ _ (by omega))) ((va_up_self _ _ _)) hr hB (by with_reducible assumption)) mi_Mo_isWord k_1164 (show 0 < 12 by omega) (m_0 Z _) rfl (As := [.ref (Z.2.2.2.2.1 (mTx k))]) ⟨Nat.le_of_ble_eq_true rfl, Nat.le_of_ble_eq_true rfl⟩ rfl rfl (Nat.le_of_ble_eq_true rfl) d_Mo_readItem_20 ?_
          refine x_ifeq C d_Mo_readItem_23 30 (by decide) (fun c_11 => ?_) (fun c_11 => ?_)
          · exact absurd c_11 (by decide)
          · refine x_iload_n C d_Mo_readItem_26 0 rfl rfl ?_
            refine x_goto C d_Mo_readItem_27 31 (by decide) ?_
            refine x_istore_n C d_Mo_readItem_31 rfl (by decide) (lv' := [(1, .int (nI k)), (2, .int (nI k)), (0, .ref (Z.2.1 (0)))]) rfl ?_
            refine x_iinc C d_Mo_readItem_32 1 rfl (v := nI (k + 1)) (nI_1 _) (by decide) (lv' := [(2, .int (nI (k + 1))), (1, .int (nI k)), (0, .ref (Z.2.1 (0)))]) rfl ?_
            refine x_goto C d_Mo_readItem_35 4 (by decide) ?_
            refine x_lve (lv' := [(2, .int (nI (k + 1))), (1, .int (kdN (g 5) L e (k + 1))), (0, .ref (Z.2.1 (0)))]) (by first | (rw [show kdN (g 5) L e (k + 1) = nI k from if_pos (by with_reducible assumption)]) | (rw [show kdN (g 5) L e (k + 1) = kdN (g 5) L e k from if_neg (by with_reducible assumption)])) ?_
            exact ih_4 (k + 1) (by omega) (by omega)
        · skip
          refine x_callVi C (c_Mo_isWord_f Z (g 5) r L e hL he 0 (nI c) (nI n) (mTx k) (mTx_lt _ (by omega)) (va_up g 3 (lxS (g 5) r L e 0 (nI c) (nI n))) ((va_up_ne _ _ (by omega))) ((va_up_self _ _ _)) hr hB (by with_reducible assumption)) mi_Mo_isWord k_1164 (show 0 < 12 by omega) (m_0 Z _) rfl (As := [.ref (Z.2.2.2.2.1 (mTx k))]) ⟨Nat.le_of_ble_eq_true rfl, Nat.le_of_ble_eq_true rfl⟩ rfl rfl (Nat.le_of_ble_eq_true rfl) d_Mo_readItem_20 ?_
          refine x_ifeq C d_Mo_readItem_23 30 (by decide) (fun c_12 => ?_) (fun c_12 => ?_)
          · refine x_iload_n C d_Mo_readItem_30 1 rfl rfl ?_
            refine x_istore_n C d_Mo_readItem_31 rfl (by decide) (lv' := [(1, .int (kdN (g 5) L e k)), (2, .int (nI k)), (0, .ref (Z.2.1 (0)))]) rfl ?_
            refine x_iinc C d_Mo_readItem_32 1 rfl (v := nI (k + 1)) (nI_1 _) (by decide) (lv' := [(2, .int (nI (k + 1))), (1, .int (kdN (g 5) L e k)), (0, .ref (Z.2.1 (0)))]) rfl ?_
            refine x_goto C d_Mo_readItem_35 4 (by decide) ?_
            refine x_lve (lv' := [(2, .int (nI (k + 1))), (1, .int (kdN (g 5) L e (k + 1))), (0, .ref (Z.2.1 (0)))]) (by first | (rw [show kdN (g 5) L e (k + 1) = nI k from if_pos (by with_reducible assumption)]) | (rw [show kdN (g 5) L e (k + 1) = kdN (g 5) L e k from if_neg (by with_reducible assumption)])) ?_
            exact ih_4 (k + 1) (by omega) (by omega)
          · exact absurd c_12 (by decide)
  refine x_lve (lv' := [(2, .int (nI 0)), (1, .int (kdN (g 5) L e 0)), (0, .ref (Z.2.1 (0)))]) rfl ?_
  exact LP_4 (7 + 1) 0 (Nat.zero_le _) (by omega)
