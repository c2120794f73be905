theorem nS_t {b : Nat → Int32} {L hi e : Nat} : nS b L hi (e, true) = (e, true) := by
  unfold nS mS
  rw [if_neg (by simp)]
theorem oR_t {b : Nat → Int32} {L i hi p f e : Nat} {r : Nat → Int32} : oR b L i hi p f (e, true) r = r := by
  unfold oR
  rw [if_neg (by simp)]

set_option maxRecDepth 100000 in
set_option maxHeartbeats 600000 in
theorem c_Ta_takeOption_2 (Z : ZT) (b r : Nat → Int32) (L e : Nat) (hL : L ≤ 120) (he : e ≤ L) (p : Nat) (hp8 : p < 8) (R : Nat → Int32) (g : St)  (h6 : g 6 = b) (h5 : g 5 = lexR b r L e) (h0 : r 0 = nI L) (hR : g 1 = R) : CT yC Z y_Ta_takeOption b_Ta_takeOption 5 (some (.boolean)) 5 107 [.ref (Z.2.1 (2)), .ref (Z.2.2.2.2.1 9), .ref (Z.2.1 (18 + 12 * 1 + p)), .int (nI 2)] (g) (QcI yC Z (bI ((oS b L 9 15 (e, false)).2 = false)) (va_up (va_up g 1 (oR b L 9 15 p 2 (e, false) R)) 5 (lexR b r L (oS b L 9 15 (e, false)).1))) := by
  refine CT.mk "TunnelPeace$Tape" (by decide) rfl (Nat.le_of_ble_eq_true rfl) (fun X C => ?_)
  refine x_lv [0, 1, 2, 3] (lv' := [(0, .ref (Z.2.1 (2))), (1, .ref (Z.2.2.2.2.1 9)), (2, .ref (Z.2.1 (18 + 12 * 1 + p))), (3, .int (nI 2))]) rfl ?_
  subst h6
  have hj := skp_ge (b := g 6) (L := L) (e := e)
  have hjl := skp_le (b := g 6) he
  have hdg := tnd_ge (b := g 6) (L := L) (e := e)
  have hdl := tnd_le (b := g 6) he
  have ht4 := tok_4 (b := g 6) (L := L) (e := e)
  have hm4 := tnm_le (b := g 6) (L := L) (e := e)
  subst hR
  have hm5 := tnm_le (b := g 6) (L := L) (e := tnd (g 6) L e)
  refine x_aload_n C d_Ta_takeOption_0 0 rfl rfl ?_
  refine x_aload_n C d_Ta_takeOption_1 1 rfl rfl ?_
  by_cases c_1 : isW (g 6) L 9 e = true
  · skip
    refine x_callVi C (c_Ta_takeWord_t Z (g 6) r L e hL he 9 (by decide) (g) rfl h5 h0 (by with_reducible assumption)) mi_Ta_takeWord k_587 (show 2 < 50 by omega) (e_Ta Z _) rfl (As := [.ref (Z.2.2.2.2.1 9)]) ⟨Nat.le_of_ble_eq_true rfl, Nat.le_of_ble_eq_true rfl⟩ rfl rfl (Nat.le_of_ble_eq_true rfl) d_Ta_takeOption_2 ?_
    refine x_ifne C d_Ta_takeOption_5 10 (by decide) (fun c_2 => ?_) (fun c_2 => ?_)
    · refine x_aload_n C d_Ta_takeOption_10 0 rfl rfl ?_
      refine x_getst0N C (List.mem_of_getElem? (i := 3) rfl) d_Ta_takeOption_11 ?_
      refine x_iload_n C d_Ta_takeOption_14 3 rfl rfl ?_
      refine x_stld0 C 2 rfl (by decide) rfl d_Ta_takeOption_15 ?_
      by_cases c_3 : nOk (g 6) L 15 (tnd (g 6) L e) = true
      · skip
        refine x_callVi C (c_Ta_takeNumber_t Z (g 6) r L (tnd (g 6) L e) hL (tnd_le he) 15 (by omega) (va_up g 5 (lexR (g 6) r L (tnd (g 6) L e))) (va_up_ne _ _ (by omega)) (va_up_self _ _ _) h0 (by with_reducible assumption)) mi_Ta_takeNumber k_643 (show 2 < 50 by omega) (e_Ta Z _) rfl (As := [.int (15)]) ⟨Nat.le_of_ble_eq_true rfl, Nat.le_of_ble_eq_true rfl⟩ rfl rfl (Nat.le_of_ble_eq_true rfl) d_Ta_takeOption_16 ?_
        refine x_eqg (g' := va_up g 5 (lexR (g 6) r L (tnd (g 6) L (tnd (g 6) L e)))) (bx_uu _ _ _ _) ?_
        refine x_istore C d_Ta_takeOption_19 (by decide) (lv' := [(4, .int (nI (tnm (g 6) L (tnd (g 6) L e)))), (0, .ref (Z.2.1 (2))), (1, .ref (Z.2.2.2.2.1 9)), (2, .ref (Z.2.1 (18 + 12 * 1 + p))), (3, .int (nI 2))]) rfl ?_
        refine x_iload C d_Ta_takeOption_21 0 rfl ?_
        refine x_ifge C d_Ta_takeOption_23 28 (by decide) (fun c_4 => ?_) (fun c_4 => ?_)
        · have nc_4 := Int32.not_lt.mpr c_4
          refine x_aload_n C d_Ta_takeOption_28 3 rfl rfl ?_
          refine x_iload_n C d_Ta_takeOption_29 4 rfl rfl ?_
          refine x_iload C d_Ta_takeOption_30 0 rfl ?_
          refine x_callVv C (c_Pe_set Z 1 p (by omega) hp8 2 (by omega) (nI (tnm (g 6) L (tnd (g 6) L e))) (va_up g 5 (lexR (g 6) r L (tnd (g 6) L (tnd (g 6) L e)))) _ (va_up_ne _ _ (by omega))) mi_Pe_set k_678 (show 18 + 12 * 1 + p < 50 by omega) (e_Pe Z 1 (by omega) _) rfl (As := [.int (nI 2), .int (nI (tnm (g 6) L (tnd (g 6) L e)))]) ⟨Nat.le_of_ble_eq_true rfl, Nat.le_of_ble_eq_true rfl⟩ rfl rfl (Nat.le_of_ble_eq_true rfl) d_Ta_takeOption_32 ?_
          refine x_iconst C d_Ta_takeOption_35 (v := 1) (by decide) ?_
          have hS : oS (g 6) L 9 15 (e, false) = nS (g 6) L 15 (tnd (g 6) L e, false) := if_pos ⟨rfl, by with_reducible assumption⟩
          have hN : nS (g 6) L 15 (tnd (g 6) L e, false) = (tnd (g 6) L (tnd (g 6) L e), false) := if_pos ⟨rfl, by with_reducible assumption⟩
          have hO : oR (g 6) L 9 15 p 2 (e, false) (g 1) = upd (g 1) (pI p 2) (nI (tnm (g 6) L (tnd (g 6) L e))) := if_pos ⟨rfl, by with_reducible assumption, by with_reducible assumption⟩
          exact x_zret C (by decide) (bI_t (by rw [hS, hN])).symm (by rw [hS, hN, hO]; exact va_com (by decide)) d_Ta_takeOption_36
        · exact absurd (nI_pos' (by omega)) c_4
      · skip
        refine x_callVi C (c_Ta_takeNumber_f Z (g 6) r L (tnd (g 6) L e) hL (tnd_le he) 15 (by omega) (va_up g 5 (lexR (g 6) r L (tnd (g 6) L e))) (va_up_ne _ _ (by omega)) (va_up_self _ _ _) h0 (by with_reducible assumption)) mi_Ta_takeNumber k_643 (show 2 < 50 by omega) (e_Ta Z _) rfl (As := [.int (15)]) ⟨Nat.le_of_ble_eq_true rfl, Nat.le_of_ble_eq_true rfl⟩ rfl rfl (Nat.le_of_ble_eq_true rfl) d_Ta_takeOption_16 ?_
        refine x_istore C d_Ta_takeOption_19 (by decide) (lv' := [(4, .int ((-1))), (0, .ref (Z.2.1 (2))), (1, .ref (Z.2.2.2.2.1 9)), (2, .ref (Z.2.1 (18 + 12 * 1 + p))), (3, .int (nI 2))]) rfl ?_
        refine x_iload C d_Ta_takeOption_21 0 rfl ?_
        refine x_ifge C d_Ta_takeOption_23 28 (by decide) (fun c_5 => ?_) (fun c_5 => ?_)
        · exact absurd c_5 (by decide)
        · have nc_5 := Int32.not_le.mp c_5
          refine x_iconst C d_Ta_takeOption_26 (v := 0) (by decide) ?_
          have hS : oS (g 6) L 9 15 (e, false) = nS (g 6) L 15 (tnd (g 6) L e, false) := if_pos ⟨rfl, by with_reducible assumption⟩
          have hN : nS (g 6) L 15 (tnd (g 6) L e, false) = (tnd (g 6) L e, true) := if_neg (fun z_ => absurd z_.2 (by with_reducible assumption))
          have hO : oR (g 6) L 9 15 p 2 (e, false) (g 1) = g 1 := if_neg (fun z_ => absurd z_.2.2 (by with_reducible assumption))
          exact x_zret C (by decide) (bI_f (by rw [hS, hN]; simp)).symm (by rw [hS, hN, hO, va_id]) d_Ta_takeOption_27
    · exact absurd c_2 (by decide)
  · skip
    refine x_callVi C (c_Ta_takeWord_f Z (g 6) r L e hL he 9 (by decide) (g) rfl h5 h0 (by with_reducible assumption)) mi_Ta_takeWord k_587 (show 2 < 50 by omega) (e_Ta Z _) rfl (As := [.ref (Z.2.2.2.2.1 9)]) ⟨Nat.le_of_ble_eq_true rfl, Nat.le_of_ble_eq_true rfl⟩ rfl rfl (Nat.le_of_ble_eq_true rfl) d_Ta_takeOption_2 ?_
    refine x_ifne C d_Ta_takeOption_5 10 (by decide) (fun c_6 => ?_) (fun c_6 => ?_)
    · exact absurd c_6 (by decide)
    · refine x_iconst C d_Ta_takeOption_8 (v := 1) (by decide) ?_
      have hS : oS (g 6) L 9 15 (e, false) = (e, false) := if_neg (fun z_ => absurd z_.2 (by with_reducible assumption))
      have hO : oR (g 6) L 9 15 p 2 (e, false) (g 1) = g 1 := if_neg (fun z_ => absurd z_.2.1 (by with_reducible assumption))
      exact x_zret C (by decide) (bI_t (by rw [hS])).symm (by rw [hS, hO, va_id, ← h5, va_id]) d_Ta_takeOption_9

theorem c_Ta_takeOption_2t (Z : ZT) (b r : Nat → Int32) (L e : Nat) (hL : L ≤ 120) (he : e ≤ L) (p : Nat) (hp8 : p < 8) (R : Nat → Int32) (E : Nat) (g : St)  (h6 : g 6 = b) (h5 : g 5 = lexR b r L e) (h0 : r 0 = nI L) (hR : g 1 = R) (hw : oS b L 9 15 (e, false) = (E, false)) : CT yC Z y_Ta_takeOption b_Ta_takeOption 5 (some (.boolean)) 5 107 [.ref (Z.2.1 (2)), .ref (Z.2.2.2.2.1 9), .ref (Z.2.1 (18 + 12 * 1 + p)), .int (nI 2)] (g) (QcI yC Z 1 (va_up (va_up g 1 (oR b L 9 15 p 2 (e, false) R)) 5 (lexR b r L E))) := by
  have h := c_Ta_takeOption_2 Z b r L e hL he p hp8 R g h6 h5 h0 hR
  rw [hw] at h
  exact h
theorem c_Ta_takeOption_2f (Z : ZT) (b r : Nat → Int32) (L e : Nat) (hL : L ≤ 120) (he : e ≤ L) (p : Nat) (hp8 : p < 8) (R : Nat → Int32) (E : Nat) (g : St)  (h6 : g 6 = b) (h5 : g 5 = lexR b r L e) (h0 : r 0 = nI L) (hR : g 1 = R) (hw : oS b L 9 15 (e, false) = (E, true)) : CT yC Z y_Ta_takeOption b_Ta_takeOption 5 (some (.boolean)) 5 107 [.ref (Z.2.1 (2)), .ref (Z.2.2.2.2.1 9), .ref (Z.2.1 (18 + 12 * 1 + p)), .int (nI 2)] (g) (QcI yC Z 0 (va_up (va_up g 1 (oR b L 9 15 p 2 (e, false) R)) 5 (lexR b r L E))) := by
  have h := c_Ta_takeOption_2 Z b r L e hL he p hp8 R g h6 h5 h0 hR
  rw [hw] at h
  exact h

set_option maxRecDepth 100000 in
set_option maxHeartbeats 600000 in
theorem c_Ta_takeOption_3 (Z : ZT) (b r : Nat → Int32) (L e : Nat) (hL : L ≤ 120) (he : e ≤ L) (p : Nat) (hp8 : p < 8) (R : Nat → Int32) (g : St)  (h6 : g 6 = b) (h5 : g 5 = lexR b r L e) (h0 : r 0 = nI L) (hR : g 1 = R) : CT yC Z y_Ta_takeOption b_Ta_takeOption 5 (some (.boolean)) 5 107 [.ref (Z.2.1 (2)), .ref (Z.2.2.2.2.1 10), .ref (Z.2.1 (18 + 12 * 1 + p)), .int (nI 3)] (g) (QcI yC Z (bI ((oS b L 10 99 (e, false)).2 = false)) (va_up (va_up g 1 (oR b L 10 99 p 3 (e, false) R)) 5 (lexR b r L (oS b L 10 99 (e, false)).1))) := by
  refine CT.mk "TunnelPeace$Tape" (by decide) rfl (Nat.le_of_ble_eq_true rfl) (fun X C => ?_)
  refine x_lv [0, 1, 2, 3] (lv' := [(0, .ref (Z.2.1 (2))), (1, .ref (Z.2.2.2.2.1 10)), (2, .ref (Z.2.1 (18 + 12 * 1 + p))), (3, .int (nI 3))]) rfl ?_
  subst h6
  have hj := skp_ge (b := g 6) (L := L) (e := e)
  have hjl := skp_le (b := g 6) he
  have hdg := tnd_ge (b := g 6) (L := L) (e := e)
  have hdl := tnd_le (b := g 6) he
  have ht4 := tok_4 (b := g 6) (L := L) (e := e)
  have hm4 := tnm_le (b := g 6) (L := L) (e := e)
  subst hR
  have hm5 := tnm_le (b := g 6) (L := L) (e := tnd (g 6) L e)
  refine x_aload_n C d_Ta_takeOption_0 0 rfl rfl ?_
  refine x_aload_n C d_Ta_takeOption_1 1 rfl rfl ?_
  by_cases c_1 : isW (g 6) L 10 e = true
  · skip
    refine x_callVi C (c_Ta_takeWord_t Z (g 6) r L e hL he 10 (by decide) (g) rfl h5 h0 (by with_reducible assumption)) mi_Ta_takeWord k_587 (show 2 < 50 by omega) (e_Ta Z _) rfl (As := [.ref (Z.2.2.2.2.1 10)]) ⟨Nat.le_of_ble_eq_true rfl, Nat.le_of_ble_eq_true rfl⟩ rfl rfl (Nat.le_of_ble_eq_true rfl) d_Ta_takeOption_2 ?_
    refine x_ifne C d_Ta_takeOption_5 10 (by decide) (fun c_2 => ?_) (fun c_2 => ?_)
    · refine x_aload_n C d_Ta_takeOption_10 0 rfl rfl ?_
      refine x_getst0N C (List.mem_of_getElem? (i := 3) rfl) d_Ta_takeOption_11 ?_
      refine x_iload_n C d_Ta_takeOption_14 3 rfl rfl ?_
      refine x_stld0 C 3 rfl (by decide) rfl d_Ta_takeOption_15 ?_
      by_cases c_3 : nOk (g 6) L 99 (tnd (g 6) L e) = true
      · skip
        refine x_callVi C (c_Ta_takeNumber_t Z (g 6) r L (tnd (g 6) L e) hL (tnd_le he) 99 (by omega) (va_up g 5 (lexR (g 6) r L (tnd (g 6) L e))) (va_up_ne _ _ (by omega)) (va_up_self _ _ _) h0 (by with_reducible assumption)) mi_Ta_takeNumber k_643 (show 2 < 50 by omega) (e_Ta Z _) rfl (As := [.int (99)]) ⟨Nat.le_of_ble_eq_true rfl, Nat.le_of_ble_eq_true rfl⟩ rfl rfl (Nat.le_of_ble_eq_true rfl) d_Ta_takeOption_16 ?_
        refine x_eqg (g' := va_up g 5 (lexR (g 6) r L (tnd (g 6) L (tnd (g 6) L e)))) (bx_uu _ _ _ _) ?_
        refine x_istore C d_Ta_takeOption_19 (by decide) (lv' := [(4, .int (nI (tnm (g 6) L (tnd (g 6) L e)))), (0, .ref (Z.2.1 (2))), (1, .ref (Z.2.2.2.2.1 10)), (2, .ref (Z.2.1 (18 + 12 * 1 + p))), (3, .int (nI 3))]) rfl ?_
        refine x_iload C d_Ta_takeOption_21 0 rfl ?_
        refine x_ifge C d_Ta_takeOption_23 28 (by decide) (fun c_4 => ?_) (fun c_4 => ?_)
        · have nc_4 := Int32.not_lt.mpr c_4
          refine x_aload_n C d_Ta_takeOption_28 3 rfl rfl ?_
          refine x_iload_n C d_Ta_takeOption_29 4 rfl rfl ?_
          refine x_iload C d_Ta_takeOption_30 0 rfl ?_
          refine x_callVv C (c_Pe_set Z 1 p (by omega) hp8 3 (by omega) (nI (tnm (g 6) L (tnd (g 6) L e))) (va_up g 5 (lexR (g 6) r L (tnd (g 6) L (tnd (g 6) L e)))) _ (va_up_ne _ _ (by omega))) mi_Pe_set k_678 (show 18 + 12 * 1 + p < 50 by omega) (e_Pe Z 1 (by omega) _) rfl (As := [.int (nI 3), .int (nI (tnm (g 6) L (tnd (g 6) L e)))]) ⟨Nat.le_of_ble_eq_true rfl, Nat.le_of_ble_eq_true rfl⟩ rfl rfl (Nat.le_of_ble_eq_true rfl) d_Ta_takeOption_32 ?_
          refine x_iconst C d_Ta_takeOption_35 (v := 1) (by decide) ?_
          have hS : oS (g 6) L 10 99 (e, false) = nS (g 6) L 99 (tnd (g 6) L e, false) := if_pos ⟨rfl, by with_reducible assumption⟩
          have hN : nS (g 6) L 99 (tnd (g 6) L e, false) = (tnd (g 6) L (tnd (g 6) L e), false) := if_pos ⟨rfl, by with_reducible assumption⟩
          have hO : oR (g 6) L 10 99 p 3 (e, false) (g 1) = upd (g 1) (pI p 3) (nI (tnm (g 6) L (tnd (g 6) L e))) := if_pos ⟨rfl, by with_reducible assumption, by with_reducible assumption⟩
          exact x_zret C (by decide) (bI_t (by rw [hS, hN])).symm (by rw [hS, hN, hO]; exact va_com (by decide)) d_Ta_takeOption_36
        · exact absurd (nI_pos' (by omega)) c_4
      · skip
        refine x_callVi C (c_Ta_takeNumber_f Z (g 6) r L (tnd (g 6) L e) hL (tnd_le he) 99 (by omega) (va_up g 5 (lexR (g 6) r L (tnd (g 6) L e))) (va_up_ne _ _ (by omega)) (va_up_self _ _ _) h0 (by with_reducible assumption)) mi_Ta_takeNumber k_643 (show 2 < 50 by omega) (e_Ta Z _) rfl (As := [.int (99)]) ⟨Nat.le_of_ble_eq_true rfl, Nat.le_of_ble_eq_true rfl⟩ rfl rfl (Nat.le_of_ble_eq_true rfl) d_Ta_takeOption_16 ?_
        refine x_istore C d_Ta_takeOption_19 (by decide) (lv' := [(4, .int ((-1))), (0, .ref (Z.2.1 (2))), (1, .ref (Z.2.2.2.2.1 10)), (2, .ref (Z.2.1 (18 + 12 * 1 + p))), (3, .int (nI 3))]) rfl ?_
        refine x_iload C d_Ta_takeOption_21 0 rfl ?_
        refine x_ifge C d_Ta_takeOption_23 28 (by decide) (fun c_5 => ?_) (fun c_5 => ?_)
        · exact absurd c_5 (by decide)
        · have nc_5 := Int32.not_le.mp c_5
          refine x_iconst C d_Ta_takeOption_26 (v := 0) (by decide) ?_
          have hS : oS (g 6) L 10 99 (e, false) = nS (g 6) L 99 (tnd (g 6) L e, false) := if_pos ⟨rfl, by with_reducible assumption⟩
          have hN : nS (g 6) L 99 (tnd (g 6) L e, false) = (tnd (g 6) L e, true) := if_neg (fun z_ => absurd z_.2 (by with_reducible assumption))
          have hO : oR (g 6) L 10 99 p 3 (e, false) (g 1) = g 1 := if_neg (fun z_ => absurd z_.2.2 (by with_reducible assumption))
          exact x_zret C (by decide) (bI_f (by rw [hS, hN]; simp)).symm (by rw [hS, hN, hO, va_id]) d_Ta_takeOption_27
    · exact absurd c_2 (by decide)
  · skip
    refine x_callVi C (c_Ta_takeWord_f Z (g 6) r L e hL he 10 (by decide) (g) rfl h5 h0 (by with_reducible assumption)) mi_Ta_takeWord k_587 (show 2 < 50 by omega) (e_Ta Z _) rfl (As := [.ref (Z.2.2.2.2.1 10)]) ⟨Nat.le_of_ble_eq_true rfl, Nat.le_of_ble_eq_true rfl⟩ rfl rfl (Nat.le_of_ble_eq_true rfl) d_Ta_takeOption_2 ?_
    refine x_ifne C d_Ta_takeOption_5 10 (by decide) (fun c_6 => ?_) (fun c_6 => ?_)
    · exact absurd c_6 (by decide)
    · refine x_iconst C d_Ta_takeOption_8 (v := 1) (by decide) ?_
      have hS : oS (g 6) L 10 99 (e, false) = (e, false) := if_neg (fun z_ => absurd z_.2 (by with_reducible assumption))
      have hO : oR (g 6) L 10 99 p 3 (e, false) (g 1) = g 1 := if_neg (fun z_ => absurd z_.2.1 (by with_reducible assumption))
      exact x_zret C (by decide) (bI_t (by rw [hS])).symm (by rw [hS, hO, va_id, ← h5, va_id]) d_Ta_takeOption_9

theorem c_Ta_takeOption_3t (Z : ZT) (b r : Nat → Int32) (L e : Nat) (hL : L ≤ 120) (he : e ≤ L) (p : Nat) (hp8 : p < 8) (R : Nat → Int32) (E : Nat) (g : St)  (h6 : g 6 = b) (h5 : g 5 = lexR b r L e) (h0 : r 0 = nI L) (hR : g 1 = R) (hw : oS b L 10 99 (e, false) = (E, false)) : CT yC Z y_Ta_takeOption b_Ta_takeOption 5 (some (.boolean)) 5 107 [.ref (Z.2.1 (2)), .ref (Z.2.2.2.2.1 10), .ref (Z.2.1 (18 + 12 * 1 + p)), .int (nI 3)] (g) (QcI yC Z 1 (va_up (va_up g 1 (oR b L 10 99 p 3 (e, false) R)) 5 (lexR b r L E))) := by
  have h := c_Ta_takeOption_3 Z b r L e hL he p hp8 R g h6 h5 h0 hR
  rw [hw] at h
  exact h
theorem c_Ta_takeOption_3f (Z : ZT) (b r : Nat → Int32) (L e : Nat) (hL : L ≤ 120) (he : e ≤ L) (p : Nat) (hp8 : p < 8) (R : Nat → Int32) (E : Nat) (g : St)  (h6 : g 6 = b) (h5 : g 5 = lexR b r L e) (h0 : r 0 = nI L) (hR : g 1 = R) (hw : oS b L 10 99 (e, false) = (E, true)) : CT yC Z y_Ta_takeOption b_Ta_takeOption 5 (some (.boolean)) 5 107 [.ref (Z.2.1 (2)), .ref (Z.2.2.2.2.1 10), .ref (Z.2.1 (18 + 12 * 1 + p)), .int (nI 3)] (g) (QcI yC Z 0 (va_up (va_up g 1 (oR b L 10 99 p 3 (e, false) R)) 5 (lexR b r L E))) := by
  have h := c_Ta_takeOption_3 Z b r L e hL he p hp8 R g h6 h5 h0 hR
  rw [hw] at h
  exact h

set_option maxRecDepth 100000 in
set_option maxHeartbeats 600000 in
theorem c_Ta_takeOption_4 (Z : ZT) (b r : Nat → Int32) (L e : Nat) (hL : L ≤ 120) (he : e ≤ L) (p : Nat) (hp8 : p < 8) (R : Nat → Int32) (g : St)  (h6 : g 6 = b) (h5 : g 5 = lexR b r L e) (h0 : r 0 = nI L) (hR : g 1 = R) : CT yC Z y_Ta_takeOption b_Ta_takeOption 5 (some (.boolean)) 5 107 [.ref (Z.2.1 (2)), .ref (Z.2.2.2.2.1 11), .ref (Z.2.1 (18 + 12 * 1 + p)), .int (nI 4)] (g) (QcI yC Z (bI ((oS b L 11 9 (e, false)).2 = false)) (va_up (va_up g 1 (oR b L 11 9 p 4 (e, false) R)) 5 (lexR b r L (oS b L 11 9 (e, false)).1))) := by
  refine CT.mk "TunnelPeace$Tape" (by decide) rfl (Nat.le_of_ble_eq_true rfl) (fun X C => ?_)
  refine x_lv [0, 1, 2, 3] (lv' := [(0, .ref (Z.2.1 (2))), (1, .ref (Z.2.2.2.2.1 11)), (2, .ref (Z.2.1 (18 + 12 * 1 + p))), (3, .int (nI 4))]) rfl ?_
  subst h6
  have hj := skp_ge (b := g 6) (L := L) (e := e)
  have hjl := skp_le (b := g 6) he
  have hdg := tnd_ge (b := g 6) (L := L) (e := e)
  have hdl := tnd_le (b := g 6) he
  have ht4 := tok_4 (b := g 6) (L := L) (e := e)
  have hm4 := tnm_le (b := g 6) (L := L) (e := e)
  subst hR
  have hm5 := tnm_le (b := g 6) (L := L) (e := tnd (g 6) L e)
  refine x_aload_n C d_Ta_takeOption_0 0 rfl rfl ?_
  refine x_aload_n C d_Ta_takeOption_1 1 rfl rfl ?_
  by_cases c_1 : isW (g 6) L 11 e = true
  · skip
    refine x_callVi C (c_Ta_takeWord_t Z (g 6) r L e hL he 11 (by decide) (g) rfl h5 h0 (by with_reducible assumption)) mi_Ta_takeWord k_587 (show 2 < 50 by omega) (e_Ta Z _) rfl (As := [.ref (Z.2.2.2.2.1 11)]) ⟨Nat.le_of_ble_eq_true rfl, Nat.le_of_ble_eq_true rfl⟩ rfl rfl (Nat.le_of_ble_eq_true rfl) d_Ta_takeOption_2 ?_
    refine x_ifne C d_Ta_takeOption_5 10 (by decide) (fun c_2 => ?_) (fun c_2 => ?_)
    · refine x_aload_n C d_Ta_takeOption_10 0 rfl rfl ?_
      refine x_getst0N C (List.mem_of_getElem? (i := 3) rfl) d_Ta_takeOption_11 ?_
      refine x_iload_n C d_Ta_takeOption_14 3 rfl rfl ?_
      refine x_stld0 C 4 rfl (by decide) rfl d_Ta_takeOption_15 ?_
      by_cases c_3 : nOk (g 6) L 9 (tnd (g 6) L e) = true
      · skip
        refine x_callVi C (c_Ta_takeNumber_t Z (g 6) r L (tnd (g 6) L e) hL (tnd_le he) 9 (by omega) (va_up g 5 (lexR (g 6) r L (tnd (g 6) L e))) (va_up_ne _ _ (by omega)) (va_up_self _ _ _) h0 (by with_reducible assumption)) mi_Ta_takeNumber k_643 (show 2 < 50 by omega) (e_Ta Z _) rfl (As := [.int (9)]) ⟨Nat.le_of_ble_eq_true rfl, Nat.le_of_ble_eq_true rfl⟩ rfl rfl (Nat.le_of_ble_eq_true rfl) d_Ta_takeOption_16 ?_
        refine x_eqg (g' := va_up g 5 (lexR (g 6) r L (tnd (g 6) L (tnd (g 6) L e)))) (bx_uu _ _ _ _) ?_
        refine x_istore C d_Ta_takeOption_19 (by decide) (lv' := [(4, .int (nI (tnm (g 6) L (tnd (g 6) L e)))), (0, .ref (Z.2.1 (2))), (1, .ref (Z.2.2.2.2.1 11)), (2, .ref (Z.2.1 (18 + 12 * 1 + p))), (3, .int (nI 4))]) rfl ?_
        refine x_iload C d_Ta_takeOption_21 0 rfl ?_
        refine x_ifge C d_Ta_takeOption_23 28 (by decide) (fun c_4 => ?_) (fun c_4 => ?_)
        · have nc_4 := Int32.not_lt.mpr c_4
          refine x_aload_n C d_Ta_takeOption_28 3 rfl rfl ?_
          refine x_iload_n C d_Ta_takeOption_29 4 rfl rfl ?_
          refine x_iload C d_Ta_takeOption_30 0 rfl ?_
          refine x_callVv C (c_Pe_set Z 1 p (by omega) hp8 4 (by omega) (nI (tnm (g 6) L (tnd (g 6) L e))) (va_up g 5 (lexR (g 6) r L (tnd (g 6) L (tnd (g 6) L e)))) _ (va_up_ne _ _ (by omega))) mi_Pe_set k_678 (show 18 + 12 * 1 + p < 50 by omega) (e_Pe Z 1 (by omega) _) rfl (As := [.int (nI 4), .int (nI (tnm (g 6) L (tnd (g 6) L e)))]) ⟨Nat.le_of_ble_eq_true rfl, Nat.le_of_ble_eq_true rfl⟩ rfl rfl (Nat.le_of_ble_eq_true rfl) d_Ta_takeOption_32 ?_
          refine x_iconst C d_Ta_takeOption_35 (v := 1) (by decide) ?_
          have hS : oS (g 6) L 11 9 (e, false) = nS (g 6) L 9 (tnd (g 6) L e, false) := if_pos ⟨rfl, by with_reducible assumption⟩
          have hN : nS (g 6) L 9 (tnd (g 6) L e, false) = (tnd (g 6) L (tnd (g 6) L e), false) := if_pos ⟨rfl, by with_reducible assumption⟩
          have hO : oR (g 6) L 11 9 p 4 (e, false) (g 1) = upd (g 1) (pI p 4) (nI (tnm (g 6) L (tnd (g 6) L e))) := if_pos ⟨rfl, by with_reducible assumption, by with_reducible assumption⟩
          exact x_zret C (by decide) (bI_t (by rw [hS, hN])).symm (by rw [hS, hN, hO]; exact va_com (by decide)) d_Ta_takeOption_36
        · exact absurd (nI_pos' (by omega)) c_4
      · skip
        refine x_callVi C (c_Ta_takeNumber_f Z (g 6) r L (tnd (g 6) L e) hL (tnd_le he) 9 (by omega) (va_up g 5 (lexR (g 6) r L (tnd (g 6) L e))) (va_up_ne _ _ (by omega)) (va_up_self _ _ _) h0 (by with_reducible assumption)) mi_Ta_takeNumber k_643 (show 2 < 50 by omega) (e_Ta Z _) rfl (As := [.int (9)]) ⟨Nat.le_of_ble_eq_true rfl, Nat.le_of_ble_eq_true rfl⟩ rfl rfl (Nat.le_of_ble_eq_true rfl) d_Ta_takeOption_16 ?_
        refine x_istore C d_Ta_takeOption_19 (by decide) (lv' := [(4, .int ((-1))), (0, .ref (Z.2.1 (2))), (1, .ref (Z.2.2.2.2.1 11)), (2, .ref (Z.2.1 (18 + 12 * 1 + p))), (3, .int (nI 4))]) rfl ?_
        refine x_iload C d_Ta_takeOption_21 0 rfl ?_
        refine x_ifge C d_Ta_takeOption_23 28 (by decide) (fun c_5 => ?_) (fun c_5 => ?_)
        · exact absurd c_5 (by decide)
        · have nc_5 := Int32.not_le.mp c_5
          refine x_iconst C d_Ta_takeOption_26 (v := 0) (by decide) ?_
          have hS : oS (g 6) L 11 9 (e, false) = nS (g 6) L 9 (tnd (g 6) L e, false) := if_pos ⟨rfl, by with_reducible assumption⟩
          have hN : nS (g 6) L 9 (tnd (g 6) L e, false) = (tnd (g 6) L e, true) := if_neg (fun z_ => absurd z_.2 (by with_reducible assumption))
          have hO : oR (g 6) L 11 9 p 4 (e, false) (g 1) = g 1 := if_neg (fun z_ => absurd z_.2.2 (by with_reducible assumption))
          exact x_zret C (by decide) (bI_f (by rw [hS, hN]; simp)).symm (by rw [hS, hN, hO, va_id]) d_Ta_takeOption_27
    · exact absurd c_2 (by decide)
  · skip
    refine x_callVi C (c_Ta_takeWord_f Z (g 6) r L e hL he 11 (by decide) (g) rfl h5 h0 (by with_reducible assumption)) mi_Ta_takeWord k_587 (show 2 < 50 by omega) (e_Ta Z _) rfl (As := [.ref (Z.2.2.2.2.1 11)]) ⟨Nat.le_of_ble_eq_true rfl, Nat.le_of_ble_eq_true rfl⟩ rfl rfl (Nat.le_of_ble_eq_true rfl) d_Ta_takeOption_2 ?_
    refine x_ifne C d_Ta_takeOption_5 10 (by decide) (fun c_6 => ?_) (fun c_6 => ?_)
    · exact absurd c_6 (by decide)
    · refine x_iconst C d_Ta_takeOption_8 (v := 1) (by decide) ?_
      have hS : oS (g 6) L 11 9 (e, false) = (e, false) := if_neg (fun z_ => absurd z_.2 (by with_reducible assumption))
      have hO : oR (g 6) L 11 9 p 4 (e, false) (g 1) = g 1 := if_neg (fun z_ => absurd z_.2.1 (by with_reducible assumption))
      exact x_zret C (by decide) (bI_t (by rw [hS])).symm (by rw [hS, hO, va_id, ← h5, va_id]) d_Ta_takeOption_9

theorem c_Ta_takeOption_4t (Z : ZT) (b r : Nat → Int32) (L e : Nat) (hL : L ≤ 120) (he : e ≤ L) (p : Nat) (hp8 : p < 8) (R : Nat → Int32) (E : Nat) (g : St)  (h6 : g 6 = b) (h5 : g 5 = lexR b r L e) (h0 : r 0 = nI L) (hR : g 1 = R) (hw : oS b L 11 9 (e, false) = (E, false)) : CT yC Z y_Ta_takeOption b_Ta_takeOption 5 (some (.boolean)) 5 107 [.ref (Z.2.1 (2)), .ref (Z.2.2.2.2.1 11), .ref (Z.2.1 (18 + 12 * 1 + p)), .int (nI 4)] (g) (QcI yC Z 1 (va_up (va_up g 1 (oR b L 11 9 p 4 (e, false) R)) 5 (lexR b r L E))) := by
  have h := c_Ta_takeOption_4 Z b r L e hL he p hp8 R g h6 h5 h0 hR
  rw [hw] at h
  exact h
theorem c_Ta_takeOption_4f (Z : ZT) (b r : Nat → Int32) (L e : Nat) (hL : L ≤ 120) (he : e ≤ L) (p : Nat) (hp8 : p < 8) (R : Nat → Int32) (E : Nat) (g : St)  (h6 : g 6 = b) (h5 : g 5 = lexR b r L e) (h0 : r 0 = nI L) (hR : g 1 = R) (hw : oS b L 11 9 (e, false) = (E, true)) : CT yC Z y_Ta_takeOption b_Ta_takeOption 5 (some (.boolean)) 5 107 [.ref (Z.2.1 (2)), .ref (Z.2.2.2.2.1 11), .ref (Z.2.1 (18 + 12 * 1 + p)), .int (nI 4)] (g) (QcI yC Z 0 (va_up (va_up g 1 (oR b L 11 9 p 4 (e, false) R)) 5 (lexR b r L E))) := by
  have h := c_Ta_takeOption_4 Z b r L e hL he p hp8 R g h6 h5 h0 hR
  rw [hw] at h
  exact h

set_option maxRecDepth 100000 in
set_option maxHeartbeats 600000 in
theorem c_Ta_takeOption_5 (Z : ZT) (b r : Nat → Int32) (L e : Nat) (hL : L ≤ 120) (he : e ≤ L) (p : Nat) (hp8 : p < 8) (R : Nat → Int32) (g : St)  (h6 : g 6 = b) (h5 : g 5 = lexR b r L e) (h0 : r 0 = nI L) (hR : g 1 = R) : CT yC Z y_Ta_takeOption b_Ta_takeOption 5 (some (.boolean)) 5 107 [.ref (Z.2.1 (2)), .ref (Z.2.2.2.2.1 12), .ref (Z.2.1 (18 + 12 * 1 + p)), .int (nI 5)] (g) (QcI yC Z (bI ((oS b L 12 9999 (e, false)).2 = false)) (va_up (va_up g 1 (oR b L 12 9999 p 5 (e, false) R)) 5 (lexR b r L (oS b L 12 9999 (e, false)).1))) := by
  refine CT.mk "TunnelPeace$Tape" (by decide) rfl (Nat.le_of_ble_eq_true rfl) (fun X C => ?_)
  refine x_lv [0, 1, 2, 3] (lv' := [(0, .ref (Z.2.1 (2))), (1, .ref (Z.2.2.2.2.1 12)), (2, .ref (Z.2.1 (18 + 12 * 1 + p))), (3, .int (nI 5))]) rfl ?_
  subst h6
  have hj := skp_ge (b := g 6) (L := L) (e := e)
  have hjl := skp_le (b := g 6) he
  have hdg := tnd_ge (b := g 6) (L := L) (e := e)
  have hdl := tnd_le (b := g 6) he
  have ht4 := tok_4 (b := g 6) (L := L) (e := e)
  have hm4 := tnm_le (b := g 6) (L := L) (e := e)
  subst hR
  have hm5 := tnm_le (b := g 6) (L := L) (e := tnd (g 6) L e)
  refine x_aload_n C d_Ta_takeOption_0 0 rfl rfl ?_
  refine x_aload_n C d_Ta_takeOption_1 1 rfl rfl ?_
  by_cases c_1 : isW (g 6) L 12 e = true
  · skip
    refine x_callVi C (c_Ta_takeWord_t Z (g 6) r L e hL he 12 (by decide) (g) rfl h5 h0 (by with_reducible assumption)) mi_Ta_takeWord k_587 (show 2 < 50 by omega) (e_Ta Z _) rfl (As := [.ref (Z.2.2.2.2.1 12)]) ⟨Nat.le_of_ble_eq_true rfl, Nat.le_of_ble_eq_true rfl⟩ rfl rfl (Nat.le_of_ble_eq_true rfl) d_Ta_takeOption_2 ?_
    refine x_ifne C d_Ta_takeOption_5 10 (by decide) (fun c_2 => ?_) (fun c_2 => ?_)
    · refine x_aload_n C d_Ta_takeOption_10 0 rfl rfl ?_
      refine x_getst0N C (List.mem_of_getElem? (i := 3) rfl) d_Ta_takeOption_11 ?_
      refine x_iload_n C d_Ta_takeOption_14 3 rfl rfl ?_
      refine x_stld0 C 5 rfl (by decide) rfl d_Ta_takeOption_15 ?_
      by_cases c_3 : nOk (g 6) L 9999 (tnd (g 6) L e) = true
      · skip
        refine x_callVi C (c_Ta_takeNumber_t Z (g 6) r L (tnd (g 6) L e) hL (tnd_le he) 9999 (by omega) (va_up g 5 (lexR (g 6) r L (tnd (g 6) L e))) (va_up_ne _ _ (by omega)) (va_up_self _ _ _) h0 (by with_reducible assumption)) mi_Ta_takeNumber k_643 (show 2 < 50 by omega) (e_Ta Z _) rfl (As := [.int (9999)]) ⟨Nat.le_of_ble_eq_true rfl, Nat.le_of_ble_eq_true rfl⟩ rfl rfl (Nat.le_of_ble_eq_true rfl) d_Ta_takeOption_16 ?_
        refine x_eqg (g' := va_up g 5 (lexR (g 6) r L (tnd (g 6) L (tnd (g 6) L e)))) (bx_uu _ _ _ _) ?_
        refine x_istore C d_Ta_takeOption_19 (by decide) (lv' := [(4, .int (nI (tnm (g 6) L (tnd (g 6) L e)))), (0, .ref (Z.2.1 (2))), (1, .ref (Z.2.2.2.2.1 12)), (2, .ref (Z.2.1 (18 + 12 * 1 + p))), (3, .int (nI 5))]) rfl ?_
        refine x_iload C d_Ta_takeOption_21 0 rfl ?_
        refine x_ifge C d_Ta_takeOption_23 28 (by decide) (fun c_4 => ?_) (fun c_4 => ?_)
        · have nc_4 := Int32.not_lt.mpr c_4
          refine x_aload_n C d_Ta_takeOption_28 3 rfl rfl ?_
          refine x_iload_n C d_Ta_takeOption_29 4 rfl rfl ?_
          refine x_iload C d_Ta_takeOption_30 0 rfl ?_
          refine x_callVv C (c_Pe_set Z 1 p (by omega) hp8 5 (by omega) (nI (tnm (g 6) L (tnd (g 6) L e))) (va_up g 5 (lexR (g 6) r L (tnd (g 6) L (tnd (g 6) L e)))) _ (va_up_ne _ _ (by omega))) mi_Pe_set k_678 (show 18 + 12 * 1 + p < 50 by omega) (e_Pe Z 1 (by omega) _) rfl (As := [.int (nI 5), .int (nI (tnm (g 6) L (tnd (g 6) L e)))]) ⟨Nat.le_of_ble_eq_true rfl, Nat.le_of_ble_eq_true rfl⟩ rfl rfl (Nat.le_of_ble_eq_true rfl) d_Ta_takeOption_32 ?_
          refine x_iconst C d_Ta_takeOption_35 (v := 1) (by decide) ?_
          have hS : oS (g 6) L 12 9999 (e, false) = nS (g 6) L 9999 (tnd (g 6) L e, false) := if_pos ⟨rfl, by with_reducible assumption⟩
          have hN : nS (g 6) L 9999 (tnd (g 6) L e, false) = (tnd (g 6) L (tnd (g 6) L e), false) := if_pos ⟨rfl, by with_reducible assumption⟩
          have hO : oR (g 6) L 12 9999 p 5 (e, false) (g 1) = upd (g 1) (pI p 5) (nI (tnm (g 6) L (tnd (g 6) L e))) := if_pos ⟨rfl, by with_reducible assumption, by with_reducible assumption⟩
          exact x_zret C (by decide) (bI_t (by rw [hS, hN])).symm (by rw [hS, hN, hO]; exact va_com (by decide)) d_Ta_takeOption_36
        · exact absurd (nI_pos' (by omega)) c_4
      · skip
        refine x_callVi C (c_Ta_takeNumber_f Z (g 6) r L (tnd (g 6) L e) hL (tnd_le he) 9999 (by omega) (va_up g 5 (lexR (g 6) r L (tnd (g 6) L e))) (va_up_ne _ _ (by omega)) (va_up_self _ _ _) h0 (by with_reducible assumption)) mi_Ta_takeNumber k_643 (show 2 < 50 by omega) (e_Ta Z _) rfl (As := [.int (9999)]) ⟨Nat.le_of_ble_eq_true rfl, Nat.le_of_ble_eq_true rfl⟩ rfl rfl (Nat.le_of_ble_eq_true rfl) d_Ta_takeOption_16 ?_
        refine x_istore C d_Ta_takeOption_19 (by decide) (lv' := [(4, .int ((-1))), (0, .ref (Z.2.1 (2))), (1, .ref (Z.2.2.2.2.1 12)), (2, .ref (Z.2.1 (18 + 12 * 1 + p))), (3, .int (nI 5))]) rfl ?_
        refine x_iload C d_Ta_takeOption_21 0 rfl ?_
        refine x_ifge C d_Ta_takeOption_23 28 (by decide) (fun c_5 => ?_) (fun c_5 => ?_)
        · exact absurd c_5 (by decide)
        · have nc_5 := Int32.not_le.mp c_5
          refine x_iconst C d_Ta_takeOption_26 (v := 0) (by decide) ?_
          have hS : oS (g 6) L 12 9999 (e, false) = nS (g 6) L 9999 (tnd (g 6) L e, false) := if_pos ⟨rfl, by with_reducible assumption⟩
          have hN : nS (g 6) L 9999 (tnd (g 6) L e, false) = (tnd (g 6) L e, true) := if_neg (fun z_ => absurd z_.2 (by with_reducible assumption))
          have hO : oR (g 6) L 12 9999 p 5 (e, false) (g 1) = g 1 := if_neg (fun z_ => absurd z_.2.2 (by with_reducible assumption))
          exact x_zret C (by decide) (bI_f (by rw [hS, hN]; simp)).symm (by rw [hS, hN, hO, va_id]) d_Ta_takeOption_27
    · exact absurd c_2 (by decide)
  · skip
    refine x_callVi C (c_Ta_takeWord_f Z (g 6) r L e hL he 12 (by decide) (g) rfl h5 h0 (by with_reducible assumption)) mi_Ta_takeWord k_587 (show 2 < 50 by omega) (e_Ta Z _) rfl (As := [.ref (Z.2.2.2.2.1 12)]) ⟨Nat.le_of_ble_eq_true rfl, Nat.le_of_ble_eq_true rfl⟩ rfl rfl (Nat.le_of_ble_eq_true rfl) d_Ta_takeOption_2 ?_
    refine x_ifne C d_Ta_takeOption_5 10 (by decide) (fun c_6 => ?_) (fun c_6 => ?_)
    · exact absurd c_6 (by decide)
    · refine x_iconst C d_Ta_takeOption_8 (v := 1) (by decide) ?_
      have hS : oS (g 6) L 12 9999 (e, false) = (e, false) := if_neg (fun z_ => absurd z_.2 (by with_reducible assumption))
      have hO : oR (g 6) L 12 9999 p 5 (e, false) (g 1) = g 1 := if_neg (fun z_ => absurd z_.2.1 (by with_reducible assumption))
      exact x_zret C (by decide) (bI_t (by rw [hS])).symm (by rw [hS, hO, va_id, ← h5, va_id]) d_Ta_takeOption_9

theorem c_Ta_takeOption_5t (Z : ZT) (b r : Nat → Int32) (L e : Nat) (hL : L ≤ 120) (he : e ≤ L) (p : Nat) (hp8 : p < 8) (R : Nat → Int32) (E : Nat) (g : St)  (h6 : g 6 = b) (h5 : g 5 = lexR b r L e) (h0 : r 0 = nI L) (hR : g 1 = R) (hw : oS b L 12 9999 (e, false) = (E, false)) : CT yC Z y_Ta_takeOption b_Ta_takeOption 5 (some (.boolean)) 5 107 [.ref (Z.2.1 (2)), .ref (Z.2.2.2.2.1 12), .ref (Z.2.1 (18 + 12 * 1 + p)), .int (nI 5)] (g) (QcI yC Z 1 (va_up (va_up g 1 (oR b L 12 9999 p 5 (e, false) R)) 5 (lexR b r L E))) := by
  have h := c_Ta_takeOption_5 Z b r L e hL he p hp8 R g h6 h5 h0 hR
  rw [hw] at h
  exact h
theorem c_Ta_takeOption_5f (Z : ZT) (b r : Nat → Int32) (L e : Nat) (hL : L ≤ 120) (he : e ≤ L) (p : Nat) (hp8 : p < 8) (R : Nat → Int32) (E : Nat) (g : St)  (h6 : g 6 = b) (h5 : g 5 = lexR b r L e) (h0 : r 0 = nI L) (hR : g 1 = R) (hw : oS b L 12 9999 (e, false) = (E, true)) : CT yC Z y_Ta_takeOption b_Ta_takeOption 5 (some (.boolean)) 5 107 [.ref (Z.2.1 (2)), .ref (Z.2.2.2.2.1 12), .ref (Z.2.1 (18 + 12 * 1 + p)), .int (nI 5)] (g) (QcI yC Z 0 (va_up (va_up g 1 (oR b L 12 9999 p 5 (e, false) R)) 5 (lexR b r L E))) := by
  have h := c_Ta_takeOption_5 Z b r L e hL he p hp8 R g h6 h5 h0 hR
  rw [hw] at h
  exact h

set_option maxRecDepth 100000 in
set_option maxHeartbeats 600000 in
theorem c_Ta_takePlace (Z : ZT) (b r : Nat → Int32) (L e : Nat) (hL : L ≤ 120) (he : e ≤ L) (R : Nat → Int32) (g : St)  (h6 : g 6 = b) (h5 : g 5 = lexR b r L e) (h0 : r 0 = nI L) (hR : g 1 = R) : CT yC Z y_Ta_takePlace b_Ta_takePlace 4 (some (.boolean)) 3 64 [.ref (Z.2.1 (2)), .ref (Z.2.1 (14 + 12 * 1))] (g) (QcI yC Z (bI ((nS b L 15 (nS b L 5 (e, false))).2 = false)) (va_up (va_up g 1 (if (nS b L 15 (nS b L 5 (e, false))).2 = true then R else upd R (4 + tnm b L e) (nI (tnm b L (tnd b L e))))) 5 (lexR b r L (nS b L 15 (nS b L 5 (e, false))).1))) := by
  refine CT.mk "TunnelPeace$Tape" (by decide) rfl (Nat.le_of_ble_eq_true rfl) (fun X C => ?_)
  refine x_lv [0, 1] (lv' := [(0, .ref (Z.2.1 (2))), (1, .ref (Z.2.1 (14 + 12 * 1)))]) rfl ?_
  subst h6
  have hj := skp_ge (b := g 6) (L := L) (e := e)
  have hjl := skp_le (b := g 6) he
  have hdg := tnd_ge (b := g 6) (L := L) (e := e)
  have hdl := tnd_le (b := g 6) he
  have ht4 := tok_4 (b := g 6) (L := L) (e := e)
  have hm4 := tnm_le (b := g 6) (L := L) (e := e)
  subst hR
  have hm5 := tnm_le (b := g 6) (L := L) (e := tnd (g 6) L e)
  refine x_aload_n C d_Ta_takePlace_0 0 rfl rfl ?_
  refine x_iconst C d_Ta_takePlace_1 (v := 5) (by decide) ?_
  by_cases c_1 : nOk (g 6) L 5 e = true
  · skip
    refine x_callVi C (c_Ta_takeNumber_t Z (g 6) r L e hL he 5 (by omega) (g) rfl h5 h0 (by with_reducible assumption)) mi_Ta_takeNumber k_643 (show 2 < 50 by omega) (e_Ta Z _) rfl (As := [.int (5)]) ⟨Nat.le_of_ble_eq_true rfl, Nat.le_of_ble_eq_true rfl⟩ rfl rfl (Nat.le_of_ble_eq_true rfl) d_Ta_takePlace_2 ?_
    refine x_istore_n C d_Ta_takePlace_5 rfl (by decide) (lv' := [(2, .int (nI (tnm (g 6) L e))), (0, .ref (Z.2.1 (2))), (1, .ref (Z.2.1 (14 + 12 * 1)))]) rfl ?_
    refine x_iload_n C d_Ta_takePlace_6 0 rfl rfl ?_
    refine x_ifge C d_Ta_takePlace_7 12 (by decide) (fun c_2 => ?_) (fun c_2 => ?_)
    · have nc_2 := Int32.not_lt.mpr c_2
      refine x_aload_n C d_Ta_takePlace_12 1 rfl rfl ?_
      refine x_bipush C d_Ta_takePlace_13 (v := 15) (by decide) ?_
      by_cases c_3 : nOk (g 6) L 15 (tnd (g 6) L e) = true
      · skip
        refine x_callVi C (c_Ta_takeNumber_t Z (g 6) r L (tnd (g 6) L e) hL (tnd_le he) 15 (by omega) (va_up g 5 (lexR (g 6) r L (tnd (g 6) L e))) (va_up_ne _ _ (by omega)) (va_up_self _ _ _) h0 (by with_reducible assumption)) mi_Ta_takeNumber k_643 (show 2 < 50 by omega) (e_Ta Z _) rfl (As := [.int (15)]) ⟨Nat.le_of_ble_eq_true rfl, Nat.le_of_ble_eq_true rfl⟩ rfl rfl (Nat.le_of_ble_eq_true rfl) d_Ta_takePlace_15 ?_
        refine x_eqg (g' := va_up g 5 (lexR (g 6) r L (tnd (g 6) L (tnd (g 6) L e)))) (bx_uu _ _ _ _) ?_
        refine x_istore_n C d_Ta_takePlace_18 rfl (by decide) (lv' := [(3, .int (nI (tnm (g 6) L (tnd (g 6) L e)))), (2, .int (nI (tnm (g 6) L e))), (0, .ref (Z.2.1 (2))), (1, .ref (Z.2.1 (14 + 12 * 1)))]) rfl ?_
        refine x_iload_n C d_Ta_takePlace_19 0 rfl rfl ?_
        refine x_ifge C d_Ta_takePlace_20 25 (by decide) (fun c_4 => ?_) (fun c_4 => ?_)
        · have nc_4 := Int32.not_lt.mpr c_4
          have hq5 : tnm (g 6) L e ≤ 5 := (nOk_i.mp (by with_reducible assumption)).2
          refine x_aload_n C d_Ta_takePlace_25 3 rfl rfl ?_
          refine gf_Tu_list C (by omega) k_79 d_Ta_takePlace_26 ?_
          refine x_iload_n C d_Ta_takePlace_29 1 rfl rfl ?_
          refine x_iload_n C d_Ta_takePlace_30 0 rfl rfl ?_
          refine as_li C (by omega) (tnm (g 6) L e) (v := nI (tnm (g 6) L (tnd (g 6) L e))) rfl (by omega) (G := va_up (va_up g 5 (lexR (g 6) r L (tnd (g 6) L (tnd (g 6) L e)))) 1 (upd (g 1) (4 + (tnm (g 6) L e)) (nI (tnm (g 6) L (tnd (g 6) L e))))) (congrArg (fun z => va_up _ _ (upd z _ _)) (va_up_ne _ _ (by omega))) d_Ta_takePlace_31 ?_
          refine x_iconst C d_Ta_takePlace_32 (v := 1) (by decide) ?_
          have h1 : nS (g 6) L 5 (e, false) = (tnd (g 6) L e, false) := if_pos ⟨rfl, by with_reducible assumption⟩
          have hS : nS (g 6) L 15 (nS (g 6) L 5 (e, false)) = (tnd (g 6) L (tnd (g 6) L e), false) := by rw [h1]; exact if_pos ⟨rfl, by with_reducible assumption⟩
          exact x_zret C (by decide) (bI_t (by rw [hS])).symm (by rw [hS, if_neg (by simp)]; exact va_com (by decide)) d_Ta_takePlace_33
        · exact absurd (nI_pos' (by omega)) c_4
      · skip
        refine x_callVi C (c_Ta_takeNumber_f Z (g 6) r L (tnd (g 6) L e) hL (tnd_le he) 15 (by omega) (va_up g 5 (lexR (g 6) r L (tnd (g 6) L e))) (va_up_ne _ _ (by omega)) (va_up_self _ _ _) h0 (by with_reducible assumption)) mi_Ta_takeNumber k_643 (show 2 < 50 by omega) (e_Ta Z _) rfl (As := [.int (15)]) ⟨Nat.le_of_ble_eq_true rfl, Nat.le_of_ble_eq_true rfl⟩ rfl rfl (Nat.le_of_ble_eq_true rfl) d_Ta_takePlace_15 ?_
        refine x_istore_n C d_Ta_takePlace_18 rfl (by decide) (lv' := [(3, .int ((-1))), (2, .int (nI (tnm (g 6) L e))), (0, .ref (Z.2.1 (2))), (1, .ref (Z.2.1 (14 + 12 * 1)))]) rfl ?_
        refine x_iload_n C d_Ta_takePlace_19 0 rfl rfl ?_
        refine x_ifge C d_Ta_takePlace_20 25 (by decide) (fun c_5 => ?_) (fun c_5 => ?_)
        · exact absurd c_5 (by decide)
        · have nc_5 := Int32.not_le.mp c_5
          refine x_iconst C d_Ta_takePlace_23 (v := 0) (by decide) ?_
          have h1 : nS (g 6) L 5 (e, false) = (tnd (g 6) L e, false) := if_pos ⟨rfl, by with_reducible assumption⟩
          have hS : nS (g 6) L 15 (nS (g 6) L 5 (e, false)) = (tnd (g 6) L e, true) := by rw [h1]; exact if_neg (fun z_ => absurd z_.2 (by with_reducible assumption))
          exact x_zret C (by decide) (bI_f (by rw [hS]; simp)).symm (by rw [hS, if_pos rfl, va_id]) d_Ta_takePlace_24
    · exact absurd (nI_pos' (by omega)) c_2
  · skip
    refine x_callVi C (c_Ta_takeNumber_f Z (g 6) r L e hL he 5 (by omega) (g) rfl h5 h0 (by with_reducible assumption)) mi_Ta_takeNumber k_643 (show 2 < 50 by omega) (e_Ta Z _) rfl (As := [.int (5)]) ⟨Nat.le_of_ble_eq_true rfl, Nat.le_of_ble_eq_true rfl⟩ rfl rfl (Nat.le_of_ble_eq_true rfl) d_Ta_takePlace_2 ?_
    refine x_istore_n C d_Ta_takePlace_5 rfl (by decide) (lv' := [(2, .int ((-1))), (0, .ref (Z.2.1 (2))), (1, .ref (Z.2.1 (14 + 12 * 1)))]) rfl ?_
    refine x_iload_n C d_Ta_takePlace_6 0 rfl rfl ?_
    refine x_ifge C d_Ta_takePlace_7 12 (by decide) (fun c_6 => ?_) (fun c_6 => ?_)
    · exact absurd c_6 (by decide)
    · have nc_6 := Int32.not_le.mp c_6
      refine x_iconst C d_Ta_takePlace_10 (v := 0) (by decide) ?_
      have hS : nS (g 6) L 15 (nS (g 6) L 5 (e, false)) = (e, true) := by rw [show nS (g 6) L 5 (e, false) = (e, true) from if_neg (fun z_ => absurd z_.2 (by with_reducible assumption))]; exact nS_t
      exact x_zret C (by decide) (bI_f (by rw [hS]; simp)).symm (by rw [hS, if_pos rfl, va_id, ← h5, va_id]) d_Ta_takePlace_11

set_option maxRecDepth 100000 in
set_option maxHeartbeats 600000 in
theorem c_Ta_takeGuns (Z : ZT) (b r : Nat → Int32) (L e : Nat) (hL : L ≤ 120) (he : e ≤ L) (R : Nat → Int32) (g : St)  (h6 : g 6 = b) (h5 : g 5 = lexR b r L e) (h0 : r 0 = nI L) (hR : g 1 = R) : CT yC Z y_Ta_takeGuns b_Ta_takeGuns 3 (some (.boolean)) 3 64 [.ref (Z.2.1 (2)), .ref (Z.2.1 (14 + 12 * 1))] (g) (QcI yC Z (bI ((nS b L 99 (e, false)).2 = false)) (va_up (va_up g 1 (if (nS b L 99 (e, false)).2 = true then R else upd R 3 (nI (tnm b L e)))) 5 (lexR b r L (nS b L 99 (e, false)).1))) := by
  refine CT.mk "TunnelPeace$Tape" (by decide) rfl (Nat.le_of_ble_eq_true rfl) (fun X C => ?_)
  refine x_lv [0, 1] (lv' := [(0, .ref (Z.2.1 (2))), (1, .ref (Z.2.1 (14 + 12 * 1)))]) rfl ?_
  subst h6
  have hj := skp_ge (b := g 6) (L := L) (e := e)
  have hjl := skp_le (b := g 6) he
  have hdg := tnd_ge (b := g 6) (L := L) (e := e)
  have hdl := tnd_le (b := g 6) he
  have ht4 := tok_4 (b := g 6) (L := L) (e := e)
  have hm4 := tnm_le (b := g 6) (L := L) (e := e)
  subst hR
  have hm5 := tnm_le (b := g 6) (L := L) (e := tnd (g 6) L e)
  refine x_aload_n C d_Ta_takeGuns_0 0 rfl rfl ?_
  refine x_bipush C d_Ta_takeGuns_1 (v := 99) (by decide) ?_
  by_cases c_1 : nOk (g 6) L 99 e = true
  · skip
    refine x_callVi C (c_Ta_takeNumber_t Z (g 6) r L e hL he 99 (by omega) (g) rfl h5 h0 (by with_reducible assumption)) mi_Ta_takeNumber k_643 (show 2 < 50 by omega) (e_Ta Z _) rfl (As := [.int (99)]) ⟨Nat.le_of_ble_eq_true rfl, Nat.le_of_ble_eq_true rfl⟩ rfl rfl (Nat.le_of_ble_eq_true rfl) d_Ta_takeGuns_3 ?_
    refine x_istore_n C d_Ta_takeGuns_6 rfl (by decide) (lv' := [(2, .int (nI (tnm (g 6) L e))), (0, .ref (Z.2.1 (2))), (1, .ref (Z.2.1 (14 + 12 * 1)))]) rfl ?_
    refine x_iload_n C d_Ta_takeGuns_7 0 rfl rfl ?_
    refine x_ifge C d_Ta_takeGuns_8 13 (by decide) (fun c_2 => ?_) (fun c_2 => ?_)
    · have nc_2 := Int32.not_lt.mpr c_2
      refine x_aload_n C d_Ta_takeGuns_13 2 rfl rfl ?_
      refine x_iload_n C d_Ta_takeGuns_14 0 rfl rfl ?_
      refine pf_Tu_guns C (by omega) (v := nI (tnm (g 6) L e)) (G := va_up (va_up g 5 (lexR (g 6) r L (tnd (g 6) L e))) 1 (upd (g 1) 3 (nI (tnm (g 6) L e)))) (congrArg (fun z => va_up _ _ (upd z _ _)) (va_up_ne _ _ (by omega))) k_71 d_Ta_takeGuns_15 ?_
      refine x_iconst C d_Ta_takeGuns_18 (v := 1) (by decide) ?_
      have hS : nS (g 6) L 99 (e, false) = (tnd (g 6) L e, false) := if_pos ⟨rfl, by with_reducible assumption⟩
      exact x_zret C (by decide) (bI_t (by rw [hS])).symm (by rw [hS, if_neg (by simp)]; exact va_com (by decide)) d_Ta_takeGuns_19
    · exact absurd (nI_pos' (by omega)) c_2
  · skip
    refine x_callVi C (c_Ta_takeNumber_f Z (g 6) r L e hL he 99 (by omega) (g) rfl h5 h0 (by with_reducible assumption)) mi_Ta_takeNumber k_643 (show 2 < 50 by omega) (e_Ta Z _) rfl (As := [.int (99)]) ⟨Nat.le_of_ble_eq_true rfl, Nat.le_of_ble_eq_true rfl⟩ rfl rfl (Nat.le_of_ble_eq_true rfl) d_Ta_takeGuns_3 ?_
    refine x_istore_n C d_Ta_takeGuns_6 rfl (by decide) (lv' := [(2, .int ((-1))), (0, .ref (Z.2.1 (2))), (1, .ref (Z.2.1 (14 + 12 * 1)))]) rfl ?_
    refine x_iload_n C d_Ta_takeGuns_7 0 rfl rfl ?_
    refine x_ifge C d_Ta_takeGuns_8 13 (by decide) (fun c_3 => ?_) (fun c_3 => ?_)
    · exact absurd c_3 (by decide)
    · have nc_3 := Int32.not_le.mp c_3
      refine x_iconst C d_Ta_takeGuns_11 (v := 0) (by decide) ?_
      have hS : nS (g 6) L 99 (e, false) = (e, true) := if_neg (fun z_ => absurd z_.2 (by with_reducible assumption))
      exact x_zret C (by decide) (bI_f (by rw [hS]; simp)).symm (by rw [hS, if_pos rfl, va_id, ← h5, va_id]) d_Ta_takeGuns_12

set_option maxRecDepth 100000 in
set_option maxHeartbeats 600000 in
theorem c_Ta_takePerson (Z : ZT) (b r : Nat → Int32) (L e : Nat) (hL : L ≤ 120) (he : e ≤ L) (R : Nat → Int32) (g : St)  (h6 : g 6 = b) (h5 : g 5 = lexR b r L e) (h0 : r 0 = nI L) (hR : g 1 = R) (hk : okR R) : CT yC Z y_Ta_takePerson b_Ta_takePerson 5 (some (.boolean)) 6 131 [.ref (Z.2.1 (2)), .ref (Z.2.1 (14 + 12 * 1))] (g) (QcI yC Z (bI ((if kd b L e = 7 then (e, true) else pS5 b L (sz R) e).2 = false)) (va_up (va_up g 1 (perQ b L R e)) 5 (lexR b r L (if kd b L e = 7 then (e, true) else pS5 b L (sz R) e).1))) := by
  refine CT.mk "TunnelPeace$Tape" (by decide) rfl (Nat.le_of_ble_eq_true rfl) (fun X C => ?_)
  refine x_lv [0, 1] (lv' := [(0, .ref (Z.2.1 (2))), (1, .ref (Z.2.1 (14 + 12 * 1)))]) rfl ?_
  subst h6
  have hj := skp_ge (b := g 6) (L := L) (e := e)
  have hjl := skp_le (b := g 6) he
  have hdg := tnd_ge (b := g 6) (L := L) (e := e)
  have hdl := tnd_le (b := g 6) he
  have ht4 := tok_4 (b := g 6) (L := L) (e := e)
  have hm4 := tnm_le (b := g 6) (L := L) (e := e)
  subst hR
  have hm5 := tnm_le (b := g 6) (L := L) (e := tnd (g 6) L e)
  have hd2 := tnd_le (b := g 6) (L := L) (e := tnd (g 6) L e) hdl
  have hd3 := tnd_le (b := g 6) (L := L) (e := tnd (g 6) L (tnd (g 6) L e)) hd2
  have hk7 := (kd_7 (b := g 6) (L := L) (e := e)).1
  obtain ⟨n, hn8, hn⟩ := hk.1
  refine x_aload_n C d_Ta_takePerson_0 1 rfl rfl ?_
  refine x_callVi C (c_Tu_isFull Z 1 (by omega) (g) _ hn) mi_Tu_isFull k_656 (show 14 + 12 * 1 < 50 by omega) (e_Tu Z 1 _) rfl (As := []) ⟨Nat.le_of_ble_eq_true rfl, Nat.le_of_ble_eq_true rfl⟩ rfl rfl (Nat.le_of_ble_eq_true rfl) d_Ta_takePerson_1 ?_
  refine x_ifeqB C d_Ta_takePerson_4 11 (by decide) (fun c_1 => ?_) (fun c_1 => ?_)
  · have hn7 : n < 8 := Nat.not_le.mp (fun z_ => (show ¬ (8 : Int32) ≤ nI n from by with_reducible assumption) (nI_le (a := 8) z_ (by omega)))
    refine x_aload_n C d_Ta_takePerson_11 0 rfl rfl ?_
    by_cases c_2 : kd (g 6) L e = 7
    · skip
      refine x_callVi C (c_Ta_takeKind_f Z (g 6) r L e hL he  (g) rfl h5 h0 (by first | with_reducible assumption | exact Decidable.not_not.mp (by with_reducible assumption))) mi_Ta_takeKind k_657 (show 2 < 50 by omega) (e_Ta Z _) rfl (As := []) ⟨Nat.le_of_ble_eq_true rfl, Nat.le_of_ble_eq_true rfl⟩ rfl rfl (Nat.le_of_ble_eq_true rfl) d_Ta_takePerson_12 ?_
      refine x_istore_n C d_Ta_takePerson_15 rfl (by decide) (lv' := [(2, .int ((-1))), (0, .ref (Z.2.1 (2))), (1, .ref (Z.2.1 (14 + 12 * 1)))]) rfl ?_
      refine x_iload_n C d_Ta_takePerson_16 0 rfl rfl ?_
      refine x_ifge C d_Ta_takePerson_17 22 (by decide) (fun c_3 => ?_) (fun c_3 => ?_)
      · exact absurd c_3 (by decide)
      · have nc_3 := Int32.not_le.mp c_3
        refine x_iconst C d_Ta_takePerson_20 (v := 0) (by decide) ?_
        first | exact x_zret C (by decide) (bI_f (by rw [if_pos (by with_reducible assumption)]; simp)).symm (by rw [if_pos (by with_reducible assumption), show perQ (g 6) L (g 1) e = g 1 from if_pos (Or.inl (by with_reducible assumption)), va_id, ← h5, va_id]) d_Ta_takePerson_21 | exact x_zret C (by decide) (bI_f (by rw [hfu]; simp)).symm (by rw [hfu, hfq, va_id, ← h5, va_id]) d_Ta_takePerson_21
    · skip
      refine x_callVi C (c_Ta_takeKind_t Z (g 6) r L e hL he  (g) rfl h5 h0 (by first | with_reducible assumption | exact Decidable.not_not.mp (by with_reducible assumption))) mi_Ta_takeKind k_657 (show 2 < 50 by omega) (e_Ta Z _) rfl (As := []) ⟨Nat.le_of_ble_eq_true rfl, Nat.le_of_ble_eq_true rfl⟩ rfl rfl (Nat.le_of_ble_eq_true rfl) d_Ta_takePerson_12 ?_
      refine x_istore_n C d_Ta_takePerson_15 rfl (by decide) (lv' := [(2, .int (nI (kd (g 6) L e))), (0, .ref (Z.2.1 (2))), (1, .ref (Z.2.1 (14 + 12 * 1)))]) rfl ?_
      refine x_iload_n C d_Ta_takePerson_16 0 rfl rfl ?_
      refine x_ifge C d_Ta_takePerson_17 22 (by decide) (fun c_4 => ?_) (fun c_4 => ?_)
      · have nc_4 := Int32.not_lt.mpr c_4
        refine x_aload_n C d_Ta_takePerson_22 1 rfl rfl ?_
        refine x_iconst C d_Ta_takePerson_23 (v := 1) (by decide) ?_
        by_cases c_5 : nOk (g 6) L 1 (tnd (g 6) L e) = true
        · skip
          refine x_callVi C (c_Ta_takeNumber_t Z (g 6) r L (tnd (g 6) L e) hL (tnd_le he) 1 (by omega) (va_up g 5 (lexR (g 6) r L (tnd (g 6) L e))) (va_up_ne _ _ (by omega)) (va_up_self _ _ _) h0 (by first | with_reducible assumption | exact Decidable.not_not.mp (by with_reducible assumption))) mi_Ta_takeNumber k_643 (show 2 < 50 by omega) (e_Ta Z _) rfl (As := [.int (1)]) ⟨Nat.le_of_ble_eq_true rfl, Nat.le_of_ble_eq_true rfl⟩ rfl rfl (Nat.le_of_ble_eq_true rfl) d_Ta_takePerson_24 ?_
          refine x_eqg (g' := va_up g 5 (lexR (g 6) r L (tnd (g 6) L (tnd (g 6) L e)))) (bx_uu _ _ _ _) ?_
          refine x_istore_n C d_Ta_takePerson_27 rfl (by decide) (lv' := [(3, .int (nI (tnm (g 6) L (tnd (g 6) L e)))), (2, .int (nI (kd (g 6) L e))), (0, .ref (Z.2.1 (2))), (1, .ref (Z.2.1 (14 + 12 * 1)))]) rfl ?_
          refine x_iload_n C d_Ta_takePerson_28 0 rfl rfl ?_
          refine x_ifge C d_Ta_takePerson_29 34 (by decide) (fun c_6 => ?_) (fun c_6 => ?_)
          · have nc_6 := Int32.not_lt.mpr c_6
            refine x_aload_n C d_Ta_takePerson_34 3 rfl rfl ?_
            refine gf_Tu_people C (by omega) k_83 d_Ta_takePerson_35 ?_
            refine x_aload_n C d_Ta_takePerson_38 3 rfl rfl ?_
            refine x_iload_n C d_Ta_takePerson_39 1 rfl rfl ?_
            refine x_iload_n C d_Ta_takePerson_40 0 rfl rfl ?_
            refine x_callVi C (c_Tu_add Z 1 (by omega) (nI (kd (g 6) L e)) (nI (tnm (g 6) L (tnd (g 6) L e))) (va_up g 5 (lexR (g 6) r L (tnd (g 6) L (tnd (g 6) L e)))) _ (va_up_ne _ _ (by omega)) hk (by rw [sz_of hn hn8]; omega)) mi_Tu_add k_671 (show 14 + 12 * 1 < 50 by omega) (e_Tu Z 1 _) rfl (As := [.int (nI (kd (g 6) L e)), .int (nI (tnm (g 6) L (tnd (g 6) L e)))]) ⟨Nat.le_of_ble_eq_true rfl, Nat.le_of_ble_eq_true rfl⟩ rfl rfl (Nat.le_of_ble_eq_true rfl) d_Ta_takePerson_41 ?_
            refine x_topi (x' := nI n) (by rw [sz_of hn hn8]) ?_
            refine al_pp C (by omega) n rfl (by omega) d_Ta_takePerson_44 ?_
            refine x_astore C d_Ta_takePerson_45 (by decide) (lv' := [(4, .ref (Z.2.1 (18 + 12 * 1 + n))), (3, .int (nI (tnm (g 6) L (tnd (g 6) L e)))), (2, .int (nI (kd (g 6) L e))), (0, .ref (Z.2.1 (2))), (1, .ref (Z.2.1 (14 + 12 * 1)))]) rfl ?_
            refine x_eqg (g' := va_up (va_up g 1 (addR (g 1) (nI (kd (g 6) L e)) (nI (tnm (g 6) L (tnd (g 6) L e))))) 5 (lexR (g 6) r L (tnd (g 6) L (tnd (g 6) L e)))) (va_com (by decide)) ?_
            refine x_aload_n C d_Ta_takePerson_47 3 rfl rfl ?_
            refine x_ldcS C d_Ta_takePerson_48 9 rfl ?_
            refine x_aload C d_Ta_takePerson_50 0 rfl ?_
            refine x_iconst C d_Ta_takePerson_52 (v := 2) (by decide) ?_
            obtain ⟨⟨E2, w2⟩, hO2⟩ : ∃ q, oS (g 6) L 9 15 (tnd (g 6) L (tnd (g 6) L e), false) = q := ⟨_, rfl⟩
            have hE2 : E2 ≤ L := by have z_ := oS_le (b := g 6) (L := L) (i := 9) (hi := 15) (s := (tnd (g 6) L (tnd (g 6) L e), false)) (by omega); rw [hO2] at z_; exact z_
            cases w2
            · skip
              refine x_callVi C (c_Ta_takeOption_2t Z (g 6) r L (tnd (g 6) L (tnd (g 6) L e)) hL (by omega) n (by omega) _ E2 (va_up (va_up g 1 (addR (g 1) (nI (kd (g 6) L e)) (nI (tnm (g 6) L (tnd (g 6) L e))))) 5 (lexR (g 6) r L (tnd (g 6) L (tnd (g 6) L e)))) (Eq.trans (va_up_ne _ _ (by omega)) (va_up_ne _ _ (by omega))) (va_up_self _ _ _) h0 (Eq.trans (va_up_ne _ _ (by omega)) (va_up_self _ _ _)) hO2) mi_Ta_takeOption k_673 (show 2 < 50 by omega) (e_Ta Z _) rfl (As := [.ref (Z.2.2.2.2.1 9), .ref (Z.2.1 (18 + 12 * 1 + n)), .int (2)]) ⟨Nat.le_of_ble_eq_true rfl, Nat.le_of_ble_eq_true rfl⟩ rfl rfl (Nat.le_of_ble_eq_true rfl) d_Ta_takePerson_53 ?_
              refine x_eqg (g' := va_up (va_up g 1 (oR (g 6) L 9 15 n 2 (tnd (g 6) L (tnd (g 6) L e), false) (addR (g 1) (nI (kd (g 6) L e)) (nI (tnm (g 6) L (tnd (g 6) L e)))))) 5 (lexR (g 6) r L E2)) (by rw [va_com (a := 1) (b := 5) (by decide), bx_uu, va_com (a := 5) (b := 1) (by decide), bx_uu]) ?_
              refine x_ifeq C d_Ta_takePerson_56 99 (by decide) (fun c_7 => ?_) (fun c_7 => ?_)
              · exact absurd c_7 (by decide)
              · refine x_aload_n C d_Ta_takePerson_59 3 rfl rfl ?_
                refine x_ldcS C d_Ta_takePerson_60 10 rfl ?_
                refine x_aload C d_Ta_takePerson_62 0 rfl ?_
                refine x_iconst C d_Ta_takePerson_64 (v := 3) (by decide) ?_
                obtain ⟨⟨E3, w3⟩, hO3⟩ : ∃ q, oS (g 6) L 10 99 (E2, false) = q := ⟨_, rfl⟩
                have hE3 : E3 ≤ L := by have z_ := oS_le (b := g 6) (L := L) (i := 10) (hi := 99) (s := (E2, false)) (by omega); rw [hO3] at z_; exact z_
                cases w3
                · skip
                  refine x_callVi C (c_Ta_takeOption_3t Z (g 6) r L E2 hL (by omega) n (by omega) _ E3 (va_up (va_up g 1 (oR (g 6) L 9 15 n 2 (tnd (g 6) L (tnd (g 6) L e), false) (addR (g 1) (nI (kd (g 6) L e)) (nI (tnm (g 6) L (tnd (g 6) L e)))))) 5 (lexR (g 6) r L E2)) (Eq.trans (va_up_ne _ _ (by omega)) (va_up_ne _ _ (by omega))) (va_up_self _ _ _) h0 (Eq.trans (va_up_ne _ _ (by omega)) (va_up_self _ _ _)) hO3) mi_Ta_takeOption k_673 (show 2 < 50 by omega) (e_Ta Z _) rfl (As := [.ref (Z.2.2.2.2.1 10), .ref (Z.2.1 (18 + 12 * 1 + n)), .int (3)]) ⟨Nat.le_of_ble_eq_true rfl, Nat.le_of_ble_eq_true rfl⟩ rfl rfl (Nat.le_of_ble_eq_true rfl) d_Ta_takePerson_65 ?_
                  refine x_eqg (g' := va_up (va_up g 1 (oR (g 6) L 10 99 n 3 (E2, false) (oR (g 6) L 9 15 n 2 (tnd (g 6) L (tnd (g 6) L e), false) (addR (g 1) (nI (kd (g 6) L e)) (nI (tnm (g 6) L (tnd (g 6) L e))))))) 5 (lexR (g 6) r L E3)) (by rw [va_com (a := 1) (b := 5) (by decide), bx_uu, va_com (a := 5) (b := 1) (by decide), bx_uu]) ?_
                  refine x_ifeq C d_Ta_takePerson_68 99 (by decide) (fun c_8 => ?_) (fun c_8 => ?_)
                  · exact absurd c_8 (by decide)
                  · refine x_aload_n C d_Ta_takePerson_71 3 rfl rfl ?_
                    refine x_ldcS C d_Ta_takePerson_72 11 rfl ?_
                    refine x_aload C d_Ta_takePerson_74 0 rfl ?_
                    refine x_iconst C d_Ta_takePerson_76 (v := 4) (by decide) ?_
                    obtain ⟨⟨E4, w4⟩, hO4⟩ : ∃ q, oS (g 6) L 11 9 (E3, false) = q := ⟨_, rfl⟩
                    have hE4 : E4 ≤ L := by have z_ := oS_le (b := g 6) (L := L) (i := 11) (hi := 9) (s := (E3, false)) (by omega); rw [hO4] at z_; exact z_
                    cases w4
                    · skip
                      refine x_callVi C (c_Ta_takeOption_4t Z (g 6) r L E3 hL (by omega) n (by omega) _ E4 (va_up (va_up g 1 (oR (g 6) L 10 99 n 3 (E2, false) (oR (g 6) L 9 15 n 2 (tnd (g 6) L (tnd (g 6) L e), false) (addR (g 1) (nI (kd (g 6) L e)) (nI (tnm (g 6) L (tnd (g 6) L e))))))) 5 (lexR (g 6) r L E3)) (Eq.trans (va_up_ne _ _ (by omega)) (va_up_ne _ _ (by omega))) (va_up_self _ _ _) h0 (Eq.trans (va_up_ne _ _ (by omega)) (va_up_self _ _ _)) hO4) mi_Ta_takeOption k_673 (show 2 < 50 by omega) (e_Ta Z _) rfl (As := [.ref (Z.2.2.2.2.1 11), .ref (Z.2.1 (18 + 12 * 1 + n)), .int (4)]) ⟨Nat.le_of_ble_eq_true rfl, Nat.le_of_ble_eq_true rfl⟩ rfl rfl (Nat.le_of_ble_eq_true rfl) d_Ta_takePerson_77 ?_
                      refine x_eqg (g' := va_up (va_up g 1 (oR (g 6) L 11 9 n 4 (E3, false) (oR (g 6) L 10 99 n 3 (E2, false) (oR (g 6) L 9 15 n 2 (tnd (g 6) L (tnd (g 6) L e), false) (addR (g 1) (nI (kd (g 6) L e)) (nI (tnm (g 6) L (tnd (g 6) L e)))))))) 5 (lexR (g 6) r L E4)) (by rw [va_com (a := 1) (b := 5) (by decide), bx_uu, va_com (a := 5) (b := 1) (by decide), bx_uu]) ?_
                      refine x_ifeq C d_Ta_takePerson_80 99 (by decide) (fun c_9 => ?_) (fun c_9 => ?_)
                      · exact absurd c_9 (by decide)
                      · refine x_aload_n C d_Ta_takePerson_83 3 rfl rfl ?_
                        refine x_ldcS C d_Ta_takePerson_84 12 rfl ?_
                        refine x_aload C d_Ta_takePerson_86 0 rfl ?_
                        refine x_iconst C d_Ta_takePerson_88 (v := 5) (by decide) ?_
                        obtain ⟨⟨E5, w5⟩, hO5⟩ : ∃ q, oS (g 6) L 12 9999 (E4, false) = q := ⟨_, rfl⟩
                        have hE5 : E5 ≤ L := by have z_ := oS_le (b := g 6) (L := L) (i := 12) (hi := 9999) (s := (E4, false)) (by omega); rw [hO5] at z_; exact z_
                        cases w5
                        · skip
                          refine x_callVi C (c_Ta_takeOption_5t Z (g 6) r L E4 hL (by omega) n (by omega) _ E5 (va_up (va_up g 1 (oR (g 6) L 11 9 n 4 (E3, false) (oR (g 6) L 10 99 n 3 (E2, false) (oR (g 6) L 9 15 n 2 (tnd (g 6) L (tnd (g 6) L e), false) (addR (g 1) (nI (kd (g 6) L e)) (nI (tnm (g 6) L (tnd (g 6) L e)))))))) 5 (lexR (g 6) r L E4)) (Eq.trans (va_up_ne _ _ (by omega)) (va_up_ne _ _ (by omega))) (va_up_self _ _ _) h0 (Eq.trans (va_up_ne _ _ (by omega)) (va_up_self _ _ _)) hO5) mi_Ta_takeOption k_673 (show 2 < 50 by omega) (e_Ta Z _) rfl (As := [.ref (Z.2.2.2.2.1 12), .ref (Z.2.1 (18 + 12 * 1 + n)), .int (5)]) ⟨Nat.le_of_ble_eq_true rfl, Nat.le_of_ble_eq_true rfl⟩ rfl rfl (Nat.le_of_ble_eq_true rfl) d_Ta_takePerson_89 ?_
                          refine x_eqg (g' := va_up (va_up g 1 (oR (g 6) L 12 9999 n 5 (E4, false) (oR (g 6) L 11 9 n 4 (E3, false) (oR (g 6) L 10 99 n 3 (E2, false) (oR (g 6) L 9 15 n 2 (tnd (g 6) L (tnd (g 6) L e), false) (addR (g 1) (nI (kd (g 6) L e)) (nI (tnm (g 6) L (tnd (g 6) L e))))))))) 5 (lexR (g 6) r L E5)) (by rw [va_com (a := 1) (b := 5) (by decide), bx_uu, va_com (a := 5) (b := 1) (by decide), bx_uu]) ?_
                          refine x_ifeq C d_Ta_takePerson_92 99 (by decide) (fun c_10 => ?_) (fun c_10 => ?_)
                          · exact absurd c_10 (by decide)
                          · refine x_iconst C d_Ta_takePerson_95 (v := 1) (by decide) ?_
                            refine x_goto C d_Ta_takePerson_96 100 (by decide) ?_
                            have h1 : pS1 (g 6) L n e = (tnd (g 6) L (tnd (g 6) L e), false) := by unfold pS1; rw [show mS (g 6) L (n < 8) (e, false) = (tnd (g 6) L e, false) from if_pos ⟨rfl, by omega⟩]; exact if_pos ⟨rfl, by with_reducible assumption⟩
                            have h2 : pS2 (g 6) L n e = (E2, false) := by unfold pS2; rw [h1]; exact hO2
                            have h3 : pS3 (g 6) L n e = (E3, false) := by unfold pS3; rw [h2]; exact hO3
                            have h4 : pS4 (g 6) L n e = (E4, false) := by unfold pS4; rw [h3]; exact hO4
                            have h9 : pS5 (g 6) L n e = (E5, false) := by unfold pS5; rw [h4]; exact hO5
                            have hq : perQ (g 6) L (g 1) e = oR (g 6) L 12 9999 n 5 (E4, false) (oR (g 6) L 11 9 n 4 (E3, false) (oR (g 6) L 10 99 n 3 (E2, false) (oR (g 6) L 9 15 n 2 (tnd (g 6) L (tnd (g 6) L e), false) (addR (g 1) (nI (kd (g 6) L e)) (nI (tnm (g 6) L (tnd (g 6) L e))))))) := by unfold perQ perR; rw [sz_of hn hn8, h1, h2, h3, h4, if_neg (by rintro (z_ | z_); exact absurd z_ (by with_reducible assumption); cases z_), show sdN (g 6) L e = nI (tnm (g 6) L (tnd (g 6) L e)) from rfl]; try simp only [oR_t]
                            exact x_zret C (by decide) (bI_t (by rw [if_neg (by with_reducible assumption), sz_of hn hn8, h9])).symm (by rw [if_neg (by with_reducible assumption), sz_of hn hn8, h9, hq]) d_Ta_takePerson_100
                        · skip
                          refine x_callVi C (c_Ta_takeOption_5f Z (g 6) r L E4 hL (by omega) n (by omega) _ E5 (va_up (va_up g 1 (oR (g 6) L 11 9 n 4 (E3, false) (oR (g 6) L 10 99 n 3 (E2, false) (oR (g 6) L 9 15 n 2 (tnd (g 6) L (tnd (g 6) L e), false) (addR (g 1) (nI (kd (g 6) L e)) (nI (tnm (g 6) L (tnd (g 6) L e)))))))) 5 (lexR (g 6) r L E4)) (Eq.trans (va_up_ne _ _ (by omega)) (va_up_ne _ _ (by omega))) (va_up_self _ _ _) h0 (Eq.trans (va_up_ne _ _ (by omega)) (va_up_self _ _ _)) hO5) mi_Ta_takeOption k_673 (show 2 < 50 by omega) (e_Ta Z _) rfl (As := [.ref (Z.2.2.2.2.1 12), .ref (Z.2.1 (18 + 12 * 1 + n)), .int (5)]) ⟨Nat.le_of_ble_eq_true rfl, Nat.le_of_ble_eq_true rfl⟩ rfl rfl (Nat.le_of_ble_eq_true rfl) d_Ta_takePerson_89 ?_
                          refine x_eqg (g' := va_up (va_up g 1 (oR (g 6) L 12 9999 n 5 (E4, false) (oR (g 6) L 11 9 n 4 (E3, false) (oR (g 6) L 10 99 n 3 (E2, false) (oR (g 6) L 9 15 n 2 (tnd (g 6) L (tnd (g 6) L e), false) (addR (g 1) (nI (kd (g 6) L e)) (nI (tnm (g 6) L (tnd (g 6) L e))))))))) 5 (lexR (g 6) r L E5)) (by rw [va_com (a := 1) (b := 5) (by decide), bx_uu, va_com (a := 5) (b := 1) (by decide), bx_uu]) ?_
                          refine x_ifeq C d_Ta_takePerson_92 99 (by decide) (fun c_11 => ?_) (fun c_11 => ?_)
                          · refine x_iconst C d_Ta_takePerson_99 (v := 0) (by decide) ?_
                            have h1 : pS1 (g 6) L n e = (tnd (g 6) L (tnd (g 6) L e), false) := by unfold pS1; rw [show mS (g 6) L (n < 8) (e, false) = (tnd (g 6) L e, false) from if_pos ⟨rfl, by omega⟩]; exact if_pos ⟨rfl, by with_reducible assumption⟩
                            have h2 : pS2 (g 6) L n e = (E2, false) := by unfold pS2; rw [h1]; exact hO2
                            have h3 : pS3 (g 6) L n e = (E3, false) := by unfold pS3; rw [h2]; exact hO3
                            have h4 : pS4 (g 6) L n e = (E4, false) := by unfold pS4; rw [h3]; exact hO4
                            have h9 : pS5 (g 6) L n e = (E5, true) := by unfold pS5; rw [h4]; exact hO5
                            have hq : perQ (g 6) L (g 1) e = oR (g 6) L 12 9999 n 5 (E4, false) (oR (g 6) L 11 9 n 4 (E3, false) (oR (g 6) L 10 99 n 3 (E2, false) (oR (g 6) L 9 15 n 2 (tnd (g 6) L (tnd (g 6) L e), false) (addR (g 1) (nI (kd (g 6) L e)) (nI (tnm (g 6) L (tnd (g 6) L e))))))) := by unfold perQ perR; rw [sz_of hn hn8, h1, h2, h3, h4, if_neg (by rintro (z_ | z_); exact absurd z_ (by with_reducible assumption); cases z_), show sdN (g 6) L e = nI (tnm (g 6) L (tnd (g 6) L e)) from rfl]; try simp only [oR_t]
                            exact x_zret C (by decide) (bI_f (by rw [if_neg (by with_reducible assumption), sz_of hn hn8, h9]; simp)).symm (by rw [if_neg (by with_reducible assumption), sz_of hn hn8, h9, hq]) d_Ta_takePerson_100
                          · exact absurd c_11 (by decide)
                    · skip
                      refine x_callVi C (c_Ta_takeOption_4f Z (g 6) r L E3 hL (by omega) n (by omega) _ E4 (va_up (va_up g 1 (oR (g 6) L 10 99 n 3 (E2, false) (oR (g 6) L 9 15 n 2 (tnd (g 6) L (tnd (g 6) L e), false) (addR (g 1) (nI (kd (g 6) L e)) (nI (tnm (g 6) L (tnd (g 6) L e))))))) 5 (lexR (g 6) r L E3)) (Eq.trans (va_up_ne _ _ (by omega)) (va_up_ne _ _ (by omega))) (va_up_self _ _ _) h0 (Eq.trans (va_up_ne _ _ (by omega)) (va_up_self _ _ _)) hO4) mi_Ta_takeOption k_673 (show 2 < 50 by omega) (e_Ta Z _) rfl (As := [.ref (Z.2.2.2.2.1 11), .ref (Z.2.1 (18 + 12 * 1 + n)), .int (4)]) ⟨Nat.le_of_ble_eq_true rfl, Nat.le_of_ble_eq_true rfl⟩ rfl rfl (Nat.le_of_ble_eq_true rfl) d_Ta_takePerson_77 ?_
                      refine x_eqg (g' := va_up (va_up g 1 (oR (g 6) L 11 9 n 4 (E3, false) (oR (g 6) L 10 99 n 3 (E2, false) (oR (g 6) L 9 15 n 2 (tnd (g 6) L (tnd (g 6) L e), false) (addR (g 1) (nI (kd (g 6) L e)) (nI (tnm (g 6) L (tnd (g 6) L e)))))))) 5 (lexR (g 6) r L E4)) (by rw [va_com (a := 1) (b := 5) (by decide), bx_uu, va_com (a := 5) (b := 1) (by decide), bx_uu]) ?_
                      refine x_ifeq C d_Ta_takePerson_80 99 (by decide) (fun c_12 => ?_) (fun c_12 => ?_)
                      · refine x_iconst C d_Ta_takePerson_99 (v := 0) (by decide) ?_
                        have h1 : pS1 (g 6) L n e = (tnd (g 6) L (tnd (g 6) L e), false) := by unfold pS1; rw [show mS (g 6) L (n < 8) (e, false) = (tnd (g 6) L e, false) from if_pos ⟨rfl, by omega⟩]; exact if_pos ⟨rfl, by with_reducible assumption⟩
                        have h2 : pS2 (g 6) L n e = (E2, false) := by unfold pS2; rw [h1]; exact hO2
                        have h3 : pS3 (g 6) L n e = (E3, false) := by unfold pS3; rw [h2]; exact hO3
                        have h4 : pS4 (g 6) L n e = (E4, true) := by unfold pS4; rw [h3]; exact hO4
                        have h9 : pS5 (g 6) L n e = (E4, true) := by unfold pS5; rw [h4]; simp [oS]
                        have hq : perQ (g 6) L (g 1) e = oR (g 6) L 11 9 n 4 (E3, false) (oR (g 6) L 10 99 n 3 (E2, false) (oR (g 6) L 9 15 n 2 (tnd (g 6) L (tnd (g 6) L e), false) (addR (g 1) (nI (kd (g 6) L e)) (nI (tnm (g 6) L (tnd (g 6) L e)))))) := by unfold perQ perR; rw [sz_of hn hn8, h1, h2, h3, h4, if_neg (by rintro (z_ | z_); exact absurd z_ (by with_reducible assumption); cases z_), show sdN (g 6) L e = nI (tnm (g 6) L (tnd (g 6) L e)) from rfl]; try simp only [oR_t]
                        exact x_zret C (by decide) (bI_f (by rw [if_neg (by with_reducible assumption), sz_of hn hn8, h9]; simp)).symm (by rw [if_neg (by with_reducible assumption), sz_of hn hn8, h9, hq]) d_Ta_takePerson_100
                      · exact absurd c_12 (by decide)
                · skip
                  refine x_callVi C (c_Ta_takeOption_3f Z (g 6) r L E2 hL (by omega) n (by omega) _ E3 (va_up (va_up g 1 (oR (g 6) L 9 15 n 2 (tnd (g 6) L (tnd (g 6) L e), false) (addR (g 1) (nI (kd (g 6) L e)) (nI (tnm (g 6) L (tnd (g 6) L e)))))) 5 (lexR (g 6) r L E2)) (Eq.trans (va_up_ne _ _ (by omega)) (va_up_ne _ _ (by omega))) (va_up_self _ _ _) h0 (Eq.trans (va_up_ne _ _ (by omega)) (va_up_self _ _ _)) hO3) mi_Ta_takeOption k_673 (show 2 < 50 by omega) (e_Ta Z _) rfl (As := [.ref (Z.2.2.2.2.1 10), .ref (Z.2.1 (18 + 12 * 1 + n)), .int (3)]) ⟨Nat.le_of_ble_eq_true rfl, Nat.le_of_ble_eq_true rfl⟩ rfl rfl (Nat.le_of_ble_eq_true rfl) d_Ta_takePerson_65 ?_
                  refine x_eqg (g' := va_up (va_up g 1 (oR (g 6) L 10 99 n 3 (E2, false) (oR (g 6) L 9 15 n 2 (tnd (g 6) L (tnd (g 6) L e), false) (addR (g 1) (nI (kd (g 6) L e)) (nI (tnm (g 6) L (tnd (g 6) L e))))))) 5 (lexR (g 6) r L E3)) (by rw [va_com (a := 1) (b := 5) (by decide), bx_uu, va_com (a := 5) (b := 1) (by decide), bx_uu]) ?_
                  refine x_ifeq C d_Ta_takePerson_68 99 (by decide) (fun c_13 => ?_) (fun c_13 => ?_)
                  · refine x_iconst C d_Ta_takePerson_99 (v := 0) (by decide) ?_
                    have h1 : pS1 (g 6) L n e = (tnd (g 6) L (tnd (g 6) L e), false) := by unfold pS1; rw [show mS (g 6) L (n < 8) (e, false) = (tnd (g 6) L e, false) from if_pos ⟨rfl, by omega⟩]; exact if_pos ⟨rfl, by with_reducible assumption⟩
                    have h2 : pS2 (g 6) L n e = (E2, false) := by unfold pS2; rw [h1]; exact hO2
                    have h3 : pS3 (g 6) L n e = (E3, true) := by unfold pS3; rw [h2]; exact hO3
                    have h4 : pS4 (g 6) L n e = (E3, true) := by unfold pS4; rw [h3]; simp [oS]
                    have h9 : pS5 (g 6) L n e = (E3, true) := by unfold pS5; rw [h4]; simp [oS]
                    have hq : perQ (g 6) L (g 1) e = oR (g 6) L 10 99 n 3 (E2, false) (oR (g 6) L 9 15 n 2 (tnd (g 6) L (tnd (g 6) L e), false) (addR (g 1) (nI (kd (g 6) L e)) (nI (tnm (g 6) L (tnd (g 6) L e))))) := by unfold perQ perR; rw [sz_of hn hn8, h1, h2, h3, h4, if_neg (by rintro (z_ | z_); exact absurd z_ (by with_reducible assumption); cases z_), show sdN (g 6) L e = nI (tnm (g 6) L (tnd (g 6) L e)) from rfl]; try simp only [oR_t]
                    exact x_zret C (by decide) (bI_f (by rw [if_neg (by with_reducible assumption), sz_of hn hn8, h9]; simp)).symm (by rw [if_neg (by with_reducible assumption), sz_of hn hn8, h9, hq]) d_Ta_takePerson_100
                  · exact absurd c_13 (by decide)
            · skip
              refine x_callVi C (c_Ta_takeOption_2f Z (g 6) r L (tnd (g 6) L (tnd (g 6) L e)) hL (by omega) n (by omega) _ E2 (va_up (va_up g 1 (addR (g 1) (nI (kd (g 6) L e)) (nI (tnm (g 6) L (tnd (g 6) L e))))) 5 (lexR (g 6) r L (tnd (g 6) L (tnd (g 6) L e)))) (Eq.trans (va_up_ne _ _ (by omega)) (va_up_ne _ _ (by omega))) (va_up_self _ _ _) h0 (Eq.trans (va_up_ne _ _ (by omega)) (va_up_self _ _ _)) hO2) mi_Ta_takeOption k_673 (show 2 < 50 by omega) (e_Ta Z _) rfl (As := [.ref (Z.2.2.2.2.1 9), .ref (Z.2.1 (18 + 12 * 1 + n)), .int (2)]) ⟨Nat.le_of_ble_eq_true rfl, Nat.le_of_ble_eq_true rfl⟩ rfl rfl (Nat.le_of_ble_eq_true rfl) d_Ta_takePerson_53 ?_
              refine x_eqg (g' := va_up (va_up g 1 (oR (g 6) L 9 15 n 2 (tnd (g 6) L (tnd (g 6) L e), false) (addR (g 1) (nI (kd (g 6) L e)) (nI (tnm (g 6) L (tnd (g 6) L e)))))) 5 (lexR (g 6) r L E2)) (by rw [va_com (a := 1) (b := 5) (by decide), bx_uu, va_com (a := 5) (b := 1) (by decide), bx_uu]) ?_
              refine x_ifeq C d_Ta_takePerson_56 99 (by decide) (fun c_14 => ?_) (fun c_14 => ?_)
              · refine x_iconst C d_Ta_takePerson_99 (v := 0) (by decide) ?_
                have h1 : pS1 (g 6) L n e = (tnd (g 6) L (tnd (g 6) L e), false) := by unfold pS1; rw [show mS (g 6) L (n < 8) (e, false) = (tnd (g 6) L e, false) from if_pos ⟨rfl, by omega⟩]; exact if_pos ⟨rfl, by with_reducible assumption⟩
                have h2 : pS2 (g 6) L n e = (E2, true) := by unfold pS2; rw [h1]; exact hO2
                have h3 : pS3 (g 6) L n e = (E2, true) := by unfold pS3; rw [h2]; simp [oS]
                have h4 : pS4 (g 6) L n e = (E2, true) := by unfold pS4; rw [h3]; simp [oS]
                have h9 : pS5 (g 6) L n e = (E2, true) := by unfold pS5; rw [h4]; simp [oS]
                have hq : perQ (g 6) L (g 1) e = oR (g 6) L 9 15 n 2 (tnd (g 6) L (tnd (g 6) L e), false) (addR (g 1) (nI (kd (g 6) L e)) (nI (tnm (g 6) L (tnd (g 6) L e)))) := by unfold perQ perR; rw [sz_of hn hn8, h1, h2, h3, h4, if_neg (by rintro (z_ | z_); exact absurd z_ (by with_reducible assumption); cases z_), show sdN (g 6) L e = nI (tnm (g 6) L (tnd (g 6) L e)) from rfl]; try simp only [oR_t]
                exact x_zret C (by decide) (bI_f (by rw [if_neg (by with_reducible assumption), sz_of hn hn8, h9]; simp)).symm (by rw [if_neg (by with_reducible assumption), sz_of hn hn8, h9, hq]) d_Ta_takePerson_100
              · exact absurd c_14 (by decide)
          · exact absurd (nI_pos' (by omega)) c_6
        · skip
          refine x_callVi C (c_Ta_takeNumber_f Z (g 6) r L (tnd (g 6) L e) hL (tnd_le he) 1 (by omega) (va_up g 5 (lexR (g 6) r L (tnd (g 6) L e))) (va_up_ne _ _ (by omega)) (va_up_self _ _ _) h0 (by first | with_reducible assumption | exact Decidable.not_not.mp (by with_reducible assumption))) mi_Ta_takeNumber k_643 (show 2 < 50 by omega) (e_Ta Z _) rfl (As := [.int (1)]) ⟨Nat.le_of_ble_eq_true rfl, Nat.le_of_ble_eq_true rfl⟩ rfl rfl (Nat.le_of_ble_eq_true rfl) d_Ta_takePerson_24 ?_
          refine x_istore_n C d_Ta_takePerson_27 rfl (by decide) (lv' := [(3, .int ((-1))), (2, .int (nI (kd (g 6) L e))), (0, .ref (Z.2.1 (2))), (1, .ref (Z.2.1 (14 + 12 * 1)))]) rfl ?_
          refine x_iload_n C d_Ta_takePerson_28 0 rfl rfl ?_
          refine x_ifge C d_Ta_takePerson_29 34 (by decide) (fun c_15 => ?_) (fun c_15 => ?_)
          · exact absurd c_15 (by decide)
          · have nc_15 := Int32.not_le.mp c_15
            refine x_iconst C d_Ta_takePerson_32 (v := 0) (by decide) ?_
            have h1 : pS1 (g 6) L n e = (tnd (g 6) L e, true) := by unfold pS1; rw [show mS (g 6) L (n < 8) (e, false) = (tnd (g 6) L e, false) from if_pos ⟨rfl, by omega⟩]; exact if_neg (fun z_ => absurd z_.2 (by with_reducible assumption))
            have h9 : pS5 (g 6) L n e = (tnd (g 6) L e, true) := by unfold pS5 pS4 pS3 pS2; rw [h1]; simp [oS]
            exact x_zret C (by decide) (bI_f (by rw [if_neg (by with_reducible assumption), sz_of hn hn8, h9]; simp)).symm (by rw [if_neg (by with_reducible assumption), sz_of hn hn8, h9, show perQ (g 6) L (g 1) e = g 1 from if_pos (Or.inr (by rw [sz_of hn hn8, h1])), va_id]) d_Ta_takePerson_33
      · exact absurd (nI_pos' (by omega)) c_4
  · have hn88 : n = 8 := by have z_ := (nI_leI (a := 8) (b := n) (by omega) (by omega)).mp (show (8 : Int32) ≤ nI n by with_reducible assumption); omega
    have hp1 : pS1 (g 6) L (sz (g 1)) e = (e, true) := by rw [sz_of hn hn8, hn88]; unfold pS1; rw [show mS (g 6) L (8 < 8) (e, false) = (e, true) from if_neg (fun z_ => absurd z_.2 (by decide))]; exact nS_t
    have hp5 : pS5 (g 6) L (sz (g 1)) e = (e, true) := by unfold pS5 pS4 pS3 pS2; rw [hp1]; simp [oS]
    have hfu : (if kd (g 6) L e = 7 then (e, true) else pS5 (g 6) L (sz (g 1)) e) = (e, true) := by rw [hp5]; split <;> rfl
    have hfq : perQ (g 6) L (g 1) e = g 1 := if_pos (Or.inr (by rw [hp1]))
    refine x_iconst C d_Ta_takePerson_7 (v := -1) (by decide) ?_
    refine x_goto C d_Ta_takePerson_8 15 (by decide) ?_
    refine x_istore_n C d_Ta_takePerson_15 rfl (by decide) (lv' := [(2, .int ((-1))), (0, .ref (Z.2.1 (2))), (1, .ref (Z.2.1 (14 + 12 * 1)))]) rfl ?_
    refine x_iload_n C d_Ta_takePerson_16 0 rfl rfl ?_
    refine x_ifge C d_Ta_takePerson_17 22 (by decide) (fun c_16 => ?_) (fun c_16 => ?_)
    · exact absurd c_16 (by decide)
    · have nc_16 := Int32.not_le.mp c_16
      refine x_iconst C d_Ta_takePerson_20 (v := 0) (by decide) ?_
      first | exact x_zret C (by decide) (bI_f (by rw [if_pos (by with_reducible assumption)]; simp)).symm (by rw [if_pos (by with_reducible assumption), show perQ (g 6) L (g 1) e = g 1 from if_pos (Or.inl (by with_reducible assumption)), va_id, ← h5, va_id]) d_Ta_takePerson_21 | exact x_zret C (by decide) (bI_f (by rw [hfu]; simp)).symm (by rw [hfu, hfq, va_id, ← h5, va_id]) d_Ta_takePerson_21
