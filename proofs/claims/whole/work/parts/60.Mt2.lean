set_option maxRecDepth 100000 in
set_option maxHeartbeats 600000 in
theorem c_Mo_number_0 (Z : ZT) (b r : Nat → Int32) (L e : Nat) (hL : L ≤ 120) (he : e ≤ L) (c n : Int32) (m : Nat) (hm : m ≤ 10000) (g : St)  (h5 : g 5 = b) (h3 : g 3 = lxS b r L e 0 c n) (hr : r 6 = nI L) (hB : ∀ k, k < L → ¬ b k < 0) : CT yM Z y_Mo_number b_Mo_number 4 (some (.int)) 3 64 [.ref (Z.2.1 (0)), .int (0), .int (nI m)] (g) (QcI yM Z (nI (tnm b L e)) (va_up g 3 (lxS b r L (if nOk b L m e = true then tnd b L e else e) (if nOk b L m e = true then 0 else 1) c n))) := by
  refine CT.mk "TunnelPeaceModel" (by decide) rfl (Nat.le_of_ble_eq_true rfl) (fun X C => ?_)
  refine x_lv [0, 1, 2] (lv' := [(0, .ref (Z.2.1 (0))), (1, .int (0)), (2, .int (nI m))]) rfl ?_
  subst h5
  have hj := skp_ge (b := g 5) (L := L) (e := e)
  have hjl := skp_le (b := g 5) he
  have hdg := tnd_ge (b := g 5) (L := L) (e := e)
  have hdl := tnd_le (b := g 5) he
  have ht4 := tok_4 (b := g 5) (L := L) (e := e)
  have hm4 := tnm_le (b := g 5) (L := L) (e := e)
  refine x_eqg (g' := va_up g 3 (lxS (g 5) r L e 0 c n)) (by rw [← h3, va_id]) ?_
  refine x_aload_n C d_Mo_number_0 0 rfl rfl ?_
  refine gf_Mo_value C (v := nI (tnm (g 5) L e)) (Eq.trans (congrFun (va_up_self _ _ _) _) rfl) k_801 d_Mo_number_1 ?_
  refine x_istore_n C d_Mo_number_4 rfl (by decide) (lv' := [(3, .int (nI (tnm (g 5) L e))), (0, .ref (Z.2.1 (0))), (1, .int (0)), (2, .int (nI m))]) rfl ?_
  refine x_aload_n C d_Mo_number_5 1 rfl rfl ?_
  refine x_aload_n C d_Mo_number_6 1 rfl rfl ?_
  refine gf_Mo_sort C (v := nI (min 3 (tok (g 5) L e))) (Eq.trans (congrFun (va_up_self _ _ _) _) rfl) k_800 d_Mo_number_7 ?_
  refine x_iconst C d_Mo_number_10 (v := 2) (by decide) ?_
  refine x_icmp_ne C d_Mo_number_11 27 (by decide) (fun c_1 => ?_) (fun c_1 => ?_)
  · have nc_1 := Ne.symm c_1
    have mc_1 : ¬ (min 3 (tok (g 5) L e)) = 2 := fun z_ => (show ¬ nI (min 3 (tok (g 5) L e)) = nI 2 from c_1) ((nI_eq (by omega) (by omega)).mpr z_)
    refine x_iconst C d_Mo_number_27 (v := 0) (by decide) ?_
    refine x_callVv C (c_Mo_must_f Z (g 5) r L e hL he c n (va_up g 3 (lxS (g 5) r L e 0 c n)) ((va_up_ne _ _ (by omega))) ((va_up_self _ _ _)) hr hB) mi_Mo_must k_1174 (show 0 < 12 by omega) (m_0 Z _) rfl (As := [.int (0)]) ⟨Nat.le_of_ble_eq_true rfl, Nat.le_of_ble_eq_true rfl⟩ rfl rfl (Nat.le_of_ble_eq_true rfl) d_Mo_number_28 ?_
    refine x_eqg (g' := va_up g 3 (lxS (g 5) r L e 1 c n)) (bx_uu _ _ _ _) ?_
    refine x_iload_n C d_Mo_number_31 0 rfl rfl ?_
    have hno : ¬ nOk (g 5) L m e = true := fun z_ => by have z2_ := nOk_i.mp z_; first | exact absurd ((min3 (by decide)).mpr z2_.1) (by with_reducible assumption) | exact absurd ⟨nI_pos' (by omega), nI_le z2_.2 (by omega)⟩ (by with_reducible assumption : ¬ (0 ≤ nI (tnm (g 5) L e) ∧ nI (tnm (g 5) L e) ≤ nI m))
    exact x_iret C rfl (by rw [if_neg hno, if_neg hno]) d_Mo_number_32
  · have mc_1 : (min 3 (tok (g 5) L e)) = 2 := (nI_eq (by omega) (by omega)).mp (show nI (min 3 (tok (g 5) L e)) = nI 2 from c_1)
    refine x_iload_n C d_Mo_number_14 0 rfl rfl ?_
    refine x_iload_n C d_Mo_number_15 2 rfl rfl ?_
    refine x_iload_n C d_Mo_number_16 3 rfl rfl ?_
    refine x_callSi C (c_Mo_within Z (nI (tnm (g 5) L e)) 0 (nI m) (va_up g 3 (lxS (g 5) r L e 0 c n))) mi_Mo_within k_859 (As := [.int (nI (tnm (g 5) L e)), .int (0), .int (nI m)]) ⟨Nat.le_of_ble_eq_true rfl, Nat.le_of_ble_eq_true rfl⟩ rfl rfl (Nat.le_of_ble_eq_true rfl) d_Mo_number_17 ?_
    refine x_ifeqB C d_Mo_number_20 27 (by decide) (fun c_2 => ?_) (fun c_2 => ?_)
    · refine x_iconst C d_Mo_number_27 (v := 0) (by decide) ?_
      refine x_callVv C (c_Mo_must_f Z (g 5) r L e hL he c n (va_up g 3 (lxS (g 5) r L e 0 c n)) ((va_up_ne _ _ (by omega))) ((va_up_self _ _ _)) hr hB) mi_Mo_must k_1174 (show 0 < 12 by omega) (m_0 Z _) rfl (As := [.int (0)]) ⟨Nat.le_of_ble_eq_true rfl, Nat.le_of_ble_eq_true rfl⟩ rfl rfl (Nat.le_of_ble_eq_true rfl) d_Mo_number_28 ?_
      refine x_eqg (g' := va_up g 3 (lxS (g 5) r L e 1 c n)) (bx_uu _ _ _ _) ?_
      refine x_iload_n C d_Mo_number_31 0 rfl rfl ?_
      have hno : ¬ nOk (g 5) L m e = true := fun z_ => by have z2_ := nOk_i.mp z_; first | exact absurd ((min3 (by decide)).mpr z2_.1) (by with_reducible assumption) | exact absurd ⟨nI_pos' (by omega), nI_le z2_.2 (by omega)⟩ (by with_reducible assumption : ¬ (0 ≤ nI (tnm (g 5) L e) ∧ nI (tnm (g 5) L e) ≤ nI m))
      exact x_iret C rfl (by rw [if_neg hno, if_neg hno]) d_Mo_number_32
    · refine x_iconst C d_Mo_number_23 (v := 1) (by decide) ?_
      refine x_goto C d_Mo_number_24 28 (by decide) ?_
      refine x_callVv C (c_Mo_must_t Z (g 5) r L e hL he c n (va_up g 3 (lxS (g 5) r L e 0 c n)) ((va_up_ne _ _ (by omega))) ((va_up_self _ _ _)) hr hB) mi_Mo_must k_1174 (show 0 < 12 by omega) (m_0 Z _) rfl (As := [.int (1)]) ⟨Nat.le_of_ble_eq_true rfl, Nat.le_of_ble_eq_true rfl⟩ rfl rfl (Nat.le_of_ble_eq_true rfl) d_Mo_number_28 ?_
      refine x_eqg (g' := va_up g 3 (lxS (g 5) r L (tnd (g 5) L e) 0 c n)) (bx_uu _ _ _ _) ?_
      refine x_iload_n C d_Mo_number_31 0 rfl rfl ?_
      have hys : nOk (g 5) L m e = true := nOk_i.mpr ⟨(min3 (by decide)).mp (by with_reducible assumption), (nI_leI (by omega) (by omega)).mp (by with_reducible assumption : 0 ≤ nI (tnm (g 5) L e) ∧ nI (tnm (g 5) L e) ≤ nI m).2⟩
      exact x_iret C rfl (by rw [if_pos hys, if_pos hys]) d_Mo_number_32

set_option maxRecDepth 100000 in
set_option maxHeartbeats 600000 in
theorem c_Mo_number_1 (Z : ZT) (b r : Nat → Int32) (L e : Nat) (hL : L ≤ 120) (he : e ≤ L) (c n : Int32) (m : Nat) (hm : m ≤ 10000) (g : St)  (h5 : g 5 = b) (h3 : g 3 = lxS b r L e 1 c n) (hr : r 6 = nI L) (hB : ∀ k, k < L → ¬ b k < 0) : CT yM Z y_Mo_number b_Mo_number 4 (some (.int)) 3 64 [.ref (Z.2.1 (0)), .int (0), .int (nI m)] (g) (QcI yM Z (nI (tnm b L e)) (va_up g 3 (lxS b r L e 1 c n))) := by
  refine CT.mk "TunnelPeaceModel" (by decide) rfl (Nat.le_of_ble_eq_true rfl) (fun X C => ?_)
  refine x_lv [0, 1, 2] (lv' := [(0, .ref (Z.2.1 (0))), (1, .int (0)), (2, .int (nI m))]) rfl ?_
  subst h5
  have hj := skp_ge (b := g 5) (L := L) (e := e)
  have hjl := skp_le (b := g 5) he
  have hdg := tnd_ge (b := g 5) (L := L) (e := e)
  have hdl := tnd_le (b := g 5) he
  have ht4 := tok_4 (b := g 5) (L := L) (e := e)
  have hm4 := tnm_le (b := g 5) (L := L) (e := e)
  refine x_eqg (g' := va_up g 3 (lxS (g 5) r L e 1 c n)) (by rw [← h3, va_id]) ?_
  refine x_aload_n C d_Mo_number_0 0 rfl rfl ?_
  refine gf_Mo_value C (v := nI (tnm (g 5) L e)) (Eq.trans (congrFun (va_up_self _ _ _) _) rfl) k_801 d_Mo_number_1 ?_
  refine x_istore_n C d_Mo_number_4 rfl (by decide) (lv' := [(3, .int (nI (tnm (g 5) L e))), (0, .ref (Z.2.1 (0))), (1, .int (0)), (2, .int (nI m))]) rfl ?_
  refine x_aload_n C d_Mo_number_5 1 rfl rfl ?_
  refine x_aload_n C d_Mo_number_6 1 rfl rfl ?_
  refine gf_Mo_sort C (v := nI (min 3 (tok (g 5) L e))) (Eq.trans (congrFun (va_up_self _ _ _) _) rfl) k_800 d_Mo_number_7 ?_
  refine x_iconst C d_Mo_number_10 (v := 2) (by decide) ?_
  refine x_icmp_ne C d_Mo_number_11 27 (by decide) (fun c_1 => ?_) (fun c_1 => ?_)
  · have nc_1 := Ne.symm c_1
    have mc_1 : ¬ (min 3 (tok (g 5) L e)) = 2 := fun z_ => (show ¬ nI (min 3 (tok (g 5) L e)) = nI 2 from c_1) ((nI_eq (by omega) (by omega)).mpr z_)
    refine x_iconst C d_Mo_number_27 (v := 0) (by decide) ?_
    refine x_callVv C (c_Mo_must_w Z (g 5) r L e hL he c n 0 (va_up g 3 (lxS (g 5) r L e 1 c n)) ((va_up_ne _ _ (by omega))) ((va_up_self _ _ _)) hr hB) mi_Mo_must k_1174 (show 0 < 12 by omega) (m_0 Z _) rfl (As := [.int (0)]) ⟨Nat.le_of_ble_eq_true rfl, Nat.le_of_ble_eq_true rfl⟩ rfl rfl (Nat.le_of_ble_eq_true rfl) d_Mo_number_28 ?_
    refine x_eqg (g' := va_up g 3 (lxS (g 5) r L e 1 c n)) (bx_uu _ _ _ _) ?_
    refine x_iload_n C d_Mo_number_31 0 rfl rfl ?_
    exact x_iret C rfl rfl d_Mo_number_32
  · have mc_1 : (min 3 (tok (g 5) L e)) = 2 := (nI_eq (by omega) (by omega)).mp (show nI (min 3 (tok (g 5) L e)) = nI 2 from c_1)
    refine x_iload_n C d_Mo_number_14 0 rfl rfl ?_
    refine x_iload_n C d_Mo_number_15 2 rfl rfl ?_
    refine x_iload_n C d_Mo_number_16 3 rfl rfl ?_
    refine x_callSi C (c_Mo_within Z (nI (tnm (g 5) L e)) 0 (nI m) (va_up g 3 (lxS (g 5) r L e 1 c n))) mi_Mo_within k_859 (As := [.int (nI (tnm (g 5) L e)), .int (0), .int (nI m)]) ⟨Nat.le_of_ble_eq_true rfl, Nat.le_of_ble_eq_true rfl⟩ rfl rfl (Nat.le_of_ble_eq_true rfl) d_Mo_number_17 ?_
    refine x_ifeqB C d_Mo_number_20 27 (by decide) (fun c_2 => ?_) (fun c_2 => ?_)
    · refine x_iconst C d_Mo_number_27 (v := 0) (by decide) ?_
      refine x_callVv C (c_Mo_must_w Z (g 5) r L e hL he c n 0 (va_up g 3 (lxS (g 5) r L e 1 c n)) ((va_up_ne _ _ (by omega))) ((va_up_self _ _ _)) hr hB) mi_Mo_must k_1174 (show 0 < 12 by omega) (m_0 Z _) rfl (As := [.int (0)]) ⟨Nat.le_of_ble_eq_true rfl, Nat.le_of_ble_eq_true rfl⟩ rfl rfl (Nat.le_of_ble_eq_true rfl) d_Mo_number_28 ?_
      refine x_eqg (g' := va_up g 3 (lxS (g 5) r L e 1 c n)) (bx_uu _ _ _ _) ?_
      refine x_iload_n C d_Mo_number_31 0 rfl rfl ?_
      exact x_iret C rfl rfl d_Mo_number_32
    · refine x_iconst C d_Mo_number_23 (v := 1) (by decide) ?_
      refine x_goto C d_Mo_number_24 28 (by decide) ?_
      refine x_callVv C (c_Mo_must_w Z (g 5) r L e hL he c n 1 (va_up g 3 (lxS (g 5) r L e 1 c n)) ((va_up_ne _ _ (by omega))) ((va_up_self _ _ _)) hr hB) mi_Mo_must k_1174 (show 0 < 12 by omega) (m_0 Z _) rfl (As := [.int (1)]) ⟨Nat.le_of_ble_eq_true rfl, Nat.le_of_ble_eq_true rfl⟩ rfl rfl (Nat.le_of_ble_eq_true rfl) d_Mo_number_28 ?_
      refine x_eqg (g' := va_up g 3 (lxS (g 5) r L e 1 c n)) (bx_uu _ _ _ _) ?_
      refine x_iload_n C d_Mo_number_31 0 rfl rfl ?_
      exact x_iret C rfl rfl d_Mo_number_32

theorem c_Mo_numberS (Z : ZT) (b r : Nat → Int32) (L : Nat) (s : SS) (hL : L ≤ 120) (he : s.1 ≤ L) (c n : Int32) (m : Nat) (hm : m ≤ 10000) (g : St) (h5 : g 5 = b) (h3 : g 3 = lxS b r L s.1 (wI s.2) c n) (hr : r 6 = nI L) (hB : ∀ k, k < L → ¬ b k < 0) : CT yM Z y_Mo_number b_Mo_number 4 (some (.int)) 3 64 [.ref (Z.2.1 (0)), .int (0), .int (nI m)] (g) (QcI yM Z (nI (tnm b L s.1)) (va_up g 3 (lxS b r L (nS b L m s).1 (wI (nS b L m s).2) c n))) := by
  obtain ⟨e, w⟩ := s
  cases w
  · have h := c_Mo_number_0 Z b r L e hL he c n m hm g h5 h3 hr hB
    by_cases hn : nOk b L m e = true
    · rw [if_pos hn, if_pos hn] at h
      rw [show nS b L m (e, false) = (tnd b L e, false) from if_pos ⟨rfl, hn⟩]
      exact h
    · rw [if_neg hn, if_neg hn] at h
      rw [show nS b L m (e, false) = (e, true) from if_neg (fun z => hn z.2)]
      exact h
  · have h := c_Mo_number_1 Z b r L e hL he c n m hm g h5 h3 hr hB
    rw [nS_t]
    exact h

set_option maxRecDepth 100000 in
set_option maxHeartbeats 600000 in
theorem c_Mo_takesWord_t (Z : ZT) (b r : Nat → Int32) (L e : Nat) (hL : L ≤ 120) (he : e ≤ L) (c n : Int32) (i : Nat) (hi : i < 13) (g : St)  (h5 : g 5 = b) (h3 : g 3 = lxS b r L e 0 c n) (hr : r 6 = nI L) (hB : ∀ k, k < L → ¬ b k < 0) (hw : isW b L i e = true) : CT yM Z y_Mo_takesWord b_Mo_takesWord 3 (some (.boolean)) 5 108 [.ref (Z.2.1 (0)), .ref (Z.2.2.2.2.1 i)] (g) (QcI yM Z (1) (va_up g 3 (lxS b r L (tnd b L e) 0 c n))) := by
  refine CT.mk "TunnelPeaceModel" (by decide) rfl (Nat.le_of_ble_eq_true rfl) (fun X C => ?_)
  refine x_lv [0, 1] (lv' := [(0, .ref (Z.2.1 (0))), (1, .ref (Z.2.2.2.2.1 i))]) rfl ?_
  subst h5
  have hj := skp_ge (b := g 5) (L := L) (e := e)
  have hjl := skp_le (b := g 5) he
  have hdg := tnd_ge (b := g 5) (L := L) (e := e)
  have hdl := tnd_le (b := g 5) he
  have ht4 := tok_4 (b := g 5) (L := L) (e := e)
  have hm4 := tnm_le (b := g 5) (L := L) (e := e)
  refine x_eqg (g' := va_up g 3 (lxS (g 5) r L e 0 c n)) (by rw [← h3, va_id]) ?_
  refine x_aload_n C d_Mo_takesWord_0 0 rfl rfl ?_
  refine gf_Mo_isWrong C (v := 0) (Eq.trans (congrFun (va_up_self _ _ _) _) rfl) k_802 d_Mo_takesWord_1 ?_
  refine x_ifne C d_Mo_takesWord_4 19 (by decide) (fun c_1 => ?_) (fun c_1 => ?_)
  · exact absurd c_1 (by decide)
  · refine x_aload_n C d_Mo_takesWord_7 0 rfl rfl ?_
    refine x_aload_n C d_Mo_takesWord_8 1 rfl rfl ?_
    refine x_callVi C (c_Mo_isWord_t Z (g 5) r L e hL he 0 c n i hi (va_up g 3 (lxS (g 5) r L e 0 c n)) ((va_up_ne _ _ (by omega))) ((va_up_self _ _ _)) hr hB (by with_reducible assumption)) mi_Mo_isWord k_1164 (show 0 < 12 by omega) (m_0 Z _) rfl (As := [.ref (Z.2.2.2.2.1 i)]) ⟨Nat.le_of_ble_eq_true rfl, Nat.le_of_ble_eq_true rfl⟩ rfl rfl (Nat.le_of_ble_eq_true rfl) d_Mo_takesWord_9 ?_
    refine x_ifeq C d_Mo_takesWord_12 19 (by decide) (fun c_2 => ?_) (fun c_2 => ?_)
    · exact absurd c_2 (by decide)
    · refine x_iconst C d_Mo_takesWord_15 (v := 1) (by decide) ?_
      refine x_goto C d_Mo_takesWord_16 20 (by decide) ?_
      refine x_istore_n C d_Mo_takesWord_20 rfl (by decide) (lv' := [(2, .int (1)), (0, .ref (Z.2.1 (0))), (1, .ref (Z.2.2.2.2.1 i))]) rfl ?_
      refine x_iload_n C d_Mo_takesWord_21 0 rfl rfl ?_
      refine x_ifeq C d_Mo_takesWord_22 30 (by decide) (fun c_3 => ?_) (fun c_3 => ?_)
      · exact absurd c_3 (by decide)
      · refine x_aload_n C d_Mo_takesWord_25 1 rfl rfl ?_
        refine x_iconst C d_Mo_takesWord_26 (v := 1) (by decide) ?_
        refine x_callVv C (c_Mo_must_t Z (g 5) r L e hL he c n (va_up g 3 (lxS (g 5) r L e 0 c n)) ((va_up_ne _ _ (by omega))) ((va_up_self _ _ _)) hr hB) mi_Mo_must k_1174 (show 0 < 12 by omega) (m_0 Z _) rfl (As := [.int (1)]) ⟨Nat.le_of_ble_eq_true rfl, Nat.le_of_ble_eq_true rfl⟩ rfl rfl (Nat.le_of_ble_eq_true rfl) d_Mo_takesWord_27 ?_
        refine x_eqg (g' := va_up g 3 (lxS (g 5) r L (tnd (g 5) L e) 0 c n)) (bx_uu _ _ _ _) ?_
        refine x_iload_n C d_Mo_takesWord_30 0 rfl rfl ?_
        exact x_zret C (by decide) rfl rfl d_Mo_takesWord_31

set_option maxRecDepth 100000 in
set_option maxHeartbeats 600000 in
theorem c_Mo_takesWord_f (Z : ZT) (b r : Nat → Int32) (L e : Nat) (hL : L ≤ 120) (he : e ≤ L) (c n : Int32) (i : Nat) (hi : i < 13) (g : St)  (h5 : g 5 = b) (h3 : g 3 = lxS b r L e 0 c n) (hr : r 6 = nI L) (hB : ∀ k, k < L → ¬ b k < 0) (hw : ¬ isW b L i e = true) : CT yM Z y_Mo_takesWord b_Mo_takesWord 3 (some (.boolean)) 5 108 [.ref (Z.2.1 (0)), .ref (Z.2.2.2.2.1 i)] (g) (QcI yM Z (0) (g)) := by
  refine CT.mk "TunnelPeaceModel" (by decide) rfl (Nat.le_of_ble_eq_true rfl) (fun X C => ?_)
  refine x_lv [0, 1] (lv' := [(0, .ref (Z.2.1 (0))), (1, .ref (Z.2.2.2.2.1 i))]) rfl ?_
  subst h5
  have hj := skp_ge (b := g 5) (L := L) (e := e)
  have hjl := skp_le (b := g 5) he
  have hdg := tnd_ge (b := g 5) (L := L) (e := e)
  have hdl := tnd_le (b := g 5) he
  have ht4 := tok_4 (b := g 5) (L := L) (e := e)
  have hm4 := tnm_le (b := g 5) (L := L) (e := e)
  refine x_eqg (g' := va_up g 3 (lxS (g 5) r L e 0 c n)) (by rw [← h3, va_id]) ?_
  refine x_aload_n C d_Mo_takesWord_0 0 rfl rfl ?_
  refine gf_Mo_isWrong C (v := 0) (Eq.trans (congrFun (va_up_self _ _ _) _) rfl) k_802 d_Mo_takesWord_1 ?_
  refine x_ifne C d_Mo_takesWord_4 19 (by decide) (fun c_1 => ?_) (fun c_1 => ?_)
  · exact absurd c_1 (by decide)
  · refine x_aload_n C d_Mo_takesWord_7 0 rfl rfl ?_
    refine x_aload_n C d_Mo_takesWord_8 1 rfl rfl ?_
    refine x_callVi C (c_Mo_isWord_f Z (g 5) r L e hL he 0 c n i hi (va_up g 3 (lxS (g 5) r L e 0 c n)) ((va_up_ne _ _ (by omega))) ((va_up_self _ _ _)) hr hB (by with_reducible assumption)) mi_Mo_isWord k_1164 (show 0 < 12 by omega) (m_0 Z _) rfl (As := [.ref (Z.2.2.2.2.1 i)]) ⟨Nat.le_of_ble_eq_true rfl, Nat.le_of_ble_eq_true rfl⟩ rfl rfl (Nat.le_of_ble_eq_true rfl) d_Mo_takesWord_9 ?_
    refine x_ifeq C d_Mo_takesWord_12 19 (by decide) (fun c_2 => ?_) (fun c_2 => ?_)
    · refine x_iconst C d_Mo_takesWord_19 (v := 0) (by decide) ?_
      refine x_istore_n C d_Mo_takesWord_20 rfl (by decide) (lv' := [(2, .int (0)), (0, .ref (Z.2.1 (0))), (1, .ref (Z.2.2.2.2.1 i))]) rfl ?_
      refine x_iload_n C d_Mo_takesWord_21 0 rfl rfl ?_
      refine x_ifeq C d_Mo_takesWord_22 30 (by decide) (fun c_3 => ?_) (fun c_3 => ?_)
      · refine x_iload_n C d_Mo_takesWord_30 0 rfl rfl ?_
        exact x_zret C (by decide) rfl (by rw [← h3, va_id]) d_Mo_takesWord_31
      · exact absurd c_3 (by decide)
    · exact absurd c_2 (by decide)

set_option maxRecDepth 100000 in
set_option maxHeartbeats 600000 in
theorem c_Mo_takesWord_w (Z : ZT) (b r : Nat → Int32) (L e : Nat) (hL : L ≤ 120) (he : e ≤ L) (c n : Int32) (i : Nat) (hi : i < 13) (g : St)  (h5 : g 5 = b) (h3 : g 3 = lxS b r L e 1 c n) (hr : r 6 = nI L) (hB : ∀ k, k < L → ¬ b k < 0) : CT yM Z y_Mo_takesWord b_Mo_takesWord 3 (some (.boolean)) 5 108 [.ref (Z.2.1 (0)), .ref (Z.2.2.2.2.1 i)] (g) (QcI yM Z (0) (g)) := by
  refine CT.mk "TunnelPeaceModel" (by decide) rfl (Nat.le_of_ble_eq_true rfl) (fun X C => ?_)
  refine x_lv [0, 1] (lv' := [(0, .ref (Z.2.1 (0))), (1, .ref (Z.2.2.2.2.1 i))]) rfl ?_
  subst h5
  have hj := skp_ge (b := g 5) (L := L) (e := e)
  have hjl := skp_le (b := g 5) he
  have hdg := tnd_ge (b := g 5) (L := L) (e := e)
  have hdl := tnd_le (b := g 5) he
  have ht4 := tok_4 (b := g 5) (L := L) (e := e)
  have hm4 := tnm_le (b := g 5) (L := L) (e := e)
  refine x_eqg (g' := va_up g 3 (lxS (g 5) r L e 1 c n)) (by rw [← h3, va_id]) ?_
  refine x_aload_n C d_Mo_takesWord_0 0 rfl rfl ?_
  refine gf_Mo_isWrong C (v := 1) (Eq.trans (congrFun (va_up_self _ _ _) _) rfl) k_802 d_Mo_takesWord_1 ?_
  refine x_ifne C d_Mo_takesWord_4 19 (by decide) (fun c_1 => ?_) (fun c_1 => ?_)
  · refine x_iconst C d_Mo_takesWord_19 (v := 0) (by decide) ?_
    refine x_istore_n C d_Mo_takesWord_20 rfl (by decide) (lv' := [(2, .int (0)), (0, .ref (Z.2.1 (0))), (1, .ref (Z.2.2.2.2.1 i))]) rfl ?_
    refine x_iload_n C d_Mo_takesWord_21 0 rfl rfl ?_
    refine x_ifeq C d_Mo_takesWord_22 30 (by decide) (fun c_2 => ?_) (fun c_2 => ?_)
    · refine x_iload_n C d_Mo_takesWord_30 0 rfl rfl ?_
      exact x_zret C (by decide) rfl (by rw [← h3, va_id]) d_Mo_takesWord_31
    · exact absurd c_2 (by decide)
  · exact absurd c_1 (by decide)

theorem c_Mo_takesWord_ST (Z : ZT) (b r : Nat → Int32) (L : Nat) (s : SS) (hL : L ≤ 120) (he : s.1 ≤ L) (c n : Int32) (i : Nat) (hi : i < 13) (g : St)  (h5 : g 5 = b) (h3 : g 3 = lxS b r L s.1 (wI s.2) c n) (hr : r 6 = nI L) (hB : ∀ k, k < L → ¬ b k < 0) (hw : s.2 = false ∧ isW b L i s.1 = true) : CT yM Z y_Mo_takesWord b_Mo_takesWord 3 (some (.boolean)) 5 108 [.ref (Z.2.1 (0)), .ref (Z.2.2.2.2.1 i)] (g) (QcI yM Z 1 (va_up g 3 (lxS b r L (tnd b L s.1) 0 c n))) := by
  obtain ⟨e, w⟩ := s
  obtain ⟨h1, h2⟩ := hw
  cases h1
  exact c_Mo_takesWord_t Z b r L e hL he c n i hi g h5 h3 hr hB h2
theorem c_Mo_takesWord_SF (Z : ZT) (b r : Nat → Int32) (L : Nat) (s : SS) (hL : L ≤ 120) (he : s.1 ≤ L) (c n : Int32) (i : Nat) (hi : i < 13) (g : St)  (h5 : g 5 = b) (h3 : g 3 = lxS b r L s.1 (wI s.2) c n) (hr : r 6 = nI L) (hB : ∀ k, k < L → ¬ b k < 0) (hw : ¬ (s.2 = false ∧ isW b L i s.1 = true)) : CT yM Z y_Mo_takesWord b_Mo_takesWord 3 (some (.boolean)) 5 108 [.ref (Z.2.1 (0)), .ref (Z.2.2.2.2.1 i)] (g) (QcI yM Z 0 g) := by
  obtain ⟨e, w⟩ := s
  cases w
  · exact c_Mo_takesWord_f Z b r L e hL he c n i hi g h5 h3 hr hB (fun z => hw ⟨rfl, z⟩)
  · exact c_Mo_takesWord_w Z b r L e hL he c n i hi g h5 h3 hr hB

set_option maxRecDepth 100000 in
set_option maxHeartbeats 600000 in
theorem c_Mo_addItem (Z : ZT) (c : Nat) (hc : c < 120) (a1 a2 a3 a4 a5 a6 : Int32) (g : St)  (hc14 : g 3 14 = nI c) : CT yM Z y_Mo_addItem b_Mo_addItem 8 none 0 0 [.ref (Z.2.1 (0)), .int (a1), .int (a2), .int (a3), .int (a4), .int (a5), .int (a6)] (g) (QcV yM Z (va_up (va_up g 7 (add6 (g 7) c a1 a2 a3 a4 a5 a6)) 3 (upd (g 3) 14 (nI (c + 1))))) := by
  refine CT.mk "TunnelPeaceModel" (by decide) rfl (Nat.le_of_ble_eq_true rfl) (fun X C => ?_)
  refine x_lv [0, 1, 2, 3, 4, 5, 6] (lv' := [(0, .ref (Z.2.1 (0))), (1, .int (a1)), (2, .int (a2)), (3, .int (a3)), (4, .int (a4)), (5, .int (a5)), (6, .int (a6))]) rfl ?_
  refine x_bipush C d_Mo_addItem_0 (v := 6) (by decide) ?_
  refine x_aload_n C d_Mo_addItem_2 0 rfl rfl ?_
  refine gf_Mo_itemMany C (v := nI c) hc14 k_805 d_Mo_addItem_3 ?_
  refine x_imul C d_Mo_addItem_6 ?_
  refine x_topi (x' := nI (6 * c)) (pk_mul 6 c) ?_
  refine x_istore C d_Mo_addItem_7 (by decide) (lv' := [(7, .int (nI (6 * c))), (0, .ref (Z.2.1 (0))), (1, .int (a1)), (2, .int (a2)), (3, .int (a3)), (4, .int (a4)), (5, .int (a5)), (6, .int (a6))]) rfl ?_
  refine x_aload_n C d_Mo_addItem_9 1 rfl rfl ?_
  refine gf_Mo_items C k_804 d_Mo_addItem_10 ?_
  refine x_iload C d_Mo_addItem_13 0 rfl ?_
  refine x_iload_n C d_Mo_addItem_15 2 rfl rfl ?_
  refine as_m_items C (6 * c) (v := a1) rfl (by first | omega | (simp only [pI]; omega)) (G := va_up g 7 (upd (g 7) (6 * c) a1)) rfl d_Mo_addItem_16 ?_
  refine x_aload_n C d_Mo_addItem_17 1 rfl rfl ?_
  refine gf_Mo_items C k_804 d_Mo_addItem_18 ?_
  refine x_iload C d_Mo_addItem_21 0 rfl ?_
  refine x_iconst C d_Mo_addItem_23 (v := 1) (by decide) ?_
  refine x_iadd C d_Mo_addItem_24 ?_
  refine x_topi (x' := nI (6 * c + 1)) (nI_add _ 1) ?_
  refine x_iload_n C d_Mo_addItem_25 3 rfl rfl ?_
  refine as_m_items C (6 * c + 1) (v := a2) rfl (by first | omega | (simp only [pI]; omega)) (G := va_up g 7 (upd (upd (g 7) (6 * c) a1) (6 * c + 1) a2)) up_va d_Mo_addItem_26 ?_
  refine x_aload_n C d_Mo_addItem_27 1 rfl rfl ?_
  refine gf_Mo_items C k_804 d_Mo_addItem_28 ?_
  refine x_iload C d_Mo_addItem_31 0 rfl ?_
  refine x_iconst C d_Mo_addItem_33 (v := 2) (by decide) ?_
  refine x_iadd C d_Mo_addItem_34 ?_
  refine x_topi (x' := nI (6 * c + 2)) (nI_add _ 2) ?_
  refine x_iload_n C d_Mo_addItem_35 4 rfl rfl ?_
  refine as_m_items C (6 * c + 2) (v := a3) rfl (by first | omega | (simp only [pI]; omega)) (G := va_up g 7 (upd (upd (upd (g 7) (6 * c) a1) (6 * c + 1) a2) (6 * c + 2) a3)) up_va d_Mo_addItem_36 ?_
  refine x_aload_n C d_Mo_addItem_37 1 rfl rfl ?_
  refine gf_Mo_items C k_804 d_Mo_addItem_38 ?_
  refine x_iload C d_Mo_addItem_41 0 rfl ?_
  refine x_iconst C d_Mo_addItem_43 (v := 3) (by decide) ?_
  refine x_iadd C d_Mo_addItem_44 ?_
  refine x_topi (x' := nI (6 * c + 3)) (nI_add _ 3) ?_
  refine x_iload C d_Mo_addItem_45 5 rfl ?_
  refine as_m_items C (6 * c + 3) (v := a4) rfl (by first | omega | (simp only [pI]; omega)) (G := va_up g 7 (upd (upd (upd (upd (g 7) (6 * c) a1) (6 * c + 1) a2) (6 * c + 2) a3) (6 * c + 3) a4)) up_va d_Mo_addItem_47 ?_
  refine x_aload_n C d_Mo_addItem_48 1 rfl rfl ?_
  refine gf_Mo_items C k_804 d_Mo_addItem_49 ?_
  refine x_iload C d_Mo_addItem_52 0 rfl ?_
  refine x_iconst C d_Mo_addItem_54 (v := 4) (by decide) ?_
  refine x_iadd C d_Mo_addItem_55 ?_
  refine x_topi (x' := nI (6 * c + 4)) (nI_add _ 4) ?_
  refine x_iload C d_Mo_addItem_56 6 rfl ?_
  refine as_m_items C (6 * c + 4) (v := a5) rfl (by first | omega | (simp only [pI]; omega)) (G := va_up g 7 (upd (upd (upd (upd (upd (g 7) (6 * c) a1) (6 * c + 1) a2) (6 * c + 2) a3) (6 * c + 3) a4) (6 * c + 4) a5)) up_va d_Mo_addItem_58 ?_
  refine x_aload_n C d_Mo_addItem_59 1 rfl rfl ?_
  refine gf_Mo_items C k_804 d_Mo_addItem_60 ?_
  refine x_iload C d_Mo_addItem_63 0 rfl ?_
  refine x_iconst C d_Mo_addItem_65 (v := 5) (by decide) ?_
  refine x_iadd C d_Mo_addItem_66 ?_
  refine x_topi (x' := nI (6 * c + 5)) (nI_add _ 5) ?_
  refine x_iload C d_Mo_addItem_67 7 rfl ?_
  refine as_m_items C (6 * c + 5) (v := a6) rfl (by first | omega | (simp only [pI]; omega)) (G := va_up g 7 (upd (upd (upd (upd (upd (upd (g 7) (6 * c) a1) (6 * c + 1) a2) (6 * c + 2) a3) (6 * c + 3) a4) (6 * c + 4) a5) (6 * c + 5) a6)) up_va d_Mo_addItem_69 ?_
  refine x_aload_n C d_Mo_addItem_70 1 rfl rfl ?_
  refine x_dup C d_Mo_addItem_71 rfl ?_
  refine gf_Mo_itemMany C (v := nI c) (Eq.trans (congrFun (va_up_ne _ _ (by omega)) _) hc14) k_805 d_Mo_addItem_72 ?_
  refine x_iconst C d_Mo_addItem_75 (v := 1) (by decide) ?_
  refine x_iadd C d_Mo_addItem_76 ?_
  refine x_topi (x' := nI (c + 1)) (nI_1 _) ?_
  refine pf_Mo_itemMany C (v := nI (c + 1)) (G := va_up (va_up g 7 (upd (upd (upd (upd (upd (upd (g 7) (6 * c) a1) (6 * c + 1) a2) (6 * c + 2) a3) (6 * c + 3) a4) (6 * c + 4) a5) (6 * c + 5) a6)) 3 (upd (g 3) 14 (nI (c + 1)))) (congrArg (fun z => va_up _ _ (upd z _ _)) (va_up_ne _ _ (by omega))) k_805 d_Mo_addItem_77 ?_
  exact x_vret C rfl d_Mo_addItem_80
