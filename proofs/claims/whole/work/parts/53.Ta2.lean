set_option maxRecDepth 100000 in
set_option maxHeartbeats 600000 in
theorem c_Ta_takeWord (Z : ZT) (b r : Nat → Int32) (L e : Nat) (hL : L ≤ 120) (he : e ≤ L) (i : Nat) (hi : i < 13) (g : St)  (h6 : g 6 = b) (h5 : g 5 = lexR b r L e) (h0 : r 0 = nI L) : CT yC Z y_Ta_takeWord b_Ta_takeWord 3 (some (.boolean)) 4 85 [.ref (Z.2.1 (2)), .ref (Z.2.2.2.2.1 i)] (g) (QcI yC Z (bI (isW b L i e = true)) (va_up g 5 (lexR b r L (if isW b L i e = true then tnd b L e else e)))) := by
  refine CT.mk "TunnelPeace$Tape" (by decide) rfl (Nat.le_of_ble_eq_true rfl) (fun X C => ?_)
  refine x_lv [0, 1] (lv' := [(0, .ref (Z.2.1 (2))), (1, .ref (Z.2.2.2.2.1 i))]) rfl ?_
  subst h6
  have hj := skp_ge (b := g 6) (L := L) (e := e)
  have hjl := skp_le (b := g 6) he
  have hdg := tnd_ge (b := g 6) (L := L) (e := e)
  have hdl := tnd_le (b := g 6) he
  have ht4 := tok_4 (b := g 6) (L := L) (e := e)
  have hm4 := tnm_le (b := g 6) (L := L) (e := e)
  have hl8 := tx_small i hi
  refine x_aload_n C d_Ta_takeWord_0 0 rfl rfl ?_
  refine gf_Ta_token C (v := nI (tok (g 6) L e)) (congrFun h5 2) k_125 d_Ta_takeWord_1 ?_
  refine x_iconst C d_Ta_takeWord_4 (v := 1) (by decide) ?_
  refine x_icmp_ne C d_Ta_takeWord_5 24 (by decide) (fun c_1 => ?_) (fun c_1 => ?_)
  · have nc_1 := Ne.symm c_1
    have mc_1 : ¬ (tok (g 6) L e) = 1 := fun z_ => (show ¬ nI (tok (g 6) L e) = nI 1 from c_1) ((nI_eq (by omega) (by omega)).mpr z_)
    refine x_iconst C d_Ta_takeWord_24 (v := 0) (by decide) ?_
    have hno : ¬ isW (g 6) L i e = true := fun z_ => by have z2_ := isW_i.mp z_; first | exact absurd z2_.1 (by with_reducible assumption) | exact absurd z2_.2.1 (by with_reducible assumption)
    exact x_zret C (by decide) (bI_f hno).symm (by rw [if_neg hno, ← h5, va_id]) d_Ta_takeWord_25
  · have mc_1 : (tok (g 6) L e) = 1 := (nI_eq (by omega) (by omega)).mp (show nI (tok (g 6) L e) = nI 1 from c_1)
    refine x_aload_n C d_Ta_takeWord_8 0 rfl rfl ?_
    refine gf_Ta_end C (v := nI (tnd (g 6) L e)) (congrFun h5 4) k_127 d_Ta_takeWord_9 ?_
    refine x_aload_n C d_Ta_takeWord_12 0 rfl rfl ?_
    refine gf_Ta_begin C (v := nI (skp (g 6) L e)) (congrFun h5 3) k_126 d_Ta_takeWord_13 ?_
    refine x_isub C d_Ta_takeWord_16 ?_
    refine x_topi (x' := nI (tnd (g 6) L e - skp (g 6) L e)) (pk_sub hdg) ?_
    refine x_aload_n C d_Ta_takeWord_17 1 rfl rfl ?_
    refine x_callTi C hi (c_JS_length yC Z i hi (g)) mi_JS_length k_591 rfl (As := []) ⟨Nat.le_of_ble_eq_true rfl, Nat.le_of_ble_eq_true rfl⟩ rfl rfl (Nat.le_of_ble_eq_true rfl) d_Ta_takeWord_18 ?_
    refine x_icmp_eq C d_Ta_takeWord_21 26 (by decide) (fun c_2 => ?_) (fun c_2 => ?_)
    · have mc_2 : (tnd (g 6) L e - skp (g 6) L e) = (txLen.getD i 0) := (nI_eq (by omega) (by omega)).mp (show nI (tnd (g 6) L e - skp (g 6) L e) = nI (txLen.getD i 0) from c_2)
      refine x_iconst C d_Ta_takeWord_26 (v := 0) (by decide) ?_
      refine x_topi (show (0 : Int32) = nI 0 by decide) ?_
      refine x_istore_n C d_Ta_takeWord_27 rfl (by decide) (lv' := [(2, .int (nI 0)), (0, .ref (Z.2.1 (2))), (1, .ref (Z.2.2.2.2.1 i))]) rfl ?_
      have LP_28 : ∀ (f_ k : Nat), k ≤ txLen.getD i 0 → (txLen.getD i 0) - k < f_ → (wrd (g 6) (skp (g 6) L e) i k = true) → WX X 3 yC Z (QX X yC Z (QcI yC Z (bI (isW (g 6) L i e = true)) (va_up g 5 (lexR (g 6) r L (if isW (g 6) L i e = true then tnd (g 6) L e else e))))) (g) 28 [(2, .int (nI k)), (0, .ref (Z.2.1 (2))), (1, .ref (Z.2.2.2.2.1 i))] [] := by
        intro f_
        induction f_ with
        | zero => intro k h1_ h2_ _; exact absurd h2_ (Nat.not_lt_zero _)
        | succ f_ ih_28 =>
          intro k hi_28 hf_28 hy_28
          refine x_iload_n C d_Ta_takeWord_28 0 rfl rfl ?_
          refine x_aload_n C d_Ta_takeWord_29 2 rfl rfl ?_
          refine x_callTi C hi (c_JS_length yC Z i hi (g)) mi_JS_length k_591 rfl (As := []) ⟨Nat.le_of_ble_eq_true rfl, Nat.le_of_ble_eq_true rfl⟩ rfl rfl (Nat.le_of_ble_eq_true rfl) d_Ta_takeWord_30 ?_
          refine x_icmp_ge C d_Ta_takeWord_33 63 (by decide) (fun c_3 => ?_) (fun c_3 => ?_)
          · have nc_3 := Int32.not_lt.mpr c_3
            have mc_3 : (txLen.getD i 0) ≤ k := (nI_leI (by omega) (by omega)).mp (show nI (txLen.getD i 0) ≤ nI k from c_3)
            have e_k : txLen.getD i 0 = k := by omega
            subst e_k
            refine x_aload_n C d_Ta_takeWord_63 1 rfl rfl ?_
            refine x_callVv C (c_Ta_advance Z (g 6) L (tnd (g 6) L e) hL hdl (g) rfl ((congrFun h5 0).trans h0) (congrFun h5 4)) mi_Ta_advance k_578 (show 2 < 50 by omega) (e_Ta Z _) rfl (As := []) ⟨Nat.le_of_ble_eq_true rfl, Nat.le_of_ble_eq_true rfl⟩ rfl rfl (Nat.le_of_ble_eq_true rfl) d_Ta_takeWord_64 ?_
            refine x_iconst C d_Ta_takeWord_67 (v := 1) (by decide) ?_
            have hys : isW (g 6) L i e = true := isW_i.mpr ⟨by with_reducible assumption, by with_reducible assumption, hy_28⟩
            exact x_zret C (by decide) (bI_t hys).symm (by rw [if_pos hys, h5, lexR_r]) d_Ta_takeWord_68
          · have nc_3 := Int32.not_le.mp c_3
            have mc_3 : ¬ (txLen.getD i 0) ≤ k := fun z_ => (show ¬ nI (txLen.getD i 0) ≤ nI k from c_3) ((nI_leI (by omega) (by omega)).mpr z_)
            refine x_aload_n C d_Ta_takeWord_36 1 rfl rfl ?_
            refine gf_Ta_bytes C k_124 d_Ta_takeWord_37 ?_
            refine x_aload_n C d_Ta_takeWord_40 1 rfl rfl ?_
            refine gf_Ta_begin C (v := nI (skp (g 6) L e)) (congrFun h5 3) k_126 d_Ta_takeWord_41 ?_
            refine x_iload_n C d_Ta_takeWord_44 0 rfl rfl ?_
            refine x_iadd C d_Ta_takeWord_45 ?_
            refine x_topi (x' := nI (skp (g 6) L e + k)) (nI_add _ _) ?_
            refine al_by C (skp (g 6) L e + k) (v := g 6 (skp (g 6) L e + k)) rfl (by omega) rfl d_Ta_takeWord_46 ?_
            refine x_aload_n C d_Ta_takeWord_47 2 rfl rfl ?_
            refine x_iload_n C d_Ta_takeWord_48 0 rfl rfl ?_
            refine x_callTi C hi (c_JS_charAt yC Z i k hi (by omega) (g)) mi_JS_charAt k_601 rfl (As := [.int (nI k)]) ⟨Nat.le_of_ble_eq_true rfl, Nat.le_of_ble_eq_true rfl⟩ rfl rfl (Nat.le_of_ble_eq_true rfl) d_Ta_takeWord_49 ?_
            refine x_icmp_eq C d_Ta_takeWord_52 57 (by decide) (fun c_4 => ?_) (fun c_4 => ?_)
            · refine x_iinc C d_Ta_takeWord_57 0 rfl (v := nI (k + 1)) (nI_1 _) (by decide) (lv' := [(2, .int (nI (k + 1))), (0, .ref (Z.2.1 (2))), (1, .ref (Z.2.2.2.2.1 i))]) rfl ?_
              refine x_goto C d_Ta_takeWord_60 28 (by decide) ?_
              exact ih_28 (k + 1) (by omega) (by omega) (by simp only [wrd, hy_28, Bool.true_and, decide_eq_true_eq]; with_reducible assumption)
            · have nc_4 := Ne.symm c_4
              refine x_iconst C d_Ta_takeWord_55 (v := 0) (by decide) ?_
              have hno : ¬ isW (g 6) L i e = true := fun z_ => wrd_no (k := k) (by omega) (by with_reducible assumption) (isW_i.mp z_).2.2
              exact x_zret C (by decide) (bI_f hno).symm (by rw [if_neg hno, ← h5, va_id]) d_Ta_takeWord_56
      exact LP_28 (txLen.getD i 0 + 1) 0 (Nat.zero_le _) (by omega) rfl
    · have nc_2 := Ne.symm c_2
      have mc_2 : ¬ (tnd (g 6) L e - skp (g 6) L e) = (txLen.getD i 0) := fun z_ => (show ¬ nI (tnd (g 6) L e - skp (g 6) L e) = nI (txLen.getD i 0) from c_2) ((nI_eq (by omega) (by omega)).mpr z_)
      refine x_iconst C d_Ta_takeWord_24 (v := 0) (by decide) ?_
      have hno : ¬ isW (g 6) L i e = true := fun z_ => by have z2_ := isW_i.mp z_; first | exact absurd z2_.1 (by with_reducible assumption) | exact absurd z2_.2.1 (by with_reducible assumption)
      exact x_zret C (by decide) (bI_f hno).symm (by rw [if_neg hno, ← h5, va_id]) d_Ta_takeWord_25

theorem c_Ta_takeWord_t (Z : ZT) (b r : Nat → Int32) (L e : Nat) (hL : L ≤ 120) (he : e ≤ L) (i : Nat) (hi : i < 13) (g : St)  (h6 : g 6 = b) (h5 : g 5 = lexR b r L e) (h0 : r 0 = nI L) (hw : isW b L i e = true) : CT yC Z y_Ta_takeWord b_Ta_takeWord 3 (some (.boolean)) 4 85 [.ref (Z.2.1 (2)), .ref (Z.2.2.2.2.1 i)] (g) (QcI yC Z 1 (va_up g 5 (lexR b r L (tnd b L e)))) := by
  have h := c_Ta_takeWord Z b r L e hL he i hi g h6 h5 h0
  rw [bI_t hw, if_pos hw] at h
  exact h
theorem c_Ta_takeWord_f (Z : ZT) (b r : Nat → Int32) (L e : Nat) (hL : L ≤ 120) (he : e ≤ L) (i : Nat) (hi : i < 13) (g : St)  (h6 : g 6 = b) (h5 : g 5 = lexR b r L e) (h0 : r 0 = nI L) (hw : ¬ isW b L i e = true) : CT yC Z y_Ta_takeWord b_Ta_takeWord 3 (some (.boolean)) 4 85 [.ref (Z.2.1 (2)), .ref (Z.2.2.2.2.1 i)] (g) (QcI yC Z 0 g) := by
  have h := c_Ta_takeWord Z b r L e hL he i hi g h6 h5 h0
  rw [bI_f hw, if_neg hw, ← h5, va_id] at h
  exact h

set_option maxRecDepth 100000 in
set_option maxHeartbeats 600000 in
theorem c_Ta_takeNumber (Z : ZT) (b r : Nat → Int32) (L e : Nat) (hL : L ≤ 120) (he : e ≤ L) (m : Nat) (hm : m ≤ 10000) (g : St)  (h6 : g 6 = b) (h5 : g 5 = lexR b r L e) (h0 : r 0 = nI L) : CT yC Z y_Ta_takeNumber b_Ta_takeNumber 3 (some (.int)) 2 42 [.ref (Z.2.1 (2)), .int (nI m)] (g) (QcI yC Z (if nOk b L m e = true then nI (tnm b L e) else (-1)) (va_up g 5 (lexR b r L (if nOk b L m e = true then tnd b L e else e)))) := by
  refine CT.mk "TunnelPeace$Tape" (by decide) rfl (Nat.le_of_ble_eq_true rfl) (fun X C => ?_)
  refine x_lv [0, 1] (lv' := [(0, .ref (Z.2.1 (2))), (1, .int (nI m))]) rfl ?_
  subst h6
  have hj := skp_ge (b := g 6) (L := L) (e := e)
  have hjl := skp_le (b := g 6) he
  have hdg := tnd_ge (b := g 6) (L := L) (e := e)
  have hdl := tnd_le (b := g 6) he
  have ht4 := tok_4 (b := g 6) (L := L) (e := e)
  have hm4 := tnm_le (b := g 6) (L := L) (e := e)
  refine x_aload_n C d_Ta_takeNumber_0 0 rfl rfl ?_
  refine gf_Ta_token C (v := nI (tok (g 6) L e)) (congrFun h5 2) k_125 d_Ta_takeNumber_1 ?_
  refine x_iconst C d_Ta_takeNumber_4 (v := 2) (by decide) ?_
  refine x_icmp_ne C d_Ta_takeNumber_5 16 (by decide) (fun c_1 => ?_) (fun c_1 => ?_)
  · have nc_1 := Ne.symm c_1
    have mc_1 : ¬ (tok (g 6) L e) = 2 := fun z_ => (show ¬ nI (tok (g 6) L e) = nI 2 from c_1) ((nI_eq (by omega) (by omega)).mpr z_)
    refine x_iconst C d_Ta_takeNumber_16 (v := -1) (by decide) ?_
    have hno : ¬ nOk (g 6) L m e = true := fun z_ => by have z2_ := nOk_i.mp z_; first | exact absurd z2_.1 (by with_reducible assumption) | exact absurd z2_.2 (by with_reducible assumption)
    exact x_iret C (by rw [if_neg hno]) (by rw [if_neg hno, ← h5, va_id]) d_Ta_takeNumber_17
  · have mc_1 : (tok (g 6) L e) = 2 := (nI_eq (by omega) (by omega)).mp (show nI (tok (g 6) L e) = nI 2 from c_1)
    refine x_aload_n C d_Ta_takeNumber_8 0 rfl rfl ?_
    refine gf_Ta_number C (v := nI (tnm (g 6) L e)) (congrFun h5 5) k_128 d_Ta_takeNumber_9 ?_
    refine x_iload_n C d_Ta_takeNumber_12 1 rfl rfl ?_
    refine x_icmp_le C d_Ta_takeNumber_13 18 (by decide) (fun c_2 => ?_) (fun c_2 => ?_)
    · have nc_2 := Int32.not_lt.mpr c_2
      have mc_2 : (tnm (g 6) L e) ≤ m := (nI_leI (by omega) (by omega)).mp (show nI (tnm (g 6) L e) ≤ nI m from c_2)
      refine x_aload_n C d_Ta_takeNumber_18 0 rfl rfl ?_
      refine gf_Ta_number C (v := nI (tnm (g 6) L e)) (congrFun h5 5) k_128 d_Ta_takeNumber_19 ?_
      refine x_istore_n C d_Ta_takeNumber_22 rfl (by decide) (lv' := [(2, .int (nI (tnm (g 6) L e))), (0, .ref (Z.2.1 (2))), (1, .int (nI m))]) rfl ?_
      refine x_aload_n C d_Ta_takeNumber_23 1 rfl rfl ?_
      refine x_callVv C (c_Ta_advance Z (g 6) L (tnd (g 6) L e) hL hdl (g) rfl ((congrFun h5 0).trans h0) (congrFun h5 4)) mi_Ta_advance k_578 (show 2 < 50 by omega) (e_Ta Z _) rfl (As := []) ⟨Nat.le_of_ble_eq_true rfl, Nat.le_of_ble_eq_true rfl⟩ rfl rfl (Nat.le_of_ble_eq_true rfl) d_Ta_takeNumber_24 ?_
      refine x_iload_n C d_Ta_takeNumber_27 0 rfl rfl ?_
      have hys : nOk (g 6) L m e = true := nOk_i.mpr ⟨by with_reducible assumption, by with_reducible assumption⟩
      exact x_iret C (by rw [if_pos hys]) (by rw [if_pos hys, h5, lexR_r]) d_Ta_takeNumber_28
    · have nc_2 := Int32.not_le.mp c_2
      have mc_2 : ¬ (tnm (g 6) L e) ≤ m := fun z_ => (show ¬ nI (tnm (g 6) L e) ≤ nI m from c_2) ((nI_leI (by omega) (by omega)).mpr z_)
      refine x_iconst C d_Ta_takeNumber_16 (v := -1) (by decide) ?_
      have hno : ¬ nOk (g 6) L m e = true := fun z_ => by have z2_ := nOk_i.mp z_; first | exact absurd z2_.1 (by with_reducible assumption) | exact absurd z2_.2 (by with_reducible assumption)
      exact x_iret C (by rw [if_neg hno]) (by rw [if_neg hno, ← h5, va_id]) d_Ta_takeNumber_17

theorem c_Ta_takeNumber_t (Z : ZT) (b r : Nat → Int32) (L e : Nat) (hL : L ≤ 120) (he : e ≤ L) (m : Nat) (hm : m ≤ 10000) (g : St)  (h6 : g 6 = b) (h5 : g 5 = lexR b r L e) (h0 : r 0 = nI L) (hw : nOk b L m e = true) : CT yC Z y_Ta_takeNumber b_Ta_takeNumber 3 (some (.int)) 2 42 [.ref (Z.2.1 (2)), .int (nI m)] (g) (QcI yC Z (nI (tnm b L e)) (va_up g 5 (lexR b r L (tnd b L e)))) := by
  have h := c_Ta_takeNumber Z b r L e hL he m hm g h6 h5 h0
  rw [if_pos hw, if_pos hw] at h
  exact h
theorem c_Ta_takeNumber_f (Z : ZT) (b r : Nat → Int32) (L e : Nat) (hL : L ≤ 120) (he : e ≤ L) (m : Nat) (hm : m ≤ 10000) (g : St)  (h6 : g 6 = b) (h5 : g 5 = lexR b r L e) (h0 : r 0 = nI L) (hw : ¬ nOk b L m e = true) : CT yC Z y_Ta_takeNumber b_Ta_takeNumber 3 (some (.int)) 2 42 [.ref (Z.2.1 (2)), .int (nI m)] (g) (QcI yC Z (-1) g) := by
  have h := c_Ta_takeNumber Z b r L e hL he m hm g h6 h5 h0
  rw [if_neg hw, if_neg hw, ← h5, va_id] at h
  exact h

set_option maxRecDepth 100000 in
set_option maxHeartbeats 600000 in
theorem c_Ta_takeSemicolon (Z : ZT) (b r : Nat → Int32) (L e : Nat) (hL : L ≤ 120) (he : e ≤ L) (g : St)  (h6 : g 6 = b) (h5 : g 5 = lexR b r L e) (h0 : r 0 = nI L) : CT yC Z y_Ta_takeSemicolon b_Ta_takeSemicolon 1 (some (.boolean)) 2 42 [.ref (Z.2.1 (2))] (g) (QcI yC Z (bI (tok b L e = 3)) (va_up g 5 (lexR b r L (if tok b L e = 3 then tnd b L e else e)))) := by
  refine CT.mk "TunnelPeace$Tape" (by decide) rfl (Nat.le_of_ble_eq_true rfl) (fun X C => ?_)
  refine x_lv [0] (lv' := [(0, .ref (Z.2.1 (2)))]) rfl ?_
  subst h6
  have hj := skp_ge (b := g 6) (L := L) (e := e)
  have hjl := skp_le (b := g 6) he
  have hdg := tnd_ge (b := g 6) (L := L) (e := e)
  have hdl := tnd_le (b := g 6) he
  have ht4 := tok_4 (b := g 6) (L := L) (e := e)
  have hm4 := tnm_le (b := g 6) (L := L) (e := e)
  refine x_aload_n C d_Ta_takeSemicolon_0 0 rfl rfl ?_
  refine gf_Ta_token C (v := nI (tok (g 6) L e)) (congrFun h5 2) k_125 d_Ta_takeSemicolon_1 ?_
  refine x_iconst C d_Ta_takeSemicolon_4 (v := 3) (by decide) ?_
  refine x_icmp_eq C d_Ta_takeSemicolon_5 10 (by decide) (fun c_1 => ?_) (fun c_1 => ?_)
  · have mc_1 : (tok (g 6) L e) = 3 := (nI_eq (by omega) (by omega)).mp (show nI (tok (g 6) L e) = nI 3 from c_1)
    refine x_aload_n C d_Ta_takeSemicolon_10 0 rfl rfl ?_
    refine x_callVv C (c_Ta_advance Z (g 6) L (tnd (g 6) L e) hL hdl (g) rfl ((congrFun h5 0).trans h0) (congrFun h5 4)) mi_Ta_advance k_578 (show 2 < 50 by omega) (e_Ta Z _) rfl (As := []) ⟨Nat.le_of_ble_eq_true rfl, Nat.le_of_ble_eq_true rfl⟩ rfl rfl (Nat.le_of_ble_eq_true rfl) d_Ta_takeSemicolon_11 ?_
    refine x_iconst C d_Ta_takeSemicolon_14 (v := 1) (by decide) ?_
    exact x_zret C (by decide) (bI_t (by with_reducible assumption)).symm (by rw [if_pos (by with_reducible assumption), h5, lexR_r]) d_Ta_takeSemicolon_15
  · have nc_1 := Ne.symm c_1
    have mc_1 : ¬ (tok (g 6) L e) = 3 := fun z_ => (show ¬ nI (tok (g 6) L e) = nI 3 from c_1) ((nI_eq (by omega) (by omega)).mpr z_)
    refine x_iconst C d_Ta_takeSemicolon_8 (v := 0) (by decide) ?_
    exact x_zret C (by decide) (bI_f (by with_reducible assumption)).symm (by rw [if_neg (by with_reducible assumption), ← h5, va_id]) d_Ta_takeSemicolon_9

theorem c_Ta_takeSemicolon_t (Z : ZT) (b r : Nat → Int32) (L e : Nat) (hL : L ≤ 120) (he : e ≤ L) (g : St)  (h6 : g 6 = b) (h5 : g 5 = lexR b r L e) (h0 : r 0 = nI L) (hw : tok b L e = 3) : CT yC Z y_Ta_takeSemicolon b_Ta_takeSemicolon 1 (some (.boolean)) 2 42 [.ref (Z.2.1 (2))] (g) (QcI yC Z 1 (va_up g 5 (lexR b r L (tnd b L e)))) := by
  have h := c_Ta_takeSemicolon Z b r L e hL he g h6 h5 h0
  rw [bI_t hw, if_pos hw] at h
  exact h
theorem c_Ta_takeSemicolon_f (Z : ZT) (b r : Nat → Int32) (L e : Nat) (hL : L ≤ 120) (he : e ≤ L) (g : St)  (h6 : g 6 = b) (h5 : g 5 = lexR b r L e) (h0 : r 0 = nI L) (hw : ¬ tok b L e = 3) : CT yC Z y_Ta_takeSemicolon b_Ta_takeSemicolon 1 (some (.boolean)) 2 42 [.ref (Z.2.1 (2))] (g) (QcI yC Z 0 g) := by
  have h := c_Ta_takeSemicolon Z b r L e hL he g h6 h5 h0
  rw [bI_f hw, if_neg hw, ← h5, va_id] at h
  exact h

set_option maxRecDepth 100000 in
set_option maxHeartbeats 600000 in
theorem c_Ta_kindWord (Z : ZT) (k : Nat) (hk : k < 7) (g : St)  : CT yC Z y_Ta_kindWord b_Ta_kindWord 1 (some (.object "java/lang/String")) 0 0 [.int (nI k)] (g) (QcR yC Z (Z.2.2.2.2.1 (mTx k)) (g)) := by
  refine CT.mk "TunnelPeace$Tape" (by decide) rfl (Nat.le_of_ble_eq_true rfl) (fun X C => ?_)
  refine x_lv [0] (lv' := [(0, .int (nI k))]) rfl ?_
  rcases (show k = 0 ∨ k = 1 ∨ k = 2 ∨ k = 3 ∨ k = 4 ∨ k = 5 ∨ k = 6 by omega) with rfl | rfl | rfl | rfl | rfl | rfl | rfl
  · refine x_iload_n C d_Ta_kindWord_0 0 rfl rfl ?_
    refine x_tabOut C d_Ta_kindWord_1 (by decide) 58 (by decide) ?_
    refine x_ldcS C d_Ta_kindWord_58 8 rfl ?_
    exact x_aret C rfl rfl d_Ta_kindWord_60
  · refine x_iload_n C d_Ta_kindWord_0 0 rfl rfl ?_
    refine x_tabAt C d_Ta_kindWord_1 (v := 1) (by decide) (by decide) (by decide) (off := 39) (by decide) 40 (by decide) ?_
    refine x_ldcS C d_Ta_kindWord_40 2 rfl ?_
    exact x_aret C rfl rfl d_Ta_kindWord_42
  · refine x_iload_n C d_Ta_kindWord_0 0 rfl rfl ?_
    refine x_tabAt C d_Ta_kindWord_1 (v := 2) (by decide) (by decide) (by decide) (off := 42) (by decide) 43 (by decide) ?_
    refine x_ldcS C d_Ta_kindWord_43 3 rfl ?_
    exact x_aret C rfl rfl d_Ta_kindWord_45
  · refine x_iload_n C d_Ta_kindWord_0 0 rfl rfl ?_
    refine x_tabAt C d_Ta_kindWord_1 (v := 3) (by decide) (by decide) (by decide) (off := 45) (by decide) 46 (by decide) ?_
    refine x_ldcS C d_Ta_kindWord_46 4 rfl ?_
    exact x_aret C rfl rfl d_Ta_kindWord_48
  · refine x_iload_n C d_Ta_kindWord_0 0 rfl rfl ?_
    refine x_tabAt C d_Ta_kindWord_1 (v := 4) (by decide) (by decide) (by decide) (off := 48) (by decide) 49 (by decide) ?_
    refine x_ldcS C d_Ta_kindWord_49 5 rfl ?_
    exact x_aret C rfl rfl d_Ta_kindWord_51
  · refine x_iload_n C d_Ta_kindWord_0 0 rfl rfl ?_
    refine x_tabAt C d_Ta_kindWord_1 (v := 5) (by decide) (by decide) (by decide) (off := 51) (by decide) 52 (by decide) ?_
    refine x_ldcS C d_Ta_kindWord_52 6 rfl ?_
    exact x_aret C rfl rfl d_Ta_kindWord_54
  · refine x_iload_n C d_Ta_kindWord_0 0 rfl rfl ?_
    refine x_tabAt C d_Ta_kindWord_1 (v := 6) (by decide) (by decide) (by decide) (off := 54) (by decide) 55 (by decide) ?_
    refine x_ldcS C d_Ta_kindWord_55 7 rfl ?_
    exact x_aret C rfl rfl d_Ta_kindWord_57

set_option maxRecDepth 100000 in
set_option maxHeartbeats 600000 in
theorem c_Ta_takeKind (Z : ZT) (b r : Nat → Int32) (L e : Nat) (hL : L ≤ 120) (he : e ≤ L) (g : St)  (h6 : g 6 = b) (h5 : g 5 = lexR b r L e) (h0 : r 0 = nI L) : CT yC Z y_Ta_takeKind b_Ta_takeKind 2 (some (.int)) 5 107 [.ref (Z.2.1 (2))] (g) (QcI yC Z (if kd b L e = 7 then (-1) else nI (kd b L e)) (va_up g 5 (lexR b r L (if kd b L e = 7 then e else tnd b L e)))) := by
  refine CT.mk "TunnelPeace$Tape" (by decide) rfl (Nat.le_of_ble_eq_true rfl) (fun X C => ?_)
  refine x_lv [0] (lv' := [(0, .ref (Z.2.1 (2)))]) rfl ?_
  subst h6
  have hj := skp_ge (b := g 6) (L := L) (e := e)
  have hjl := skp_le (b := g 6) he
  have hdg := tnd_ge (b := g 6) (L := L) (e := e)
  have hdl := tnd_le (b := g 6) he
  have ht4 := tok_4 (b := g 6) (L := L) (e := e)
  have hm4 := tnm_le (b := g 6) (L := L) (e := e)
  refine x_iconst C d_Ta_takeKind_0 (v := 0) (by decide) ?_
  refine x_topi (show (0 : Int32) = nI 0 by decide) ?_
  refine x_istore_n C d_Ta_takeKind_1 rfl (by decide) (lv' := [(1, .int (nI 0)), (0, .ref (Z.2.1 (2)))]) rfl ?_
  have LP_2 : ∀ (f_ k : Nat), k ≤ 7 → 7 - k < f_ → (kdF (g 6) L e (7 - k) = kd (g 6) L e) → WX X 2 yC Z (QX X yC Z (QcI yC Z (if kd (g 6) L e = 7 then (-1) else nI (kd (g 6) L e)) (va_up g 5 (lexR (g 6) r L (if kd (g 6) L e = 7 then e else tnd (g 6) L e))))) (g) 2 [(1, .int (nI k)), (0, .ref (Z.2.1 (2)))] [] := by
    intro f_
    induction f_ with
    | zero => intro k h1_ h2_ _; exact absurd h2_ (Nat.not_lt_zero _)
    | succ f_ ih_2 =>
      intro k hi_2 hf_2 hy_2
      refine x_iload_n C d_Ta_takeKind_2 0 rfl rfl ?_
      refine x_bipush C d_Ta_takeKind_3 (v := 6) (by decide) ?_
      refine x_icmp_gt C d_Ta_takeKind_5 27 (by decide) (fun c_1 => ?_) (fun c_1 => ?_)
      · have nc_1 := Int32.not_le.mpr c_1
        have mc_1 : 6 < k := (nI_ltI (by omega) (by omega)).mp (show nI 6 < nI k from c_1)
        have hk7 : kd (g 6) L e = 7 := by rw [← hy_2, show 7 - k = 0 by omega]; rfl
        refine x_iconst C d_Ta_takeKind_27 (v := -1) (by decide) ?_
        exact x_iret C (by rw [if_pos hk7]) (by rw [if_pos hk7, ← h5, va_id]) d_Ta_takeKind_28
      · have nc_1 := Int32.not_lt.mp c_1
        have mc_1 : ¬ 6 < k := fun z_ => (show ¬ nI 6 < nI k from c_1) ((nI_ltI (by omega) (by omega)).mpr z_)
        refine x_aload_n C d_Ta_takeKind_8 1 rfl rfl ?_
        refine x_iload_n C d_Ta_takeKind_9 0 rfl rfl ?_
        refine x_callSr C (c_Ta_kindWord Z k (by omega) (g)) mi_Ta_kindWord k_661 (As := [.int (nI k)]) ⟨Nat.le_of_ble_eq_true rfl, Nat.le_of_ble_eq_true rfl⟩ rfl rfl (Nat.le_of_ble_eq_true rfl) d_Ta_takeKind_10 ?_
        by_cases c_2 : isW (g 6) L (mTx k) e = true
        · skip
          refine x_callVi C (c_Ta_takeWord_t Z (g 6) r L e hL he (mTx k) (mTx_lt _ (by omega)) (g) rfl h5 h0 (by with_reducible assumption)) mi_Ta_takeWord k_587 (show 2 < 50 by omega) (e_Ta Z _) rfl (As := [.ref (Z.2.2.2.2.1 (mTx k))]) ⟨Nat.le_of_ble_eq_true rfl, Nat.le_of_ble_eq_true rfl⟩ rfl rfl (Nat.le_of_ble_eq_true rfl) d_Ta_takeKind_13 ?_
          refine x_ifeq C d_Ta_takeKind_16 21 (by decide) (fun c_3 => ?_) (fun c_3 => ?_)
          · exact absurd c_3 (by decide)
          · refine x_iload_n C d_Ta_takeKind_19 0 rfl rfl ?_
            exact x_iret C (by rw [if_neg (by rw [kd_hit (by omega) hy_2 (by with_reducible assumption)]; omega), kd_hit (by omega) hy_2 (by with_reducible assumption)]) (by rw [if_neg (by rw [kd_hit (by omega) hy_2 (by with_reducible assumption)]; omega)]) d_Ta_takeKind_20
        · skip
          refine x_callVi C (c_Ta_takeWord_f Z (g 6) r L e hL he (mTx k) (mTx_lt _ (by omega)) (g) rfl h5 h0 (by with_reducible assumption)) mi_Ta_takeWord k_587 (show 2 < 50 by omega) (e_Ta Z _) rfl (As := [.ref (Z.2.2.2.2.1 (mTx k))]) ⟨Nat.le_of_ble_eq_true rfl, Nat.le_of_ble_eq_true rfl⟩ rfl rfl (Nat.le_of_ble_eq_true rfl) d_Ta_takeKind_13 ?_
          refine x_ifeq C d_Ta_takeKind_16 21 (by decide) (fun c_4 => ?_) (fun c_4 => ?_)
          · refine x_iinc C d_Ta_takeKind_21 0 rfl (v := nI (k + 1)) (nI_1 _) (by decide) (lv' := [(1, .int (nI (k + 1))), (0, .ref (Z.2.1 (2)))]) rfl ?_
            refine x_goto C d_Ta_takeKind_24 2 (by decide) ?_
            exact ih_2 (k + 1) (by omega) (by omega) (kd_mis (by omega) hy_2 (by with_reducible assumption))
          · exact absurd c_4 (by decide)
  exact LP_2 (7 + 1) 0 (Nat.zero_le _) (by omega) rfl

theorem c_Ta_takeKind_t (Z : ZT) (b r : Nat → Int32) (L e : Nat) (hL : L ≤ 120) (he : e ≤ L) (g : St)  (h6 : g 6 = b) (h5 : g 5 = lexR b r L e) (h0 : r 0 = nI L) (hw : ¬ kd b L e = 7) : CT yC Z y_Ta_takeKind b_Ta_takeKind 2 (some (.int)) 5 107 [.ref (Z.2.1 (2))] (g) (QcI yC Z (nI (kd b L e)) (va_up g 5 (lexR b r L (tnd b L e)))) := by
  have h := c_Ta_takeKind Z b r L e hL he g h6 h5 h0
  rw [if_neg hw, if_neg hw] at h
  exact h
theorem c_Ta_takeKind_f (Z : ZT) (b r : Nat → Int32) (L e : Nat) (hL : L ≤ 120) (he : e ≤ L) (g : St)  (h6 : g 6 = b) (h5 : g 5 = lexR b r L e) (h0 : r 0 = nI L) (hw : kd b L e = 7) : CT yC Z y_Ta_takeKind b_Ta_takeKind 2 (some (.int)) 5 107 [.ref (Z.2.1 (2))] (g) (QcI yC Z (-1) g) := by
  have h := c_Ta_takeKind Z b r L e hL he g h6 h5 h0
  rw [if_pos hw, if_pos hw, ← h5, va_id] at h
  exact h
