set_option maxRecDepth 100000 in
set_option maxHeartbeats 600000 in
theorem c_Mo_byteAt (Z : ZT) (L k : Nat) (hL : L ≤ 120) (hk : k ≤ L) (g : St)  (h0 : g 3 6 = nI L) : CT yM Z y_Mo_byteAt b_Mo_byteAt 2 (some (.int)) 0 0 [.ref (Z.2.1 (0)), .int (nI k)] (g) (QcI yM Z (bAt (g 5) L k) (g)) := by
  refine CT.mk "TunnelPeaceModel" (by decide) rfl (Nat.le_of_ble_eq_true rfl) (fun X C => ?_)
  refine x_lv [0, 1] (lv' := [(0, .ref (Z.2.1 (0))), (1, .int (nI k))]) rfl ?_
  refine x_iload_n C d_Mo_byteAt_0 1 rfl rfl ?_
  refine x_aload_n C d_Mo_byteAt_1 0 rfl rfl ?_
  refine gf_Mo_taped C (v := nI L) h0 k_797 d_Mo_byteAt_2 ?_
  refine x_icmp_ge C d_Mo_byteAt_5 17 (by decide) (fun c_1 => ?_) (fun c_1 => ?_)
  · have nc_1 := Int32.not_lt.mpr c_1
    have mc_1 : L ≤ k := (nI_leI (by omega) (by omega)).mp (show nI L ≤ nI k from c_1)
    refine x_iconst C d_Mo_byteAt_17 (v := -1) (by decide) ?_
    exact x_iret C (by unfold bAt; first | rw [if_pos (by omega)] | rw [if_neg (by omega)]) rfl d_Mo_byteAt_18
  · have nc_1 := Int32.not_le.mp c_1
    have mc_1 : ¬ L ≤ k := fun z_ => (show ¬ nI L ≤ nI k from c_1) ((nI_leI (by omega) (by omega)).mpr z_)
    refine x_aload_n C d_Mo_byteAt_8 0 rfl rfl ?_
    refine gf_Mo_tape C k_796 d_Mo_byteAt_9 ?_
    refine x_iload_n C d_Mo_byteAt_12 1 rfl rfl ?_
    refine al_m_tape C k (v := g 5 k) rfl (by first | omega | (simp only [pI]; omega)) rfl d_Mo_byteAt_13 ?_
    refine x_goto C d_Mo_byteAt_14 18 (by decide) ?_
    exact x_iret C (by unfold bAt; first | rw [if_pos (by omega)] | rw [if_neg (by omega)]) rfl d_Mo_byteAt_18

theorem c_Mo_byteAtR (Z : ZT) (b : Nat → Int32) (L k : Nat) (hL : L ≤ 120) (hk : k ≤ L) (g : St) (h5 : g 5 = b) (h0 : g 3 6 = nI L) : CT yM Z y_Mo_byteAt b_Mo_byteAt 2 (some (.int)) 0 0 [.ref (Z.2.1 (0)), .int (nI k)] (g) (QcI yM Z (bAt b L k) g) := by
  subst h5
  exact c_Mo_byteAt Z L k hL hk g h0

set_option maxRecDepth 100000 in
set_option maxHeartbeats 600000 in
theorem c_Mo_token (Z : ZT) (b r : Nat → Int32) (L e : Nat) (hL : L ≤ 120) (he : e ≤ L) (x1 x3 x4 w c n : Int32) (g : St)  (h5 : g 5 = b) (h3 : g 3 = mrw r x1 (nI e) x3 x4 w c n) (hr : r 6 = nI L) (hB : ∀ k, k < L → ¬ b k < 0) : CT yM Z y_Mo_token b_Mo_token 2 none 1 22 [.ref (Z.2.1 (0))] (g) (QcV yM Z (va_up g 3 (lxS b r L e w c n))) := by
  refine CT.mk "TunnelPeaceModel" (by decide) rfl (Nat.le_of_ble_eq_true rfl) (fun X C => ?_)
  refine x_lv [0] (lv' := [(0, .ref (Z.2.1 (0)))]) rfl ?_
  subst h5
  have hj := skp_ge (b := g 5) (L := L) (e := e)
  have hjl := skp_le (b := g 5) he
  refine x_eqg (g' := va_up g 3 (mrw r x1 (nI e) x3 x4 w c n)) (by rw [← h3, va_id]) ?_
  refine x_aload_n C d_Mo_token_0 0 rfl rfl ?_
  refine x_aload_n C d_Mo_token_1 0 rfl rfl ?_
  refine gf_Mo_ends C (v := nI e) (Eq.trans (congrFun (va_up_self _ _ _) _) rfl) k_799 d_Mo_token_2 ?_
  have J_34 : WX X 2 yM Z (QX X yM Z (QcV yM Z (va_up g 3 (lxS (g 5) r L e w c n)))) (va_up g 3 (mrw r (nI (skp (g 5) L e)) (nI e) x3 x4 w c n)) 34 [(0, .ref (Z.2.1 (0)))] [] := by
    refine x_aload_n C d_Mo_token_34 0 rfl rfl ?_
    refine x_aload_n C d_Mo_token_35 0 rfl rfl ?_
    refine gf_Mo_begins C (v := nI (skp (g 5) L e)) (Eq.trans (congrFun (va_up_self _ _ _) _) rfl) k_798 d_Mo_token_36 ?_
    refine x_callVi C (c_Mo_byteAtR Z (g 5) L (skp (g 5) L e) hL (by omega) (va_up g 3 (mrw r (nI (skp (g 5) L e)) (nI e) x3 x4 w c n)) (va_up_ne _ _ (by omega)) (by rw [(va_up_self _ _ _)]; exact hr)) mi_Mo_byteAt k_1156 (show 0 < 12 by omega) (m_0 Z _) rfl (As := [.int (nI (skp (g 5) L e))]) ⟨Nat.le_of_ble_eq_true rfl, Nat.le_of_ble_eq_true rfl⟩ rfl rfl (Nat.le_of_ble_eq_true rfl) d_Mo_token_39 ?_
    refine x_istore_n C d_Mo_token_42 rfl (by decide) (lv' := [(1, .int (bAt (g 5) L (skp (g 5) L e))), (0, .ref (Z.2.1 (0)))]) rfl ?_
    refine x_aload_n C d_Mo_token_43 1 rfl rfl ?_
    refine x_aload_n C d_Mo_token_44 1 rfl rfl ?_
    refine gf_Mo_begins C (v := nI (skp (g 5) L e)) (Eq.trans (congrFun (va_up_self _ _ _) _) rfl) k_798 d_Mo_token_45 ?_
    refine pf_Mo_ends C (v := nI (skp (g 5) L e)) (G := va_up g 3 (mrw r (nI (skp (g 5) L e)) (nI (skp (g 5) L e)) x3 x4 w c n)) (Eq.trans up_va (congrArg (va_up _ _) mrw_8)) k_799 d_Mo_token_48 ?_
    refine x_aload_n C d_Mo_token_51 1 rfl rfl ?_
    refine x_iconst C d_Mo_token_52 (v := 0) (by decide) ?_
    refine pf_Mo_value C (v := 0) (G := va_up g 3 (mrw r (nI (skp (g 5) L e)) (nI (skp (g 5) L e)) x3 0 w c n)) (Eq.trans up_va (congrArg (va_up _ _) mrw_10)) k_801 d_Mo_token_53 ?_
    refine x_iload_n C d_Mo_token_56 0 rfl rfl ?_
    refine x_ifge C d_Mo_token_57 68 (by decide) (fun c_1 => ?_) (fun c_1 => ?_)
    · have nc_1 := Int32.not_lt.mpr c_1
      refine x_iload_n C d_Mo_token_68 0 rfl rfl ?_
      refine x_bipush C d_Mo_token_69 (v := 97) (by decide) ?_
      refine x_bipush C d_Mo_token_71 (v := 122) (by decide) ?_
      refine x_callSi C (c_Mo_within Z (bAt (g 5) L (skp (g 5) L e)) 97 122 (va_up g 3 (mrw r (nI (skp (g 5) L e)) (nI (skp (g 5) L e)) x3 0 w c n))) mi_Mo_within k_859 (As := [.int (bAt (g 5) L (skp (g 5) L e)), .int (97), .int (122)]) ⟨Nat.le_of_ble_eq_true rfl, Nat.le_of_ble_eq_true rfl⟩ rfl rfl (Nat.le_of_ble_eq_true rfl) d_Mo_token_73 ?_
      refine x_ifeqB C d_Mo_token_76 115 (by decide) (fun c_2 => ?_) (fun c_2 => ?_)
      · refine x_iload_n C d_Mo_token_115 0 rfl rfl ?_
        refine x_bipush C d_Mo_token_116 (v := 48) (by decide) ?_
        refine x_bipush C d_Mo_token_118 (v := 57) (by decide) ?_
        refine x_callSi C (c_Mo_within Z (bAt (g 5) L (skp (g 5) L e)) 48 57 (va_up g 3 (mrw r (nI (skp (g 5) L e)) (nI (skp (g 5) L e)) x3 0 w c n))) mi_Mo_within k_859 (As := [.int (bAt (g 5) L (skp (g 5) L e)), .int (48), .int (57)]) ⟨Nat.le_of_ble_eq_true rfl, Nat.le_of_ble_eq_true rfl⟩ rfl rfl (Nat.le_of_ble_eq_true rfl) d_Mo_token_120 ?_
        refine x_ifeqB C d_Mo_token_123 191 (by decide) (fun c_3 => ?_) (fun c_3 => ?_)
        · refine x_aload_n C d_Mo_token_191 1 rfl rfl ?_
          refine x_iconst C d_Mo_token_192 (v := 3) (by decide) ?_
          refine pf_Mo_sort C (v := 3) (G := va_up g 3 (mrw r (nI (skp (g 5) L e)) (nI (skp (g 5) L e)) 3 0 w c n)) (Eq.trans up_va (congrArg (va_up _ _) mrw_9)) k_800 d_Mo_token_193 ?_
          refine x_aload_n C d_Mo_token_196 1 rfl rfl ?_
          refine x_dup C d_Mo_token_197 rfl ?_
          refine gf_Mo_ends C (v := nI (skp (g 5) L e)) (Eq.trans (congrFun (va_up_self _ _ _) _) rfl) k_799 d_Mo_token_198 ?_
          refine x_iconst C d_Mo_token_201 (v := 1) (by decide) ?_
          refine x_iadd C d_Mo_token_202 ?_
          refine x_topi (x' := nI ((skp (g 5) L e) + 1)) (nI_1 _) ?_
          refine pf_Mo_ends C (v := nI ((skp (g 5) L e) + 1)) (G := va_up g 3 (mrw r (nI (skp (g 5) L e)) (nI ((skp (g 5) L e) + 1)) 3 0 w c n)) (Eq.trans up_va (congrArg (va_up _ _) mrw_8)) k_799 d_Mo_token_203 ?_
          refine x_vret C (congrArg (va_up g 3) ?_) d_Mo_token_206
          have hJ : (skp (g 5) L e) < L := (bAt_neg hB).mp (by with_reducible assumption)
          have e1 : ¬ tok (g 5) L e = 1 := fun z_ => absurd (bAt_1.mpr ⟨hJ, (tok_eq hJ).symm.trans z_⟩) (by with_reducible assumption)
          have e2 : ¬ tok (g 5) L e = 2 := fun z_ => absurd (bAt_2.mpr ⟨hJ, (tok_eq hJ).symm.trans z_⟩) (by with_reducible assumption)
          have e4 := tkN_4 (g 5 (skp (g 5) L e))
          rw [← tok_eq hJ] at e4
          unfold lxS; rw [show tnd (g 5) L e = (skp (g 5) L e) + 1 by unfold tnd; rw [if_neg (by omega), if_neg (by omega)], show tnm (g 5) L e = 0 by unfold tnm; rw [if_neg e2], show min 3 (tok (g 5) L e) = 3 by omega]; try rfl
        · refine x_aload_n C d_Mo_token_126 1 rfl rfl ?_
          refine x_iconst C d_Mo_token_127 (v := 2) (by decide) ?_
          refine pf_Mo_sort C (v := 2) (G := va_up g 3 (mrw r (nI (skp (g 5) L e)) (nI (skp (g 5) L e)) 2 0 w c n)) (Eq.trans up_va (congrArg (va_up _ _) mrw_9)) k_800 d_Mo_token_128 ?_
          have LP_131 : ∀ (f_ i : Nat), i ≤ L - (skp (g 5) L e) → (L - (skp (g 5) L e)) - i < f_ → (ext (g 5) L 2 ((skp (g 5) L e) + i) = ext (g 5) L 2 (skp (g 5) L e) ∧ nmV (g 5) L ((skp (g 5) L e) + i) (nmP (g 5) (skp (g 5) L e) i) = nmV (g 5) L (skp (g 5) L e) 0) → WX X 2 yM Z (QX X yM Z (QcV yM Z (va_up g 3 (lxS (g 5) r L e w c n)))) (va_up g 3 (mrw r (nI (skp (g 5) L e)) (nI ((skp (g 5) L e) + i)) 2 (nI (nmP (g 5) (skp (g 5) L e) i)) w c n)) 131 [(1, .int (bAt (g 5) L (skp (g 5) L e))), (0, .ref (Z.2.1 (0)))] [] := by
            intro f_
            induction f_ with
            | zero => intro i h1_ h2_ _; exact absurd h2_ (Nat.not_lt_zero _)
            | succ f_ ih_131 =>
              intro i hi_131 hf_131 hy_131
              refine x_aload_n C d_Mo_token_131 1 rfl rfl ?_
              refine x_aload_n C d_Mo_token_132 1 rfl rfl ?_
              refine gf_Mo_ends C (v := nI ((skp (g 5) L e) + i)) (Eq.trans (congrFun (va_up_self _ _ _) _) rfl) k_799 d_Mo_token_133 ?_
              refine x_callVi C (c_Mo_byteAtR Z (g 5) L ((skp (g 5) L e) + i) hL (by omega) (va_up g 3 (mrw r (nI (skp (g 5) L e)) (nI ((skp (g 5) L e) + i)) 2 (nI (nmP (g 5) (skp (g 5) L e) i)) w c n)) (va_up_ne _ _ (by omega)) (by rw [(va_up_self _ _ _)]; exact hr)) mi_Mo_byteAt k_1156 (show 0 < 12 by omega) (m_0 Z _) rfl (As := [.int (nI ((skp (g 5) L e) + i))]) ⟨Nat.le_of_ble_eq_true rfl, Nat.le_of_ble_eq_true rfl⟩ rfl rfl (Nat.le_of_ble_eq_true rfl) d_Mo_token_136 ?_
              refine x_bipush C d_Mo_token_139 (v := 48) (by decide) ?_
              refine x_bipush C d_Mo_token_141 (v := 57) (by decide) ?_
              refine x_callSi C (c_Mo_within Z (bAt (g 5) L ((skp (g 5) L e) + i)) 48 57 (va_up g 3 (mrw r (nI (skp (g 5) L e)) (nI ((skp (g 5) L e) + i)) 2 (nI (nmP (g 5) (skp (g 5) L e) i)) w c n))) mi_Mo_within k_859 (As := [.int (bAt (g 5) L ((skp (g 5) L e) + i)), .int (48), .int (57)]) ⟨Nat.le_of_ble_eq_true rfl, Nat.le_of_ble_eq_true rfl⟩ rfl rfl (Nat.le_of_ble_eq_true rfl) d_Mo_token_143 ?_
              refine x_ifeqB C d_Mo_token_146 206 (by decide) (fun c_4 => ?_) (fun c_4 => ?_)
              · refine x_vret C (congrArg (va_up g 3) ?_) d_Mo_token_206
                have hJ : (skp (g 5) L e) < L := (bAt_neg hB).mp (by with_reducible assumption)
                have et : tok (g 5) L e = 2 := (tok_eq hJ).trans (bAt_2.mp (by with_reducible assumption : 48 ≤ bAt (g 5) L (skp (g 5) L e) ∧ bAt (g 5) L (skp (g 5) L e) ≤ 57)).2
                unfold lxS; rw [show tnd (g 5) L e = (skp (g 5) L e) + i by unfold tnd; rw [if_neg (by rw [et]; decide), if_pos (by rw [et]; decide), et, ← hy_131.1, ext_f (fun z_ => absurd (bAt_2.mpr z_) (by with_reducible assumption))], show tnm (g 5) L e = nmP (g 5) (skp (g 5) L e) i by unfold tnm; rw [if_pos et, ← hy_131.2, nmV_f (fun z_ => absurd (bAt_2.mpr z_) (by with_reducible assumption))], et]; try rfl
              · have hlt := (bAt_2.mp (by with_reducible assumption : 48 ≤ bAt (g 5) L ((skp (g 5) L e) + i) ∧ bAt (g 5) L ((skp (g 5) L e) + i) ≤ 57)).1
                refine x_aload_n C d_Mo_token_149 1 rfl rfl ?_
                refine x_sipush C d_Mo_token_150 (v := 10000) (by decide) ?_
                refine x_bipush C d_Mo_token_153 (v := 10) (by decide) ?_
                refine x_aload_n C d_Mo_token_155 1 rfl rfl ?_
                refine gf_Mo_value C (v := nI (nmP (g 5) (skp (g 5) L e) i)) (Eq.trans (congrFun (va_up_self _ _ _) _) rfl) k_801 d_Mo_token_156 ?_
                refine x_imul C d_Mo_token_159 ?_
                refine x_aload_n C d_Mo_token_160 1 rfl rfl ?_
                refine x_aload_n C d_Mo_token_161 1 rfl rfl ?_
                refine gf_Mo_ends C (v := nI ((skp (g 5) L e) + i)) (Eq.trans (congrFun (va_up_self _ _ _) _) rfl) k_799 d_Mo_token_162 ?_
                refine x_callVi C (c_Mo_byteAtR Z (g 5) L ((skp (g 5) L e) + i) hL (by omega) (va_up g 3 (mrw r (nI (skp (g 5) L e)) (nI ((skp (g 5) L e) + i)) 2 (nI (nmP (g 5) (skp (g 5) L e) i)) w c n)) (va_up_ne _ _ (by omega)) (by rw [(va_up_self _ _ _)]; exact hr)) mi_Mo_byteAt k_1156 (show 0 < 12 by omega) (m_0 Z _) rfl (As := [.int (nI ((skp (g 5) L e) + i))]) ⟨Nat.le_of_ble_eq_true rfl, Nat.le_of_ble_eq_true rfl⟩ rfl rfl (Nat.le_of_ble_eq_true rfl) d_Mo_token_165 ?_
                refine x_iadd C d_Mo_token_168 ?_
                refine x_bipush C d_Mo_token_169 (v := 48) (by decide) ?_
                refine x_isub C d_Mo_token_171 ?_
                refine x_mn C k_977 (Nat.le_of_ble_eq_true rfl) (Nat.le_of_ble_eq_true rfl) d_Mo_token_172 ?_
                refine x_topi (x' := nI (nmP (g 5) (skp (g 5) L e) (i + 1))) (num_sM (bAt_2.mp (by with_reducible assumption))) ?_
                refine pf_Mo_value C (v := nI (nmP (g 5) (skp (g 5) L e) (i + 1))) (G := va_up g 3 (mrw r (nI (skp (g 5) L e)) (nI ((skp (g 5) L e) + i)) 2 (nI (nmP (g 5) (skp (g 5) L e) (i + 1))) w c n)) (Eq.trans up_va (congrArg (va_up _ _) mrw_10)) k_801 d_Mo_token_175 ?_
                refine x_aload_n C d_Mo_token_178 1 rfl rfl ?_
                refine x_dup C d_Mo_token_179 rfl ?_
                refine gf_Mo_ends C (v := nI ((skp (g 5) L e) + i)) (Eq.trans (congrFun (va_up_self _ _ _) _) rfl) k_799 d_Mo_token_180 ?_
                refine x_iconst C d_Mo_token_183 (v := 1) (by decide) ?_
                refine x_iadd C d_Mo_token_184 ?_
                refine x_topi (x' := nI ((skp (g 5) L e) + i + 1)) (nI_1 _) ?_
                refine pf_Mo_ends C (v := nI ((skp (g 5) L e) + i + 1)) (G := va_up g 3 (mrw r (nI (skp (g 5) L e)) (nI ((skp (g 5) L e) + i + 1)) 2 (nI (nmP (g 5) (skp (g 5) L e) (i + 1))) w c n)) (Eq.trans up_va (congrArg (va_up _ _) mrw_8)) k_799 d_Mo_token_185 ?_
                refine x_goto C d_Mo_token_188 131 (by decide) ?_
                exact ih_131 (i + 1) (by omega) (by omega) ⟨(ext_t (e := (skp (g 5) L e) + i) (bAt_2.mp (by with_reducible assumption)).1 (bAt_2.mp (by with_reducible assumption)).2).symm.trans hy_131.1, (nmV_t (e := (skp (g 5) L e) + i) (bAt_2.mp (by with_reducible assumption)).1 (bAt_2.mp (by with_reducible assumption)).2).symm.trans hy_131.2⟩
          refine x_eqg (g' := va_up g 3 (mrw r (nI (skp (g 5) L e)) (nI ((skp (g 5) L e) + 0)) 2 (nI (nmP (g 5) (skp (g 5) L e) 0)) w c n)) rfl ?_
          exact LP_131 (L - (skp (g 5) L e) + 1) 0 (Nat.zero_le _) (by omega) ⟨rfl, rfl⟩
      · refine x_aload_n C d_Mo_token_79 1 rfl rfl ?_
        refine x_iconst C d_Mo_token_80 (v := 1) (by decide) ?_
        refine pf_Mo_sort C (v := 1) (G := va_up g 3 (mrw r (nI (skp (g 5) L e)) (nI (skp (g 5) L e)) 1 0 w c n)) (Eq.trans up_va (congrArg (va_up _ _) mrw_9)) k_800 d_Mo_token_81 ?_
        have LP_84 : ∀ (f_ i : Nat), i ≤ L - (skp (g 5) L e) → (L - (skp (g 5) L e)) - i < f_ → (ext (g 5) L 1 ((skp (g 5) L e) + i) = ext (g 5) L 1 (skp (g 5) L e)) → WX X 2 yM Z (QX X yM Z (QcV yM Z (va_up g 3 (lxS (g 5) r L e w c n)))) (va_up g 3 (mrw r (nI (skp (g 5) L e)) (nI ((skp (g 5) L e) + i)) 1 0 w c n)) 84 [(1, .int (bAt (g 5) L (skp (g 5) L e))), (0, .ref (Z.2.1 (0)))] [] := by
          intro f_
          induction f_ with
          | zero => intro i h1_ h2_ _; exact absurd h2_ (Nat.not_lt_zero _)
          | succ f_ ih_84 =>
            intro i hi_84 hf_84 hy_84
            refine x_aload_n C d_Mo_token_84 1 rfl rfl ?_
            refine x_aload_n C d_Mo_token_85 1 rfl rfl ?_
            refine gf_Mo_ends C (v := nI ((skp (g 5) L e) + i)) (Eq.trans (congrFun (va_up_self _ _ _) _) rfl) k_799 d_Mo_token_86 ?_
            refine x_callVi C (c_Mo_byteAtR Z (g 5) L ((skp (g 5) L e) + i) hL (by omega) (va_up g 3 (mrw r (nI (skp (g 5) L e)) (nI ((skp (g 5) L e) + i)) 1 0 w c n)) (va_up_ne _ _ (by omega)) (by rw [(va_up_self _ _ _)]; exact hr)) mi_Mo_byteAt k_1156 (show 0 < 12 by omega) (m_0 Z _) rfl (As := [.int (nI ((skp (g 5) L e) + i))]) ⟨Nat.le_of_ble_eq_true rfl, Nat.le_of_ble_eq_true rfl⟩ rfl rfl (Nat.le_of_ble_eq_true rfl) d_Mo_token_89 ?_
            refine x_bipush C d_Mo_token_92 (v := 97) (by decide) ?_
            refine x_bipush C d_Mo_token_94 (v := 122) (by decide) ?_
            refine x_callSi C (c_Mo_within Z (bAt (g 5) L ((skp (g 5) L e) + i)) 97 122 (va_up g 3 (mrw r (nI (skp (g 5) L e)) (nI ((skp (g 5) L e) + i)) 1 0 w c n))) mi_Mo_within k_859 (As := [.int (bAt (g 5) L ((skp (g 5) L e) + i)), .int (97), .int (122)]) ⟨Nat.le_of_ble_eq_true rfl, Nat.le_of_ble_eq_true rfl⟩ rfl rfl (Nat.le_of_ble_eq_true rfl) d_Mo_token_96 ?_
            refine x_ifeqB C d_Mo_token_99 206 (by decide) (fun c_5 => ?_) (fun c_5 => ?_)
            · refine x_vret C (congrArg (va_up g 3) ?_) d_Mo_token_206
              have hJ : (skp (g 5) L e) < L := (bAt_neg hB).mp (by with_reducible assumption)
              have et : tok (g 5) L e = 1 := (tok_eq hJ).trans (bAt_1.mp (by with_reducible assumption : 97 ≤ bAt (g 5) L (skp (g 5) L e) ∧ bAt (g 5) L (skp (g 5) L e) ≤ 122)).2
              unfold lxS; rw [show tnd (g 5) L e = (skp (g 5) L e) + i by unfold tnd; rw [if_neg (by rw [et]; decide), if_pos (by rw [et]; decide), et, ← hy_84, ext_f (fun z_ => absurd (bAt_1.mpr z_) (by with_reducible assumption))], show tnm (g 5) L e = 0 by unfold tnm; rw [if_neg (by rw [et]; decide)], et]; try rfl
            · have hlt := (bAt_1.mp (by with_reducible assumption : 97 ≤ bAt (g 5) L ((skp (g 5) L e) + i) ∧ bAt (g 5) L ((skp (g 5) L e) + i) ≤ 122)).1
              refine x_aload_n C d_Mo_token_102 1 rfl rfl ?_
              refine x_dup C d_Mo_token_103 rfl ?_
              refine gf_Mo_ends C (v := nI ((skp (g 5) L e) + i)) (Eq.trans (congrFun (va_up_self _ _ _) _) rfl) k_799 d_Mo_token_104 ?_
              refine x_iconst C d_Mo_token_107 (v := 1) (by decide) ?_
              refine x_iadd C d_Mo_token_108 ?_
              refine x_topi (x' := nI ((skp (g 5) L e) + i + 1)) (nI_1 _) ?_
              refine pf_Mo_ends C (v := nI ((skp (g 5) L e) + i + 1)) (G := va_up g 3 (mrw r (nI (skp (g 5) L e)) (nI ((skp (g 5) L e) + i + 1)) 1 0 w c n)) (Eq.trans up_va (congrArg (va_up _ _) mrw_8)) k_799 d_Mo_token_109 ?_
              refine x_goto C d_Mo_token_112 84 (by decide) ?_
              exact ih_84 (i + 1) (by omega) (by omega) ((ext_t (e := (skp (g 5) L e) + i) (bAt_1.mp (by with_reducible assumption)).1 (bAt_1.mp (by with_reducible assumption)).2).symm.trans hy_84)
        refine x_eqg (g' := va_up g 3 (mrw r (nI (skp (g 5) L e)) (nI ((skp (g 5) L e) + 0)) 1 0 w c n)) rfl ?_
        exact LP_84 (L - (skp (g 5) L e) + 1) 0 (Nat.zero_le _) (by omega) rfl
    · have nc_1 := Int32.not_le.mp c_1
      refine x_aload_n C d_Mo_token_60 1 rfl rfl ?_
      refine x_iconst C d_Mo_token_61 (v := 0) (by decide) ?_
      refine pf_Mo_sort C (v := 0) (G := va_up g 3 (mrw r (nI (skp (g 5) L e)) (nI (skp (g 5) L e)) 0 0 w c n)) (Eq.trans up_va (congrArg (va_up _ _) mrw_9)) k_800 d_Mo_token_62 ?_
      refine x_goto C d_Mo_token_65 206 (by decide) ?_
      refine x_vret C (congrArg (va_up g 3) ?_) d_Mo_token_206
      have hJ : ¬ (skp (g 5) L e) < L := fun z_ => absurd ((bAt_neg hB).mpr z_) (by with_reducible assumption)
      have et : tok (g 5) L e = 0 := if_neg hJ
      unfold lxS; rw [show tnd (g 5) L e = (skp (g 5) L e) by unfold tnd; rw [if_pos et], show tnm (g 5) L e = 0 by unfold tnm; rw [if_neg (by rw [et]; decide)], et]; rfl
  refine pf_Mo_begins C (v := nI e) (G := va_up g 3 (mrw r (nI e) (nI e) x3 x4 w c n)) (Eq.trans up_va (congrArg (va_up _ _) mrw_7)) k_798 d_Mo_token_5 ?_
  have LP_8 : ∀ (f_ i : Nat), i ≤ L - e → (L - e) - i < f_ → (skp (g 5) L (e + i) = skp (g 5) L e) → WX X 2 yM Z (QX X yM Z (QcV yM Z (va_up g 3 (lxS (g 5) r L e w c n)))) (va_up g 3 (mrw r (nI (e + i)) (nI e) x3 x4 w c n)) 8 [(0, .ref (Z.2.1 (0)))] [] := by
    intro f_
    induction f_ with
    | zero => intro i h1_ h2_ _; exact absurd h2_ (Nat.not_lt_zero _)
    | succ f_ ih_8 =>
      intro i hi_8 hf_8 hy_8
      refine x_aload_n C d_Mo_token_8 0 rfl rfl ?_
      refine x_aload_n C d_Mo_token_9 0 rfl rfl ?_
      refine gf_Mo_begins C (v := nI (e + i)) (Eq.trans (congrFun (va_up_self _ _ _) _) rfl) k_798 d_Mo_token_10 ?_
      refine x_callVi C (c_Mo_byteAtR Z (g 5) L (e + i) hL (by omega) (va_up g 3 (mrw r (nI (e + i)) (nI e) x3 x4 w c n)) (va_up_ne _ _ (by omega)) (by rw [(va_up_self _ _ _)]; exact hr)) mi_Mo_byteAt k_1156 (show 0 < 12 by omega) (m_0 Z _) rfl (As := [.int (nI (e + i))]) ⟨Nat.le_of_ble_eq_true rfl, Nat.le_of_ble_eq_true rfl⟩ rfl rfl (Nat.le_of_ble_eq_true rfl) d_Mo_token_13 ?_
      refine x_bipush C d_Mo_token_16 (v := 32) (by decide) ?_
      refine x_icmp_ne C d_Mo_token_18 34 (by decide) (fun c_6 => ?_) (fun c_6 => ?_)
      · have nc_6 := Ne.symm c_6
        refine x_eqg (g' := va_up g 3 (mrw r (nI (skp (g 5) L e)) (nI e) x3 x4 w c n)) (by rw [← hy_8, skp_f (fun z_ => absurd (bAt_32.mpr z_) (by with_reducible assumption))]) ?_
        exact J_34
      · have hlt := (bAt_32.mp (by with_reducible assumption)).1
        refine x_aload_n C d_Mo_token_21 0 rfl rfl ?_
        refine x_dup C d_Mo_token_22 rfl ?_
        refine gf_Mo_begins C (v := nI (e + i)) (Eq.trans (congrFun (va_up_self _ _ _) _) rfl) k_798 d_Mo_token_23 ?_
        refine x_iconst C d_Mo_token_26 (v := 1) (by decide) ?_
        refine x_iadd C d_Mo_token_27 ?_
        refine x_topi (x' := nI (e + i + 1)) (nI_1 (e + i)) ?_
        refine pf_Mo_begins C (v := nI (e + i + 1)) (G := va_up g 3 (mrw r (nI (e + i + 1)) (nI e) x3 x4 w c n)) (Eq.trans up_va (congrArg (va_up _ _) mrw_7)) k_798 d_Mo_token_28 ?_
        refine x_goto C d_Mo_token_31 8 (by decide) ?_
        exact ih_8 (i + 1) (by omega) (by omega) ((skp_t (e := e + i) (bAt_32.mp (by with_reducible assumption)).1 (bAt_32.mp (by with_reducible assumption)).2).symm.trans hy_8)
  refine x_eqg (g' := va_up g 3 (mrw r (nI (e + 0)) (nI e) x3 x4 w c n)) rfl ?_
  exact LP_8 (L - e + 1) 0 (Nat.zero_le _) (by omega) rfl

theorem lxS_11 {b r : Nat → Int32} {L e : Nat} {w c n x : Int32} : upd (lxS b r L e w c n) 11 x = lxS b r L e x c n := mrw_11
theorem lxS_14 {b r : Nat → Int32} {L e : Nat} {w c n x : Int32} : upd (lxS b r L e w c n) 14 x = lxS b r L e w x n := mrw_14
theorem lxS_15 {b r : Nat → Int32} {L e : Nat} {w c n x : Int32} : upd (lxS b r L e w c n) 15 x = lxS b r L e w c x := mrw_15
theorem min3 {b : Nat → Int32} {L e k : Nat} (hk : k < 3) : min 3 (tok b L e) = k ↔ tok b L e = k := by
  have := tok_4 (b := b) (L := L) (e := e)
  omega

set_option maxRecDepth 100000 in
set_option maxHeartbeats 600000 in
theorem c_Mo_isWord (Z : ZT) (b r : Nat → Int32) (L e : Nat) (hL : L ≤ 120) (he : e ≤ L) (w c n : Int32) (i : Nat) (hi : i < 13) (g : St)  (h5 : g 5 = b) (h3 : g 3 = lxS b r L e w c n) (hr : r 6 = nI L) (hB : ∀ k, k < L → ¬ b k < 0) : CT yM Z y_Mo_isWord b_Mo_isWord 4 (some (.boolean)) 4 85 [.ref (Z.2.1 (0)), .ref (Z.2.2.2.2.1 i)] (g) (QcI yM Z (bI (isW b L i e = true)) (g)) := by
  refine CT.mk "TunnelPeaceModel" (by decide) rfl (Nat.le_of_ble_eq_true rfl) (fun X C => ?_)
  refine x_lv [0, 1] (lv' := [(0, .ref (Z.2.1 (0))), (1, .ref (Z.2.2.2.2.1 i))]) rfl ?_
  subst h5
  have hj := skp_ge (b := g 5) (L := L) (e := e)
  have hjl := skp_le (b := g 5) he
  have hdg := tnd_ge (b := g 5) (L := L) (e := e)
  have hdl := tnd_le (b := g 5) he
  have ht4 := tok_4 (b := g 5) (L := L) (e := e)
  have hm4 := tnm_le (b := g 5) (L := L) (e := e)
  have hl8 := tx_small i hi
  refine x_eqg (g' := va_up g 3 (lxS (g 5) r L e w c n)) (by rw [← h3, va_id]) ?_
  refine x_aload_n C d_Mo_isWord_0 0 rfl rfl ?_
  refine gf_Mo_sort C (v := nI (min 3 (tok (g 5) L e))) (Eq.trans (congrFun (va_up_self _ _ _) _) rfl) k_800 d_Mo_isWord_1 ?_
  refine x_iconst C d_Mo_isWord_4 (v := 1) (by decide) ?_
  refine x_icmp_ne C d_Mo_isWord_5 28 (by decide) (fun c_1 => ?_) (fun c_1 => ?_)
  · have nc_1 := Ne.symm c_1
    have mc_1 : ¬ (min 3 (tok (g 5) L e)) = 1 := fun z_ => (show ¬ nI (min 3 (tok (g 5) L e)) = nI 1 from c_1) ((nI_eq (by omega) (by omega)).mpr z_)
    refine x_iconst C d_Mo_isWord_28 (v := 0) (by decide) ?_
    refine x_istore_n C d_Mo_isWord_29 rfl (by decide) (lv' := [(2, .int (0)), (0, .ref (Z.2.1 (0))), (1, .ref (Z.2.2.2.2.1 i))]) rfl ?_
    refine x_iconst C d_Mo_isWord_30 (v := 0) (by decide) ?_
    refine x_topi (show (0 : Int32) = nI 0 by decide) ?_
    refine x_istore_n C d_Mo_isWord_31 rfl (by decide) (lv' := [(3, .int (nI 0)), (2, .int (0)), (0, .ref (Z.2.1 (0))), (1, .ref (Z.2.2.2.2.1 i))]) rfl ?_
    refine x_iload_n C d_Mo_isWord_32 0 rfl rfl ?_
    refine x_aload_n C d_Mo_isWord_33 3 rfl rfl ?_
    refine x_callTi C hi (c_JS_length yM Z i hi (va_up g 3 (lxS (g 5) r L e w c n))) mi_JS_length k_1168 rfl (As := []) ⟨Nat.le_of_ble_eq_true rfl, Nat.le_of_ble_eq_true rfl⟩ rfl rfl (Nat.le_of_ble_eq_true rfl) d_Mo_isWord_34 ?_
    refine x_icmp_ge C d_Mo_isWord_37 75 (by decide) (fun c_2 => ?_) (fun c_2 => ?_)
    · have nc_2 := Int32.not_lt.mpr c_2
      have mc_2 : (txLen.getD i 0) ≤ 0 := (nI_leI (by omega) (by omega)).mp (show nI (txLen.getD i 0) ≤ nI 0 from c_2)
      refine x_iload_n C d_Mo_isWord_75 1 rfl rfl ?_
      have hno : ¬ isW (g 5) L i e = true := fun z_ => by have z2_ := isW_i.mp z_; first | exact absurd ((min3 (by decide)).mpr z2_.1) (by with_reducible assumption) | exact absurd z2_.2.1 (by with_reducible assumption) | exact wrd_no (k := k) (by omega) (by with_reducible assumption) z2_.2.2
      exact x_zret C (by decide) (bI_f hno).symm (by rw [← h3, va_id]) d_Mo_isWord_76
    · have nc_2 := Int32.not_le.mp c_2
      have mc_2 : ¬ (txLen.getD i 0) ≤ 0 := fun z_ => (show ¬ nI (txLen.getD i 0) ≤ nI 0 from c_2) ((nI_leI (by omega) (by omega)).mpr z_)
      refine x_iload_n C d_Mo_isWord_40 1 rfl rfl ?_
      refine x_ifeq C d_Mo_isWord_41 75 (by decide) (fun c_3 => ?_) (fun c_3 => ?_)
      · refine x_iload_n C d_Mo_isWord_75 1 rfl rfl ?_
        have hno : ¬ isW (g 5) L i e = true := fun z_ => by have z2_ := isW_i.mp z_; first | exact absurd ((min3 (by decide)).mpr z2_.1) (by with_reducible assumption) | exact absurd z2_.2.1 (by with_reducible assumption) | exact wrd_no (k := k) (by omega) (by with_reducible assumption) z2_.2.2
        exact x_zret C (by decide) (bI_f hno).symm (by rw [← h3, va_id]) d_Mo_isWord_76
      · exact absurd c_3 (by decide)
  · have mc_1 : (min 3 (tok (g 5) L e)) = 1 := (nI_eq (by omega) (by omega)).mp (show nI (min 3 (tok (g 5) L e)) = nI 1 from c_1)
    refine x_aload_n C d_Mo_isWord_8 0 rfl rfl ?_
    refine gf_Mo_ends C (v := nI (tnd (g 5) L e)) (Eq.trans (congrFun (va_up_self _ _ _) _) rfl) k_799 d_Mo_isWord_9 ?_
    refine x_aload_n C d_Mo_isWord_12 0 rfl rfl ?_
    refine gf_Mo_begins C (v := nI (skp (g 5) L e)) (Eq.trans (congrFun (va_up_self _ _ _) _) rfl) k_798 d_Mo_isWord_13 ?_
    refine x_isub C d_Mo_isWord_16 ?_
    refine x_topi (x' := nI (tnd (g 5) L e - skp (g 5) L e)) (pk_sub hdg) ?_
    refine x_aload_n C d_Mo_isWord_17 1 rfl rfl ?_
    refine x_callTi C hi (c_JS_length yM Z i hi (va_up g 3 (lxS (g 5) r L e w c n))) mi_JS_length k_1168 rfl (As := []) ⟨Nat.le_of_ble_eq_true rfl, Nat.le_of_ble_eq_true rfl⟩ rfl rfl (Nat.le_of_ble_eq_true rfl) d_Mo_isWord_18 ?_
    refine x_icmp_ne C d_Mo_isWord_21 28 (by decide) (fun c_4 => ?_) (fun c_4 => ?_)
    · have nc_4 := Ne.symm c_4
      have mc_4 : ¬ (tnd (g 5) L e - skp (g 5) L e) = (txLen.getD i 0) := fun z_ => (show ¬ nI (tnd (g 5) L e - skp (g 5) L e) = nI (txLen.getD i 0) from c_4) ((nI_eq (by omega) (by omega)).mpr z_)
      refine x_iconst C d_Mo_isWord_28 (v := 0) (by decide) ?_
      refine x_istore_n C d_Mo_isWord_29 rfl (by decide) (lv' := [(2, .int (0)), (0, .ref (Z.2.1 (0))), (1, .ref (Z.2.2.2.2.1 i))]) rfl ?_
      refine x_iconst C d_Mo_isWord_30 (v := 0) (by decide) ?_
      refine x_topi (show (0 : Int32) = nI 0 by decide) ?_
      refine x_istore_n C d_Mo_isWord_31 rfl (by decide) (lv' := [(3, .int (nI 0)), (2, .int (0)), (0, .ref (Z.2.1 (0))), (1, .ref (Z.2.2.2.2.1 i))]) rfl ?_
      refine x_iload_n C d_Mo_isWord_32 0 rfl rfl ?_
      refine x_aload_n C d_Mo_isWord_33 3 rfl rfl ?_
      refine x_callTi C hi (c_JS_length yM Z i hi (va_up g 3 (lxS (g 5) r L e w c n))) mi_JS_length k_1168 rfl (As := []) ⟨Nat.le_of_ble_eq_true rfl, Nat.le_of_ble_eq_true rfl⟩ rfl rfl (Nat.le_of_ble_eq_true rfl) d_Mo_isWord_34 ?_
      refine x_icmp_ge C d_Mo_isWord_37 75 (by decide) (fun c_5 => ?_) (fun c_5 => ?_)
      · have nc_5 := Int32.not_lt.mpr c_5
        have mc_5 : (txLen.getD i 0) ≤ 0 := (nI_leI (by omega) (by omega)).mp (show nI (txLen.getD i 0) ≤ nI 0 from c_5)
        refine x_iload_n C d_Mo_isWord_75 1 rfl rfl ?_
        have hno : ¬ isW (g 5) L i e = true := fun z_ => by have z2_ := isW_i.mp z_; first | exact absurd ((min3 (by decide)).mpr z2_.1) (by with_reducible assumption) | exact absurd z2_.2.1 (by with_reducible assumption) | exact wrd_no (k := k) (by omega) (by with_reducible assumption) z2_.2.2
        exact x_zret C (by decide) (bI_f hno).symm (by rw [← h3, va_id]) d_Mo_isWord_76
      · have nc_5 := Int32.not_le.mp c_5
        have mc_5 : ¬ (txLen.getD i 0) ≤ 0 := fun z_ => (show ¬ nI (txLen.getD i 0) ≤ nI 0 from c_5) ((nI_leI (by omega) (by omega)).mpr z_)
        refine x_iload_n C d_Mo_isWord_40 1 rfl rfl ?_
        refine x_ifeq C d_Mo_isWord_41 75 (by decide) (fun c_6 => ?_) (fun c_6 => ?_)
        · refine x_iload_n C d_Mo_isWord_75 1 rfl rfl ?_
          have hno : ¬ isW (g 5) L i e = true := fun z_ => by have z2_ := isW_i.mp z_; first | exact absurd ((min3 (by decide)).mpr z2_.1) (by with_reducible assumption) | exact absurd z2_.2.1 (by with_reducible assumption) | exact wrd_no (k := k) (by omega) (by with_reducible assumption) z2_.2.2
          exact x_zret C (by decide) (bI_f hno).symm (by rw [← h3, va_id]) d_Mo_isWord_76
        · exact absurd c_6 (by decide)
    · have mc_4 : (tnd (g 5) L e - skp (g 5) L e) = (txLen.getD i 0) := (nI_eq (by omega) (by omega)).mp (show nI (tnd (g 5) L e - skp (g 5) L e) = nI (txLen.getD i 0) from c_4)
      refine x_iconst C d_Mo_isWord_24 (v := 1) (by decide) ?_
      refine x_goto C d_Mo_isWord_25 29 (by decide) ?_
      refine x_istore_n C d_Mo_isWord_29 rfl (by decide) (lv' := [(2, .int (1)), (0, .ref (Z.2.1 (0))), (1, .ref (Z.2.2.2.2.1 i))]) rfl ?_
      refine x_iconst C d_Mo_isWord_30 (v := 0) (by decide) ?_
      refine x_topi (show (0 : Int32) = nI 0 by decide) ?_
      refine x_istore_n C d_Mo_isWord_31 rfl (by decide) (lv' := [(3, .int (nI 0)), (2, .int (1)), (0, .ref (Z.2.1 (0))), (1, .ref (Z.2.2.2.2.1 i))]) rfl ?_
      have LP_32 : ∀ (f_ k : Nat), k ≤ txLen.getD i 0 → (txLen.getD i 0) - k < f_ → (wrd (g 5) (skp (g 5) L e) i k = true) → WX X 4 yM Z (QX X yM Z (QcI yM Z (bI (isW (g 5) L i e = true)) (g))) (va_up g 3 (lxS (g 5) r L e w c n)) 32 [(3, .int (nI k)), (2, .int (1)), (0, .ref (Z.2.1 (0))), (1, .ref (Z.2.2.2.2.1 i))] [] := by
        intro f_
        induction f_ with
        | zero => intro k h1_ h2_ _; exact absurd h2_ (Nat.not_lt_zero _)
        | succ f_ ih_32 =>
          intro k hi_32 hf_32 hy_32
          refine x_iload_n C d_Mo_isWord_32 0 rfl rfl ?_
          refine x_aload_n C d_Mo_isWord_33 3 rfl rfl ?_
          refine x_callTi C hi (c_JS_length yM Z i hi (va_up g 3 (lxS (g 5) r L e w c n))) mi_JS_length k_1168 rfl (As := []) ⟨Nat.le_of_ble_eq_true rfl, Nat.le_of_ble_eq_true rfl⟩ rfl rfl (Nat.le_of_ble_eq_true rfl) d_Mo_isWord_34 ?_
          refine x_icmp_ge C d_Mo_isWord_37 75 (by decide) (fun c_7 => ?_) (fun c_7 => ?_)
          · have nc_7 := Int32.not_lt.mpr c_7
            have mc_7 : (txLen.getD i 0) ≤ k := (nI_leI (by omega) (by omega)).mp (show nI (txLen.getD i 0) ≤ nI k from c_7)
            refine x_iload_n C d_Mo_isWord_75 1 rfl rfl ?_
            have ek_ : txLen.getD i 0 = k := by omega
            have hys : isW (g 5) L i e = true := isW_i.mpr ⟨(min3 (by decide)).mp (by with_reducible assumption), by with_reducible assumption, (by rw [ek_]; exact hy_32)⟩
            exact x_zret C (by decide) (bI_t hys).symm (by rw [← h3, va_id]) d_Mo_isWord_76
          · have nc_7 := Int32.not_le.mp c_7
            have mc_7 : ¬ (txLen.getD i 0) ≤ k := fun z_ => (show ¬ nI (txLen.getD i 0) ≤ nI k from c_7) ((nI_leI (by omega) (by omega)).mpr z_)
            refine x_iload_n C d_Mo_isWord_40 1 rfl rfl ?_
            refine x_ifeq C d_Mo_isWord_41 75 (by decide) (fun c_8 => ?_) (fun c_8 => ?_)
            · exact absurd c_8 (by decide)
            · refine x_aload_n C d_Mo_isWord_44 2 rfl rfl ?_
              refine gf_Mo_tape C k_796 d_Mo_isWord_45 ?_
              refine x_aload_n C d_Mo_isWord_48 2 rfl rfl ?_
              refine gf_Mo_begins C (v := nI (skp (g 5) L e)) (Eq.trans (congrFun (va_up_self _ _ _) _) rfl) k_798 d_Mo_isWord_49 ?_
              refine x_iload_n C d_Mo_isWord_52 0 rfl rfl ?_
              refine x_iadd C d_Mo_isWord_53 ?_
              refine x_topi (x' := nI (skp (g 5) L e + k)) (nI_add _ _) ?_
              refine al_m_tape C (skp (g 5) L e + k) (v := g 5 (skp (g 5) L e + k)) rfl (by first | omega | (simp only [pI]; omega)) (congrFun (va_up_ne _ _ (by omega)) _) d_Mo_isWord_54 ?_
              refine x_aload_n C d_Mo_isWord_55 3 rfl rfl ?_
              refine x_iload_n C d_Mo_isWord_56 0 rfl rfl ?_
              refine x_callTi C hi (c_JS_charAt yM Z i k hi (by omega) (va_up g 3 (lxS (g 5) r L e w c n))) mi_JS_charAt k_1169 rfl (As := [.int (nI k)]) ⟨Nat.le_of_ble_eq_true rfl, Nat.le_of_ble_eq_true rfl⟩ rfl rfl (Nat.le_of_ble_eq_true rfl) d_Mo_isWord_57 ?_
              refine x_icmp_ne C d_Mo_isWord_60 67 (by decide) (fun c_9 => ?_) (fun c_9 => ?_)
              · have nc_9 := Ne.symm c_9
                refine x_iconst C d_Mo_isWord_67 (v := 0) (by decide) ?_
                refine x_istore_n C d_Mo_isWord_68 rfl (by decide) (lv' := [(2, .int (0)), (3, .int (nI k)), (0, .ref (Z.2.1 (0))), (1, .ref (Z.2.2.2.2.1 i))]) rfl ?_
                refine x_iinc C d_Mo_isWord_69 1 rfl (v := nI (k + 1)) (nI_1 _) (by decide) (lv' := [(3, .int (nI (k + 1))), (2, .int (0)), (0, .ref (Z.2.1 (0))), (1, .ref (Z.2.2.2.2.1 i))]) rfl ?_
                refine x_goto C d_Mo_isWord_72 32 (by decide) ?_
                refine x_iload_n C d_Mo_isWord_32 0 rfl rfl ?_
                refine x_aload_n C d_Mo_isWord_33 3 rfl rfl ?_
                refine x_callTi C hi (c_JS_length yM Z i hi (va_up g 3 (lxS (g 5) r L e w c n))) mi_JS_length k_1168 rfl (As := []) ⟨Nat.le_of_ble_eq_true rfl, Nat.le_of_ble_eq_true rfl⟩ rfl rfl (Nat.le_of_ble_eq_true rfl) d_Mo_isWord_34 ?_
                refine x_icmp_ge C d_Mo_isWord_37 75 (by decide) (fun c_10 => ?_) (fun c_10 => ?_)
                · have nc_10 := Int32.not_lt.mpr c_10
                  have mc_10 : (txLen.getD i 0) ≤ k + 1 := (nI_leI (by omega) (by omega)).mp (show nI (txLen.getD i 0) ≤ nI (k + 1) from c_10)
                  refine x_iload_n C d_Mo_isWord_75 1 rfl rfl ?_
                  have hno : ¬ isW (g 5) L i e = true := fun z_ => by have z2_ := isW_i.mp z_; first | exact absurd ((min3 (by decide)).mpr z2_.1) (by with_reducible assumption) | exact absurd z2_.2.1 (by with_reducible assumption) | exact wrd_no (k := k) (by omega) (by with_reducible assumption) z2_.2.2
                  exact x_zret C (by decide) (bI_f hno).symm (by rw [← h3, va_id]) d_Mo_isWord_76
                · have nc_10 := Int32.not_le.mp c_10
                  have mc_10 : ¬ (txLen.getD i 0) ≤ k + 1 := fun z_ => (show ¬ nI (txLen.getD i 0) ≤ nI (k + 1) from c_10) ((nI_leI (by omega) (by omega)).mpr z_)
                  refine x_iload_n C d_Mo_isWord_40 1 rfl rfl ?_
                  refine x_ifeq C d_Mo_isWord_41 75 (by decide) (fun c_11 => ?_) (fun c_11 => ?_)
                  · refine x_iload_n C d_Mo_isWord_75 1 rfl rfl ?_
                    have hno : ¬ isW (g 5) L i e = true := fun z_ => by have z2_ := isW_i.mp z_; first | exact absurd ((min3 (by decide)).mpr z2_.1) (by with_reducible assumption) | exact absurd z2_.2.1 (by with_reducible assumption) | exact wrd_no (k := k) (by omega) (by with_reducible assumption) z2_.2.2
                    exact x_zret C (by decide) (bI_f hno).symm (by rw [← h3, va_id]) d_Mo_isWord_76
                  · exact absurd c_11 (by decide)
              · refine x_iconst C d_Mo_isWord_63 (v := 1) (by decide) ?_
                refine x_goto C d_Mo_isWord_64 68 (by decide) ?_
                refine x_istore_n C d_Mo_isWord_68 rfl (by decide) (lv' := [(2, .int (1)), (3, .int (nI k)), (0, .ref (Z.2.1 (0))), (1, .ref (Z.2.2.2.2.1 i))]) rfl ?_
                refine x_iinc C d_Mo_isWord_69 1 rfl (v := nI (k + 1)) (nI_1 _) (by decide) (lv' := [(3, .int (nI (k + 1))), (2, .int (1)), (0, .ref (Z.2.1 (0))), (1, .ref (Z.2.2.2.2.1 i))]) rfl ?_
                refine x_goto C d_Mo_isWord_72 32 (by decide) ?_
                exact ih_32 (k + 1) (by omega) (by omega) (by simp only [wrd, hy_32, Bool.true_and, decide_eq_true_eq]; with_reducible assumption)
      exact LP_32 (txLen.getD i 0 + 1) 0 (Nat.zero_le _) (by omega) rfl

theorem c_Mo_isWord_t (Z : ZT) (b r : Nat → Int32) (L e : Nat) (hL : L ≤ 120) (he : e ≤ L) (w c n : Int32) (i : Nat) (hi : i < 13) (g : St)  (h5 : g 5 = b) (h3 : g 3 = lxS b r L e w c n) (hr : r 6 = nI L) (hB : ∀ k, k < L → ¬ b k < 0) (hw : isW b L i e = true) : CT yM Z y_Mo_isWord b_Mo_isWord 4 (some (.boolean)) 4 85 [.ref (Z.2.1 (0)), .ref (Z.2.2.2.2.1 i)] (g) (QcI yM Z 1 g) := by
  have h := c_Mo_isWord Z b r L e hL he w c n i hi g h5 h3 hr hB
  rw [bI_t hw] at h
  exact h
theorem c_Mo_isWord_f (Z : ZT) (b r : Nat → Int32) (L e : Nat) (hL : L ≤ 120) (he : e ≤ L) (w c n : Int32) (i : Nat) (hi : i < 13) (g : St)  (h5 : g 5 = b) (h3 : g 3 = lxS b r L e w c n) (hr : r 6 = nI L) (hB : ∀ k, k < L → ¬ b k < 0) (hw : ¬ isW b L i e = true) : CT yM Z y_Mo_isWord b_Mo_isWord 4 (some (.boolean)) 4 85 [.ref (Z.2.1 (0)), .ref (Z.2.2.2.2.1 i)] (g) (QcI yM Z 0 g) := by
  have h := c_Mo_isWord Z b r L e hL he w c n i hi g h5 h3 hr hB
  rw [bI_f hw] at h
  exact h

set_option maxRecDepth 100000 in
set_option maxHeartbeats 600000 in
theorem c_Mo_must_t (Z : ZT) (b r : Nat → Int32) (L e : Nat) (hL : L ≤ 120) (he : e ≤ L) (c n : Int32) (g : St)  (h5 : g 5 = b) (h3 : g 3 = lxS b r L e 0 c n) (hr : r 6 = nI L) (hB : ∀ k, k < L → ¬ b k < 0) : CT yM Z y_Mo_must b_Mo_must 2 none 2 43 [.ref (Z.2.1 (0)), .int (1)] (g) (QcV yM Z (va_up g 3 (lxS b r L (tnd b L e) 0 c n))) := by
  refine CT.mk "TunnelPeaceModel" (by decide) rfl (Nat.le_of_ble_eq_true rfl) (fun X C => ?_)
  refine x_lv [0, 1] (lv' := [(0, .ref (Z.2.1 (0))), (1, .int (1))]) rfl ?_
  subst h5
  have hj := skp_ge (b := g 5) (L := L) (e := e)
  have hjl := skp_le (b := g 5) he
  have hdg := tnd_ge (b := g 5) (L := L) (e := e)
  have hdl := tnd_le (b := g 5) he
  have ht4 := tok_4 (b := g 5) (L := L) (e := e)
  have hm4 := tnm_le (b := g 5) (L := L) (e := e)
  refine x_eqg (g' := va_up g 3 (lxS (g 5) r L e 0 c n)) (by rw [← h3, va_id]) ?_
  refine x_aload_n C d_Mo_must_0 0 rfl rfl ?_
  refine x_aload_n C d_Mo_must_1 0 rfl rfl ?_
  refine gf_Mo_isWrong C (v := 0) (Eq.trans (congrFun (va_up_self _ _ _) _) rfl) k_802 d_Mo_must_2 ?_
  refine x_ifne C d_Mo_must_5 12 (by decide) (fun c_1 => ?_) (fun c_1 => ?_)
  · exact absurd c_1 (by decide)
  · refine x_iload_n C d_Mo_must_8 1 rfl rfl ?_
    refine x_ifne C d_Mo_must_9 16 (by decide) (fun c_2 => ?_) (fun c_2 => ?_)
    · refine x_iconst C d_Mo_must_16 (v := 0) (by decide) ?_
      refine pf_Mo_isWrong C (v := 0) (by decide) (G := va_up g 3 (lxS (g 5) r L e 0 c n)) (Eq.trans up_va (congrArg (va_up _ _) lxS_11)) k_802 d_Mo_must_17 ?_
      refine x_aload_n C d_Mo_must_20 0 rfl rfl ?_
      refine gf_Mo_isWrong C (v := 0) (Eq.trans (congrFun (va_up_self _ _ _) _) rfl) k_802 d_Mo_must_21 ?_
      refine x_ifne C d_Mo_must_24 31 (by decide) (fun c_3 => ?_) (fun c_3 => ?_)
      · exact absurd c_3 (by decide)
      · refine x_aload_n C d_Mo_must_27 0 rfl rfl ?_
        refine x_callVv C (c_Mo_token Z (g 5) r L (tnd (g 5) L e) hL hdl _ _ _ 0 c n (va_up g 3 (lxS (g 5) r L e 0 c n)) ((va_up_ne _ _ (by omega))) ((va_up_self _ _ _)) hr hB) mi_Mo_token k_1152 (show 0 < 12 by omega) (m_0 Z _) rfl (As := []) ⟨Nat.le_of_ble_eq_true rfl, Nat.le_of_ble_eq_true rfl⟩ rfl rfl (Nat.le_of_ble_eq_true rfl) d_Mo_must_28 ?_
        refine x_eqg (g' := va_up g 3 (lxS (g 5) r L (tnd (g 5) L e) 0 c n)) (bx_uu _ _ _ _) ?_
        exact x_vret C (by simp_all) d_Mo_must_31
    · exact absurd c_2 (by decide)

set_option maxRecDepth 100000 in
set_option maxHeartbeats 600000 in
theorem c_Mo_must_w (Z : ZT) (b r : Nat → Int32) (L e : Nat) (hL : L ≤ 120) (he : e ≤ L) (c n : Int32) (x : Int32) (g : St)  (h5 : g 5 = b) (h3 : g 3 = lxS b r L e 1 c n) (hr : r 6 = nI L) (hB : ∀ k, k < L → ¬ b k < 0) : CT yM Z y_Mo_must b_Mo_must 2 none 0 0 [.ref (Z.2.1 (0)), .int (x)] (g) (QcV yM Z (va_up g 3 (lxS b r L e 1 c n))) := by
  refine CT.mk "TunnelPeaceModel" (by decide) rfl (Nat.le_of_ble_eq_true rfl) (fun X C => ?_)
  refine x_lv [0, 1] (lv' := [(0, .ref (Z.2.1 (0))), (1, .int (x))]) rfl ?_
  subst h5
  have hj := skp_ge (b := g 5) (L := L) (e := e)
  have hjl := skp_le (b := g 5) he
  have hdg := tnd_ge (b := g 5) (L := L) (e := e)
  have hdl := tnd_le (b := g 5) he
  have ht4 := tok_4 (b := g 5) (L := L) (e := e)
  have hm4 := tnm_le (b := g 5) (L := L) (e := e)
  refine x_eqg (g' := va_up g 3 (lxS (g 5) r L e 1 c n)) (by rw [← h3, va_id]) ?_
  refine x_aload_n C d_Mo_must_0 0 rfl rfl ?_
  refine x_aload_n C d_Mo_must_1 0 rfl rfl ?_
  refine gf_Mo_isWrong C (v := 1) (Eq.trans (congrFun (va_up_self _ _ _) _) rfl) k_802 d_Mo_must_2 ?_
  refine x_ifne C d_Mo_must_5 12 (by decide) (fun c_1 => ?_) (fun c_1 => ?_)
  · refine x_iconst C d_Mo_must_12 (v := 1) (by decide) ?_
    refine x_goto C d_Mo_must_13 17 (by decide) ?_
    refine pf_Mo_isWrong C (v := 1) (by decide) (G := va_up g 3 (lxS (g 5) r L e 1 c n)) (Eq.trans up_va (congrArg (va_up _ _) lxS_11)) k_802 d_Mo_must_17 ?_
    refine x_aload_n C d_Mo_must_20 0 rfl rfl ?_
    refine gf_Mo_isWrong C (v := 1) (Eq.trans (congrFun (va_up_self _ _ _) _) rfl) k_802 d_Mo_must_21 ?_
    refine x_ifne C d_Mo_must_24 31 (by decide) (fun c_2 => ?_) (fun c_2 => ?_)
    · exact x_vret C (by simp_all) d_Mo_must_31
    · exact absurd c_2 (by decide)
  · exact absurd c_1 (by decide)

set_option maxRecDepth 100000 in
set_option maxHeartbeats 600000 in
theorem c_Mo_must_f (Z : ZT) (b r : Nat → Int32) (L e : Nat) (hL : L ≤ 120) (he : e ≤ L) (c n : Int32) (g : St)  (h5 : g 5 = b) (h3 : g 3 = lxS b r L e 0 c n) (hr : r 6 = nI L) (hB : ∀ k, k < L → ¬ b k < 0) : CT yM Z y_Mo_must b_Mo_must 2 none 0 0 [.ref (Z.2.1 (0)), .int (0)] (g) (QcV yM Z (va_up g 3 (lxS b r L e 1 c n))) := by
  refine CT.mk "TunnelPeaceModel" (by decide) rfl (Nat.le_of_ble_eq_true rfl) (fun X C => ?_)
  refine x_lv [0, 1] (lv' := [(0, .ref (Z.2.1 (0))), (1, .int (0))]) rfl ?_
  subst h5
  have hj := skp_ge (b := g 5) (L := L) (e := e)
  have hjl := skp_le (b := g 5) he
  have hdg := tnd_ge (b := g 5) (L := L) (e := e)
  have hdl := tnd_le (b := g 5) he
  have ht4 := tok_4 (b := g 5) (L := L) (e := e)
  have hm4 := tnm_le (b := g 5) (L := L) (e := e)
  refine x_eqg (g' := va_up g 3 (lxS (g 5) r L e 0 c n)) (by rw [← h3, va_id]) ?_
  refine x_aload_n C d_Mo_must_0 0 rfl rfl ?_
  refine x_aload_n C d_Mo_must_1 0 rfl rfl ?_
  refine gf_Mo_isWrong C (v := 0) (Eq.trans (congrFun (va_up_self _ _ _) _) rfl) k_802 d_Mo_must_2 ?_
  refine x_ifne C d_Mo_must_5 12 (by decide) (fun c_1 => ?_) (fun c_1 => ?_)
  · exact absurd c_1 (by decide)
  · refine x_iload_n C d_Mo_must_8 1 rfl rfl ?_
    refine x_ifne C d_Mo_must_9 16 (by decide) (fun c_2 => ?_) (fun c_2 => ?_)
    · exact absurd c_2 (by decide)
    · refine x_iconst C d_Mo_must_12 (v := 1) (by decide) ?_
      refine x_goto C d_Mo_must_13 17 (by decide) ?_
      refine pf_Mo_isWrong C (v := 1) (by decide) (G := va_up g 3 (lxS (g 5) r L e 1 c n)) (Eq.trans up_va (congrArg (va_up _ _) lxS_11)) k_802 d_Mo_must_17 ?_
      refine x_aload_n C d_Mo_must_20 0 rfl rfl ?_
      refine gf_Mo_isWrong C (v := 1) (Eq.trans (congrFun (va_up_self _ _ _) _) rfl) k_802 d_Mo_must_21 ?_
      refine x_ifne C d_Mo_must_24 31 (by decide) (fun c_3 => ?_) (fun c_3 => ?_)
      · exact x_vret C (by simp_all) d_Mo_must_31
      · exact absurd c_3 (by decide)
