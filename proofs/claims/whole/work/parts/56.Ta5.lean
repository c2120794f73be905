theorem c_Ta_readIntoR (Z : ZT) (b R r : Nat → Int32) (L : Nat) (hL : L ≤ 120) (g : St) (h6 : g 6 = b) (hR : g 1 = R) (h5 : g 5 = r) (hk : okR R) (h0 : r 0 = nI L) : CT yC Z y_Ta_readInto b_Ta_readInto 5 (some (.int)) 7 155 [.ref (Z.2.1 (2)), .ref (Z.2.1 (14 + 12 * 1))] (g) (QcI yC Z (txA b L 61 0 R 0) (va_up (va_up g 1 (txR b L 61 R 0)) 5 (lexR b r L (txE b L 61 R 0)))) := by
  subst h6; subst hR; subst h5
  exact c_Ta_readInto Z L hL g hk h0
theorem txR_ok {b : Nat → Int32} {L : Nat} : ∀ {f : Nat} {r : Nat → Int32} {e : Nat}, okR r → okR (txR b L f r e) := by
  intro f
  induction f with
  | zero => intro r e h; exact h
  | succ f ih =>
    intro r e h
    unfold txR
    split
    · exact itQ_ok h
    · split
      · exact ih (itQ_ok h)
      · exact itQ_ok h

set_option maxRecDepth 100000 in
set_option maxHeartbeats 600000 in
theorem c_TP_text (Z : ZT) (L : Nat) (hL : L ≤ 120) (g : St)  (hk0 : okR (g 0)) (h0 : g 5 0 = nI L) : CT yC Z y_TP_text b_TP_text 2 (some (.int)) 8 179 [.ref (Z.2.1 (0))] (g) (QkI yC Z (txA (g 6) L 61 0 (becR (g 1) (g 0)) 0) (fun u => ∃ ρ τ : Nat → Int32, τ 0 = 0 ∧ u = va_up (va_up (va_up g 0 (if txA (g 6) L 61 0 (becR (g 1) (g 0)) 0 < 0 then g 0 else becR (g 0) (txR (g 6) L 61 (becR (g 1) (g 0)) 0))) 1 ρ) 5 τ)) := by
  refine CT.mk "TunnelPeace" (by decide) rfl (Nat.le_of_ble_eq_true rfl) (fun X C => ?_)
  refine x_lv [0] (lv' := [(0, .ref (Z.2.1 (0)))]) rfl ?_
  refine x_aload_n C d_TP_text_0 0 rfl rfl ?_
  refine gf_TP_trial C k_166 d_TP_text_1 ?_
  refine x_aload_n C d_TP_text_4 0 rfl rfl ?_
  refine gf_TP_tunnel C k_165 d_TP_text_5 ?_
  refine x_callVv C (c_Tu_become Z 1 0 (by omega) (by omega) (by omega) (g) _ rfl _ rfl hk0) mi_Tu_become k_573 (show 14 + 12 * 1 < 50 by omega) (e_Tu Z 1 _) rfl (As := [.ref (Z.2.1 (14 + 12 * 0))]) ⟨Nat.le_of_ble_eq_true rfl, Nat.le_of_ble_eq_true rfl⟩ rfl rfl (Nat.le_of_ble_eq_true rfl) d_TP_text_8 ?_
  refine x_aload_n C d_TP_text_11 0 rfl rfl ?_
  refine gf_TP_tape C k_170 d_TP_text_12 ?_
  refine x_aload_n C d_TP_text_15 0 rfl rfl ?_
  refine gf_TP_trial C k_166 d_TP_text_16 ?_
  refine x_callVi C (c_Ta_readIntoR Z _ _ _ L hL (va_up g 1 (becR (g 1) (g 0))) (va_up_ne _ _ (by decide)) (va_up_self _ _ _) (va_up_ne _ _ (by decide)) (okR_bec hk0) h0) mi_Ta_readInto k_574 (show 2 < 50 by omega) (e_Ta Z _) rfl (As := [.ref (Z.2.1 (14 + 12 * 1))]) ⟨Nat.le_of_ble_eq_true rfl, Nat.le_of_ble_eq_true rfl⟩ rfl rfl (Nat.le_of_ble_eq_true rfl) d_TP_text_19 ?_
  refine x_eqg (g' := va_up (va_up g 1 (txR (g 6) L 61 (becR (g 1) (g 0)) 0)) 5 (lexR (g 6) (g 5) L (txE (g 6) L 61 (becR (g 1) (g 0)) 0))) (by rw [bx_uu]) ?_
  refine x_istore_n C d_TP_text_22 rfl (by decide) (lv' := [(1, .int (txA (g 6) L 61 0 (becR (g 1) (g 0)) 0)), (0, .ref (Z.2.1 (0)))]) rfl ?_
  refine x_iload_n C d_TP_text_23 0 rfl rfl ?_
  refine x_iflt C d_TP_text_24 38 (by decide) (fun c_1 => ?_) (fun c_1 => ?_)
  · have nc_1 := Int32.not_le.mpr c_1
    refine x_aload_n C d_TP_text_38 1 rfl rfl ?_
    refine gf_TP_tape C k_170 d_TP_text_39 ?_
    refine x_iconst C d_TP_text_42 (v := 0) (by decide) ?_
    refine pf_Ta_length C (v := 0) (G := va_up (va_up g 1 (txR (g 6) L 61 (becR (g 1) (g 0)) 0)) 5 (upd (lexR (g 6) (g 5) L (txE (g 6) L 61 (becR (g 1) (g 0)) 0)) 0 0)) up_va k_123 d_TP_text_43 ?_
    refine x_iload_n C d_TP_text_46 0 rfl rfl ?_
    exact x_iretK C rfl ⟨(txR (g 6) L 61 (becR (g 1) (g 0)) 0), (upd (lexR (g 6) (g 5) L (txE (g 6) L 61 (becR (g 1) (g 0)) 0)) 0 0), pk_us, (by rw [if_pos (by with_reducible assumption), va_id g 0])⟩ d_TP_text_47
  · have nc_1 := Int32.not_lt.mp c_1
    refine x_aload_n C d_TP_text_27 1 rfl rfl ?_
    refine gf_TP_tunnel C k_165 d_TP_text_28 ?_
    refine x_aload_n C d_TP_text_31 1 rfl rfl ?_
    refine gf_TP_trial C k_166 d_TP_text_32 ?_
    refine x_callVv C (c_Tu_become Z 0 1 (by omega) (by omega) (by omega) (va_up (va_up g 1 (txR (g 6) L 61 (becR (g 1) (g 0)) 0)) 5 (lexR (g 6) (g 5) L (txE (g 6) L 61 (becR (g 1) (g 0)) 0))) _ (Eq.trans (va_up_ne _ _ (by omega)) (va_up_ne _ _ (by omega))) _ (Eq.trans (va_up_ne _ _ (by omega)) (va_up_self _ _ _)) (txR_ok (okR_bec hk0))) mi_Tu_become k_573 (show 14 + 12 * 0 < 50 by omega) (e_Tu Z 0 _) rfl (As := [.ref (Z.2.1 (14 + 12 * 1))]) ⟨Nat.le_of_ble_eq_true rfl, Nat.le_of_ble_eq_true rfl⟩ rfl rfl (Nat.le_of_ble_eq_true rfl) d_TP_text_35 ?_
    refine x_eqg (g' := va_up (va_up (va_up g 1 (txR (g 6) L 61 (becR (g 1) (g 0)) 0)) 0 (becR (g 0) (txR (g 6) L 61 (becR (g 1) (g 0)) 0))) 5 (lexR (g 6) (g 5) L (txE (g 6) L 61 (becR (g 1) (g 0)) 0))) (va_com (by decide)) ?_
    refine x_aload_n C d_TP_text_38 1 rfl rfl ?_
    refine gf_TP_tape C k_170 d_TP_text_39 ?_
    refine x_iconst C d_TP_text_42 (v := 0) (by decide) ?_
    refine pf_Ta_length C (v := 0) (G := va_up (va_up (va_up g 1 (txR (g 6) L 61 (becR (g 1) (g 0)) 0)) 0 (becR (g 0) (txR (g 6) L 61 (becR (g 1) (g 0)) 0))) 5 (upd (lexR (g 6) (g 5) L (txE (g 6) L 61 (becR (g 1) (g 0)) 0)) 0 0)) up_va k_123 d_TP_text_43 ?_
    refine x_iload_n C d_TP_text_46 0 rfl rfl ?_
    exact x_iretK C rfl ⟨_, _, (by exact pk_us : (upd (lexR (g 6) (g 5) L (txE (g 6) L 61 (becR (g 1) (g 0)) 0)) 0 0) 0 = 0), (by rw [if_neg (Int32.not_lt.mpr (by with_reducible assumption))]; rw [va_com (a := 0) (b := 1) (by decide)])⟩ d_TP_text_47
