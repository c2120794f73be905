theorem tok0 {b : Nat → Int32} {L e : Nat} : nI (tok b L e) = 0 ↔ tok b L e = 0 := by
  have h := tok_4 (b := b) (L := L) (e := e)
  exact nI_eq (b := 0) (by omega) (by decide)
theorem txA_s {b : Nat → Int32} {L i c e : Nat} {r : Nat → Int32} (h : i ≤ 60) : txA b L (61 - i) c r e = if (itS b L (sz r) e).2 = true then -1 - nI (skp b L (itS b L (sz r) e).1) else if tok b L (itS b L (sz r) e).1 = 3 then txA b L (61 - (i + 1)) (c + 1) (itQ b L r e) (tnd b L (itS b L (sz r) e).1) else if tok b L (itS b L (sz r) e).1 = 0 then nI (c + 1) else -1 - nI (skp b L (itS b L (sz r) e).1) := by
  rw [show 61 - i = (61 - (i + 1)) + 1 by omega, txA]
theorem txR_s {b : Nat → Int32} {L i e : Nat} {r : Nat → Int32} (h : i ≤ 60) : txR b L (61 - i) r e = if (itS b L (sz r) e).2 = true then itQ b L r e else if tok b L (itS b L (sz r) e).1 = 3 then txR b L (61 - (i + 1)) (itQ b L r e) (tnd b L (itS b L (sz r) e).1) else itQ b L r e := by
  rw [show 61 - i = (61 - (i + 1)) + 1 by omega, txR]
theorem txE_s {b : Nat → Int32} {L i e : Nat} {r : Nat → Int32} (h : i ≤ 60) : txE b L (61 - i) r e = if (itS b L (sz r) e).2 = true then (itS b L (sz r) e).1 else if tok b L (itS b L (sz r) e).1 = 3 then txE b L (61 - (i + 1)) (itQ b L r e) (tnd b L (itS b L (sz r) e).1) else (itS b L (sz r) e).1 := by
  rw [show 61 - i = (61 - (i + 1)) + 1 by omega, txE]
/-- behind i items and as many semicolons -/
def rdI (b : Nat → Int32) (L : Nat) (R : Nat → Int32) (i : Nat) : Prop := 2 * i ≤ (itn b L R i).2 ∧ (itn b L R i).2 ≤ L ∧ okR (itn b L R i).1 ∧ txA b L (61 - i) i (itn b L R i).1 (itn b L R i).2 = txA b L 61 0 R 0 ∧ txR b L (61 - i) (itn b L R i).1 (itn b L R i).2 = txR b L 61 R 0 ∧ txE b L (61 - i) (itn b L R i).1 (itn b L R i).2 = txE b L 61 R 0
theorem rdI_s {b : Nat → Int32} {L i E : Nat} {R : Nat → Int32} (h : rdI b L R i) (hi : i ≤ 60) (hS : itS b L (sz (itn b L R i).1) (itn b L R i).2 = (E, false)) (ht : tok b L E = 3) : rdI b L R (i + 1) := by
  obtain ⟨h1, h2, h3, h4, h5, h6⟩ := h
  have hl : (itS b L (sz (itn b L R i).1) (itn b L R i).2).1 ≤ L := itS_le h2
  have hg : (itn b L R i).2 < E := by have := itS_w (b := b) (L := L) (n := sz (itn b L R i).1) (e := (itn b L R i).2) (by rw [hS]); rw [hS] at this; exact this
  have ht2 : E < tnd b L E := tnd_gt (by omega)
  rw [hS] at hl
  have hl : E ≤ L := hl
  have e2 : (itn b L R (i + 1)).2 = tnd b L E := by rw [itn, hS]
  have e1 : (itn b L R (i + 1)).1 = itQ b L (itn b L R i).1 (itn b L R i).2 := by rw [itn]
  refine ⟨by rw [e2]; omega, by rw [e2]; exact tnd_le hl, by rw [e1]; exact itQ_ok h3, ?_, ?_, ?_⟩
  · rw [← h4, txA_s hi, hS, if_neg (by simp), if_pos ht, e1, e2]
  · rw [← h5, txR_s hi, hS, if_neg (by simp), if_pos ht, e1, e2]
  · rw [← h6, txE_s hi, hS, if_neg (by simp), if_pos ht, e1, e2]
theorem rd_fail {b : Nat → Int32} {L i E : Nat} {R : Nat → Int32} (h : rdI b L R i) (hi : i ≤ 60) (hS : itS b L (sz (itn b L R i).1) (itn b L R i).2 = (E, true)) : -1 - nI (skp b L E) = txA b L 61 0 R 0 ∧ itQ b L (itn b L R i).1 (itn b L R i).2 = txR b L 61 R 0 ∧ E = txE b L 61 R 0 := by
  obtain ⟨h1, h2, h3, h4, h5, h6⟩ := h
  rw [← h4, ← h5, ← h6, txA_s hi, txR_s hi, txE_s hi, hS, if_pos rfl, if_pos rfl, if_pos rfl]
  exact ⟨rfl, rfl, rfl⟩
theorem rd_end {b : Nat → Int32} {L i E : Nat} {R : Nat → Int32} (h : rdI b L R i) (hi : i ≤ 60) (hS : itS b L (sz (itn b L R i).1) (itn b L R i).2 = (E, false)) (ht : ¬ tok b L E = 3) : (if tok b L E = 0 then nI (i + 1) else -1 - nI (skp b L E)) = txA b L 61 0 R 0 ∧ itQ b L (itn b L R i).1 (itn b L R i).2 = txR b L 61 R 0 ∧ E = txE b L 61 R 0 := by
  obtain ⟨h1, h2, h3, h4, h5, h6⟩ := h
  rw [← h4, ← h5, ← h6, txA_s hi, txR_s hi, txE_s hi, hS]
  simp only [Bool.false_eq_true, if_false, if_neg ht]
  exact ⟨trivial, trivial, trivial⟩

theorem c_Ta_takePlace_t (Z : ZT) (b r : Nat → Int32) (L e : Nat) (hL : L ≤ 120) (he : e ≤ L) (R : Nat → Int32) (E : Nat) (g : St)  (h6 : g 6 = b) (h5 : g 5 = lexR b r L e) (h0 : r 0 = nI L) (hR : g 1 = R) (hw : nS b L 15 (nS b L 5 (e, false)) = (E, false)) : CT yC Z y_Ta_takePlace b_Ta_takePlace 4 (some (.boolean)) 3 64 [.ref (Z.2.1 (2)), .ref (Z.2.1 (14 + 12 * 1))] (g) (QcI yC Z 1 (va_up (va_up g 1 (if (nS b L 15 (nS b L 5 (e, false))).2 = true then R else upd R (4 + tnm b L e) (nI (tnm b L (tnd b L e))))) 5 (lexR b r L E))) := by
  have h := c_Ta_takePlace Z b r L e hL he R g h6 h5 h0 hR
  rw [hw] at h
  rw [hw]
  exact h

theorem c_Ta_takePlace_f (Z : ZT) (b r : Nat → Int32) (L e : Nat) (hL : L ≤ 120) (he : e ≤ L) (R : Nat → Int32) (E : Nat) (g : St)  (h6 : g 6 = b) (h5 : g 5 = lexR b r L e) (h0 : r 0 = nI L) (hR : g 1 = R) (hw : nS b L 15 (nS b L 5 (e, false)) = (E, true)) : CT yC Z y_Ta_takePlace b_Ta_takePlace 4 (some (.boolean)) 3 64 [.ref (Z.2.1 (2)), .ref (Z.2.1 (14 + 12 * 1))] (g) (QcI yC Z 0 (va_up (va_up g 1 (if (nS b L 15 (nS b L 5 (e, false))).2 = true then R else upd R (4 + tnm b L e) (nI (tnm b L (tnd b L e))))) 5 (lexR b r L E))) := by
  have h := c_Ta_takePlace Z b r L e hL he R g h6 h5 h0 hR
  rw [hw] at h
  rw [hw]
  exact h

theorem c_Ta_takeGuns_t (Z : ZT) (b r : Nat → Int32) (L e : Nat) (hL : L ≤ 120) (he : e ≤ L) (R : Nat → Int32) (E : Nat) (g : St)  (h6 : g 6 = b) (h5 : g 5 = lexR b r L e) (h0 : r 0 = nI L) (hR : g 1 = R) (hw : nS b L 99 (e, false) = (E, false)) : CT yC Z y_Ta_takeGuns b_Ta_takeGuns 3 (some (.boolean)) 3 64 [.ref (Z.2.1 (2)), .ref (Z.2.1 (14 + 12 * 1))] (g) (QcI yC Z 1 (va_up (va_up g 1 (if (nS b L 99 (e, false)).2 = true then R else upd R 3 (nI (tnm b L e)))) 5 (lexR b r L E))) := by
  have h := c_Ta_takeGuns Z b r L e hL he R g h6 h5 h0 hR
  rw [hw] at h
  rw [hw]
  exact h

theorem c_Ta_takeGuns_f (Z : ZT) (b r : Nat → Int32) (L e : Nat) (hL : L ≤ 120) (he : e ≤ L) (R : Nat → Int32) (E : Nat) (g : St)  (h6 : g 6 = b) (h5 : g 5 = lexR b r L e) (h0 : r 0 = nI L) (hR : g 1 = R) (hw : nS b L 99 (e, false) = (E, true)) : CT yC Z y_Ta_takeGuns b_Ta_takeGuns 3 (some (.boolean)) 3 64 [.ref (Z.2.1 (2)), .ref (Z.2.1 (14 + 12 * 1))] (g) (QcI yC Z 0 (va_up (va_up g 1 (if (nS b L 99 (e, false)).2 = true then R else upd R 3 (nI (tnm b L e)))) 5 (lexR b r L E))) := by
  have h := c_Ta_takeGuns Z b r L e hL he R g h6 h5 h0 hR
  rw [hw] at h
  rw [hw]
  exact h

theorem c_Ta_takePerson_t (Z : ZT) (b r : Nat → Int32) (L e : Nat) (hL : L ≤ 120) (he : e ≤ L) (R : Nat → Int32) (E : Nat) (g : St)  (h6 : g 6 = b) (h5 : g 5 = lexR b r L e) (h0 : r 0 = nI L) (hR : g 1 = R) (hk : okR R) (hw : (if kd b L e = 7 then (e, true) else pS5 b L (sz R) e) = (E, false)) : CT yC Z y_Ta_takePerson b_Ta_takePerson 5 (some (.boolean)) 6 131 [.ref (Z.2.1 (2)), .ref (Z.2.1 (14 + 12 * 1))] (g) (QcI yC Z 1 (va_up (va_up g 1 (perQ b L R e)) 5 (lexR b r L E))) := by
  have h := c_Ta_takePerson Z b r L e hL he R g h6 h5 h0 hR hk
  rw [hw] at h
  exact h

theorem c_Ta_takePerson_f (Z : ZT) (b r : Nat → Int32) (L e : Nat) (hL : L ≤ 120) (he : e ≤ L) (R : Nat → Int32) (E : Nat) (g : St)  (h6 : g 6 = b) (h5 : g 5 = lexR b r L e) (h0 : r 0 = nI L) (hR : g 1 = R) (hk : okR R) (hw : (if kd b L e = 7 then (e, true) else pS5 b L (sz R) e) = (E, true)) : CT yC Z y_Ta_takePerson b_Ta_takePerson 5 (some (.boolean)) 6 131 [.ref (Z.2.1 (2)), .ref (Z.2.1 (14 + 12 * 1))] (g) (QcI yC Z 0 (va_up (va_up g 1 (perQ b L R e)) 5 (lexR b r L E))) := by
  have h := c_Ta_takePerson Z b r L e hL he R g h6 h5 h0 hR hk
  rw [hw] at h
  exact h

theorem lexR_u4 {b r : Nat → Int32} {L e : Nat} {v : Int32} : lexR b (upd r 4 v) L e = lexR b r L e := by
  funext k
  unfold lexR upd
  by_cases h : k = 4
  · subst h; rfl
  · simp [h]

theorem va_idn1 {g : St} {a t : Nat} {R : Nat → Int32} (h : a ≠ t) : va_up (va_up g a (g a)) t R = va_up g t R := by rw [va_id]

set_option maxRecDepth 100000 in
set_option maxHeartbeats 600000 in
theorem c_Ta_readInto (Z : ZT) (L : Nat) (hL : L ≤ 120) (g : St)  (hk : okR (g 1)) (h0 : g 5 0 = nI L) : CT yC Z y_Ta_readInto b_Ta_readInto 5 (some (.int)) 7 155 [.ref (Z.2.1 (2)), .ref (Z.2.1 (14 + 12 * 1))] (g) (QcI yC Z (txA (g 6) L 61 0 (g 1) 0) (va_up (va_up g 1 (txR (g 6) L 61 (g 1) 0)) 5 (lexR (g 6) (g 5) L (txE (g 6) L 61 (g 1) 0)))) := by
  refine CT.mk "TunnelPeace$Tape" (by decide) rfl (Nat.le_of_ble_eq_true rfl) (fun X C => ?_)
  refine x_lv [0, 1] (lv' := [(0, .ref (Z.2.1 (2))), (1, .ref (Z.2.1 (14 + 12 * 1)))]) rfl ?_
  refine x_aload_n C d_Ta_readInto_0 0 rfl rfl ?_
  refine x_iconst C d_Ta_readInto_1 (v := 0) (by decide) ?_
  refine pf_Ta_end C (v := 0) (G := va_up g 5 (upd (g 5) 4 0)) rfl k_127 d_Ta_readInto_2 ?_
  refine x_aload_n C d_Ta_readInto_5 0 rfl rfl ?_
  refine x_callVv C (c_Ta_advance Z (g 6) L 0 hL (Nat.zero_le _) (va_up g 5 (upd (g 5) 4 0)) (va_up_ne _ _ (by decide)) (by rw [va_up_self]; exact (pk_un (by decide)).trans h0) (by rw [va_up_self]; exact pk_us)) mi_Ta_advance k_578 (show 2 < 50 by omega) (e_Ta Z _) rfl (As := []) ⟨Nat.le_of_ble_eq_true rfl, Nat.le_of_ble_eq_true rfl⟩ rfl rfl (Nat.le_of_ble_eq_true rfl) d_Ta_readInto_6 ?_
  refine x_eqg (g' := va_up g 5 (lexR (g 6) (g 5) L 0)) (by rw [bx_uu, va_up_self, lexR_u4]) ?_
  refine x_iconst C d_Ta_readInto_9 (v := 0) (by decide) ?_
  refine x_topi (show (0 : Int32) = nI 0 by decide) ?_
  refine x_istore_n C d_Ta_readInto_10 rfl (by decide) (lv' := [(2, .int (nI 0)), (0, .ref (Z.2.1 (2))), (1, .ref (Z.2.1 (14 + 12 * 1)))]) rfl ?_
  refine x_iconst C d_Ta_readInto_11 (v := 1) (by decide) ?_
  refine x_istore_n C d_Ta_readInto_12 rfl (by decide) (lv' := [(3, .int (1)), (2, .int (nI 0)), (0, .ref (Z.2.1 (2))), (1, .ref (Z.2.1 (14 + 12 * 1)))]) rfl ?_
  have LP_13 : ∀ (f_ i : Nat), i ≤ 61 → 61 - i < f_ → (rdI (g 6) L (g 1) i) → WX X 5 yC Z (QX X yC Z (QcI yC Z (txA (g 6) L 61 0 (g 1) 0) (va_up (va_up g 1 (txR (g 6) L 61 (g 1) 0)) 5 (lexR (g 6) (g 5) L (txE (g 6) L 61 (g 1) 0))))) (va_up (va_up g 1 ((itn (g 6) L (g 1) i).1)) 5 (lexR (g 6) (g 5) L (itn (g 6) L (g 1) i).2)) 13 [(3, .int (1)), (2, .int (nI i)), (0, .ref (Z.2.1 (2))), (1, .ref (Z.2.1 (14 + 12 * 1)))] [] := by
    intro f_
    induction f_ with
    | zero => intro i h1_ h2_ _; exact absurd h2_ (Nat.not_lt_zero _)
    | succ f_ ih_13 =>
      intro i hi_13 hf_13 hy_13
      have hyI := hy_13
      have hi60 : i ≤ 60 := by have z1_ := hyI.1; have z2_ := hyI.2.1; omega
      refine x_iload_n C d_Ta_readInto_13 0 rfl rfl ?_
      refine x_ifeq C d_Ta_readInto_14 87 (by decide) (fun c_1 => ?_) (fun c_1 => ?_)
      · exact absurd c_1 (by decide)
      · refine x_iload_n C d_Ta_readInto_17 1 rfl rfl ?_
        refine x_bipush C d_Ta_readInto_18 (v := 120) (by decide) ?_
        refine x_icmp_ge C d_Ta_readInto_20 87 (by decide) (fun c_2 => ?_) (fun c_2 => ?_)
        · exact absurd ((nI_leI (a := 120) (b := i) (by decide) (by omega)).mp (show nI 120 ≤ nI i from c_2)) (by omega)
        · have nc_2 := Int32.not_le.mp c_2
          have mc_2 : ¬ 120 ≤ i := fun z_ => (show ¬ nI 120 ≤ nI i from c_2) ((nI_leI (by omega) (by omega)).mpr z_)
          refine x_aload_n C d_Ta_readInto_23 2 rfl rfl ?_
          refine x_ldcS C d_Ta_readInto_24 0 rfl ?_
          by_cases c_3 : isW (g 6) L 0 (itn (g 6) L (g 1) i).2 = true
          · skip
            refine x_callVi C (c_Ta_takeWord_t Z (g 6) (g 5) L ((itn (g 6) L (g 1) i).2) hL hyI.2.1 0 (by decide) (va_up (va_up g 1 ((itn (g 6) L (g 1) i).1)) 5 (lexR (g 6) (g 5) L (itn (g 6) L (g 1) i).2)) (Eq.trans (va_up_ne _ _ (by omega)) (va_up_ne _ _ (by omega))) (va_up_self _ _ _) h0 (by with_reducible assumption)) mi_Ta_takeWord k_587 (show 2 < 50 by omega) (e_Ta Z _) rfl (As := [.ref (Z.2.2.2.2.1 0)]) ⟨Nat.le_of_ble_eq_true rfl, Nat.le_of_ble_eq_true rfl⟩ rfl rfl (Nat.le_of_ble_eq_true rfl) d_Ta_readInto_26 ?_
            refine x_eqg (g' := va_up (va_up g 1 ((itn (g 6) L (g 1) i).1)) 5 (lexR (g 6) (g 5) L (tnd (g 6) L ((itn (g 6) L (g 1) i).2)))) (bx_uu _ _ _ _) ?_
            refine x_ifeq C d_Ta_readInto_29 40 (by decide) (fun c_4 => ?_) (fun c_4 => ?_)
            · exact absurd c_4 (by decide)
            · refine x_aload_n C d_Ta_readInto_32 2 rfl rfl ?_
              refine x_aload_n C d_Ta_readInto_33 3 rfl rfl ?_
              obtain ⟨⟨E, wE⟩, hw⟩ : ∃ q : SS, nS (g 6) L 15 (nS (g 6) L 5 (tnd (g 6) L (itn (g 6) L (g 1) i).2, false)) = q := ⟨_, rfl⟩
              have hS : itS (g 6) L (sz (itn (g 6) L (g 1) i).1) (itn (g 6) L (g 1) i).2 = (E, wE) := by unfold itS; rw [if_pos (by with_reducible assumption)]; exact hw
              have hEL : E ≤ L := by have z_ := itS_le (b := g 6) (n := sz (itn (g 6) L (g 1) i).1) hyI.2.1; rw [hS] at z_; exact z_
              cases wE
              · have hQ : (if (nS (g 6) L 15 (nS (g 6) L 5 (tnd (g 6) L (itn (g 6) L (g 1) i).2, false))).2 = true then (itn (g 6) L (g 1) i).1 else upd (itn (g 6) L (g 1) i).1 (4 + tnm (g 6) L (tnd (g 6) L (itn (g 6) L (g 1) i).2)) (nI (tnm (g 6) L (tnd (g 6) L (tnd (g 6) L (itn (g 6) L (g 1) i).2))))) = itQ (g 6) L (itn (g 6) L (g 1) i).1 (itn (g 6) L (g 1) i).2 := by unfold itQ; exact (if_pos (by with_reducible assumption)).symm
                refine x_callVi C (c_Ta_takePlace_t Z (g 6) (g 5) L (tnd (g 6) L ((itn (g 6) L (g 1) i).2)) hL (tnd_le hyI.2.1) _ E (va_up (va_up g 1 ((itn (g 6) L (g 1) i).1)) 5 (lexR (g 6) (g 5) L (tnd (g 6) L ((itn (g 6) L (g 1) i).2)))) (Eq.trans (va_up_ne _ _ (by omega)) (va_up_ne _ _ (by omega))) (va_up_self _ _ _) h0 (Eq.trans (va_up_ne _ _ (by omega)) (va_up_self _ _ _)) hw) mi_Ta_takePlace k_639 (show 2 < 50 by omega) (e_Ta Z _) rfl (As := [.ref (Z.2.1 (14 + 12 * 1))]) ⟨Nat.le_of_ble_eq_true rfl, Nat.le_of_ble_eq_true rfl⟩ rfl rfl (Nat.le_of_ble_eq_true rfl) d_Ta_readInto_34 ?_
                refine x_eqg (g' := va_up (va_up g 1 (itQ (g 6) L (itn (g 6) L (g 1) i).1 (itn (g 6) L (g 1) i).2)) 5 (lexR (g 6) (g 5) L E)) (by rw [va_com (a := 1) (b := 5) (by decide), bx_uu, va_com (a := 5) (b := 1) (by decide), bx_uu, hQ]) ?_
                refine x_goto C d_Ta_readInto_37 62 (by decide) ?_
                refine x_istore C d_Ta_readInto_62 (by decide) (lv' := [(4, .int (1)), (3, .int (1)), (2, .int (nI i)), (0, .ref (Z.2.1 (2))), (1, .ref (Z.2.1 (14 + 12 * 1)))]) rfl ?_
                refine x_iload C d_Ta_readInto_64 0 rfl ?_
                refine x_ifne C d_Ta_readInto_66 76 (by decide) (fun c_5 => ?_) (fun c_5 => ?_)
                · refine x_iinc C d_Ta_readInto_76 2 rfl (v := nI (i + 1)) (nI_1 _) (by decide) (lv' := [(2, .int (nI (i + 1))), (4, .int (1)), (3, .int (1)), (0, .ref (Z.2.1 (2))), (1, .ref (Z.2.1 (14 + 12 * 1)))]) rfl ?_
                  refine x_aload_n C d_Ta_readInto_79 3 rfl rfl ?_
                  by_cases c_6 : tok (g 6) L E = 3
                  · skip
                    refine x_callVi C (c_Ta_takeSemicolon_t Z (g 6) (g 5) L E hL hEL (va_up (va_up g 1 (itQ (g 6) L (itn (g 6) L (g 1) i).1 (itn (g 6) L (g 1) i).2)) 5 (lexR (g 6) (g 5) L E)) (Eq.trans (va_up_ne _ _ (by omega)) (va_up_ne _ _ (by omega))) (va_up_self _ _ _) h0 (by with_reducible assumption)) mi_Ta_takeSemicolon k_682 (show 2 < 50 by omega) (e_Ta Z _) rfl (As := []) ⟨Nat.le_of_ble_eq_true rfl, Nat.le_of_ble_eq_true rfl⟩ rfl rfl (Nat.le_of_ble_eq_true rfl) d_Ta_readInto_80 ?_
                    refine x_eqg (g' := va_up (va_up g 1 (itQ (g 6) L (itn (g 6) L (g 1) i).1 (itn (g 6) L (g 1) i).2)) 5 (lexR (g 6) (g 5) L (tnd (g 6) L E))) (bx_uu _ _ _ _) ?_
                    refine x_istore_n C d_Ta_readInto_83 rfl (by decide) (lv' := [(3, .int (1)), (2, .int (nI (i + 1))), (4, .int (1)), (0, .ref (Z.2.1 (2))), (1, .ref (Z.2.1 (14 + 12 * 1)))]) rfl ?_
                    refine x_goto C d_Ta_readInto_84 13 (by decide) ?_
                    refine x_lv [0, 1, 3, 4] (lv' := [(3, .int (1)), (2, .int (nI (i + 1))), (0, .ref (Z.2.1 (2))), (1, .ref (Z.2.1 (14 + 12 * 1)))]) rfl ?_
                    refine x_eqg (g' := va_up (va_up g 1 ((itn (g 6) L (g 1) (i + 1)).1)) 5 (lexR (g 6) (g 5) L (itn (g 6) L (g 1) (i + 1)).2)) (by rw [show itn (g 6) L (g 1) (i + 1) = (itQ (g 6) L (itn (g 6) L (g 1) i).1 (itn (g 6) L (g 1) i).2, tnd (g 6) L (itS (g 6) L (sz (itn (g 6) L (g 1) i).1) (itn (g 6) L (g 1) i).2).1) from rfl, hS]) ?_
                    exact ih_13 (i + 1) (by omega) (by omega) (rdI_s hyI hi60 hS (by with_reducible assumption))
                  · skip
                    refine x_callVi C (c_Ta_takeSemicolon_f Z (g 6) (g 5) L E hL hEL (va_up (va_up g 1 (itQ (g 6) L (itn (g 6) L (g 1) i).1 (itn (g 6) L (g 1) i).2)) 5 (lexR (g 6) (g 5) L E)) (Eq.trans (va_up_ne _ _ (by omega)) (va_up_ne _ _ (by omega))) (va_up_self _ _ _) h0 (by with_reducible assumption)) mi_Ta_takeSemicolon k_682 (show 2 < 50 by omega) (e_Ta Z _) rfl (As := []) ⟨Nat.le_of_ble_eq_true rfl, Nat.le_of_ble_eq_true rfl⟩ rfl rfl (Nat.le_of_ble_eq_true rfl) d_Ta_readInto_80 ?_
                    refine x_istore_n C d_Ta_readInto_83 rfl (by decide) (lv' := [(3, .int (0)), (2, .int (nI (i + 1))), (4, .int (1)), (0, .ref (Z.2.1 (2))), (1, .ref (Z.2.1 (14 + 12 * 1)))]) rfl ?_
                    refine x_goto C d_Ta_readInto_84 13 (by decide) ?_
                    refine x_iload_n C d_Ta_readInto_13 0 rfl rfl ?_
                    refine x_ifeq C d_Ta_readInto_14 87 (by decide) (fun c_7 => ?_) (fun c_7 => ?_)
                    · refine x_aload_n C d_Ta_readInto_87 3 rfl rfl ?_
                      refine gf_Ta_token C (v := nI (tok (g 6) L E)) (Eq.trans (congrFun (va_up_self _ _ _) _) rfl) k_125 d_Ta_readInto_88 ?_
                      refine x_ifne C d_Ta_readInto_91 98 (by decide) (fun c_8 => ?_) (fun c_8 => ?_)
                      · refine x_iconst C d_Ta_readInto_98 (v := -1) (by decide) ?_
                        refine x_aload_n C d_Ta_readInto_99 3 rfl rfl ?_
                        refine gf_Ta_begin C (v := nI (skp (g 6) L E)) (Eq.trans (congrFun (va_up_self _ _ _) _) rfl) k_126 d_Ta_readInto_100 ?_
                        refine x_isub C d_Ta_readInto_103 ?_
                        obtain ⟨z1_, z2_, z3_⟩ := rd_end hyI hi60 hS (by with_reducible assumption)
                        exact x_iret C (by rw [← z1_, if_neg (fun z_ => absurd (tok0.mpr z_) (by with_reducible assumption))]) (by rw [z2_, z3_]) d_Ta_readInto_104
                      · refine x_iload_n C d_Ta_readInto_94 1 rfl rfl ?_
                        refine x_goto C d_Ta_readInto_95 104 (by decide) ?_
                        obtain ⟨z1_, z2_, z3_⟩ := rd_end hyI hi60 hS (by with_reducible assumption)
                        exact x_iret C (by rw [← z1_, if_pos ((tok0.mp (by with_reducible assumption)))]) (by rw [z2_, z3_]) d_Ta_readInto_104
                    · exact absurd c_7 (by decide)
                · exact absurd c_5 (by decide)
              · have hQ : (if (nS (g 6) L 15 (nS (g 6) L 5 (tnd (g 6) L (itn (g 6) L (g 1) i).2, false))).2 = true then (itn (g 6) L (g 1) i).1 else upd (itn (g 6) L (g 1) i).1 (4 + tnm (g 6) L (tnd (g 6) L (itn (g 6) L (g 1) i).2)) (nI (tnm (g 6) L (tnd (g 6) L (tnd (g 6) L (itn (g 6) L (g 1) i).2))))) = itQ (g 6) L (itn (g 6) L (g 1) i).1 (itn (g 6) L (g 1) i).2 := by unfold itQ; exact (if_pos (by with_reducible assumption)).symm
                refine x_callVi C (c_Ta_takePlace_f Z (g 6) (g 5) L (tnd (g 6) L ((itn (g 6) L (g 1) i).2)) hL (tnd_le hyI.2.1) _ E (va_up (va_up g 1 ((itn (g 6) L (g 1) i).1)) 5 (lexR (g 6) (g 5) L (tnd (g 6) L ((itn (g 6) L (g 1) i).2)))) (Eq.trans (va_up_ne _ _ (by omega)) (va_up_ne _ _ (by omega))) (va_up_self _ _ _) h0 (Eq.trans (va_up_ne _ _ (by omega)) (va_up_self _ _ _)) hw) mi_Ta_takePlace k_639 (show 2 < 50 by omega) (e_Ta Z _) rfl (As := [.ref (Z.2.1 (14 + 12 * 1))]) ⟨Nat.le_of_ble_eq_true rfl, Nat.le_of_ble_eq_true rfl⟩ rfl rfl (Nat.le_of_ble_eq_true rfl) d_Ta_readInto_34 ?_
                refine x_eqg (g' := va_up (va_up g 1 (itQ (g 6) L (itn (g 6) L (g 1) i).1 (itn (g 6) L (g 1) i).2)) 5 (lexR (g 6) (g 5) L E)) (by rw [va_com (a := 1) (b := 5) (by decide), bx_uu, va_com (a := 5) (b := 1) (by decide), bx_uu, hQ]) ?_
                refine x_goto C d_Ta_readInto_37 62 (by decide) ?_
                refine x_istore C d_Ta_readInto_62 (by decide) (lv' := [(4, .int (0)), (3, .int (1)), (2, .int (nI i)), (0, .ref (Z.2.1 (2))), (1, .ref (Z.2.1 (14 + 12 * 1)))]) rfl ?_
                refine x_iload C d_Ta_readInto_64 0 rfl ?_
                refine x_ifne C d_Ta_readInto_66 76 (by decide) (fun c_9 => ?_) (fun c_9 => ?_)
                · exact absurd c_9 (by decide)
                · refine x_iconst C d_Ta_readInto_69 (v := -1) (by decide) ?_
                  refine x_aload_n C d_Ta_readInto_70 3 rfl rfl ?_
                  refine gf_Ta_begin C (v := nI (skp (g 6) L E)) (Eq.trans (congrFun (va_up_self _ _ _) _) rfl) k_126 d_Ta_readInto_71 ?_
                  refine x_isub C d_Ta_readInto_74 ?_
                  obtain ⟨z1_, z2_, z3_⟩ := rd_fail hyI hi60 hS
                  exact x_iret C z1_ (by rw [z2_, z3_]) d_Ta_readInto_75
          · skip
            refine x_callVi C (c_Ta_takeWord_f Z (g 6) (g 5) L ((itn (g 6) L (g 1) i).2) hL hyI.2.1 0 (by decide) (va_up (va_up g 1 ((itn (g 6) L (g 1) i).1)) 5 (lexR (g 6) (g 5) L (itn (g 6) L (g 1) i).2)) (Eq.trans (va_up_ne _ _ (by omega)) (va_up_ne _ _ (by omega))) (va_up_self _ _ _) h0 (by with_reducible assumption)) mi_Ta_takeWord k_587 (show 2 < 50 by omega) (e_Ta Z _) rfl (As := [.ref (Z.2.2.2.2.1 0)]) ⟨Nat.le_of_ble_eq_true rfl, Nat.le_of_ble_eq_true rfl⟩ rfl rfl (Nat.le_of_ble_eq_true rfl) d_Ta_readInto_26 ?_
            refine x_ifeq C d_Ta_readInto_29 40 (by decide) (fun c_10 => ?_) (fun c_10 => ?_)
            · refine x_aload_n C d_Ta_readInto_40 2 rfl rfl ?_
              refine x_ldcS C d_Ta_readInto_41 1 rfl ?_
              by_cases c_11 : isW (g 6) L 1 (itn (g 6) L (g 1) i).2 = true
              · skip
                refine x_callVi C (c_Ta_takeWord_t Z (g 6) (g 5) L ((itn (g 6) L (g 1) i).2) hL hyI.2.1 1 (by decide) (va_up (va_up g 1 ((itn (g 6) L (g 1) i).1)) 5 (lexR (g 6) (g 5) L (itn (g 6) L (g 1) i).2)) (Eq.trans (va_up_ne _ _ (by omega)) (va_up_ne _ _ (by omega))) (va_up_self _ _ _) h0 (by with_reducible assumption)) mi_Ta_takeWord k_587 (show 2 < 50 by omega) (e_Ta Z _) rfl (As := [.ref (Z.2.2.2.2.1 1)]) ⟨Nat.le_of_ble_eq_true rfl, Nat.le_of_ble_eq_true rfl⟩ rfl rfl (Nat.le_of_ble_eq_true rfl) d_Ta_readInto_43 ?_
                refine x_eqg (g' := va_up (va_up g 1 ((itn (g 6) L (g 1) i).1)) 5 (lexR (g 6) (g 5) L (tnd (g 6) L ((itn (g 6) L (g 1) i).2)))) (bx_uu _ _ _ _) ?_
                refine x_ifeq C d_Ta_readInto_46 57 (by decide) (fun c_12 => ?_) (fun c_12 => ?_)
                · exact absurd c_12 (by decide)
                · refine x_aload_n C d_Ta_readInto_49 2 rfl rfl ?_
                  refine x_aload_n C d_Ta_readInto_50 3 rfl rfl ?_
                  obtain ⟨⟨E, wE⟩, hw⟩ : ∃ q : SS, nS (g 6) L 99 (tnd (g 6) L (itn (g 6) L (g 1) i).2, false) = q := ⟨_, rfl⟩
                  have hS : itS (g 6) L (sz (itn (g 6) L (g 1) i).1) (itn (g 6) L (g 1) i).2 = (E, wE) := by unfold itS; rw [if_neg (by with_reducible assumption), if_pos (by with_reducible assumption)]; exact hw
                  have hEL : E ≤ L := by have z_ := itS_le (b := g 6) (n := sz (itn (g 6) L (g 1) i).1) hyI.2.1; rw [hS] at z_; exact z_
                  cases wE
                  · have hQ : (if (nS (g 6) L 99 (tnd (g 6) L (itn (g 6) L (g 1) i).2, false)).2 = true then (itn (g 6) L (g 1) i).1 else upd (itn (g 6) L (g 1) i).1 3 (nI (tnm (g 6) L (tnd (g 6) L (itn (g 6) L (g 1) i).2)))) = itQ (g 6) L (itn (g 6) L (g 1) i).1 (itn (g 6) L (g 1) i).2 := by unfold itQ; exact ((if_neg (by with_reducible assumption)).trans (if_pos (by with_reducible assumption))).symm
                    refine x_callVi C (c_Ta_takeGuns_t Z (g 6) (g 5) L (tnd (g 6) L ((itn (g 6) L (g 1) i).2)) hL (tnd_le hyI.2.1) _ E (va_up (va_up g 1 ((itn (g 6) L (g 1) i).1)) 5 (lexR (g 6) (g 5) L (tnd (g 6) L ((itn (g 6) L (g 1) i).2)))) (Eq.trans (va_up_ne _ _ (by omega)) (va_up_ne _ _ (by omega))) (va_up_self _ _ _) h0 (Eq.trans (va_up_ne _ _ (by omega)) (va_up_self _ _ _)) hw) mi_Ta_takeGuns k_648 (show 2 < 50 by omega) (e_Ta Z _) rfl (As := [.ref (Z.2.1 (14 + 12 * 1))]) ⟨Nat.le_of_ble_eq_true rfl, Nat.le_of_ble_eq_true rfl⟩ rfl rfl (Nat.le_of_ble_eq_true rfl) d_Ta_readInto_51 ?_
                    refine x_eqg (g' := va_up (va_up g 1 (itQ (g 6) L (itn (g 6) L (g 1) i).1 (itn (g 6) L (g 1) i).2)) 5 (lexR (g 6) (g 5) L E)) (by rw [va_com (a := 1) (b := 5) (by decide), bx_uu, va_com (a := 5) (b := 1) (by decide), bx_uu, hQ]) ?_
                    refine x_goto C d_Ta_readInto_54 62 (by decide) ?_
                    refine x_istore C d_Ta_readInto_62 (by decide) (lv' := [(4, .int (1)), (3, .int (1)), (2, .int (nI i)), (0, .ref (Z.2.1 (2))), (1, .ref (Z.2.1 (14 + 12 * 1)))]) rfl ?_
                    refine x_iload C d_Ta_readInto_64 0 rfl ?_
                    refine x_ifne C d_Ta_readInto_66 76 (by decide) (fun c_13 => ?_) (fun c_13 => ?_)
                    · refine x_iinc C d_Ta_readInto_76 2 rfl (v := nI (i + 1)) (nI_1 _) (by decide) (lv' := [(2, .int (nI (i + 1))), (4, .int (1)), (3, .int (1)), (0, .ref (Z.2.1 (2))), (1, .ref (Z.2.1 (14 + 12 * 1)))]) rfl ?_
                      refine x_aload_n C d_Ta_readInto_79 3 rfl rfl ?_
                      by_cases c_14 : tok (g 6) L E = 3
                      · skip
                        refine x_callVi C (c_Ta_takeSemicolon_t Z (g 6) (g 5) L E hL hEL (va_up (va_up g 1 (itQ (g 6) L (itn (g 6) L (g 1) i).1 (itn (g 6) L (g 1) i).2)) 5 (lexR (g 6) (g 5) L E)) (Eq.trans (va_up_ne _ _ (by omega)) (va_up_ne _ _ (by omega))) (va_up_self _ _ _) h0 (by with_reducible assumption)) mi_Ta_takeSemicolon k_682 (show 2 < 50 by omega) (e_Ta Z _) rfl (As := []) ⟨Nat.le_of_ble_eq_true rfl, Nat.le_of_ble_eq_true rfl⟩ rfl rfl (Nat.le_of_ble_eq_true rfl) d_Ta_readInto_80 ?_
                        refine x_eqg (g' := va_up (va_up g 1 (itQ (g 6) L (itn (g 6) L (g 1) i).1 (itn (g 6) L (g 1) i).2)) 5 (lexR (g 6) (g 5) L (tnd (g 6) L E))) (bx_uu _ _ _ _) ?_
                        refine x_istore_n C d_Ta_readInto_83 rfl (by decide) (lv' := [(3, .int (1)), (2, .int (nI (i + 1))), (4, .int (1)), (0, .ref (Z.2.1 (2))), (1, .ref (Z.2.1 (14 + 12 * 1)))]) rfl ?_
                        refine x_goto C d_Ta_readInto_84 13 (by decide) ?_
                        refine x_lv [0, 1, 3, 4] (lv' := [(3, .int (1)), (2, .int (nI (i + 1))), (0, .ref (Z.2.1 (2))), (1, .ref (Z.2.1 (14 + 12 * 1)))]) rfl ?_
                        refine x_eqg (g' := va_up (va_up g 1 ((itn (g 6) L (g 1) (i + 1)).1)) 5 (lexR (g 6) (g 5) L (itn (g 6) L (g 1) (i + 1)).2)) (by rw [show itn (g 6) L (g 1) (i + 1) = (itQ (g 6) L (itn (g 6) L (g 1) i).1 (itn (g 6) L (g 1) i).2, tnd (g 6) L (itS (g 6) L (sz (itn (g 6) L (g 1) i).1) (itn (g 6) L (g 1) i).2).1) from rfl, hS]) ?_
                        exact ih_13 (i + 1) (by omega) (by omega) (rdI_s hyI hi60 hS (by with_reducible assumption))
                      · skip
                        refine x_callVi C (c_Ta_takeSemicolon_f Z (g 6) (g 5) L E hL hEL (va_up (va_up g 1 (itQ (g 6) L (itn (g 6) L (g 1) i).1 (itn (g 6) L (g 1) i).2)) 5 (lexR (g 6) (g 5) L E)) (Eq.trans (va_up_ne _ _ (by omega)) (va_up_ne _ _ (by omega))) (va_up_self _ _ _) h0 (by with_reducible assumption)) mi_Ta_takeSemicolon k_682 (show 2 < 50 by omega) (e_Ta Z _) rfl (As := []) ⟨Nat.le_of_ble_eq_true rfl, Nat.le_of_ble_eq_true rfl⟩ rfl rfl (Nat.le_of_ble_eq_true rfl) d_Ta_readInto_80 ?_
                        refine x_istore_n C d_Ta_readInto_83 rfl (by decide) (lv' := [(3, .int (0)), (2, .int (nI (i + 1))), (4, .int (1)), (0, .ref (Z.2.1 (2))), (1, .ref (Z.2.1 (14 + 12 * 1)))]) rfl ?_
                        refine x_goto C d_Ta_readInto_84 13 (by decide) ?_
                        refine x_iload_n C d_Ta_readInto_13 0 rfl rfl ?_
                        refine x_ifeq C d_Ta_readInto_14 87 (by decide) (fun c_15 => ?_) (fun c_15 => ?_)
                        · refine x_aload_n C d_Ta_readInto_87 3 rfl rfl ?_
                          refine gf_Ta_token C (v := nI (tok (g 6) L E)) (Eq.trans (congrFun (va_up_self _ _ _) _) rfl) k_125 d_Ta_readInto_88 ?_
                          refine x_ifne C d_Ta_readInto_91 98 (by decide) (fun c_16 => ?_) (fun c_16 => ?_)
                          · refine x_iconst C d_Ta_readInto_98 (v := -1) (by decide) ?_
                            refine x_aload_n C d_Ta_readInto_99 3 rfl rfl ?_
                            refine gf_Ta_begin C (v := nI (skp (g 6) L E)) (Eq.trans (congrFun (va_up_self _ _ _) _) rfl) k_126 d_Ta_readInto_100 ?_
                            refine x_isub C d_Ta_readInto_103 ?_
                            obtain ⟨z1_, z2_, z3_⟩ := rd_end hyI hi60 hS (by with_reducible assumption)
                            exact x_iret C (by rw [← z1_, if_neg (fun z_ => absurd (tok0.mpr z_) (by with_reducible assumption))]) (by rw [z2_, z3_]) d_Ta_readInto_104
                          · refine x_iload_n C d_Ta_readInto_94 1 rfl rfl ?_
                            refine x_goto C d_Ta_readInto_95 104 (by decide) ?_
                            obtain ⟨z1_, z2_, z3_⟩ := rd_end hyI hi60 hS (by with_reducible assumption)
                            exact x_iret C (by rw [← z1_, if_pos ((tok0.mp (by with_reducible assumption)))]) (by rw [z2_, z3_]) d_Ta_readInto_104
                        · exact absurd c_15 (by decide)
                    · exact absurd c_13 (by decide)
                  · have hQ : (if (nS (g 6) L 99 (tnd (g 6) L (itn (g 6) L (g 1) i).2, false)).2 = true then (itn (g 6) L (g 1) i).1 else upd (itn (g 6) L (g 1) i).1 3 (nI (tnm (g 6) L (tnd (g 6) L (itn (g 6) L (g 1) i).2)))) = itQ (g 6) L (itn (g 6) L (g 1) i).1 (itn (g 6) L (g 1) i).2 := by unfold itQ; exact ((if_neg (by with_reducible assumption)).trans (if_pos (by with_reducible assumption))).symm
                    refine x_callVi C (c_Ta_takeGuns_f Z (g 6) (g 5) L (tnd (g 6) L ((itn (g 6) L (g 1) i).2)) hL (tnd_le hyI.2.1) _ E (va_up (va_up g 1 ((itn (g 6) L (g 1) i).1)) 5 (lexR (g 6) (g 5) L (tnd (g 6) L ((itn (g 6) L (g 1) i).2)))) (Eq.trans (va_up_ne _ _ (by omega)) (va_up_ne _ _ (by omega))) (va_up_self _ _ _) h0 (Eq.trans (va_up_ne _ _ (by omega)) (va_up_self _ _ _)) hw) mi_Ta_takeGuns k_648 (show 2 < 50 by omega) (e_Ta Z _) rfl (As := [.ref (Z.2.1 (14 + 12 * 1))]) ⟨Nat.le_of_ble_eq_true rfl, Nat.le_of_ble_eq_true rfl⟩ rfl rfl (Nat.le_of_ble_eq_true rfl) d_Ta_readInto_51 ?_
                    refine x_eqg (g' := va_up (va_up g 1 (itQ (g 6) L (itn (g 6) L (g 1) i).1 (itn (g 6) L (g 1) i).2)) 5 (lexR (g 6) (g 5) L E)) (by rw [va_com (a := 1) (b := 5) (by decide), bx_uu, va_com (a := 5) (b := 1) (by decide), bx_uu, hQ]) ?_
                    refine x_goto C d_Ta_readInto_54 62 (by decide) ?_
                    refine x_istore C d_Ta_readInto_62 (by decide) (lv' := [(4, .int (0)), (3, .int (1)), (2, .int (nI i)), (0, .ref (Z.2.1 (2))), (1, .ref (Z.2.1 (14 + 12 * 1)))]) rfl ?_
                    refine x_iload C d_Ta_readInto_64 0 rfl ?_
                    refine x_ifne C d_Ta_readInto_66 76 (by decide) (fun c_17 => ?_) (fun c_17 => ?_)
                    · exact absurd c_17 (by decide)
                    · refine x_iconst C d_Ta_readInto_69 (v := -1) (by decide) ?_
                      refine x_aload_n C d_Ta_readInto_70 3 rfl rfl ?_
                      refine gf_Ta_begin C (v := nI (skp (g 6) L E)) (Eq.trans (congrFun (va_up_self _ _ _) _) rfl) k_126 d_Ta_readInto_71 ?_
                      refine x_isub C d_Ta_readInto_74 ?_
                      obtain ⟨z1_, z2_, z3_⟩ := rd_fail hyI hi60 hS
                      exact x_iret C z1_ (by rw [z2_, z3_]) d_Ta_readInto_75
              · skip
                refine x_callVi C (c_Ta_takeWord_f Z (g 6) (g 5) L ((itn (g 6) L (g 1) i).2) hL hyI.2.1 1 (by decide) (va_up (va_up g 1 ((itn (g 6) L (g 1) i).1)) 5 (lexR (g 6) (g 5) L (itn (g 6) L (g 1) i).2)) (Eq.trans (va_up_ne _ _ (by omega)) (va_up_ne _ _ (by omega))) (va_up_self _ _ _) h0 (by with_reducible assumption)) mi_Ta_takeWord k_587 (show 2 < 50 by omega) (e_Ta Z _) rfl (As := [.ref (Z.2.2.2.2.1 1)]) ⟨Nat.le_of_ble_eq_true rfl, Nat.le_of_ble_eq_true rfl⟩ rfl rfl (Nat.le_of_ble_eq_true rfl) d_Ta_readInto_43 ?_
                refine x_ifeq C d_Ta_readInto_46 57 (by decide) (fun c_18 => ?_) (fun c_18 => ?_)
                · refine x_aload_n C d_Ta_readInto_57 2 rfl rfl ?_
                  refine x_aload_n C d_Ta_readInto_58 3 rfl rfl ?_
                  obtain ⟨⟨E, wE⟩, hw⟩ : ∃ q : SS, (if kd (g 6) L (itn (g 6) L (g 1) i).2 = 7 then ((itn (g 6) L (g 1) i).2, true) else pS5 (g 6) L (sz (itn (g 6) L (g 1) i).1) (itn (g 6) L (g 1) i).2) = q := ⟨_, rfl⟩
                  have hS : itS (g 6) L (sz (itn (g 6) L (g 1) i).1) (itn (g 6) L (g 1) i).2 = (E, wE) := by unfold itS; rw [if_neg (by with_reducible assumption), if_neg (by with_reducible assumption)]; exact hw
                  have hEL : E ≤ L := by have z_ := itS_le (b := g 6) (n := sz (itn (g 6) L (g 1) i).1) hyI.2.1; rw [hS] at z_; exact z_
                  cases wE
                  · have hQ : perQ (g 6) L (itn (g 6) L (g 1) i).1 (itn (g 6) L (g 1) i).2 = itQ (g 6) L (itn (g 6) L (g 1) i).1 (itn (g 6) L (g 1) i).2 := by unfold itQ; exact ((if_neg (by with_reducible assumption)).trans (if_neg (by with_reducible assumption))).symm
                    refine x_callVi C (c_Ta_takePerson_t Z (g 6) (g 5) L ((itn (g 6) L (g 1) i).2) hL hyI.2.1 _ E (va_up (va_up g 1 ((itn (g 6) L (g 1) i).1)) 5 (lexR (g 6) (g 5) L (itn (g 6) L (g 1) i).2)) (Eq.trans (va_up_ne _ _ (by omega)) (va_up_ne _ _ (by omega))) (va_up_self _ _ _) h0 (Eq.trans (va_up_ne _ _ (by omega)) (va_up_self _ _ _)) (hyI).2.2.1 hw) mi_Ta_takePerson k_652 (show 2 < 50 by omega) (e_Ta Z _) rfl (As := [.ref (Z.2.1 (14 + 12 * 1))]) ⟨Nat.le_of_ble_eq_true rfl, Nat.le_of_ble_eq_true rfl⟩ rfl rfl (Nat.le_of_ble_eq_true rfl) d_Ta_readInto_59 ?_
                    refine x_eqg (g' := va_up (va_up g 1 (itQ (g 6) L (itn (g 6) L (g 1) i).1 (itn (g 6) L (g 1) i).2)) 5 (lexR (g 6) (g 5) L E)) (by rw [va_com (a := 1) (b := 5) (by decide), bx_uu, va_com (a := 5) (b := 1) (by decide), bx_uu, hQ]) ?_
                    refine x_istore C d_Ta_readInto_62 (by decide) (lv' := [(4, .int (1)), (3, .int (1)), (2, .int (nI i)), (0, .ref (Z.2.1 (2))), (1, .ref (Z.2.1 (14 + 12 * 1)))]) rfl ?_
                    refine x_iload C d_Ta_readInto_64 0 rfl ?_
                    refine x_ifne C d_Ta_readInto_66 76 (by decide) (fun c_19 => ?_) (fun c_19 => ?_)
                    · refine x_iinc C d_Ta_readInto_76 2 rfl (v := nI (i + 1)) (nI_1 _) (by decide) (lv' := [(2, .int (nI (i + 1))), (4, .int (1)), (3, .int (1)), (0, .ref (Z.2.1 (2))), (1, .ref (Z.2.1 (14 + 12 * 1)))]) rfl ?_
                      refine x_aload_n C d_Ta_readInto_79 3 rfl rfl ?_
                      by_cases c_20 : tok (g 6) L E = 3
                      · skip
                        refine x_callVi C (c_Ta_takeSemicolon_t Z (g 6) (g 5) L E hL hEL (va_up (va_up g 1 (itQ (g 6) L (itn (g 6) L (g 1) i).1 (itn (g 6) L (g 1) i).2)) 5 (lexR (g 6) (g 5) L E)) (Eq.trans (va_up_ne _ _ (by omega)) (va_up_ne _ _ (by omega))) (va_up_self _ _ _) h0 (by with_reducible assumption)) mi_Ta_takeSemicolon k_682 (show 2 < 50 by omega) (e_Ta Z _) rfl (As := []) ⟨Nat.le_of_ble_eq_true rfl, Nat.le_of_ble_eq_true rfl⟩ rfl rfl (Nat.le_of_ble_eq_true rfl) d_Ta_readInto_80 ?_
                        refine x_eqg (g' := va_up (va_up g 1 (itQ (g 6) L (itn (g 6) L (g 1) i).1 (itn (g 6) L (g 1) i).2)) 5 (lexR (g 6) (g 5) L (tnd (g 6) L E))) (bx_uu _ _ _ _) ?_
                        refine x_istore_n C d_Ta_readInto_83 rfl (by decide) (lv' := [(3, .int (1)), (2, .int (nI (i + 1))), (4, .int (1)), (0, .ref (Z.2.1 (2))), (1, .ref (Z.2.1 (14 + 12 * 1)))]) rfl ?_
                        refine x_goto C d_Ta_readInto_84 13 (by decide) ?_
                        refine x_lv [0, 1, 3, 4] (lv' := [(3, .int (1)), (2, .int (nI (i + 1))), (0, .ref (Z.2.1 (2))), (1, .ref (Z.2.1 (14 + 12 * 1)))]) rfl ?_
                        refine x_eqg (g' := va_up (va_up g 1 ((itn (g 6) L (g 1) (i + 1)).1)) 5 (lexR (g 6) (g 5) L (itn (g 6) L (g 1) (i + 1)).2)) (by rw [show itn (g 6) L (g 1) (i + 1) = (itQ (g 6) L (itn (g 6) L (g 1) i).1 (itn (g 6) L (g 1) i).2, tnd (g 6) L (itS (g 6) L (sz (itn (g 6) L (g 1) i).1) (itn (g 6) L (g 1) i).2).1) from rfl, hS]) ?_
                        exact ih_13 (i + 1) (by omega) (by omega) (rdI_s hyI hi60 hS (by with_reducible assumption))
                      · skip
                        refine x_callVi C (c_Ta_takeSemicolon_f Z (g 6) (g 5) L E hL hEL (va_up (va_up g 1 (itQ (g 6) L (itn (g 6) L (g 1) i).1 (itn (g 6) L (g 1) i).2)) 5 (lexR (g 6) (g 5) L E)) (Eq.trans (va_up_ne _ _ (by omega)) (va_up_ne _ _ (by omega))) (va_up_self _ _ _) h0 (by with_reducible assumption)) mi_Ta_takeSemicolon k_682 (show 2 < 50 by omega) (e_Ta Z _) rfl (As := []) ⟨Nat.le_of_ble_eq_true rfl, Nat.le_of_ble_eq_true rfl⟩ rfl rfl (Nat.le_of_ble_eq_true rfl) d_Ta_readInto_80 ?_
                        refine x_istore_n C d_Ta_readInto_83 rfl (by decide) (lv' := [(3, .int (0)), (2, .int (nI (i + 1))), (4, .int (1)), (0, .ref (Z.2.1 (2))), (1, .ref (Z.2.1 (14 + 12 * 1)))]) rfl ?_
                        refine x_goto C d_Ta_readInto_84 13 (by decide) ?_
                        refine x_iload_n C d_Ta_readInto_13 0 rfl rfl ?_
                        refine x_ifeq C d_Ta_readInto_14 87 (by decide) (fun c_21 => ?_) (fun c_21 => ?_)
                        · refine x_aload_n C d_Ta_readInto_87 3 rfl rfl ?_
                          refine gf_Ta_token C (v := nI (tok (g 6) L E)) (Eq.trans (congrFun (va_up_self _ _ _) _) rfl) k_125 d_Ta_readInto_88 ?_
                          refine x_ifne C d_Ta_readInto_91 98 (by decide) (fun c_22 => ?_) (fun c_22 => ?_)
                          · refine x_iconst C d_Ta_readInto_98 (v := -1) (by decide) ?_
                            refine x_aload_n C d_Ta_readInto_99 3 rfl rfl ?_
                            refine gf_Ta_begin C (v := nI (skp (g 6) L E)) (Eq.trans (congrFun (va_up_self _ _ _) _) rfl) k_126 d_Ta_readInto_100 ?_
                            refine x_isub C d_Ta_readInto_103 ?_
                            obtain ⟨z1_, z2_, z3_⟩ := rd_end hyI hi60 hS (by with_reducible assumption)
                            exact x_iret C (by rw [← z1_, if_neg (fun z_ => absurd (tok0.mpr z_) (by with_reducible assumption))]) (by rw [z2_, z3_]) d_Ta_readInto_104
                          · refine x_iload_n C d_Ta_readInto_94 1 rfl rfl ?_
                            refine x_goto C d_Ta_readInto_95 104 (by decide) ?_
                            obtain ⟨z1_, z2_, z3_⟩ := rd_end hyI hi60 hS (by with_reducible assumption)
                            exact x_iret C (by rw [← z1_, if_pos ((tok0.mp (by with_reducible assumption)))]) (by rw [z2_, z3_]) d_Ta_readInto_104
                        · exact absurd c_21 (by decide)
                    · exact absurd c_19 (by decide)
                  · have hQ : perQ (g 6) L (itn (g 6) L (g 1) i).1 (itn (g 6) L (g 1) i).2 = itQ (g 6) L (itn (g 6) L (g 1) i).1 (itn (g 6) L (g 1) i).2 := by unfold itQ; exact ((if_neg (by with_reducible assumption)).trans (if_neg (by with_reducible assumption))).symm
                    refine x_callVi C (c_Ta_takePerson_f Z (g 6) (g 5) L ((itn (g 6) L (g 1) i).2) hL hyI.2.1 _ E (va_up (va_up g 1 ((itn (g 6) L (g 1) i).1)) 5 (lexR (g 6) (g 5) L (itn (g 6) L (g 1) i).2)) (Eq.trans (va_up_ne _ _ (by omega)) (va_up_ne _ _ (by omega))) (va_up_self _ _ _) h0 (Eq.trans (va_up_ne _ _ (by omega)) (va_up_self _ _ _)) (hyI).2.2.1 hw) mi_Ta_takePerson k_652 (show 2 < 50 by omega) (e_Ta Z _) rfl (As := [.ref (Z.2.1 (14 + 12 * 1))]) ⟨Nat.le_of_ble_eq_true rfl, Nat.le_of_ble_eq_true rfl⟩ rfl rfl (Nat.le_of_ble_eq_true rfl) d_Ta_readInto_59 ?_
                    refine x_eqg (g' := va_up (va_up g 1 (itQ (g 6) L (itn (g 6) L (g 1) i).1 (itn (g 6) L (g 1) i).2)) 5 (lexR (g 6) (g 5) L E)) (by rw [va_com (a := 1) (b := 5) (by decide), bx_uu, va_com (a := 5) (b := 1) (by decide), bx_uu, hQ]) ?_
                    refine x_istore C d_Ta_readInto_62 (by decide) (lv' := [(4, .int (0)), (3, .int (1)), (2, .int (nI i)), (0, .ref (Z.2.1 (2))), (1, .ref (Z.2.1 (14 + 12 * 1)))]) rfl ?_
                    refine x_iload C d_Ta_readInto_64 0 rfl ?_
                    refine x_ifne C d_Ta_readInto_66 76 (by decide) (fun c_23 => ?_) (fun c_23 => ?_)
                    · exact absurd c_23 (by decide)
                    · refine x_iconst C d_Ta_readInto_69 (v := -1) (by decide) ?_
                      refine x_aload_n C d_Ta_readInto_70 3 rfl rfl ?_
                      refine gf_Ta_begin C (v := nI (skp (g 6) L E)) (Eq.trans (congrFun (va_up_self _ _ _) _) rfl) k_126 d_Ta_readInto_71 ?_
                      refine x_isub C d_Ta_readInto_74 ?_
                      obtain ⟨z1_, z2_, z3_⟩ := rd_fail hyI hi60 hS
                      exact x_iret C z1_ (by rw [z2_, z3_]) d_Ta_readInto_75
                · exact absurd c_18 (by decide)
            · exact absurd c_10 (by decide)
  refine x_eqg (g' := va_up (va_up g 1 ((itn (g 6) L (g 1) 0).1)) 5 (lexR (g 6) (g 5) L (itn (g 6) L (g 1) 0).2)) (va_idn1 (by decide)).symm ?_
  exact LP_13 (61 + 1) 0 (Nat.zero_le _) (by omega) ⟨Nat.zero_le _, Nat.zero_le _, hk, rfl, rfl, rfl⟩
