theorem itC_ok {b : Nat → Int32} {L n e c : Nat} (h : (itS b L n e).2 = false) : itC b L e c = c + 1 := by
  unfold itS at h
  unfold itC
  by_cases hk : kd b L e = 7
  · rw [if_neg (not_not_intro hk)]
    by_cases h0 : isW b L 0 e = true
    · rw [if_pos h0]
    · rw [if_neg h0] at h ⊢
      by_cases h1 : isW b L 1 e = true
      · rw [if_pos h1]
      · rw [if_neg h1, if_pos hk] at h; cases h
  · rw [if_pos hk]
theorem sz_oR {b : Nat → Int32} {L i hi p f : Nat} {s : SS} {r : Nat → Int32} : sz (oR b L i hi p f s r) = sz r := by
  unfold oR
  split
  · unfold sz; rw [pk_un (by simp only [pI]; omega)]
  · rfl
theorem itP_ok {b : Nat → Int32} {L e : Nat} {r : Nat → Int32} (h : (itS b L (sz r) e).2 = false) : sz (itQ b L r e) = itP b L e (sz r) ∧ (¬ kd b L e = 7 → sz r < 8) := by
  unfold itS at h
  unfold itP itQ
  by_cases hk : kd b L e = 7
  · rw [if_neg (not_not_intro hk)]
    refine ⟨?_, fun z => absurd hk z⟩
    by_cases h0 : isW b L 0 e = true
    · rw [if_pos h0] at h ⊢
      rw [if_neg (by rw [h]; simp)]
      unfold sz; rw [pk_un (by omega)]
    · rw [if_neg h0] at h ⊢
      by_cases h1 : isW b L 1 e = true
      · rw [if_pos h1] at h ⊢
        rw [if_neg (by rw [h]; simp)]
        unfold sz; rw [pk_un (by omega)]
      · rw [if_neg h1, if_pos hk] at h; cases h
  · rw [if_pos hk]
    rw [if_neg (kd_no hk (by decide)), if_neg (kd_no hk (by decide)), if_neg hk] at h
    rw [if_neg (kd_no hk (by decide)), if_neg (kd_no hk (by decide))]
    have a5 := oS_w (s := pS4 b L (sz r) e) h
    have a4 := oS_w (s := pS3 b L (sz r) e) a5.1
    have a3 := oS_w (s := pS2 b L (sz r) e) a4.1
    have a2 := oS_w (s := pS1 b L (sz r) e) a3.1
    have a1 := nS_w (s := mS b L (sz r < 8) (e, false)) a2.1
    have a0 := mS_w (s := (e, false)) a1.1
    have hs8 : sz r < 8 := a0.2.1
    refine ⟨?_, fun _ => hs8⟩
    unfold perQ
    rw [if_neg (by rintro (z | z); exact hk z; rw [show (pS1 b L (sz r) e).2 = false from a2.1] at z; cases z)]
    unfold perR
    rw [sz_oR, sz_oR, sz_oR, sz_oR]
    unfold addR
    exact sz_of (n := sz r + 1) pk_us (by omega)
theorem itn_ok {b : Nat → Int32} {L : Nat} {R : Nat → Int32} (h : okR R) : ∀ i, okR (itn b L R i).1 := by
  intro i
  induction i with
  | zero => exact h
  | succ i ih => exact itQ_ok ih
theorem told_i {b : Nat → Int32} {L m k : Nat} {R ρ : Nat → Int32} (hk : k < m) (h : (itS b L (sz (itn b L R k).1) (itn b L R k).2).2 = false) : itok (itm b L R ρ m) (itn b L R k).1 k ∧ tol1 (itm b L R ρ m) (itn b L R k).1 k = (itn b L R (k + 1)).1 :=
  tol_it (ρ0 := itm b L R ρ k) h (fun j h1 h2 => by rw [itm_lo (i := k) hk (by omega)]; rfl)
theorem m1_neg {k : Nat} (h : k ≤ 120) : -1 - nI k < 0 := by
  rw [Int32.lt_iff_toInt_lt, Int32.toInt_sub, nI_toInt (by omega)]
  have : (-1 : Int32).toInt = -1 := by decide
  rw [this, Int32.toInt_zero, Int.bmod_eq_of_le (by omega) (by omega)]
  omega
theorem okS_c {b : Nat → Int32} {L n e : Nat} (hL : L ≤ 120) (he : e ≤ L) : e ≤ 120 := by omega

theorem x3_com {g : St} {A B C : Nat → Int32} : va_up (va_up (va_up g 7 A) 3 B) 0 C = va_up (va_up (va_up g 7 A) 0 C) 3 B := va_com (by decide)

set_option maxRecDepth 100000 in
set_option maxHeartbeats 600000 in
theorem c_Mo_text (Z : ZT) (L : Nat) (hL : L ≤ 120) (g : St)  (hk0 : okR (g 0)) (hr : g 3 6 = nI L) (hB : ∀ k, k < L → ¬ g 5 k < 0) : CT yM Z y_Mo_text b_Mo_text 2 (some (.int)) 8 177 [.ref (Z.2.1 (0))] (g) (QkI yM Z (txA (g 5) L 61 0 (g 0) 0) (fun u => ∃ τ σ : Nat → Int32, τ 3 = g 3 3 ∧ τ 6 = 0 ∧ u = va_up (va_up (va_up g 0 (if txA (g 5) L 61 0 (g 0) 0 < 0 then g 0 else txR (g 5) L 61 (g 0) 0)) 7 σ) 3 τ)) := by
  refine CT.mk "TunnelPeaceModel" (by decide) rfl (Nat.le_of_ble_eq_true rfl) (fun X C => ?_)
  refine x_lv [0] (lv' := [(0, .ref (Z.2.1 (0)))]) rfl ?_
  obtain ⟨⟨n, hn8, hn⟩, -⟩ := (show okR (g 0) from hk0)
  refine x_eqg (g' := va_up g 3 (mrw (g 3) (g 3 7) (g 3 8) (g 3 9) (g 3 10) (g 3 11) (g 3 14) (g 3 15))) mrw_id ?_
  refine x_aload_n C d_Mo_text_0 0 rfl rfl ?_
  refine x_iconst C d_Mo_text_1 (v := 0) (by decide) ?_
  refine pf_Mo_ends C (v := 0) (G := va_up g 3 (mrw (g 3) (g 3 7) 0 (g 3 9) (g 3 10) (g 3 11) (g 3 14) (g 3 15))) (Eq.trans up_va (congrArg (va_up _ _) mrw_8)) k_799 d_Mo_text_2 ?_
  refine x_aload_n C d_Mo_text_5 0 rfl rfl ?_
  refine x_iconst C d_Mo_text_6 (v := 0) (by decide) ?_
  refine pf_Mo_isWrong C (v := 0) (by decide) (G := va_up g 3 (mrw (g 3) (g 3 7) 0 (g 3 9) (g 3 10) 0 (g 3 14) (g 3 15))) (Eq.trans up_va (congrArg (va_up _ _) mrw_11)) k_802 d_Mo_text_7 ?_
  refine x_aload_n C d_Mo_text_10 0 rfl rfl ?_
  refine x_iconst C d_Mo_text_11 (v := 0) (by decide) ?_
  refine pf_Mo_itemMany C (v := 0) (G := va_up g 3 (mrw (g 3) (g 3 7) 0 (g 3 9) (g 3 10) 0 0 (g 3 15))) (Eq.trans up_va (congrArg (va_up _ _) mrw_14)) k_805 d_Mo_text_12 ?_
  refine x_aload_n C d_Mo_text_15 0 rfl rfl ?_
  refine x_aload_n C d_Mo_text_16 0 rfl rfl ?_
  refine gf_Mo_now C k_791 d_Mo_text_17 ?_
  refine x_iconst C d_Mo_text_20 (v := 1) (by decide) ?_
  refine al_m_now C 1 (v := nI n) (by decide) (by first | omega | (simp only [pI]; omega)) (Eq.trans (congrFun (va_up_ne _ _ (by omega)) _) hn) d_Mo_text_21 ?_
  refine pf_Mo_peopleThen C (v := nI n) (G := va_up g 3 (mrw (g 3) (g 3 7) 0 (g 3 9) (g 3 10) 0 0 (nI n))) (Eq.trans up_va (congrArg (va_up _ _) mrw_15)) k_806 d_Mo_text_22 ?_
  refine x_aload_n C d_Mo_text_25 0 rfl rfl ?_
  refine x_callVv C (c_Mo_token Z (g 5) (g 3) L 0 hL (Nat.zero_le _) (g 3 7) (g 3 9) (g 3 10) 0 0 (nI n) (va_up g 3 (mrw (g 3) (g 3 7) 0 (g 3 9) (g 3 10) 0 0 (nI n))) (va_up_ne _ _ (by decide)) (va_up_self _ _ _) hr hB) mi_Mo_token k_1152 (show 0 < 12 by omega) (m_0 Z _) rfl (As := []) ⟨Nat.le_of_ble_eq_true rfl, Nat.le_of_ble_eq_true rfl⟩ rfl rfl (Nat.le_of_ble_eq_true rfl) d_Mo_text_26 ?_
  refine x_eqg (g' := va_up g 3 (lxS (g 5) (g 3) L 0 0 (nI 0) (nI n))) (bx_uu _ _ _ _) ?_
  refine x_aload_n C d_Mo_text_29 0 rfl rfl ?_
  refine x_callVv C (c_Mo_readItem Z (g 5) (g 3) L 0 hL (Nat.zero_le _) 0 n (by decide) hn8 (va_up g 3 (lxS (g 5) (g 3) L 0 0 (nI 0) (nI n))) (va_up_ne _ _ (by decide)) (va_up_self _ _ _) hr hB) mi_Mo_readItem k_1160 (show 0 < 12 by omega) (m_0 Z _) rfl (As := []) ⟨Nat.le_of_ble_eq_true rfl, Nat.le_of_ble_eq_true rfl⟩ rfl rfl (Nat.le_of_ble_eq_true rfl) d_Mo_text_30 ?_
  refine x_eqg (g' := va_up (va_up g 7 (itI (g 5) L n 0 0 (g 7))) 3 (lxS (g 5) (g 3) L (itS (g 5) L n 0).1 (wI (itS (g 5) L n 0).2) (nI (itC (g 5) L 0 0)) (nI (itP (g 5) L 0 n)))) (by rw [va_up_ne _ _ (by decide), va_com (a := 3) (b := 7) (by decide), bx_uu]) ?_
  have LP_33 : ∀ (f_ i : Nat), i ≤ 61 → 61 - i < f_ → (rdI (g 5) L (g 0) i ∧ ∀ j, j < i → (itS (g 5) L (sz (itn (g 5) L (g 0) j).1) (itn (g 5) L (g 0) j).2).2 = false) → WX X 2 yM Z (QX X yM Z (QkI yM Z (txA (g 5) L 61 0 (g 0) 0) (fun u => ∃ τ σ : Nat → Int32, τ 3 = g 3 3 ∧ τ 6 = 0 ∧ u = va_up (va_up (va_up g 0 (if txA (g 5) L 61 0 (g 0) 0 < 0 then g 0 else txR (g 5) L 61 (g 0) 0)) 7 σ) 3 τ))) (va_up (va_up g 7 (itm (g 5) L (g 0) (g 7) (i + 1))) 3 (lxS (g 5) (g 3) L (itS (g 5) L (sz (itn (g 5) L (g 0) i).1) (itn (g 5) L (g 0) i).2).1 (wI (itS (g 5) L (sz (itn (g 5) L (g 0) i).1) (itn (g 5) L (g 0) i).2).2) (nI (itC (g 5) L (itn (g 5) L (g 0) i).2 i)) (nI (itP (g 5) L (itn (g 5) L (g 0) i).2 (sz (itn (g 5) L (g 0) i).1))))) 33 [(0, .ref (Z.2.1 (0)))] [] := by
    intro f_
    induction f_ with
    | zero => intro i h1_ h2_ _; exact absurd h2_ (Nat.not_lt_zero _)
    | succ f_ ih_33 =>
      intro i hi_33 hf_33 hy_33
      have hyI := hy_33.1
      have hyJ := hy_33.2
      have hi60 : i ≤ 60 := by have z1_ := hyI.1; have z2_ := hyI.2.1; omega
      refine x_aload_n C d_Mo_text_33 0 rfl rfl ?_
      obtain ⟨⟨E, wE⟩, hS⟩ : ∃ q : SS, itS (g 5) L (sz (itn (g 5) L (g 0) i).1) (itn (g 5) L (g 0) i).2 = q := ⟨_, rfl⟩
      have hEL : E ≤ L := by have z_ := itS_le (b := g 5) (n := sz (itn (g 5) L (g 0) i).1) hyI.2.1; rw [hS] at z_; exact z_
      have hj := skp_le (b := g 5) hEL
      have ht4 := tok_4 (b := g 5) (L := L) (e := E)
      cases wE
      · have hok : (itS (g 5) L (sz (itn (g 5) L (g 0) i).1) (itn (g 5) L (g 0) i).2).2 = false := by rw [hS]
        refine x_eqg (g' := va_up (va_up g 7 (itm (g 5) L (g 0) (g 7) (i + 1))) 3 (lxS (g 5) (g 3) L E 0 (nI (i + 1)) (nI (sz (itn (g 5) L (g 0) (i + 1)).1)))) (by rw [itC_ok hok, ← (itP_ok hok).1, hS]; rfl) ?_
        refine gf_Mo_isWrong C (v := 0) (Eq.trans (congrFun (va_up_self _ _ _) _) rfl) k_802 d_Mo_text_34 ?_
        refine x_ifne C d_Mo_text_37 74 (by decide) (fun c_1 => ?_) (fun c_1 => ?_)
        · exact absurd c_1 (by decide)
        · refine x_aload_n C d_Mo_text_40 0 rfl rfl ?_
          refine gf_Mo_sort C (v := nI (min 3 (tok (g 5) L E))) (Eq.trans (congrFun (va_up_self _ _ _) _) rfl) k_800 d_Mo_text_41 ?_
          refine x_iconst C d_Mo_text_44 (v := 3) (by decide) ?_
          refine x_icmp_ne C d_Mo_text_45 74 (by decide) (fun c_2 => ?_) (fun c_2 => ?_)
          · have nc_2 := Ne.symm c_2
            have mc_2 : ¬ (min 3 (tok (g 5) L E)) = 3 := fun z_ => (show ¬ nI (min 3 (tok (g 5) L E)) = nI 3 from c_2) ((nI_eq (by omega) (by omega)).mpr z_)
            refine x_aload_n C d_Mo_text_74 0 rfl rfl ?_
            refine x_aload_n C d_Mo_text_75 0 rfl rfl ?_
            refine gf_Mo_sort C (v := nI (min 3 (tok (g 5) L E))) (Eq.trans (congrFun (va_up_self _ _ _) _) rfl) k_800 d_Mo_text_76 ?_
            refine x_ifne C d_Mo_text_79 86 (by decide) (fun c_3 => ?_) (fun c_3 => ?_)
            · refine x_iconst C d_Mo_text_86 (v := 0) (by decide) ?_
              refine x_callVv C (c_Mo_must_f Z (g 5) (g 3) L E hL hEL (nI (i + 1)) (nI (sz (itn (g 5) L (g 0) (i + 1)).1)) (va_up (va_up g 7 (itm (g 5) L (g 0) (g 7) (i + 1))) 3 (lxS (g 5) (g 3) L E 0 (nI (i + 1)) (nI (sz (itn (g 5) L (g 0) (i + 1)).1)))) ((Eq.trans (va_up_ne _ _ (by omega)) (va_up_ne _ _ (by omega)))) ((va_up_self _ _ _)) hr hB) mi_Mo_must k_1174 (show 0 < 12 by omega) (m_0 Z _) rfl (As := [.int (0)]) ⟨Nat.le_of_ble_eq_true rfl, Nat.le_of_ble_eq_true rfl⟩ rfl rfl (Nat.le_of_ble_eq_true rfl) d_Mo_text_87 ?_
              refine x_eqg (g' := va_up (va_up g 7 (itm (g 5) L (g 0) (g 7) (i + 1))) 3 (lxS (g 5) (g 3) L E 1 (nI (i + 1)) (nI (sz (itn (g 5) L (g 0) (i + 1)).1)))) (bx_uu _ _ _ _) ?_
              refine x_aload_n C d_Mo_text_90 0 rfl rfl ?_
              refine x_iconst C d_Mo_text_91 (v := 0) (by decide) ?_
              refine pf_Mo_taped C (v := 0) (G := va_up (va_up g 7 (itm (g 5) L (g 0) (g 7) (i + 1))) 3 (upd (lxS (g 5) (g 3) L E 1 (nI (i + 1)) (nI (sz (itn (g 5) L (g 0) (i + 1)).1))) 6 0)) up_va k_797 d_Mo_text_92 ?_
              refine x_aload_n C d_Mo_text_95 0 rfl rfl ?_
              refine gf_Mo_isWrong C (v := 1) (Eq.trans (Eq.trans (congrFun (va_up_self _ _ _) _) (pk_un (by first | decide | (simp only [pI]; omega)))) rfl) k_802 d_Mo_text_96 ?_
              refine x_ifeq C d_Mo_text_99 109 (by decide) (fun c_4 => ?_) (fun c_4 => ?_)
              · exact absurd c_4 (by decide)
              · refine x_iconst C d_Mo_text_102 (v := -1) (by decide) ?_
                refine x_aload_n C d_Mo_text_103 0 rfl rfl ?_
                refine gf_Mo_begins C (v := nI (skp (g 5) L E)) (Eq.trans (Eq.trans (congrFun (va_up_self _ _ _) _) (pk_un (by first | decide | (simp only [pI]; omega)))) rfl) k_798 d_Mo_text_104 ?_
                refine x_isub C d_Mo_text_107 ?_
                have ht3 : ¬ tok (g 5) L E = 3 := fun z_ => by first | omega | exact absurd ((tkN_3.mp ((tok_eq hjl).symm.trans z_))) (by with_reducible assumption)
                obtain ⟨z1_, z2_, z3_⟩ := rd_end hyI hi60 hS ht3
                rw [if_neg (by have z_ := (show ¬ nI (min 3 (tok (g 5) L E)) = 0 by with_reducible assumption); intro z2_; apply z_; rw [z2_]; rfl)] at z1_
                exact x_iretK C z1_ ⟨(upd (lxS (g 5) (g 3) L E 1 (nI (i + 1)) (nI (sz (itn (g 5) L (g 0) (i + 1)).1))) 6 0), (itm (g 5) L (g 0) (g 7) (i + 1)), rfl, pk_us, (by rw [← z1_, if_pos (m1_neg (by omega)), va_id g 0])⟩ d_Mo_text_108
            · refine x_iconst C d_Mo_text_82 (v := 1) (by decide) ?_
              refine x_goto C d_Mo_text_83 87 (by decide) ?_
              refine x_callVv C (c_Mo_must_t Z (g 5) (g 3) L E hL hEL (nI (i + 1)) (nI (sz (itn (g 5) L (g 0) (i + 1)).1)) (va_up (va_up g 7 (itm (g 5) L (g 0) (g 7) (i + 1))) 3 (lxS (g 5) (g 3) L E 0 (nI (i + 1)) (nI (sz (itn (g 5) L (g 0) (i + 1)).1)))) ((Eq.trans (va_up_ne _ _ (by omega)) (va_up_ne _ _ (by omega)))) ((va_up_self _ _ _)) hr hB) mi_Mo_must k_1174 (show 0 < 12 by omega) (m_0 Z _) rfl (As := [.int (1)]) ⟨Nat.le_of_ble_eq_true rfl, Nat.le_of_ble_eq_true rfl⟩ rfl rfl (Nat.le_of_ble_eq_true rfl) d_Mo_text_87 ?_
              refine x_eqg (g' := va_up (va_up g 7 (itm (g 5) L (g 0) (g 7) (i + 1))) 3 (lxS (g 5) (g 3) L (tnd (g 5) L E) 0 (nI (i + 1)) (nI (sz (itn (g 5) L (g 0) (i + 1)).1)))) (bx_uu _ _ _ _) ?_
              refine x_aload_n C d_Mo_text_90 0 rfl rfl ?_
              refine x_iconst C d_Mo_text_91 (v := 0) (by decide) ?_
              refine pf_Mo_taped C (v := 0) (G := va_up (va_up g 7 (itm (g 5) L (g 0) (g 7) (i + 1))) 3 (upd (lxS (g 5) (g 3) L (tnd (g 5) L E) 0 (nI (i + 1)) (nI (sz (itn (g 5) L (g 0) (i + 1)).1))) 6 0)) up_va k_797 d_Mo_text_92 ?_
              refine x_aload_n C d_Mo_text_95 0 rfl rfl ?_
              refine gf_Mo_isWrong C (v := 0) (Eq.trans (Eq.trans (congrFun (va_up_self _ _ _) _) (pk_un (by first | decide | (simp only [pI]; omega)))) rfl) k_802 d_Mo_text_96 ?_
              refine x_ifeq C d_Mo_text_99 109 (by decide) (fun c_5 => ?_) (fun c_5 => ?_)
              · have ht0 : tok (g 5) L E = 0 := by have z_ := (nI_eq (b := 0) (by omega) (by decide)).mp (show nI (min 3 (tok (g 5) L E)) = nI 0 by assumption); omega
                have hall : ∀ j, j < i + 1 → (itS (g 5) L (sz (itn (g 5) L (g 0) j).1) (itn (g 5) L (g 0) j).2).2 = false := fun j hj_ => by by_cases hji : j = i; (rw [hji]; exact hok); exact hyJ j (by omega)
                refine x_iconst C d_Mo_text_109 (v := 0) (by decide) ?_
                refine x_topi (show (0 : Int32) = nI 0 by decide) ?_
                refine x_istore_n C d_Mo_text_110 rfl (by decide) (lv' := [(1, .int (nI 0)), (0, .ref (Z.2.1 (0)))]) rfl ?_
                have LP_111 : ∀ (f_ k : Nat), k ≤ i + 1 → (i + 1) - k < f_ → WX X 2 yM Z (QX X yM Z (QkI yM Z (txA (g 5) L 61 0 (g 0) 0) (fun u => ∃ τ σ : Nat → Int32, τ 3 = g 3 3 ∧ τ 6 = 0 ∧ u = va_up (va_up (va_up g 0 (if txA (g 5) L 61 0 (g 0) 0 < 0 then g 0 else txR (g 5) L 61 (g 0) 0)) 7 σ) 3 τ))) (va_up (va_up (va_up g 7 (itm (g 5) L (g 0) (g 7) (i + 1))) 3 (upd (lxS (g 5) (g 3) L (tnd (g 5) L E) 0 (nI (i + 1)) (nI (sz (itn (g 5) L (g 0) (i + 1)).1))) 6 0)) 0 ((itn (g 5) L (g 0) k).1)) 111 [(1, .int (nI k)), (0, .ref (Z.2.1 (0)))] [] := by
                  intro f_
                  induction f_ with
                  | zero => intro k h1_ h2_; exact absurd h2_ (Nat.not_lt_zero _)
                  | succ f_ ih_111 =>
                    intro k hi_111 hf_111
                    refine x_iload_n C d_Mo_text_111 0 rfl rfl ?_
                    refine x_aload_n C d_Mo_text_112 1 rfl rfl ?_
                    refine gf_Mo_itemMany C (v := nI (i + 1)) (Eq.trans (Eq.trans (congrFun (Eq.trans (va_up_ne _ _ (by omega)) (va_up_self _ _ _)) _) (pk_un (by first | decide | (simp only [pI]; omega)))) rfl) k_805 d_Mo_text_113 ?_
                    refine x_icmp_ge C d_Mo_text_116 133 (by decide) (fun c_6 => ?_) (fun c_6 => ?_)
                    · have nc_6 := Int32.not_lt.mpr c_6
                      have mc_6 : (i + 1) ≤ k := (nI_leI (by omega) (by omega)).mp (show nI (i + 1) ≤ nI k from c_6)
                      have e_k : i + 1 = k := by omega
                      subst e_k
                      refine x_aload_n C d_Mo_text_133 1 rfl rfl ?_
                      refine gf_Mo_itemMany C (v := nI (i + 1)) (Eq.trans (Eq.trans (congrFun (Eq.trans (va_up_ne _ _ (by omega)) (va_up_self _ _ _)) _) (pk_un (by first | decide | (simp only [pI]; omega)))) rfl) k_805 d_Mo_text_134 ?_
                      have ht3 : ¬ tok (g 5) L E = 3 := by omega
                      obtain ⟨z1_, z2_, z3_⟩ := rd_end hyI hi60 hS ht3
                      rw [if_pos ht0] at z1_
                      exact x_iretK C z1_ ⟨(upd (lxS (g 5) (g 3) L (tnd (g 5) L E) 0 (nI (i + 1)) (nI (sz (itn (g 5) L (g 0) (i + 1)).1))) 6 0), (itm (g 5) L (g 0) (g 7) (i + 1)), rfl, pk_us, (by rw [← z1_, if_neg (nI_pos (by omega)), ← z2_, va_com (a := 0) (b := 7) (by decide)]; exact x3_com)⟩ d_Mo_text_137
                    · have nc_6 := Int32.not_le.mp c_6
                      have mc_6 : ¬ (i + 1) ≤ k := fun z_ => (show ¬ nI (i + 1) ≤ nI k from c_6) ((nI_leI (by omega) (by omega)).mpr z_)
                      refine x_aload_n C d_Mo_text_119 1 rfl rfl ?_
                      refine x_bipush C d_Mo_text_120 (v := 6) (by decide) ?_
                      refine x_iload_n C d_Mo_text_122 0 rfl rfl ?_
                      refine x_imul C d_Mo_text_123 ?_
                      refine x_topi (x' := nI (6 * k)) (pk_mul 6 k) ?_
                      refine x_callVv C (c_Mo_isToldSo Z k (by omega) (va_up (va_up (va_up g 7 (itm (g 5) L (g 0) (g 7) (i + 1))) 3 (upd (lxS (g 5) (g 3) L (tnd (g 5) L E) 0 (nI (i + 1)) (nI (sz (itn (g 5) L (g 0) (i + 1)).1))) 6 0)) 0 ((itn (g 5) L (g 0) k).1)) _ _ ((Eq.trans (va_up_ne _ _ (by omega)) (Eq.trans (va_up_ne _ _ (by omega)) (va_up_self _ _ _)))) ((va_up_self _ _ _)) (itn_ok hk0 _) (told_i (by omega) (hall k (by omega))).1) mi_Mo_isToldSo k_1196 (show 0 < 12 by omega) (m_0 Z _) rfl (As := [.int (nI (6 * k))]) ⟨Nat.le_of_ble_eq_true rfl, Nat.le_of_ble_eq_true rfl⟩ rfl rfl (Nat.le_of_ble_eq_true rfl) d_Mo_text_124 ?_
                      refine x_eqg (g' := va_up (va_up (va_up g 7 (itm (g 5) L (g 0) (g 7) (i + 1))) 3 (upd (lxS (g 5) (g 3) L (tnd (g 5) L E) 0 (nI (i + 1)) (nI (sz (itn (g 5) L (g 0) (i + 1)).1))) 6 0)) 0 ((itn (g 5) L (g 0) (k + 1)).1)) (by rw [(told_i (by omega) (hall k (by omega))).2, bx_uu]) ?_
                      refine x_iinc C d_Mo_text_127 0 rfl (v := nI (k + 1)) (nI_1 _) (by decide) (lv' := [(1, .int (nI (k + 1))), (0, .ref (Z.2.1 (0)))]) rfl ?_
                      refine x_goto C d_Mo_text_130 111 (by decide) ?_
                      exact ih_111 (k + 1) (by omega) (by omega)
                refine x_eqg (g' := va_up (va_up (va_up g 7 (itm (g 5) L (g 0) (g 7) (i + 1))) 3 (upd (lxS (g 5) (g 3) L (tnd (g 5) L E) 0 (nI (i + 1)) (nI (sz (itn (g 5) L (g 0) (i + 1)).1))) 6 0)) 0 ((itn (g 5) L (g 0) 0).1)) (by rw [show (itn (g 5) L (g 0) 0).1 = g 0 from rfl]; exact (va_idnn (by decide) (by decide)).symm) ?_
                exact LP_111 (i + 1 + 1) 0 (Nat.zero_le _) (by omega)
              · exact absurd c_5 (by decide)
          · have mc_2 : (min 3 (tok (g 5) L E)) = 3 := (nI_eq (by omega) (by omega)).mp (show nI (min 3 (tok (g 5) L E)) = nI 3 from c_2)
            have hjl : skp (g 5) L E < L := tok_lt (by omega)
            refine x_aload_n C d_Mo_text_48 0 rfl rfl ?_
            refine gf_Mo_tape C k_796 d_Mo_text_49 ?_
            refine x_aload_n C d_Mo_text_52 0 rfl rfl ?_
            refine gf_Mo_begins C (v := nI (skp (g 5) L E)) (Eq.trans (congrFun (va_up_self _ _ _) _) rfl) k_798 d_Mo_text_53 ?_
            refine al_m_tape C (skp (g 5) L E) (v := g 5 (skp (g 5) L E)) rfl (by first | omega | (simp only [pI]; omega)) (congrFun (Eq.trans (va_up_ne _ _ (by omega)) (va_up_ne _ _ (by omega))) _) d_Mo_text_56 ?_
            refine x_bipush C d_Mo_text_57 (v := 59) (by decide) ?_
            refine x_icmp_ne C d_Mo_text_59 74 (by decide) (fun c_7 => ?_) (fun c_7 => ?_)
            · have nc_7 := Ne.symm c_7
              refine x_aload_n C d_Mo_text_74 0 rfl rfl ?_
              refine x_aload_n C d_Mo_text_75 0 rfl rfl ?_
              refine gf_Mo_sort C (v := nI (min 3 (tok (g 5) L E))) (Eq.trans (congrFun (va_up_self _ _ _) _) rfl) k_800 d_Mo_text_76 ?_
              refine x_ifne C d_Mo_text_79 86 (by decide) (fun c_8 => ?_) (fun c_8 => ?_)
              · refine x_iconst C d_Mo_text_86 (v := 0) (by decide) ?_
                refine x_callVv C (c_Mo_must_f Z (g 5) (g 3) L E hL hEL (nI (i + 1)) (nI (sz (itn (g 5) L (g 0) (i + 1)).1)) (va_up (va_up g 7 (itm (g 5) L (g 0) (g 7) (i + 1))) 3 (lxS (g 5) (g 3) L E 0 (nI (i + 1)) (nI (sz (itn (g 5) L (g 0) (i + 1)).1)))) ((Eq.trans (va_up_ne _ _ (by omega)) (va_up_ne _ _ (by omega)))) ((va_up_self _ _ _)) hr hB) mi_Mo_must k_1174 (show 0 < 12 by omega) (m_0 Z _) rfl (As := [.int (0)]) ⟨Nat.le_of_ble_eq_true rfl, Nat.le_of_ble_eq_true rfl⟩ rfl rfl (Nat.le_of_ble_eq_true rfl) d_Mo_text_87 ?_
                refine x_eqg (g' := va_up (va_up g 7 (itm (g 5) L (g 0) (g 7) (i + 1))) 3 (lxS (g 5) (g 3) L E 1 (nI (i + 1)) (nI (sz (itn (g 5) L (g 0) (i + 1)).1)))) (bx_uu _ _ _ _) ?_
                refine x_aload_n C d_Mo_text_90 0 rfl rfl ?_
                refine x_iconst C d_Mo_text_91 (v := 0) (by decide) ?_
                refine pf_Mo_taped C (v := 0) (G := va_up (va_up g 7 (itm (g 5) L (g 0) (g 7) (i + 1))) 3 (upd (lxS (g 5) (g 3) L E 1 (nI (i + 1)) (nI (sz (itn (g 5) L (g 0) (i + 1)).1))) 6 0)) up_va k_797 d_Mo_text_92 ?_
                refine x_aload_n C d_Mo_text_95 0 rfl rfl ?_
                refine gf_Mo_isWrong C (v := 1) (Eq.trans (Eq.trans (congrFun (va_up_self _ _ _) _) (pk_un (by first | decide | (simp only [pI]; omega)))) rfl) k_802 d_Mo_text_96 ?_
                refine x_ifeq C d_Mo_text_99 109 (by decide) (fun c_9 => ?_) (fun c_9 => ?_)
                · exact absurd c_9 (by decide)
                · refine x_iconst C d_Mo_text_102 (v := -1) (by decide) ?_
                  refine x_aload_n C d_Mo_text_103 0 rfl rfl ?_
                  refine gf_Mo_begins C (v := nI (skp (g 5) L E)) (Eq.trans (Eq.trans (congrFun (va_up_self _ _ _) _) (pk_un (by first | decide | (simp only [pI]; omega)))) rfl) k_798 d_Mo_text_104 ?_
                  refine x_isub C d_Mo_text_107 ?_
                  have ht3 : ¬ tok (g 5) L E = 3 := fun z_ => by first | omega | exact absurd ((tkN_3.mp ((tok_eq hjl).symm.trans z_))) (by with_reducible assumption)
                  obtain ⟨z1_, z2_, z3_⟩ := rd_end hyI hi60 hS ht3
                  rw [if_neg (by have z_ := (show ¬ nI (min 3 (tok (g 5) L E)) = 0 by with_reducible assumption); intro z2_; apply z_; rw [z2_]; rfl)] at z1_
                  exact x_iretK C z1_ ⟨(upd (lxS (g 5) (g 3) L E 1 (nI (i + 1)) (nI (sz (itn (g 5) L (g 0) (i + 1)).1))) 6 0), (itm (g 5) L (g 0) (g 7) (i + 1)), rfl, pk_us, (by rw [← z1_, if_pos (m1_neg (by omega)), va_id g 0])⟩ d_Mo_text_108
              · refine x_iconst C d_Mo_text_82 (v := 1) (by decide) ?_
                refine x_goto C d_Mo_text_83 87 (by decide) ?_
                refine x_callVv C (c_Mo_must_t Z (g 5) (g 3) L E hL hEL (nI (i + 1)) (nI (sz (itn (g 5) L (g 0) (i + 1)).1)) (va_up (va_up g 7 (itm (g 5) L (g 0) (g 7) (i + 1))) 3 (lxS (g 5) (g 3) L E 0 (nI (i + 1)) (nI (sz (itn (g 5) L (g 0) (i + 1)).1)))) ((Eq.trans (va_up_ne _ _ (by omega)) (va_up_ne _ _ (by omega)))) ((va_up_self _ _ _)) hr hB) mi_Mo_must k_1174 (show 0 < 12 by omega) (m_0 Z _) rfl (As := [.int (1)]) ⟨Nat.le_of_ble_eq_true rfl, Nat.le_of_ble_eq_true rfl⟩ rfl rfl (Nat.le_of_ble_eq_true rfl) d_Mo_text_87 ?_
                refine x_eqg (g' := va_up (va_up g 7 (itm (g 5) L (g 0) (g 7) (i + 1))) 3 (lxS (g 5) (g 3) L (tnd (g 5) L E) 0 (nI (i + 1)) (nI (sz (itn (g 5) L (g 0) (i + 1)).1)))) (bx_uu _ _ _ _) ?_
                refine x_aload_n C d_Mo_text_90 0 rfl rfl ?_
                refine x_iconst C d_Mo_text_91 (v := 0) (by decide) ?_
                refine pf_Mo_taped C (v := 0) (G := va_up (va_up g 7 (itm (g 5) L (g 0) (g 7) (i + 1))) 3 (upd (lxS (g 5) (g 3) L (tnd (g 5) L E) 0 (nI (i + 1)) (nI (sz (itn (g 5) L (g 0) (i + 1)).1))) 6 0)) up_va k_797 d_Mo_text_92 ?_
                refine x_aload_n C d_Mo_text_95 0 rfl rfl ?_
                refine gf_Mo_isWrong C (v := 0) (Eq.trans (Eq.trans (congrFun (va_up_self _ _ _) _) (pk_un (by first | decide | (simp only [pI]; omega)))) rfl) k_802 d_Mo_text_96 ?_
                refine x_ifeq C d_Mo_text_99 109 (by decide) (fun c_10 => ?_) (fun c_10 => ?_)
                · have ht0 : tok (g 5) L E = 0 := by have z_ := (nI_eq (b := 0) (by omega) (by decide)).mp (show nI (min 3 (tok (g 5) L E)) = nI 0 by assumption); omega
                  have hall : ∀ j, j < i + 1 → (itS (g 5) L (sz (itn (g 5) L (g 0) j).1) (itn (g 5) L (g 0) j).2).2 = false := fun j hj_ => by by_cases hji : j = i; (rw [hji]; exact hok); exact hyJ j (by omega)
                  refine x_iconst C d_Mo_text_109 (v := 0) (by decide) ?_
                  refine x_topi (show (0 : Int32) = nI 0 by decide) ?_
                  refine x_istore_n C d_Mo_text_110 rfl (by decide) (lv' := [(1, .int (nI 0)), (0, .ref (Z.2.1 (0)))]) rfl ?_
                  have LP_111 : ∀ (f_ k : Nat), k ≤ i + 1 → (i + 1) - k < f_ → WX X 2 yM Z (QX X yM Z (QkI yM Z (txA (g 5) L 61 0 (g 0) 0) (fun u => ∃ τ σ : Nat → Int32, τ 3 = g 3 3 ∧ τ 6 = 0 ∧ u = va_up (va_up (va_up g 0 (if txA (g 5) L 61 0 (g 0) 0 < 0 then g 0 else txR (g 5) L 61 (g 0) 0)) 7 σ) 3 τ))) (va_up (va_up (va_up g 7 (itm (g 5) L (g 0) (g 7) (i + 1))) 3 (upd (lxS (g 5) (g 3) L (tnd (g 5) L E) 0 (nI (i + 1)) (nI (sz (itn (g 5) L (g 0) (i + 1)).1))) 6 0)) 0 ((itn (g 5) L (g 0) k).1)) 111 [(1, .int (nI k)), (0, .ref (Z.2.1 (0)))] [] := by
                    intro f_
                    induction f_ with
                    | zero => intro k h1_ h2_; exact absurd h2_ (Nat.not_lt_zero _)
                    | succ f_ ih_111 =>
                      intro k hi_111 hf_111
                      refine x_iload_n C d_Mo_text_111 0 rfl rfl ?_
                      refine x_aload_n C d_Mo_text_112 1 rfl rfl ?_
                      refine gf_Mo_itemMany C (v := nI (i + 1)) (Eq.trans (Eq.trans (congrFun (Eq.trans (va_up_ne _ _ (by omega)) (va_up_self _ _ _)) _) (pk_un (by first | decide | (simp only [pI]; omega)))) rfl) k_805 d_Mo_text_113 ?_
                      refine x_icmp_ge C d_Mo_text_116 133 (by decide) (fun c_11 => ?_) (fun c_11 => ?_)
                      · have nc_11 := Int32.not_lt.mpr c_11
                        have mc_11 : (i + 1) ≤ k := (nI_leI (by omega) (by omega)).mp (show nI (i + 1) ≤ nI k from c_11)
                        have e_k : i + 1 = k := by omega
                        subst e_k
                        refine x_aload_n C d_Mo_text_133 1 rfl rfl ?_
                        refine gf_Mo_itemMany C (v := nI (i + 1)) (Eq.trans (Eq.trans (congrFun (Eq.trans (va_up_ne _ _ (by omega)) (va_up_self _ _ _)) _) (pk_un (by first | decide | (simp only [pI]; omega)))) rfl) k_805 d_Mo_text_134 ?_
                        have ht3 : ¬ tok (g 5) L E = 3 := by omega
                        obtain ⟨z1_, z2_, z3_⟩ := rd_end hyI hi60 hS ht3
                        rw [if_pos ht0] at z1_
                        exact x_iretK C z1_ ⟨(upd (lxS (g 5) (g 3) L (tnd (g 5) L E) 0 (nI (i + 1)) (nI (sz (itn (g 5) L (g 0) (i + 1)).1))) 6 0), (itm (g 5) L (g 0) (g 7) (i + 1)), rfl, pk_us, (by rw [← z1_, if_neg (nI_pos (by omega)), ← z2_, va_com (a := 0) (b := 7) (by decide)]; exact x3_com)⟩ d_Mo_text_137
                      · have nc_11 := Int32.not_le.mp c_11
                        have mc_11 : ¬ (i + 1) ≤ k := fun z_ => (show ¬ nI (i + 1) ≤ nI k from c_11) ((nI_leI (by omega) (by omega)).mpr z_)
                        refine x_aload_n C d_Mo_text_119 1 rfl rfl ?_
                        refine x_bipush C d_Mo_text_120 (v := 6) (by decide) ?_
                        refine x_iload_n C d_Mo_text_122 0 rfl rfl ?_
                        refine x_imul C d_Mo_text_123 ?_
                        refine x_topi (x' := nI (6 * k)) (pk_mul 6 k) ?_
                        refine x_callVv C (c_Mo_isToldSo Z k (by omega) (va_up (va_up (va_up g 7 (itm (g 5) L (g 0) (g 7) (i + 1))) 3 (upd (lxS (g 5) (g 3) L (tnd (g 5) L E) 0 (nI (i + 1)) (nI (sz (itn (g 5) L (g 0) (i + 1)).1))) 6 0)) 0 ((itn (g 5) L (g 0) k).1)) _ _ ((Eq.trans (va_up_ne _ _ (by omega)) (Eq.trans (va_up_ne _ _ (by omega)) (va_up_self _ _ _)))) ((va_up_self _ _ _)) (itn_ok hk0 _) (told_i (by omega) (hall k (by omega))).1) mi_Mo_isToldSo k_1196 (show 0 < 12 by omega) (m_0 Z _) rfl (As := [.int (nI (6 * k))]) ⟨Nat.le_of_ble_eq_true rfl, Nat.le_of_ble_eq_true rfl⟩ rfl rfl (Nat.le_of_ble_eq_true rfl) d_Mo_text_124 ?_
                        refine x_eqg (g' := va_up (va_up (va_up g 7 (itm (g 5) L (g 0) (g 7) (i + 1))) 3 (upd (lxS (g 5) (g 3) L (tnd (g 5) L E) 0 (nI (i + 1)) (nI (sz (itn (g 5) L (g 0) (i + 1)).1))) 6 0)) 0 ((itn (g 5) L (g 0) (k + 1)).1)) (by rw [(told_i (by omega) (hall k (by omega))).2, bx_uu]) ?_
                        refine x_iinc C d_Mo_text_127 0 rfl (v := nI (k + 1)) (nI_1 _) (by decide) (lv' := [(1, .int (nI (k + 1))), (0, .ref (Z.2.1 (0)))]) rfl ?_
                        refine x_goto C d_Mo_text_130 111 (by decide) ?_
                        exact ih_111 (k + 1) (by omega) (by omega)
                  refine x_eqg (g' := va_up (va_up (va_up g 7 (itm (g 5) L (g 0) (g 7) (i + 1))) 3 (upd (lxS (g 5) (g 3) L (tnd (g 5) L E) 0 (nI (i + 1)) (nI (sz (itn (g 5) L (g 0) (i + 1)).1))) 6 0)) 0 ((itn (g 5) L (g 0) 0).1)) (by rw [show (itn (g 5) L (g 0) 0).1 = g 0 from rfl]; exact (va_idnn (by decide) (by decide)).symm) ?_
                  exact LP_111 (i + 1 + 1) 0 (Nat.zero_le _) (by omega)
                · exact absurd c_10 (by decide)
            · have ht3 : tok (g 5) L E = 3 := (tok_eq hjl).trans (tkN_3.mpr (by with_reducible assumption))
              refine x_aload_n C d_Mo_text_62 0 rfl rfl ?_
              refine x_iconst C d_Mo_text_63 (v := 1) (by decide) ?_
              refine x_callVv C (c_Mo_must_t Z (g 5) (g 3) L E hL hEL (nI (i + 1)) (nI (sz (itn (g 5) L (g 0) (i + 1)).1)) (va_up (va_up g 7 (itm (g 5) L (g 0) (g 7) (i + 1))) 3 (lxS (g 5) (g 3) L E 0 (nI (i + 1)) (nI (sz (itn (g 5) L (g 0) (i + 1)).1)))) ((Eq.trans (va_up_ne _ _ (by omega)) (va_up_ne _ _ (by omega)))) ((va_up_self _ _ _)) hr hB) mi_Mo_must k_1174 (show 0 < 12 by omega) (m_0 Z _) rfl (As := [.int (1)]) ⟨Nat.le_of_ble_eq_true rfl, Nat.le_of_ble_eq_true rfl⟩ rfl rfl (Nat.le_of_ble_eq_true rfl) d_Mo_text_64 ?_
              refine x_eqg (g' := va_up (va_up g 7 (itm (g 5) L (g 0) (g 7) (i + 1))) 3 (lxS (g 5) (g 3) L (tnd (g 5) L E) 0 (nI (i + 1)) (nI (sz (itn (g 5) L (g 0) (i + 1)).1)))) (bx_uu _ _ _ _) ?_
              have hc1 : i + 1 < 120 := by have z1_ := hyI.1; have z2_ := hyI.2.1; omega
              refine x_aload_n C d_Mo_text_67 0 rfl rfl ?_
              refine x_callVv C (c_Mo_readItem Z (g 5) (g 3) L (tnd (g 5) L E) hL (tnd_le hEL) (i + 1) (sz (itn (g 5) L (g 0) (i + 1)).1) hc1 (okR_sz (itn_ok hk0 _)) (va_up (va_up g 7 (itm (g 5) L (g 0) (g 7) (i + 1))) 3 (lxS (g 5) (g 3) L (tnd (g 5) L E) 0 (nI (i + 1)) (nI (sz (itn (g 5) L (g 0) (i + 1)).1)))) ((Eq.trans (va_up_ne _ _ (by omega)) (va_up_ne _ _ (by omega)))) ((va_up_self _ _ _)) hr hB) mi_Mo_readItem k_1160 (show 0 < 12 by omega) (m_0 Z _) rfl (As := []) ⟨Nat.le_of_ble_eq_true rfl, Nat.le_of_ble_eq_true rfl⟩ rfl rfl (Nat.le_of_ble_eq_true rfl) d_Mo_text_68 ?_
              refine x_eqg (g' := va_up (va_up g 7 (itI (g 5) L (sz (itn (g 5) L (g 0) (i + 1)).1) (tnd (g 5) L E) (i + 1) (itm (g 5) L (g 0) (g 7) (i + 1)))) 3 (lxS (g 5) (g 3) L (itS (g 5) L (sz (itn (g 5) L (g 0) (i + 1)).1) (tnd (g 5) L E)).1 (wI (itS (g 5) L (sz (itn (g 5) L (g 0) (i + 1)).1) (tnd (g 5) L E)).2) (nI (itC (g 5) L (tnd (g 5) L E) (i + 1))) (nI (itP (g 5) L (tnd (g 5) L E) (sz (itn (g 5) L (g 0) (i + 1)).1))))) (by rw [show (va_up (va_up g 7 (itm (g 5) L (g 0) (g 7) (i + 1))) 3 (lxS (g 5) (g 3) L (tnd (g 5) L E) 0 (nI (i + 1)) (nI (sz (itn (g 5) L (g 0) (i + 1)).1)))) 7 = itm (g 5) L (g 0) (g 7) (i + 1) from (Eq.trans (va_up_ne _ _ (by omega)) (va_up_self _ _ _)), va_com (a := 3) (b := 7) (by decide), bx_uu, bx_uu]) ?_
              refine x_goto C d_Mo_text_71 33 (by decide) ?_
              refine x_eqg (g' := va_up (va_up g 7 (itm (g 5) L (g 0) (g 7) ((i + 1) + 1))) 3 (lxS (g 5) (g 3) L (itS (g 5) L (sz (itn (g 5) L (g 0) (i + 1)).1) (itn (g 5) L (g 0) (i + 1)).2).1 (wI (itS (g 5) L (sz (itn (g 5) L (g 0) (i + 1)).1) (itn (g 5) L (g 0) (i + 1)).2).2) (nI (itC (g 5) L (itn (g 5) L (g 0) (i + 1)).2 (i + 1))) (nI (itP (g 5) L (itn (g 5) L (g 0) (i + 1)).2 (sz (itn (g 5) L (g 0) (i + 1)).1))))) (by rw [show itm (g 5) L (g 0) (g 7) (i + 1 + 1) = itI (g 5) L (sz (itn (g 5) L (g 0) (i + 1)).1) (itn (g 5) L (g 0) (i + 1)).2 (i + 1) (itm (g 5) L (g 0) (g 7) (i + 1)) from rfl, show (itn (g 5) L (g 0) (i + 1)).2 = tnd (g 5) L E by rw [itn, hS]]) ?_
              exact ih_33 (i + 1) (by omega) (by omega) ⟨rdI_s hyI hi60 hS ht3, fun j hj_ => by by_cases hji : j = i; (rw [hji]; exact hok); exact hyJ j (by omega)⟩
      · refine x_eqg (g' := va_up (va_up g 7 (itm (g 5) L (g 0) (g 7) (i + 1))) 3 (lxS (g 5) (g 3) L E 1 (nI (itC (g 5) L (itn (g 5) L (g 0) i).2 i)) (nI (itP (g 5) L (itn (g 5) L (g 0) i).2 (sz (itn (g 5) L (g 0) i).1))))) (by rw [hS]; rfl) ?_
        refine gf_Mo_isWrong C (v := 1) (Eq.trans (congrFun (va_up_self _ _ _) _) rfl) k_802 d_Mo_text_34 ?_
        refine x_ifne C d_Mo_text_37 74 (by decide) (fun c_12 => ?_) (fun c_12 => ?_)
        · refine x_aload_n C d_Mo_text_74 0 rfl rfl ?_
          refine x_aload_n C d_Mo_text_75 0 rfl rfl ?_
          refine gf_Mo_sort C (v := nI (min 3 (tok (g 5) L E))) (Eq.trans (congrFun (va_up_self _ _ _) _) rfl) k_800 d_Mo_text_76 ?_
          refine x_ifne C d_Mo_text_79 86 (by decide) (fun c_13 => ?_) (fun c_13 => ?_)
          · refine x_iconst C d_Mo_text_86 (v := 0) (by decide) ?_
            refine x_callVv C (c_Mo_must_w Z (g 5) (g 3) L E hL hEL (nI (itC (g 5) L (itn (g 5) L (g 0) i).2 i)) (nI (itP (g 5) L (itn (g 5) L (g 0) i).2 (sz (itn (g 5) L (g 0) i).1))) 0 (va_up (va_up g 7 (itm (g 5) L (g 0) (g 7) (i + 1))) 3 (lxS (g 5) (g 3) L E 1 (nI (itC (g 5) L (itn (g 5) L (g 0) i).2 i)) (nI (itP (g 5) L (itn (g 5) L (g 0) i).2 (sz (itn (g 5) L (g 0) i).1))))) ((Eq.trans (va_up_ne _ _ (by omega)) (va_up_ne _ _ (by omega)))) ((va_up_self _ _ _)) hr hB) mi_Mo_must k_1174 (show 0 < 12 by omega) (m_0 Z _) rfl (As := [.int (0)]) ⟨Nat.le_of_ble_eq_true rfl, Nat.le_of_ble_eq_true rfl⟩ rfl rfl (Nat.le_of_ble_eq_true rfl) d_Mo_text_87 ?_
            refine x_eqg (g' := va_up (va_up g 7 (itm (g 5) L (g 0) (g 7) (i + 1))) 3 (lxS (g 5) (g 3) L E 1 (nI (itC (g 5) L (itn (g 5) L (g 0) i).2 i)) (nI (itP (g 5) L (itn (g 5) L (g 0) i).2 (sz (itn (g 5) L (g 0) i).1))))) (bx_uu _ _ _ _) ?_
            refine x_aload_n C d_Mo_text_90 0 rfl rfl ?_
            refine x_iconst C d_Mo_text_91 (v := 0) (by decide) ?_
            refine pf_Mo_taped C (v := 0) (G := va_up (va_up g 7 (itm (g 5) L (g 0) (g 7) (i + 1))) 3 (upd (lxS (g 5) (g 3) L E 1 (nI (itC (g 5) L (itn (g 5) L (g 0) i).2 i)) (nI (itP (g 5) L (itn (g 5) L (g 0) i).2 (sz (itn (g 5) L (g 0) i).1)))) 6 0)) up_va k_797 d_Mo_text_92 ?_
            refine x_aload_n C d_Mo_text_95 0 rfl rfl ?_
            refine gf_Mo_isWrong C (v := 1) (Eq.trans (Eq.trans (congrFun (va_up_self _ _ _) _) (pk_un (by first | decide | (simp only [pI]; omega)))) rfl) k_802 d_Mo_text_96 ?_
            refine x_ifeq C d_Mo_text_99 109 (by decide) (fun c_14 => ?_) (fun c_14 => ?_)
            · exact absurd c_14 (by decide)
            · refine x_iconst C d_Mo_text_102 (v := -1) (by decide) ?_
              refine x_aload_n C d_Mo_text_103 0 rfl rfl ?_
              refine gf_Mo_begins C (v := nI (skp (g 5) L E)) (Eq.trans (Eq.trans (congrFun (va_up_self _ _ _) _) (pk_un (by first | decide | (simp only [pI]; omega)))) rfl) k_798 d_Mo_text_104 ?_
              refine x_isub C d_Mo_text_107 ?_
              obtain ⟨z1_, z2_, z3_⟩ := rd_fail hyI hi60 hS
              exact x_iretK C z1_ ⟨(upd (lxS (g 5) (g 3) L E 1 (nI (itC (g 5) L (itn (g 5) L (g 0) i).2 i)) (nI (itP (g 5) L (itn (g 5) L (g 0) i).2 (sz (itn (g 5) L (g 0) i).1)))) 6 0), (itm (g 5) L (g 0) (g 7) (i + 1)), rfl, pk_us, (by rw [← z1_, if_pos (m1_neg (by omega)), va_id g 0])⟩ d_Mo_text_108
          · refine x_iconst C d_Mo_text_82 (v := 1) (by decide) ?_
            refine x_goto C d_Mo_text_83 87 (by decide) ?_
            refine x_callVv C (c_Mo_must_w Z (g 5) (g 3) L E hL hEL (nI (itC (g 5) L (itn (g 5) L (g 0) i).2 i)) (nI (itP (g 5) L (itn (g 5) L (g 0) i).2 (sz (itn (g 5) L (g 0) i).1))) 1 (va_up (va_up g 7 (itm (g 5) L (g 0) (g 7) (i + 1))) 3 (lxS (g 5) (g 3) L E 1 (nI (itC (g 5) L (itn (g 5) L (g 0) i).2 i)) (nI (itP (g 5) L (itn (g 5) L (g 0) i).2 (sz (itn (g 5) L (g 0) i).1))))) ((Eq.trans (va_up_ne _ _ (by omega)) (va_up_ne _ _ (by omega)))) ((va_up_self _ _ _)) hr hB) mi_Mo_must k_1174 (show 0 < 12 by omega) (m_0 Z _) rfl (As := [.int (1)]) ⟨Nat.le_of_ble_eq_true rfl, Nat.le_of_ble_eq_true rfl⟩ rfl rfl (Nat.le_of_ble_eq_true rfl) d_Mo_text_87 ?_
            refine x_eqg (g' := va_up (va_up g 7 (itm (g 5) L (g 0) (g 7) (i + 1))) 3 (lxS (g 5) (g 3) L E 1 (nI (itC (g 5) L (itn (g 5) L (g 0) i).2 i)) (nI (itP (g 5) L (itn (g 5) L (g 0) i).2 (sz (itn (g 5) L (g 0) i).1))))) (bx_uu _ _ _ _) ?_
            refine x_aload_n C d_Mo_text_90 0 rfl rfl ?_
            refine x_iconst C d_Mo_text_91 (v := 0) (by decide) ?_
            refine pf_Mo_taped C (v := 0) (G := va_up (va_up g 7 (itm (g 5) L (g 0) (g 7) (i + 1))) 3 (upd (lxS (g 5) (g 3) L E 1 (nI (itC (g 5) L (itn (g 5) L (g 0) i).2 i)) (nI (itP (g 5) L (itn (g 5) L (g 0) i).2 (sz (itn (g 5) L (g 0) i).1)))) 6 0)) up_va k_797 d_Mo_text_92 ?_
            refine x_aload_n C d_Mo_text_95 0 rfl rfl ?_
            refine gf_Mo_isWrong C (v := 1) (Eq.trans (Eq.trans (congrFun (va_up_self _ _ _) _) (pk_un (by first | decide | (simp only [pI]; omega)))) rfl) k_802 d_Mo_text_96 ?_
            refine x_ifeq C d_Mo_text_99 109 (by decide) (fun c_15 => ?_) (fun c_15 => ?_)
            · exact absurd c_15 (by decide)
            · refine x_iconst C d_Mo_text_102 (v := -1) (by decide) ?_
              refine x_aload_n C d_Mo_text_103 0 rfl rfl ?_
              refine gf_Mo_begins C (v := nI (skp (g 5) L E)) (Eq.trans (Eq.trans (congrFun (va_up_self _ _ _) _) (pk_un (by first | decide | (simp only [pI]; omega)))) rfl) k_798 d_Mo_text_104 ?_
              refine x_isub C d_Mo_text_107 ?_
              obtain ⟨z1_, z2_, z3_⟩ := rd_fail hyI hi60 hS
              exact x_iretK C z1_ ⟨(upd (lxS (g 5) (g 3) L E 1 (nI (itC (g 5) L (itn (g 5) L (g 0) i).2 i)) (nI (itP (g 5) L (itn (g 5) L (g 0) i).2 (sz (itn (g 5) L (g 0) i).1)))) 6 0), (itm (g 5) L (g 0) (g 7) (i + 1)), rfl, pk_us, (by rw [← z1_, if_pos (m1_neg (by omega)), va_id g 0])⟩ d_Mo_text_108
        · exact absurd c_12 (by decide)
  refine x_eqg (g' := va_up (va_up g 7 (itm (g 5) L (g 0) (g 7) (0 + 1))) 3 (lxS (g 5) (g 3) L (itS (g 5) L (sz (itn (g 5) L (g 0) 0).1) (itn (g 5) L (g 0) 0).2).1 (wI (itS (g 5) L (sz (itn (g 5) L (g 0) 0).1) (itn (g 5) L (g 0) 0).2).2) (nI (itC (g 5) L (itn (g 5) L (g 0) 0).2 0)) (nI (itP (g 5) L (itn (g 5) L (g 0) 0).2 (sz (itn (g 5) L (g 0) 0).1))))) (by rw [show n = sz (g 0) from (sz_of hn hn8).symm]; rfl) ?_
  exact LP_33 (61 + 1) 0 (Nat.zero_le _) (by omega) ⟨⟨Nat.zero_le _, Nat.zero_le _, hk0, rfl, rfl, rfl⟩, fun j h => absurd h (Nat.not_lt_zero _)⟩
