theorem oR_oV {b : Nat → Int32} {L i hi p f : Nat} {s : SS} {r : Nat → Int32} {d : Int32} (hd : r (pI p f) = d) (h : (oS b L i hi s).2 = false) : oR b L i hi p f s r = upd r (pI p f) (oV b L i d s) := by
  obtain ⟨h1, -⟩ := oS_w h
  unfold oS at h
  unfold oR oV
  by_cases hw : isW b L i s.1 = true
  · rw [if_pos ⟨h1, hw⟩] at h
    have h2 := (nS_w h).2.1
    rw [if_pos ⟨h1, hw, h2⟩, if_pos ⟨h1, hw⟩]
  · rw [if_neg (fun z => hw z.2.1), if_neg (fun z => hw z.2), ← hd, upd_id]
/-- one item told: its numbers at 6 c -/
def tol1 (ρ r : Nat → Int32) (c : Nat) : Nat → Int32 := if ρ (6 * c) = 10 then upd r (4 + (ρ (6 * c + 1)).toNatClampNeg) (ρ (6 * c + 2)) else if ρ (6 * c) = 11 then upd r 3 (ρ (6 * c + 1)) else upd (upd (upd (upd (addR r (ρ (6 * c)) (ρ (6 * c + 1))) (pI (sz r) 2) (ρ (6 * c + 2))) (pI (sz r) 3) (ρ (6 * c + 3))) (pI (sz r) 4) (ρ (6 * c + 4))) (pI (sz r) 5) (ρ (6 * c + 5))
/-- what the numbers of an item may be -/
def itok (ρ r : Nat → Int32) (c : Nat) : Prop := (ρ (6 * c) = 10 ∧ ∃ a, a ≤ 5 ∧ ρ (6 * c + 1) = nI a) ∨ ρ (6 * c) = 11 ∨ (¬ ρ (6 * c) = 10 ∧ ¬ ρ (6 * c) = 11 ∧ sz r < 8)
theorem addR_p {r : Nat → Int32} {k s : Int32} {f : Nat} {v : Int32} (h : bgnR r (sz r) k s (pI (sz r) f) = v) : addR r k s (pI (sz r) f) = v := by
  unfold addR
  rw [pk_un (by simp only [pI]; omega)]
  exact h
theorem tol_it {b : Nat → Int32} {L e c : Nat} {r ρ : Nat → Int32} (h : (itS b L (sz r) e).2 = false) {ρ0 : Nat → Int32} (hρ : ∀ k, 6 * c ≤ k → k < 6 * c + 6 → ρ k = itI b L (sz r) e c ρ0 k) : itok ρ r c ∧ tol1 ρ r c = itQ b L r e := by
  have h0 := hρ (6 * c) (by omega) (by omega)
  have h1 := hρ (6 * c + 1) (by omega) (by omega)
  have h2 := hρ (6 * c + 2) (by omega) (by omega)
  have h3 := hρ (6 * c + 3) (by omega) (by omega)
  have h4 := hρ (6 * c + 4) (by omega) (by omega)
  have h5 := hρ (6 * c + 5) (by omega) (by omega)
  unfold itS at h
  unfold itI at h0 h1 h2 h3 h4 h5
  by_cases hk : kd b L e = 7
  · have hkk : ¬ ¬ kd b L e = 7 := fun z => z hk
    rw [if_neg hkk] at h0 h1 h2 h3 h4 h5
    by_cases hw : isW b L 0 e = true
    · rw [if_pos hw] at h h0 h1 h2
      rw [add6_0] at h0
      rw [add6_1] at h1
      rw [add6_2] at h2
      obtain ⟨a1, a2, a3, -⟩ := nS_w h
      obtain ⟨b1, b2, b3, -⟩ := nS_w a1
      have b3 : (nS b L 5 (tnd b L e, false)).1 = tnd b L (tnd b L e) := b3
      have hle : tnm b L (tnd b L e) ≤ 5 := (nOk_i.mp b2).2
      refine ⟨Or.inl ⟨h0, _, hle, h1⟩, ?_⟩
      unfold tol1 itQ
      rw [if_pos h0, if_pos hw, if_neg (by rw [h]; simp), h1, h2, nI_clamp (by omega), b3]
    · rw [if_neg hw] at h h0 h1 h2
      by_cases hw1 : isW b L 1 e = true
      · rw [if_pos hw1] at h h0 h1
        rw [add6_0] at h0
        rw [add6_1] at h1
        refine ⟨Or.inr (Or.inl h0), ?_⟩
        unfold tol1 itQ
        rw [if_neg (by rw [h0]; decide), if_pos h0, if_neg hw, if_pos hw1, if_neg (by rw [h]; simp), h1]
      · rw [if_neg hw1, if_pos hk] at h
        cases h
  · rw [if_pos hk] at h0 h1 h2 h3 h4 h5
    rw [if_neg (kd_no hk (by decide)), if_neg (kd_no hk (by decide)), if_neg hk] at h
    have a5 := oS_w (s := pS4 b L (sz r) e) h
    have a4 := oS_w (s := pS3 b L (sz r) e) a5.1
    have a3 := oS_w (s := pS2 b L (sz r) e) a4.1
    have a2 := oS_w (s := pS1 b L (sz r) e) a3.1
    have a1 := nS_w (s := mS b L (sz r < 8) (e, false)) a2.1
    have a0 := mS_w (s := (e, false)) a1.1
    have hs8 : sz r < 8 := a0.2.1
    have hsd : sdP b L (sz r) e = sdN b L e := by unfold sdP sdN; rw [a0.2.2]
    unfold perI at h0 h1 h2 h3 h4 h5
    rw [add6_0] at h0
    rw [add6_1, hsd] at h1
    rw [add6_2, hsd] at h2
    rw [add6_3] at h3
    rw [add6_4] at h4
    rw [add6_5] at h5
    have hk7 := (kd_7 (b := b) (L := L) (e := e)).1
    have n10 : ¬ ρ (6 * c) = 10 := by rw [h0]; exact fun z => absurd ((nI_eq (b := 10) (by omega) (by decide)).mp z) (by omega)
    have n11 : ¬ ρ (6 * c) = 11 := by rw [h0]; exact fun z => absurd ((nI_eq (b := 11) (by omega) (by decide)).mp z) (by omega)
    refine ⟨Or.inr (Or.inr ⟨n10, n11, hs8⟩), ?_⟩
    unfold tol1 itQ
    rw [if_neg n10, if_neg n11, if_neg (kd_no hk (by decide)), if_neg (kd_no hk (by decide))]
    unfold perQ
    rw [if_neg (by rintro (z | z); exact hk z; rw [show (pS1 b L (sz r) e).2 = false from a2.1] at z; cases z)]
    unfold perR
    rw [h0, h1, h2, h3, h4, h5]
    have pne : ∀ {i a c : Nat}, a ≠ c → pI i a ≠ pI i c := fun h z => h (pI_eq.mp z)
    rw [oR_oV (s := pS1 b L (sz r) e) (d := lft (sdN b L e)) (addR_p (by unfold bgnR; rw [pk_un (pne (by decide)), pk_un (pne (by decide)), pk_un (pne (by decide)), pk_us])) a3.1]
    rw [oR_oV (s := pS2 b L (sz r) e) (d := 30) (by rw [pk_un (pne (by decide))]; exact addR_p (by unfold bgnR; rw [pk_un (pne (by decide)), pk_un (pne (by decide)), pk_us])) a4.1]
    rw [oR_oV (s := pS3 b L (sz r) e) (d := 0) (by rw [pk_un (pne (by decide)), pk_un (pne (by decide))]; exact addR_p (by unfold bgnR; rw [pk_un (pne (by decide)), pk_us])) a5.1]
    rw [oR_oV (s := pS4 b L (sz r) e) (d := 0) (by rw [pk_un (pne (by decide)), pk_un (pne (by decide)), pk_un (pne (by decide))]; exact addR_p (by unfold bgnR; rw [pk_us])) h]

set_option maxRecDepth 100000 in
set_option maxHeartbeats 600000 in
theorem c_Mo_isToldSo (Z : ZT) (k : Nat) (hk6 : k < 120) (g : St)  (ρ r : Nat → Int32) (h7 : g 7 = ρ) (hr0 : g 0 = r) (hk : okR r) (hi : itok ρ r k) : CT yM Z y_Mo_isToldSo b_Mo_isToldSo 5 none 2 44 [.ref (Z.2.1 (0)), .int (nI (6 * k))] (g) (QcV yM Z (va_up g 0 (tol1 ρ r k))) := by
  refine CT.mk "TunnelPeaceModel" (by decide) rfl (Nat.le_of_ble_eq_true rfl) (fun X C => ?_)
  refine x_lv [0, 1] (lv' := [(0, .ref (Z.2.1 (0))), (1, .int (nI (6 * k)))]) rfl ?_
  subst h7
  subst hr0
  refine x_aload_n C d_Mo_isToldSo_0 0 rfl rfl ?_
  refine gf_Mo_items C k_804 d_Mo_isToldSo_1 ?_
  refine x_iload_n C d_Mo_isToldSo_4 1 rfl rfl ?_
  refine x_iconst C d_Mo_isToldSo_5 (v := 1) (by decide) ?_
  refine x_iadd C d_Mo_isToldSo_6 ?_
  refine x_topi (x' := nI (6 * k + 1)) (nI_add _ 1) ?_
  refine al_m_items C (6 * k + 1) (v := g 7 (6 * k + 1)) rfl (by first | omega | (simp only [pI]; omega)) rfl d_Mo_isToldSo_7 ?_
  refine x_istore_n C d_Mo_isToldSo_8 rfl (by decide) (lv' := [(2, .int (g 7 (6 * k + 1))), (0, .ref (Z.2.1 (0))), (1, .int (nI (6 * k)))]) rfl ?_
  refine x_aload_n C d_Mo_isToldSo_9 1 rfl rfl ?_
  refine gf_Mo_items C k_804 d_Mo_isToldSo_10 ?_
  refine x_iload_n C d_Mo_isToldSo_13 2 rfl rfl ?_
  refine x_iconst C d_Mo_isToldSo_14 (v := 2) (by decide) ?_
  refine x_iadd C d_Mo_isToldSo_15 ?_
  refine x_topi (x' := nI (6 * k + 2)) (nI_add _ 2) ?_
  refine al_m_items C (6 * k + 2) (v := g 7 (6 * k + 2)) rfl (by first | omega | (simp only [pI]; omega)) rfl d_Mo_isToldSo_16 ?_
  refine x_istore_n C d_Mo_isToldSo_17 rfl (by decide) (lv' := [(3, .int (g 7 (6 * k + 2))), (2, .int (g 7 (6 * k + 1))), (0, .ref (Z.2.1 (0))), (1, .int (nI (6 * k)))]) rfl ?_
  refine x_aload_n C d_Mo_isToldSo_18 2 rfl rfl ?_
  refine gf_Mo_items C k_804 d_Mo_isToldSo_19 ?_
  refine x_iload_n C d_Mo_isToldSo_22 3 rfl rfl ?_
  refine al_m_items C (6 * k) (v := g 7 (6 * k)) rfl (by first | omega | (simp only [pI]; omega)) rfl d_Mo_isToldSo_23 ?_
  rcases hi with ⟨q1, a, ha5, qa⟩ | q1 | ⟨q1, q2, hs8⟩
  · have hca : (nI a).toNatClampNeg = a := nI_clamp (by omega)
    refine x_lve (lv' := [(3, .int (g 7 (6 * k + 2))), (2, .int (nI a)), (0, .ref (Z.2.1 (0))), (1, .int (nI (6 * k)))]) (by rw [qa]) ?_
    refine x_look C d_Mo_isToldSo_24 (by decide) (off := 28) (by rw [q1]; decide) 52 (by decide) ?_
    refine x_aload_n C d_Mo_isToldSo_52 2 rfl rfl ?_
    refine gf_Mo_now C k_791 d_Mo_isToldSo_53 ?_
    refine x_iconst C d_Mo_isToldSo_56 (v := 4) (by decide) ?_
    refine x_iload_n C d_Mo_isToldSo_57 1 rfl rfl ?_
    refine x_iadd C d_Mo_isToldSo_58 ?_
    refine x_topi (x' := nI (4 + a)) (nI_add 4 _) ?_
    refine x_iload_n C d_Mo_isToldSo_59 0 rfl rfl ?_
    refine as_m_now C (4 + a) (v := g 7 (6 * k + 2)) rfl (by first | omega | (simp only [pI]; omega)) (G := va_up g 0 (upd (g 0) (4 + a) (g 7 (6 * k + 2)))) rfl d_Mo_isToldSo_60 ?_
    refine x_goto C d_Mo_isToldSo_61 156 (by decide) ?_
    exact x_vret C (congrArg (va_up g 0) (by unfold tol1; rw [if_pos q1, qa, hca])) d_Mo_isToldSo_156
  · refine x_look C d_Mo_isToldSo_24 (by decide) (off := 40) (by rw [q1]; decide) 64 (by decide) ?_
    refine x_aload_n C d_Mo_isToldSo_64 2 rfl rfl ?_
    refine gf_Mo_now C k_791 d_Mo_isToldSo_65 ?_
    refine x_iconst C d_Mo_isToldSo_68 (v := 3) (by decide) ?_
    refine x_iload_n C d_Mo_isToldSo_69 1 rfl rfl ?_
    refine as_m_now C 3 (v := g 7 (6 * k + 1)) (by decide) (by first | omega | (simp only [pI]; omega)) (G := va_up g 0 (upd (g 0) 3 (g 7 (6 * k + 1)))) rfl d_Mo_isToldSo_70 ?_
    refine x_goto C d_Mo_isToldSo_71 156 (by decide) ?_
    exact x_vret C (congrArg (va_up g 0) (by unfold tol1; rw [if_neg (by rw [q1]; decide), if_pos q1])) d_Mo_isToldSo_156
  · refine x_look C d_Mo_isToldSo_24 (by decide) (off := 50) (by rw [lv_osw q1 (by decide), lv_osw q2 (by decide)]; rfl) 74 (by decide) ?_
    refine x_aload_n C d_Mo_isToldSo_74 2 rfl rfl ?_
    refine x_aload_n C d_Mo_isToldSo_75 2 rfl rfl ?_
    refine gf_Mo_items C k_804 d_Mo_isToldSo_76 ?_
    refine x_iload_n C d_Mo_isToldSo_79 3 rfl rfl ?_
    refine al_m_items C (6 * k) (v := g 7 (6 * k)) rfl (by first | omega | (simp only [pI]; omega)) rfl d_Mo_isToldSo_80 ?_
    refine x_iload_n C d_Mo_isToldSo_81 1 rfl rfl ?_
    refine x_callVi C (c_Mo_comes Z (g 7 (6 * k)) (g 7 (6 * k + 1)) (g) _ rfl hk hs8) mi_Mo_comes k_893 (show 0 < 12 by omega) (m_0 Z _) rfl (As := [.int (g 7 (6 * k)), .int (g 7 (6 * k + 1))]) ⟨Nat.le_of_ble_eq_true rfl, Nat.le_of_ble_eq_true rfl⟩ rfl rfl (Nat.le_of_ble_eq_true rfl) d_Mo_isToldSo_82 ?_
    refine x_istore C d_Mo_isToldSo_85 (by decide) (lv' := [(4, .int (nI (sz (g 0)))), (3, .int (g 7 (6 * k + 2))), (2, .int (g 7 (6 * k + 1))), (0, .ref (Z.2.1 (0))), (1, .int (nI (6 * k)))]) rfl ?_
    refine x_aload_n C d_Mo_isToldSo_87 3 rfl rfl ?_
    refine gf_Mo_now C k_791 d_Mo_isToldSo_88 ?_
    refine x_iload C d_Mo_isToldSo_91 0 rfl ?_
    refine x_iconst C d_Mo_isToldSo_93 (v := 2) (by decide) ?_
    refine x_callSi C (c_Mo_personAt Z (sz (g 0)) 2 (va_up g 0 (addR (g 0) (g 7 (6 * k)) (g 7 (6 * k + 1))))) mi_Mo_personAt k_897 (As := [.int (nI (sz (g 0))), .int (2)]) ⟨Nat.le_of_ble_eq_true rfl, Nat.le_of_ble_eq_true rfl⟩ rfl rfl (Nat.le_of_ble_eq_true rfl) d_Mo_isToldSo_94 ?_
    refine x_iload_n C d_Mo_isToldSo_97 1 rfl rfl ?_
    refine as_m_now C (pI (sz (g 0)) 2) (v := g 7 (6 * k + 2)) rfl (by first | omega | (simp only [pI]; omega)) (G := va_up g 0 (upd (addR (g 0) (g 7 (6 * k)) (g 7 (6 * k + 1))) (pI (sz (g 0)) 2) (g 7 (6 * k + 2)))) up_va d_Mo_isToldSo_98 ?_
    refine x_aload_n C d_Mo_isToldSo_99 3 rfl rfl ?_
    refine gf_Mo_now C k_791 d_Mo_isToldSo_100 ?_
    refine x_iload C d_Mo_isToldSo_103 0 rfl ?_
    refine x_iconst C d_Mo_isToldSo_105 (v := 3) (by decide) ?_
    refine x_callSi C (c_Mo_personAt Z (sz (g 0)) 3 (va_up g 0 (upd (addR (g 0) (g 7 (6 * k)) (g 7 (6 * k + 1))) (pI (sz (g 0)) 2) (g 7 (6 * k + 2))))) mi_Mo_personAt k_897 (As := [.int (nI (sz (g 0))), .int (3)]) ⟨Nat.le_of_ble_eq_true rfl, Nat.le_of_ble_eq_true rfl⟩ rfl rfl (Nat.le_of_ble_eq_true rfl) d_Mo_isToldSo_106 ?_
    refine x_aload_n C d_Mo_isToldSo_109 3 rfl rfl ?_
    refine gf_Mo_items C k_804 d_Mo_isToldSo_110 ?_
    refine x_iload_n C d_Mo_isToldSo_113 4 rfl rfl ?_
    refine x_iconst C d_Mo_isToldSo_114 (v := 3) (by decide) ?_
    refine x_iadd C d_Mo_isToldSo_115 ?_
    refine x_topi (x' := nI (6 * k + 3)) (nI_add _ 3) ?_
    refine al_m_items C (6 * k + 3) (v := g 7 (6 * k + 3)) rfl (by first | omega | (simp only [pI]; omega)) (congrFun (va_up_ne _ _ (by omega)) _) d_Mo_isToldSo_116 ?_
    refine as_m_now C (pI (sz (g 0)) 3) (v := g 7 (6 * k + 3)) rfl (by first | omega | (simp only [pI]; omega)) (G := va_up g 0 (upd (upd (addR (g 0) (g 7 (6 * k)) (g 7 (6 * k + 1))) (pI (sz (g 0)) 2) (g 7 (6 * k + 2))) (pI (sz (g 0)) 3) (g 7 (6 * k + 3)))) up_va d_Mo_isToldSo_117 ?_
    refine x_aload_n C d_Mo_isToldSo_118 3 rfl rfl ?_
    refine gf_Mo_now C k_791 d_Mo_isToldSo_119 ?_
    refine x_iload C d_Mo_isToldSo_122 0 rfl ?_
    refine x_iconst C d_Mo_isToldSo_124 (v := 4) (by decide) ?_
    refine x_callSi C (c_Mo_personAt Z (sz (g 0)) 4 (va_up g 0 (upd (upd (addR (g 0) (g 7 (6 * k)) (g 7 (6 * k + 1))) (pI (sz (g 0)) 2) (g 7 (6 * k + 2))) (pI (sz (g 0)) 3) (g 7 (6 * k + 3))))) mi_Mo_personAt k_897 (As := [.int (nI (sz (g 0))), .int (4)]) ⟨Nat.le_of_ble_eq_true rfl, Nat.le_of_ble_eq_true rfl⟩ rfl rfl (Nat.le_of_ble_eq_true rfl) d_Mo_isToldSo_125 ?_
    refine x_aload_n C d_Mo_isToldSo_128 3 rfl rfl ?_
    refine gf_Mo_items C k_804 d_Mo_isToldSo_129 ?_
    refine x_iload_n C d_Mo_isToldSo_132 4 rfl rfl ?_
    refine x_iconst C d_Mo_isToldSo_133 (v := 4) (by decide) ?_
    refine x_iadd C d_Mo_isToldSo_134 ?_
    refine x_topi (x' := nI (6 * k + 4)) (nI_add _ 4) ?_
    refine al_m_items C (6 * k + 4) (v := g 7 (6 * k + 4)) rfl (by first | omega | (simp only [pI]; omega)) (congrFun (va_up_ne _ _ (by omega)) _) d_Mo_isToldSo_135 ?_
    refine as_m_now C (pI (sz (g 0)) 4) (v := g 7 (6 * k + 4)) rfl (by first | omega | (simp only [pI]; omega)) (G := va_up g 0 (upd (upd (upd (addR (g 0) (g 7 (6 * k)) (g 7 (6 * k + 1))) (pI (sz (g 0)) 2) (g 7 (6 * k + 2))) (pI (sz (g 0)) 3) (g 7 (6 * k + 3))) (pI (sz (g 0)) 4) (g 7 (6 * k + 4)))) up_va d_Mo_isToldSo_136 ?_
    refine x_aload_n C d_Mo_isToldSo_137 3 rfl rfl ?_
    refine gf_Mo_now C k_791 d_Mo_isToldSo_138 ?_
    refine x_iload C d_Mo_isToldSo_141 0 rfl ?_
    refine x_iconst C d_Mo_isToldSo_143 (v := 5) (by decide) ?_
    refine x_callSi C (c_Mo_personAt Z (sz (g 0)) 5 (va_up g 0 (upd (upd (upd (addR (g 0) (g 7 (6 * k)) (g 7 (6 * k + 1))) (pI (sz (g 0)) 2) (g 7 (6 * k + 2))) (pI (sz (g 0)) 3) (g 7 (6 * k + 3))) (pI (sz (g 0)) 4) (g 7 (6 * k + 4))))) mi_Mo_personAt k_897 (As := [.int (nI (sz (g 0))), .int (5)]) ⟨Nat.le_of_ble_eq_true rfl, Nat.le_of_ble_eq_true rfl⟩ rfl rfl (Nat.le_of_ble_eq_true rfl) d_Mo_isToldSo_144 ?_
    refine x_aload_n C d_Mo_isToldSo_147 3 rfl rfl ?_
    refine gf_Mo_items C k_804 d_Mo_isToldSo_148 ?_
    refine x_iload_n C d_Mo_isToldSo_151 4 rfl rfl ?_
    refine x_iconst C d_Mo_isToldSo_152 (v := 5) (by decide) ?_
    refine x_iadd C d_Mo_isToldSo_153 ?_
    refine x_topi (x' := nI (6 * k + 5)) (nI_add _ 5) ?_
    refine al_m_items C (6 * k + 5) (v := g 7 (6 * k + 5)) rfl (by first | omega | (simp only [pI]; omega)) (congrFun (va_up_ne _ _ (by omega)) _) d_Mo_isToldSo_154 ?_
    refine as_m_now C (pI (sz (g 0)) 5) (v := g 7 (6 * k + 5)) rfl (by first | omega | (simp only [pI]; omega)) (G := va_up g 0 (upd (upd (upd (upd (addR (g 0) (g 7 (6 * k)) (g 7 (6 * k + 1))) (pI (sz (g 0)) 2) (g 7 (6 * k + 2))) (pI (sz (g 0)) 3) (g 7 (6 * k + 3))) (pI (sz (g 0)) 4) (g 7 (6 * k + 4))) (pI (sz (g 0)) 5) (g 7 (6 * k + 5)))) up_va d_Mo_isToldSo_155 ?_
    exact x_vret C (congrArg (va_up g 0) (by unfold tol1; rw [if_neg q1, if_neg q2])) d_Mo_isToldSo_156
