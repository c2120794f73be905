theorem cmp_rng {f m : Int32} {L : Nat} (hL : L ≤ 40) (hf : 0 ≤ f) (hm : 0 ≤ m) : ¬ 0 < lg_cmp (f.toInt64 + m.toInt64) ((nI L).toInt64) ↔ (f ≤ nI L ∧ m ≤ nI L - f) := by
  obtain ⟨a, ha, rfl⟩ := nI_of (Int32.not_lt.mpr hf)
  obtain ⟨b, hb, rfl⟩ := nI_of (Int32.not_lt.mpr hm)
  rw [nI_l ha, nI_l hb, nI_l (by omega)]
  have e1 : ¬ 0 < lg_cmp (lN a + lN b) (lN L) ↔ ¬ lN L < lN a + lN b := by
    unfold lg_cmp
    by_cases h1 : lN a + lN b > lN L
    · rw [if_pos h1]; simp [h1]
    · rw [if_neg h1]
      have : ¬ lN L < lN a + lN b := h1
      by_cases h2 : lN a + lN b = lN L
      · rw [if_pos h2]; simp [this]
      · rw [if_neg h2]; simp [this]
  rw [e1]
  have e2 : lN L < lN a + lN b ↔ L < a + b := by
    rw [Int64.lt_iff_toInt_lt, Int64.toInt_add, lN_toInt ha, lN_toInt hb, lN_toInt (by omega), Int.bmod_eq_of_le (by omega) (by omega)]
    omega
  rw [e2]
  constructor
  · intro h
    rw [pk_sub (by omega)]
    exact ⟨(nI_leI (by omega) (by omega)).mpr (by omega), (nI_leI (by omega) (by omega)).mpr (by omega)⟩
  · rintro ⟨h1, h2⟩
    have h1 := (nI_leI (by omega) (by omega)).mp h1
    rw [pk_sub (by omega)] at h2
    have h2 := (nI_leI (by omega) (by omega)).mp h2
    omega
theorem cpy_s {f h : Nat → Int32} {a d i : Nat} : upd (va_cpy f h a d i) (d + i) (f (a + i)) = va_cpy f h a d (i + 1) := by
  funext j
  unfold upd va_cpy
  by_cases h1 : j = d + i
  · subst h1; rw [if_pos rfl, if_pos (by omega)]; congr 1; omega
  · rw [if_neg h1]
    by_cases h2 : d ≤ j ∧ j < d + i
    · rw [if_pos h2, if_pos (by omega)]
    · rw [if_neg h2, if_neg (by omega)]
theorem cpy_0 {f h : Nat → Int32} {a d : Nat} : va_cpy f h a d 0 = h := by
  funext j
  unfold va_cpy
  rw [if_neg (by omega)]
theorem cpy_s0 {f h : Nat → Int32} {a i : Nat} : upd (va_cpy f h a 0 i) i (f (a + i)) = va_cpy f h a 0 (i + 1) := by
  have := cpy_s (f := f) (h := h) (a := a) (d := 0) (i := i)
  rwa [Nat.zero_add] at this
theorem cpy_sM {f h k : Nat → Int32} {a d i m : Nat} (hi : i < m) : upd (va_cpy f h a d i) (d + i) (va_cpy f k a 0 m i) = va_cpy f h a d (i + 1) := by
  rw [show va_cpy f k a 0 m i = f (a + i) by unfold va_cpy; rw [if_pos (by omega)]; congr 1]
  exact cpy_s

set_option maxRecDepth 100000 in
set_option maxHeartbeats 600000 in
theorem c_Mo_copy (Z : ZT) (s f t e m : Int32) (g : St)  (hk : okR (g 0)) (hS : ∀ s, s < 4 → ∃ L, L ≤ 40 ∧ g 9 s = nI L) : CT yM Z y_Mo_copy b_Mo_copy 7 (some (.int)) 2 42 [.ref (Z.2.1 (0)), .int (s), .int (f), .int (t), .int (e), .int (m)] (g) (QkI yM Z (if ¬ ((0 ≤ s ∧ s ≤ 3) ∧ (0 ≤ t ∧ t ≤ 3)) then (-1000001) else if g 8 s.toNatClampNeg = 0 ∨ g 8 t.toNatClampNeg = 0 then (-1000006) else if ¬ g 8 s.toNatClampNeg = g 8 t.toNatClampNeg then (-1000003) else if ¬ ((0 ≤ f ∧ 0 ≤ m ∧ f ≤ g 9 s.toNatClampNeg ∧ m ≤ g 9 s.toNatClampNeg - f) ∧ (0 ≤ e ∧ 0 ≤ m ∧ e ≤ g 9 t.toNatClampNeg ∧ m ≤ g 9 t.toNatClampNeg - e)) then (-1000001) else m) (fun u => ∃ σ : Nat → Int32, u = va_up (if ¬ ((0 ≤ s ∧ s ≤ 3) ∧ (0 ≤ t ∧ t ≤ 3)) then va_up g 4 (mfnR (g 4) 0) else if g 8 s.toNatClampNeg = 0 ∨ g 8 t.toNatClampNeg = 0 then va_up g 4 (mfnR (g 4) 5) else if ¬ g 8 s.toNatClampNeg = g 8 t.toNatClampNeg then va_up g 4 (mfnR (g 4) 2) else if ¬ ((0 ≤ f ∧ 0 ≤ m ∧ f ≤ g 9 s.toNatClampNeg ∧ m ≤ g 9 s.toNatClampNeg - f) ∧ (0 ≤ e ∧ 0 ≤ m ∧ e ≤ g 9 t.toNatClampNeg ∧ m ≤ g 9 t.toNatClampNeg - e)) then va_up g 4 (mfnR (g 4) 0) else va_up g 10 (va_cpy (g 10) (g 10) (40 * s.toNatClampNeg + f.toNatClampNeg) (40 * t.toNatClampNeg + e.toNatClampNeg) m.toNatClampNeg)) 11 σ)) := by
  refine CT.mk "TunnelPeaceModel" (by decide) rfl (Nat.le_of_ble_eq_true rfl) (fun X C => ?_)
  refine x_lv [0, 1, 2, 3, 4, 5] (lv' := [(0, .ref (Z.2.1 (0))), (1, .int (s)), (2, .int (f)), (3, .int (t)), (4, .int (e)), (5, .int (m))]) rfl ?_
  have hk0 := hk
  obtain ⟨⟨n, hn8, hn⟩, dd, hdd, hd⟩ := hk
  refine x_iload_n C d_Mo_copy_0 1 rfl rfl ?_
  refine x_callSi C (c_Mo_isSheet Z s (g)) mi_Mo_isSheet k_1103 (As := [.int (s)]) ⟨Nat.le_of_ble_eq_true rfl, Nat.le_of_ble_eq_true rfl⟩ rfl rfl (Nat.le_of_ble_eq_true rfl) d_Mo_copy_1 ?_
  refine x_ifeqB C d_Mo_copy_4 14 (by decide) (fun c_1 => ?_) (fun c_1 => ?_)
  · refine x_aload_n C d_Mo_copy_14 0 rfl rfl ?_
    refine x_ldc C d_Mo_copy_15 k_866 ?_
    refine x_callVi C (c_Mo_finding_0 Z (g) _ rfl) mi_Mo_finding k_867 (show 0 < 12 by omega) (m_0 Z _) rfl (As := [.int ((-1000001))]) ⟨Nat.le_of_ble_eq_true rfl, Nat.le_of_ble_eq_true rfl⟩ rfl rfl (Nat.le_of_ble_eq_true rfl) d_Mo_copy_17 ?_
    exact x_iretK C (by rw [if_pos (by first | exact fun h => absurd h.1 (by with_reducible assumption) | exact fun h => absurd h.2 (by with_reducible assumption))]) ⟨g 11, (by rw [if_pos (by first | exact fun h => absurd h.1 (by with_reducible assumption) | exact fun h => absurd h.2 (by with_reducible assumption))]; exact (va_idn (by decide)).symm)⟩ d_Mo_copy_20
  · obtain ⟨sq, hsq, rfl⟩ := in_le (n := 3) c_1 (by decide)
    have hcs : (nI sq).toNatClampNeg = sq := nI_clamp (by omega)
    refine x_iload_n C d_Mo_copy_7 3 rfl rfl ?_
    refine x_callSi C (c_Mo_isSheet Z t (g)) mi_Mo_isSheet k_1103 (As := [.int (t)]) ⟨Nat.le_of_ble_eq_true rfl, Nat.le_of_ble_eq_true rfl⟩ rfl rfl (Nat.le_of_ble_eq_true rfl) d_Mo_copy_8 ?_
    refine x_ifneB C d_Mo_copy_11 21 (by decide) (fun c_2 => ?_) (fun c_2 => ?_)
    · obtain ⟨tq, htq, rfl⟩ := in_le (n := 3) c_2 (by decide)
      have hct : (nI tq).toNatClampNeg = tq := nI_clamp (by omega)
      obtain ⟨L, hL4, hL⟩ := hS sq (by omega)
      obtain ⟨L2, hL24, hL2⟩ := hS tq (by omega)
      refine x_aload_n C d_Mo_copy_21 0 rfl rfl ?_
      refine gf_Mo_widths C k_807 d_Mo_copy_22 ?_
      refine x_iload_n C d_Mo_copy_25 1 rfl rfl ?_
      refine al_m_widths C sq (v := g 8 sq) rfl (by first | omega | (simp only [pI]; omega)) rfl d_Mo_copy_26 ?_
      refine x_ifeq C d_Mo_copy_27 39 (by decide) (fun c_3 => ?_) (fun c_3 => ?_)
      · refine x_aload_n C d_Mo_copy_39 0 rfl rfl ?_
        refine x_ldc C d_Mo_copy_40 k_1106 ?_
        refine x_callVi C (c_Mo_finding_5 Z (g) _ rfl) mi_Mo_finding k_867 (show 0 < 12 by omega) (m_0 Z _) rfl (As := [.int ((-1000006))]) ⟨Nat.le_of_ble_eq_true rfl, Nat.le_of_ble_eq_true rfl⟩ rfl rfl (Nat.le_of_ble_eq_true rfl) d_Mo_copy_42 ?_
        exact x_iretK C (by simp only [hcs, hct]; rw [if_neg (fun h => h ⟨by with_reducible assumption, by with_reducible assumption⟩), if_pos (by first | exact Or.inl (by with_reducible assumption) | exact Or.inr (by with_reducible assumption))]) ⟨g 11, (by simp only [hcs, hct]; rw [if_neg (fun h => h ⟨by with_reducible assumption, by with_reducible assumption⟩), if_pos (by first | exact Or.inl (by with_reducible assumption) | exact Or.inr (by with_reducible assumption))]; exact (va_idn (by decide)).symm)⟩ d_Mo_copy_45
      · refine x_aload_n C d_Mo_copy_30 0 rfl rfl ?_
        refine gf_Mo_widths C k_807 d_Mo_copy_31 ?_
        refine x_iload_n C d_Mo_copy_34 3 rfl rfl ?_
        refine al_m_widths C tq (v := g 8 tq) rfl (by first | omega | (simp only [pI]; omega)) rfl d_Mo_copy_35 ?_
        refine x_ifne C d_Mo_copy_36 46 (by decide) (fun c_4 => ?_) (fun c_4 => ?_)
        · refine x_aload_n C d_Mo_copy_46 0 rfl rfl ?_
          refine gf_Mo_widths C k_807 d_Mo_copy_47 ?_
          refine x_iload_n C d_Mo_copy_50 1 rfl rfl ?_
          refine al_m_widths C sq (v := g 8 sq) rfl (by first | omega | (simp only [pI]; omega)) rfl d_Mo_copy_51 ?_
          refine x_aload_n C d_Mo_copy_52 0 rfl rfl ?_
          refine gf_Mo_widths C k_807 d_Mo_copy_53 ?_
          refine x_iload_n C d_Mo_copy_56 3 rfl rfl ?_
          refine al_m_widths C tq (v := g 8 tq) rfl (by first | omega | (simp only [pI]; omega)) rfl d_Mo_copy_57 ?_
          refine x_icmp_eq C d_Mo_copy_58 69 (by decide) (fun c_5 => ?_) (fun c_5 => ?_)
          · refine x_iload_n C d_Mo_copy_69 2 rfl rfl ?_
            refine x_iflt C d_Mo_copy_70 118 (by decide) (fun c_6 => ?_) (fun c_6 => ?_)
            · have nc_6 := Int32.not_le.mpr c_6
              refine x_aload_n C d_Mo_copy_118 0 rfl rfl ?_
              refine x_ldc C d_Mo_copy_119 k_866 ?_
              refine x_callVi C (c_Mo_finding_0 Z (g) _ rfl) mi_Mo_finding k_867 (show 0 < 12 by omega) (m_0 Z _) rfl (As := [.int ((-1000001))]) ⟨Nat.le_of_ble_eq_true rfl, Nat.le_of_ble_eq_true rfl⟩ rfl rfl (Nat.le_of_ble_eq_true rfl) d_Mo_copy_121 ?_
              have hneg : ¬ ((0 ≤ f ∧ 0 ≤ m ∧ f ≤ g 9 sq ∧ m ≤ g 9 sq - f) ∧ (0 ≤ e ∧ 0 ≤ m ∧ e ≤ g 9 tq ∧ m ≤ g 9 tq - e)) := fun h => by first | exact absurd h.1.1 (Int32.not_le.mpr (by with_reducible assumption)) | exact absurd h.1.2.1 (Int32.not_le.mpr (by with_reducible assumption)) | exact absurd h.2.1 (Int32.not_le.mpr (by with_reducible assumption)) | exact (cmp_rng hL4 h.1.1 h.1.2.1).mpr (by rw [← hL]; exact h.1.2.2) (by with_reducible assumption) | exact (cmp_rng hL24 h.2.1 h.2.2.1).mpr (by rw [← hL2]; exact h.2.2.2) (by with_reducible assumption)
              exact x_iretK C (by simp only [hcs, hct]; rw [if_neg (fun h => h ⟨by with_reducible assumption, by with_reducible assumption⟩), if_neg (by rintro (h | h) <;> contradiction), if_neg (fun h => h (by with_reducible assumption)), if_pos]; exact hneg) ⟨g 11, (by simp only [hcs, hct]; rw [if_neg (fun h => h ⟨by with_reducible assumption, by with_reducible assumption⟩), if_neg (by rintro (h | h) <;> contradiction), if_neg (fun h => h (by with_reducible assumption)), if_pos hneg]; exact (va_idn (by decide)).symm)⟩ d_Mo_copy_124
            · have nc_6 := Int32.not_lt.mp c_6
              refine x_iload C d_Mo_copy_73 4 rfl ?_
              refine x_iflt C d_Mo_copy_75 118 (by decide) (fun c_7 => ?_) (fun c_7 => ?_)
              · have nc_7 := Int32.not_le.mpr c_7
                refine x_aload_n C d_Mo_copy_118 0 rfl rfl ?_
                refine x_ldc C d_Mo_copy_119 k_866 ?_
                refine x_callVi C (c_Mo_finding_0 Z (g) _ rfl) mi_Mo_finding k_867 (show 0 < 12 by omega) (m_0 Z _) rfl (As := [.int ((-1000001))]) ⟨Nat.le_of_ble_eq_true rfl, Nat.le_of_ble_eq_true rfl⟩ rfl rfl (Nat.le_of_ble_eq_true rfl) d_Mo_copy_121 ?_
                have hneg : ¬ ((0 ≤ f ∧ 0 ≤ m ∧ f ≤ g 9 sq ∧ m ≤ g 9 sq - f) ∧ (0 ≤ e ∧ 0 ≤ m ∧ e ≤ g 9 tq ∧ m ≤ g 9 tq - e)) := fun h => by first | exact absurd h.1.1 (Int32.not_le.mpr (by with_reducible assumption)) | exact absurd h.1.2.1 (Int32.not_le.mpr (by with_reducible assumption)) | exact absurd h.2.1 (Int32.not_le.mpr (by with_reducible assumption)) | exact (cmp_rng hL4 h.1.1 h.1.2.1).mpr (by rw [← hL]; exact h.1.2.2) (by with_reducible assumption) | exact (cmp_rng hL24 h.2.1 h.2.2.1).mpr (by rw [← hL2]; exact h.2.2.2) (by with_reducible assumption)
                exact x_iretK C (by simp only [hcs, hct]; rw [if_neg (fun h => h ⟨by with_reducible assumption, by with_reducible assumption⟩), if_neg (by rintro (h | h) <;> contradiction), if_neg (fun h => h (by with_reducible assumption)), if_pos]; exact hneg) ⟨g 11, (by simp only [hcs, hct]; rw [if_neg (fun h => h ⟨by with_reducible assumption, by with_reducible assumption⟩), if_neg (by rintro (h | h) <;> contradiction), if_neg (fun h => h (by with_reducible assumption)), if_pos hneg]; exact (va_idn (by decide)).symm)⟩ d_Mo_copy_124
              · have nc_7 := Int32.not_lt.mp c_7
                refine x_iload C d_Mo_copy_78 5 rfl ?_
                refine x_iflt C d_Mo_copy_80 118 (by decide) (fun c_8 => ?_) (fun c_8 => ?_)
                · have nc_8 := Int32.not_le.mpr c_8
                  refine x_aload_n C d_Mo_copy_118 0 rfl rfl ?_
                  refine x_ldc C d_Mo_copy_119 k_866 ?_
                  refine x_callVi C (c_Mo_finding_0 Z (g) _ rfl) mi_Mo_finding k_867 (show 0 < 12 by omega) (m_0 Z _) rfl (As := [.int ((-1000001))]) ⟨Nat.le_of_ble_eq_true rfl, Nat.le_of_ble_eq_true rfl⟩ rfl rfl (Nat.le_of_ble_eq_true rfl) d_Mo_copy_121 ?_
                  have hneg : ¬ ((0 ≤ f ∧ 0 ≤ m ∧ f ≤ g 9 sq ∧ m ≤ g 9 sq - f) ∧ (0 ≤ e ∧ 0 ≤ m ∧ e ≤ g 9 tq ∧ m ≤ g 9 tq - e)) := fun h => by first | exact absurd h.1.1 (Int32.not_le.mpr (by with_reducible assumption)) | exact absurd h.1.2.1 (Int32.not_le.mpr (by with_reducible assumption)) | exact absurd h.2.1 (Int32.not_le.mpr (by with_reducible assumption)) | exact (cmp_rng hL4 h.1.1 h.1.2.1).mpr (by rw [← hL]; exact h.1.2.2) (by with_reducible assumption) | exact (cmp_rng hL24 h.2.1 h.2.2.1).mpr (by rw [← hL2]; exact h.2.2.2) (by with_reducible assumption)
                  exact x_iretK C (by simp only [hcs, hct]; rw [if_neg (fun h => h ⟨by with_reducible assumption, by with_reducible assumption⟩), if_neg (by rintro (h | h) <;> contradiction), if_neg (fun h => h (by with_reducible assumption)), if_pos]; exact hneg) ⟨g 11, (by simp only [hcs, hct]; rw [if_neg (fun h => h ⟨by with_reducible assumption, by with_reducible assumption⟩), if_neg (by rintro (h | h) <;> contradiction), if_neg (fun h => h (by with_reducible assumption)), if_pos hneg]; exact (va_idn (by decide)).symm)⟩ d_Mo_copy_124
                · have nc_8 := Int32.not_lt.mp c_8
                  refine x_iload_n C d_Mo_copy_83 2 rfl rfl ?_
                  refine x_i2l C d_Mo_copy_84 ?_
                  refine x_iload C d_Mo_copy_85 5 rfl ?_
                  refine x_i2l C d_Mo_copy_87 ?_
                  refine x_ladd C d_Mo_copy_88 ?_
                  refine x_aload_n C d_Mo_copy_89 0 rfl rfl ?_
                  refine gf_Mo_sizes C k_808 d_Mo_copy_90 ?_
                  refine x_iload_n C d_Mo_copy_93 1 rfl rfl ?_
                  refine al_m_sizes C sq (v := nI L) rfl (by first | omega | (simp only [pI]; omega)) hL d_Mo_copy_94 ?_
                  refine x_i2l C d_Mo_copy_95 ?_
                  refine x_lcmp C d_Mo_copy_96 ?_
                  refine x_ifgt C d_Mo_copy_97 118 (by decide) (fun c_9 => ?_) (fun c_9 => ?_)
                  · have nc_9 := Int32.not_le.mpr c_9
                    refine x_aload_n C d_Mo_copy_118 0 rfl rfl ?_
                    refine x_ldc C d_Mo_copy_119 k_866 ?_
                    refine x_callVi C (c_Mo_finding_0 Z (g) _ rfl) mi_Mo_finding k_867 (show 0 < 12 by omega) (m_0 Z _) rfl (As := [.int ((-1000001))]) ⟨Nat.le_of_ble_eq_true rfl, Nat.le_of_ble_eq_true rfl⟩ rfl rfl (Nat.le_of_ble_eq_true rfl) d_Mo_copy_121 ?_
                    have hneg : ¬ ((0 ≤ f ∧ 0 ≤ m ∧ f ≤ g 9 sq ∧ m ≤ g 9 sq - f) ∧ (0 ≤ e ∧ 0 ≤ m ∧ e ≤ g 9 tq ∧ m ≤ g 9 tq - e)) := fun h => by first | exact absurd h.1.1 (Int32.not_le.mpr (by with_reducible assumption)) | exact absurd h.1.2.1 (Int32.not_le.mpr (by with_reducible assumption)) | exact absurd h.2.1 (Int32.not_le.mpr (by with_reducible assumption)) | exact (cmp_rng hL4 h.1.1 h.1.2.1).mpr (by rw [← hL]; exact h.1.2.2) (by with_reducible assumption) | exact (cmp_rng hL24 h.2.1 h.2.2.1).mpr (by rw [← hL2]; exact h.2.2.2) (by with_reducible assumption)
                    exact x_iretK C (by simp only [hcs, hct]; rw [if_neg (fun h => h ⟨by with_reducible assumption, by with_reducible assumption⟩), if_neg (by rintro (h | h) <;> contradiction), if_neg (fun h => h (by with_reducible assumption)), if_pos]; exact hneg) ⟨g 11, (by simp only [hcs, hct]; rw [if_neg (fun h => h ⟨by with_reducible assumption, by with_reducible assumption⟩), if_neg (by rintro (h | h) <;> contradiction), if_neg (fun h => h (by with_reducible assumption)), if_pos hneg]; exact (va_idn (by decide)).symm)⟩ d_Mo_copy_124
                  · have nc_9 := Int32.not_lt.mp c_9
                    refine x_iload C d_Mo_copy_100 4 rfl ?_
                    refine x_i2l C d_Mo_copy_102 ?_
                    refine x_iload C d_Mo_copy_103 5 rfl ?_
                    refine x_i2l C d_Mo_copy_105 ?_
                    refine x_ladd C d_Mo_copy_106 ?_
                    refine x_aload_n C d_Mo_copy_107 0 rfl rfl ?_
                    refine gf_Mo_sizes C k_808 d_Mo_copy_108 ?_
                    refine x_iload_n C d_Mo_copy_111 3 rfl rfl ?_
                    refine al_m_sizes C tq (v := nI L2) rfl (by first | omega | (simp only [pI]; omega)) hL2 d_Mo_copy_112 ?_
                    refine x_i2l C d_Mo_copy_113 ?_
                    refine x_lcmp C d_Mo_copy_114 ?_
                    refine x_ifle C d_Mo_copy_115 125 (by decide) (fun c_10 => ?_) (fun c_10 => ?_)
                    · have nc_10 := Int32.not_lt.mpr c_10
                      have hr1 := (cmp_rng hL4 (by with_reducible assumption) (by with_reducible assumption)).mp (by with_reducible assumption : ¬ 0 < lg_cmp (f.toInt64 + m.toInt64) _)
                      have hr2 := (cmp_rng hL24 (by with_reducible assumption) (by with_reducible assumption)).mp (Int32.not_lt.mpr (by with_reducible assumption) : ¬ 0 < lg_cmp (e.toInt64 + m.toInt64) _)
                      rw [← hL] at hr1
                      rw [← hL2] at hr2
                      have hpos : ((0 ≤ f ∧ 0 ≤ m ∧ f ≤ g 9 sq ∧ m ≤ g 9 sq - f) ∧ (0 ≤ e ∧ 0 ≤ m ∧ e ≤ g 9 tq ∧ m ≤ g 9 tq - e)) := ⟨⟨by with_reducible assumption, by with_reducible assumption, hr1⟩, by with_reducible assumption, by with_reducible assumption, hr2⟩
                      rw [hL] at hr1
                      rw [hL2] at hr2
                      obtain ⟨fq, mq, ef, em, hfm⟩ := rng (⟨by with_reducible assumption, by with_reducible assumption, hr1⟩ : 0 ≤ f ∧ 0 ≤ m ∧ _) hL4
                      subst ef; subst em
                      obtain ⟨eq, mq2, et, em2, htm⟩ := rng (⟨by with_reducible assumption, by with_reducible assumption, hr2⟩ : 0 ≤ e ∧ 0 ≤ nI mq ∧ _) hL24
                      subst et
                      have emm : mq = mq2 := by rwa [nI_eq (by omega) (by omega)] at em2
                      have hcf : (nI fq).toNatClampNeg = fq := nI_clamp (by omega)
                      have hcm : (nI mq).toNatClampNeg = mq := nI_clamp (by omega)
                      have hce : (nI eq).toNatClampNeg = eq := nI_clamp (by omega)
                      refine x_iconst C d_Mo_copy_125 (v := 0) (by decide) ?_
                      refine x_topi (show (0 : Int32) = nI 0 by decide) ?_
                      refine x_istore C d_Mo_copy_126 (by decide) (lv' := [(6, .int (nI 0)), (0, .ref (Z.2.1 (0))), (1, .int (nI sq)), (2, .int (nI fq)), (3, .int (nI tq)), (4, .int (nI eq)), (5, .int (nI mq))]) rfl ?_
                      have LP_128 : ∀ (f_ i : Nat), i ≤ mq → mq - i < f_ → WX X 7 yM Z (QX X yM Z (QkI yM Z (if ¬ ((0 ≤ (nI sq) ∧ (nI sq) ≤ 3) ∧ (0 ≤ (nI tq) ∧ (nI tq) ≤ 3)) then (-1000001) else if g 8 (nI sq).toNatClampNeg = 0 ∨ g 8 (nI tq).toNatClampNeg = 0 then (-1000006) else if ¬ g 8 (nI sq).toNatClampNeg = g 8 (nI tq).toNatClampNeg then (-1000003) else if ¬ ((0 ≤ (nI fq) ∧ 0 ≤ (nI mq) ∧ (nI fq) ≤ g 9 (nI sq).toNatClampNeg ∧ (nI mq) ≤ g 9 (nI sq).toNatClampNeg - (nI fq)) ∧ (0 ≤ (nI eq) ∧ 0 ≤ (nI mq) ∧ (nI eq) ≤ g 9 (nI tq).toNatClampNeg ∧ (nI mq) ≤ g 9 (nI tq).toNatClampNeg - (nI eq))) then (-1000001) else (nI mq)) (fun u => ∃ σ : Nat → Int32, u = va_up (if ¬ ((0 ≤ (nI sq) ∧ (nI sq) ≤ 3) ∧ (0 ≤ (nI tq) ∧ (nI tq) ≤ 3)) then va_up g 4 (mfnR (g 4) 0) else if g 8 (nI sq).toNatClampNeg = 0 ∨ g 8 (nI tq).toNatClampNeg = 0 then va_up g 4 (mfnR (g 4) 5) else if ¬ g 8 (nI sq).toNatClampNeg = g 8 (nI tq).toNatClampNeg then va_up g 4 (mfnR (g 4) 2) else if ¬ ((0 ≤ (nI fq) ∧ 0 ≤ (nI mq) ∧ (nI fq) ≤ g 9 (nI sq).toNatClampNeg ∧ (nI mq) ≤ g 9 (nI sq).toNatClampNeg - (nI fq)) ∧ (0 ≤ (nI eq) ∧ 0 ≤ (nI mq) ∧ (nI eq) ≤ g 9 (nI tq).toNatClampNeg ∧ (nI mq) ≤ g 9 (nI tq).toNatClampNeg - (nI eq))) then va_up g 4 (mfnR (g 4) 0) else va_up g 10 (va_cpy (g 10) (g 10) (40 * (nI sq).toNatClampNeg + (nI fq).toNatClampNeg) (40 * (nI tq).toNatClampNeg + (nI eq).toNatClampNeg) (nI mq).toNatClampNeg)) 11 σ))) (va_up g 11 (va_cpy (g 10) (g 11) (40 * sq + fq) 0 (i))) 128 [(6, .int (nI i)), (0, .ref (Z.2.1 (0))), (1, .int (nI sq)), (2, .int (nI fq)), (3, .int (nI tq)), (4, .int (nI eq)), (5, .int (nI mq))] [] := by
                        intro f_
                        induction f_ with
                        | zero => intro i h1_ h2_; exact absurd h2_ (Nat.not_lt_zero _)
                        | succ f_ ih_128 =>
                          intro i hi_128 hf_128
                          refine x_iload C d_Mo_copy_128 0 rfl ?_
                          refine x_iload C d_Mo_copy_130 6 rfl ?_
                          refine x_icmp_ge C d_Mo_copy_132 162 (by decide) (fun c_11 => ?_) (fun c_11 => ?_)
                          · have nc_11 := Int32.not_lt.mpr c_11
                            have mc_11 : mq ≤ i := (nI_leI (by omega) (by omega)).mp (show nI mq ≤ nI i from c_11)
                            have e_i : mq = i := by omega
                            subst e_i
                            refine x_iconst C d_Mo_copy_162 (v := 0) (by decide) ?_
                            refine x_topi (show (0 : Int32) = nI 0 by decide) ?_
                            refine x_istore C d_Mo_copy_163 (by decide) (lv' := [(6, .int (nI 0)), (0, .ref (Z.2.1 (0))), (1, .int (nI sq)), (2, .int (nI fq)), (3, .int (nI tq)), (4, .int (nI eq)), (5, .int (nI mq))]) rfl ?_
                            have LP_165 : ∀ (f_ k : Nat), k ≤ mq → mq - k < f_ → WX X 7 yM Z (QX X yM Z (QkI yM Z (if ¬ ((0 ≤ (nI sq) ∧ (nI sq) ≤ 3) ∧ (0 ≤ (nI tq) ∧ (nI tq) ≤ 3)) then (-1000001) else if g 8 (nI sq).toNatClampNeg = 0 ∨ g 8 (nI tq).toNatClampNeg = 0 then (-1000006) else if ¬ g 8 (nI sq).toNatClampNeg = g 8 (nI tq).toNatClampNeg then (-1000003) else if ¬ ((0 ≤ (nI fq) ∧ 0 ≤ (nI mq) ∧ (nI fq) ≤ g 9 (nI sq).toNatClampNeg ∧ (nI mq) ≤ g 9 (nI sq).toNatClampNeg - (nI fq)) ∧ (0 ≤ (nI eq) ∧ 0 ≤ (nI mq) ∧ (nI eq) ≤ g 9 (nI tq).toNatClampNeg ∧ (nI mq) ≤ g 9 (nI tq).toNatClampNeg - (nI eq))) then (-1000001) else (nI mq)) (fun u => ∃ σ : Nat → Int32, u = va_up (if ¬ ((0 ≤ (nI sq) ∧ (nI sq) ≤ 3) ∧ (0 ≤ (nI tq) ∧ (nI tq) ≤ 3)) then va_up g 4 (mfnR (g 4) 0) else if g 8 (nI sq).toNatClampNeg = 0 ∨ g 8 (nI tq).toNatClampNeg = 0 then va_up g 4 (mfnR (g 4) 5) else if ¬ g 8 (nI sq).toNatClampNeg = g 8 (nI tq).toNatClampNeg then va_up g 4 (mfnR (g 4) 2) else if ¬ ((0 ≤ (nI fq) ∧ 0 ≤ (nI mq) ∧ (nI fq) ≤ g 9 (nI sq).toNatClampNeg ∧ (nI mq) ≤ g 9 (nI sq).toNatClampNeg - (nI fq)) ∧ (0 ≤ (nI eq) ∧ 0 ≤ (nI mq) ∧ (nI eq) ≤ g 9 (nI tq).toNatClampNeg ∧ (nI mq) ≤ g 9 (nI tq).toNatClampNeg - (nI eq))) then va_up g 4 (mfnR (g 4) 0) else va_up g 10 (va_cpy (g 10) (g 10) (40 * (nI sq).toNatClampNeg + (nI fq).toNatClampNeg) (40 * (nI tq).toNatClampNeg + (nI eq).toNatClampNeg) (nI mq).toNatClampNeg)) 11 σ))) (va_up (va_up g 11 (va_cpy (g 10) (g 11) (40 * sq + fq) 0 mq)) 10 (va_cpy (g 10) (g 10) (40 * sq + fq) (40 * tq + eq) (k))) 165 [(6, .int (nI k)), (0, .ref (Z.2.1 (0))), (1, .int (nI sq)), (2, .int (nI fq)), (3, .int (nI tq)), (4, .int (nI eq)), (5, .int (nI mq))] [] := by
                              intro f_
                              induction f_ with
                              | zero => intro k h1_ h2_; exact absurd h2_ (Nat.not_lt_zero _)
                              | succ f_ ih_165 =>
                                intro k hi_165 hf_165
                                refine x_iload C d_Mo_copy_165 0 rfl ?_
                                refine x_iload C d_Mo_copy_167 6 rfl ?_
                                refine x_icmp_ge C d_Mo_copy_169 200 (by decide) (fun c_12 => ?_) (fun c_12 => ?_)
                                · have nc_12 := Int32.not_lt.mpr c_12
                                  have mc_12 : mq ≤ k := (nI_leI (by omega) (by omega)).mp (show nI mq ≤ nI k from c_12)
                                  have e_k : mq = k := by omega
                                  subst e_k
                                  refine x_iload C d_Mo_copy_200 6 rfl ?_
                                  exact x_iretK C (by simp only [hcs, hct]; rw [if_neg (fun h => h ⟨by with_reducible assumption, by with_reducible assumption⟩), if_neg (by rintro (h | h) <;> contradiction), if_neg (fun h => h (by with_reducible assumption)), if_neg (fun h => h hpos)]) ⟨_, (by simp only [hcs, hct, hcf, hce, hcm]; rw [if_neg (fun h => h ⟨by with_reducible assumption, by with_reducible assumption⟩), if_neg (by rintro (h | h) <;> contradiction), if_neg (fun h => h (by with_reducible assumption)), if_neg (fun h => h hpos)]; exact va_com (by decide))⟩ d_Mo_copy_202
                                · have nc_12 := Int32.not_le.mp c_12
                                  have mc_12 : ¬ mq ≤ k := fun z_ => (show ¬ nI mq ≤ nI k from c_12) ((nI_leI (by omega) (by omega)).mpr z_)
                                  refine x_aload_n C d_Mo_copy_172 1 rfl rfl ?_
                                  refine gf_Mo_numbers C k_809 d_Mo_copy_173 ?_
                                  refine x_bipush C d_Mo_copy_176 (v := 40) (by decide) ?_
                                  refine x_iload_n C d_Mo_copy_178 4 rfl rfl ?_
                                  refine x_imul C d_Mo_copy_179 ?_
                                  refine x_topi (x' := nI (40 * tq)) (pk_mul 40 _) ?_
                                  refine x_iload C d_Mo_copy_180 5 rfl ?_
                                  refine x_iadd C d_Mo_copy_182 ?_
                                  refine x_topi (x' := nI (40 * tq + eq)) (nI_add _ _) ?_
                                  refine x_iload C d_Mo_copy_183 0 rfl ?_
                                  refine x_iadd C d_Mo_copy_185 ?_
                                  refine x_topi (x' := nI (40 * tq + eq + k)) (nI_add _ _) ?_
                                  refine x_aload_n C d_Mo_copy_186 1 rfl rfl ?_
                                  refine gf_Mo_moved C k_810 d_Mo_copy_187 ?_
                                  refine x_iload C d_Mo_copy_190 0 rfl ?_
                                  refine al_m_moved C k (v := (va_cpy (g 10) (g 11) (40 * sq + fq) 0 mq) k) rfl (by first | omega | (simp only [pI]; omega)) (congrFun (Eq.trans (va_up_ne _ _ (by omega)) (va_up_self _ _ _)) _) d_Mo_copy_192 ?_
                                  refine as_m_numbers C (40 * tq + eq + k) (v := (va_cpy (g 10) (g 11) (40 * sq + fq) 0 mq) k) rfl (by first | omega | (simp only [pI]; omega)) (G := va_up (va_up g 11 (va_cpy (g 10) (g 11) (40 * sq + fq) 0 mq)) 10 (upd (va_cpy (g 10) (g 10) (40 * sq + fq) (40 * tq + eq) (k)) (40 * tq + eq + k) ((va_cpy (g 10) (g 11) (40 * sq + fq) 0 mq) k))) up_va d_Mo_copy_193 ?_
                                  refine x_iinc C d_Mo_copy_194 0 rfl (v := nI (k + 1)) (nI_1 _) (by decide) (lv' := [(6, .int (nI (k + 1))), (0, .ref (Z.2.1 (0))), (1, .int (nI sq)), (2, .int (nI fq)), (3, .int (nI tq)), (4, .int (nI eq)), (5, .int (nI mq))]) rfl ?_
                                  refine x_goto C d_Mo_copy_197 165 (by decide) ?_
                                  refine x_eqg (g' := va_up (va_up g 11 (va_cpy (g 10) (g 11) (40 * sq + fq) 0 mq)) 10 (va_cpy (g 10) (g 10) (40 * sq + fq) (40 * tq + eq) (k + 1))) (by rw [cpy_sM (by omega)]) ?_
                                  exact ih_165 (k + 1) (by omega) (by omega)
                            refine x_eqg (g' := va_up (va_up g 11 (va_cpy (g 10) (g 11) (40 * sq + fq) 0 mq)) 10 (va_cpy (g 10) (g 10) (40 * sq + fq) (40 * tq + eq) (0))) (by rw [cpy_0]; exact (va_idn (by decide)).symm) ?_
                            exact LP_165 (mq + 1) 0 (Nat.zero_le _) (by omega)
                          · have nc_11 := Int32.not_le.mp c_11
                            have mc_11 : ¬ mq ≤ i := fun z_ => (show ¬ nI mq ≤ nI i from c_11) ((nI_leI (by omega) (by omega)).mpr z_)
                            refine x_aload_n C d_Mo_copy_135 1 rfl rfl ?_
                            refine gf_Mo_moved C k_810 d_Mo_copy_136 ?_
                            refine x_iload C d_Mo_copy_139 0 rfl ?_
                            refine x_aload_n C d_Mo_copy_141 1 rfl rfl ?_
                            refine gf_Mo_numbers C k_809 d_Mo_copy_142 ?_
                            refine x_bipush C d_Mo_copy_145 (v := 40) (by decide) ?_
                            refine x_iload_n C d_Mo_copy_147 2 rfl rfl ?_
                            refine x_imul C d_Mo_copy_148 ?_
                            refine x_topi (x' := nI (40 * sq)) (pk_mul 40 _) ?_
                            refine x_iload_n C d_Mo_copy_149 3 rfl rfl ?_
                            refine x_iadd C d_Mo_copy_150 ?_
                            refine x_topi (x' := nI (40 * sq + fq)) (nI_add _ _) ?_
                            refine x_iload C d_Mo_copy_151 0 rfl ?_
                            refine x_iadd C d_Mo_copy_153 ?_
                            refine x_topi (x' := nI (40 * sq + fq + i)) (nI_add _ _) ?_
                            refine al_m_numbers C (40 * sq + fq + i) (v := g 10 (40 * sq + fq + i)) rfl (by first | omega | (simp only [pI]; omega)) (congrFun (va_up_ne _ _ (by omega)) _) d_Mo_copy_154 ?_
                            refine as_m_moved C i (v := g 10 (40 * sq + fq + i)) rfl (by first | omega | (simp only [pI]; omega)) (G := va_up g 11 (upd (va_cpy (g 10) (g 11) (40 * sq + fq) 0 (i)) i (g 10 (40 * sq + fq + i)))) up_va d_Mo_copy_155 ?_
                            refine x_iinc C d_Mo_copy_156 0 rfl (v := nI (i + 1)) (nI_1 _) (by decide) (lv' := [(6, .int (nI (i + 1))), (0, .ref (Z.2.1 (0))), (1, .int (nI sq)), (2, .int (nI fq)), (3, .int (nI tq)), (4, .int (nI eq)), (5, .int (nI mq))]) rfl ?_
                            refine x_goto C d_Mo_copy_159 128 (by decide) ?_
                            refine x_eqg (g' := va_up g 11 (va_cpy (g 10) (g 11) (40 * sq + fq) 0 (i + 1))) (by rw [cpy_s0]) ?_
                            exact ih_128 (i + 1) (by omega) (by omega)
                      refine x_eqg (g' := va_up g 11 (va_cpy (g 10) (g 11) (40 * sq + fq) 0 (0))) (by rw [cpy_0, va_id]) ?_
                      exact LP_128 (mq + 1) 0 (Nat.zero_le _) (by omega)
                    · have nc_10 := Int32.not_le.mp c_10
                      refine x_aload_n C d_Mo_copy_118 0 rfl rfl ?_
                      refine x_ldc C d_Mo_copy_119 k_866 ?_
                      refine x_callVi C (c_Mo_finding_0 Z (g) _ rfl) mi_Mo_finding k_867 (show 0 < 12 by omega) (m_0 Z _) rfl (As := [.int ((-1000001))]) ⟨Nat.le_of_ble_eq_true rfl, Nat.le_of_ble_eq_true rfl⟩ rfl rfl (Nat.le_of_ble_eq_true rfl) d_Mo_copy_121 ?_
                      have hneg : ¬ ((0 ≤ f ∧ 0 ≤ m ∧ f ≤ g 9 sq ∧ m ≤ g 9 sq - f) ∧ (0 ≤ e ∧ 0 ≤ m ∧ e ≤ g 9 tq ∧ m ≤ g 9 tq - e)) := fun h => by first | exact absurd h.1.1 (Int32.not_le.mpr (by with_reducible assumption)) | exact absurd h.1.2.1 (Int32.not_le.mpr (by with_reducible assumption)) | exact absurd h.2.1 (Int32.not_le.mpr (by with_reducible assumption)) | exact (cmp_rng hL4 h.1.1 h.1.2.1).mpr (by rw [← hL]; exact h.1.2.2) (by with_reducible assumption) | exact (cmp_rng hL24 h.2.1 h.2.2.1).mpr (by rw [← hL2]; exact h.2.2.2) (by with_reducible assumption)
                      exact x_iretK C (by simp only [hcs, hct]; rw [if_neg (fun h => h ⟨by with_reducible assumption, by with_reducible assumption⟩), if_neg (by rintro (h | h) <;> contradiction), if_neg (fun h => h (by with_reducible assumption)), if_pos]; exact hneg) ⟨g 11, (by simp only [hcs, hct]; rw [if_neg (fun h => h ⟨by with_reducible assumption, by with_reducible assumption⟩), if_neg (by rintro (h | h) <;> contradiction), if_neg (fun h => h (by with_reducible assumption)), if_pos hneg]; exact (va_idn (by decide)).symm)⟩ d_Mo_copy_124
          · have nc_5 := Ne.symm c_5
            refine x_aload_n C d_Mo_copy_61 0 rfl rfl ?_
            refine x_ldcw C d_Mo_copy_62 k_1217 ?_
            refine x_callVi C (c_Mo_finding_2 Z (g) _ rfl) mi_Mo_finding k_867 (show 0 < 12 by omega) (m_0 Z _) rfl (As := [.int ((-1000003))]) ⟨Nat.le_of_ble_eq_true rfl, Nat.le_of_ble_eq_true rfl⟩ rfl rfl (Nat.le_of_ble_eq_true rfl) d_Mo_copy_65 ?_
            exact x_iretK C (by simp only [hcs, hct]; rw [if_neg (fun h => h ⟨by with_reducible assumption, by with_reducible assumption⟩), if_neg (by rintro (h | h) <;> contradiction), if_pos (by with_reducible assumption)]) ⟨g 11, (by simp only [hcs, hct]; rw [if_neg (fun h => h ⟨by with_reducible assumption, by with_reducible assumption⟩), if_neg (by rintro (h | h) <;> contradiction), if_pos (by with_reducible assumption)]; exact (va_idn (by decide)).symm)⟩ d_Mo_copy_68
        · refine x_aload_n C d_Mo_copy_39 0 rfl rfl ?_
          refine x_ldc C d_Mo_copy_40 k_1106 ?_
          refine x_callVi C (c_Mo_finding_5 Z (g) _ rfl) mi_Mo_finding k_867 (show 0 < 12 by omega) (m_0 Z _) rfl (As := [.int ((-1000006))]) ⟨Nat.le_of_ble_eq_true rfl, Nat.le_of_ble_eq_true rfl⟩ rfl rfl (Nat.le_of_ble_eq_true rfl) d_Mo_copy_42 ?_
          exact x_iretK C (by simp only [hcs, hct]; rw [if_neg (fun h => h ⟨by with_reducible assumption, by with_reducible assumption⟩), if_pos (by first | exact Or.inl (by with_reducible assumption) | exact Or.inr (by with_reducible assumption))]) ⟨g 11, (by simp only [hcs, hct]; rw [if_neg (fun h => h ⟨by with_reducible assumption, by with_reducible assumption⟩), if_pos (by first | exact Or.inl (by with_reducible assumption) | exact Or.inr (by with_reducible assumption))]; exact (va_idn (by decide)).symm)⟩ d_Mo_copy_45
    · refine x_aload_n C d_Mo_copy_14 0 rfl rfl ?_
      refine x_ldc C d_Mo_copy_15 k_866 ?_
      refine x_callVi C (c_Mo_finding_0 Z (g) _ rfl) mi_Mo_finding k_867 (show 0 < 12 by omega) (m_0 Z _) rfl (As := [.int ((-1000001))]) ⟨Nat.le_of_ble_eq_true rfl, Nat.le_of_ble_eq_true rfl⟩ rfl rfl (Nat.le_of_ble_eq_true rfl) d_Mo_copy_17 ?_
      exact x_iretK C (by rw [if_pos (by first | exact fun h => absurd h.1 (by with_reducible assumption) | exact fun h => absurd h.2 (by with_reducible assumption))]) ⟨g 11, (by rw [if_pos (by first | exact fun h => absurd h.1 (by with_reducible assumption) | exact fun h => absurd h.2 (by with_reducible assumption))]; exact (va_idn (by decide)).symm)⟩ d_Mo_copy_20
