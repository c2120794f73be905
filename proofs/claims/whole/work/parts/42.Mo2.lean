theorem in_1le {x M : Int32} {n : Nat} (h : 1 ≤ x ∧ x ≤ M) (hM : M.toInt = n) : ∃ j, (1 ≤ j ∧ j ≤ n) ∧ x = nI j := by
  have h0 : 0 ≤ x := Int32.le_trans (by decide) h.1
  obtain ⟨j, hj, rfl⟩ := nI_of2 hM (Int32.not_lt.mpr h0) h.2
  refine ⟨j, ⟨?_, hj⟩, rfl⟩
  have h1 := h.1
  rw [fa_leI] at h1
  rcases Nat.eq_zero_or_pos j with e | e
  · subst e
    exact absurd h1 (by decide)
  · exact e
theorem kfinM {G G' u : St} {ρ : Nat → Int32} (hG : G = G') (h : u = va_up G' 2 ρ) : ∃ ρ : Nat → Int32, u = va_up G 2 ρ := ⟨ρ, by rw [hG]; exact h⟩
def strN (r : Nat → Int32) : Nat → Int32
  | 0 => 0
  | i + 1 => if (if r (pI i 2) ≤ 7 then (0 : Int32) else 1) = r (pI i 1) then strN r i else strN r i ||| bit i
def nowM (r : Nat → Int32) (w : Int32) : Int32 := if w = 0 then r 0 else if w = 1 then r 3 else if w = 2 then sumN r (sz r) else if w = 3 then strN r (sz r) else if w = 4 then seaN r (sz r) else if w = 5 then celN r (sz r) else if w = 6 then prO (sz r) r (sz r) else oI (mosN r (sz r))
def cvl (r : Nat → Int32) (a v : Nat) : Int32 := if v = 0 then r a else nI (v - 1)
theorem cvl_s {r : Nat → Int32} {a v : Nat} : cvl r a (v + 1) = nI v := by
  unfold cvl
  rw [if_neg (by omega)]
  rfl

set_option maxRecDepth 100000 in
set_option maxHeartbeats 600000 in
theorem c_Mo_guns (Z : ZT) (v : Int32) (g : St)  (hk : okR (g 0)) : CT yM Z y_Mo_guns b_Mo_guns 2 (some (.int)) 2 42 [.ref (Z.2.1 (0)), .int (v)] (g) (QkI yM Z (if (0 ≤ v ∧ v ≤ 99) then g 0 3 else (-1000001)) (fun u => ∃ ρ : Nat → Int32, u = va_up (if (0 ≤ v ∧ v ≤ 99) then va_up g 0 (upd (g 0) 3 v) else va_up g 4 (mfnR (g 4) 0)) 2 ρ)) := by
  refine CT.mk "TunnelPeaceModel" (by decide) rfl (Nat.le_of_ble_eq_true rfl) (fun X C => ?_)
  refine x_lv [0, 1] (lv' := [(0, .ref (Z.2.1 (0))), (1, .int (v))]) rfl ?_
  have hk0 := hk
  obtain ⟨⟨n, hn8, hn⟩, dd, hdd, hd⟩ := hk
  refine x_iload_n C d_Mo_guns_0 1 rfl rfl ?_
  refine x_callSi C (c_Mo_isMany Z v (g)) mi_Mo_isMany k_856 (As := [.int (v)]) ⟨Nat.le_of_ble_eq_true rfl, Nat.le_of_ble_eq_true rfl⟩ rfl rfl (Nat.le_of_ble_eq_true rfl) d_Mo_guns_1 ?_
  refine x_ifeqB C d_Mo_guns_4 16 (by decide) (fun c_1 => ?_) (fun c_1 => ?_)
  · refine x_aload_n C d_Mo_guns_16 0 rfl rfl ?_
    refine x_ldc C d_Mo_guns_17 k_866 ?_
    refine x_callVi C (c_Mo_finding_0 Z (g) _ rfl) mi_Mo_finding k_867 (show 0 < 12 by omega) (m_0 Z _) rfl (As := [.int ((-1000001))]) ⟨Nat.le_of_ble_eq_true rfl, Nat.le_of_ble_eq_true rfl⟩ rfl rfl (Nat.le_of_ble_eq_true rfl) d_Mo_guns_19 ?_
    exact x_iretK C (by first | with_reducible rfl | (simp [*, -hd]; done) | (simp [*]; done) | (simp_all; done)) (kfinM (G' := va_up g 4 (mfnR (g 4) 0)) (by first | with_reducible rfl | (simp [*, -hd]; done) | (simp [*]; done) | (simp_all; done)) (va_idn (by omega)).symm) d_Mo_guns_22
  · refine x_aload_n C d_Mo_guns_7 0 rfl rfl ?_
    refine x_iconst C d_Mo_guns_8 (v := 3) (by decide) ?_
    refine x_iload_n C d_Mo_guns_9 1 rfl rfl ?_
    refine x_callVi C (c_Mo_become Z 3 (by first | omega | (simp only [pI]; omega)) v (g) _ rfl) mi_Mo_become k_862 (show 0 < 12 by omega) (m_0 Z _) rfl (As := [.int (3), .int (v)]) ⟨Nat.le_of_ble_eq_true rfl, Nat.le_of_ble_eq_true rfl⟩ rfl rfl (Nat.le_of_ble_eq_true rfl) d_Mo_guns_10 ?_
    refine x_goto C d_Mo_guns_13 22 (by decide) ?_
    exact x_iretK C (by first | with_reducible rfl | (simp [*, -hd]; done) | (simp [*]; done) | (simp_all; done)) (kfinM (G' := va_up g 0 (upd (g 0) 3 v)) (by first | with_reducible rfl | (simp [*, -hd]; done) | (simp [*]; done) | (simp_all; done)) (va_idn (by omega)).symm) d_Mo_guns_22

set_option maxRecDepth 100000 in
set_option maxHeartbeats 600000 in
theorem c_Mo_place (Z : ZT) (i c : Int32) (g : St)  (hk : okR (g 0)) : CT yM Z y_Mo_place b_Mo_place 3 (some (.int)) 2 42 [.ref (Z.2.1 (0)), .int (i), .int (c)] (g) (QkI yM Z (if (0 ≤ i ∧ i ≤ 5) ∧ (0 ≤ c ∧ c ≤ 15) then g 0 (4 + i.toNatClampNeg) else (-1000001)) (fun u => ∃ ρ : Nat → Int32, u = va_up (if (0 ≤ i ∧ i ≤ 5) ∧ (0 ≤ c ∧ c ≤ 15) then va_up g 0 (upd (g 0) (4 + i.toNatClampNeg) c) else va_up g 4 (mfnR (g 4) 0)) 2 ρ)) := by
  refine CT.mk "TunnelPeaceModel" (by decide) rfl (Nat.le_of_ble_eq_true rfl) (fun X C => ?_)
  refine x_lv [0, 1, 2] (lv' := [(0, .ref (Z.2.1 (0))), (1, .int (i)), (2, .int (c))]) rfl ?_
  have hk0 := hk
  obtain ⟨⟨n, hn8, hn⟩, dd, hdd, hd⟩ := hk
  refine x_iload_n C d_Mo_place_0 1 rfl rfl ?_
  refine x_callSi C (c_Mo_isPlace Z i (g)) mi_Mo_isPlace k_875 (As := [.int (i)]) ⟨Nat.le_of_ble_eq_true rfl, Nat.le_of_ble_eq_true rfl⟩ rfl rfl (Nat.le_of_ble_eq_true rfl) d_Mo_place_1 ?_
  refine x_ifeqB C d_Mo_place_4 25 (by decide) (fun c_1 => ?_) (fun c_1 => ?_)
  · refine x_aload_n C d_Mo_place_25 0 rfl rfl ?_
    refine x_ldc C d_Mo_place_26 k_866 ?_
    refine x_callVi C (c_Mo_finding_0 Z (g) _ rfl) mi_Mo_finding k_867 (show 0 < 12 by omega) (m_0 Z _) rfl (As := [.int ((-1000001))]) ⟨Nat.le_of_ble_eq_true rfl, Nat.le_of_ble_eq_true rfl⟩ rfl rfl (Nat.le_of_ble_eq_true rfl) d_Mo_place_28 ?_
    exact x_iretK C (by first | with_reducible rfl | (simp [*, -hd]; done) | (simp [*]; done) | (simp_all; done)) (kfinM (G' := va_up g 4 (mfnR (g 4) 0)) (by first | with_reducible rfl | (simp [*, -hd]; done) | (simp [*]; done) | (simp_all; done)) (va_idn (by omega)).symm) d_Mo_place_31
  · obtain ⟨iq, hiq, rfl⟩ := in_le (n := 5) c_1 (by decide)
    have hci : (nI iq).toNatClampNeg = iq := nI_clamp (by omega)
    refine x_iload_n C d_Mo_place_7 2 rfl rfl ?_
    refine x_callSi C (c_Mo_isCell Z c (g)) mi_Mo_isCell k_878 (As := [.int (c)]) ⟨Nat.le_of_ble_eq_true rfl, Nat.le_of_ble_eq_true rfl⟩ rfl rfl (Nat.le_of_ble_eq_true rfl) d_Mo_place_8 ?_
    refine x_ifeqB C d_Mo_place_11 25 (by decide) (fun c_2 => ?_) (fun c_2 => ?_)
    · refine x_aload_n C d_Mo_place_25 0 rfl rfl ?_
      refine x_ldc C d_Mo_place_26 k_866 ?_
      refine x_callVi C (c_Mo_finding_0 Z (g) _ rfl) mi_Mo_finding k_867 (show 0 < 12 by omega) (m_0 Z _) rfl (As := [.int ((-1000001))]) ⟨Nat.le_of_ble_eq_true rfl, Nat.le_of_ble_eq_true rfl⟩ rfl rfl (Nat.le_of_ble_eq_true rfl) d_Mo_place_28 ?_
      exact x_iretK C (by first | with_reducible rfl | (simp [*, -hd]; done) | (simp [*]; done) | (simp_all; done)) (kfinM (G' := va_up g 4 (mfnR (g 4) 0)) (by first | with_reducible rfl | (simp [*, -hd]; done) | (simp [*]; done) | (simp_all; done)) (va_idn (by omega)).symm) d_Mo_place_31
    · refine x_aload_n C d_Mo_place_14 0 rfl rfl ?_
      refine x_iconst C d_Mo_place_15 (v := 4) (by decide) ?_
      refine x_iload_n C d_Mo_place_16 1 rfl rfl ?_
      refine x_iadd C d_Mo_place_17 ?_
      refine x_topi (x' := nI (4 + iq)) (nI_add 4 _) ?_
      refine x_iload_n C d_Mo_place_18 2 rfl rfl ?_
      refine x_callVi C (c_Mo_become Z (4 + iq) (by first | omega | (simp only [pI]; omega)) c (g) _ rfl) mi_Mo_become k_862 (show 0 < 12 by omega) (m_0 Z _) rfl (As := [.int (nI (4 + iq)), .int (c)]) ⟨Nat.le_of_ble_eq_true rfl, Nat.le_of_ble_eq_true rfl⟩ rfl rfl (Nat.le_of_ble_eq_true rfl) d_Mo_place_19 ?_
      refine x_goto C d_Mo_place_22 31 (by decide) ?_
      exact x_iretK C (by first | with_reducible rfl | (simp [*, -hd]; done) | (simp [*]; done) | (simp_all; done)) (kfinM (G' := va_up g 0 (upd (g 0) (4 + iq) c)) (by first | with_reducible rfl | (simp [*, -hd]; done) | (simp [*]; done) | (simp_all; done)) (va_idn (by omega)).symm) d_Mo_place_31

set_option maxRecDepth 100000 in
set_option maxHeartbeats 600000 in
theorem c_Mo_listed (Z : ZT) (i : Int32) (g : St)  (hk : okR (g 0)) : CT yM Z y_Mo_listed b_Mo_listed 2 (some (.int)) 2 42 [.ref (Z.2.1 (0)), .int (i)] (g) (QkI yM Z (if (0 ≤ i ∧ i ≤ 5) then g 0 (4 + i.toNatClampNeg) else (-1000001)) (fun u => ∃ ρ : Nat → Int32, u = va_up (if (0 ≤ i ∧ i ≤ 5) then g else va_up g 4 (mfnR (g 4) 0)) 2 ρ)) := by
  refine CT.mk "TunnelPeaceModel" (by decide) rfl (Nat.le_of_ble_eq_true rfl) (fun X C => ?_)
  refine x_lv [0, 1] (lv' := [(0, .ref (Z.2.1 (0))), (1, .int (i))]) rfl ?_
  have hk0 := hk
  obtain ⟨⟨n, hn8, hn⟩, dd, hdd, hd⟩ := hk
  refine x_iload_n C d_Mo_listed_0 1 rfl rfl ?_
  refine x_callSi C (c_Mo_isPlace Z i (g)) mi_Mo_isPlace k_875 (As := [.int (i)]) ⟨Nat.le_of_ble_eq_true rfl, Nat.le_of_ble_eq_true rfl⟩ rfl rfl (Nat.le_of_ble_eq_true rfl) d_Mo_listed_1 ?_
  refine x_ifeqB C d_Mo_listed_4 18 (by decide) (fun c_1 => ?_) (fun c_1 => ?_)
  · refine x_aload_n C d_Mo_listed_18 0 rfl rfl ?_
    refine x_ldc C d_Mo_listed_19 k_866 ?_
    refine x_callVi C (c_Mo_finding_0 Z (g) _ rfl) mi_Mo_finding k_867 (show 0 < 12 by omega) (m_0 Z _) rfl (As := [.int ((-1000001))]) ⟨Nat.le_of_ble_eq_true rfl, Nat.le_of_ble_eq_true rfl⟩ rfl rfl (Nat.le_of_ble_eq_true rfl) d_Mo_listed_21 ?_
    exact x_iretK C (by first | with_reducible rfl | (simp [*, -hd]; done) | (simp [*]; done) | (simp_all; done)) (kfinM (G' := va_up g 4 (mfnR (g 4) 0)) (by first | with_reducible rfl | (simp [*, -hd]; done) | (simp [*]; done) | (simp_all; done)) (va_idn (by omega)).symm) d_Mo_listed_24
  · obtain ⟨iq, hiq, rfl⟩ := in_le (n := 5) c_1 (by decide)
    have hci : (nI iq).toNatClampNeg = iq := nI_clamp (by omega)
    refine x_aload_n C d_Mo_listed_7 0 rfl rfl ?_
    refine gf_Mo_now C k_791 d_Mo_listed_8 ?_
    refine x_iconst C d_Mo_listed_11 (v := 4) (by decide) ?_
    refine x_iload_n C d_Mo_listed_12 1 rfl rfl ?_
    refine x_iadd C d_Mo_listed_13 ?_
    refine x_topi (x' := nI (4 + iq)) (nI_add 4 _) ?_
    refine al_m_now C (4 + iq) (v := g 0 (4 + iq)) rfl (by first | omega | (simp only [pI]; omega)) rfl d_Mo_listed_14 ?_
    refine x_goto C d_Mo_listed_15 24 (by decide) ?_
    exact x_iretK C (by first | with_reducible rfl | (simp [*, -hd]; done) | (simp [*]; done) | (simp_all; done)) (kfinM (G' := g) (by first | with_reducible rfl | (simp [*, -hd]; done) | (simp [*]; done) | (simp_all; done)) (va_id g 2).symm) d_Mo_listed_24

set_option maxRecDepth 100000 in
set_option maxHeartbeats 600000 in
theorem c_Mo_person (Z : ZT) (k s : Int32) (g : St)  (hk : okR (g 0)) : CT yM Z y_Mo_person b_Mo_person 3 (some (.int)) 2 44 [.ref (Z.2.1 (0)), .int (k), .int (s)] (g) (QkI yM Z (if ¬ ((0 ≤ k ∧ k ≤ 6) ∧ (0 ≤ s ∧ s ≤ 1)) then (-1000001) else if g 0 1 = 8 then (-1000002) else nI (sz (g 0))) (fun u => ∃ ρ : Nat → Int32, u = va_up (if ¬ ((0 ≤ k ∧ k ≤ 6) ∧ (0 ≤ s ∧ s ≤ 1)) then va_up g 4 (mfnR (g 4) 0) else if g 0 1 = 8 then va_up g 4 (mfnR (g 4) 1) else va_up g 0 (addR (g 0) k s)) 2 ρ)) := by
  refine CT.mk "TunnelPeaceModel" (by decide) rfl (Nat.le_of_ble_eq_true rfl) (fun X C => ?_)
  refine x_lv [0, 1, 2] (lv' := [(0, .ref (Z.2.1 (0))), (1, .int (k)), (2, .int (s))]) rfl ?_
  have hk0 := hk
  obtain ⟨⟨n, hn8, hn⟩, dd, hdd, hd⟩ := hk
  refine x_iload_n C d_Mo_person_0 1 rfl rfl ?_
  refine x_callSi C (c_Mo_isKind Z k (g)) mi_Mo_isKind k_889 (As := [.int (k)]) ⟨Nat.le_of_ble_eq_true rfl, Nat.le_of_ble_eq_true rfl⟩ rfl rfl (Nat.le_of_ble_eq_true rfl) d_Mo_person_1 ?_
  refine x_ifeqB C d_Mo_person_4 16 (by decide) (fun c_1 => ?_) (fun c_1 => ?_)
  · refine x_aload_n C d_Mo_person_16 0 rfl rfl ?_
    refine x_ldc C d_Mo_person_17 k_866 ?_
    refine x_callVi C (c_Mo_finding_0 Z (g) _ rfl) mi_Mo_finding k_867 (show 0 < 12 by omega) (m_0 Z _) rfl (As := [.int ((-1000001))]) ⟨Nat.le_of_ble_eq_true rfl, Nat.le_of_ble_eq_true rfl⟩ rfl rfl (Nat.le_of_ble_eq_true rfl) d_Mo_person_19 ?_
    exact x_iretK C (by first | with_reducible rfl | (simp [*, -hd]; done) | (simp [*]; done) | (simp_all; done)) (kfinM (G' := va_up g 4 (mfnR (g 4) 0)) (by first | with_reducible rfl | (simp [*, -hd]; done) | (simp [*]; done) | (simp_all; done)) (va_idn (by omega)).symm) d_Mo_person_22
  · refine x_iload_n C d_Mo_person_7 2 rfl rfl ?_
    refine x_iconst C d_Mo_person_8 (v := 0) (by decide) ?_
    refine x_iconst C d_Mo_person_9 (v := 1) (by decide) ?_
    refine x_callSi C (c_Mo_within Z s 0 1 (g)) mi_Mo_within k_859 (As := [.int (s), .int (0), .int (1)]) ⟨Nat.le_of_ble_eq_true rfl, Nat.le_of_ble_eq_true rfl⟩ rfl rfl (Nat.le_of_ble_eq_true rfl) d_Mo_person_10 ?_
    refine x_ifneB C d_Mo_person_13 23 (by decide) (fun c_2 => ?_) (fun c_2 => ?_)
    · refine x_aload_n C d_Mo_person_23 0 rfl rfl ?_
      refine gf_Mo_now C k_791 d_Mo_person_24 ?_
      refine x_iconst C d_Mo_person_27 (v := 1) (by decide) ?_
      refine al_m_now C 1 (v := nI n) (by decide) (by first | omega | (simp only [pI]; omega)) hn d_Mo_person_28 ?_
      refine x_bipush C d_Mo_person_29 (v := 8) (by decide) ?_
      refine x_icmp_ne C d_Mo_person_31 43 (by decide) (fun c_3 => ?_) (fun c_3 => ?_)
      · have nc_3 := Ne.symm c_3
        have mc_3 : ¬ n = 8 := fun z_ => (show ¬ nI n = nI 8 from c_3) ((nI_eq (by omega) (by omega)).mpr z_)
        refine x_aload_n C d_Mo_person_43 0 rfl rfl ?_
        refine x_iload_n C d_Mo_person_44 1 rfl rfl ?_
        refine x_iload_n C d_Mo_person_45 2 rfl rfl ?_
        refine x_callVi C (c_Mo_comes Z k s (g) _ rfl hk0 (by rw [sz_of hn hn8]; omega)) mi_Mo_comes k_893 (show 0 < 12 by omega) (m_0 Z _) rfl (As := [.int (k), .int (s)]) ⟨Nat.le_of_ble_eq_true rfl, Nat.le_of_ble_eq_true rfl⟩ rfl rfl (Nat.le_of_ble_eq_true rfl) d_Mo_person_46 ?_
        exact x_iretK C (by first | with_reducible rfl | (simp [*, -hd]; done) | (simp [*]; done) | (simp_all; done)) (kfinM (G' := va_up g 0 (addR (g 0) k s)) (by first | with_reducible rfl | (simp [*, -hd]; done) | (simp [*]; done) | (simp_all; done)) (va_idn (by omega)).symm) d_Mo_person_49
      · have mc_3 : n = 8 := (nI_eq (by omega) (by omega)).mp (show nI n = nI 8 from c_3)
        refine x_aload_n C d_Mo_person_34 0 rfl rfl ?_
        refine x_ldc C d_Mo_person_35 k_892 ?_
        refine x_callVi C (c_Mo_finding_1 Z (g) _ rfl) mi_Mo_finding k_867 (show 0 < 12 by omega) (m_0 Z _) rfl (As := [.int ((-1000002))]) ⟨Nat.le_of_ble_eq_true rfl, Nat.le_of_ble_eq_true rfl⟩ rfl rfl (Nat.le_of_ble_eq_true rfl) d_Mo_person_37 ?_
        refine x_goto C d_Mo_person_40 49 (by decide) ?_
        exact x_iretK C (by first | with_reducible rfl | (simp [*, -hd]; done) | (simp [*]; done) | (simp_all; done)) (kfinM (G' := va_up g 4 (mfnR (g 4) 1)) (by first | with_reducible rfl | (simp [*, -hd]; done) | (simp [*]; done) | (simp_all; done)) (va_idn (by omega)).symm) d_Mo_person_49
    · refine x_aload_n C d_Mo_person_16 0 rfl rfl ?_
      refine x_ldc C d_Mo_person_17 k_866 ?_
      refine x_callVi C (c_Mo_finding_0 Z (g) _ rfl) mi_Mo_finding k_867 (show 0 < 12 by omega) (m_0 Z _) rfl (As := [.int ((-1000001))]) ⟨Nat.le_of_ble_eq_true rfl, Nat.le_of_ble_eq_true rfl⟩ rfl rfl (Nat.le_of_ble_eq_true rfl) d_Mo_person_19 ?_
      exact x_iretK C (by first | with_reducible rfl | (simp [*, -hd]; done) | (simp [*]; done) | (simp_all; done)) (kfinM (G' := va_up g 4 (mfnR (g 4) 0)) (by first | with_reducible rfl | (simp [*, -hd]; done) | (simp [*]; done) | (simp_all; done)) (va_idn (by omega)).symm) d_Mo_person_22

set_option maxRecDepth 100000 in
set_option maxHeartbeats 600000 in
theorem c_Mo_of (Z : ZT) (p w : Int32) (g : St)  (hk : okR (g 0)) : CT yM Z y_Mo_of b_Mo_of 3 (some (.int)) 4 87 [.ref (Z.2.1 (0)), .int (p), .int (w)] (g) (QkI yM Z (if (0 ≤ p ∧ p < g 0 1) ∧ (0 ≤ w ∧ w ≤ 9) then tld (g 0) p.toNatClampNeg w.toNatClampNeg else (-1000001)) (fun u => ∃ ρ : Nat → Int32, u = va_up (if (0 ≤ p ∧ p < g 0 1) ∧ (0 ≤ w ∧ w ≤ 9) then g else va_up g 4 (mfnR (g 4) 0)) 2 ρ)) := by
  refine CT.mk "TunnelPeaceModel" (by decide) rfl (Nat.le_of_ble_eq_true rfl) (fun X C => ?_)
  refine x_lv [0, 1, 2] (lv' := [(0, .ref (Z.2.1 (0))), (1, .int (p)), (2, .int (w))]) rfl ?_
  have hk0 := hk
  obtain ⟨⟨n, hn8, hn⟩, dd, hdd, hd⟩ := hk
  refine x_aload_n C d_Mo_of_0 0 rfl rfl ?_
  refine x_iload_n C d_Mo_of_1 1 rfl rfl ?_
  refine x_callVi C (c_Mo_isPerson Z p n (by omega) (g) hn) mi_Mo_isPerson k_907 (show 0 < 12 by omega) (m_0 Z _) rfl (As := [.int (p)]) ⟨Nat.le_of_ble_eq_true rfl, Nat.le_of_ble_eq_true rfl⟩ rfl rfl (Nat.le_of_ble_eq_true rfl) d_Mo_of_2 ?_
  refine x_ifeqB C d_Mo_of_5 27 (by decide) (fun c_1 => ?_) (fun c_1 => ?_)
  · refine x_aload_n C d_Mo_of_27 0 rfl rfl ?_
    refine x_ldc C d_Mo_of_28 k_866 ?_
    refine x_callVi C (c_Mo_finding_0 Z (g) _ rfl) mi_Mo_finding k_867 (show 0 < 12 by omega) (m_0 Z _) rfl (As := [.int ((-1000001))]) ⟨Nat.le_of_ble_eq_true rfl, Nat.le_of_ble_eq_true rfl⟩ rfl rfl (Nat.le_of_ble_eq_true rfl) d_Mo_of_30 ?_
    exact x_iretK C (by first | with_reducible rfl | (simp [*, -hd]; done) | (simp [*]; done) | (simp_all; done)) (kfinM (G' := va_up g 4 (mfnR (g 4) 0)) (by first | with_reducible rfl | (simp [*, -hd]; done) | (simp [*]; done) | (simp_all; done)) (va_idn (by omega)).symm) d_Mo_of_33
  · obtain ⟨pq, hpq, rfl⟩ := in_of c_1 (by omega)
    have hcp : (nI pq).toNatClampNeg = pq := nI_clamp (by omega)
    refine x_iload_n C d_Mo_of_8 2 rfl rfl ?_
    refine x_iconst C d_Mo_of_9 (v := 0) (by decide) ?_
    refine x_bipush C d_Mo_of_10 (v := 9) (by decide) ?_
    refine x_callSi C (c_Mo_within Z w 0 9 (g)) mi_Mo_within k_859 (As := [.int (w), .int (0), .int (9)]) ⟨Nat.le_of_ble_eq_true rfl, Nat.le_of_ble_eq_true rfl⟩ rfl rfl (Nat.le_of_ble_eq_true rfl) d_Mo_of_12 ?_
    refine x_ifeqB C d_Mo_of_15 27 (by decide) (fun c_2 => ?_) (fun c_2 => ?_)
    · refine x_aload_n C d_Mo_of_27 0 rfl rfl ?_
      refine x_ldc C d_Mo_of_28 k_866 ?_
      refine x_callVi C (c_Mo_finding_0 Z (g) _ rfl) mi_Mo_finding k_867 (show 0 < 12 by omega) (m_0 Z _) rfl (As := [.int ((-1000001))]) ⟨Nat.le_of_ble_eq_true rfl, Nat.le_of_ble_eq_true rfl⟩ rfl rfl (Nat.le_of_ble_eq_true rfl) d_Mo_of_30 ?_
      exact x_iretK C (by first | with_reducible rfl | (simp [*, -hd]; done) | (simp [*]; done) | (simp_all; done)) (kfinM (G' := va_up g 4 (mfnR (g 4) 0)) (by first | with_reducible rfl | (simp [*, -hd]; done) | (simp [*]; done) | (simp_all; done)) (va_idn (by omega)).symm) d_Mo_of_33
    · obtain ⟨wq, hwq, rfl⟩ := in_le (n := 9) c_2 (by decide)
      have hcw : (nI wq).toNatClampNeg = wq := nI_clamp (by omega)
      refine x_aload_n C d_Mo_of_18 0 rfl rfl ?_
      refine x_iload_n C d_Mo_of_19 1 rfl rfl ?_
      refine x_iload_n C d_Mo_of_20 2 rfl rfl ?_
      refine x_callVi C (c_Mo_told Z pq wq (by omega) (by omega) (g) _ rfl) mi_Mo_told k_911 (show 0 < 12 by omega) (m_0 Z _) rfl (As := [.int (nI pq), .int (nI wq)]) ⟨Nat.le_of_ble_eq_true rfl, Nat.le_of_ble_eq_true rfl⟩ rfl rfl (Nat.le_of_ble_eq_true rfl) d_Mo_of_21 ?_
      refine x_goto C d_Mo_of_24 33 (by decide) ?_
      exact x_iretK C (by first | with_reducible rfl | (simp [*, -hd]; done) | (simp [*]; done) | (simp_all; done)) (kfinM (G' := g) (by first | with_reducible rfl | (simp [*, -hd]; done) | (simp [*]; done) | (simp_all; done)) (va_id g 2).symm) d_Mo_of_33

set_option maxRecDepth 100000 in
set_option maxHeartbeats 600000 in
theorem c_Mo_isField (Z : ZT) (w v : Int32) (g : St)  : CT yM Z y_Mo_isField b_Mo_isField 2 (some (.boolean)) 2 42 [.int (w), .int (v)] (g) (QcI yM Z (bI ((w = 0 ∧ 0 ≤ v ∧ v ≤ 6) ∨ (w = 1 ∧ 0 ≤ v ∧ v ≤ 1) ∨ (w = 2 ∧ 0 ≤ v ∧ v ≤ 15) ∨ (w = 3 ∧ 0 ≤ v ∧ v ≤ 99) ∨ (w = 4 ∧ 0 ≤ v ∧ v ≤ 9) ∨ (w = 5 ∧ 0 ≤ v ∧ v ≤ 9999))) (g)) := by
  refine CT.mk "TunnelPeaceModel" (by decide) rfl (Nat.le_of_ble_eq_true rfl) (fun X C => ?_)
  refine x_lv [0, 1] (lv' := [(0, .int (w)), (1, .int (v))]) rfl ?_
  refine x_iload_n C d_Mo_isField_0 0 rfl rfl ?_
  by_cases c_1 : w = 0
  · refine x_tabAt C d_Mo_isField_1 c_1 (by decide) (by decide) (off := 39) (by decide) 40 (by decide) ?_
    refine x_iload_n C d_Mo_isField_40 1 rfl rfl ?_
    refine x_callSi C (c_Mo_isKind Z v (g)) mi_Mo_isKind k_889 (As := [.int (v)]) ⟨Nat.le_of_ble_eq_true rfl, Nat.le_of_ble_eq_true rfl⟩ rfl rfl (Nat.le_of_ble_eq_true rfl) d_Mo_isField_41 ?_
    exact x_zret C (bI_01 _) (bI_c (by simp [*])) rfl d_Mo_isField_44
  by_cases c_2 : w = 1
  · refine x_tabAt C d_Mo_isField_1 c_2 (by decide) (by decide) (off := 44) (by decide) 45 (by decide) ?_
    refine x_iload_n C d_Mo_isField_45 1 rfl rfl ?_
    refine x_iconst C d_Mo_isField_46 (v := 0) (by decide) ?_
    refine x_iconst C d_Mo_isField_47 (v := 1) (by decide) ?_
    refine x_callSi C (c_Mo_within Z v 0 1 (g)) mi_Mo_within k_859 (As := [.int (v), .int (0), .int (1)]) ⟨Nat.le_of_ble_eq_true rfl, Nat.le_of_ble_eq_true rfl⟩ rfl rfl (Nat.le_of_ble_eq_true rfl) d_Mo_isField_48 ?_
    exact x_zret C (bI_01 _) (bI_c (by simp [*])) rfl d_Mo_isField_51
  by_cases c_3 : w = 2
  · refine x_tabAt C d_Mo_isField_1 c_3 (by decide) (by decide) (off := 51) (by decide) 52 (by decide) ?_
    refine x_iload_n C d_Mo_isField_52 1 rfl rfl ?_
    refine x_callSi C (c_Mo_isCell Z v (g)) mi_Mo_isCell k_878 (As := [.int (v)]) ⟨Nat.le_of_ble_eq_true rfl, Nat.le_of_ble_eq_true rfl⟩ rfl rfl (Nat.le_of_ble_eq_true rfl) d_Mo_isField_53 ?_
    exact x_zret C (bI_01 _) (bI_c (by simp [*])) rfl d_Mo_isField_56
  by_cases c_4 : w = 3
  · refine x_tabAt C d_Mo_isField_1 c_4 (by decide) (by decide) (off := 56) (by decide) 57 (by decide) ?_
    refine x_iload_n C d_Mo_isField_57 1 rfl rfl ?_
    refine x_callSi C (c_Mo_isMany Z v (g)) mi_Mo_isMany k_856 (As := [.int (v)]) ⟨Nat.le_of_ble_eq_true rfl, Nat.le_of_ble_eq_true rfl⟩ rfl rfl (Nat.le_of_ble_eq_true rfl) d_Mo_isField_58 ?_
    exact x_zret C (bI_01 _) (bI_c (by simp [*])) rfl d_Mo_isField_61
  by_cases c_5 : w = 4
  · refine x_tabAt C d_Mo_isField_1 c_5 (by decide) (by decide) (off := 61) (by decide) 62 (by decide) ?_
    refine x_iload_n C d_Mo_isField_62 1 rfl rfl ?_
    refine x_iconst C d_Mo_isField_63 (v := 0) (by decide) ?_
    refine x_bipush C d_Mo_isField_64 (v := 9) (by decide) ?_
    refine x_callSi C (c_Mo_within Z v 0 9 (g)) mi_Mo_within k_859 (As := [.int (v), .int (0), .int (9)]) ⟨Nat.le_of_ble_eq_true rfl, Nat.le_of_ble_eq_true rfl⟩ rfl rfl (Nat.le_of_ble_eq_true rfl) d_Mo_isField_66 ?_
    exact x_zret C (bI_01 _) (bI_c (by simp [*])) rfl d_Mo_isField_69
  by_cases c_6 : w = 5
  · refine x_tabAt C d_Mo_isField_1 c_6 (by decide) (by decide) (off := 69) (by decide) 70 (by decide) ?_
    refine x_iload_n C d_Mo_isField_70 1 rfl rfl ?_
    refine x_iconst C d_Mo_isField_71 (v := 0) (by decide) ?_
    refine x_sipush C d_Mo_isField_72 (v := 9999) (by decide) ?_
    refine x_callSi C (c_Mo_within Z v 0 9999 (g)) mi_Mo_within k_859 (As := [.int (v), .int (0), .int (9999)]) ⟨Nat.le_of_ble_eq_true rfl, Nat.le_of_ble_eq_true rfl⟩ rfl rfl (Nat.le_of_ble_eq_true rfl) d_Mo_isField_75 ?_
    exact x_zret C (bI_01 _) (bI_c (by simp [*])) rfl d_Mo_isField_78
  · have ic_1 := i32_ne c_1 (z := 0) (by decide)
    have ic_2 := i32_ne c_2 (z := 1) (by decide)
    have ic_3 := i32_ne c_3 (z := 2) (by decide)
    have ic_4 := i32_ne c_4 (z := 3) (by decide)
    have ic_5 := i32_ne c_5 (z := 4) (by decide)
    have ic_6 := i32_ne c_6 (z := 5) (by decide)
    refine x_tabOut C d_Mo_isField_1 (by omega) 79 (by decide) ?_
    refine x_iconst C d_Mo_isField_79 (v := 0) (by decide) ?_
    exact x_zret C (by decide) (bI_f (by simp [*])).symm rfl d_Mo_isField_80

set_option maxRecDepth 100000 in
set_option maxHeartbeats 600000 in
theorem c_Mo_change (Z : ZT) (p w v : Int32) (g : St)  (hk : okR (g 0)) : CT yM Z y_Mo_change b_Mo_change 4 (some (.int)) 3 63 [.ref (Z.2.1 (0)), .int (p), .int (w), .int (v)] (g) (QkI yM Z (if (0 ≤ p ∧ p < g 0 1) ∧ ((w = 0 ∧ 0 ≤ v ∧ v ≤ 6) ∨ (w = 1 ∧ 0 ≤ v ∧ v ≤ 1) ∨ (w = 2 ∧ 0 ≤ v ∧ v ≤ 15) ∨ (w = 3 ∧ 0 ≤ v ∧ v ≤ 99) ∨ (w = 4 ∧ 0 ≤ v ∧ v ≤ 9) ∨ (w = 5 ∧ 0 ≤ v ∧ v ≤ 9999)) then g 0 (pI p.toNatClampNeg w.toNatClampNeg) else (-1000001)) (fun u => ∃ ρ : Nat → Int32, u = va_up (if (0 ≤ p ∧ p < g 0 1) ∧ ((w = 0 ∧ 0 ≤ v ∧ v ≤ 6) ∨ (w = 1 ∧ 0 ≤ v ∧ v ≤ 1) ∨ (w = 2 ∧ 0 ≤ v ∧ v ≤ 15) ∨ (w = 3 ∧ 0 ≤ v ∧ v ≤ 99) ∨ (w = 4 ∧ 0 ≤ v ∧ v ≤ 9) ∨ (w = 5 ∧ 0 ≤ v ∧ v ≤ 9999)) then va_up g 0 (upd (g 0) (pI p.toNatClampNeg w.toNatClampNeg) v) else va_up g 4 (mfnR (g 4) 0)) 2 ρ)) := by
  refine CT.mk "TunnelPeaceModel" (by decide) rfl (Nat.le_of_ble_eq_true rfl) (fun X C => ?_)
  refine x_lv [0, 1, 2, 3] (lv' := [(0, .ref (Z.2.1 (0))), (1, .int (p)), (2, .int (w)), (3, .int (v))]) rfl ?_
  have hk0 := hk
  obtain ⟨⟨n, hn8, hn⟩, dd, hdd, hd⟩ := hk
  refine x_aload_n C d_Mo_change_0 0 rfl rfl ?_
  refine x_iload_n C d_Mo_change_1 1 rfl rfl ?_
  refine x_callVi C (c_Mo_isPerson Z p n (by omega) (g) hn) mi_Mo_isPerson k_907 (show 0 < 12 by omega) (m_0 Z _) rfl (As := [.int (p)]) ⟨Nat.le_of_ble_eq_true rfl, Nat.le_of_ble_eq_true rfl⟩ rfl rfl (Nat.le_of_ble_eq_true rfl) d_Mo_change_2 ?_
  refine x_ifeqB C d_Mo_change_5 29 (by decide) (fun c_1 => ?_) (fun c_1 => ?_)
  · refine x_aload_n C d_Mo_change_29 0 rfl rfl ?_
    refine x_ldc C d_Mo_change_30 k_866 ?_
    refine x_callVi C (c_Mo_finding_0 Z (g) _ rfl) mi_Mo_finding k_867 (show 0 < 12 by omega) (m_0 Z _) rfl (As := [.int ((-1000001))]) ⟨Nat.le_of_ble_eq_true rfl, Nat.le_of_ble_eq_true rfl⟩ rfl rfl (Nat.le_of_ble_eq_true rfl) d_Mo_change_32 ?_
    exact x_iretK C (by first | with_reducible rfl | (simp [*, -hd]; done) | (simp [*]; done) | (simp_all; done)) (kfinM (G' := va_up g 4 (mfnR (g 4) 0)) (by first | with_reducible rfl | (simp [*, -hd]; done) | (simp [*]; done) | (simp_all; done)) (va_idn (by omega)).symm) d_Mo_change_35
  · obtain ⟨pq, hpq, rfl⟩ := in_of c_1 (by omega)
    have hcp : (nI pq).toNatClampNeg = pq := nI_clamp (by omega)
    refine x_iload_n C d_Mo_change_8 2 rfl rfl ?_
    refine x_iload_n C d_Mo_change_9 3 rfl rfl ?_
    refine x_callSi C (c_Mo_isField Z w v (g)) mi_Mo_isField k_940 (As := [.int (w), .int (v)]) ⟨Nat.le_of_ble_eq_true rfl, Nat.le_of_ble_eq_true rfl⟩ rfl rfl (Nat.le_of_ble_eq_true rfl) d_Mo_change_10 ?_
    refine x_ifeqB C d_Mo_change_13 29 (by decide) (fun c_2 => ?_) (fun c_2 => ?_)
    · refine x_aload_n C d_Mo_change_29 0 rfl rfl ?_
      refine x_ldc C d_Mo_change_30 k_866 ?_
      refine x_callVi C (c_Mo_finding_0 Z (g) _ rfl) mi_Mo_finding k_867 (show 0 < 12 by omega) (m_0 Z _) rfl (As := [.int ((-1000001))]) ⟨Nat.le_of_ble_eq_true rfl, Nat.le_of_ble_eq_true rfl⟩ rfl rfl (Nat.le_of_ble_eq_true rfl) d_Mo_change_32 ?_
      exact x_iretK C (by first | with_reducible rfl | (simp [*, -hd]; done) | (simp [*]; done) | (simp_all; done)) (kfinM (G' := va_up g 4 (mfnR (g 4) 0)) (by first | with_reducible rfl | (simp [*, -hd]; done) | (simp [*]; done) | (simp_all; done)) (va_idn (by omega)).symm) d_Mo_change_35
    · obtain ⟨wq, hwq, rfl⟩ : ∃ j, j < 6 ∧ w = nI j := by rcases (by assumption : (w = 0 ∧ 0 ≤ v ∧ v ≤ 6) ∨ (w = 1 ∧ 0 ≤ v ∧ v ≤ 1) ∨ (w = 2 ∧ 0 ≤ v ∧ v ≤ 15) ∨ (w = 3 ∧ 0 ≤ v ∧ v ≤ 99) ∨ (w = 4 ∧ 0 ≤ v ∧ v ≤ 9) ∨ (w = 5 ∧ 0 ≤ v ∧ v ≤ 9999)) with h | h | h | h | h | h <;> first | exact ⟨0, by decide, h.1⟩ | exact ⟨1, by decide, h.1⟩ | exact ⟨2, by decide, h.1⟩ | exact ⟨3, by decide, h.1⟩ | exact ⟨4, by decide, h.1⟩ | exact ⟨5, by decide, h.1⟩
      have hcw : (nI wq).toNatClampNeg = wq := nI_clamp (by omega)
      refine x_aload_n C d_Mo_change_16 0 rfl rfl ?_
      refine x_iload_n C d_Mo_change_17 1 rfl rfl ?_
      refine x_iload_n C d_Mo_change_18 2 rfl rfl ?_
      refine x_callSi C (c_Mo_personAt Z pq wq (g)) mi_Mo_personAt k_897 (As := [.int (nI pq), .int (nI wq)]) ⟨Nat.le_of_ble_eq_true rfl, Nat.le_of_ble_eq_true rfl⟩ rfl rfl (Nat.le_of_ble_eq_true rfl) d_Mo_change_19 ?_
      refine x_iload_n C d_Mo_change_22 3 rfl rfl ?_
      refine x_callVi C (c_Mo_become Z (pI pq wq) (by first | omega | (simp only [pI]; omega)) v (g) _ rfl) mi_Mo_become k_862 (show 0 < 12 by omega) (m_0 Z _) rfl (As := [.int (nI (pI pq wq)), .int (v)]) ⟨Nat.le_of_ble_eq_true rfl, Nat.le_of_ble_eq_true rfl⟩ rfl rfl (Nat.le_of_ble_eq_true rfl) d_Mo_change_23 ?_
      refine x_goto C d_Mo_change_26 35 (by decide) ?_
      exact x_iretK C (by first | with_reducible rfl | (simp [*, -hd]; done) | (simp [*]; done) | (simp_all; done)) (kfinM (G' := va_up g 0 (upd (g 0) (pI pq wq) v)) (by first | with_reducible rfl | (simp [*, -hd]; done) | (simp [*]; done) | (simp_all; done)) (va_idn (by omega)).symm) d_Mo_change_35

set_option maxRecDepth 100000 in
set_option maxHeartbeats 600000 in
theorem c_Mo_two (Z : ZT) (a b : Int32) (g : St)  (hk : okR (g 0)) : CT yM Z y_Mo_two b_Mo_two 3 (some (.int)) 3 68 [.ref (Z.2.1 (0)), .int (a), .int (b)] (g) (QkI yM Z (if (0 ≤ a ∧ a < g 0 1) ∧ (0 ≤ b ∧ b < g 0 1) ∧ ¬ a = b then bI (mtA (g 0 (pI a.toNatClampNeg 1)) (g 0 (pI a.toNatClampNeg 2)) (g 0 (pI b.toNatClampNeg 1)) (g 0 (pI b.toNatClampNeg 2)) = true) else (-1000001)) (fun u => ∃ ρ : Nat → Int32, u = va_up (if (0 ≤ a ∧ a < g 0 1) ∧ (0 ≤ b ∧ b < g 0 1) ∧ ¬ a = b then g else va_up g 4 (mfnR (g 4) 0)) 2 ρ)) := by
  refine CT.mk "TunnelPeaceModel" (by decide) rfl (Nat.le_of_ble_eq_true rfl) (fun X C => ?_)
  refine x_lv [0, 1, 2] (lv' := [(0, .ref (Z.2.1 (0))), (1, .int (a)), (2, .int (b))]) rfl ?_
  have hk0 := hk
  obtain ⟨⟨n, hn8, hn⟩, dd, hdd, hd⟩ := hk
  refine x_aload_n C d_Mo_two_0 0 rfl rfl ?_
  refine x_iload_n C d_Mo_two_1 1 rfl rfl ?_
  refine x_callVi C (c_Mo_isPerson Z a n (by omega) (g) hn) mi_Mo_isPerson k_907 (show 0 < 12 by omega) (m_0 Z _) rfl (As := [.int (a)]) ⟨Nat.le_of_ble_eq_true rfl, Nat.le_of_ble_eq_true rfl⟩ rfl rfl (Nat.le_of_ble_eq_true rfl) d_Mo_two_2 ?_
  refine x_ifeqB C d_Mo_two_5 38 (by decide) (fun c_1 => ?_) (fun c_1 => ?_)
  · refine x_aload_n C d_Mo_two_38 0 rfl rfl ?_
    refine x_ldc C d_Mo_two_39 k_866 ?_
    refine x_callVi C (c_Mo_finding_0 Z (g) _ rfl) mi_Mo_finding k_867 (show 0 < 12 by omega) (m_0 Z _) rfl (As := [.int ((-1000001))]) ⟨Nat.le_of_ble_eq_true rfl, Nat.le_of_ble_eq_true rfl⟩ rfl rfl (Nat.le_of_ble_eq_true rfl) d_Mo_two_41 ?_
    exact x_iretK C (by first | with_reducible rfl | (simp [bI, *]; done) | (simp_all [bI]; done)) (kfinM (G' := va_up g 4 (mfnR (g 4) 0)) (by first | with_reducible rfl | (simp [*, -hd]; done) | (simp [*]; done) | (simp_all; done)) (va_idn (by omega)).symm) d_Mo_two_44
  · obtain ⟨aq, haq, rfl⟩ := in_of c_1 (by omega)
    have hca : (nI aq).toNatClampNeg = aq := nI_clamp (by omega)
    refine x_aload_n C d_Mo_two_8 0 rfl rfl ?_
    refine x_iload_n C d_Mo_two_9 2 rfl rfl ?_
    refine x_callVi C (c_Mo_isPerson Z b n (by omega) (g) hn) mi_Mo_isPerson k_907 (show 0 < 12 by omega) (m_0 Z _) rfl (As := [.int (b)]) ⟨Nat.le_of_ble_eq_true rfl, Nat.le_of_ble_eq_true rfl⟩ rfl rfl (Nat.le_of_ble_eq_true rfl) d_Mo_two_10 ?_
    refine x_ifeqB C d_Mo_two_13 38 (by decide) (fun c_2 => ?_) (fun c_2 => ?_)
    · refine x_aload_n C d_Mo_two_38 0 rfl rfl ?_
      refine x_ldc C d_Mo_two_39 k_866 ?_
      refine x_callVi C (c_Mo_finding_0 Z (g) _ rfl) mi_Mo_finding k_867 (show 0 < 12 by omega) (m_0 Z _) rfl (As := [.int ((-1000001))]) ⟨Nat.le_of_ble_eq_true rfl, Nat.le_of_ble_eq_true rfl⟩ rfl rfl (Nat.le_of_ble_eq_true rfl) d_Mo_two_41 ?_
      exact x_iretK C (by first | with_reducible rfl | (simp [bI, *]; done) | (simp_all [bI]; done)) (kfinM (G' := va_up g 4 (mfnR (g 4) 0)) (by first | with_reducible rfl | (simp [*, -hd]; done) | (simp [*]; done) | (simp_all; done)) (va_idn (by omega)).symm) d_Mo_two_44
    · obtain ⟨bq, hbq, rfl⟩ := in_of c_2 (by omega)
      have hcb : (nI bq).toNatClampNeg = bq := nI_clamp (by omega)
      refine x_iload_n C d_Mo_two_16 1 rfl rfl ?_
      refine x_iload_n C d_Mo_two_17 2 rfl rfl ?_
      refine x_icmp_eq C d_Mo_two_18 38 (by decide) (fun c_3 => ?_) (fun c_3 => ?_)
      · have mc_3 : aq = bq := (nI_eq (by omega) (by omega)).mp (show nI aq = nI bq from c_3)
        refine x_aload_n C d_Mo_two_38 0 rfl rfl ?_
        refine x_ldc C d_Mo_two_39 k_866 ?_
        refine x_callVi C (c_Mo_finding_0 Z (g) _ rfl) mi_Mo_finding k_867 (show 0 < 12 by omega) (m_0 Z _) rfl (As := [.int ((-1000001))]) ⟨Nat.le_of_ble_eq_true rfl, Nat.le_of_ble_eq_true rfl⟩ rfl rfl (Nat.le_of_ble_eq_true rfl) d_Mo_two_41 ?_
        exact x_iretK C (by first | with_reducible rfl | (simp [bI, *]; done) | (simp_all [bI]; done)) (kfinM (G' := va_up g 4 (mfnR (g 4) 0)) (by first | with_reducible rfl | (simp [*, -hd]; done) | (simp [*]; done) | (simp_all; done)) (va_idn (by omega)).symm) d_Mo_two_44
      · have nc_3 := Ne.symm c_3
        have mc_3 : ¬ aq = bq := fun z_ => (show ¬ nI aq = nI bq from c_3) ((nI_eq (by omega) (by omega)).mpr z_)
        refine x_aload_n C d_Mo_two_21 0 rfl rfl ?_
        refine x_iload_n C d_Mo_two_22 1 rfl rfl ?_
        refine x_iload_n C d_Mo_two_23 2 rfl rfl ?_
        refine x_callVi C (c_Mo_wouldMeet Z aq bq (by omega) (by omega) (g) _ rfl) mi_Mo_wouldMeet k_951 (show 0 < 12 by omega) (m_0 Z _) rfl (As := [.int (nI aq), .int (nI bq)]) ⟨Nat.le_of_ble_eq_true rfl, Nat.le_of_ble_eq_true rfl⟩ rfl rfl (Nat.le_of_ble_eq_true rfl) d_Mo_two_24 ?_
        refine x_ifeqB C d_Mo_two_27 34 (by decide) (fun c_4 => ?_) (fun c_4 => ?_)
        · refine x_iconst C d_Mo_two_34 (v := 0) (by decide) ?_
          refine x_goto C d_Mo_two_35 44 (by decide) ?_
          exact x_iretK C (by first | with_reducible rfl | (simp [bI, *]; done) | (simp_all [bI]; done)) (kfinM (G' := g) (by first | with_reducible rfl | (simp [*, -hd]; done) | (simp [*]; done) | (simp_all; done)) (va_id g 2).symm) d_Mo_two_44
        · refine x_iconst C d_Mo_two_30 (v := 1) (by decide) ?_
          refine x_goto C d_Mo_two_31 44 (by decide) ?_
          exact x_iretK C (by first | with_reducible rfl | (simp [bI, *]; done) | (simp_all [bI]; done)) (kfinM (G' := g) (by first | with_reducible rfl | (simp [*, -hd]; done) | (simp [*]; done) | (simp_all; done)) (va_id g 2).symm) d_Mo_two_44

set_option maxRecDepth 100000 in
set_option maxHeartbeats 600000 in
theorem c_Mo_metInAll (Z : ZT)  (g : St)  (r : Nat → Int32) (hr : g 0 = r) (hk : okR r) : CT yM Z y_Mo_metInAll b_Mo_metInAll 3 (some (.int)) 2 43 [.ref (Z.2.1 (0))] (g) (QcI yM Z (sumN r (sz r)) (g)) := by
  refine CT.mk "TunnelPeaceModel" (by decide) rfl (Nat.le_of_ble_eq_true rfl) (fun X C => ?_)
  refine x_lv [0] (lv' := [(0, .ref (Z.2.1 (0)))]) rfl ?_
  subst hr
  obtain ⟨⟨n, hn8, hn⟩, dd, hdd, hd⟩ := hk
  refine x_iconst C d_Mo_metInAll_0 (v := 0) (by decide) ?_
  refine x_istore_n C d_Mo_metInAll_1 rfl (by decide) (lv' := [(1, .int (0)), (0, .ref (Z.2.1 (0)))]) rfl ?_
  refine x_iconst C d_Mo_metInAll_2 (v := 0) (by decide) ?_
  refine x_topi (show (0 : Int32) = nI 0 by decide) ?_
  refine x_istore_n C d_Mo_metInAll_3 rfl (by decide) (lv' := [(2, .int (nI 0)), (1, .int (0)), (0, .ref (Z.2.1 (0)))]) rfl ?_
  have LP_4 : ∀ (f_ i : Nat), i ≤ n → n - i < f_ → WX X 3 yM Z (QX X yM Z (QcI yM Z (sumN (g 0) (sz (g 0))) (g))) (g) 4 [(2, .int (nI i)), (1, .int (sumN (g 0) (i))), (0, .ref (Z.2.1 (0)))] [] := by
    intro f_
    induction f_ with
    | zero => intro i h1_ h2_; exact absurd h2_ (Nat.not_lt_zero _)
    | succ f_ ih_4 =>
      intro i hi_4 hf_4
      refine x_iload_n C d_Mo_metInAll_4 0 rfl rfl ?_
      refine x_aload_n C d_Mo_metInAll_5 2 rfl rfl ?_
      refine gf_Mo_now C k_791 d_Mo_metInAll_6 ?_
      refine x_iconst C d_Mo_metInAll_9 (v := 1) (by decide) ?_
      refine al_m_now C 1 (v := nI n) (by decide) (by first | omega | (simp only [pI]; omega)) hn d_Mo_metInAll_10 ?_
      refine x_icmp_ge C d_Mo_metInAll_11 29 (by decide) (fun c_1 => ?_) (fun c_1 => ?_)
      · have nc_1 := Int32.not_lt.mpr c_1
        have mc_1 : n ≤ i := (nI_leI (by omega) (by omega)).mp (show nI n ≤ nI i from c_1)
        have e_i : n = i := by omega
        subst e_i
        refine x_iload_n C d_Mo_metInAll_29 1 rfl rfl ?_
        exact x_iret C (by rw [sz_of hn hn8]) rfl d_Mo_metInAll_30
      · have nc_1 := Int32.not_le.mp c_1
        have mc_1 : ¬ n ≤ i := fun z_ => (show ¬ nI n ≤ nI i from c_1) ((nI_leI (by omega) (by omega)).mpr z_)
        refine x_iload_n C d_Mo_metInAll_14 1 rfl rfl ?_
        refine x_aload_n C d_Mo_metInAll_15 2 rfl rfl ?_
        refine x_iload_n C d_Mo_metInAll_16 0 rfl rfl ?_
        refine x_iconst C d_Mo_metInAll_17 (v := 5) (by decide) ?_
        refine x_callVi C (c_Mo_personIs Z i 5 (by omega) (by omega) (g) _ rfl) mi_Mo_personIs k_919 (show 0 < 12 by omega) (m_0 Z _) rfl (As := [.int (nI i), .int (5)]) ⟨Nat.le_of_ble_eq_true rfl, Nat.le_of_ble_eq_true rfl⟩ rfl rfl (Nat.le_of_ble_eq_true rfl) d_Mo_metInAll_18 ?_
        refine x_iadd C d_Mo_metInAll_21 ?_
        refine x_istore_n C d_Mo_metInAll_22 rfl (by decide) (lv' := [(1, .int ((sumN (g 0) (i)) + (g 0 (pI i 5)))), (2, .int (nI i)), (0, .ref (Z.2.1 (0)))]) rfl ?_
        refine x_iinc C d_Mo_metInAll_23 1 rfl (v := nI (i + 1)) (nI_1 _) (by decide) (lv' := [(2, .int (nI (i + 1))), (1, .int ((sumN (g 0) (i)) + (g 0 (pI i 5)))), (0, .ref (Z.2.1 (0)))]) rfl ?_
        refine x_goto C d_Mo_metInAll_26 4 (by decide) ?_
        refine x_lve (lv' := [(2, .int (nI (i + 1))), (1, .int (sumN (g 0) (i + 1))), (0, .ref (Z.2.1 (0)))]) (by first | with_reducible rfl | simp [sumN, bit, *]) ?_
        exact ih_4 (i + 1) (by omega) (by omega)
  refine x_lve (lv' := [(2, .int (nI 0)), (1, .int (sumN (g 0) (0))), (0, .ref (Z.2.1 (0)))]) rfl ?_
  exact LP_4 (n + 1) 0 (Nat.zero_le _) (by omega)

set_option maxRecDepth 100000 in
set_option maxHeartbeats 600000 in
theorem c_Mo_strangers (Z : ZT)  (g : St)  (r : Nat → Int32) (hr : g 0 = r) (hk : okR r) : CT yM Z y_Mo_strangers b_Mo_strangers 4 (some (.int)) 2 43 [.ref (Z.2.1 (0))] (g) (QcI yM Z (strN r (sz r)) (g)) := by
  refine CT.mk "TunnelPeaceModel" (by decide) rfl (Nat.le_of_ble_eq_true rfl) (fun X C => ?_)
  refine x_lv [0] (lv' := [(0, .ref (Z.2.1 (0)))]) rfl ?_
  subst hr
  obtain ⟨⟨n, hn8, hn⟩, dd, hdd, hd⟩ := hk
  refine x_iconst C d_Mo_strangers_0 (v := 0) (by decide) ?_
  refine x_istore_n C d_Mo_strangers_1 rfl (by decide) (lv' := [(1, .int (0)), (0, .ref (Z.2.1 (0)))]) rfl ?_
  refine x_iconst C d_Mo_strangers_2 (v := 0) (by decide) ?_
  refine x_topi (show (0 : Int32) = nI 0 by decide) ?_
  refine x_istore_n C d_Mo_strangers_3 rfl (by decide) (lv' := [(2, .int (nI 0)), (1, .int (0)), (0, .ref (Z.2.1 (0)))]) rfl ?_
  have LP_4 : ∀ (f_ i : Nat), i ≤ n → n - i < f_ → WX X 4 yM Z (QX X yM Z (QcI yM Z (strN (g 0) (sz (g 0))) (g))) (g) 4 [(2, .int (nI i)), (1, .int (strN (g 0) (i))), (0, .ref (Z.2.1 (0)))] [] := by
    intro f_
    induction f_ with
    | zero => intro i h1_ h2_; exact absurd h2_ (Nat.not_lt_zero _)
    | succ f_ ih_4 =>
      intro i hi_4 hf_4
      refine x_iload_n C d_Mo_strangers_4 0 rfl rfl ?_
      refine x_aload_n C d_Mo_strangers_5 2 rfl rfl ?_
      refine gf_Mo_now C k_791 d_Mo_strangers_6 ?_
      refine x_iconst C d_Mo_strangers_9 (v := 1) (by decide) ?_
      refine al_m_now C 1 (v := nI n) (by decide) (by first | omega | (simp only [pI]; omega)) hn d_Mo_strangers_10 ?_
      refine x_icmp_ge C d_Mo_strangers_11 57 (by decide) (fun c_1 => ?_) (fun c_1 => ?_)
      · have nc_1 := Int32.not_lt.mpr c_1
        have mc_1 : n ≤ i := (nI_leI (by omega) (by omega)).mp (show nI n ≤ nI i from c_1)
        have e_i : n = i := by omega
        subst e_i
        refine x_iload_n C d_Mo_strangers_57 1 rfl rfl ?_
        exact x_iret C (by rw [sz_of hn hn8]) rfl d_Mo_strangers_58
      · have nc_1 := Int32.not_le.mp c_1
        have mc_1 : ¬ n ≤ i := fun z_ => (show ¬ nI n ≤ nI i from c_1) ((nI_leI (by omega) (by omega)).mpr z_)
        refine x_aload_n C d_Mo_strangers_14 2 rfl rfl ?_
        refine x_iload_n C d_Mo_strangers_15 0 rfl rfl ?_
        refine x_iconst C d_Mo_strangers_16 (v := 2) (by decide) ?_
        refine x_callVi C (c_Mo_personIs Z i 2 (by omega) (by omega) (g) _ rfl) mi_Mo_personIs k_919 (show 0 < 12 by omega) (m_0 Z _) rfl (As := [.int (nI i), .int (2)]) ⟨Nat.le_of_ble_eq_true rfl, Nat.le_of_ble_eq_true rfl⟩ rfl rfl (Nat.le_of_ble_eq_true rfl) d_Mo_strangers_17 ?_
        refine x_bipush C d_Mo_strangers_20 (v := 7) (by decide) ?_
        refine x_icmp_gt C d_Mo_strangers_22 29 (by decide) (fun c_2 => ?_) (fun c_2 => ?_)
        · have nc_2 := Int32.not_le.mpr c_2
          refine x_iconst C d_Mo_strangers_29 (v := 1) (by decide) ?_
          refine x_istore_n C d_Mo_strangers_30 rfl (by decide) (lv' := [(3, .int (1)), (2, .int (nI i)), (1, .int (strN (g 0) (i))), (0, .ref (Z.2.1 (0)))]) rfl ?_
          refine x_iload_n C d_Mo_strangers_31 2 rfl rfl ?_
          refine x_iload_n C d_Mo_strangers_32 0 rfl rfl ?_
          refine x_aload_n C d_Mo_strangers_33 3 rfl rfl ?_
          refine x_iload_n C d_Mo_strangers_34 1 rfl rfl ?_
          refine x_iconst C d_Mo_strangers_35 (v := 1) (by decide) ?_
          refine x_callVi C (c_Mo_personIs Z i 1 (by omega) (by omega) (g) _ rfl) mi_Mo_personIs k_919 (show 0 < 12 by omega) (m_0 Z _) rfl (As := [.int (nI i), .int (1)]) ⟨Nat.le_of_ble_eq_true rfl, Nat.le_of_ble_eq_true rfl⟩ rfl rfl (Nat.le_of_ble_eq_true rfl) d_Mo_strangers_36 ?_
          refine x_icmp_eq C d_Mo_strangers_39 48 (by decide) (fun c_3 => ?_) (fun c_3 => ?_)
          · replace c_3 := Eq.symm c_3
            refine x_iconst C d_Mo_strangers_48 (v := 0) (by decide) ?_
            refine x_ior C d_Mo_strangers_49 ?_
            refine x_istore_n C d_Mo_strangers_50 rfl (by decide) (lv' := [(1, .int ((strN (g 0) (i)) ||| 0)), (3, .int (1)), (2, .int (nI i)), (0, .ref (Z.2.1 (0)))]) rfl ?_
            refine x_iinc C d_Mo_strangers_51 2 rfl (v := nI (i + 1)) (nI_1 _) (by decide) (lv' := [(2, .int (nI (i + 1))), (1, .int ((strN (g 0) (i)) ||| 0)), (3, .int (1)), (0, .ref (Z.2.1 (0)))]) rfl ?_
            refine x_goto C d_Mo_strangers_54 4 (by decide) ?_
            refine x_lv [0, 1, 3] (lv' := [(2, .int (nI (i + 1))), (1, .int ((strN (g 0) (i)) ||| 0)), (0, .ref (Z.2.1 (0)))]) rfl ?_
            refine x_lve (lv' := [(2, .int (nI (i + 1))), (1, .int (strN (g 0) (i + 1))), (0, .ref (Z.2.1 (0)))]) (by first | with_reducible rfl | simp [strN, bit, *]) ?_
            exact ih_4 (i + 1) (by omega) (by omega)
          · have nc_3 := Ne.symm c_3
            refine x_iconst C d_Mo_strangers_42 (v := 1) (by decide) ?_
            refine x_iload_n C d_Mo_strangers_43 1 rfl rfl ?_
            refine x_ishl C d_Mo_strangers_44 ?_
            refine x_goto C d_Mo_strangers_45 49 (by decide) ?_
            refine x_ior C d_Mo_strangers_49 ?_
            refine x_istore_n C d_Mo_strangers_50 rfl (by decide) (lv' := [(1, .int ((strN (g 0) (i)) ||| (1 <<< ((nI i) &&& 31)))), (3, .int (1)), (2, .int (nI i)), (0, .ref (Z.2.1 (0)))]) rfl ?_
            refine x_iinc C d_Mo_strangers_51 2 rfl (v := nI (i + 1)) (nI_1 _) (by decide) (lv' := [(2, .int (nI (i + 1))), (1, .int ((strN (g 0) (i)) ||| (1 <<< ((nI i) &&& 31)))), (3, .int (1)), (0, .ref (Z.2.1 (0)))]) rfl ?_
            refine x_goto C d_Mo_strangers_54 4 (by decide) ?_
            refine x_lv [0, 1, 3] (lv' := [(2, .int (nI (i + 1))), (1, .int ((strN (g 0) (i)) ||| (1 <<< ((nI i) &&& 31)))), (0, .ref (Z.2.1 (0)))]) rfl ?_
            refine x_lve (lv' := [(2, .int (nI (i + 1))), (1, .int (strN (g 0) (i + 1))), (0, .ref (Z.2.1 (0)))]) (by first | with_reducible rfl | simp [strN, bit, *]) ?_
            exact ih_4 (i + 1) (by omega) (by omega)
        · have nc_2 := Int32.not_lt.mp c_2
          refine x_iconst C d_Mo_strangers_25 (v := 0) (by decide) ?_
          refine x_goto C d_Mo_strangers_26 30 (by decide) ?_
          refine x_istore_n C d_Mo_strangers_30 rfl (by decide) (lv' := [(3, .int (0)), (2, .int (nI i)), (1, .int (strN (g 0) (i))), (0, .ref (Z.2.1 (0)))]) rfl ?_
          refine x_iload_n C d_Mo_strangers_31 2 rfl rfl ?_
          refine x_iload_n C d_Mo_strangers_32 0 rfl rfl ?_
          refine x_aload_n C d_Mo_strangers_33 3 rfl rfl ?_
          refine x_iload_n C d_Mo_strangers_34 1 rfl rfl ?_
          refine x_iconst C d_Mo_strangers_35 (v := 1) (by decide) ?_
          refine x_callVi C (c_Mo_personIs Z i 1 (by omega) (by omega) (g) _ rfl) mi_Mo_personIs k_919 (show 0 < 12 by omega) (m_0 Z _) rfl (As := [.int (nI i), .int (1)]) ⟨Nat.le_of_ble_eq_true rfl, Nat.le_of_ble_eq_true rfl⟩ rfl rfl (Nat.le_of_ble_eq_true rfl) d_Mo_strangers_36 ?_
          refine x_icmp_eq C d_Mo_strangers_39 48 (by decide) (fun c_4 => ?_) (fun c_4 => ?_)
          · replace c_4 := Eq.symm c_4
            refine x_iconst C d_Mo_strangers_48 (v := 0) (by decide) ?_
            refine x_ior C d_Mo_strangers_49 ?_
            refine x_istore_n C d_Mo_strangers_50 rfl (by decide) (lv' := [(1, .int ((strN (g 0) (i)) ||| 0)), (3, .int (0)), (2, .int (nI i)), (0, .ref (Z.2.1 (0)))]) rfl ?_
            refine x_iinc C d_Mo_strangers_51 2 rfl (v := nI (i + 1)) (nI_1 _) (by decide) (lv' := [(2, .int (nI (i + 1))), (1, .int ((strN (g 0) (i)) ||| 0)), (3, .int (0)), (0, .ref (Z.2.1 (0)))]) rfl ?_
            refine x_goto C d_Mo_strangers_54 4 (by decide) ?_
            refine x_lv [0, 1, 3] (lv' := [(2, .int (nI (i + 1))), (1, .int ((strN (g 0) (i)) ||| 0)), (0, .ref (Z.2.1 (0)))]) rfl ?_
            refine x_lve (lv' := [(2, .int (nI (i + 1))), (1, .int (strN (g 0) (i + 1))), (0, .ref (Z.2.1 (0)))]) (by first | with_reducible rfl | simp [strN, bit, *]) ?_
            exact ih_4 (i + 1) (by omega) (by omega)
          · have nc_4 := Ne.symm c_4
            refine x_iconst C d_Mo_strangers_42 (v := 1) (by decide) ?_
            refine x_iload_n C d_Mo_strangers_43 1 rfl rfl ?_
            refine x_ishl C d_Mo_strangers_44 ?_
            refine x_goto C d_Mo_strangers_45 49 (by decide) ?_
            refine x_ior C d_Mo_strangers_49 ?_
            refine x_istore_n C d_Mo_strangers_50 rfl (by decide) (lv' := [(1, .int ((strN (g 0) (i)) ||| (1 <<< ((nI i) &&& 31)))), (3, .int (0)), (2, .int (nI i)), (0, .ref (Z.2.1 (0)))]) rfl ?_
            refine x_iinc C d_Mo_strangers_51 2 rfl (v := nI (i + 1)) (nI_1 _) (by decide) (lv' := [(2, .int (nI (i + 1))), (1, .int ((strN (g 0) (i)) ||| (1 <<< ((nI i) &&& 31)))), (3, .int (0)), (0, .ref (Z.2.1 (0)))]) rfl ?_
            refine x_goto C d_Mo_strangers_54 4 (by decide) ?_
            refine x_lv [0, 1, 3] (lv' := [(2, .int (nI (i + 1))), (1, .int ((strN (g 0) (i)) ||| (1 <<< ((nI i) &&& 31)))), (0, .ref (Z.2.1 (0)))]) rfl ?_
            refine x_lve (lv' := [(2, .int (nI (i + 1))), (1, .int (strN (g 0) (i + 1))), (0, .ref (Z.2.1 (0)))]) (by first | with_reducible rfl | simp [strN, bit, *]) ?_
            exact ih_4 (i + 1) (by omega) (by omega)
  refine x_lve (lv' := [(2, .int (nI 0)), (1, .int (strN (g 0) (0))), (0, .ref (Z.2.1 (0)))]) rfl ?_
  exact LP_4 (n + 1) 0 (Nat.zero_le _) (by omega)

set_option maxRecDepth 100000 in
set_option maxHeartbeats 600000 in
theorem c_Mo_subscribers (Z : ZT)  (g : St)  (r : Nat → Int32) (hr : g 0 = r) (hk : okR r) : CT yM Z y_Mo_subscribers b_Mo_subscribers 3 (some (.int)) 2 43 [.ref (Z.2.1 (0))] (g) (QcI yM Z (seaN r (sz r)) (g)) := by
  refine CT.mk "TunnelPeaceModel" (by decide) rfl (Nat.le_of_ble_eq_true rfl) (fun X C => ?_)
  refine x_lv [0] (lv' := [(0, .ref (Z.2.1 (0)))]) rfl ?_
  subst hr
  obtain ⟨⟨n, hn8, hn⟩, dd, hdd, hd⟩ := hk
  refine x_iconst C d_Mo_subscribers_0 (v := 0) (by decide) ?_
  refine x_istore_n C d_Mo_subscribers_1 rfl (by decide) (lv' := [(1, .int (0)), (0, .ref (Z.2.1 (0)))]) rfl ?_
  refine x_iconst C d_Mo_subscribers_2 (v := 0) (by decide) ?_
  refine x_topi (show (0 : Int32) = nI 0 by decide) ?_
  refine x_istore_n C d_Mo_subscribers_3 rfl (by decide) (lv' := [(2, .int (nI 0)), (1, .int (0)), (0, .ref (Z.2.1 (0)))]) rfl ?_
  have LP_4 : ∀ (f_ i : Nat), i ≤ n → n - i < f_ → WX X 3 yM Z (QX X yM Z (QcI yM Z (seaN (g 0) (sz (g 0))) (g))) (g) 4 [(2, .int (nI i)), (1, .int (seaN (g 0) (i))), (0, .ref (Z.2.1 (0)))] [] := by
    intro f_
    induction f_ with
    | zero => intro i h1_ h2_; exact absurd h2_ (Nat.not_lt_zero _)
    | succ f_ ih_4 =>
      intro i hi_4 hf_4
      refine x_iload_n C d_Mo_subscribers_4 0 rfl rfl ?_
      refine x_aload_n C d_Mo_subscribers_5 2 rfl rfl ?_
      refine gf_Mo_now C k_791 d_Mo_subscribers_6 ?_
      refine x_iconst C d_Mo_subscribers_9 (v := 1) (by decide) ?_
      refine al_m_now C 1 (v := nI n) (by decide) (by first | omega | (simp only [pI]; omega)) hn d_Mo_subscribers_10 ?_
      refine x_icmp_ge C d_Mo_subscribers_11 39 (by decide) (fun c_1 => ?_) (fun c_1 => ?_)
      · have nc_1 := Int32.not_lt.mpr c_1
        have mc_1 : n ≤ i := (nI_leI (by omega) (by omega)).mp (show nI n ≤ nI i from c_1)
        have e_i : n = i := by omega
        subst e_i
        refine x_iload_n C d_Mo_subscribers_39 1 rfl rfl ?_
        exact x_iret C (by rw [sz_of hn hn8]) rfl d_Mo_subscribers_40
      · have nc_1 := Int32.not_le.mp c_1
        have mc_1 : ¬ n ≤ i := fun z_ => (show ¬ nI n ≤ nI i from c_1) ((nI_leI (by omega) (by omega)).mpr z_)
        refine x_iload_n C d_Mo_subscribers_14 1 rfl rfl ?_
        refine x_aload_n C d_Mo_subscribers_15 2 rfl rfl ?_
        refine x_iload_n C d_Mo_subscribers_16 0 rfl rfl ?_
        refine x_iconst C d_Mo_subscribers_17 (v := 3) (by decide) ?_
        refine x_callVi C (c_Mo_personIs Z i 3 (by omega) (by omega) (g) _ rfl) mi_Mo_personIs k_919 (show 0 < 12 by omega) (m_0 Z _) rfl (As := [.int (nI i), .int (3)]) ⟨Nat.le_of_ble_eq_true rfl, Nat.le_of_ble_eq_true rfl⟩ rfl rfl (Nat.le_of_ble_eq_true rfl) d_Mo_subscribers_18 ?_
        refine x_ifle C d_Mo_subscribers_21 30 (by decide) (fun c_2 => ?_) (fun c_2 => ?_)
        · have nc_2 := Int32.not_lt.mpr c_2
          refine x_iconst C d_Mo_subscribers_30 (v := 0) (by decide) ?_
          refine x_ior C d_Mo_subscribers_31 ?_
          refine x_istore_n C d_Mo_subscribers_32 rfl (by decide) (lv' := [(1, .int ((seaN (g 0) (i)) ||| 0)), (2, .int (nI i)), (0, .ref (Z.2.1 (0)))]) rfl ?_
          refine x_iinc C d_Mo_subscribers_33 1 rfl (v := nI (i + 1)) (nI_1 _) (by decide) (lv' := [(2, .int (nI (i + 1))), (1, .int ((seaN (g 0) (i)) ||| 0)), (0, .ref (Z.2.1 (0)))]) rfl ?_
          refine x_goto C d_Mo_subscribers_36 4 (by decide) ?_
          refine x_lve (lv' := [(2, .int (nI (i + 1))), (1, .int (seaN (g 0) (i + 1))), (0, .ref (Z.2.1 (0)))]) (by first | with_reducible rfl | simp [seaN, bit, *]) ?_
          exact ih_4 (i + 1) (by omega) (by omega)
        · have nc_2 := Int32.not_le.mp c_2
          refine x_iconst C d_Mo_subscribers_24 (v := 1) (by decide) ?_
          refine x_iload_n C d_Mo_subscribers_25 0 rfl rfl ?_
          refine x_ishl C d_Mo_subscribers_26 ?_
          refine x_goto C d_Mo_subscribers_27 31 (by decide) ?_
          refine x_ior C d_Mo_subscribers_31 ?_
          refine x_istore_n C d_Mo_subscribers_32 rfl (by decide) (lv' := [(1, .int ((seaN (g 0) (i)) ||| (1 <<< ((nI i) &&& 31)))), (2, .int (nI i)), (0, .ref (Z.2.1 (0)))]) rfl ?_
          refine x_iinc C d_Mo_subscribers_33 1 rfl (v := nI (i + 1)) (nI_1 _) (by decide) (lv' := [(2, .int (nI (i + 1))), (1, .int ((seaN (g 0) (i)) ||| (1 <<< ((nI i) &&& 31)))), (0, .ref (Z.2.1 (0)))]) rfl ?_
          refine x_goto C d_Mo_subscribers_36 4 (by decide) ?_
          refine x_lve (lv' := [(2, .int (nI (i + 1))), (1, .int (seaN (g 0) (i + 1))), (0, .ref (Z.2.1 (0)))]) (by first | with_reducible rfl | simp [seaN, bit, *]) ?_
          exact ih_4 (i + 1) (by omega) (by omega)
  refine x_lve (lv' := [(2, .int (nI 0)), (1, .int (seaN (g 0) (0))), (0, .ref (Z.2.1 (0)))]) rfl ?_
  exact LP_4 (n + 1) 0 (Nat.zero_le _) (by omega)

set_option maxRecDepth 100000 in
set_option maxHeartbeats 600000 in
theorem c_Mo_cellsOf (Z : ZT)  (g : St)  (r : Nat → Int32) (hr : g 0 = r) (hk : okR r) : CT yM Z y_Mo_cellsOf b_Mo_cellsOf 3 (some (.int)) 2 43 [.ref (Z.2.1 (0))] (g) (QcI yM Z (celN r (sz r)) (g)) := by
  refine CT.mk "TunnelPeaceModel" (by decide) rfl (Nat.le_of_ble_eq_true rfl) (fun X C => ?_)
  refine x_lv [0] (lv' := [(0, .ref (Z.2.1 (0)))]) rfl ?_
  subst hr
  obtain ⟨⟨n, hn8, hn⟩, dd, hdd, hd⟩ := hk
  refine x_iconst C d_Mo_cellsOf_0 (v := 0) (by decide) ?_
  refine x_istore_n C d_Mo_cellsOf_1 rfl (by decide) (lv' := [(1, .int (0)), (0, .ref (Z.2.1 (0)))]) rfl ?_
  refine x_iconst C d_Mo_cellsOf_2 (v := 0) (by decide) ?_
  refine x_topi (show (0 : Int32) = nI 0 by decide) ?_
  refine x_istore_n C d_Mo_cellsOf_3 rfl (by decide) (lv' := [(2, .int (nI 0)), (1, .int (0)), (0, .ref (Z.2.1 (0)))]) rfl ?_
  have LP_4 : ∀ (f_ i : Nat), i ≤ n → n - i < f_ → WX X 3 yM Z (QX X yM Z (QcI yM Z (celN (g 0) (sz (g 0))) (g))) (g) 4 [(2, .int (nI i)), (1, .int (celN (g 0) (i))), (0, .ref (Z.2.1 (0)))] [] := by
    intro f_
    induction f_ with
    | zero => intro i h1_ h2_; exact absurd h2_ (Nat.not_lt_zero _)
    | succ f_ ih_4 =>
      intro i hi_4 hf_4
      refine x_iload_n C d_Mo_cellsOf_4 0 rfl rfl ?_
      refine x_aload_n C d_Mo_cellsOf_5 2 rfl rfl ?_
      refine gf_Mo_now C k_791 d_Mo_cellsOf_6 ?_
      refine x_iconst C d_Mo_cellsOf_9 (v := 1) (by decide) ?_
      refine al_m_now C 1 (v := nI n) (by decide) (by first | omega | (simp only [pI]; omega)) hn d_Mo_cellsOf_10 ?_
      refine x_icmp_ge C d_Mo_cellsOf_11 31 (by decide) (fun c_1 => ?_) (fun c_1 => ?_)
      · have nc_1 := Int32.not_lt.mpr c_1
        have mc_1 : n ≤ i := (nI_leI (by omega) (by omega)).mp (show nI n ≤ nI i from c_1)
        have e_i : n = i := by omega
        subst e_i
        refine x_iload_n C d_Mo_cellsOf_31 1 rfl rfl ?_
        exact x_iret C (by rw [sz_of hn hn8]) rfl d_Mo_cellsOf_32
      · have nc_1 := Int32.not_le.mp c_1
        have mc_1 : ¬ n ≤ i := fun z_ => (show ¬ nI n ≤ nI i from c_1) ((nI_leI (by omega) (by omega)).mpr z_)
        refine x_iload_n C d_Mo_cellsOf_14 1 rfl rfl ?_
        refine x_iconst C d_Mo_cellsOf_15 (v := 1) (by decide) ?_
        refine x_aload_n C d_Mo_cellsOf_16 2 rfl rfl ?_
        refine x_iload_n C d_Mo_cellsOf_17 0 rfl rfl ?_
        refine x_iconst C d_Mo_cellsOf_18 (v := 2) (by decide) ?_
        refine x_callVi C (c_Mo_personIs Z i 2 (by omega) (by omega) (g) _ rfl) mi_Mo_personIs k_919 (show 0 < 12 by omega) (m_0 Z _) rfl (As := [.int (nI i), .int (2)]) ⟨Nat.le_of_ble_eq_true rfl, Nat.le_of_ble_eq_true rfl⟩ rfl rfl (Nat.le_of_ble_eq_true rfl) d_Mo_cellsOf_19 ?_
        refine x_ishl C d_Mo_cellsOf_22 ?_
        refine x_ior C d_Mo_cellsOf_23 ?_
        refine x_istore_n C d_Mo_cellsOf_24 rfl (by decide) (lv' := [(1, .int ((celN (g 0) (i)) ||| (1 <<< ((g 0 (pI i 2)) &&& 31)))), (2, .int (nI i)), (0, .ref (Z.2.1 (0)))]) rfl ?_
        refine x_iinc C d_Mo_cellsOf_25 1 rfl (v := nI (i + 1)) (nI_1 _) (by decide) (lv' := [(2, .int (nI (i + 1))), (1, .int ((celN (g 0) (i)) ||| (1 <<< ((g 0 (pI i 2)) &&& 31)))), (0, .ref (Z.2.1 (0)))]) rfl ?_
        refine x_goto C d_Mo_cellsOf_28 4 (by decide) ?_
        refine x_lve (lv' := [(2, .int (nI (i + 1))), (1, .int (celN (g 0) (i + 1))), (0, .ref (Z.2.1 (0)))]) (by first | with_reducible rfl | simp [celN, bit, *]) ?_
        exact ih_4 (i + 1) (by omega) (by omega)
  refine x_lve (lv' := [(2, .int (nI 0)), (1, .int (celN (g 0) (0))), (0, .ref (Z.2.1 (0)))]) rfl ?_
  exact LP_4 (n + 1) 0 (Nat.zero_le _) (by omega)

set_option maxRecDepth 100000 in
set_option maxHeartbeats 600000 in
theorem c_Mo_pairs (Z : ZT)  (g : St)  (r : Nat → Int32) (hr : g 0 = r) (hk : okR r) : CT yM Z y_Mo_pairs b_Mo_pairs 4 (some (.int)) 3 68 [.ref (Z.2.1 (0))] (g) (QcI yM Z (prO (sz r) r (sz r)) (g)) := by
  refine CT.mk "TunnelPeaceModel" (by decide) rfl (Nat.le_of_ble_eq_true rfl) (fun X C => ?_)
  refine x_lv [0] (lv' := [(0, .ref (Z.2.1 (0)))]) rfl ?_
  subst hr
  obtain ⟨⟨n, hn8, hn⟩, dd, hdd, hd⟩ := hk
  refine x_iconst C d_Mo_pairs_0 (v := 0) (by decide) ?_
  refine x_istore_n C d_Mo_pairs_1 rfl (by decide) (lv' := [(1, .int (0)), (0, .ref (Z.2.1 (0)))]) rfl ?_
  refine x_iconst C d_Mo_pairs_2 (v := 0) (by decide) ?_
  refine x_topi (show (0 : Int32) = nI 0 by decide) ?_
  refine x_istore_n C d_Mo_pairs_3 rfl (by decide) (lv' := [(2, .int (nI 0)), (1, .int (0)), (0, .ref (Z.2.1 (0)))]) rfl ?_
  have LP_4 : ∀ (f_ a : Nat), a ≤ n → n - a < f_ → WX X 4 yM Z (QX X yM Z (QcI yM Z (prO (sz (g 0)) (g 0) (sz (g 0))) (g))) (g) 4 [(2, .int (nI a)), (1, .int (prO n (g 0) (a))), (0, .ref (Z.2.1 (0)))] [] := by
    intro f_
    induction f_ with
    | zero => intro a h1_ h2_; exact absurd h2_ (Nat.not_lt_zero _)
    | succ f_ ih_4 =>
      intro a hi_4 hf_4
      refine x_iload_n C d_Mo_pairs_4 0 rfl rfl ?_
      refine x_aload_n C d_Mo_pairs_5 2 rfl rfl ?_
      refine gf_Mo_now C k_791 d_Mo_pairs_6 ?_
      refine x_iconst C d_Mo_pairs_9 (v := 1) (by decide) ?_
      refine al_m_now C 1 (v := nI n) (by decide) (by first | omega | (simp only [pI]; omega)) hn d_Mo_pairs_10 ?_
      refine x_icmp_ge C d_Mo_pairs_11 57 (by decide) (fun c_1 => ?_) (fun c_1 => ?_)
      · have nc_1 := Int32.not_lt.mpr c_1
        have mc_1 : n ≤ a := (nI_leI (by omega) (by omega)).mp (show nI n ≤ nI a from c_1)
        have e_a : n = a := by omega
        subst e_a
        refine x_iload_n C d_Mo_pairs_57 1 rfl rfl ?_
        exact x_iret C (by rw [sz_of hn hn8]) rfl d_Mo_pairs_58
      · have nc_1 := Int32.not_le.mp c_1
        have mc_1 : ¬ n ≤ a := fun z_ => (show ¬ nI n ≤ nI a from c_1) ((nI_leI (by omega) (by omega)).mpr z_)
        refine x_iload_n C d_Mo_pairs_14 0 rfl rfl ?_
        refine x_iconst C d_Mo_pairs_15 (v := 1) (by decide) ?_
        refine x_iadd C d_Mo_pairs_16 ?_
        refine x_topi (x' := nI (a + 1 + 0)) (nI_1 a) ?_
        refine x_istore_n C d_Mo_pairs_17 rfl (by decide) (lv' := [(3, .int (nI (a + 1 + 0))), (2, .int (nI a)), (1, .int (prO n (g 0) (a))), (0, .ref (Z.2.1 (0)))]) rfl ?_
        have LP_18 : ∀ (f_ k : Nat), k ≤ n - (a + 1) → (n - (a + 1)) - k < f_ → WX X 4 yM Z (QX X yM Z (QcI yM Z (prO (sz (g 0)) (g 0) (sz (g 0))) (g))) (g) 18 [(3, .int (nI (a + 1 + k))), (2, .int (nI a)), (1, .int (prI a (g 0) (prO n (g 0) a) (k))), (0, .ref (Z.2.1 (0)))] [] := by
          intro f_
          induction f_ with
          | zero => intro k h1_ h2_; exact absurd h2_ (Nat.not_lt_zero _)
          | succ f_ ih_18 =>
            intro k hi_18 hf_18
            refine x_iload_n C d_Mo_pairs_18 0 rfl rfl ?_
            refine x_aload_n C d_Mo_pairs_19 3 rfl rfl ?_
            refine gf_Mo_now C k_791 d_Mo_pairs_20 ?_
            refine x_iconst C d_Mo_pairs_23 (v := 1) (by decide) ?_
            refine al_m_now C 1 (v := nI n) (by decide) (by first | omega | (simp only [pI]; omega)) hn d_Mo_pairs_24 ?_
            refine x_icmp_ge C d_Mo_pairs_25 51 (by decide) (fun c_2 => ?_) (fun c_2 => ?_)
            · have nc_2 := Int32.not_lt.mpr c_2
              have mc_2 : n ≤ a + 1 + k := (nI_leI (by omega) (by omega)).mp (show nI n ≤ nI (a + 1 + k) from c_2)
              have e_k : n - (a + 1) = k := by omega
              subst e_k
              refine x_iinc C d_Mo_pairs_51 1 rfl (v := nI (a + 1)) (nI_1 _) (by decide) (lv' := [(2, .int (nI (a + 1))), (3, .int (nI (a + 1 + (n - (a + 1))))), (1, .int (prI a (g 0) (prO n (g 0) a) ((n - (a + 1))))), (0, .ref (Z.2.1 (0)))]) rfl ?_
              refine x_goto C d_Mo_pairs_54 4 (by decide) ?_
              refine x_lv [0, 2, 3] (lv' := [(2, .int (nI (a + 1))), (1, .int (prI a (g 0) (prO n (g 0) a) ((n - (a + 1))))), (0, .ref (Z.2.1 (0)))]) rfl ?_
              refine x_lve (lv' := [(2, .int (nI (a + 1))), (1, .int (prO n (g 0) (a + 1))), (0, .ref (Z.2.1 (0)))]) rfl ?_
              exact ih_4 (a + 1) (by omega) (by omega)
            · have nc_2 := Int32.not_le.mp c_2
              have mc_2 : ¬ n ≤ a + 1 + k := fun z_ => (show ¬ nI n ≤ nI (a + 1 + k) from c_2) ((nI_leI (by omega) (by omega)).mpr z_)
              refine x_iload_n C d_Mo_pairs_28 2 rfl rfl ?_
              refine x_aload_n C d_Mo_pairs_29 3 rfl rfl ?_
              refine x_iload_n C d_Mo_pairs_30 1 rfl rfl ?_
              refine x_iload_n C d_Mo_pairs_31 0 rfl rfl ?_
              refine x_callVi C (c_Mo_wouldMeet Z a (a + 1 + k) (by omega) (by omega) (g) _ rfl) mi_Mo_wouldMeet k_951 (show 0 < 12 by omega) (m_0 Z _) rfl (As := [.int (nI a), .int (nI (a + 1 + k))]) ⟨Nat.le_of_ble_eq_true rfl, Nat.le_of_ble_eq_true rfl⟩ rfl rfl (Nat.le_of_ble_eq_true rfl) d_Mo_pairs_32 ?_
              refine x_ifeqB C d_Mo_pairs_35 42 (by decide) (fun c_3 => ?_) (fun c_3 => ?_)
              · refine x_iconst C d_Mo_pairs_42 (v := 0) (by decide) ?_
                refine x_iadd C d_Mo_pairs_43 ?_
                refine x_istore_n C d_Mo_pairs_44 rfl (by decide) (lv' := [(1, .int ((prI a (g 0) (prO n (g 0) a) (k)) + 0)), (3, .int (nI (a + 1 + k))), (2, .int (nI a)), (0, .ref (Z.2.1 (0)))]) rfl ?_
                refine x_iinc C d_Mo_pairs_45 1 rfl (v := nI (a + 1 + k + 1)) (nI_1 _) (by decide) (lv' := [(3, .int (nI (a + 1 + k + 1))), (1, .int ((prI a (g 0) (prO n (g 0) a) (k)) + 0)), (2, .int (nI a)), (0, .ref (Z.2.1 (0)))]) rfl ?_
                refine x_goto C d_Mo_pairs_48 18 (by decide) ?_
                refine x_lv [0, 2, 1, 3] (lv' := [(3, .int (nI (a + 1 + k + 1))), (2, .int (nI a)), (1, .int ((prI a (g 0) (prO n (g 0) a) (k)) + 0)), (0, .ref (Z.2.1 (0)))]) rfl ?_
                refine x_lve (lv' := [(3, .int (nI (a + 1 + (k + 1)))), (2, .int (nI a)), (1, .int (prI a (g 0) (prO n (g 0) a) (k + 1))), (0, .ref (Z.2.1 (0)))]) (by first | with_reducible rfl | (simp [prI, *]; rfl) | (simp [prI, *]; done)) ?_
                exact ih_18 (k + 1) (by omega) (by omega)
              · refine x_iconst C d_Mo_pairs_38 (v := 1) (by decide) ?_
                refine x_goto C d_Mo_pairs_39 43 (by decide) ?_
                refine x_iadd C d_Mo_pairs_43 ?_
                refine x_istore_n C d_Mo_pairs_44 rfl (by decide) (lv' := [(1, .int ((prI a (g 0) (prO n (g 0) a) (k)) + 1)), (3, .int (nI (a + 1 + k))), (2, .int (nI a)), (0, .ref (Z.2.1 (0)))]) rfl ?_
                refine x_iinc C d_Mo_pairs_45 1 rfl (v := nI (a + 1 + k + 1)) (nI_1 _) (by decide) (lv' := [(3, .int (nI (a + 1 + k + 1))), (1, .int ((prI a (g 0) (prO n (g 0) a) (k)) + 1)), (2, .int (nI a)), (0, .ref (Z.2.1 (0)))]) rfl ?_
                refine x_goto C d_Mo_pairs_48 18 (by decide) ?_
                refine x_lv [0, 2, 1, 3] (lv' := [(3, .int (nI (a + 1 + k + 1))), (2, .int (nI a)), (1, .int ((prI a (g 0) (prO n (g 0) a) (k)) + 1)), (0, .ref (Z.2.1 (0)))]) rfl ?_
                refine x_lve (lv' := [(3, .int (nI (a + 1 + (k + 1)))), (2, .int (nI a)), (1, .int (prI a (g 0) (prO n (g 0) a) (k + 1))), (0, .ref (Z.2.1 (0)))]) (by first | with_reducible rfl | (simp [prI, *]; rfl) | (simp [prI, *]; done)) ?_
                exact ih_18 (k + 1) (by omega) (by omega)
        refine x_lve (lv' := [(3, .int (nI (a + 1 + 0))), (2, .int (nI a)), (1, .int (prI a (g 0) (prO n (g 0) a) (0))), (0, .ref (Z.2.1 (0)))]) rfl ?_
        exact LP_18 (n - (a + 1) + 1) 0 (Nat.zero_le _) (by omega)
  refine x_lve (lv' := [(2, .int (nI 0)), (1, .int (prO n (g 0) (0))), (0, .ref (Z.2.1 (0)))]) rfl ?_
  exact LP_4 (n + 1) 0 (Nat.zero_le _) (by omega)

set_option maxRecDepth 100000 in
set_option maxHeartbeats 600000 in
theorem c_Mo_metMost (Z : ZT)  (g : St)  (r : Nat → Int32) (hr : g 0 = r) (hk : okR r) : CT yM Z y_Mo_metMost b_Mo_metMost 3 (some (.int)) 2 43 [.ref (Z.2.1 (0))] (g) (QcI yM Z (oI (mosN r (sz r))) (g)) := by
  refine CT.mk "TunnelPeaceModel" (by decide) rfl (Nat.le_of_ble_eq_true rfl) (fun X C => ?_)
  refine x_lv [0] (lv' := [(0, .ref (Z.2.1 (0)))]) rfl ?_
  subst hr
  obtain ⟨⟨n, hn8, hn⟩, dd, hdd, hd⟩ := hk
  refine x_iconst C d_Mo_metMost_0 (v := -1) (by decide) ?_
  refine x_istore_n C d_Mo_metMost_1 rfl (by decide) (lv' := [(1, .int ((-1))), (0, .ref (Z.2.1 (0)))]) rfl ?_
  refine x_iconst C d_Mo_metMost_2 (v := 0) (by decide) ?_
  refine x_topi (show (0 : Int32) = nI 0 by decide) ?_
  refine x_istore_n C d_Mo_metMost_3 rfl (by decide) (lv' := [(2, .int (nI 0)), (1, .int ((-1))), (0, .ref (Z.2.1 (0)))]) rfl ?_
  have LP_4 : ∀ (f_ i : Nat), i ≤ n → n - i < f_ → WX X 3 yM Z (QX X yM Z (QcI yM Z (oI (mosN (g 0) (sz (g 0)))) (g))) (g) 4 [(2, .int (nI i)), (1, .int (oI (mosN (g 0) (i)))), (0, .ref (Z.2.1 (0)))] [] := by
    intro f_
    induction f_ with
    | zero => intro i h1_ h2_; exact absurd h2_ (Nat.not_lt_zero _)
    | succ f_ ih_4 =>
      intro i hi_4 hf_4
      rcases hm : mosN (g 0) i with _ | b
      · refine x_lve (lv' := [(2, .int (nI i)), (1, .int ((-1))), (0, .ref (Z.2.1 (0)))]) rfl ?_
        refine x_iload_n C d_Mo_metMost_4 0 rfl rfl ?_
        refine x_aload_n C d_Mo_metMost_5 2 rfl rfl ?_
        refine gf_Mo_now C k_791 d_Mo_metMost_6 ?_
        refine x_iconst C d_Mo_metMost_9 (v := 1) (by decide) ?_
        refine al_m_now C 1 (v := nI n) (by decide) (by first | omega | (simp only [pI]; omega)) hn d_Mo_metMost_10 ?_
        refine x_icmp_ge C d_Mo_metMost_11 45 (by decide) (fun c_1 => ?_) (fun c_1 => ?_)
        · have nc_1 := Int32.not_lt.mpr c_1
          have mc_1 : n ≤ i := (nI_leI (by omega) (by omega)).mp (show nI n ≤ nI i from c_1)
          have e_i : n = i := by omega
          subst e_i
          refine x_iload_n C d_Mo_metMost_45 1 rfl rfl ?_
          exact x_iret C (by rw [sz_of hn hn8]; first | (rw [hm]; rfl) | rfl) rfl d_Mo_metMost_46
        · have nc_1 := Int32.not_le.mp c_1
          have mc_1 : ¬ n ≤ i := fun z_ => (show ¬ nI n ≤ nI i from c_1) ((nI_leI (by omega) (by omega)).mpr z_)
          refine x_iload_n C d_Mo_metMost_14 1 rfl rfl ?_
          refine x_iflt C d_Mo_metMost_15 33 (by decide) (fun c_2 => ?_) (fun c_2 => ?_)
          · have nc_2 := Int32.not_le.mpr c_2
            refine x_iload_n C d_Mo_metMost_33 0 rfl rfl ?_
            refine x_goto C d_Mo_metMost_34 38 (by decide) ?_
            refine x_istore_n C d_Mo_metMost_38 rfl (by decide) (lv' := [(1, .int (nI i)), (2, .int (nI i)), (0, .ref (Z.2.1 (0)))]) rfl ?_
            refine x_iinc C d_Mo_metMost_39 1 rfl (v := nI (i + 1)) (nI_1 _) (by decide) (lv' := [(2, .int (nI (i + 1))), (1, .int (nI i)), (0, .ref (Z.2.1 (0)))]) rfl ?_
            refine x_goto C d_Mo_metMost_42 4 (by decide) ?_
            refine x_lve (lv' := [(2, .int (nI (i + 1))), (1, .int (oI (mosN (g 0) (i + 1)))), (0, .ref (Z.2.1 (0)))]) (by simp [mosN, hm, oI, *]) ?_
            exact ih_4 (i + 1) (by omega) (by omega)
          · exact absurd c_2 (by decide)
      · have hbi := mosN_lt hm
        refine x_lve (lv' := [(2, .int (nI i)), (1, .int (nI b)), (0, .ref (Z.2.1 (0)))]) rfl ?_
        refine x_iload_n C d_Mo_metMost_4 0 rfl rfl ?_
        refine x_aload_n C d_Mo_metMost_5 2 rfl rfl ?_
        refine gf_Mo_now C k_791 d_Mo_metMost_6 ?_
        refine x_iconst C d_Mo_metMost_9 (v := 1) (by decide) ?_
        refine al_m_now C 1 (v := nI n) (by decide) (by first | omega | (simp only [pI]; omega)) hn d_Mo_metMost_10 ?_
        refine x_icmp_ge C d_Mo_metMost_11 45 (by decide) (fun c_3 => ?_) (fun c_3 => ?_)
        · have nc_3 := Int32.not_lt.mpr c_3
          have mc_3 : n ≤ i := (nI_leI (by omega) (by omega)).mp (show nI n ≤ nI i from c_3)
          have e_i : n = i := by omega
          subst e_i
          refine x_iload_n C d_Mo_metMost_45 1 rfl rfl ?_
          exact x_iret C (by rw [sz_of hn hn8]; first | (rw [hm]; rfl) | rfl) rfl d_Mo_metMost_46
        · have nc_3 := Int32.not_le.mp c_3
          have mc_3 : ¬ n ≤ i := fun z_ => (show ¬ nI n ≤ nI i from c_3) ((nI_leI (by omega) (by omega)).mpr z_)
          refine x_iload_n C d_Mo_metMost_14 1 rfl rfl ?_
          refine x_iflt C d_Mo_metMost_15 33 (by decide) (fun c_4 => ?_) (fun c_4 => ?_)
          · exact absurd c_4 (nI_pos (by omega))
          · have nc_4 := Int32.not_lt.mp c_4
            refine x_aload_n C d_Mo_metMost_18 2 rfl rfl ?_
            refine x_iload_n C d_Mo_metMost_19 0 rfl rfl ?_
            refine x_iconst C d_Mo_metMost_20 (v := 5) (by decide) ?_
            refine x_callVi C (c_Mo_personIs Z i 5 (by omega) (by omega) (g) _ rfl) mi_Mo_personIs k_919 (show 0 < 12 by omega) (m_0 Z _) rfl (As := [.int (nI i), .int (5)]) ⟨Nat.le_of_ble_eq_true rfl, Nat.le_of_ble_eq_true rfl⟩ rfl rfl (Nat.le_of_ble_eq_true rfl) d_Mo_metMost_21 ?_
            refine x_aload_n C d_Mo_metMost_24 2 rfl rfl ?_
            refine x_iload_n C d_Mo_metMost_25 1 rfl rfl ?_
            refine x_iconst C d_Mo_metMost_26 (v := 5) (by decide) ?_
            refine x_callVi C (c_Mo_personIs Z b 5 (by omega) (by omega) (g) _ rfl) mi_Mo_personIs k_919 (show 0 < 12 by omega) (m_0 Z _) rfl (As := [.int (nI b), .int (5)]) ⟨Nat.le_of_ble_eq_true rfl, Nat.le_of_ble_eq_true rfl⟩ rfl rfl (Nat.le_of_ble_eq_true rfl) d_Mo_metMost_27 ?_
            refine x_icmp_le C d_Mo_metMost_30 37 (by decide) (fun c_5 => ?_) (fun c_5 => ?_)
            · have nc_5 := Int32.not_lt.mpr c_5
              refine x_iload_n C d_Mo_metMost_37 1 rfl rfl ?_
              refine x_istore_n C d_Mo_metMost_38 rfl (by decide) (lv' := [(1, .int (nI b)), (2, .int (nI i)), (0, .ref (Z.2.1 (0)))]) rfl ?_
              refine x_iinc C d_Mo_metMost_39 1 rfl (v := nI (i + 1)) (nI_1 _) (by decide) (lv' := [(2, .int (nI (i + 1))), (1, .int (nI b)), (0, .ref (Z.2.1 (0)))]) rfl ?_
              refine x_goto C d_Mo_metMost_42 4 (by decide) ?_
              refine x_lve (lv' := [(2, .int (nI (i + 1))), (1, .int (oI (mosN (g 0) (i + 1)))), (0, .ref (Z.2.1 (0)))]) (by simp [mosN, hm, oI, *]) ?_
              exact ih_4 (i + 1) (by omega) (by omega)
            · have nc_5 := Int32.not_le.mp c_5
              refine x_iload_n C d_Mo_metMost_33 0 rfl rfl ?_
              refine x_goto C d_Mo_metMost_34 38 (by decide) ?_
              refine x_istore_n C d_Mo_metMost_38 rfl (by decide) (lv' := [(1, .int (nI i)), (2, .int (nI i)), (0, .ref (Z.2.1 (0)))]) rfl ?_
              refine x_iinc C d_Mo_metMost_39 1 rfl (v := nI (i + 1)) (nI_1 _) (by decide) (lv' := [(2, .int (nI (i + 1))), (1, .int (nI i)), (0, .ref (Z.2.1 (0)))]) rfl ?_
              refine x_goto C d_Mo_metMost_42 4 (by decide) ?_
              refine x_lve (lv' := [(2, .int (nI (i + 1))), (1, .int (oI (mosN (g 0) (i + 1)))), (0, .ref (Z.2.1 (0)))]) (by simp [mosN, hm, oI, *]) ?_
              exact ih_4 (i + 1) (by omega) (by omega)
  refine x_lve (lv' := [(2, .int (nI 0)), (1, .int (oI (mosN (g 0) (0)))), (0, .ref (Z.2.1 (0)))]) rfl ?_
  exact LP_4 (n + 1) 0 (Nat.zero_le _) (by omega)

set_option maxRecDepth 100000 in
set_option maxHeartbeats 600000 in
theorem c_Mo_now (Z : ZT) (w : Int32) (g : St)  (hk : okR (g 0)) : CT yM Z y_Mo_now b_Mo_now 2 (some (.int)) 4 91 [.ref (Z.2.1 (0)), .int (w)] (g) (QkI yM Z (if w = 0 ∨ w = 1 ∨ w = 2 ∨ w = 3 ∨ w = 4 ∨ w = 5 ∨ w = 6 ∨ w = 7 then nowM (g 0) w else (-1000001)) (fun u => ∃ ρ : Nat → Int32, u = va_up (if w = 0 ∨ w = 1 ∨ w = 2 ∨ w = 3 ∨ w = 4 ∨ w = 5 ∨ w = 6 ∨ w = 7 then g else va_up g 4 (mfnR (g 4) 0)) 2 ρ)) := by
  refine CT.mk "TunnelPeaceModel" (by decide) rfl (Nat.le_of_ble_eq_true rfl) (fun X C => ?_)
  refine x_lv [0, 1] (lv' := [(0, .ref (Z.2.1 (0))), (1, .int (w))]) rfl ?_
  have hk0 := hk
  obtain ⟨⟨n, hn8, hn⟩, dd, hdd, hd⟩ := hk
  refine x_iload_n C d_Mo_now_0 1 rfl rfl ?_
  by_cases c_1 : w = 0
  · refine x_tabAt C d_Mo_now_1 c_1 (by decide) (by decide) (off := 47) (by decide) 48 (by decide) ?_
    refine x_aload_n C d_Mo_now_48 0 rfl rfl ?_
    refine gf_Mo_now C k_791 d_Mo_now_49 ?_
    refine x_iconst C d_Mo_now_52 (v := 0) (by decide) ?_
    refine al_m_now C 0 (v := g 0 0) (by decide) (by first | omega | (simp only [pI]; omega)) rfl d_Mo_now_53 ?_
    exact x_iretK C (by simp [nowM, *]) (kfinM (G' := g) (by first | with_reducible rfl | (simp [*, -hd]; done) | (simp [*]; done) | (simp_all; done)) (va_id g 2).symm) d_Mo_now_54
  by_cases c_2 : w = 1
  · refine x_tabAt C d_Mo_now_1 c_2 (by decide) (by decide) (off := 54) (by decide) 55 (by decide) ?_
    refine x_aload_n C d_Mo_now_55 0 rfl rfl ?_
    refine gf_Mo_now C k_791 d_Mo_now_56 ?_
    refine x_iconst C d_Mo_now_59 (v := 3) (by decide) ?_
    refine al_m_now C 3 (v := g 0 3) (by decide) (by first | omega | (simp only [pI]; omega)) rfl d_Mo_now_60 ?_
    exact x_iretK C (by simp [nowM, *]) (kfinM (G' := g) (by first | with_reducible rfl | (simp [*, -hd]; done) | (simp [*]; done) | (simp_all; done)) (va_id g 2).symm) d_Mo_now_61
  by_cases c_3 : w = 2
  · refine x_tabAt C d_Mo_now_1 c_3 (by decide) (by decide) (off := 61) (by decide) 62 (by decide) ?_
    refine x_aload_n C d_Mo_now_62 0 rfl rfl ?_
    refine x_callVi C (c_Mo_metInAll Z (g) _ rfl hk0) mi_Mo_metInAll k_993 (show 0 < 12 by omega) (m_0 Z _) rfl (As := []) ⟨Nat.le_of_ble_eq_true rfl, Nat.le_of_ble_eq_true rfl⟩ rfl rfl (Nat.le_of_ble_eq_true rfl) d_Mo_now_63 ?_
    exact x_iretK C (by simp [nowM, *]) (kfinM (G' := g) (by first | with_reducible rfl | (simp [*, -hd]; done) | (simp [*]; done) | (simp_all; done)) (va_id g 2).symm) d_Mo_now_66
  by_cases c_4 : w = 3
  · refine x_tabAt C d_Mo_now_1 c_4 (by decide) (by decide) (off := 66) (by decide) 67 (by decide) ?_
    refine x_aload_n C d_Mo_now_67 0 rfl rfl ?_
    refine x_callVi C (c_Mo_strangers Z (g) _ rfl hk0) mi_Mo_strangers k_997 (show 0 < 12 by omega) (m_0 Z _) rfl (As := []) ⟨Nat.le_of_ble_eq_true rfl, Nat.le_of_ble_eq_true rfl⟩ rfl rfl (Nat.le_of_ble_eq_true rfl) d_Mo_now_68 ?_
    exact x_iretK C (by simp [nowM, *]) (kfinM (G' := g) (by first | with_reducible rfl | (simp [*, -hd]; done) | (simp [*]; done) | (simp_all; done)) (va_id g 2).symm) d_Mo_now_71
  by_cases c_5 : w = 4
  · refine x_tabAt C d_Mo_now_1 c_5 (by decide) (by decide) (off := 71) (by decide) 72 (by decide) ?_
    refine x_aload_n C d_Mo_now_72 0 rfl rfl ?_
    refine x_callVi C (c_Mo_subscribers Z (g) _ rfl hk0) mi_Mo_subscribers k_1001 (show 0 < 12 by omega) (m_0 Z _) rfl (As := []) ⟨Nat.le_of_ble_eq_true rfl, Nat.le_of_ble_eq_true rfl⟩ rfl rfl (Nat.le_of_ble_eq_true rfl) d_Mo_now_73 ?_
    exact x_iretK C (by simp [nowM, *]) (kfinM (G' := g) (by first | with_reducible rfl | (simp [*, -hd]; done) | (simp [*]; done) | (simp_all; done)) (va_id g 2).symm) d_Mo_now_76
  by_cases c_6 : w = 5
  · refine x_tabAt C d_Mo_now_1 c_6 (by decide) (by decide) (off := 76) (by decide) 77 (by decide) ?_
    refine x_aload_n C d_Mo_now_77 0 rfl rfl ?_
    refine x_callVi C (c_Mo_cellsOf Z (g) _ rfl hk0) mi_Mo_cellsOf k_1005 (show 0 < 12 by omega) (m_0 Z _) rfl (As := []) ⟨Nat.le_of_ble_eq_true rfl, Nat.le_of_ble_eq_true rfl⟩ rfl rfl (Nat.le_of_ble_eq_true rfl) d_Mo_now_78 ?_
    exact x_iretK C (by simp [nowM, *]) (kfinM (G' := g) (by first | with_reducible rfl | (simp [*, -hd]; done) | (simp [*]; done) | (simp_all; done)) (va_id g 2).symm) d_Mo_now_81
  by_cases c_7 : w = 6
  · refine x_tabAt C d_Mo_now_1 c_7 (by decide) (by decide) (off := 81) (by decide) 82 (by decide) ?_
    refine x_aload_n C d_Mo_now_82 0 rfl rfl ?_
    refine x_callVi C (c_Mo_pairs Z (g) _ rfl hk0) mi_Mo_pairs k_1009 (show 0 < 12 by omega) (m_0 Z _) rfl (As := []) ⟨Nat.le_of_ble_eq_true rfl, Nat.le_of_ble_eq_true rfl⟩ rfl rfl (Nat.le_of_ble_eq_true rfl) d_Mo_now_83 ?_
    exact x_iretK C (by simp [nowM, *]) (kfinM (G' := g) (by first | with_reducible rfl | (simp [*, -hd]; done) | (simp [*]; done) | (simp_all; done)) (va_id g 2).symm) d_Mo_now_86
  by_cases c_8 : w = 7
  · refine x_tabAt C d_Mo_now_1 c_8 (by decide) (by decide) (off := 86) (by decide) 87 (by decide) ?_
    refine x_aload_n C d_Mo_now_87 0 rfl rfl ?_
    refine x_callVi C (c_Mo_metMost Z (g) _ rfl hk0) mi_Mo_metMost k_1013 (show 0 < 12 by omega) (m_0 Z _) rfl (As := []) ⟨Nat.le_of_ble_eq_true rfl, Nat.le_of_ble_eq_true rfl⟩ rfl rfl (Nat.le_of_ble_eq_true rfl) d_Mo_now_88 ?_
    exact x_iretK C (by simp [nowM, *]) (kfinM (G' := g) (by first | with_reducible rfl | (simp [*, -hd]; done) | (simp [*]; done) | (simp_all; done)) (va_id g 2).symm) d_Mo_now_91
  · have ic_1 := i32_ne c_1 (z := 0) (by decide)
    have ic_2 := i32_ne c_2 (z := 1) (by decide)
    have ic_3 := i32_ne c_3 (z := 2) (by decide)
    have ic_4 := i32_ne c_4 (z := 3) (by decide)
    have ic_5 := i32_ne c_5 (z := 4) (by decide)
    have ic_6 := i32_ne c_6 (z := 5) (by decide)
    have ic_7 := i32_ne c_7 (z := 6) (by decide)
    have ic_8 := i32_ne c_8 (z := 7) (by decide)
    refine x_tabOut C d_Mo_now_1 (by omega) 92 (by decide) ?_
    refine x_aload_n C d_Mo_now_92 0 rfl rfl ?_
    refine x_ldc C d_Mo_now_93 k_866 ?_
    refine x_callVi C (c_Mo_finding_0 Z (g) _ rfl) mi_Mo_finding k_867 (show 0 < 12 by omega) (m_0 Z _) rfl (As := [.int ((-1000001))]) ⟨Nat.le_of_ble_eq_true rfl, Nat.le_of_ble_eq_true rfl⟩ rfl rfl (Nat.le_of_ble_eq_true rfl) d_Mo_now_95 ?_
    exact x_iretK C (by simp [nowM, *]) (kfinM (G' := va_up g 4 (mfnR (g 4) 0)) (by first | with_reducible rfl | (simp [*, -hd]; done) | (simp [*]; done) | (simp_all; done)) (va_idn (by omega)).symm) d_Mo_now_98

set_option maxRecDepth 100000 in
set_option maxHeartbeats 600000 in
theorem c_Mo_who (Z : ZT) (c : Int32) (g : St)  (hk : okR (g 0)) : CT yM Z y_Mo_who b_Mo_who 4 (some (.int)) 2 43 [.ref (Z.2.1 (0)), .int (c)] (g) (QkI yM Z (if (0 ≤ c ∧ c ≤ 15) then patN c (g 0) (sz (g 0)) else (-1000001)) (fun u => ∃ ρ : Nat → Int32, u = va_up (if (0 ≤ c ∧ c ≤ 15) then g else va_up g 4 (mfnR (g 4) 0)) 2 ρ)) := by
  refine CT.mk "TunnelPeaceModel" (by decide) rfl (Nat.le_of_ble_eq_true rfl) (fun X C => ?_)
  refine x_lv [0, 1] (lv' := [(0, .ref (Z.2.1 (0))), (1, .int (c))]) rfl ?_
  have hk0 := hk
  obtain ⟨⟨n, hn8, hn⟩, dd, hdd, hd⟩ := hk
  refine x_iload_n C d_Mo_who_0 1 rfl rfl ?_
  refine x_callSi C (c_Mo_isCell Z c (g)) mi_Mo_isCell k_878 (As := [.int (c)]) ⟨Nat.le_of_ble_eq_true rfl, Nat.le_of_ble_eq_true rfl⟩ rfl rfl (Nat.le_of_ble_eq_true rfl) d_Mo_who_1 ?_
  refine x_ifneB C d_Mo_who_4 14 (by decide) (fun c_1 => ?_) (fun c_1 => ?_)
  · refine x_iconst C d_Mo_who_14 (v := 0) (by decide) ?_
    refine x_istore_n C d_Mo_who_15 rfl (by decide) (lv' := [(2, .int (0)), (0, .ref (Z.2.1 (0))), (1, .int (c))]) rfl ?_
    refine x_iconst C d_Mo_who_16 (v := 0) (by decide) ?_
    refine x_topi (show (0 : Int32) = nI 0 by decide) ?_
    refine x_istore_n C d_Mo_who_17 rfl (by decide) (lv' := [(3, .int (nI 0)), (2, .int (0)), (0, .ref (Z.2.1 (0))), (1, .int (c))]) rfl ?_
    have LP_18 : ∀ (f_ i : Nat), i ≤ n → n - i < f_ → WX X 4 yM Z (QX X yM Z (QkI yM Z (if (0 ≤ c ∧ c ≤ 15) then patN c (g 0) (sz (g 0)) else (-1000001)) (fun u => ∃ ρ : Nat → Int32, u = va_up (if (0 ≤ c ∧ c ≤ 15) then g else va_up g 4 (mfnR (g 4) 0)) 2 ρ))) (g) 18 [(3, .int (nI i)), (2, .int (patN c (g 0) (i))), (0, .ref (Z.2.1 (0))), (1, .int (c))] [] := by
      intro f_
      induction f_ with
      | zero => intro i h1_ h2_; exact absurd h2_ (Nat.not_lt_zero _)
      | succ f_ ih_18 =>
        intro i hi_18 hf_18
        refine x_iload_n C d_Mo_who_18 0 rfl rfl ?_
        refine x_aload_n C d_Mo_who_19 2 rfl rfl ?_
        refine gf_Mo_now C k_791 d_Mo_who_20 ?_
        refine x_iconst C d_Mo_who_23 (v := 1) (by decide) ?_
        refine al_m_now C 1 (v := nI n) (by decide) (by first | omega | (simp only [pI]; omega)) hn d_Mo_who_24 ?_
        refine x_icmp_ge C d_Mo_who_25 54 (by decide) (fun c_2 => ?_) (fun c_2 => ?_)
        · have nc_2 := Int32.not_lt.mpr c_2
          have mc_2 : n ≤ i := (nI_leI (by omega) (by omega)).mp (show nI n ≤ nI i from c_2)
          have e_i : n = i := by omega
          subst e_i
          refine x_iload_n C d_Mo_who_54 1 rfl rfl ?_
          exact x_iretK C (by first | (simp [sz_of hn hn8, *]; done) | (simp [*]; done)) (kfinM (G' := g) (by first | with_reducible rfl | (simp [*, -hd]; done) | (simp [*]; done) | (simp_all; done)) (va_id g 2).symm) d_Mo_who_55
        · have nc_2 := Int32.not_le.mp c_2
          have mc_2 : ¬ n ≤ i := fun z_ => (show ¬ nI n ≤ nI i from c_2) ((nI_leI (by omega) (by omega)).mpr z_)
          refine x_iload_n C d_Mo_who_28 1 rfl rfl ?_
          refine x_aload_n C d_Mo_who_29 2 rfl rfl ?_
          refine x_iload_n C d_Mo_who_30 0 rfl rfl ?_
          refine x_iconst C d_Mo_who_31 (v := 2) (by decide) ?_
          refine x_callVi C (c_Mo_personIs Z i 2 (by omega) (by omega) (g) _ rfl) mi_Mo_personIs k_919 (show 0 < 12 by omega) (m_0 Z _) rfl (As := [.int (nI i), .int (2)]) ⟨Nat.le_of_ble_eq_true rfl, Nat.le_of_ble_eq_true rfl⟩ rfl rfl (Nat.le_of_ble_eq_true rfl) d_Mo_who_32 ?_
          refine x_iload_n C d_Mo_who_35 3 rfl rfl ?_
          refine x_icmp_ne C d_Mo_who_36 45 (by decide) (fun c_3 => ?_) (fun c_3 => ?_)
          · have nc_3 := Ne.symm c_3
            refine x_iconst C d_Mo_who_45 (v := 0) (by decide) ?_
            refine x_ior C d_Mo_who_46 ?_
            refine x_istore_n C d_Mo_who_47 rfl (by decide) (lv' := [(2, .int ((patN c (g 0) (i)) ||| 0)), (3, .int (nI i)), (0, .ref (Z.2.1 (0))), (1, .int (c))]) rfl ?_
            refine x_iinc C d_Mo_who_48 1 rfl (v := nI (i + 1)) (nI_1 _) (by decide) (lv' := [(3, .int (nI (i + 1))), (2, .int ((patN c (g 0) (i)) ||| 0)), (0, .ref (Z.2.1 (0))), (1, .int (c))]) rfl ?_
            refine x_goto C d_Mo_who_51 18 (by decide) ?_
            refine x_lve (lv' := [(3, .int (nI (i + 1))), (2, .int (patN c (g 0) (i + 1))), (0, .ref (Z.2.1 (0))), (1, .int (c))]) (by first | with_reducible rfl | simp [patN, bit, *]) ?_
            exact ih_18 (i + 1) (by omega) (by omega)
          · refine x_iconst C d_Mo_who_39 (v := 1) (by decide) ?_
            refine x_iload_n C d_Mo_who_40 0 rfl rfl ?_
            refine x_ishl C d_Mo_who_41 ?_
            refine x_goto C d_Mo_who_42 46 (by decide) ?_
            refine x_ior C d_Mo_who_46 ?_
            refine x_istore_n C d_Mo_who_47 rfl (by decide) (lv' := [(2, .int ((patN c (g 0) (i)) ||| (1 <<< ((nI i) &&& 31)))), (3, .int (nI i)), (0, .ref (Z.2.1 (0))), (1, .int (c))]) rfl ?_
            refine x_iinc C d_Mo_who_48 1 rfl (v := nI (i + 1)) (nI_1 _) (by decide) (lv' := [(3, .int (nI (i + 1))), (2, .int ((patN c (g 0) (i)) ||| (1 <<< ((nI i) &&& 31)))), (0, .ref (Z.2.1 (0))), (1, .int (c))]) rfl ?_
            refine x_goto C d_Mo_who_51 18 (by decide) ?_
            refine x_lve (lv' := [(3, .int (nI (i + 1))), (2, .int (patN c (g 0) (i + 1))), (0, .ref (Z.2.1 (0))), (1, .int (c))]) (by first | with_reducible rfl | simp [patN, bit, *]) ?_
            exact ih_18 (i + 1) (by omega) (by omega)
    refine x_lve (lv' := [(3, .int (nI 0)), (2, .int (patN c (g 0) (0))), (0, .ref (Z.2.1 (0))), (1, .int (c))]) rfl ?_
    exact LP_18 (n + 1) 0 (Nat.zero_le _) (by omega)
  · refine x_aload_n C d_Mo_who_7 0 rfl rfl ?_
    refine x_ldc C d_Mo_who_8 k_866 ?_
    refine x_callVi C (c_Mo_finding_0 Z (g) _ rfl) mi_Mo_finding k_867 (show 0 < 12 by omega) (m_0 Z _) rfl (As := [.int ((-1000001))]) ⟨Nat.le_of_ble_eq_true rfl, Nat.le_of_ble_eq_true rfl⟩ rfl rfl (Nat.le_of_ble_eq_true rfl) d_Mo_who_10 ?_
    exact x_iretK C (by first | (simp [sz_of hn hn8, *]; done) | (simp [*]; done)) (kfinM (G' := va_up g 4 (mfnR (g 4) 0)) (by first | with_reducible rfl | (simp [*, -hd]; done) | (simp [*]; done) | (simp_all; done)) (va_idn (by omega)).symm) d_Mo_who_13

set_option maxRecDepth 100000 in
set_option maxHeartbeats 600000 in
theorem c_Mo_daysGo (Z : ZT) (m : Nat) (hm : m < 2 ^ 31) (g : St)  (r : Nat → Int32) (hr : g 0 = r) (hk : okR r) : CT yM Z y_Mo_daysGo b_Mo_daysGo 3 none 5 112 [.ref (Z.2.1 (0)), .int (nI m)] (g) (QcV yM Z (va_up g 0 (dysM r m))) := by
  refine CT.mk "TunnelPeaceModel" (by decide) rfl (Nat.le_of_ble_eq_true rfl) (fun X C => ?_)
  refine x_lv [0, 1] (lv' := [(0, .ref (Z.2.1 (0))), (1, .int (nI m))]) rfl ?_
  subst hr
  refine x_iconst C d_Mo_daysGo_0 (v := 0) (by decide) ?_
  refine x_topi (show (0 : Int32) = nI 0 by decide) ?_
  refine x_istore_n C d_Mo_daysGo_1 rfl (by decide) (lv' := [(2, .int (nI 0)), (0, .ref (Z.2.1 (0))), (1, .int (nI m))]) rfl ?_
  have LP_2 : ∀ (f_ i : Nat), i ≤ m → m - i < f_ → WX X 3 yM Z (QX X yM Z (QcV yM Z (va_up g 0 (dysM (g 0) m)))) (va_up g 0 (dysM (g 0) (i))) 2 [(2, .int (nI i)), (1, .int (nI m)), (0, .ref (Z.2.1 (0)))] [] := by
    intro f_
    induction f_ with
    | zero => intro i h1_ h2_; exact absurd h2_ (Nat.not_lt_zero _)
    | succ f_ ih_2 =>
      intro i hi_2 hf_2
      refine x_iload_n C d_Mo_daysGo_2 0 rfl rfl ?_
      refine x_iload_n C d_Mo_daysGo_3 1 rfl rfl ?_
      refine x_icmp_ge C d_Mo_daysGo_4 17 (by decide) (fun c_1 => ?_) (fun c_1 => ?_)
      · have nc_1 := Int32.not_lt.mpr c_1
        have mc_1 : m ≤ i := (nI_leI (by omega) (by omega)).mp (show nI m ≤ nI i from c_1)
        have e_i : m = i := by omega
        subst e_i
        exact x_vret C (by simp_all) d_Mo_daysGo_17
      · have nc_1 := Int32.not_le.mp c_1
        have mc_1 : ¬ m ≤ i := fun z_ => (show ¬ nI m ≤ nI i from c_1) ((nI_leI (by omega) (by omega)).mpr z_)
        refine x_aload_n C d_Mo_daysGo_7 2 rfl rfl ?_
        refine x_callVv C (c_Mo_day Z (va_up g 0 (dysM (g 0) (i))) _ (va_up_self _ _ _) (okR_dysM hk _)) mi_Mo_day k_965 (show 0 < 12 by omega) (m_0 Z _) rfl (As := []) ⟨Nat.le_of_ble_eq_true rfl, Nat.le_of_ble_eq_true rfl⟩ rfl rfl (Nat.le_of_ble_eq_true rfl) d_Mo_daysGo_8 ?_
        refine x_eqg (g' := va_up g 0 (dayM (dysM (g 0) (i)))) (bx_uu _ _ _ _) ?_
        refine x_iinc C d_Mo_daysGo_11 0 rfl (v := nI (i + 1)) (nI_1 _) (by decide) (lv' := [(2, .int (nI (i + 1))), (1, .int (nI m)), (0, .ref (Z.2.1 (0)))]) rfl ?_
        refine x_goto C d_Mo_daysGo_14 2 (by decide) ?_
        refine x_eqg (g' := va_up g 0 (dysM (g 0) (i + 1))) rfl ?_
        exact ih_2 (i + 1) (by omega) (by omega)
  refine x_lv [0, 2, 1] (lv' := [(2, .int (nI 0)), (1, .int (nI m)), (0, .ref (Z.2.1 (0)))]) rfl ?_
  refine x_eqg (g' := va_up g 0 (dysM (g 0) (0))) (va_id g 0).symm ?_
  exact LP_2 (m + 1) 0 (Nat.zero_le _) (by omega)

set_option maxRecDepth 100000 in
set_option maxHeartbeats 600000 in
theorem c_Mo_go (Z : ZT) (m : Int32) (g : St)  (hk : okR (g 0)) : CT yM Z y_Mo_go b_Mo_go 2 (some (.int)) 6 134 [.ref (Z.2.1 (0)), .int (m)] (g) (QkI yM Z (if ¬ (1 ≤ m ∧ m ≤ 60) then (-1000001) else if 99999 < g 0 0 + m then (-1000005) else dysM (g 0) m.toNatClampNeg 3) (fun u => ∃ ρ : Nat → Int32, u = va_up (if ¬ (1 ≤ m ∧ m ≤ 60) then va_up g 4 (mfnR (g 4) 0) else if 99999 < g 0 0 + m then va_up g 4 (mfnR (g 4) 4) else va_up g 0 (dysM (g 0) m.toNatClampNeg)) 2 ρ)) := by
  refine CT.mk "TunnelPeaceModel" (by decide) rfl (Nat.le_of_ble_eq_true rfl) (fun X C => ?_)
  refine x_lv [0, 1] (lv' := [(0, .ref (Z.2.1 (0))), (1, .int (m))]) rfl ?_
  have hk0 := hk
  obtain ⟨⟨n, hn8, hn⟩, dd, hdd, hd⟩ := hk
  refine x_iload_n C d_Mo_go_0 1 rfl rfl ?_
  refine x_iconst C d_Mo_go_1 (v := 1) (by decide) ?_
  refine x_bipush C d_Mo_go_2 (v := 60) (by decide) ?_
  refine x_callSi C (c_Mo_within Z m 1 60 (g)) mi_Mo_within k_859 (As := [.int (m), .int (1), .int (60)]) ⟨Nat.le_of_ble_eq_true rfl, Nat.le_of_ble_eq_true rfl⟩ rfl rfl (Nat.le_of_ble_eq_true rfl) d_Mo_go_4 ?_
  refine x_ifneB C d_Mo_go_7 17 (by decide) (fun c_1 => ?_) (fun c_1 => ?_)
  · obtain ⟨mq, hmq, rfl⟩ := in_1le (n := 60) c_1 (by decide)
    have hcm : (nI mq).toNatClampNeg = mq := nI_clamp (by omega)
    refine x_aload_n C d_Mo_go_17 0 rfl rfl ?_
    refine gf_Mo_now C k_791 d_Mo_go_18 ?_
    refine x_iconst C d_Mo_go_21 (v := 0) (by decide) ?_
    refine al_m_now C 0 (v := g 0 0) (by decide) (by first | omega | (simp only [pI]; omega)) rfl d_Mo_go_22 ?_
    refine x_iload_n C d_Mo_go_23 1 rfl rfl ?_
    refine x_iadd C d_Mo_go_24 ?_
    refine x_ldc C d_Mo_go_25 k_959 ?_
    refine x_icmp_le C d_Mo_go_27 37 (by decide) (fun c_2 => ?_) (fun c_2 => ?_)
    · have nc_2 := Int32.not_lt.mpr c_2
      refine x_aload_n C d_Mo_go_37 0 rfl rfl ?_
      refine x_iload_n C d_Mo_go_38 1 rfl rfl ?_
      refine x_callVv C (c_Mo_daysGo Z mq (by omega) (g) _ rfl hk0) mi_Mo_daysGo k_961 (show 0 < 12 by omega) (m_0 Z _) rfl (As := [.int (nI mq)]) ⟨Nat.le_of_ble_eq_true rfl, Nat.le_of_ble_eq_true rfl⟩ rfl rfl (Nat.le_of_ble_eq_true rfl) d_Mo_go_39 ?_
      refine x_aload_n C d_Mo_go_42 0 rfl rfl ?_
      refine gf_Mo_now C k_791 d_Mo_go_43 ?_
      refine x_iconst C d_Mo_go_46 (v := 3) (by decide) ?_
      refine al_m_now C 3 (v := (dysM (g 0) mq) 3) (by decide) (by first | omega | (simp only [pI]; omega)) (congrFun (va_up_self _ _ _) _) d_Mo_go_47 ?_
      exact x_iretK C (by first | with_reducible rfl | (simp [*, -hd]; done) | (simp [*]; done) | (simp_all; done)) (kfinM (G' := va_up g 0 (dysM (g 0) mq)) (by first | with_reducible rfl | (simp [*, -hd]; done) | (simp [*]; done) | (simp_all; done)) (va_idn (by omega)).symm) d_Mo_go_48
    · have nc_2 := Int32.not_le.mp c_2
      refine x_aload_n C d_Mo_go_30 0 rfl rfl ?_
      refine x_ldc C d_Mo_go_31 k_960 ?_
      refine x_callVi C (c_Mo_finding_4 Z (g) _ rfl) mi_Mo_finding k_867 (show 0 < 12 by omega) (m_0 Z _) rfl (As := [.int ((-1000005))]) ⟨Nat.le_of_ble_eq_true rfl, Nat.le_of_ble_eq_true rfl⟩ rfl rfl (Nat.le_of_ble_eq_true rfl) d_Mo_go_33 ?_
      exact x_iretK C (by first | with_reducible rfl | (simp [*, -hd]; done) | (simp [*]; done) | (simp_all; done)) (kfinM (G' := va_up g 4 (mfnR (g 4) 4)) (by first | with_reducible rfl | (simp [*, -hd]; done) | (simp [*]; done) | (simp_all; done)) (va_idn (by omega)).symm) d_Mo_go_36
  · refine x_aload_n C d_Mo_go_10 0 rfl rfl ?_
    refine x_ldc C d_Mo_go_11 k_866 ?_
    refine x_callVi C (c_Mo_finding_0 Z (g) _ rfl) mi_Mo_finding k_867 (show 0 < 12 by omega) (m_0 Z _) rfl (As := [.int ((-1000001))]) ⟨Nat.le_of_ble_eq_true rfl, Nat.le_of_ble_eq_true rfl⟩ rfl rfl (Nat.le_of_ble_eq_true rfl) d_Mo_go_13 ?_
    exact x_iretK C (by first | with_reducible rfl | (simp [*, -hd]; done) | (simp [*]; done) | (simp_all; done)) (kfinM (G' := va_up g 4 (mfnR (g 4) 0)) (by first | with_reducible rfl | (simp [*, -hd]; done) | (simp [*]; done) | (simp_all; done)) (va_idn (by omega)).symm) d_Mo_go_16

set_option maxRecDepth 100000 in
set_option maxHeartbeats 600000 in
theorem c_Mo_putBack (Z : ZT) (v : Int32) (g : St)  (ra rb : Nat → Int32) (ha : g 2 = ra) (hb : g 0 = rb) : CT yM Z y_Mo_putBack b_Mo_putBack 2 (some (.int)) 1 22 [.ref (Z.2.1 (0)), .int (v)] (g) (QcI yM Z (v) (va_up g 0 (c68 ra rb))) := by
  refine CT.mk "TunnelPeaceModel" (by decide) rfl (Nat.le_of_ble_eq_true rfl) (fun X C => ?_)
  refine x_lv [0, 1] (lv' := [(0, .ref (Z.2.1 (0))), (1, .int (v))]) rfl ?_
  subst ha
  subst hb
  refine x_aload_n C d_Mo_putBack_0 0 rfl rfl ?_
  refine gf_Mo_aside C k_793 d_Mo_putBack_1 ?_
  refine x_aload_n C d_Mo_putBack_4 0 rfl rfl ?_
  refine gf_Mo_now C k_791 d_Mo_putBack_5 ?_
  refine x_callSv C (c_Mo_copyRow_20 Z (g) _ _ rfl rfl) mi_Mo_copyRow k_1021 (As := [.ref (Z.2.1 (3)), .ref (Z.2.1 (1))]) ⟨Nat.le_of_ble_eq_true rfl, Nat.le_of_ble_eq_true rfl⟩ rfl rfl (Nat.le_of_ble_eq_true rfl) d_Mo_putBack_8 ?_
  refine x_iload_n C d_Mo_putBack_11 1 rfl rfl ?_
  exact x_iret C rfl rfl d_Mo_putBack_12

set_option maxRecDepth 100000 in
set_option maxHeartbeats 600000 in
theorem c_Mo_behind (Z : ZT) (k m : Nat) (hk6 : k < 68) (hm : m < 2 ^ 31) (g : St)  (r : Nat → Int32) (hr : g 0 = r) (hk : okR r) : CT yM Z y_Mo_behind b_Mo_behind 3 (some (.int)) 6 134 [.ref (Z.2.1 (0)), .int (nI k), .int (nI m)] (g) (QkI yM Z (dysM r m k) (fun u => ∃ ρ : Nat → Int32, u = va_up g 2 ρ)) := by
  refine CT.mk "TunnelPeaceModel" (by decide) rfl (Nat.le_of_ble_eq_true rfl) (fun X C => ?_)
  refine x_lv [0, 1, 2] (lv' := [(0, .ref (Z.2.1 (0))), (1, .int (nI k)), (2, .int (nI m))]) rfl ?_
  subst hr
  have hk0 := hk
  obtain ⟨⟨n, hn8, hn⟩, dd, hdd, hd⟩ := hk
  refine x_aload_n C d_Mo_behind_0 0 rfl rfl ?_
  refine gf_Mo_now C k_791 d_Mo_behind_1 ?_
  refine x_aload_n C d_Mo_behind_4 0 rfl rfl ?_
  refine gf_Mo_aside C k_793 d_Mo_behind_5 ?_
  refine x_callSv C (c_Mo_copyRow_02 Z (g) _ _ rfl rfl) mi_Mo_copyRow k_1021 (As := [.ref (Z.2.1 (1)), .ref (Z.2.1 (3))]) ⟨Nat.le_of_ble_eq_true rfl, Nat.le_of_ble_eq_true rfl⟩ rfl rfl (Nat.le_of_ble_eq_true rfl) d_Mo_behind_8 ?_
  refine x_aload_n C d_Mo_behind_11 0 rfl rfl ?_
  refine x_iload_n C d_Mo_behind_12 2 rfl rfl ?_
  refine x_callVv C (c_Mo_daysGo Z m (by omega) (va_up g 2 (c68 (g 0) (g 2))) _ (va_up_ne _ _ (by omega)) hk0) mi_Mo_daysGo k_961 (show 0 < 12 by omega) (m_0 Z _) rfl (As := [.int (nI m)]) ⟨Nat.le_of_ble_eq_true rfl, Nat.le_of_ble_eq_true rfl⟩ rfl rfl (Nat.le_of_ble_eq_true rfl) d_Mo_behind_13 ?_
  refine x_aload_n C d_Mo_behind_16 0 rfl rfl ?_
  refine x_aload_n C d_Mo_behind_17 0 rfl rfl ?_
  refine gf_Mo_now C k_791 d_Mo_behind_18 ?_
  refine x_iload_n C d_Mo_behind_21 1 rfl rfl ?_
  refine al_m_now C k (v := (dysM (g 0) m) k) rfl (by first | omega | (simp only [pI]; omega)) (congrFun (va_up_self _ _ _) _) d_Mo_behind_22 ?_
  refine x_callVi C (c_Mo_putBack Z ((dysM (g 0) m) k) (va_up (va_up g 2 (c68 (g 0) (g 2))) 0 (dysM (g 0) m)) _ _ (Eq.trans (va_up_ne _ _ (by omega)) (va_up_self _ _ _)) (va_up_self _ _ _)) mi_Mo_putBack k_1024 (show 0 < 12 by omega) (m_0 Z _) rfl (As := [.int ((dysM (g 0) m) k)]) ⟨Nat.le_of_ble_eq_true rfl, Nat.le_of_ble_eq_true rfl⟩ rfl rfl (Nat.le_of_ble_eq_true rfl) d_Mo_behind_23 ?_
  refine x_eqg (g' := va_up (va_up g 2 (c68 (g 0) (g 2))) 0 (c68 (c68 (g 0) (g 2)) (dysM (g 0) m))) (bx_uu _ _ _ _) ?_
  exact x_iretK C (by simp_all) ⟨_, by rw [back_id (fun j hj => dysM_hi hk0 hj)]; exact va_idn (by decide)⟩ d_Mo_behind_26

set_option maxRecDepth 100000 in
set_option maxHeartbeats 600000 in
theorem c_Mo_noise (Z : ZT) (m : Int32) (g : St)  (hk : okR (g 0)) : CT yM Z y_Mo_noise b_Mo_noise 2 (some (.int)) 7 156 [.ref (Z.2.1 (0)), .int (m)] (g) (QkI yM Z (if (0 ≤ m ∧ m ≤ 100) then dysM (g 0) m.toNatClampNeg 3 else (-1000001)) (fun u => ∃ ρ : Nat → Int32, u = va_up (if (0 ≤ m ∧ m ≤ 100) then g else va_up g 4 (mfnR (g 4) 0)) 2 ρ)) := by
  refine CT.mk "TunnelPeaceModel" (by decide) rfl (Nat.le_of_ble_eq_true rfl) (fun X C => ?_)
  refine x_lv [0, 1] (lv' := [(0, .ref (Z.2.1 (0))), (1, .int (m))]) rfl ?_
  have hk0 := hk
  obtain ⟨⟨n, hn8, hn⟩, dd, hdd, hd⟩ := hk
  refine x_iload_n C d_Mo_noise_0 1 rfl rfl ?_
  refine x_iconst C d_Mo_noise_1 (v := 0) (by decide) ?_
  refine x_bipush C d_Mo_noise_2 (v := 100) (by decide) ?_
  refine x_callSi C (c_Mo_within Z m 0 100 (g)) mi_Mo_within k_859 (As := [.int (m), .int (0), .int (100)]) ⟨Nat.le_of_ble_eq_true rfl, Nat.le_of_ble_eq_true rfl⟩ rfl rfl (Nat.le_of_ble_eq_true rfl) d_Mo_noise_4 ?_
  refine x_ifeqB C d_Mo_noise_7 19 (by decide) (fun c_1 => ?_) (fun c_1 => ?_)
  · refine x_aload_n C d_Mo_noise_19 0 rfl rfl ?_
    refine x_ldc C d_Mo_noise_20 k_866 ?_
    refine x_callVi C (c_Mo_finding_0 Z (g) _ rfl) mi_Mo_finding k_867 (show 0 < 12 by omega) (m_0 Z _) rfl (As := [.int ((-1000001))]) ⟨Nat.le_of_ble_eq_true rfl, Nat.le_of_ble_eq_true rfl⟩ rfl rfl (Nat.le_of_ble_eq_true rfl) d_Mo_noise_22 ?_
    exact x_iretK C (by first | with_reducible rfl | (simp [*, -hd]; done) | (simp [*]; done) | (simp_all; done)) (kfinM (G' := va_up g 4 (mfnR (g 4) 0)) (by first | with_reducible rfl | (simp [*, -hd]; done) | (simp [*]; done) | (simp_all; done)) (va_idn (by omega)).symm) d_Mo_noise_25
  · obtain ⟨mq, hmq, rfl⟩ := in_le (n := 100) c_1 (by decide)
    have hcm : (nI mq).toNatClampNeg = mq := nI_clamp (by omega)
    refine x_aload_n C d_Mo_noise_10 0 rfl rfl ?_
    refine x_iconst C d_Mo_noise_11 (v := 3) (by decide) ?_
    refine x_iload_n C d_Mo_noise_12 1 rfl rfl ?_
    refine x_callVki C (c_Mo_behind Z 3 mq (by first | omega | (simp only [pI]; omega)) (by omega) (g) _ rfl hk0) mi_Mo_behind k_1032 (show 0 < 12 by omega) (m_0 Z _) rfl (As := [.int (3), .int (nI mq)]) ⟨Nat.le_of_ble_eq_true rfl, Nat.le_of_ble_eq_true rfl⟩ rfl rfl (Nat.le_of_ble_eq_true rfl) d_Mo_noise_13 (fun u_ hu_ => ?_)
    obtain ⟨ρ_2, rfl⟩ := hu_
    refine x_goto C d_Mo_noise_16 25 (by decide) ?_
    exact x_iretK C (by first | with_reducible rfl | (simp [*, -hd]; done) | (simp [*]; done) | (simp_all; done)) (kfinM (G' := g) (by first | with_reducible rfl | (simp [*, -hd]; done) | (simp [*]; done) | (simp_all; done)) rfl) d_Mo_noise_25

theorem in_23 {x : Int32} (h : 2 ≤ x ∧ x ≤ 3) : ∃ j, (2 ≤ j ∧ j ≤ 3) ∧ x = nI j := by
  have h0 : 0 ≤ x := Int32.le_trans (by decide) h.1
  obtain ⟨j, hj, rfl⟩ := nI_of2 (n := 3) (by decide) (Int32.not_lt.mpr h0) h.2
  refine ⟨j, ⟨?_, hj⟩, rfl⟩
  exact (nI_leI (a := 2) (by decide) (by omega)).mp h.1

set_option maxRecDepth 100000 in
set_option maxHeartbeats 600000 in
theorem c_Mo_ahead (Z : ZT) (p w m : Int32) (g : St)  (hk : okR (g 0)) : CT yM Z y_Mo_ahead b_Mo_ahead 5 (some (.int)) 6 134 [.ref (Z.2.1 (0)), .int (p), .int (w), .int (m)] (g) (QkI yM Z (if (0 ≤ p ∧ p < g 0 1) ∧ ((2 ≤ w ∧ w ≤ 3) ∨ w = 5 ∨ w = 7) ∧ (0 ≤ m ∧ m ≤ 100) then tld (dysM (g 0) m.toNatClampNeg) p.toNatClampNeg w.toNatClampNeg else (-1000001)) (fun u => ∃ ρ : Nat → Int32, u = va_up (if (0 ≤ p ∧ p < g 0 1) ∧ ((2 ≤ w ∧ w ≤ 3) ∨ w = 5 ∨ w = 7) ∧ (0 ≤ m ∧ m ≤ 100) then g else va_up g 4 (mfnR (g 4) 0)) 2 ρ)) := by
  refine CT.mk "TunnelPeaceModel" (by decide) rfl (Nat.le_of_ble_eq_true rfl) (fun X C => ?_)
  refine x_lv [0, 1, 2, 3] (lv' := [(0, .ref (Z.2.1 (0))), (1, .int (p)), (2, .int (w)), (3, .int (m))]) rfl ?_
  have hk0 := hk
  obtain ⟨⟨n, hn8, hn⟩, dd, hdd, hd⟩ := hk
  refine x_iload_n C d_Mo_ahead_0 2 rfl rfl ?_
  refine x_iconst C d_Mo_ahead_1 (v := 2) (by decide) ?_
  refine x_iconst C d_Mo_ahead_2 (v := 3) (by decide) ?_
  refine x_callSi C (c_Mo_within Z w 2 3 (g)) mi_Mo_within k_859 (As := [.int (w), .int (2), .int (3)]) ⟨Nat.le_of_ble_eq_true rfl, Nat.le_of_ble_eq_true rfl⟩ rfl rfl (Nat.le_of_ble_eq_true rfl) d_Mo_ahead_3 ?_
  refine x_ifneB C d_Mo_ahead_6 20 (by decide) (fun c_1 => ?_) (fun c_1 => ?_)
  · obtain ⟨wq, hwq, rfl⟩ : ∃ j, j < 10 ∧ w = nI j := by first | exact ⟨5, by decide, by assumption⟩ | exact ⟨7, by decide, by assumption⟩ | (obtain ⟨j, hj, e⟩ := in_23 (by assumption : 2 ≤ w ∧ w ≤ 3); exact ⟨j, by omega, e⟩)
    have hcw : (nI wq).toNatClampNeg = wq := nI_clamp (by omega)
    refine x_iconst C d_Mo_ahead_20 (v := 1) (by decide) ?_
    refine x_goto C d_Mo_ahead_21 25 (by decide) ?_
    refine x_istore C d_Mo_ahead_25 (by decide) (lv' := [(4, .int (1)), (0, .ref (Z.2.1 (0))), (1, .int (p)), (2, .int (nI wq)), (3, .int (m))]) rfl ?_
    refine x_aload_n C d_Mo_ahead_27 1 rfl rfl ?_
    refine x_iload_n C d_Mo_ahead_28 2 rfl rfl ?_
    refine x_callVi C (c_Mo_isPerson Z p n (by omega) (g) hn) mi_Mo_isPerson k_907 (show 0 < 12 by omega) (m_0 Z _) rfl (As := [.int (p)]) ⟨Nat.le_of_ble_eq_true rfl, Nat.le_of_ble_eq_true rfl⟩ rfl rfl (Nat.le_of_ble_eq_true rfl) d_Mo_ahead_29 ?_
    refine x_ifeqB C d_Mo_ahead_32 50 (by decide) (fun c_2 => ?_) (fun c_2 => ?_)
    · refine x_aload_n C d_Mo_ahead_50 1 rfl rfl ?_
      refine x_ldc C d_Mo_ahead_51 k_866 ?_
      refine x_callVi C (c_Mo_finding_0 Z (g) _ rfl) mi_Mo_finding k_867 (show 0 < 12 by omega) (m_0 Z _) rfl (As := [.int ((-1000001))]) ⟨Nat.le_of_ble_eq_true rfl, Nat.le_of_ble_eq_true rfl⟩ rfl rfl (Nat.le_of_ble_eq_true rfl) d_Mo_ahead_53 ?_
      exact x_iretK C (by first | with_reducible rfl | (simp [*, -hd]; done) | (simp [*]; done) | (simp_all; done)) (kfinM (G' := va_up g 4 (mfnR (g 4) 0)) (by first | with_reducible rfl | (simp [*, -hd]; done) | (simp [*]; done) | (simp_all; done)) (va_idn (by omega)).symm) d_Mo_ahead_56
    · obtain ⟨pq, hpq, rfl⟩ := in_of c_2 (by omega)
      have hcp : (nI pq).toNatClampNeg = pq := nI_clamp (by omega)
      refine x_iload C d_Mo_ahead_35 0 rfl ?_
      refine x_ifeq C d_Mo_ahead_37 50 (by decide) (fun c_3 => ?_) (fun c_3 => ?_)
      · exact absurd c_3 (by decide)
      · refine x_iload_n C d_Mo_ahead_40 4 rfl rfl ?_
        refine x_iconst C d_Mo_ahead_41 (v := 0) (by decide) ?_
        refine x_bipush C d_Mo_ahead_42 (v := 100) (by decide) ?_
        refine x_callSi C (c_Mo_within Z m 0 100 (g)) mi_Mo_within k_859 (As := [.int (m), .int (0), .int (100)]) ⟨Nat.le_of_ble_eq_true rfl, Nat.le_of_ble_eq_true rfl⟩ rfl rfl (Nat.le_of_ble_eq_true rfl) d_Mo_ahead_44 ?_
        refine x_ifneB C d_Mo_ahead_47 57 (by decide) (fun c_4 => ?_) (fun c_4 => ?_)
        · obtain ⟨mq, hmq, rfl⟩ := in_le (n := 100) c_4 (by decide)
          have hcm : (nI mq).toNatClampNeg = mq := nI_clamp (by omega)
          refine x_aload_n C d_Mo_ahead_57 1 rfl rfl ?_
          refine gf_Mo_now C k_791 d_Mo_ahead_58 ?_
          refine x_aload_n C d_Mo_ahead_61 1 rfl rfl ?_
          refine gf_Mo_aside C k_793 d_Mo_ahead_62 ?_
          refine x_callSv C (c_Mo_copyRow_02 Z (g) _ _ rfl rfl) mi_Mo_copyRow k_1021 (As := [.ref (Z.2.1 (1)), .ref (Z.2.1 (3))]) ⟨Nat.le_of_ble_eq_true rfl, Nat.le_of_ble_eq_true rfl⟩ rfl rfl (Nat.le_of_ble_eq_true rfl) d_Mo_ahead_65 ?_
          refine x_aload_n C d_Mo_ahead_68 1 rfl rfl ?_
          refine x_iload_n C d_Mo_ahead_69 4 rfl rfl ?_
          refine x_callVv C (c_Mo_daysGo Z mq (by omega) (va_up g 2 (c68 (g 0) (g 2))) _ (va_up_ne _ _ (by omega)) hk0) mi_Mo_daysGo k_961 (show 0 < 12 by omega) (m_0 Z _) rfl (As := [.int (nI mq)]) ⟨Nat.le_of_ble_eq_true rfl, Nat.le_of_ble_eq_true rfl⟩ rfl rfl (Nat.le_of_ble_eq_true rfl) d_Mo_ahead_70 ?_
          refine x_aload_n C d_Mo_ahead_73 1 rfl rfl ?_
          refine x_aload_n C d_Mo_ahead_74 1 rfl rfl ?_
          refine x_iload_n C d_Mo_ahead_75 2 rfl rfl ?_
          refine x_iload_n C d_Mo_ahead_76 3 rfl rfl ?_
          refine x_callVi C (c_Mo_told Z pq wq (by omega) (by omega) (va_up (va_up g 2 (c68 (g 0) (g 2))) 0 (dysM (g 0) mq)) _ (va_up_self _ _ _)) mi_Mo_told k_911 (show 0 < 12 by omega) (m_0 Z _) rfl (As := [.int (nI pq), .int (nI wq)]) ⟨Nat.le_of_ble_eq_true rfl, Nat.le_of_ble_eq_true rfl⟩ rfl rfl (Nat.le_of_ble_eq_true rfl) d_Mo_ahead_77 ?_
          refine x_callVi C (c_Mo_putBack Z (tld (dysM (g 0) mq) pq wq) (va_up (va_up g 2 (c68 (g 0) (g 2))) 0 (dysM (g 0) mq)) _ _ (Eq.trans (va_up_ne _ _ (by omega)) (va_up_self _ _ _)) (va_up_self _ _ _)) mi_Mo_putBack k_1024 (show 0 < 12 by omega) (m_0 Z _) rfl (As := [.int (tld (dysM (g 0) mq) pq wq)]) ⟨Nat.le_of_ble_eq_true rfl, Nat.le_of_ble_eq_true rfl⟩ rfl rfl (Nat.le_of_ble_eq_true rfl) d_Mo_ahead_80 ?_
          refine x_eqg (g' := va_up (va_up g 2 (c68 (g 0) (g 2))) 0 (c68 (c68 (g 0) (g 2)) (dysM (g 0) mq))) (bx_uu _ _ _ _) ?_
          exact x_iretK C (by first | with_reducible rfl | (simp [*, -hd]; done) | (simp [*]; done) | (simp_all; done)) (kfinM (G' := g) (by first | with_reducible rfl | (simp [*]; done) | (simp_all; done)) (by rw [back_id (fun j hj => dysM_hi hk0 hj)]; exact va_idn (by decide))) d_Mo_ahead_83
        · refine x_aload_n C d_Mo_ahead_50 1 rfl rfl ?_
          refine x_ldc C d_Mo_ahead_51 k_866 ?_
          refine x_callVi C (c_Mo_finding_0 Z (g) _ rfl) mi_Mo_finding k_867 (show 0 < 12 by omega) (m_0 Z _) rfl (As := [.int ((-1000001))]) ⟨Nat.le_of_ble_eq_true rfl, Nat.le_of_ble_eq_true rfl⟩ rfl rfl (Nat.le_of_ble_eq_true rfl) d_Mo_ahead_53 ?_
          exact x_iretK C (by first | with_reducible rfl | (simp [*, -hd]; done) | (simp [*]; done) | (simp_all; done)) (kfinM (G' := va_up g 4 (mfnR (g 4) 0)) (by first | with_reducible rfl | (simp [*, -hd]; done) | (simp [*]; done) | (simp_all; done)) (va_idn (by omega)).symm) d_Mo_ahead_56
  · refine x_iload_n C d_Mo_ahead_9 2 rfl rfl ?_
    refine x_iconst C d_Mo_ahead_10 (v := 5) (by decide) ?_
    refine x_icmp_eq C d_Mo_ahead_11 20 (by decide) (fun c_5 => ?_) (fun c_5 => ?_)
    · obtain ⟨wq, hwq, rfl⟩ : ∃ j, j < 10 ∧ w = nI j := by first | exact ⟨5, by decide, by assumption⟩ | exact ⟨7, by decide, by assumption⟩ | (obtain ⟨j, hj, e⟩ := in_23 (by assumption : 2 ≤ w ∧ w ≤ 3); exact ⟨j, by omega, e⟩)
      have hcw : (nI wq).toNatClampNeg = wq := nI_clamp (by omega)
      refine x_iconst C d_Mo_ahead_20 (v := 1) (by decide) ?_
      refine x_goto C d_Mo_ahead_21 25 (by decide) ?_
      refine x_istore C d_Mo_ahead_25 (by decide) (lv' := [(4, .int (1)), (0, .ref (Z.2.1 (0))), (1, .int (p)), (2, .int (nI wq)), (3, .int (m))]) rfl ?_
      refine x_aload_n C d_Mo_ahead_27 1 rfl rfl ?_
      refine x_iload_n C d_Mo_ahead_28 2 rfl rfl ?_
      refine x_callVi C (c_Mo_isPerson Z p n (by omega) (g) hn) mi_Mo_isPerson k_907 (show 0 < 12 by omega) (m_0 Z _) rfl (As := [.int (p)]) ⟨Nat.le_of_ble_eq_true rfl, Nat.le_of_ble_eq_true rfl⟩ rfl rfl (Nat.le_of_ble_eq_true rfl) d_Mo_ahead_29 ?_
      refine x_ifeqB C d_Mo_ahead_32 50 (by decide) (fun c_6 => ?_) (fun c_6 => ?_)
      · refine x_aload_n C d_Mo_ahead_50 1 rfl rfl ?_
        refine x_ldc C d_Mo_ahead_51 k_866 ?_
        refine x_callVi C (c_Mo_finding_0 Z (g) _ rfl) mi_Mo_finding k_867 (show 0 < 12 by omega) (m_0 Z _) rfl (As := [.int ((-1000001))]) ⟨Nat.le_of_ble_eq_true rfl, Nat.le_of_ble_eq_true rfl⟩ rfl rfl (Nat.le_of_ble_eq_true rfl) d_Mo_ahead_53 ?_
        exact x_iretK C (by first | with_reducible rfl | (simp [*, -hd]; done) | (simp [*]; done) | (simp_all; done)) (kfinM (G' := va_up g 4 (mfnR (g 4) 0)) (by first | with_reducible rfl | (simp [*, -hd]; done) | (simp [*]; done) | (simp_all; done)) (va_idn (by omega)).symm) d_Mo_ahead_56
      · obtain ⟨pq, hpq, rfl⟩ := in_of c_6 (by omega)
        have hcp : (nI pq).toNatClampNeg = pq := nI_clamp (by omega)
        refine x_iload C d_Mo_ahead_35 0 rfl ?_
        refine x_ifeq C d_Mo_ahead_37 50 (by decide) (fun c_7 => ?_) (fun c_7 => ?_)
        · exact absurd c_7 (by decide)
        · refine x_iload_n C d_Mo_ahead_40 4 rfl rfl ?_
          refine x_iconst C d_Mo_ahead_41 (v := 0) (by decide) ?_
          refine x_bipush C d_Mo_ahead_42 (v := 100) (by decide) ?_
          refine x_callSi C (c_Mo_within Z m 0 100 (g)) mi_Mo_within k_859 (As := [.int (m), .int (0), .int (100)]) ⟨Nat.le_of_ble_eq_true rfl, Nat.le_of_ble_eq_true rfl⟩ rfl rfl (Nat.le_of_ble_eq_true rfl) d_Mo_ahead_44 ?_
          refine x_ifneB C d_Mo_ahead_47 57 (by decide) (fun c_8 => ?_) (fun c_8 => ?_)
          · obtain ⟨mq, hmq, rfl⟩ := in_le (n := 100) c_8 (by decide)
            have hcm : (nI mq).toNatClampNeg = mq := nI_clamp (by omega)
            refine x_aload_n C d_Mo_ahead_57 1 rfl rfl ?_
            refine gf_Mo_now C k_791 d_Mo_ahead_58 ?_
            refine x_aload_n C d_Mo_ahead_61 1 rfl rfl ?_
            refine gf_Mo_aside C k_793 d_Mo_ahead_62 ?_
            refine x_callSv C (c_Mo_copyRow_02 Z (g) _ _ rfl rfl) mi_Mo_copyRow k_1021 (As := [.ref (Z.2.1 (1)), .ref (Z.2.1 (3))]) ⟨Nat.le_of_ble_eq_true rfl, Nat.le_of_ble_eq_true rfl⟩ rfl rfl (Nat.le_of_ble_eq_true rfl) d_Mo_ahead_65 ?_
            refine x_aload_n C d_Mo_ahead_68 1 rfl rfl ?_
            refine x_iload_n C d_Mo_ahead_69 4 rfl rfl ?_
            refine x_callVv C (c_Mo_daysGo Z mq (by omega) (va_up g 2 (c68 (g 0) (g 2))) _ (va_up_ne _ _ (by omega)) hk0) mi_Mo_daysGo k_961 (show 0 < 12 by omega) (m_0 Z _) rfl (As := [.int (nI mq)]) ⟨Nat.le_of_ble_eq_true rfl, Nat.le_of_ble_eq_true rfl⟩ rfl rfl (Nat.le_of_ble_eq_true rfl) d_Mo_ahead_70 ?_
            refine x_aload_n C d_Mo_ahead_73 1 rfl rfl ?_
            refine x_aload_n C d_Mo_ahead_74 1 rfl rfl ?_
            refine x_iload_n C d_Mo_ahead_75 2 rfl rfl ?_
            refine x_iload_n C d_Mo_ahead_76 3 rfl rfl ?_
            refine x_callVi C (c_Mo_told Z pq wq (by omega) (by omega) (va_up (va_up g 2 (c68 (g 0) (g 2))) 0 (dysM (g 0) mq)) _ (va_up_self _ _ _)) mi_Mo_told k_911 (show 0 < 12 by omega) (m_0 Z _) rfl (As := [.int (nI pq), .int (nI wq)]) ⟨Nat.le_of_ble_eq_true rfl, Nat.le_of_ble_eq_true rfl⟩ rfl rfl (Nat.le_of_ble_eq_true rfl) d_Mo_ahead_77 ?_
            refine x_callVi C (c_Mo_putBack Z (tld (dysM (g 0) mq) pq wq) (va_up (va_up g 2 (c68 (g 0) (g 2))) 0 (dysM (g 0) mq)) _ _ (Eq.trans (va_up_ne _ _ (by omega)) (va_up_self _ _ _)) (va_up_self _ _ _)) mi_Mo_putBack k_1024 (show 0 < 12 by omega) (m_0 Z _) rfl (As := [.int (tld (dysM (g 0) mq) pq wq)]) ⟨Nat.le_of_ble_eq_true rfl, Nat.le_of_ble_eq_true rfl⟩ rfl rfl (Nat.le_of_ble_eq_true rfl) d_Mo_ahead_80 ?_
            refine x_eqg (g' := va_up (va_up g 2 (c68 (g 0) (g 2))) 0 (c68 (c68 (g 0) (g 2)) (dysM (g 0) mq))) (bx_uu _ _ _ _) ?_
            exact x_iretK C (by first | with_reducible rfl | (simp [*, -hd]; done) | (simp [*]; done) | (simp_all; done)) (kfinM (G' := g) (by first | with_reducible rfl | (simp [*]; done) | (simp_all; done)) (by rw [back_id (fun j hj => dysM_hi hk0 hj)]; exact va_idn (by decide))) d_Mo_ahead_83
          · refine x_aload_n C d_Mo_ahead_50 1 rfl rfl ?_
            refine x_ldc C d_Mo_ahead_51 k_866 ?_
            refine x_callVi C (c_Mo_finding_0 Z (g) _ rfl) mi_Mo_finding k_867 (show 0 < 12 by omega) (m_0 Z _) rfl (As := [.int ((-1000001))]) ⟨Nat.le_of_ble_eq_true rfl, Nat.le_of_ble_eq_true rfl⟩ rfl rfl (Nat.le_of_ble_eq_true rfl) d_Mo_ahead_53 ?_
            exact x_iretK C (by first | with_reducible rfl | (simp [*, -hd]; done) | (simp [*]; done) | (simp_all; done)) (kfinM (G' := va_up g 4 (mfnR (g 4) 0)) (by first | with_reducible rfl | (simp [*, -hd]; done) | (simp [*]; done) | (simp_all; done)) (va_idn (by omega)).symm) d_Mo_ahead_56
    · have nc_5 := Ne.symm c_5
      refine x_iload_n C d_Mo_ahead_14 2 rfl rfl ?_
      refine x_bipush C d_Mo_ahead_15 (v := 7) (by decide) ?_
      refine x_icmp_ne C d_Mo_ahead_17 24 (by decide) (fun c_9 => ?_) (fun c_9 => ?_)
      · have nc_9 := Ne.symm c_9
        refine x_iconst C d_Mo_ahead_24 (v := 0) (by decide) ?_
        refine x_istore C d_Mo_ahead_25 (by decide) (lv' := [(4, .int (0)), (0, .ref (Z.2.1 (0))), (1, .int (p)), (2, .int (w)), (3, .int (m))]) rfl ?_
        refine x_aload_n C d_Mo_ahead_27 1 rfl rfl ?_
        refine x_iload_n C d_Mo_ahead_28 2 rfl rfl ?_
        refine x_callVi C (c_Mo_isPerson Z p n (by omega) (g) hn) mi_Mo_isPerson k_907 (show 0 < 12 by omega) (m_0 Z _) rfl (As := [.int (p)]) ⟨Nat.le_of_ble_eq_true rfl, Nat.le_of_ble_eq_true rfl⟩ rfl rfl (Nat.le_of_ble_eq_true rfl) d_Mo_ahead_29 ?_
        refine x_ifeqB C d_Mo_ahead_32 50 (by decide) (fun c_10 => ?_) (fun c_10 => ?_)
        · refine x_aload_n C d_Mo_ahead_50 1 rfl rfl ?_
          refine x_ldc C d_Mo_ahead_51 k_866 ?_
          refine x_callVi C (c_Mo_finding_0 Z (g) _ rfl) mi_Mo_finding k_867 (show 0 < 12 by omega) (m_0 Z _) rfl (As := [.int ((-1000001))]) ⟨Nat.le_of_ble_eq_true rfl, Nat.le_of_ble_eq_true rfl⟩ rfl rfl (Nat.le_of_ble_eq_true rfl) d_Mo_ahead_53 ?_
          exact x_iretK C (by first | with_reducible rfl | (simp [*, -hd]; done) | (simp [*]; done) | (simp_all; done)) (kfinM (G' := va_up g 4 (mfnR (g 4) 0)) (by first | with_reducible rfl | (simp [*, -hd]; done) | (simp [*]; done) | (simp_all; done)) (va_idn (by omega)).symm) d_Mo_ahead_56
        · obtain ⟨pq, hpq, rfl⟩ := in_of c_10 (by omega)
          have hcp : (nI pq).toNatClampNeg = pq := nI_clamp (by omega)
          refine x_iload C d_Mo_ahead_35 0 rfl ?_
          refine x_ifeq C d_Mo_ahead_37 50 (by decide) (fun c_11 => ?_) (fun c_11 => ?_)
          · refine x_aload_n C d_Mo_ahead_50 1 rfl rfl ?_
            refine x_ldc C d_Mo_ahead_51 k_866 ?_
            refine x_callVi C (c_Mo_finding_0 Z (g) _ rfl) mi_Mo_finding k_867 (show 0 < 12 by omega) (m_0 Z _) rfl (As := [.int ((-1000001))]) ⟨Nat.le_of_ble_eq_true rfl, Nat.le_of_ble_eq_true rfl⟩ rfl rfl (Nat.le_of_ble_eq_true rfl) d_Mo_ahead_53 ?_
            exact x_iretK C (by first | with_reducible rfl | (simp [*, -hd]; done) | (simp [*]; done) | (simp_all; done)) (kfinM (G' := va_up g 4 (mfnR (g 4) 0)) (by first | with_reducible rfl | (simp [*, -hd]; done) | (simp [*]; done) | (simp_all; done)) (va_idn (by omega)).symm) d_Mo_ahead_56
          · exact absurd c_11 (by decide)
      · obtain ⟨wq, hwq, rfl⟩ : ∃ j, j < 10 ∧ w = nI j := by first | exact ⟨5, by decide, by assumption⟩ | exact ⟨7, by decide, by assumption⟩ | (obtain ⟨j, hj, e⟩ := in_23 (by assumption : 2 ≤ w ∧ w ≤ 3); exact ⟨j, by omega, e⟩)
        have hcw : (nI wq).toNatClampNeg = wq := nI_clamp (by omega)
        refine x_iconst C d_Mo_ahead_20 (v := 1) (by decide) ?_
        refine x_goto C d_Mo_ahead_21 25 (by decide) ?_
        refine x_istore C d_Mo_ahead_25 (by decide) (lv' := [(4, .int (1)), (0, .ref (Z.2.1 (0))), (1, .int (p)), (2, .int (nI wq)), (3, .int (m))]) rfl ?_
        refine x_aload_n C d_Mo_ahead_27 1 rfl rfl ?_
        refine x_iload_n C d_Mo_ahead_28 2 rfl rfl ?_
        refine x_callVi C (c_Mo_isPerson Z p n (by omega) (g) hn) mi_Mo_isPerson k_907 (show 0 < 12 by omega) (m_0 Z _) rfl (As := [.int (p)]) ⟨Nat.le_of_ble_eq_true rfl, Nat.le_of_ble_eq_true rfl⟩ rfl rfl (Nat.le_of_ble_eq_true rfl) d_Mo_ahead_29 ?_
        refine x_ifeqB C d_Mo_ahead_32 50 (by decide) (fun c_12 => ?_) (fun c_12 => ?_)
        · refine x_aload_n C d_Mo_ahead_50 1 rfl rfl ?_
          refine x_ldc C d_Mo_ahead_51 k_866 ?_
          refine x_callVi C (c_Mo_finding_0 Z (g) _ rfl) mi_Mo_finding k_867 (show 0 < 12 by omega) (m_0 Z _) rfl (As := [.int ((-1000001))]) ⟨Nat.le_of_ble_eq_true rfl, Nat.le_of_ble_eq_true rfl⟩ rfl rfl (Nat.le_of_ble_eq_true rfl) d_Mo_ahead_53 ?_
          exact x_iretK C (by first | with_reducible rfl | (simp [*, -hd]; done) | (simp [*]; done) | (simp_all; done)) (kfinM (G' := va_up g 4 (mfnR (g 4) 0)) (by first | with_reducible rfl | (simp [*, -hd]; done) | (simp [*]; done) | (simp_all; done)) (va_idn (by omega)).symm) d_Mo_ahead_56
        · obtain ⟨pq, hpq, rfl⟩ := in_of c_12 (by omega)
          have hcp : (nI pq).toNatClampNeg = pq := nI_clamp (by omega)
          refine x_iload C d_Mo_ahead_35 0 rfl ?_
          refine x_ifeq C d_Mo_ahead_37 50 (by decide) (fun c_13 => ?_) (fun c_13 => ?_)
          · exact absurd c_13 (by decide)
          · refine x_iload_n C d_Mo_ahead_40 4 rfl rfl ?_
            refine x_iconst C d_Mo_ahead_41 (v := 0) (by decide) ?_
            refine x_bipush C d_Mo_ahead_42 (v := 100) (by decide) ?_
            refine x_callSi C (c_Mo_within Z m 0 100 (g)) mi_Mo_within k_859 (As := [.int (m), .int (0), .int (100)]) ⟨Nat.le_of_ble_eq_true rfl, Nat.le_of_ble_eq_true rfl⟩ rfl rfl (Nat.le_of_ble_eq_true rfl) d_Mo_ahead_44 ?_
            refine x_ifneB C d_Mo_ahead_47 57 (by decide) (fun c_14 => ?_) (fun c_14 => ?_)
            · obtain ⟨mq, hmq, rfl⟩ := in_le (n := 100) c_14 (by decide)
              have hcm : (nI mq).toNatClampNeg = mq := nI_clamp (by omega)
              refine x_aload_n C d_Mo_ahead_57 1 rfl rfl ?_
              refine gf_Mo_now C k_791 d_Mo_ahead_58 ?_
              refine x_aload_n C d_Mo_ahead_61 1 rfl rfl ?_
              refine gf_Mo_aside C k_793 d_Mo_ahead_62 ?_
              refine x_callSv C (c_Mo_copyRow_02 Z (g) _ _ rfl rfl) mi_Mo_copyRow k_1021 (As := [.ref (Z.2.1 (1)), .ref (Z.2.1 (3))]) ⟨Nat.le_of_ble_eq_true rfl, Nat.le_of_ble_eq_true rfl⟩ rfl rfl (Nat.le_of_ble_eq_true rfl) d_Mo_ahead_65 ?_
              refine x_aload_n C d_Mo_ahead_68 1 rfl rfl ?_
              refine x_iload_n C d_Mo_ahead_69 4 rfl rfl ?_
              refine x_callVv C (c_Mo_daysGo Z mq (by omega) (va_up g 2 (c68 (g 0) (g 2))) _ (va_up_ne _ _ (by omega)) hk0) mi_Mo_daysGo k_961 (show 0 < 12 by omega) (m_0 Z _) rfl (As := [.int (nI mq)]) ⟨Nat.le_of_ble_eq_true rfl, Nat.le_of_ble_eq_true rfl⟩ rfl rfl (Nat.le_of_ble_eq_true rfl) d_Mo_ahead_70 ?_
              refine x_aload_n C d_Mo_ahead_73 1 rfl rfl ?_
              refine x_aload_n C d_Mo_ahead_74 1 rfl rfl ?_
              refine x_iload_n C d_Mo_ahead_75 2 rfl rfl ?_
              refine x_iload_n C d_Mo_ahead_76 3 rfl rfl ?_
              refine x_callVi C (c_Mo_told Z pq wq (by omega) (by omega) (va_up (va_up g 2 (c68 (g 0) (g 2))) 0 (dysM (g 0) mq)) _ (va_up_self _ _ _)) mi_Mo_told k_911 (show 0 < 12 by omega) (m_0 Z _) rfl (As := [.int (nI pq), .int (nI wq)]) ⟨Nat.le_of_ble_eq_true rfl, Nat.le_of_ble_eq_true rfl⟩ rfl rfl (Nat.le_of_ble_eq_true rfl) d_Mo_ahead_77 ?_
              refine x_callVi C (c_Mo_putBack Z (tld (dysM (g 0) mq) pq wq) (va_up (va_up g 2 (c68 (g 0) (g 2))) 0 (dysM (g 0) mq)) _ _ (Eq.trans (va_up_ne _ _ (by omega)) (va_up_self _ _ _)) (va_up_self _ _ _)) mi_Mo_putBack k_1024 (show 0 < 12 by omega) (m_0 Z _) rfl (As := [.int (tld (dysM (g 0) mq) pq wq)]) ⟨Nat.le_of_ble_eq_true rfl, Nat.le_of_ble_eq_true rfl⟩ rfl rfl (Nat.le_of_ble_eq_true rfl) d_Mo_ahead_80 ?_
              refine x_eqg (g' := va_up (va_up g 2 (c68 (g 0) (g 2))) 0 (c68 (c68 (g 0) (g 2)) (dysM (g 0) mq))) (bx_uu _ _ _ _) ?_
              exact x_iretK C (by first | with_reducible rfl | (simp [*, -hd]; done) | (simp [*]; done) | (simp_all; done)) (kfinM (G' := g) (by first | with_reducible rfl | (simp [*]; done) | (simp_all; done)) (by rw [back_id (fun j hj => dysM_hi hk0 hj)]; exact va_idn (by decide))) d_Mo_ahead_83
            · refine x_aload_n C d_Mo_ahead_50 1 rfl rfl ?_
              refine x_ldc C d_Mo_ahead_51 k_866 ?_
              refine x_callVi C (c_Mo_finding_0 Z (g) _ rfl) mi_Mo_finding k_867 (show 0 < 12 by omega) (m_0 Z _) rfl (As := [.int ((-1000001))]) ⟨Nat.le_of_ble_eq_true rfl, Nat.le_of_ble_eq_true rfl⟩ rfl rfl (Nat.le_of_ble_eq_true rfl) d_Mo_ahead_53 ?_
              exact x_iretK C (by first | with_reducible rfl | (simp [*, -hd]; done) | (simp [*]; done) | (simp_all; done)) (kfinM (G' := va_up g 4 (mfnR (g 4) 0)) (by first | with_reducible rfl | (simp [*, -hd]; done) | (simp [*]; done) | (simp_all; done)) (va_idn (by omega)).symm) d_Mo_ahead_56

set_option maxRecDepth 100000 in
set_option maxHeartbeats 600000 in
theorem c_Mo_daysTo (Z : ZT) (k : Nat) (hk6 : k < 68) (a b : Int32) (g : St)  (r : Nat → Int32) (hr : g 0 = r) (hk : okR r) : CT yM Z y_Mo_daysTo b_Mo_daysTo 5 (some (.int)) 5 112 [.ref (Z.2.1 (0)), .int (nI k), .int (a), .int (b)] (g) (QkI yM Z (oI (fdo (fun i_ => decide (a ≤ dysM r i_ k) && decide (dysM r i_ k ≤ b)) 201 0)) (fun u => ∃ ρ : Nat → Int32, u = va_up g 2 ρ)) := by
  refine CT.mk "TunnelPeaceModel" (by decide) rfl (Nat.le_of_ble_eq_true rfl) (fun X C => ?_)
  refine x_lv [0, 1, 2, 3] (lv' := [(0, .ref (Z.2.1 (0))), (1, .int (nI k)), (2, .int (a)), (3, .int (b))]) rfl ?_
  subst hr
  have hk0 := hk
  obtain ⟨⟨n, hn8, hn⟩, dd, hdd, hd⟩ := hk
  refine x_aload_n C d_Mo_daysTo_0 0 rfl rfl ?_
  refine gf_Mo_now C k_791 d_Mo_daysTo_1 ?_
  refine x_aload_n C d_Mo_daysTo_4 0 rfl rfl ?_
  refine gf_Mo_aside C k_793 d_Mo_daysTo_5 ?_
  refine x_callSv C (c_Mo_copyRow_02 Z (g) _ _ rfl rfl) mi_Mo_copyRow k_1021 (As := [.ref (Z.2.1 (1)), .ref (Z.2.1 (3))]) ⟨Nat.le_of_ble_eq_true rfl, Nat.le_of_ble_eq_true rfl⟩ rfl rfl (Nat.le_of_ble_eq_true rfl) d_Mo_daysTo_8 ?_
  refine x_iconst C d_Mo_daysTo_11 (v := 0) (by decide) ?_
  refine x_topi (show (0 : Int32) = nI 0 by decide) ?_
  refine x_istore C d_Mo_daysTo_12 (by decide) (lv' := [(4, .int (nI 0)), (0, .ref (Z.2.1 (0))), (1, .int (nI k)), (2, .int (a)), (3, .int (b))]) rfl ?_
  have LP_14 : ∀ (f_ i : Nat), i ≤ 200 → 200 - i < f_ → (fdo (fun i_ => decide (a ≤ dysM (g 0) i_ k) && decide (dysM (g 0) i_ k ≤ b)) 201 0 = fdo (fun i_ => decide (a ≤ dysM (g 0) i_ k) && decide (dysM (g 0) i_ k ≤ b)) (201 - i) i) → WX X 5 yM Z (QX X yM Z (QkI yM Z (oI (fdo (fun i_ => decide (a ≤ dysM (g 0) i_ k) && decide (dysM (g 0) i_ k ≤ b)) 201 0)) (fun u => ∃ ρ : Nat → Int32, u = va_up g 2 ρ))) (va_up (va_up g 2 (c68 (g 0) (g 2))) 0 (dysM (g 0) (i))) 14 [(4, .int (nI i)), (0, .ref (Z.2.1 (0))), (1, .int (nI k)), (2, .int (a)), (3, .int (b))] [] := by
    intro f_
    induction f_ with
    | zero => intro i h1_ h2_ _; exact absurd h2_ (Nat.not_lt_zero _)
    | succ f_ ih_14 =>
      intro i hi_14 hf_14 hy_14
      refine x_iload C d_Mo_daysTo_14 0 rfl ?_
      refine x_sipush C d_Mo_daysTo_16 (v := 200) (by decide) ?_
      refine x_icmp_ge C d_Mo_daysTo_19 46 (by decide) (fun c_1 => ?_) (fun c_1 => ?_)
      · have nc_1 := Int32.not_lt.mpr c_1
        have mc_1 : 200 ≤ i := (nI_leI (by omega) (by omega)).mp (show nI 200 ≤ nI i from c_1)
        refine x_aload_n C d_Mo_daysTo_46 1 rfl rfl ?_
        refine x_aload_n C d_Mo_daysTo_47 1 rfl rfl ?_
        refine gf_Mo_now C k_791 d_Mo_daysTo_48 ?_
        refine x_iload_n C d_Mo_daysTo_51 2 rfl rfl ?_
        refine al_m_now C k (v := (dysM (g 0) (i)) k) rfl (by first | omega | (simp only [pI]; omega)) (congrFun (va_up_self _ _ _) _) d_Mo_daysTo_52 ?_
        refine x_iload_n C d_Mo_daysTo_53 3 rfl rfl ?_
        refine x_iload_n C d_Mo_daysTo_54 4 rfl rfl ?_
        refine x_callSi C (c_Mo_within Z ((dysM (g 0) (i)) k) a b (va_up (va_up g 2 (c68 (g 0) (g 2))) 0 (dysM (g 0) (i)))) mi_Mo_within k_859 (As := [.int ((dysM (g 0) (i)) k), .int (a), .int (b)]) ⟨Nat.le_of_ble_eq_true rfl, Nat.le_of_ble_eq_true rfl⟩ rfl rfl (Nat.le_of_ble_eq_true rfl) d_Mo_daysTo_55 ?_
        refine x_ifeqB C d_Mo_daysTo_58 66 (by decide) (fun c_2 => ?_) (fun c_2 => ?_)
        · refine x_iconst C d_Mo_daysTo_66 (v := -1) (by decide) ?_
          refine x_callVi C (c_Mo_putBack Z (-1) (va_up (va_up g 2 (c68 (g 0) (g 2))) 0 (dysM (g 0) (i))) _ _ (Eq.trans (va_up_ne _ _ (by omega)) (va_up_self _ _ _)) (va_up_self _ _ _)) mi_Mo_putBack k_1024 (show 0 < 12 by omega) (m_0 Z _) rfl (As := [.int ((-1))]) ⟨Nat.le_of_ble_eq_true rfl, Nat.le_of_ble_eq_true rfl⟩ rfl rfl (Nat.le_of_ble_eq_true rfl) d_Mo_daysTo_67 ?_
          refine x_eqg (g' := va_up (va_up g 2 (c68 (g 0) (g 2))) 0 (c68 (c68 (g 0) (g 2)) (dysM (g 0) (i)))) (bx_uu _ _ _ _) ?_
          exact x_iretK C (by rw [hy_14, fdo_n (by omega) (by simp [*]), show 201 - (i + 1) = 0 by omega]; rfl) ⟨_, by rw [back_id (fun j hj => dysM_hi hk0 hj)]; exact va_idn (by decide)⟩ d_Mo_daysTo_70
        · refine x_iload C d_Mo_daysTo_61 0 rfl ?_
          refine x_goto C d_Mo_daysTo_63 67 (by decide) ?_
          refine x_callVi C (c_Mo_putBack Z (nI i) (va_up (va_up g 2 (c68 (g 0) (g 2))) 0 (dysM (g 0) (i))) _ _ (Eq.trans (va_up_ne _ _ (by omega)) (va_up_self _ _ _)) (va_up_self _ _ _)) mi_Mo_putBack k_1024 (show 0 < 12 by omega) (m_0 Z _) rfl (As := [.int (nI i)]) ⟨Nat.le_of_ble_eq_true rfl, Nat.le_of_ble_eq_true rfl⟩ rfl rfl (Nat.le_of_ble_eq_true rfl) d_Mo_daysTo_67 ?_
          refine x_eqg (g' := va_up (va_up g 2 (c68 (g 0) (g 2))) 0 (c68 (c68 (g 0) (g 2)) (dysM (g 0) (i)))) (bx_uu _ _ _ _) ?_
          exact x_iretK C (by rw [hy_14, fdo_t (by omega) (by simp [*])]; rfl) ⟨_, by rw [back_id (fun j hj => dysM_hi hk0 hj)]; exact va_idn (by decide)⟩ d_Mo_daysTo_70
      · have nc_1 := Int32.not_le.mp c_1
        have mc_1 : ¬ 200 ≤ i := fun z_ => (show ¬ nI 200 ≤ nI i from c_1) ((nI_leI (by omega) (by omega)).mpr z_)
        refine x_aload_n C d_Mo_daysTo_22 1 rfl rfl ?_
        refine gf_Mo_now C k_791 d_Mo_daysTo_23 ?_
        refine x_iload_n C d_Mo_daysTo_26 2 rfl rfl ?_
        refine al_m_now C k (v := (dysM (g 0) (i)) k) rfl (by first | omega | (simp only [pI]; omega)) (congrFun (va_up_self _ _ _) _) d_Mo_daysTo_27 ?_
        refine x_iload_n C d_Mo_daysTo_28 3 rfl rfl ?_
        refine x_iload_n C d_Mo_daysTo_29 4 rfl rfl ?_
        refine x_callSi C (c_Mo_within Z ((dysM (g 0) (i)) k) a b (va_up (va_up g 2 (c68 (g 0) (g 2))) 0 (dysM (g 0) (i)))) mi_Mo_within k_859 (As := [.int ((dysM (g 0) (i)) k), .int (a), .int (b)]) ⟨Nat.le_of_ble_eq_true rfl, Nat.le_of_ble_eq_true rfl⟩ rfl rfl (Nat.le_of_ble_eq_true rfl) d_Mo_daysTo_30 ?_
        refine x_ifneB C d_Mo_daysTo_33 46 (by decide) (fun c_3 => ?_) (fun c_3 => ?_)
        · refine x_aload_n C d_Mo_daysTo_46 1 rfl rfl ?_
          refine x_aload_n C d_Mo_daysTo_47 1 rfl rfl ?_
          refine gf_Mo_now C k_791 d_Mo_daysTo_48 ?_
          refine x_iload_n C d_Mo_daysTo_51 2 rfl rfl ?_
          refine al_m_now C k (v := (dysM (g 0) (i)) k) rfl (by first | omega | (simp only [pI]; omega)) (congrFun (va_up_self _ _ _) _) d_Mo_daysTo_52 ?_
          refine x_iload_n C d_Mo_daysTo_53 3 rfl rfl ?_
          refine x_iload_n C d_Mo_daysTo_54 4 rfl rfl ?_
          refine x_callSi C (c_Mo_within Z ((dysM (g 0) (i)) k) a b (va_up (va_up g 2 (c68 (g 0) (g 2))) 0 (dysM (g 0) (i)))) mi_Mo_within k_859 (As := [.int ((dysM (g 0) (i)) k), .int (a), .int (b)]) ⟨Nat.le_of_ble_eq_true rfl, Nat.le_of_ble_eq_true rfl⟩ rfl rfl (Nat.le_of_ble_eq_true rfl) d_Mo_daysTo_55 ?_
          refine x_ifeqB C d_Mo_daysTo_58 66 (by decide) (fun c_4 => ?_) (fun c_4 => ?_)
          · exact absurd c_3 c_4
          · refine x_iload C d_Mo_daysTo_61 0 rfl ?_
            refine x_goto C d_Mo_daysTo_63 67 (by decide) ?_
            refine x_callVi C (c_Mo_putBack Z (nI i) (va_up (va_up g 2 (c68 (g 0) (g 2))) 0 (dysM (g 0) (i))) _ _ (Eq.trans (va_up_ne _ _ (by omega)) (va_up_self _ _ _)) (va_up_self _ _ _)) mi_Mo_putBack k_1024 (show 0 < 12 by omega) (m_0 Z _) rfl (As := [.int (nI i)]) ⟨Nat.le_of_ble_eq_true rfl, Nat.le_of_ble_eq_true rfl⟩ rfl rfl (Nat.le_of_ble_eq_true rfl) d_Mo_daysTo_67 ?_
            refine x_eqg (g' := va_up (va_up g 2 (c68 (g 0) (g 2))) 0 (c68 (c68 (g 0) (g 2)) (dysM (g 0) (i)))) (bx_uu _ _ _ _) ?_
            exact x_iretK C (by rw [hy_14, fdo_t (by omega) (by simp [*])]; rfl) ⟨_, by rw [back_id (fun j hj => dysM_hi hk0 hj)]; exact va_idn (by decide)⟩ d_Mo_daysTo_70
        · refine x_aload_n C d_Mo_daysTo_36 1 rfl rfl ?_
          refine x_callVv C (c_Mo_day Z (va_up (va_up g 2 (c68 (g 0) (g 2))) 0 (dysM (g 0) (i))) _ (va_up_self _ _ _) (okR_dysM hk0 _)) mi_Mo_day k_965 (show 0 < 12 by omega) (m_0 Z _) rfl (As := []) ⟨Nat.le_of_ble_eq_true rfl, Nat.le_of_ble_eq_true rfl⟩ rfl rfl (Nat.le_of_ble_eq_true rfl) d_Mo_daysTo_37 ?_
          refine x_eqg (g' := va_up (va_up g 2 (c68 (g 0) (g 2))) 0 (dayM (dysM (g 0) (i)))) (bx_uu _ _ _ _) ?_
          refine x_iinc C d_Mo_daysTo_40 0 rfl (v := nI (i + 1)) (nI_1 _) (by decide) (lv' := [(4, .int (nI (i + 1))), (0, .ref (Z.2.1 (0))), (1, .int (nI k)), (2, .int (a)), (3, .int (b))]) rfl ?_
          refine x_goto C d_Mo_daysTo_43 14 (by decide) ?_
          refine x_eqg (g' := va_up (va_up g 2 (c68 (g 0) (g 2))) 0 (dysM (g 0) (i + 1))) rfl ?_
          exact ih_14 (i + 1) (by omega) (by omega) (hy_14.trans (fdo_n (by omega) (by simp [*])))
  refine x_eqg (g' := va_up (va_up g 2 (c68 (g 0) (g 2))) 0 (dysM (g 0) (0))) (va_idn (by decide)).symm ?_
  exact LP_14 (200 + 1) 0 (Nat.zero_le _) (by omega) rfl

set_option maxRecDepth 100000 in
set_option maxHeartbeats 600000 in
theorem c_Mo_orNone_t (Z : ZT) (x : Int32) (hx : x < 0) (g : St)  (r : Nat → Int32) (hr : g 4 = r) : CT yM Z y_Mo_orNone b_Mo_orNone 2 (some (.int)) 1 21 [.ref (Z.2.1 (0)), .int (x)] (g) (QcI yM Z ((-1000004)) (va_up g 4 (mfnR r 3))) := by
  refine CT.mk "TunnelPeaceModel" (by decide) rfl (Nat.le_of_ble_eq_true rfl) (fun X C => ?_)
  refine x_lv [0, 1] (lv' := [(0, .ref (Z.2.1 (0))), (1, .int (x))]) rfl ?_
  subst hr
  have nhx := Int32.not_le.mpr hx
  refine x_iload_n C d_Mo_orNone_0 1 rfl rfl ?_
  refine x_ifge C d_Mo_orNone_1 13 (by decide) (fun c_1 => ?_) (fun c_1 => ?_)
  · have nc_1 := Int32.not_lt.mpr c_1
    refine x_iload_n C d_Mo_orNone_13 1 rfl rfl ?_
    exact absurd (by assumption) nhx
  · have nc_1 := Int32.not_le.mp c_1
    refine x_aload_n C d_Mo_orNone_4 0 rfl rfl ?_
    refine x_ldc C d_Mo_orNone_5 k_1048 ?_
    refine x_callVi C (c_Mo_finding_3 Z (g) _ rfl) mi_Mo_finding k_867 (show 0 < 12 by omega) (m_0 Z _) rfl (As := [.int ((-1000004))]) ⟨Nat.le_of_ble_eq_true rfl, Nat.le_of_ble_eq_true rfl⟩ rfl rfl (Nat.le_of_ble_eq_true rfl) d_Mo_orNone_7 ?_
    refine x_goto C d_Mo_orNone_10 14 (by decide) ?_
    exact x_iret C rfl rfl d_Mo_orNone_14

set_option maxRecDepth 100000 in
set_option maxHeartbeats 600000 in
theorem c_Mo_orNone_f (Z : ZT) (x : Int32) (hx : ¬ x < 0) (g : St)  : CT yM Z y_Mo_orNone b_Mo_orNone 2 (some (.int)) 1 21 [.ref (Z.2.1 (0)), .int (x)] (g) (QcI yM Z (x) (g)) := by
  refine CT.mk "TunnelPeaceModel" (by decide) rfl (Nat.le_of_ble_eq_true rfl) (fun X C => ?_)
  refine x_lv [0, 1] (lv' := [(0, .ref (Z.2.1 (0))), (1, .int (x))]) rfl ?_
  have nhx := Int32.not_lt.mp hx
  refine x_iload_n C d_Mo_orNone_0 1 rfl rfl ?_
  refine x_ifge C d_Mo_orNone_1 13 (by decide) (fun c_1 => ?_) (fun c_1 => ?_)
  · have nc_1 := Int32.not_lt.mpr c_1
    refine x_iload_n C d_Mo_orNone_13 1 rfl rfl ?_
    exact x_iret C rfl rfl d_Mo_orNone_14
  · have nc_1 := Int32.not_le.mp c_1
    refine x_aload_n C d_Mo_orNone_4 0 rfl rfl ?_
    refine x_ldc C d_Mo_orNone_5 k_1048 ?_
    refine x_callVi C (c_Mo_finding_3 Z (g) _ rfl) mi_Mo_finding k_867 (show 0 < 12 by omega) (m_0 Z _) rfl (As := [.int ((-1000004))]) ⟨Nat.le_of_ble_eq_true rfl, Nat.le_of_ble_eq_true rfl⟩ rfl rfl (Nat.le_of_ble_eq_true rfl) d_Mo_orNone_7 ?_
    refine x_goto C d_Mo_orNone_10 14 (by decide) ?_
    exact absurd nhx (by assumption)

set_option maxRecDepth 100000 in
set_option maxHeartbeats 600000 in
theorem c_Mo_stills (Z : ZT) (v : Int32) (g : St)  (hk : okR (g 0)) : CT yM Z y_Mo_stills b_Mo_stills 2 (some (.int)) 6 136 [.ref (Z.2.1 (0)), .int (v)] (g) (QkI yM Z (if ¬ (0 ≤ v ∧ v ≤ 99) then (-1000001) else if oI (fdo (fun i_ => decide (0 ≤ dysM (g 0) i_ 3) && decide (dysM (g 0) i_ 3 ≤ v)) 201 0) < 0 then (-1000004) else oI (fdo (fun i_ => decide (0 ≤ dysM (g 0) i_ 3) && decide (dysM (g 0) i_ 3 ≤ v)) 201 0)) (fun u => ∃ ρ : Nat → Int32, u = va_up (if ¬ (0 ≤ v ∧ v ≤ 99) then va_up g 4 (mfnR (g 4) 0) else if oI (fdo (fun i_ => decide (0 ≤ dysM (g 0) i_ 3) && decide (dysM (g 0) i_ 3 ≤ v)) 201 0) < 0 then va_up g 4 (mfnR (g 4) 3) else g) 2 ρ)) := by
  refine CT.mk "TunnelPeaceModel" (by decide) rfl (Nat.le_of_ble_eq_true rfl) (fun X C => ?_)
  refine x_lv [0, 1] (lv' := [(0, .ref (Z.2.1 (0))), (1, .int (v))]) rfl ?_
  have hk0 := hk
  obtain ⟨⟨n, hn8, hn⟩, dd, hdd, hd⟩ := hk
  refine x_iload_n C d_Mo_stills_0 1 rfl rfl ?_
  refine x_callSi C (c_Mo_isMany Z v (g)) mi_Mo_isMany k_856 (As := [.int (v)]) ⟨Nat.le_of_ble_eq_true rfl, Nat.le_of_ble_eq_true rfl⟩ rfl rfl (Nat.le_of_ble_eq_true rfl) d_Mo_stills_1 ?_
  refine x_ifeqB C d_Mo_stills_4 21 (by decide) (fun c_1 => ?_) (fun c_1 => ?_)
  · refine x_aload_n C d_Mo_stills_21 0 rfl rfl ?_
    refine x_ldc C d_Mo_stills_22 k_866 ?_
    refine x_callVi C (c_Mo_finding_0 Z (g) _ rfl) mi_Mo_finding k_867 (show 0 < 12 by omega) (m_0 Z _) rfl (As := [.int ((-1000001))]) ⟨Nat.le_of_ble_eq_true rfl, Nat.le_of_ble_eq_true rfl⟩ rfl rfl (Nat.le_of_ble_eq_true rfl) d_Mo_stills_24 ?_
    exact x_iretK C (by first | with_reducible rfl | (simp [*, -hd]; done) | (simp [*]; done) | (simp_all; done)) (kfinM (G' := va_up g 4 (mfnR (g 4) 0)) (by first | with_reducible rfl | (simp [*, -hd]; done) | (simp [*]; done) | (simp_all; done)) (va_idn (by omega)).symm) d_Mo_stills_27
  · refine x_aload_n C d_Mo_stills_7 0 rfl rfl ?_
    refine x_aload_n C d_Mo_stills_8 0 rfl rfl ?_
    refine x_iconst C d_Mo_stills_9 (v := 3) (by decide) ?_
    refine x_iconst C d_Mo_stills_10 (v := 0) (by decide) ?_
    refine x_iload_n C d_Mo_stills_11 1 rfl rfl ?_
    refine x_callVki C (c_Mo_daysTo Z 3 (by first | omega | (simp only [pI]; omega)) 0 v (g) _ rfl hk0) mi_Mo_daysTo k_1040 (show 0 < 12 by omega) (m_0 Z _) rfl (As := [.int (3), .int (0), .int (v)]) ⟨Nat.le_of_ble_eq_true rfl, Nat.le_of_ble_eq_true rfl⟩ rfl rfl (Nat.le_of_ble_eq_true rfl) d_Mo_stills_12 (fun u_ hu_ => ?_)
    obtain ⟨ρ_2, rfl⟩ := hu_
    by_cases c_3 : (oI (fdo (fun i_ => decide (0 ≤ dysM (g 0) i_ 3) && decide (dysM (g 0) i_ 3 ≤ v)) 201 0)) < 0
    · skip
      refine x_callVi C (c_Mo_orNone_t Z (oI (fdo (fun i_ => decide (0 ≤ dysM (g 0) i_ 3) && decide (dysM (g 0) i_ 3 ≤ v)) 201 0)) (by assumption) (va_up g 2 ρ_2) _ (va_up_ne _ _ (by omega))) mi_Mo_orNone k_1044 (show 0 < 12 by omega) (m_0 Z _) rfl (As := [.int (oI (fdo (fun i_ => decide (0 ≤ dysM (g 0) i_ 3) && decide (dysM (g 0) i_ 3 ≤ v)) 201 0))]) ⟨Nat.le_of_ble_eq_true rfl, Nat.le_of_ble_eq_true rfl⟩ rfl rfl (Nat.le_of_ble_eq_true rfl) d_Mo_stills_15 ?_
      refine x_goto C d_Mo_stills_18 27 (by decide) ?_
      exact x_iretK C (by first | with_reducible rfl | (simp [*, -hd]; done) | (simp [*]; done) | (simp_all; done)) (kfinM (G' := va_up g 4 (mfnR (g 4) 3)) (by first | with_reducible rfl | (simp [*, -hd]; done) | (simp [*]; done) | (simp_all; done)) (va_com (by omega))) d_Mo_stills_27
    · skip
      refine x_callVi C (c_Mo_orNone_f Z (oI (fdo (fun i_ => decide (0 ≤ dysM (g 0) i_ 3) && decide (dysM (g 0) i_ 3 ≤ v)) 201 0)) (by assumption) (va_up g 2 ρ_2)) mi_Mo_orNone k_1044 (show 0 < 12 by omega) (m_0 Z _) rfl (As := [.int (oI (fdo (fun i_ => decide (0 ≤ dysM (g 0) i_ 3) && decide (dysM (g 0) i_ 3 ≤ v)) 201 0))]) ⟨Nat.le_of_ble_eq_true rfl, Nat.le_of_ble_eq_true rfl⟩ rfl rfl (Nat.le_of_ble_eq_true rfl) d_Mo_stills_15 ?_
      refine x_goto C d_Mo_stills_18 27 (by decide) ?_
      exact x_iretK C (by first | with_reducible rfl | (simp [*, -hd]; done) | (simp [*]; done) | (simp_all; done)) (kfinM (G' := g) (by first | with_reducible rfl | (simp [*, -hd]; done) | (simp [*]; done) | (simp_all; done)) rfl) d_Mo_stills_27

set_option maxRecDepth 100000 in
set_option maxHeartbeats 600000 in
theorem c_Mo_meets (Z : ZT) (p v : Int32) (g : St)  (hk : okR (g 0)) : CT yM Z y_Mo_meets b_Mo_meets 3 (some (.int)) 6 136 [.ref (Z.2.1 (0)), .int (p), .int (v)] (g) (QkI yM Z (if ¬ ((0 ≤ p ∧ p < g 0 1) ∧ (0 ≤ v ∧ v ≤ 9999)) then (-1000001) else if oI (fdo (fun i_ => decide (v ≤ dysM (g 0) i_ (pI p.toNatClampNeg 5)) && decide (dysM (g 0) i_ (pI p.toNatClampNeg 5) ≤ 9999)) 201 0) < 0 then (-1000004) else oI (fdo (fun i_ => decide (v ≤ dysM (g 0) i_ (pI p.toNatClampNeg 5)) && decide (dysM (g 0) i_ (pI p.toNatClampNeg 5) ≤ 9999)) 201 0)) (fun u => ∃ ρ : Nat → Int32, u = va_up (if ¬ ((0 ≤ p ∧ p < g 0 1) ∧ (0 ≤ v ∧ v ≤ 9999)) then va_up g 4 (mfnR (g 4) 0) else if oI (fdo (fun i_ => decide (v ≤ dysM (g 0) i_ (pI p.toNatClampNeg 5)) && decide (dysM (g 0) i_ (pI p.toNatClampNeg 5) ≤ 9999)) 201 0) < 0 then va_up g 4 (mfnR (g 4) 3) else g) 2 ρ)) := by
  refine CT.mk "TunnelPeaceModel" (by decide) rfl (Nat.le_of_ble_eq_true rfl) (fun X C => ?_)
  refine x_lv [0, 1, 2] (lv' := [(0, .ref (Z.2.1 (0))), (1, .int (p)), (2, .int (v))]) rfl ?_
  have hk0 := hk
  obtain ⟨⟨n, hn8, hn⟩, dd, hdd, hd⟩ := hk
  refine x_aload_n C d_Mo_meets_0 0 rfl rfl ?_
  refine x_iload_n C d_Mo_meets_1 1 rfl rfl ?_
  refine x_callVi C (c_Mo_isPerson Z p n (by omega) (g) hn) mi_Mo_isPerson k_907 (show 0 < 12 by omega) (m_0 Z _) rfl (As := [.int (p)]) ⟨Nat.le_of_ble_eq_true rfl, Nat.le_of_ble_eq_true rfl⟩ rfl rfl (Nat.le_of_ble_eq_true rfl) d_Mo_meets_2 ?_
  refine x_ifeqB C d_Mo_meets_5 39 (by decide) (fun c_1 => ?_) (fun c_1 => ?_)
  · refine x_aload_n C d_Mo_meets_39 0 rfl rfl ?_
    refine x_ldc C d_Mo_meets_40 k_866 ?_
    refine x_callVi C (c_Mo_finding_0 Z (g) _ rfl) mi_Mo_finding k_867 (show 0 < 12 by omega) (m_0 Z _) rfl (As := [.int ((-1000001))]) ⟨Nat.le_of_ble_eq_true rfl, Nat.le_of_ble_eq_true rfl⟩ rfl rfl (Nat.le_of_ble_eq_true rfl) d_Mo_meets_42 ?_
    exact x_iretK C (by first | with_reducible rfl | (simp [*, -hd]; done) | (simp [*]; done) | (simp_all; done)) (kfinM (G' := va_up g 4 (mfnR (g 4) 0)) (by first | with_reducible rfl | (simp [*, -hd]; done) | (simp [*]; done) | (simp_all; done)) (va_idn (by omega)).symm) d_Mo_meets_45
  · obtain ⟨pq, hpq, rfl⟩ := in_of c_1 (by omega)
    have hcp : (nI pq).toNatClampNeg = pq := nI_clamp (by omega)
    refine x_iload_n C d_Mo_meets_8 2 rfl rfl ?_
    refine x_iconst C d_Mo_meets_9 (v := 0) (by decide) ?_
    refine x_sipush C d_Mo_meets_10 (v := 9999) (by decide) ?_
    refine x_callSi C (c_Mo_within Z v 0 9999 (g)) mi_Mo_within k_859 (As := [.int (v), .int (0), .int (9999)]) ⟨Nat.le_of_ble_eq_true rfl, Nat.le_of_ble_eq_true rfl⟩ rfl rfl (Nat.le_of_ble_eq_true rfl) d_Mo_meets_13 ?_
    refine x_ifeqB C d_Mo_meets_16 39 (by decide) (fun c_2 => ?_) (fun c_2 => ?_)
    · refine x_aload_n C d_Mo_meets_39 0 rfl rfl ?_
      refine x_ldc C d_Mo_meets_40 k_866 ?_
      refine x_callVi C (c_Mo_finding_0 Z (g) _ rfl) mi_Mo_finding k_867 (show 0 < 12 by omega) (m_0 Z _) rfl (As := [.int ((-1000001))]) ⟨Nat.le_of_ble_eq_true rfl, Nat.le_of_ble_eq_true rfl⟩ rfl rfl (Nat.le_of_ble_eq_true rfl) d_Mo_meets_42 ?_
      exact x_iretK C (by first | with_reducible rfl | (simp [*, -hd]; done) | (simp [*]; done) | (simp_all; done)) (kfinM (G' := va_up g 4 (mfnR (g 4) 0)) (by first | with_reducible rfl | (simp [*, -hd]; done) | (simp [*]; done) | (simp_all; done)) (va_idn (by omega)).symm) d_Mo_meets_45
    · refine x_aload_n C d_Mo_meets_19 0 rfl rfl ?_
      refine x_aload_n C d_Mo_meets_20 0 rfl rfl ?_
      refine x_iload_n C d_Mo_meets_21 1 rfl rfl ?_
      refine x_iconst C d_Mo_meets_22 (v := 5) (by decide) ?_
      refine x_callSi C (c_Mo_personAt Z pq 5 (g)) mi_Mo_personAt k_897 (As := [.int (nI pq), .int (5)]) ⟨Nat.le_of_ble_eq_true rfl, Nat.le_of_ble_eq_true rfl⟩ rfl rfl (Nat.le_of_ble_eq_true rfl) d_Mo_meets_23 ?_
      refine x_iload_n C d_Mo_meets_26 2 rfl rfl ?_
      refine x_sipush C d_Mo_meets_27 (v := 9999) (by decide) ?_
      refine x_callVki C (c_Mo_daysTo Z (pI pq 5) (by first | omega | (simp only [pI]; omega)) v 9999 (g) _ rfl hk0) mi_Mo_daysTo k_1040 (show 0 < 12 by omega) (m_0 Z _) rfl (As := [.int (nI (pI pq 5)), .int (v), .int (9999)]) ⟨Nat.le_of_ble_eq_true rfl, Nat.le_of_ble_eq_true rfl⟩ rfl rfl (Nat.le_of_ble_eq_true rfl) d_Mo_meets_30 (fun u_ hu_ => ?_)
      obtain ⟨ρ_3, rfl⟩ := hu_
      by_cases c_4 : (oI (fdo (fun i_ => decide (v ≤ dysM (g 0) i_ (pI pq 5)) && decide (dysM (g 0) i_ (pI pq 5) ≤ 9999)) 201 0)) < 0
      · skip
        refine x_callVi C (c_Mo_orNone_t Z (oI (fdo (fun i_ => decide (v ≤ dysM (g 0) i_ (pI pq 5)) && decide (dysM (g 0) i_ (pI pq 5) ≤ 9999)) 201 0)) (by assumption) (va_up g 2 ρ_3) _ (va_up_ne _ _ (by omega))) mi_Mo_orNone k_1044 (show 0 < 12 by omega) (m_0 Z _) rfl (As := [.int (oI (fdo (fun i_ => decide (v ≤ dysM (g 0) i_ (pI pq 5)) && decide (dysM (g 0) i_ (pI pq 5) ≤ 9999)) 201 0))]) ⟨Nat.le_of_ble_eq_true rfl, Nat.le_of_ble_eq_true rfl⟩ rfl rfl (Nat.le_of_ble_eq_true rfl) d_Mo_meets_33 ?_
        refine x_goto C d_Mo_meets_36 45 (by decide) ?_
        exact x_iretK C (by first | with_reducible rfl | (simp [*, -hd]; done) | (simp [*]; done) | (simp_all; done)) (kfinM (G' := va_up g 4 (mfnR (g 4) 3)) (by first | with_reducible rfl | (simp [*, -hd]; done) | (simp [*]; done) | (simp_all; done)) (va_com (by omega))) d_Mo_meets_45
      · skip
        refine x_callVi C (c_Mo_orNone_f Z (oI (fdo (fun i_ => decide (v ≤ dysM (g 0) i_ (pI pq 5)) && decide (dysM (g 0) i_ (pI pq 5) ≤ 9999)) 201 0)) (by assumption) (va_up g 2 ρ_3)) mi_Mo_orNone k_1044 (show 0 < 12 by omega) (m_0 Z _) rfl (As := [.int (oI (fdo (fun i_ => decide (v ≤ dysM (g 0) i_ (pI pq 5)) && decide (dysM (g 0) i_ (pI pq 5) ≤ 9999)) 201 0))]) ⟨Nat.le_of_ble_eq_true rfl, Nat.le_of_ble_eq_true rfl⟩ rfl rfl (Nat.le_of_ble_eq_true rfl) d_Mo_meets_33 ?_
        refine x_goto C d_Mo_meets_36 45 (by decide) ?_
        exact x_iretK C (by first | with_reducible rfl | (simp [*, -hd]; done) | (simp [*]; done) | (simp_all; done)) (kfinM (G' := g) (by first | with_reducible rfl | (simp [*, -hd]; done) | (simp [*]; done) | (simp_all; done)) rfl) d_Mo_meets_45
