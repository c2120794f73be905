set_option maxRecDepth 100000 in
set_option maxHeartbeats 600000 in
theorem c_Mo_stroll (Z : ZT) (m : Int32) (g : St)  (hk : okR (g 0)) : CT yM Z y_Mo_stroll b_Mo_stroll 5 (some (.int)) 5 112 [.ref (Z.2.1 (0)), .int (m)] (g) (QkI yM Z (if ¬ (1 ≤ m ∧ m ≤ 20) then (-1000001) else if 99999 < g 0 0 + m then (-1000005) else drsM (g 0) m.toNatClampNeg 3) (fun u => ∃ ρ : Nat → Int32, u = va_up (if ¬ (1 ≤ m ∧ m ≤ 20) then va_up g 4 (mfnR (g 4) 0) else if 99999 < g 0 0 + m then va_up g 4 (mfnR (g 4) 4) else va_up g 0 (drsM (g 0) m.toNatClampNeg)) 2 ρ)) := by
  refine CT.mk "TunnelPeaceModel" (by decide) rfl (Nat.le_of_ble_eq_true rfl) (fun X C => ?_)
  refine x_lv [0, 1] (lv' := [(0, .ref (Z.2.1 (0))), (1, .int (m))]) rfl ?_
  have hk0 := hk
  obtain ⟨⟨n, hn8, hn⟩, dd, hdd, hd⟩ := hk
  refine x_iload_n C d_Mo_stroll_0 1 rfl rfl ?_
  refine x_iconst C d_Mo_stroll_1 (v := 1) (by decide) ?_
  refine x_bipush C d_Mo_stroll_2 (v := 20) (by decide) ?_
  refine x_callSi C (c_Mo_within Z m 1 20 (g)) mi_Mo_within k_859 (As := [.int (m), .int (1), .int (20)]) ⟨Nat.le_of_ble_eq_true rfl, Nat.le_of_ble_eq_true rfl⟩ rfl rfl (Nat.le_of_ble_eq_true rfl) d_Mo_stroll_4 ?_
  refine x_ifneB C d_Mo_stroll_7 17 (by decide) (fun c_1 => ?_) (fun c_1 => ?_)
  · obtain ⟨mq, hmq, rfl⟩ := in_1le (n := 20) c_1 (by decide)
    have hcm : (nI mq).toNatClampNeg = mq := nI_clamp (by omega)
    refine x_aload_n C d_Mo_stroll_17 0 rfl rfl ?_
    refine gf_Mo_now C k_791 d_Mo_stroll_18 ?_
    refine x_iconst C d_Mo_stroll_21 (v := 0) (by decide) ?_
    refine al_m_now C 0 (v := g 0 0) (by decide) (by first | omega | (simp only [pI]; omega)) rfl d_Mo_stroll_22 ?_
    refine x_iload_n C d_Mo_stroll_23 1 rfl rfl ?_
    refine x_iadd C d_Mo_stroll_24 ?_
    refine x_ldc C d_Mo_stroll_25 k_959 ?_
    refine x_icmp_le C d_Mo_stroll_27 37 (by decide) (fun c_2 => ?_) (fun c_2 => ?_)
    · have nc_2 := Int32.not_lt.mpr c_2
      refine x_iconst C d_Mo_stroll_37 (v := 0) (by decide) ?_
      refine x_topi (show (0 : Int32) = nI 0 by decide) ?_
      refine x_istore_n C d_Mo_stroll_38 rfl (by decide) (lv' := [(2, .int (nI 0)), (0, .ref (Z.2.1 (0))), (1, .int (nI mq))]) rfl ?_
      have LP_39 : ∀ (f_ i : Nat), i ≤ mq → mq - i < f_ → WX X 5 yM Z (QX X yM Z (QkI yM Z (if ¬ (1 ≤ (nI mq) ∧ (nI mq) ≤ 20) then (-1000001) else if 99999 < g 0 0 + (nI mq) then (-1000005) else drsM (g 0) (nI mq).toNatClampNeg 3) (fun u => ∃ ρ : Nat → Int32, u = va_up (if ¬ (1 ≤ (nI mq) ∧ (nI mq) ≤ 20) then va_up g 4 (mfnR (g 4) 0) else if 99999 < g 0 0 + (nI mq) then va_up g 4 (mfnR (g 4) 4) else va_up g 0 (drsM (g 0) (nI mq).toNatClampNeg)) 2 ρ))) (va_up g 0 (drsM (g 0) (i))) 39 [(2, .int (nI i)), (0, .ref (Z.2.1 (0))), (1, .int (nI mq))] [] := by
        intro f_
        induction f_ with
        | zero => intro i h1_ h2_; exact absurd h2_ (Nat.not_lt_zero _)
        | succ f_ ih_39 =>
          intro i hi_39 hf_39
          refine x_iload_n C d_Mo_stroll_39 0 rfl rfl ?_
          refine x_iload_n C d_Mo_stroll_40 2 rfl rfl ?_
          refine x_icmp_ge C d_Mo_stroll_41 103 (by decide) (fun c_3 => ?_) (fun c_3 => ?_)
          · have nc_3 := Int32.not_lt.mpr c_3
            have mc_3 : mq ≤ i := (nI_leI (by omega) (by omega)).mp (show nI mq ≤ nI i from c_3)
            have e_i : mq = i := by omega
            subst e_i
            refine x_aload_n C d_Mo_stroll_103 1 rfl rfl ?_
            refine gf_Mo_now C k_791 d_Mo_stroll_104 ?_
            refine x_iconst C d_Mo_stroll_107 (v := 3) (by decide) ?_
            refine al_m_now C 3 (v := (drsM (g 0) (mq)) 3) (by decide) (by first | omega | (simp only [pI]; omega)) (congrFun (va_up_self _ _ _) _) d_Mo_stroll_108 ?_
            exact x_iretK C (by first | with_reducible rfl | (simp [*, -hd]; done) | (simp [*]; done) | (simp_all; done)) (kfinM (G' := va_up g 0 (drsM (g 0) (mq))) (by first | with_reducible rfl | (simp [*, -hd]; done) | (simp [*]; done) | (simp_all; done)) (va_idn (by omega)).symm) d_Mo_stroll_109
          · have nc_3 := Int32.not_le.mp c_3
            have mc_3 : ¬ mq ≤ i := fun z_ => (show ¬ nI mq ≤ nI i from c_3) ((nI_leI (by omega) (by omega)).mpr z_)
            refine x_aload_n C d_Mo_stroll_44 1 rfl rfl ?_
            refine x_callVi C (c_Mo_drawn Z (va_up g 0 (drsM (g 0) (i))) _ (va_up_self _ _ _)) mi_Mo_drawn k_1123 (show 0 < 12 by omega) (m_0 Z _) rfl (As := []) ⟨Nat.le_of_ble_eq_true rfl, Nat.le_of_ble_eq_true rfl⟩ rfl rfl (Nat.le_of_ble_eq_true rfl) d_Mo_stroll_45 ?_
            refine x_eqg (g' := va_up g 0 (upd (drsM (g 0) i) 2 (drw ((drsM (g 0) i) 2)))) (bx_uu _ _ _ _) ?_
            refine x_bipush C d_Mo_stroll_48 (v := 16) (by decide) ?_
            refine x_irem C d_Mo_stroll_50 (by decide) ?_
            refine x_topi (x' := rm16 (ush8 (drw ((drsM (g 0) i) 2)))) rfl ?_
            refine x_istore_n C d_Mo_stroll_51 rfl (by decide) (lv' := [(3, .int (rm16 (ush8 (drw ((drsM (g 0) i) 2))))), (2, .int (nI i)), (0, .ref (Z.2.1 (0))), (1, .int (nI mq))]) rfl ?_
            refine x_aload_n C d_Mo_stroll_52 2 rfl rfl ?_
            refine gf_Mo_now C k_791 d_Mo_stroll_53 ?_
            refine x_aload_n C d_Mo_stroll_56 2 rfl rfl ?_
            refine x_callVi C (c_Mo_placeNow Z (va_up g 0 (upd (drsM (g 0) i) 2 (drw ((drsM (g 0) i) 2)))) _ (va_up_self _ _ _) (okR_upd (okR_drsM hk0 _) (by decide))) mi_Mo_placeNow k_969 (show 0 < 12 by omega) (m_0 Z _) rfl (As := []) ⟨Nat.le_of_ble_eq_true rfl, Nat.le_of_ble_eq_true rfl⟩ rfl rfl (Nat.le_of_ble_eq_true rfl) d_Mo_stroll_57 ?_
            refine x_topi (x' := nI (4 + dy (drsM (g 0) i) % 6)) (by rw [dy_upd (by decide)]) ?_
            refine x_iload_n C d_Mo_stroll_60 0 rfl rfl ?_
            refine as_m_now C (4 + dy (drsM (g 0) i) % 6) (v := rm16 (ush8 (drw ((drsM (g 0) i) 2)))) rfl (by first | omega | (simp only [pI]; omega)) (G := va_up g 0 (upd (upd (drsM (g 0) i) 2 (drw ((drsM (g 0) i) 2))) (4 + dy (drsM (g 0) i) % 6) (rm16 (ush8 (drw ((drsM (g 0) i) 2)))))) up_va d_Mo_stroll_61 ?_
            have hR2 : (upd (upd (drsM (g 0) i) 2 (drw ((drsM (g 0) i) 2))) (4 + dy (drsM (g 0) i) % 6) (rm16 (ush8 (drw ((drsM (g 0) i) 2))))) 2 = drw ((drsM (g 0) i) 2) := (pk_un (by omega)).trans pk_us
            have hR1b : (upd (upd (drsM (g 0) i) 2 (drw ((drsM (g 0) i) 2))) (4 + dy (drsM (g 0) i) % 6) (rm16 (ush8 (drw ((drsM (g 0) i) 2))))) 1 = nI n := (pk_un (by omega)).trans ((pk_un (by decide)).trans (drsM_1.trans hn))
            have hR1 : (upd (upd (upd (drsM (g 0) i) 2 (drw ((drsM (g 0) i) 2))) (4 + dy (drsM (g 0) i) % 6) (rm16 (ush8 (drw ((drsM (g 0) i) 2))))) 2 (drw (drw ((drsM (g 0) i) 2)))) 1 = nI n := (pk_un (by decide)).trans hR1b
            refine x_aload_n C d_Mo_stroll_62 2 rfl rfl ?_
            refine x_callVi C (c_Mo_drawn Z (va_up g 0 (upd (upd (drsM (g 0) i) 2 (drw ((drsM (g 0) i) 2))) (4 + dy (drsM (g 0) i) % 6) (rm16 (ush8 (drw ((drsM (g 0) i) 2)))))) _ (va_up_self _ _ _)) mi_Mo_drawn k_1123 (show 0 < 12 by omega) (m_0 Z _) rfl (As := []) ⟨Nat.le_of_ble_eq_true rfl, Nat.le_of_ble_eq_true rfl⟩ rfl rfl (Nat.le_of_ble_eq_true rfl) d_Mo_stroll_63 ?_
            refine x_eqg (g' := va_up g 0 (upd (upd (upd (drsM (g 0) i) 2 (drw ((drsM (g 0) i) 2))) (4 + dy (drsM (g 0) i) % 6) (rm16 (ush8 (drw ((drsM (g 0) i) 2))))) 2 (drw (drw ((drsM (g 0) i) 2))))) (by rw [bx_uu, hR2]) ?_
            refine x_topi (x' := ush8 (drw (drw ((drsM (g 0) i) 2)))) (by rw [hR2]) ?_
            refine x_bipush C d_Mo_stroll_66 (v := 8) (by decide) ?_
            refine x_irem C d_Mo_stroll_68 (by decide) ?_
            refine x_topi (x' := rm8 (ush8 (drw (drw ((drsM (g 0) i) 2))))) rfl ?_
            refine x_istore C d_Mo_stroll_69 (by decide) (lv' := [(4, .int (rm8 (ush8 (drw (drw ((drsM (g 0) i) 2)))))), (3, .int (rm16 (ush8 (drw ((drsM (g 0) i) 2))))), (2, .int (nI i)), (0, .ref (Z.2.1 (0))), (1, .int (nI mq))]) rfl ?_
            have J_93 : WX X 5 yM Z (QX X yM Z (QkI yM Z (if ¬ (1 ≤ (nI mq) ∧ (nI mq) ≤ 20) then (-1000001) else if 99999 < g 0 0 + (nI mq) then (-1000005) else drsM (g 0) (nI mq).toNatClampNeg 3) (fun u => ∃ ρ : Nat → Int32, u = va_up (if ¬ (1 ≤ (nI mq) ∧ (nI mq) ≤ 20) then va_up g 4 (mfnR (g 4) 0) else if 99999 < g 0 0 + (nI mq) then va_up g 4 (mfnR (g 4) 4) else va_up g 0 (drsM (g 0) (nI mq).toNatClampNeg)) 2 ρ))) (va_up g 0 (drnR (drsM (g 0) i))) 93 [(2, .int (nI i)), (0, .ref (Z.2.1 (0))), (1, .int (nI mq))] [] := by
              refine x_aload_n C d_Mo_stroll_93 1 rfl rfl ?_
              refine x_callVv C (c_Mo_day Z (va_up g 0 (drnR (drsM (g 0) i))) _ (va_up_self _ _ _) (okR_drn (okR_drsM hk0 _))) mi_Mo_day k_965 (show 0 < 12 by omega) (m_0 Z _) rfl (As := []) ⟨Nat.le_of_ble_eq_true rfl, Nat.le_of_ble_eq_true rfl⟩ rfl rfl (Nat.le_of_ble_eq_true rfl) d_Mo_stroll_94 ?_
              refine x_eqg (g' := va_up g 0 (drsM (g 0) (i + 1))) (bx_uu _ _ _ _) ?_
              refine x_iinc C d_Mo_stroll_97 0 rfl (v := nI (i + 1)) (nI_1 _) (by decide) (lv' := [(2, .int (nI (i + 1))), (0, .ref (Z.2.1 (0))), (1, .int (nI mq))]) rfl ?_
              refine x_goto C d_Mo_stroll_100 39 (by decide) ?_
              exact ih_39 (i + 1) (by omega) (by omega)
            refine x_aload_n C d_Mo_stroll_71 3 rfl rfl ?_
            refine x_iload C d_Mo_stroll_72 0 rfl ?_
            refine x_callVi C (c_Mo_isPerson Z (rm8 (ush8 (drw (drw ((drsM (g 0) i) 2))))) n (by omega) (va_up g 0 (upd (upd (upd (drsM (g 0) i) 2 (drw ((drsM (g 0) i) 2))) (4 + dy (drsM (g 0) i) % 6) (rm16 (ush8 (drw ((drsM (g 0) i) 2))))) 2 (drw (drw ((drsM (g 0) i) 2))))) (Eq.trans (Eq.trans (congrFun (va_up_self _ _ _) _) (pk_un (by first | decide | (simp only [pI]; omega)))) hR1b)) mi_Mo_isPerson k_907 (show 0 < 12 by omega) (m_0 Z _) rfl (As := [.int (rm8 (ush8 (drw (drw ((drsM (g 0) i) 2)))))]) ⟨Nat.le_of_ble_eq_true rfl, Nat.le_of_ble_eq_true rfl⟩ rfl rfl (Nat.le_of_ble_eq_true rfl) d_Mo_stroll_74 ?_
            refine x_ifeqB C d_Mo_stroll_77 93 (by decide) (fun c_4 => ?_) (fun c_4 => ?_)
            · refine x_lv [2, 3, 4] (lv' := [(2, .int (nI i)), (0, .ref (Z.2.1 (0))), (1, .int (nI mq))]) rfl ?_
              refine x_eqg (g' := va_up g 0 (drnR (drsM (g 0) i))) (by unfold drnR bagR; rw [hR1]; first | rw [if_neg (by assumption)] | (rw [if_pos (by assumption), epp, nI_clamp (by omega)])) ?_
              exact J_93
            · obtain ⟨pp, hpp, epp⟩ : ∃ pp, pp < n ∧ rm8 (ush8 (drw (drw ((drsM (g 0) i) 2)))) = nI pp := in_of (by assumption) (by omega)
              refine x_lve (lv' := [(4, .int (nI pp)), (3, .int (rm16 (ush8 (drw ((drsM (g 0) i) 2))))), (2, .int (nI i)), (0, .ref (Z.2.1 (0))), (1, .int (nI mq))]) (by rw [epp]) ?_
              refine x_aload_n C d_Mo_stroll_80 3 rfl rfl ?_
              refine x_iload C d_Mo_stroll_81 0 rfl ?_
              refine x_iconst C d_Mo_stroll_83 (v := 4) (by decide) ?_
              refine x_callSi C (c_Mo_personAt Z pp 4 (va_up g 0 (upd (upd (upd (drsM (g 0) i) 2 (drw ((drsM (g 0) i) 2))) (4 + dy (drsM (g 0) i) % 6) (rm16 (ush8 (drw ((drsM (g 0) i) 2))))) 2 (drw (drw ((drsM (g 0) i) 2)))))) mi_Mo_personAt k_897 (As := [.int (nI pp), .int (4)]) ⟨Nat.le_of_ble_eq_true rfl, Nat.le_of_ble_eq_true rfl⟩ rfl rfl (Nat.le_of_ble_eq_true rfl) d_Mo_stroll_84 ?_
              refine x_iconst C d_Mo_stroll_87 (v := 1) (by decide) ?_
              refine x_bipush C d_Mo_stroll_88 (v := 9) (by decide) ?_
              refine x_callVv C (c_Mo_more Z (pI pp 4) (by first | omega | (simp only [pI]; omega)) 1 9 (va_up g 0 (upd (upd (upd (drsM (g 0) i) 2 (drw ((drsM (g 0) i) 2))) (4 + dy (drsM (g 0) i) % 6) (rm16 (ush8 (drw ((drsM (g 0) i) 2))))) 2 (drw (drw ((drsM (g 0) i) 2))))) _ (va_up_self _ _ _)) mi_Mo_more k_985 (show 0 < 12 by omega) (m_0 Z _) rfl (As := [.int (nI (pI pp 4)), .int (1), .int (9)]) ⟨Nat.le_of_ble_eq_true rfl, Nat.le_of_ble_eq_true rfl⟩ rfl rfl (Nat.le_of_ble_eq_true rfl) d_Mo_stroll_90 ?_
              refine x_eqg (g' := va_up g 0 (upd (upd (upd (upd (drsM (g 0) i) 2 (drw ((drsM (g 0) i) 2))) (4 + dy (drsM (g 0) i) % 6) (rm16 (ush8 (drw ((drsM (g 0) i) 2))))) 2 (drw (drw ((drsM (g 0) i) 2)))) (pI pp 4) (mn 9 ((upd (upd (upd (drsM (g 0) i) 2 (drw ((drsM (g 0) i) 2))) (4 + dy (drsM (g 0) i) % 6) (rm16 (ush8 (drw ((drsM (g 0) i) 2))))) 2 (drw (drw ((drsM (g 0) i) 2)))) (pI pp 4) + 1)))) (bx_uu _ _ _ _) ?_
              refine x_lv [2, 3, 4] (lv' := [(2, .int (nI i)), (0, .ref (Z.2.1 (0))), (1, .int (nI mq))]) rfl ?_
              refine x_eqg (g' := va_up g 0 (drnR (drsM (g 0) i))) (by unfold drnR bagR; rw [hR1]; first | rw [if_neg (by assumption)] | (rw [if_pos (by assumption), epp, nI_clamp (by omega)])) ?_
              exact J_93
      refine x_eqg (g' := va_up g 0 (drsM (g 0) (0))) (va_id g 0).symm ?_
      exact LP_39 (mq + 1) 0 (Nat.zero_le _) (by omega)
    · have nc_2 := Int32.not_le.mp c_2
      refine x_aload_n C d_Mo_stroll_30 0 rfl rfl ?_
      refine x_ldc C d_Mo_stroll_31 k_960 ?_
      refine x_callVi C (c_Mo_finding_4 Z (g) _ rfl) mi_Mo_finding k_867 (show 0 < 12 by omega) (m_0 Z _) rfl (As := [.int ((-1000005))]) ⟨Nat.le_of_ble_eq_true rfl, Nat.le_of_ble_eq_true rfl⟩ rfl rfl (Nat.le_of_ble_eq_true rfl) d_Mo_stroll_33 ?_
      exact x_iretK C (by first | with_reducible rfl | (simp [*, -hd]; done) | (simp [*]; done) | (simp_all; done)) (kfinM (G' := va_up g 4 (mfnR (g 4) 4)) (by first | with_reducible rfl | (simp [*, -hd]; done) | (simp [*]; done) | (simp_all; done)) (va_idn (by omega)).symm) d_Mo_stroll_36
  · refine x_aload_n C d_Mo_stroll_10 0 rfl rfl ?_
    refine x_ldc C d_Mo_stroll_11 k_866 ?_
    refine x_callVi C (c_Mo_finding_0 Z (g) _ rfl) mi_Mo_finding k_867 (show 0 < 12 by omega) (m_0 Z _) rfl (As := [.int ((-1000001))]) ⟨Nat.le_of_ble_eq_true rfl, Nat.le_of_ble_eq_true rfl⟩ rfl rfl (Nat.le_of_ble_eq_true rfl) d_Mo_stroll_13 ?_
    exact x_iretK C (by first | with_reducible rfl | (simp [*, -hd]; done) | (simp [*]; done) | (simp_all; done)) (kfinM (G' := va_up g 4 (mfnR (g 4) 0)) (by first | with_reducible rfl | (simp [*, -hd]; done) | (simp [*]; done) | (simp_all; done)) (va_idn (by omega)).symm) d_Mo_stroll_16

theorem tp_le2 {L m : Nat} (hL : L ≤ 120) (hm : m ≤ 4) (h : nI m ≤ 120 - nI L) : L + m ≤ 120 := by
  rw [show (120 : Int32) = nI 120 from rfl, pk_sub hL] at h
  have := (nI_leI (by omega) (by omega)).mp h
  omega

set_option maxRecDepth 100000 in
set_option maxHeartbeats 600000 in
theorem c_TP_feed (Z : ZT) (b m : Int32) (g : St)  (hk : okR (g 0)) (hT : ∃ L, L ≤ 120 ∧ g 5 0 = nI L) : CT yC Z y_TP_feed b_TP_feed 3 (some (.int)) 2 43 [.ref (Z.2.1 (0)), .int (b), .int (m)] (g) (QkI yC Z (if ¬ (0 ≤ (m - 1) ∧ (m - 1) ≤ 3) then (-1000001) else if ¬ m ≤ 120 - g 5 0 then (-1000002) else nI ((g 5 0).toNatClampNeg + m.toNatClampNeg)) (fun u => ∃ ρ : Nat → Int32, u = va_up (if ¬ (0 ≤ (m - 1) ∧ (m - 1) ≤ 3) then va_up g 16 (fndR (g 16) 0) else if ¬ m ≤ 120 - g 5 0 then va_up g 16 (fndR (g 16) 1) else va_up (va_up g 6 (appN b (g 5 0).toNatClampNeg m.toNatClampNeg (g 6) m.toNatClampNeg)) 5 (upd (g 5) 0 (nI ((g 5 0).toNatClampNeg + m.toNatClampNeg)))) 1 ρ)) := by
  refine CT.mk "TunnelPeace" (by decide) rfl (Nat.le_of_ble_eq_true rfl) (fun X C => ?_)
  refine x_lv [0, 1, 2] (lv' := [(0, .ref (Z.2.1 (0))), (1, .int (b)), (2, .int (m))]) rfl ?_
  have hk0 := hk
  obtain ⟨⟨n, hn8, hn⟩, dd, hdd, hd⟩ := hk
  obtain ⟨L, hL2, hL⟩ := hT
  refine x_iload_n C d_TP_feed_0 2 rfl rfl ?_
  refine x_iconst C d_TP_feed_1 (v := 1) (by decide) ?_
  refine x_isub C d_TP_feed_2 ?_
  refine x_iconst C d_TP_feed_3 (v := 3) (by decide) ?_
  refine x_callSi C (c_TP_within Z (m - 1) 3 (g)) mi_TP_within k_194 (As := [.int (m - 1), .int (3)]) ⟨Nat.le_of_ble_eq_true rfl, Nat.le_of_ble_eq_true rfl⟩ rfl rfl (Nat.le_of_ble_eq_true rfl) d_TP_feed_4 ?_
  refine x_ifneB C d_TP_feed_7 17 (by decide) (fun c_1 => ?_) (fun c_1 => ?_)
  · refine x_iload_n C d_TP_feed_17 2 rfl rfl ?_
    refine x_bipush C d_TP_feed_18 (v := 120) (by decide) ?_
    refine x_aload_n C d_TP_feed_20 0 rfl rfl ?_
    refine gf_TP_tape C k_170 d_TP_feed_21 ?_
    refine gf_Ta_length C (v := nI L) hL k_123 d_TP_feed_24 ?_
    refine x_isub C d_TP_feed_27 ?_
    refine x_icmp_le C d_TP_feed_28 38 (by decide) (fun c_2 => ?_) (fun c_2 => ?_)
    · have nc_2 := Int32.not_lt.mpr c_2
      obtain ⟨mq, hmq, hmq1, rfl⟩ := in_n1 (by assumption) (m := 3) (by decide)
      have hcm : (nI mq).toNatClampNeg = mq := nI_clamp (by omega)
      have hLm : L + mq ≤ 120 := tp_le2 hL2 (by omega) (by assumption)
      have hcL : (nI L).toNatClampNeg = L := nI_clamp (by omega)
      refine x_aload_n C d_TP_feed_38 0 rfl rfl ?_
      refine gf_TP_tape C k_170 d_TP_feed_39 ?_
      refine x_iload_n C d_TP_feed_42 1 rfl rfl ?_
      refine x_iload_n C d_TP_feed_43 2 rfl rfl ?_
      refine x_callVv C (c_Ta_append Z b mq L (by omega) (by omega) hLm (g) hL) mi_Ta_append k_561 (show 2 < 50 by omega) (e_Ta Z _) rfl (As := [.int (b), .int (nI mq)]) ⟨Nat.le_of_ble_eq_true rfl, Nat.le_of_ble_eq_true rfl⟩ rfl rfl (Nat.le_of_ble_eq_true rfl) d_TP_feed_44 ?_
      refine x_aload_n C d_TP_feed_47 0 rfl rfl ?_
      refine gf_TP_tape C k_170 d_TP_feed_48 ?_
      refine gf_Ta_length C (v := nI (L + mq)) (Eq.trans (congrFun (va_up_self _ _ _) _) pk_us) k_123 d_TP_feed_51 ?_
      exact x_iretK C (by first | with_reducible rfl | (simp [*]; done) | (simp_all; done)) (kfin (G' := va_up (va_up g 6 (appN b L mq (g 6) mq)) 5 (upd (g 5) 0 (nI (L + mq)))) (by first | with_reducible rfl | (simp [*]; done) | (simp_all; done)) (va_idnn (by omega) (by omega)).symm) d_TP_feed_54
    · have nc_2 := Int32.not_le.mp c_2
      refine x_aload_n C d_TP_feed_31 0 rfl rfl ?_
      refine x_ldc C d_TP_feed_32 k_218 ?_
      refine x_callVi C (c_TP_found_1 Z (g) _ rfl) mi_TP_found k_198 (show 0 < 50 by omega) (e_TP Z _) rfl (As := [.int ((-1000002))]) ⟨Nat.le_of_ble_eq_true rfl, Nat.le_of_ble_eq_true rfl⟩ rfl rfl (Nat.le_of_ble_eq_true rfl) d_TP_feed_34 ?_
      exact x_iretK C (by first | with_reducible rfl | (simp [*]; done) | (simp_all; done)) (kfin (G' := va_up g 16 (fndR (g 16) 1)) (by first | with_reducible rfl | (simp [*]; done) | (simp_all; done)) (va_idn (by omega)).symm) d_TP_feed_37
  · refine x_aload_n C d_TP_feed_10 0 rfl rfl ?_
    refine x_ldc C d_TP_feed_11 k_197 ?_
    refine x_callVi C (c_TP_found_0 Z (g) _ rfl) mi_TP_found k_198 (show 0 < 50 by omega) (e_TP Z _) rfl (As := [.int ((-1000001))]) ⟨Nat.le_of_ble_eq_true rfl, Nat.le_of_ble_eq_true rfl⟩ rfl rfl (Nat.le_of_ble_eq_true rfl) d_TP_feed_13 ?_
    exact x_iretK C (by first | with_reducible rfl | (simp [*]; done) | (simp_all; done)) (kfin (G' := va_up g 16 (fndR (g 16) 0)) (by first | with_reducible rfl | (simp [*]; done) | (simp_all; done)) (va_idn (by omega)).symm) d_TP_feed_16

set_option maxRecDepth 100000 in
set_option maxHeartbeats 600000 in
theorem c_TP_commonDivisor (Z : ZT) (k : Nat) (hk : k ≤ 16) (g : St)  : CT yC Z y_TP_commonDivisor b_TP_commonDivisor 3 (some (.int)) 1 21 [.int (nI k), .int (16)] (g) (QcI yC Z (nI (Nat.gcd k 16)) (g)) := by
  refine CT.mk "TunnelPeace" (by decide) rfl (Nat.le_of_ble_eq_true rfl) (fun X C => ?_)
  refine x_lv [0, 1] (lv' := [(0, .int (nI k)), (1, .int (16))]) rfl ?_
  rcases (show k = 0 ∨ k = 1 ∨ k = 2 ∨ k = 3 ∨ k = 4 ∨ k = 5 ∨ k = 6 ∨ k = 7 ∨ k = 8 ∨ k = 9 ∨ k = 10 ∨ k = 11 ∨ k = 12 ∨ k = 13 ∨ k = 14 ∨ k = 15 ∨ k = 16 by omega) with rfl | rfl | rfl | rfl | rfl | rfl | rfl | rfl | rfl | rfl | rfl | rfl | rfl | rfl | rfl | rfl | rfl
  · refine x_iconst C d_TP_commonDivisor_0 (v := 1) (by decide) ?_
    refine x_iload_n C d_TP_commonDivisor_1 0 rfl rfl ?_
    refine x_iload_n C d_TP_commonDivisor_2 1 rfl rfl ?_
    refine x_mx C k_549 (Nat.le_of_ble_eq_true rfl) (Nat.le_of_ble_eq_true rfl) d_TP_commonDivisor_3 ?_
    refine x_topi (x' := 16) (by decide) ?_
    refine x_mx C k_549 (Nat.le_of_ble_eq_true rfl) (Nat.le_of_ble_eq_true rfl) d_TP_commonDivisor_6 ?_
    refine x_topi (x' := 16) (by decide) ?_
    refine x_istore_n C d_TP_commonDivisor_9 rfl (by decide) (lv' := [(2, .int (16)), (0, .int (nI 0)), (1, .int (16))]) rfl ?_
    refine x_iload_n C d_TP_commonDivisor_10 0 rfl rfl ?_
    refine x_iconst C d_TP_commonDivisor_11 (v := 1) (by decide) ?_
    refine x_icmp_le C d_TP_commonDivisor_12 33 (by decide) (fun c_1 => ?_) (fun c_1 => ?_)
    · exact absurd c_1 (by decide)
    · have nc_1 := Int32.not_le.mp c_1
      refine x_iload_n C d_TP_commonDivisor_15 1 rfl rfl ?_
      refine x_iload_n C d_TP_commonDivisor_16 0 rfl rfl ?_
      refine x_irem C d_TP_commonDivisor_17 (by decide) ?_
      refine x_topi (x' := 0) (by decide) ?_
      refine x_ifne C d_TP_commonDivisor_18 27 (by decide) (fun c_2 => ?_) (fun c_2 => ?_)
      · exact absurd c_2 (by decide)
      · refine x_iload_n C d_TP_commonDivisor_21 2 rfl rfl ?_
        refine x_iload_n C d_TP_commonDivisor_22 0 rfl rfl ?_
        refine x_irem C d_TP_commonDivisor_23 (by decide) ?_
        refine x_topi (x' := 0) (by decide) ?_
        refine x_ifeq C d_TP_commonDivisor_24 33 (by decide) (fun c_3 => ?_) (fun c_3 => ?_)
        · refine x_iload_n C d_TP_commonDivisor_33 0 rfl rfl ?_
          exact x_iret C (by decide) rfl d_TP_commonDivisor_34
        · exact absurd c_3 (by decide)
  · refine x_iconst C d_TP_commonDivisor_0 (v := 1) (by decide) ?_
    refine x_iload_n C d_TP_commonDivisor_1 0 rfl rfl ?_
    refine x_iload_n C d_TP_commonDivisor_2 1 rfl rfl ?_
    refine x_mx C k_549 (Nat.le_of_ble_eq_true rfl) (Nat.le_of_ble_eq_true rfl) d_TP_commonDivisor_3 ?_
    refine x_topi (x' := 16) (by decide) ?_
    refine x_mx C k_549 (Nat.le_of_ble_eq_true rfl) (Nat.le_of_ble_eq_true rfl) d_TP_commonDivisor_6 ?_
    refine x_topi (x' := 16) (by decide) ?_
    refine x_istore_n C d_TP_commonDivisor_9 rfl (by decide) (lv' := [(2, .int (16)), (0, .int (nI 1)), (1, .int (16))]) rfl ?_
    refine x_iload_n C d_TP_commonDivisor_10 0 rfl rfl ?_
    refine x_iconst C d_TP_commonDivisor_11 (v := 1) (by decide) ?_
    refine x_icmp_le C d_TP_commonDivisor_12 33 (by decide) (fun c_4 => ?_) (fun c_4 => ?_)
    · exact absurd c_4 (by decide)
    · have nc_4 := Int32.not_le.mp c_4
      refine x_iload_n C d_TP_commonDivisor_15 1 rfl rfl ?_
      refine x_iload_n C d_TP_commonDivisor_16 0 rfl rfl ?_
      refine x_irem C d_TP_commonDivisor_17 (by decide) ?_
      refine x_topi (x' := 1) (by decide) ?_
      refine x_ifne C d_TP_commonDivisor_18 27 (by decide) (fun c_5 => ?_) (fun c_5 => ?_)
      · refine x_iinc C d_TP_commonDivisor_27 0 rfl (v := 15) (by decide) (by decide) (lv' := [(2, .int (15)), (0, .int (nI 1)), (1, .int (16))]) rfl ?_
        refine x_goto C d_TP_commonDivisor_30 10 (by decide) ?_
        refine x_iload_n C d_TP_commonDivisor_10 0 rfl rfl ?_
        refine x_iconst C d_TP_commonDivisor_11 (v := 1) (by decide) ?_
        refine x_icmp_le C d_TP_commonDivisor_12 33 (by decide) (fun c_6 => ?_) (fun c_6 => ?_)
        · exact absurd c_6 (by decide)
        · have nc_6 := Int32.not_le.mp c_6
          refine x_iload_n C d_TP_commonDivisor_15 1 rfl rfl ?_
          refine x_iload_n C d_TP_commonDivisor_16 0 rfl rfl ?_
          refine x_irem C d_TP_commonDivisor_17 (by decide) ?_
          refine x_topi (x' := 1) (by decide) ?_
          refine x_ifne C d_TP_commonDivisor_18 27 (by decide) (fun c_7 => ?_) (fun c_7 => ?_)
          · refine x_iinc C d_TP_commonDivisor_27 0 rfl (v := 14) (by decide) (by decide) (lv' := [(2, .int (14)), (0, .int (nI 1)), (1, .int (16))]) rfl ?_
            refine x_goto C d_TP_commonDivisor_30 10 (by decide) ?_
            refine x_iload_n C d_TP_commonDivisor_10 0 rfl rfl ?_
            refine x_iconst C d_TP_commonDivisor_11 (v := 1) (by decide) ?_
            refine x_icmp_le C d_TP_commonDivisor_12 33 (by decide) (fun c_8 => ?_) (fun c_8 => ?_)
            · exact absurd c_8 (by decide)
            · have nc_8 := Int32.not_le.mp c_8
              refine x_iload_n C d_TP_commonDivisor_15 1 rfl rfl ?_
              refine x_iload_n C d_TP_commonDivisor_16 0 rfl rfl ?_
              refine x_irem C d_TP_commonDivisor_17 (by decide) ?_
              refine x_topi (x' := 1) (by decide) ?_
              refine x_ifne C d_TP_commonDivisor_18 27 (by decide) (fun c_9 => ?_) (fun c_9 => ?_)
              · refine x_iinc C d_TP_commonDivisor_27 0 rfl (v := 13) (by decide) (by decide) (lv' := [(2, .int (13)), (0, .int (nI 1)), (1, .int (16))]) rfl ?_
                refine x_goto C d_TP_commonDivisor_30 10 (by decide) ?_
                refine x_iload_n C d_TP_commonDivisor_10 0 rfl rfl ?_
                refine x_iconst C d_TP_commonDivisor_11 (v := 1) (by decide) ?_
                refine x_icmp_le C d_TP_commonDivisor_12 33 (by decide) (fun c_10 => ?_) (fun c_10 => ?_)
                · exact absurd c_10 (by decide)
                · have nc_10 := Int32.not_le.mp c_10
                  refine x_iload_n C d_TP_commonDivisor_15 1 rfl rfl ?_
                  refine x_iload_n C d_TP_commonDivisor_16 0 rfl rfl ?_
                  refine x_irem C d_TP_commonDivisor_17 (by decide) ?_
                  refine x_topi (x' := 1) (by decide) ?_
                  refine x_ifne C d_TP_commonDivisor_18 27 (by decide) (fun c_11 => ?_) (fun c_11 => ?_)
                  · refine x_iinc C d_TP_commonDivisor_27 0 rfl (v := 12) (by decide) (by decide) (lv' := [(2, .int (12)), (0, .int (nI 1)), (1, .int (16))]) rfl ?_
                    refine x_goto C d_TP_commonDivisor_30 10 (by decide) ?_
                    refine x_iload_n C d_TP_commonDivisor_10 0 rfl rfl ?_
                    refine x_iconst C d_TP_commonDivisor_11 (v := 1) (by decide) ?_
                    refine x_icmp_le C d_TP_commonDivisor_12 33 (by decide) (fun c_12 => ?_) (fun c_12 => ?_)
                    · exact absurd c_12 (by decide)
                    · have nc_12 := Int32.not_le.mp c_12
                      refine x_iload_n C d_TP_commonDivisor_15 1 rfl rfl ?_
                      refine x_iload_n C d_TP_commonDivisor_16 0 rfl rfl ?_
                      refine x_irem C d_TP_commonDivisor_17 (by decide) ?_
                      refine x_topi (x' := 1) (by decide) ?_
                      refine x_ifne C d_TP_commonDivisor_18 27 (by decide) (fun c_13 => ?_) (fun c_13 => ?_)
                      · refine x_iinc C d_TP_commonDivisor_27 0 rfl (v := 11) (by decide) (by decide) (lv' := [(2, .int (11)), (0, .int (nI 1)), (1, .int (16))]) rfl ?_
                        refine x_goto C d_TP_commonDivisor_30 10 (by decide) ?_
                        refine x_iload_n C d_TP_commonDivisor_10 0 rfl rfl ?_
                        refine x_iconst C d_TP_commonDivisor_11 (v := 1) (by decide) ?_
                        refine x_icmp_le C d_TP_commonDivisor_12 33 (by decide) (fun c_14 => ?_) (fun c_14 => ?_)
                        · exact absurd c_14 (by decide)
                        · have nc_14 := Int32.not_le.mp c_14
                          refine x_iload_n C d_TP_commonDivisor_15 1 rfl rfl ?_
                          refine x_iload_n C d_TP_commonDivisor_16 0 rfl rfl ?_
                          refine x_irem C d_TP_commonDivisor_17 (by decide) ?_
                          refine x_topi (x' := 1) (by decide) ?_
                          refine x_ifne C d_TP_commonDivisor_18 27 (by decide) (fun c_15 => ?_) (fun c_15 => ?_)
                          · refine x_iinc C d_TP_commonDivisor_27 0 rfl (v := 10) (by decide) (by decide) (lv' := [(2, .int (10)), (0, .int (nI 1)), (1, .int (16))]) rfl ?_
                            refine x_goto C d_TP_commonDivisor_30 10 (by decide) ?_
                            refine x_iload_n C d_TP_commonDivisor_10 0 rfl rfl ?_
                            refine x_iconst C d_TP_commonDivisor_11 (v := 1) (by decide) ?_
                            refine x_icmp_le C d_TP_commonDivisor_12 33 (by decide) (fun c_16 => ?_) (fun c_16 => ?_)
                            · exact absurd c_16 (by decide)
                            · have nc_16 := Int32.not_le.mp c_16
                              refine x_iload_n C d_TP_commonDivisor_15 1 rfl rfl ?_
                              refine x_iload_n C d_TP_commonDivisor_16 0 rfl rfl ?_
                              refine x_irem C d_TP_commonDivisor_17 (by decide) ?_
                              refine x_topi (x' := 1) (by decide) ?_
                              refine x_ifne C d_TP_commonDivisor_18 27 (by decide) (fun c_17 => ?_) (fun c_17 => ?_)
                              · refine x_iinc C d_TP_commonDivisor_27 0 rfl (v := 9) (by decide) (by decide) (lv' := [(2, .int (9)), (0, .int (nI 1)), (1, .int (16))]) rfl ?_
                                refine x_goto C d_TP_commonDivisor_30 10 (by decide) ?_
                                refine x_iload_n C d_TP_commonDivisor_10 0 rfl rfl ?_
                                refine x_iconst C d_TP_commonDivisor_11 (v := 1) (by decide) ?_
                                refine x_icmp_le C d_TP_commonDivisor_12 33 (by decide) (fun c_18 => ?_) (fun c_18 => ?_)
                                · exact absurd c_18 (by decide)
                                · have nc_18 := Int32.not_le.mp c_18
                                  refine x_iload_n C d_TP_commonDivisor_15 1 rfl rfl ?_
                                  refine x_iload_n C d_TP_commonDivisor_16 0 rfl rfl ?_
                                  refine x_irem C d_TP_commonDivisor_17 (by decide) ?_
                                  refine x_topi (x' := 1) (by decide) ?_
                                  refine x_ifne C d_TP_commonDivisor_18 27 (by decide) (fun c_19 => ?_) (fun c_19 => ?_)
                                  · refine x_iinc C d_TP_commonDivisor_27 0 rfl (v := 8) (by decide) (by decide) (lv' := [(2, .int (8)), (0, .int (nI 1)), (1, .int (16))]) rfl ?_
                                    refine x_goto C d_TP_commonDivisor_30 10 (by decide) ?_
                                    refine x_iload_n C d_TP_commonDivisor_10 0 rfl rfl ?_
                                    refine x_iconst C d_TP_commonDivisor_11 (v := 1) (by decide) ?_
                                    refine x_icmp_le C d_TP_commonDivisor_12 33 (by decide) (fun c_20 => ?_) (fun c_20 => ?_)
                                    · exact absurd c_20 (by decide)
                                    · have nc_20 := Int32.not_le.mp c_20
                                      refine x_iload_n C d_TP_commonDivisor_15 1 rfl rfl ?_
                                      refine x_iload_n C d_TP_commonDivisor_16 0 rfl rfl ?_
                                      refine x_irem C d_TP_commonDivisor_17 (by decide) ?_
                                      refine x_topi (x' := 1) (by decide) ?_
                                      refine x_ifne C d_TP_commonDivisor_18 27 (by decide) (fun c_21 => ?_) (fun c_21 => ?_)
                                      · refine x_iinc C d_TP_commonDivisor_27 0 rfl (v := 7) (by decide) (by decide) (lv' := [(2, .int (7)), (0, .int (nI 1)), (1, .int (16))]) rfl ?_
                                        refine x_goto C d_TP_commonDivisor_30 10 (by decide) ?_
                                        refine x_iload_n C d_TP_commonDivisor_10 0 rfl rfl ?_
                                        refine x_iconst C d_TP_commonDivisor_11 (v := 1) (by decide) ?_
                                        refine x_icmp_le C d_TP_commonDivisor_12 33 (by decide) (fun c_22 => ?_) (fun c_22 => ?_)
                                        · exact absurd c_22 (by decide)
                                        · have nc_22 := Int32.not_le.mp c_22
                                          refine x_iload_n C d_TP_commonDivisor_15 1 rfl rfl ?_
                                          refine x_iload_n C d_TP_commonDivisor_16 0 rfl rfl ?_
                                          refine x_irem C d_TP_commonDivisor_17 (by decide) ?_
                                          refine x_topi (x' := 1) (by decide) ?_
                                          refine x_ifne C d_TP_commonDivisor_18 27 (by decide) (fun c_23 => ?_) (fun c_23 => ?_)
                                          · refine x_iinc C d_TP_commonDivisor_27 0 rfl (v := 6) (by decide) (by decide) (lv' := [(2, .int (6)), (0, .int (nI 1)), (1, .int (16))]) rfl ?_
                                            refine x_goto C d_TP_commonDivisor_30 10 (by decide) ?_
                                            refine x_iload_n C d_TP_commonDivisor_10 0 rfl rfl ?_
                                            refine x_iconst C d_TP_commonDivisor_11 (v := 1) (by decide) ?_
                                            refine x_icmp_le C d_TP_commonDivisor_12 33 (by decide) (fun c_24 => ?_) (fun c_24 => ?_)
                                            · exact absurd c_24 (by decide)
                                            · have nc_24 := Int32.not_le.mp c_24
                                              refine x_iload_n C d_TP_commonDivisor_15 1 rfl rfl ?_
                                              refine x_iload_n C d_TP_commonDivisor_16 0 rfl rfl ?_
                                              refine x_irem C d_TP_commonDivisor_17 (by decide) ?_
                                              refine x_topi (x' := 1) (by decide) ?_
                                              refine x_ifne C d_TP_commonDivisor_18 27 (by decide) (fun c_25 => ?_) (fun c_25 => ?_)
                                              · refine x_iinc C d_TP_commonDivisor_27 0 rfl (v := 5) (by decide) (by decide) (lv' := [(2, .int (5)), (0, .int (nI 1)), (1, .int (16))]) rfl ?_
                                                refine x_goto C d_TP_commonDivisor_30 10 (by decide) ?_
                                                refine x_iload_n C d_TP_commonDivisor_10 0 rfl rfl ?_
                                                refine x_iconst C d_TP_commonDivisor_11 (v := 1) (by decide) ?_
                                                refine x_icmp_le C d_TP_commonDivisor_12 33 (by decide) (fun c_26 => ?_) (fun c_26 => ?_)
                                                · exact absurd c_26 (by decide)
                                                · have nc_26 := Int32.not_le.mp c_26
                                                  refine x_iload_n C d_TP_commonDivisor_15 1 rfl rfl ?_
                                                  refine x_iload_n C d_TP_commonDivisor_16 0 rfl rfl ?_
                                                  refine x_irem C d_TP_commonDivisor_17 (by decide) ?_
                                                  refine x_topi (x' := 1) (by decide) ?_
                                                  refine x_ifne C d_TP_commonDivisor_18 27 (by decide) (fun c_27 => ?_) (fun c_27 => ?_)
                                                  · refine x_iinc C d_TP_commonDivisor_27 0 rfl (v := 4) (by decide) (by decide) (lv' := [(2, .int (4)), (0, .int (nI 1)), (1, .int (16))]) rfl ?_
                                                    refine x_goto C d_TP_commonDivisor_30 10 (by decide) ?_
                                                    refine x_iload_n C d_TP_commonDivisor_10 0 rfl rfl ?_
                                                    refine x_iconst C d_TP_commonDivisor_11 (v := 1) (by decide) ?_
                                                    refine x_icmp_le C d_TP_commonDivisor_12 33 (by decide) (fun c_28 => ?_) (fun c_28 => ?_)
                                                    · exact absurd c_28 (by decide)
                                                    · have nc_28 := Int32.not_le.mp c_28
                                                      refine x_iload_n C d_TP_commonDivisor_15 1 rfl rfl ?_
                                                      refine x_iload_n C d_TP_commonDivisor_16 0 rfl rfl ?_
                                                      refine x_irem C d_TP_commonDivisor_17 (by decide) ?_
                                                      refine x_topi (x' := 1) (by decide) ?_
                                                      refine x_ifne C d_TP_commonDivisor_18 27 (by decide) (fun c_29 => ?_) (fun c_29 => ?_)
                                                      · refine x_iinc C d_TP_commonDivisor_27 0 rfl (v := 3) (by decide) (by decide) (lv' := [(2, .int (3)), (0, .int (nI 1)), (1, .int (16))]) rfl ?_
                                                        refine x_goto C d_TP_commonDivisor_30 10 (by decide) ?_
                                                        refine x_iload_n C d_TP_commonDivisor_10 0 rfl rfl ?_
                                                        refine x_iconst C d_TP_commonDivisor_11 (v := 1) (by decide) ?_
                                                        refine x_icmp_le C d_TP_commonDivisor_12 33 (by decide) (fun c_30 => ?_) (fun c_30 => ?_)
                                                        · exact absurd c_30 (by decide)
                                                        · have nc_30 := Int32.not_le.mp c_30
                                                          refine x_iload_n C d_TP_commonDivisor_15 1 rfl rfl ?_
                                                          refine x_iload_n C d_TP_commonDivisor_16 0 rfl rfl ?_
                                                          refine x_irem C d_TP_commonDivisor_17 (by decide) ?_
                                                          refine x_topi (x' := 1) (by decide) ?_
                                                          refine x_ifne C d_TP_commonDivisor_18 27 (by decide) (fun c_31 => ?_) (fun c_31 => ?_)
                                                          · refine x_iinc C d_TP_commonDivisor_27 0 rfl (v := 2) (by decide) (by decide) (lv' := [(2, .int (2)), (0, .int (nI 1)), (1, .int (16))]) rfl ?_
                                                            refine x_goto C d_TP_commonDivisor_30 10 (by decide) ?_
                                                            refine x_iload_n C d_TP_commonDivisor_10 0 rfl rfl ?_
                                                            refine x_iconst C d_TP_commonDivisor_11 (v := 1) (by decide) ?_
                                                            refine x_icmp_le C d_TP_commonDivisor_12 33 (by decide) (fun c_32 => ?_) (fun c_32 => ?_)
                                                            · exact absurd c_32 (by decide)
                                                            · have nc_32 := Int32.not_le.mp c_32
                                                              refine x_iload_n C d_TP_commonDivisor_15 1 rfl rfl ?_
                                                              refine x_iload_n C d_TP_commonDivisor_16 0 rfl rfl ?_
                                                              refine x_irem C d_TP_commonDivisor_17 (by decide) ?_
                                                              refine x_topi (x' := 1) (by decide) ?_
                                                              refine x_ifne C d_TP_commonDivisor_18 27 (by decide) (fun c_33 => ?_) (fun c_33 => ?_)
                                                              · refine x_iinc C d_TP_commonDivisor_27 0 rfl (v := 1) (by decide) (by decide) (lv' := [(2, .int (1)), (0, .int (nI 1)), (1, .int (16))]) rfl ?_
                                                                refine x_goto C d_TP_commonDivisor_30 10 (by decide) ?_
                                                                refine x_iload_n C d_TP_commonDivisor_10 0 rfl rfl ?_
                                                                refine x_iconst C d_TP_commonDivisor_11 (v := 1) (by decide) ?_
                                                                refine x_icmp_le C d_TP_commonDivisor_12 33 (by decide) (fun c_34 => ?_) (fun c_34 => ?_)
                                                                · have nc_34 := Int32.not_lt.mpr c_34
                                                                  refine x_iload_n C d_TP_commonDivisor_33 0 rfl rfl ?_
                                                                  exact x_iret C (by decide) rfl d_TP_commonDivisor_34
                                                                · exact absurd c_34 (by decide)
                                                              · exact absurd c_33 (by decide)
                                                          · exact absurd c_31 (by decide)
                                                      · exact absurd c_29 (by decide)
                                                  · exact absurd c_27 (by decide)
                                              · exact absurd c_25 (by decide)
                                          · exact absurd c_23 (by decide)
                                      · exact absurd c_21 (by decide)
                                  · exact absurd c_19 (by decide)
                              · exact absurd c_17 (by decide)
                          · exact absurd c_15 (by decide)
                      · exact absurd c_13 (by decide)
                  · exact absurd c_11 (by decide)
              · exact absurd c_9 (by decide)
          · exact absurd c_7 (by decide)
      · exact absurd c_5 (by decide)
  · refine x_iconst C d_TP_commonDivisor_0 (v := 1) (by decide) ?_
    refine x_iload_n C d_TP_commonDivisor_1 0 rfl rfl ?_
    refine x_iload_n C d_TP_commonDivisor_2 1 rfl rfl ?_
    refine x_mx C k_549 (Nat.le_of_ble_eq_true rfl) (Nat.le_of_ble_eq_true rfl) d_TP_commonDivisor_3 ?_
    refine x_topi (x' := 16) (by decide) ?_
    refine x_mx C k_549 (Nat.le_of_ble_eq_true rfl) (Nat.le_of_ble_eq_true rfl) d_TP_commonDivisor_6 ?_
    refine x_topi (x' := 16) (by decide) ?_
    refine x_istore_n C d_TP_commonDivisor_9 rfl (by decide) (lv' := [(2, .int (16)), (0, .int (nI 2)), (1, .int (16))]) rfl ?_
    refine x_iload_n C d_TP_commonDivisor_10 0 rfl rfl ?_
    refine x_iconst C d_TP_commonDivisor_11 (v := 1) (by decide) ?_
    refine x_icmp_le C d_TP_commonDivisor_12 33 (by decide) (fun c_35 => ?_) (fun c_35 => ?_)
    · exact absurd c_35 (by decide)
    · have nc_35 := Int32.not_le.mp c_35
      refine x_iload_n C d_TP_commonDivisor_15 1 rfl rfl ?_
      refine x_iload_n C d_TP_commonDivisor_16 0 rfl rfl ?_
      refine x_irem C d_TP_commonDivisor_17 (by decide) ?_
      refine x_topi (x' := 2) (by decide) ?_
      refine x_ifne C d_TP_commonDivisor_18 27 (by decide) (fun c_36 => ?_) (fun c_36 => ?_)
      · refine x_iinc C d_TP_commonDivisor_27 0 rfl (v := 15) (by decide) (by decide) (lv' := [(2, .int (15)), (0, .int (nI 2)), (1, .int (16))]) rfl ?_
        refine x_goto C d_TP_commonDivisor_30 10 (by decide) ?_
        refine x_iload_n C d_TP_commonDivisor_10 0 rfl rfl ?_
        refine x_iconst C d_TP_commonDivisor_11 (v := 1) (by decide) ?_
        refine x_icmp_le C d_TP_commonDivisor_12 33 (by decide) (fun c_37 => ?_) (fun c_37 => ?_)
        · exact absurd c_37 (by decide)
        · have nc_37 := Int32.not_le.mp c_37
          refine x_iload_n C d_TP_commonDivisor_15 1 rfl rfl ?_
          refine x_iload_n C d_TP_commonDivisor_16 0 rfl rfl ?_
          refine x_irem C d_TP_commonDivisor_17 (by decide) ?_
          refine x_topi (x' := 2) (by decide) ?_
          refine x_ifne C d_TP_commonDivisor_18 27 (by decide) (fun c_38 => ?_) (fun c_38 => ?_)
          · refine x_iinc C d_TP_commonDivisor_27 0 rfl (v := 14) (by decide) (by decide) (lv' := [(2, .int (14)), (0, .int (nI 2)), (1, .int (16))]) rfl ?_
            refine x_goto C d_TP_commonDivisor_30 10 (by decide) ?_
            refine x_iload_n C d_TP_commonDivisor_10 0 rfl rfl ?_
            refine x_iconst C d_TP_commonDivisor_11 (v := 1) (by decide) ?_
            refine x_icmp_le C d_TP_commonDivisor_12 33 (by decide) (fun c_39 => ?_) (fun c_39 => ?_)
            · exact absurd c_39 (by decide)
            · have nc_39 := Int32.not_le.mp c_39
              refine x_iload_n C d_TP_commonDivisor_15 1 rfl rfl ?_
              refine x_iload_n C d_TP_commonDivisor_16 0 rfl rfl ?_
              refine x_irem C d_TP_commonDivisor_17 (by decide) ?_
              refine x_topi (x' := 2) (by decide) ?_
              refine x_ifne C d_TP_commonDivisor_18 27 (by decide) (fun c_40 => ?_) (fun c_40 => ?_)
              · refine x_iinc C d_TP_commonDivisor_27 0 rfl (v := 13) (by decide) (by decide) (lv' := [(2, .int (13)), (0, .int (nI 2)), (1, .int (16))]) rfl ?_
                refine x_goto C d_TP_commonDivisor_30 10 (by decide) ?_
                refine x_iload_n C d_TP_commonDivisor_10 0 rfl rfl ?_
                refine x_iconst C d_TP_commonDivisor_11 (v := 1) (by decide) ?_
                refine x_icmp_le C d_TP_commonDivisor_12 33 (by decide) (fun c_41 => ?_) (fun c_41 => ?_)
                · exact absurd c_41 (by decide)
                · have nc_41 := Int32.not_le.mp c_41
                  refine x_iload_n C d_TP_commonDivisor_15 1 rfl rfl ?_
                  refine x_iload_n C d_TP_commonDivisor_16 0 rfl rfl ?_
                  refine x_irem C d_TP_commonDivisor_17 (by decide) ?_
                  refine x_topi (x' := 2) (by decide) ?_
                  refine x_ifne C d_TP_commonDivisor_18 27 (by decide) (fun c_42 => ?_) (fun c_42 => ?_)
                  · refine x_iinc C d_TP_commonDivisor_27 0 rfl (v := 12) (by decide) (by decide) (lv' := [(2, .int (12)), (0, .int (nI 2)), (1, .int (16))]) rfl ?_
                    refine x_goto C d_TP_commonDivisor_30 10 (by decide) ?_
                    refine x_iload_n C d_TP_commonDivisor_10 0 rfl rfl ?_
                    refine x_iconst C d_TP_commonDivisor_11 (v := 1) (by decide) ?_
                    refine x_icmp_le C d_TP_commonDivisor_12 33 (by decide) (fun c_43 => ?_) (fun c_43 => ?_)
                    · exact absurd c_43 (by decide)
                    · have nc_43 := Int32.not_le.mp c_43
                      refine x_iload_n C d_TP_commonDivisor_15 1 rfl rfl ?_
                      refine x_iload_n C d_TP_commonDivisor_16 0 rfl rfl ?_
                      refine x_irem C d_TP_commonDivisor_17 (by decide) ?_
                      refine x_topi (x' := 2) (by decide) ?_
                      refine x_ifne C d_TP_commonDivisor_18 27 (by decide) (fun c_44 => ?_) (fun c_44 => ?_)
                      · refine x_iinc C d_TP_commonDivisor_27 0 rfl (v := 11) (by decide) (by decide) (lv' := [(2, .int (11)), (0, .int (nI 2)), (1, .int (16))]) rfl ?_
                        refine x_goto C d_TP_commonDivisor_30 10 (by decide) ?_
                        refine x_iload_n C d_TP_commonDivisor_10 0 rfl rfl ?_
                        refine x_iconst C d_TP_commonDivisor_11 (v := 1) (by decide) ?_
                        refine x_icmp_le C d_TP_commonDivisor_12 33 (by decide) (fun c_45 => ?_) (fun c_45 => ?_)
                        · exact absurd c_45 (by decide)
                        · have nc_45 := Int32.not_le.mp c_45
                          refine x_iload_n C d_TP_commonDivisor_15 1 rfl rfl ?_
                          refine x_iload_n C d_TP_commonDivisor_16 0 rfl rfl ?_
                          refine x_irem C d_TP_commonDivisor_17 (by decide) ?_
                          refine x_topi (x' := 2) (by decide) ?_
                          refine x_ifne C d_TP_commonDivisor_18 27 (by decide) (fun c_46 => ?_) (fun c_46 => ?_)
                          · refine x_iinc C d_TP_commonDivisor_27 0 rfl (v := 10) (by decide) (by decide) (lv' := [(2, .int (10)), (0, .int (nI 2)), (1, .int (16))]) rfl ?_
                            refine x_goto C d_TP_commonDivisor_30 10 (by decide) ?_
                            refine x_iload_n C d_TP_commonDivisor_10 0 rfl rfl ?_
                            refine x_iconst C d_TP_commonDivisor_11 (v := 1) (by decide) ?_
                            refine x_icmp_le C d_TP_commonDivisor_12 33 (by decide) (fun c_47 => ?_) (fun c_47 => ?_)
                            · exact absurd c_47 (by decide)
                            · have nc_47 := Int32.not_le.mp c_47
                              refine x_iload_n C d_TP_commonDivisor_15 1 rfl rfl ?_
                              refine x_iload_n C d_TP_commonDivisor_16 0 rfl rfl ?_
                              refine x_irem C d_TP_commonDivisor_17 (by decide) ?_
                              refine x_topi (x' := 2) (by decide) ?_
                              refine x_ifne C d_TP_commonDivisor_18 27 (by decide) (fun c_48 => ?_) (fun c_48 => ?_)
                              · refine x_iinc C d_TP_commonDivisor_27 0 rfl (v := 9) (by decide) (by decide) (lv' := [(2, .int (9)), (0, .int (nI 2)), (1, .int (16))]) rfl ?_
                                refine x_goto C d_TP_commonDivisor_30 10 (by decide) ?_
                                refine x_iload_n C d_TP_commonDivisor_10 0 rfl rfl ?_
                                refine x_iconst C d_TP_commonDivisor_11 (v := 1) (by decide) ?_
                                refine x_icmp_le C d_TP_commonDivisor_12 33 (by decide) (fun c_49 => ?_) (fun c_49 => ?_)
                                · exact absurd c_49 (by decide)
                                · have nc_49 := Int32.not_le.mp c_49
                                  refine x_iload_n C d_TP_commonDivisor_15 1 rfl rfl ?_
                                  refine x_iload_n C d_TP_commonDivisor_16 0 rfl rfl ?_
                                  refine x_irem C d_TP_commonDivisor_17 (by decide) ?_
                                  refine x_topi (x' := 2) (by decide) ?_
                                  refine x_ifne C d_TP_commonDivisor_18 27 (by decide) (fun c_50 => ?_) (fun c_50 => ?_)
                                  · refine x_iinc C d_TP_commonDivisor_27 0 rfl (v := 8) (by decide) (by decide) (lv' := [(2, .int (8)), (0, .int (nI 2)), (1, .int (16))]) rfl ?_
                                    refine x_goto C d_TP_commonDivisor_30 10 (by decide) ?_
                                    refine x_iload_n C d_TP_commonDivisor_10 0 rfl rfl ?_
                                    refine x_iconst C d_TP_commonDivisor_11 (v := 1) (by decide) ?_
                                    refine x_icmp_le C d_TP_commonDivisor_12 33 (by decide) (fun c_51 => ?_) (fun c_51 => ?_)
                                    · exact absurd c_51 (by decide)
                                    · have nc_51 := Int32.not_le.mp c_51
                                      refine x_iload_n C d_TP_commonDivisor_15 1 rfl rfl ?_
                                      refine x_iload_n C d_TP_commonDivisor_16 0 rfl rfl ?_
                                      refine x_irem C d_TP_commonDivisor_17 (by decide) ?_
                                      refine x_topi (x' := 2) (by decide) ?_
                                      refine x_ifne C d_TP_commonDivisor_18 27 (by decide) (fun c_52 => ?_) (fun c_52 => ?_)
                                      · refine x_iinc C d_TP_commonDivisor_27 0 rfl (v := 7) (by decide) (by decide) (lv' := [(2, .int (7)), (0, .int (nI 2)), (1, .int (16))]) rfl ?_
                                        refine x_goto C d_TP_commonDivisor_30 10 (by decide) ?_
                                        refine x_iload_n C d_TP_commonDivisor_10 0 rfl rfl ?_
                                        refine x_iconst C d_TP_commonDivisor_11 (v := 1) (by decide) ?_
                                        refine x_icmp_le C d_TP_commonDivisor_12 33 (by decide) (fun c_53 => ?_) (fun c_53 => ?_)
                                        · exact absurd c_53 (by decide)
                                        · have nc_53 := Int32.not_le.mp c_53
                                          refine x_iload_n C d_TP_commonDivisor_15 1 rfl rfl ?_
                                          refine x_iload_n C d_TP_commonDivisor_16 0 rfl rfl ?_
                                          refine x_irem C d_TP_commonDivisor_17 (by decide) ?_
                                          refine x_topi (x' := 2) (by decide) ?_
                                          refine x_ifne C d_TP_commonDivisor_18 27 (by decide) (fun c_54 => ?_) (fun c_54 => ?_)
                                          · refine x_iinc C d_TP_commonDivisor_27 0 rfl (v := 6) (by decide) (by decide) (lv' := [(2, .int (6)), (0, .int (nI 2)), (1, .int (16))]) rfl ?_
                                            refine x_goto C d_TP_commonDivisor_30 10 (by decide) ?_
                                            refine x_iload_n C d_TP_commonDivisor_10 0 rfl rfl ?_
                                            refine x_iconst C d_TP_commonDivisor_11 (v := 1) (by decide) ?_
                                            refine x_icmp_le C d_TP_commonDivisor_12 33 (by decide) (fun c_55 => ?_) (fun c_55 => ?_)
                                            · exact absurd c_55 (by decide)
                                            · have nc_55 := Int32.not_le.mp c_55
                                              refine x_iload_n C d_TP_commonDivisor_15 1 rfl rfl ?_
                                              refine x_iload_n C d_TP_commonDivisor_16 0 rfl rfl ?_
                                              refine x_irem C d_TP_commonDivisor_17 (by decide) ?_
                                              refine x_topi (x' := 2) (by decide) ?_
                                              refine x_ifne C d_TP_commonDivisor_18 27 (by decide) (fun c_56 => ?_) (fun c_56 => ?_)
                                              · refine x_iinc C d_TP_commonDivisor_27 0 rfl (v := 5) (by decide) (by decide) (lv' := [(2, .int (5)), (0, .int (nI 2)), (1, .int (16))]) rfl ?_
                                                refine x_goto C d_TP_commonDivisor_30 10 (by decide) ?_
                                                refine x_iload_n C d_TP_commonDivisor_10 0 rfl rfl ?_
                                                refine x_iconst C d_TP_commonDivisor_11 (v := 1) (by decide) ?_
                                                refine x_icmp_le C d_TP_commonDivisor_12 33 (by decide) (fun c_57 => ?_) (fun c_57 => ?_)
                                                · exact absurd c_57 (by decide)
                                                · have nc_57 := Int32.not_le.mp c_57
                                                  refine x_iload_n C d_TP_commonDivisor_15 1 rfl rfl ?_
                                                  refine x_iload_n C d_TP_commonDivisor_16 0 rfl rfl ?_
                                                  refine x_irem C d_TP_commonDivisor_17 (by decide) ?_
                                                  refine x_topi (x' := 2) (by decide) ?_
                                                  refine x_ifne C d_TP_commonDivisor_18 27 (by decide) (fun c_58 => ?_) (fun c_58 => ?_)
                                                  · refine x_iinc C d_TP_commonDivisor_27 0 rfl (v := 4) (by decide) (by decide) (lv' := [(2, .int (4)), (0, .int (nI 2)), (1, .int (16))]) rfl ?_
                                                    refine x_goto C d_TP_commonDivisor_30 10 (by decide) ?_
                                                    refine x_iload_n C d_TP_commonDivisor_10 0 rfl rfl ?_
                                                    refine x_iconst C d_TP_commonDivisor_11 (v := 1) (by decide) ?_
                                                    refine x_icmp_le C d_TP_commonDivisor_12 33 (by decide) (fun c_59 => ?_) (fun c_59 => ?_)
                                                    · exact absurd c_59 (by decide)
                                                    · have nc_59 := Int32.not_le.mp c_59
                                                      refine x_iload_n C d_TP_commonDivisor_15 1 rfl rfl ?_
                                                      refine x_iload_n C d_TP_commonDivisor_16 0 rfl rfl ?_
                                                      refine x_irem C d_TP_commonDivisor_17 (by decide) ?_
                                                      refine x_topi (x' := 2) (by decide) ?_
                                                      refine x_ifne C d_TP_commonDivisor_18 27 (by decide) (fun c_60 => ?_) (fun c_60 => ?_)
                                                      · refine x_iinc C d_TP_commonDivisor_27 0 rfl (v := 3) (by decide) (by decide) (lv' := [(2, .int (3)), (0, .int (nI 2)), (1, .int (16))]) rfl ?_
                                                        refine x_goto C d_TP_commonDivisor_30 10 (by decide) ?_
                                                        refine x_iload_n C d_TP_commonDivisor_10 0 rfl rfl ?_
                                                        refine x_iconst C d_TP_commonDivisor_11 (v := 1) (by decide) ?_
                                                        refine x_icmp_le C d_TP_commonDivisor_12 33 (by decide) (fun c_61 => ?_) (fun c_61 => ?_)
                                                        · exact absurd c_61 (by decide)
                                                        · have nc_61 := Int32.not_le.mp c_61
                                                          refine x_iload_n C d_TP_commonDivisor_15 1 rfl rfl ?_
                                                          refine x_iload_n C d_TP_commonDivisor_16 0 rfl rfl ?_
                                                          refine x_irem C d_TP_commonDivisor_17 (by decide) ?_
                                                          refine x_topi (x' := 2) (by decide) ?_
                                                          refine x_ifne C d_TP_commonDivisor_18 27 (by decide) (fun c_62 => ?_) (fun c_62 => ?_)
                                                          · refine x_iinc C d_TP_commonDivisor_27 0 rfl (v := 2) (by decide) (by decide) (lv' := [(2, .int (2)), (0, .int (nI 2)), (1, .int (16))]) rfl ?_
                                                            refine x_goto C d_TP_commonDivisor_30 10 (by decide) ?_
                                                            refine x_iload_n C d_TP_commonDivisor_10 0 rfl rfl ?_
                                                            refine x_iconst C d_TP_commonDivisor_11 (v := 1) (by decide) ?_
                                                            refine x_icmp_le C d_TP_commonDivisor_12 33 (by decide) (fun c_63 => ?_) (fun c_63 => ?_)
                                                            · exact absurd c_63 (by decide)
                                                            · have nc_63 := Int32.not_le.mp c_63
                                                              refine x_iload_n C d_TP_commonDivisor_15 1 rfl rfl ?_
                                                              refine x_iload_n C d_TP_commonDivisor_16 0 rfl rfl ?_
                                                              refine x_irem C d_TP_commonDivisor_17 (by decide) ?_
                                                              refine x_topi (x' := 0) (by decide) ?_
                                                              refine x_ifne C d_TP_commonDivisor_18 27 (by decide) (fun c_64 => ?_) (fun c_64 => ?_)
                                                              · exact absurd c_64 (by decide)
                                                              · refine x_iload_n C d_TP_commonDivisor_21 2 rfl rfl ?_
                                                                refine x_iload_n C d_TP_commonDivisor_22 0 rfl rfl ?_
                                                                refine x_irem C d_TP_commonDivisor_23 (by decide) ?_
                                                                refine x_topi (x' := 0) (by decide) ?_
                                                                refine x_ifeq C d_TP_commonDivisor_24 33 (by decide) (fun c_65 => ?_) (fun c_65 => ?_)
                                                                · refine x_iload_n C d_TP_commonDivisor_33 0 rfl rfl ?_
                                                                  exact x_iret C (by decide) rfl d_TP_commonDivisor_34
                                                                · exact absurd c_65 (by decide)
                                                          · exact absurd c_62 (by decide)
                                                      · exact absurd c_60 (by decide)
                                                  · exact absurd c_58 (by decide)
                                              · exact absurd c_56 (by decide)
                                          · exact absurd c_54 (by decide)
                                      · exact absurd c_52 (by decide)
                                  · exact absurd c_50 (by decide)
                              · exact absurd c_48 (by decide)
                          · exact absurd c_46 (by decide)
                      · exact absurd c_44 (by decide)
                  · exact absurd c_42 (by decide)
              · exact absurd c_40 (by decide)
          · exact absurd c_38 (by decide)
      · exact absurd c_36 (by decide)
  · refine x_iconst C d_TP_commonDivisor_0 (v := 1) (by decide) ?_
    refine x_iload_n C d_TP_commonDivisor_1 0 rfl rfl ?_
    refine x_iload_n C d_TP_commonDivisor_2 1 rfl rfl ?_
    refine x_mx C k_549 (Nat.le_of_ble_eq_true rfl) (Nat.le_of_ble_eq_true rfl) d_TP_commonDivisor_3 ?_
    refine x_topi (x' := 16) (by decide) ?_
    refine x_mx C k_549 (Nat.le_of_ble_eq_true rfl) (Nat.le_of_ble_eq_true rfl) d_TP_commonDivisor_6 ?_
    refine x_topi (x' := 16) (by decide) ?_
    refine x_istore_n C d_TP_commonDivisor_9 rfl (by decide) (lv' := [(2, .int (16)), (0, .int (nI 3)), (1, .int (16))]) rfl ?_
    refine x_iload_n C d_TP_commonDivisor_10 0 rfl rfl ?_
    refine x_iconst C d_TP_commonDivisor_11 (v := 1) (by decide) ?_
    refine x_icmp_le C d_TP_commonDivisor_12 33 (by decide) (fun c_66 => ?_) (fun c_66 => ?_)
    · exact absurd c_66 (by decide)
    · have nc_66 := Int32.not_le.mp c_66
      refine x_iload_n C d_TP_commonDivisor_15 1 rfl rfl ?_
      refine x_iload_n C d_TP_commonDivisor_16 0 rfl rfl ?_
      refine x_irem C d_TP_commonDivisor_17 (by decide) ?_
      refine x_topi (x' := 3) (by decide) ?_
      refine x_ifne C d_TP_commonDivisor_18 27 (by decide) (fun c_67 => ?_) (fun c_67 => ?_)
      · refine x_iinc C d_TP_commonDivisor_27 0 rfl (v := 15) (by decide) (by decide) (lv' := [(2, .int (15)), (0, .int (nI 3)), (1, .int (16))]) rfl ?_
        refine x_goto C d_TP_commonDivisor_30 10 (by decide) ?_
        refine x_iload_n C d_TP_commonDivisor_10 0 rfl rfl ?_
        refine x_iconst C d_TP_commonDivisor_11 (v := 1) (by decide) ?_
        refine x_icmp_le C d_TP_commonDivisor_12 33 (by decide) (fun c_68 => ?_) (fun c_68 => ?_)
        · exact absurd c_68 (by decide)
        · have nc_68 := Int32.not_le.mp c_68
          refine x_iload_n C d_TP_commonDivisor_15 1 rfl rfl ?_
          refine x_iload_n C d_TP_commonDivisor_16 0 rfl rfl ?_
          refine x_irem C d_TP_commonDivisor_17 (by decide) ?_
          refine x_topi (x' := 3) (by decide) ?_
          refine x_ifne C d_TP_commonDivisor_18 27 (by decide) (fun c_69 => ?_) (fun c_69 => ?_)
          · refine x_iinc C d_TP_commonDivisor_27 0 rfl (v := 14) (by decide) (by decide) (lv' := [(2, .int (14)), (0, .int (nI 3)), (1, .int (16))]) rfl ?_
            refine x_goto C d_TP_commonDivisor_30 10 (by decide) ?_
            refine x_iload_n C d_TP_commonDivisor_10 0 rfl rfl ?_
            refine x_iconst C d_TP_commonDivisor_11 (v := 1) (by decide) ?_
            refine x_icmp_le C d_TP_commonDivisor_12 33 (by decide) (fun c_70 => ?_) (fun c_70 => ?_)
            · exact absurd c_70 (by decide)
            · have nc_70 := Int32.not_le.mp c_70
              refine x_iload_n C d_TP_commonDivisor_15 1 rfl rfl ?_
              refine x_iload_n C d_TP_commonDivisor_16 0 rfl rfl ?_
              refine x_irem C d_TP_commonDivisor_17 (by decide) ?_
              refine x_topi (x' := 3) (by decide) ?_
              refine x_ifne C d_TP_commonDivisor_18 27 (by decide) (fun c_71 => ?_) (fun c_71 => ?_)
              · refine x_iinc C d_TP_commonDivisor_27 0 rfl (v := 13) (by decide) (by decide) (lv' := [(2, .int (13)), (0, .int (nI 3)), (1, .int (16))]) rfl ?_
                refine x_goto C d_TP_commonDivisor_30 10 (by decide) ?_
                refine x_iload_n C d_TP_commonDivisor_10 0 rfl rfl ?_
                refine x_iconst C d_TP_commonDivisor_11 (v := 1) (by decide) ?_
                refine x_icmp_le C d_TP_commonDivisor_12 33 (by decide) (fun c_72 => ?_) (fun c_72 => ?_)
                · exact absurd c_72 (by decide)
                · have nc_72 := Int32.not_le.mp c_72
                  refine x_iload_n C d_TP_commonDivisor_15 1 rfl rfl ?_
                  refine x_iload_n C d_TP_commonDivisor_16 0 rfl rfl ?_
                  refine x_irem C d_TP_commonDivisor_17 (by decide) ?_
                  refine x_topi (x' := 3) (by decide) ?_
                  refine x_ifne C d_TP_commonDivisor_18 27 (by decide) (fun c_73 => ?_) (fun c_73 => ?_)
                  · refine x_iinc C d_TP_commonDivisor_27 0 rfl (v := 12) (by decide) (by decide) (lv' := [(2, .int (12)), (0, .int (nI 3)), (1, .int (16))]) rfl ?_
                    refine x_goto C d_TP_commonDivisor_30 10 (by decide) ?_
                    refine x_iload_n C d_TP_commonDivisor_10 0 rfl rfl ?_
                    refine x_iconst C d_TP_commonDivisor_11 (v := 1) (by decide) ?_
                    refine x_icmp_le C d_TP_commonDivisor_12 33 (by decide) (fun c_74 => ?_) (fun c_74 => ?_)
                    · exact absurd c_74 (by decide)
                    · have nc_74 := Int32.not_le.mp c_74
                      refine x_iload_n C d_TP_commonDivisor_15 1 rfl rfl ?_
                      refine x_iload_n C d_TP_commonDivisor_16 0 rfl rfl ?_
                      refine x_irem C d_TP_commonDivisor_17 (by decide) ?_
                      refine x_topi (x' := 3) (by decide) ?_
                      refine x_ifne C d_TP_commonDivisor_18 27 (by decide) (fun c_75 => ?_) (fun c_75 => ?_)
                      · refine x_iinc C d_TP_commonDivisor_27 0 rfl (v := 11) (by decide) (by decide) (lv' := [(2, .int (11)), (0, .int (nI 3)), (1, .int (16))]) rfl ?_
                        refine x_goto C d_TP_commonDivisor_30 10 (by decide) ?_
                        refine x_iload_n C d_TP_commonDivisor_10 0 rfl rfl ?_
                        refine x_iconst C d_TP_commonDivisor_11 (v := 1) (by decide) ?_
                        refine x_icmp_le C d_TP_commonDivisor_12 33 (by decide) (fun c_76 => ?_) (fun c_76 => ?_)
                        · exact absurd c_76 (by decide)
                        · have nc_76 := Int32.not_le.mp c_76
                          refine x_iload_n C d_TP_commonDivisor_15 1 rfl rfl ?_
                          refine x_iload_n C d_TP_commonDivisor_16 0 rfl rfl ?_
                          refine x_irem C d_TP_commonDivisor_17 (by decide) ?_
                          refine x_topi (x' := 3) (by decide) ?_
                          refine x_ifne C d_TP_commonDivisor_18 27 (by decide) (fun c_77 => ?_) (fun c_77 => ?_)
                          · refine x_iinc C d_TP_commonDivisor_27 0 rfl (v := 10) (by decide) (by decide) (lv' := [(2, .int (10)), (0, .int (nI 3)), (1, .int (16))]) rfl ?_
                            refine x_goto C d_TP_commonDivisor_30 10 (by decide) ?_
                            refine x_iload_n C d_TP_commonDivisor_10 0 rfl rfl ?_
                            refine x_iconst C d_TP_commonDivisor_11 (v := 1) (by decide) ?_
                            refine x_icmp_le C d_TP_commonDivisor_12 33 (by decide) (fun c_78 => ?_) (fun c_78 => ?_)
                            · exact absurd c_78 (by decide)
                            · have nc_78 := Int32.not_le.mp c_78
                              refine x_iload_n C d_TP_commonDivisor_15 1 rfl rfl ?_
                              refine x_iload_n C d_TP_commonDivisor_16 0 rfl rfl ?_
                              refine x_irem C d_TP_commonDivisor_17 (by decide) ?_
                              refine x_topi (x' := 3) (by decide) ?_
                              refine x_ifne C d_TP_commonDivisor_18 27 (by decide) (fun c_79 => ?_) (fun c_79 => ?_)
                              · refine x_iinc C d_TP_commonDivisor_27 0 rfl (v := 9) (by decide) (by decide) (lv' := [(2, .int (9)), (0, .int (nI 3)), (1, .int (16))]) rfl ?_
                                refine x_goto C d_TP_commonDivisor_30 10 (by decide) ?_
                                refine x_iload_n C d_TP_commonDivisor_10 0 rfl rfl ?_
                                refine x_iconst C d_TP_commonDivisor_11 (v := 1) (by decide) ?_
                                refine x_icmp_le C d_TP_commonDivisor_12 33 (by decide) (fun c_80 => ?_) (fun c_80 => ?_)
                                · exact absurd c_80 (by decide)
                                · have nc_80 := Int32.not_le.mp c_80
                                  refine x_iload_n C d_TP_commonDivisor_15 1 rfl rfl ?_
                                  refine x_iload_n C d_TP_commonDivisor_16 0 rfl rfl ?_
                                  refine x_irem C d_TP_commonDivisor_17 (by decide) ?_
                                  refine x_topi (x' := 3) (by decide) ?_
                                  refine x_ifne C d_TP_commonDivisor_18 27 (by decide) (fun c_81 => ?_) (fun c_81 => ?_)
                                  · refine x_iinc C d_TP_commonDivisor_27 0 rfl (v := 8) (by decide) (by decide) (lv' := [(2, .int (8)), (0, .int (nI 3)), (1, .int (16))]) rfl ?_
                                    refine x_goto C d_TP_commonDivisor_30 10 (by decide) ?_
                                    refine x_iload_n C d_TP_commonDivisor_10 0 rfl rfl ?_
                                    refine x_iconst C d_TP_commonDivisor_11 (v := 1) (by decide) ?_
                                    refine x_icmp_le C d_TP_commonDivisor_12 33 (by decide) (fun c_82 => ?_) (fun c_82 => ?_)
                                    · exact absurd c_82 (by decide)
                                    · have nc_82 := Int32.not_le.mp c_82
                                      refine x_iload_n C d_TP_commonDivisor_15 1 rfl rfl ?_
                                      refine x_iload_n C d_TP_commonDivisor_16 0 rfl rfl ?_
                                      refine x_irem C d_TP_commonDivisor_17 (by decide) ?_
                                      refine x_topi (x' := 3) (by decide) ?_
                                      refine x_ifne C d_TP_commonDivisor_18 27 (by decide) (fun c_83 => ?_) (fun c_83 => ?_)
                                      · refine x_iinc C d_TP_commonDivisor_27 0 rfl (v := 7) (by decide) (by decide) (lv' := [(2, .int (7)), (0, .int (nI 3)), (1, .int (16))]) rfl ?_
                                        refine x_goto C d_TP_commonDivisor_30 10 (by decide) ?_
                                        refine x_iload_n C d_TP_commonDivisor_10 0 rfl rfl ?_
                                        refine x_iconst C d_TP_commonDivisor_11 (v := 1) (by decide) ?_
                                        refine x_icmp_le C d_TP_commonDivisor_12 33 (by decide) (fun c_84 => ?_) (fun c_84 => ?_)
                                        · exact absurd c_84 (by decide)
                                        · have nc_84 := Int32.not_le.mp c_84
                                          refine x_iload_n C d_TP_commonDivisor_15 1 rfl rfl ?_
                                          refine x_iload_n C d_TP_commonDivisor_16 0 rfl rfl ?_
                                          refine x_irem C d_TP_commonDivisor_17 (by decide) ?_
                                          refine x_topi (x' := 3) (by decide) ?_
                                          refine x_ifne C d_TP_commonDivisor_18 27 (by decide) (fun c_85 => ?_) (fun c_85 => ?_)
                                          · refine x_iinc C d_TP_commonDivisor_27 0 rfl (v := 6) (by decide) (by decide) (lv' := [(2, .int (6)), (0, .int (nI 3)), (1, .int (16))]) rfl ?_
                                            refine x_goto C d_TP_commonDivisor_30 10 (by decide) ?_
                                            refine x_iload_n C d_TP_commonDivisor_10 0 rfl rfl ?_
                                            refine x_iconst C d_TP_commonDivisor_11 (v := 1) (by decide) ?_
                                            refine x_icmp_le C d_TP_commonDivisor_12 33 (by decide) (fun c_86 => ?_) (fun c_86 => ?_)
                                            · exact absurd c_86 (by decide)
                                            · have nc_86 := Int32.not_le.mp c_86
                                              refine x_iload_n C d_TP_commonDivisor_15 1 rfl rfl ?_
                                              refine x_iload_n C d_TP_commonDivisor_16 0 rfl rfl ?_
                                              refine x_irem C d_TP_commonDivisor_17 (by decide) ?_
                                              refine x_topi (x' := 3) (by decide) ?_
                                              refine x_ifne C d_TP_commonDivisor_18 27 (by decide) (fun c_87 => ?_) (fun c_87 => ?_)
                                              · refine x_iinc C d_TP_commonDivisor_27 0 rfl (v := 5) (by decide) (by decide) (lv' := [(2, .int (5)), (0, .int (nI 3)), (1, .int (16))]) rfl ?_
                                                refine x_goto C d_TP_commonDivisor_30 10 (by decide) ?_
                                                refine x_iload_n C d_TP_commonDivisor_10 0 rfl rfl ?_
                                                refine x_iconst C d_TP_commonDivisor_11 (v := 1) (by decide) ?_
                                                refine x_icmp_le C d_TP_commonDivisor_12 33 (by decide) (fun c_88 => ?_) (fun c_88 => ?_)
                                                · exact absurd c_88 (by decide)
                                                · have nc_88 := Int32.not_le.mp c_88
                                                  refine x_iload_n C d_TP_commonDivisor_15 1 rfl rfl ?_
                                                  refine x_iload_n C d_TP_commonDivisor_16 0 rfl rfl ?_
                                                  refine x_irem C d_TP_commonDivisor_17 (by decide) ?_
                                                  refine x_topi (x' := 3) (by decide) ?_
                                                  refine x_ifne C d_TP_commonDivisor_18 27 (by decide) (fun c_89 => ?_) (fun c_89 => ?_)
                                                  · refine x_iinc C d_TP_commonDivisor_27 0 rfl (v := 4) (by decide) (by decide) (lv' := [(2, .int (4)), (0, .int (nI 3)), (1, .int (16))]) rfl ?_
                                                    refine x_goto C d_TP_commonDivisor_30 10 (by decide) ?_
                                                    refine x_iload_n C d_TP_commonDivisor_10 0 rfl rfl ?_
                                                    refine x_iconst C d_TP_commonDivisor_11 (v := 1) (by decide) ?_
                                                    refine x_icmp_le C d_TP_commonDivisor_12 33 (by decide) (fun c_90 => ?_) (fun c_90 => ?_)
                                                    · exact absurd c_90 (by decide)
                                                    · have nc_90 := Int32.not_le.mp c_90
                                                      refine x_iload_n C d_TP_commonDivisor_15 1 rfl rfl ?_
                                                      refine x_iload_n C d_TP_commonDivisor_16 0 rfl rfl ?_
                                                      refine x_irem C d_TP_commonDivisor_17 (by decide) ?_
                                                      refine x_topi (x' := 3) (by decide) ?_
                                                      refine x_ifne C d_TP_commonDivisor_18 27 (by decide) (fun c_91 => ?_) (fun c_91 => ?_)
                                                      · refine x_iinc C d_TP_commonDivisor_27 0 rfl (v := 3) (by decide) (by decide) (lv' := [(2, .int (3)), (0, .int (nI 3)), (1, .int (16))]) rfl ?_
                                                        refine x_goto C d_TP_commonDivisor_30 10 (by decide) ?_
                                                        refine x_iload_n C d_TP_commonDivisor_10 0 rfl rfl ?_
                                                        refine x_iconst C d_TP_commonDivisor_11 (v := 1) (by decide) ?_
                                                        refine x_icmp_le C d_TP_commonDivisor_12 33 (by decide) (fun c_92 => ?_) (fun c_92 => ?_)
                                                        · exact absurd c_92 (by decide)
                                                        · have nc_92 := Int32.not_le.mp c_92
                                                          refine x_iload_n C d_TP_commonDivisor_15 1 rfl rfl ?_
                                                          refine x_iload_n C d_TP_commonDivisor_16 0 rfl rfl ?_
                                                          refine x_irem C d_TP_commonDivisor_17 (by decide) ?_
                                                          refine x_topi (x' := 0) (by decide) ?_
                                                          refine x_ifne C d_TP_commonDivisor_18 27 (by decide) (fun c_93 => ?_) (fun c_93 => ?_)
                                                          · exact absurd c_93 (by decide)
                                                          · refine x_iload_n C d_TP_commonDivisor_21 2 rfl rfl ?_
                                                            refine x_iload_n C d_TP_commonDivisor_22 0 rfl rfl ?_
                                                            refine x_irem C d_TP_commonDivisor_23 (by decide) ?_
                                                            refine x_topi (x' := 1) (by decide) ?_
                                                            refine x_ifeq C d_TP_commonDivisor_24 33 (by decide) (fun c_94 => ?_) (fun c_94 => ?_)
                                                            · exact absurd c_94 (by decide)
                                                            · refine x_iinc C d_TP_commonDivisor_27 0 rfl (v := 2) (by decide) (by decide) (lv' := [(2, .int (2)), (0, .int (nI 3)), (1, .int (16))]) rfl ?_
                                                              refine x_goto C d_TP_commonDivisor_30 10 (by decide) ?_
                                                              refine x_iload_n C d_TP_commonDivisor_10 0 rfl rfl ?_
                                                              refine x_iconst C d_TP_commonDivisor_11 (v := 1) (by decide) ?_
                                                              refine x_icmp_le C d_TP_commonDivisor_12 33 (by decide) (fun c_95 => ?_) (fun c_95 => ?_)
                                                              · exact absurd c_95 (by decide)
                                                              · have nc_95 := Int32.not_le.mp c_95
                                                                refine x_iload_n C d_TP_commonDivisor_15 1 rfl rfl ?_
                                                                refine x_iload_n C d_TP_commonDivisor_16 0 rfl rfl ?_
                                                                refine x_irem C d_TP_commonDivisor_17 (by decide) ?_
                                                                refine x_topi (x' := 1) (by decide) ?_
                                                                refine x_ifne C d_TP_commonDivisor_18 27 (by decide) (fun c_96 => ?_) (fun c_96 => ?_)
                                                                · refine x_iinc C d_TP_commonDivisor_27 0 rfl (v := 1) (by decide) (by decide) (lv' := [(2, .int (1)), (0, .int (nI 3)), (1, .int (16))]) rfl ?_
                                                                  refine x_goto C d_TP_commonDivisor_30 10 (by decide) ?_
                                                                  refine x_iload_n C d_TP_commonDivisor_10 0 rfl rfl ?_
                                                                  refine x_iconst C d_TP_commonDivisor_11 (v := 1) (by decide) ?_
                                                                  refine x_icmp_le C d_TP_commonDivisor_12 33 (by decide) (fun c_97 => ?_) (fun c_97 => ?_)
                                                                  · have nc_97 := Int32.not_lt.mpr c_97
                                                                    refine x_iload_n C d_TP_commonDivisor_33 0 rfl rfl ?_
                                                                    exact x_iret C (by decide) rfl d_TP_commonDivisor_34
                                                                  · exact absurd c_97 (by decide)
                                                                · exact absurd c_96 (by decide)
                                                      · exact absurd c_91 (by decide)
                                                  · exact absurd c_89 (by decide)
                                              · exact absurd c_87 (by decide)
                                          · exact absurd c_85 (by decide)
                                      · exact absurd c_83 (by decide)
                                  · exact absurd c_81 (by decide)
                              · exact absurd c_79 (by decide)
                          · exact absurd c_77 (by decide)
                      · exact absurd c_75 (by decide)
                  · exact absurd c_73 (by decide)
              · exact absurd c_71 (by decide)
          · exact absurd c_69 (by decide)
      · exact absurd c_67 (by decide)
  · refine x_iconst C d_TP_commonDivisor_0 (v := 1) (by decide) ?_
    refine x_iload_n C d_TP_commonDivisor_1 0 rfl rfl ?_
    refine x_iload_n C d_TP_commonDivisor_2 1 rfl rfl ?_
    refine x_mx C k_549 (Nat.le_of_ble_eq_true rfl) (Nat.le_of_ble_eq_true rfl) d_TP_commonDivisor_3 ?_
    refine x_topi (x' := 16) (by decide) ?_
    refine x_mx C k_549 (Nat.le_of_ble_eq_true rfl) (Nat.le_of_ble_eq_true rfl) d_TP_commonDivisor_6 ?_
    refine x_topi (x' := 16) (by decide) ?_
    refine x_istore_n C d_TP_commonDivisor_9 rfl (by decide) (lv' := [(2, .int (16)), (0, .int (nI 4)), (1, .int (16))]) rfl ?_
    refine x_iload_n C d_TP_commonDivisor_10 0 rfl rfl ?_
    refine x_iconst C d_TP_commonDivisor_11 (v := 1) (by decide) ?_
    refine x_icmp_le C d_TP_commonDivisor_12 33 (by decide) (fun c_98 => ?_) (fun c_98 => ?_)
    · exact absurd c_98 (by decide)
    · have nc_98 := Int32.not_le.mp c_98
      refine x_iload_n C d_TP_commonDivisor_15 1 rfl rfl ?_
      refine x_iload_n C d_TP_commonDivisor_16 0 rfl rfl ?_
      refine x_irem C d_TP_commonDivisor_17 (by decide) ?_
      refine x_topi (x' := 4) (by decide) ?_
      refine x_ifne C d_TP_commonDivisor_18 27 (by decide) (fun c_99 => ?_) (fun c_99 => ?_)
      · refine x_iinc C d_TP_commonDivisor_27 0 rfl (v := 15) (by decide) (by decide) (lv' := [(2, .int (15)), (0, .int (nI 4)), (1, .int (16))]) rfl ?_
        refine x_goto C d_TP_commonDivisor_30 10 (by decide) ?_
        refine x_iload_n C d_TP_commonDivisor_10 0 rfl rfl ?_
        refine x_iconst C d_TP_commonDivisor_11 (v := 1) (by decide) ?_
        refine x_icmp_le C d_TP_commonDivisor_12 33 (by decide) (fun c_100 => ?_) (fun c_100 => ?_)
        · exact absurd c_100 (by decide)
        · have nc_100 := Int32.not_le.mp c_100
          refine x_iload_n C d_TP_commonDivisor_15 1 rfl rfl ?_
          refine x_iload_n C d_TP_commonDivisor_16 0 rfl rfl ?_
          refine x_irem C d_TP_commonDivisor_17 (by decide) ?_
          refine x_topi (x' := 4) (by decide) ?_
          refine x_ifne C d_TP_commonDivisor_18 27 (by decide) (fun c_101 => ?_) (fun c_101 => ?_)
          · refine x_iinc C d_TP_commonDivisor_27 0 rfl (v := 14) (by decide) (by decide) (lv' := [(2, .int (14)), (0, .int (nI 4)), (1, .int (16))]) rfl ?_
            refine x_goto C d_TP_commonDivisor_30 10 (by decide) ?_
            refine x_iload_n C d_TP_commonDivisor_10 0 rfl rfl ?_
            refine x_iconst C d_TP_commonDivisor_11 (v := 1) (by decide) ?_
            refine x_icmp_le C d_TP_commonDivisor_12 33 (by decide) (fun c_102 => ?_) (fun c_102 => ?_)
            · exact absurd c_102 (by decide)
            · have nc_102 := Int32.not_le.mp c_102
              refine x_iload_n C d_TP_commonDivisor_15 1 rfl rfl ?_
              refine x_iload_n C d_TP_commonDivisor_16 0 rfl rfl ?_
              refine x_irem C d_TP_commonDivisor_17 (by decide) ?_
              refine x_topi (x' := 4) (by decide) ?_
              refine x_ifne C d_TP_commonDivisor_18 27 (by decide) (fun c_103 => ?_) (fun c_103 => ?_)
              · refine x_iinc C d_TP_commonDivisor_27 0 rfl (v := 13) (by decide) (by decide) (lv' := [(2, .int (13)), (0, .int (nI 4)), (1, .int (16))]) rfl ?_
                refine x_goto C d_TP_commonDivisor_30 10 (by decide) ?_
                refine x_iload_n C d_TP_commonDivisor_10 0 rfl rfl ?_
                refine x_iconst C d_TP_commonDivisor_11 (v := 1) (by decide) ?_
                refine x_icmp_le C d_TP_commonDivisor_12 33 (by decide) (fun c_104 => ?_) (fun c_104 => ?_)
                · exact absurd c_104 (by decide)
                · have nc_104 := Int32.not_le.mp c_104
                  refine x_iload_n C d_TP_commonDivisor_15 1 rfl rfl ?_
                  refine x_iload_n C d_TP_commonDivisor_16 0 rfl rfl ?_
                  refine x_irem C d_TP_commonDivisor_17 (by decide) ?_
                  refine x_topi (x' := 4) (by decide) ?_
                  refine x_ifne C d_TP_commonDivisor_18 27 (by decide) (fun c_105 => ?_) (fun c_105 => ?_)
                  · refine x_iinc C d_TP_commonDivisor_27 0 rfl (v := 12) (by decide) (by decide) (lv' := [(2, .int (12)), (0, .int (nI 4)), (1, .int (16))]) rfl ?_
                    refine x_goto C d_TP_commonDivisor_30 10 (by decide) ?_
                    refine x_iload_n C d_TP_commonDivisor_10 0 rfl rfl ?_
                    refine x_iconst C d_TP_commonDivisor_11 (v := 1) (by decide) ?_
                    refine x_icmp_le C d_TP_commonDivisor_12 33 (by decide) (fun c_106 => ?_) (fun c_106 => ?_)
                    · exact absurd c_106 (by decide)
                    · have nc_106 := Int32.not_le.mp c_106
                      refine x_iload_n C d_TP_commonDivisor_15 1 rfl rfl ?_
                      refine x_iload_n C d_TP_commonDivisor_16 0 rfl rfl ?_
                      refine x_irem C d_TP_commonDivisor_17 (by decide) ?_
                      refine x_topi (x' := 4) (by decide) ?_
                      refine x_ifne C d_TP_commonDivisor_18 27 (by decide) (fun c_107 => ?_) (fun c_107 => ?_)
                      · refine x_iinc C d_TP_commonDivisor_27 0 rfl (v := 11) (by decide) (by decide) (lv' := [(2, .int (11)), (0, .int (nI 4)), (1, .int (16))]) rfl ?_
                        refine x_goto C d_TP_commonDivisor_30 10 (by decide) ?_
                        refine x_iload_n C d_TP_commonDivisor_10 0 rfl rfl ?_
                        refine x_iconst C d_TP_commonDivisor_11 (v := 1) (by decide) ?_
                        refine x_icmp_le C d_TP_commonDivisor_12 33 (by decide) (fun c_108 => ?_) (fun c_108 => ?_)
                        · exact absurd c_108 (by decide)
                        · have nc_108 := Int32.not_le.mp c_108
                          refine x_iload_n C d_TP_commonDivisor_15 1 rfl rfl ?_
                          refine x_iload_n C d_TP_commonDivisor_16 0 rfl rfl ?_
                          refine x_irem C d_TP_commonDivisor_17 (by decide) ?_
                          refine x_topi (x' := 4) (by decide) ?_
                          refine x_ifne C d_TP_commonDivisor_18 27 (by decide) (fun c_109 => ?_) (fun c_109 => ?_)
                          · refine x_iinc C d_TP_commonDivisor_27 0 rfl (v := 10) (by decide) (by decide) (lv' := [(2, .int (10)), (0, .int (nI 4)), (1, .int (16))]) rfl ?_
                            refine x_goto C d_TP_commonDivisor_30 10 (by decide) ?_
                            refine x_iload_n C d_TP_commonDivisor_10 0 rfl rfl ?_
                            refine x_iconst C d_TP_commonDivisor_11 (v := 1) (by decide) ?_
                            refine x_icmp_le C d_TP_commonDivisor_12 33 (by decide) (fun c_110 => ?_) (fun c_110 => ?_)
                            · exact absurd c_110 (by decide)
                            · have nc_110 := Int32.not_le.mp c_110
                              refine x_iload_n C d_TP_commonDivisor_15 1 rfl rfl ?_
                              refine x_iload_n C d_TP_commonDivisor_16 0 rfl rfl ?_
                              refine x_irem C d_TP_commonDivisor_17 (by decide) ?_
                              refine x_topi (x' := 4) (by decide) ?_
                              refine x_ifne C d_TP_commonDivisor_18 27 (by decide) (fun c_111 => ?_) (fun c_111 => ?_)
                              · refine x_iinc C d_TP_commonDivisor_27 0 rfl (v := 9) (by decide) (by decide) (lv' := [(2, .int (9)), (0, .int (nI 4)), (1, .int (16))]) rfl ?_
                                refine x_goto C d_TP_commonDivisor_30 10 (by decide) ?_
                                refine x_iload_n C d_TP_commonDivisor_10 0 rfl rfl ?_
                                refine x_iconst C d_TP_commonDivisor_11 (v := 1) (by decide) ?_
                                refine x_icmp_le C d_TP_commonDivisor_12 33 (by decide) (fun c_112 => ?_) (fun c_112 => ?_)
                                · exact absurd c_112 (by decide)
                                · have nc_112 := Int32.not_le.mp c_112
                                  refine x_iload_n C d_TP_commonDivisor_15 1 rfl rfl ?_
                                  refine x_iload_n C d_TP_commonDivisor_16 0 rfl rfl ?_
                                  refine x_irem C d_TP_commonDivisor_17 (by decide) ?_
                                  refine x_topi (x' := 4) (by decide) ?_
                                  refine x_ifne C d_TP_commonDivisor_18 27 (by decide) (fun c_113 => ?_) (fun c_113 => ?_)
                                  · refine x_iinc C d_TP_commonDivisor_27 0 rfl (v := 8) (by decide) (by decide) (lv' := [(2, .int (8)), (0, .int (nI 4)), (1, .int (16))]) rfl ?_
                                    refine x_goto C d_TP_commonDivisor_30 10 (by decide) ?_
                                    refine x_iload_n C d_TP_commonDivisor_10 0 rfl rfl ?_
                                    refine x_iconst C d_TP_commonDivisor_11 (v := 1) (by decide) ?_
                                    refine x_icmp_le C d_TP_commonDivisor_12 33 (by decide) (fun c_114 => ?_) (fun c_114 => ?_)
                                    · exact absurd c_114 (by decide)
                                    · have nc_114 := Int32.not_le.mp c_114
                                      refine x_iload_n C d_TP_commonDivisor_15 1 rfl rfl ?_
                                      refine x_iload_n C d_TP_commonDivisor_16 0 rfl rfl ?_
                                      refine x_irem C d_TP_commonDivisor_17 (by decide) ?_
                                      refine x_topi (x' := 4) (by decide) ?_
                                      refine x_ifne C d_TP_commonDivisor_18 27 (by decide) (fun c_115 => ?_) (fun c_115 => ?_)
                                      · refine x_iinc C d_TP_commonDivisor_27 0 rfl (v := 7) (by decide) (by decide) (lv' := [(2, .int (7)), (0, .int (nI 4)), (1, .int (16))]) rfl ?_
                                        refine x_goto C d_TP_commonDivisor_30 10 (by decide) ?_
                                        refine x_iload_n C d_TP_commonDivisor_10 0 rfl rfl ?_
                                        refine x_iconst C d_TP_commonDivisor_11 (v := 1) (by decide) ?_
                                        refine x_icmp_le C d_TP_commonDivisor_12 33 (by decide) (fun c_116 => ?_) (fun c_116 => ?_)
                                        · exact absurd c_116 (by decide)
                                        · have nc_116 := Int32.not_le.mp c_116
                                          refine x_iload_n C d_TP_commonDivisor_15 1 rfl rfl ?_
                                          refine x_iload_n C d_TP_commonDivisor_16 0 rfl rfl ?_
                                          refine x_irem C d_TP_commonDivisor_17 (by decide) ?_
                                          refine x_topi (x' := 4) (by decide) ?_
                                          refine x_ifne C d_TP_commonDivisor_18 27 (by decide) (fun c_117 => ?_) (fun c_117 => ?_)
                                          · refine x_iinc C d_TP_commonDivisor_27 0 rfl (v := 6) (by decide) (by decide) (lv' := [(2, .int (6)), (0, .int (nI 4)), (1, .int (16))]) rfl ?_
                                            refine x_goto C d_TP_commonDivisor_30 10 (by decide) ?_
                                            refine x_iload_n C d_TP_commonDivisor_10 0 rfl rfl ?_
                                            refine x_iconst C d_TP_commonDivisor_11 (v := 1) (by decide) ?_
                                            refine x_icmp_le C d_TP_commonDivisor_12 33 (by decide) (fun c_118 => ?_) (fun c_118 => ?_)
                                            · exact absurd c_118 (by decide)
                                            · have nc_118 := Int32.not_le.mp c_118
                                              refine x_iload_n C d_TP_commonDivisor_15 1 rfl rfl ?_
                                              refine x_iload_n C d_TP_commonDivisor_16 0 rfl rfl ?_
                                              refine x_irem C d_TP_commonDivisor_17 (by decide) ?_
                                              refine x_topi (x' := 4) (by decide) ?_
                                              refine x_ifne C d_TP_commonDivisor_18 27 (by decide) (fun c_119 => ?_) (fun c_119 => ?_)
                                              · refine x_iinc C d_TP_commonDivisor_27 0 rfl (v := 5) (by decide) (by decide) (lv' := [(2, .int (5)), (0, .int (nI 4)), (1, .int (16))]) rfl ?_
                                                refine x_goto C d_TP_commonDivisor_30 10 (by decide) ?_
                                                refine x_iload_n C d_TP_commonDivisor_10 0 rfl rfl ?_
                                                refine x_iconst C d_TP_commonDivisor_11 (v := 1) (by decide) ?_
                                                refine x_icmp_le C d_TP_commonDivisor_12 33 (by decide) (fun c_120 => ?_) (fun c_120 => ?_)
                                                · exact absurd c_120 (by decide)
                                                · have nc_120 := Int32.not_le.mp c_120
                                                  refine x_iload_n C d_TP_commonDivisor_15 1 rfl rfl ?_
                                                  refine x_iload_n C d_TP_commonDivisor_16 0 rfl rfl ?_
                                                  refine x_irem C d_TP_commonDivisor_17 (by decide) ?_
                                                  refine x_topi (x' := 4) (by decide) ?_
                                                  refine x_ifne C d_TP_commonDivisor_18 27 (by decide) (fun c_121 => ?_) (fun c_121 => ?_)
                                                  · refine x_iinc C d_TP_commonDivisor_27 0 rfl (v := 4) (by decide) (by decide) (lv' := [(2, .int (4)), (0, .int (nI 4)), (1, .int (16))]) rfl ?_
                                                    refine x_goto C d_TP_commonDivisor_30 10 (by decide) ?_
                                                    refine x_iload_n C d_TP_commonDivisor_10 0 rfl rfl ?_
                                                    refine x_iconst C d_TP_commonDivisor_11 (v := 1) (by decide) ?_
                                                    refine x_icmp_le C d_TP_commonDivisor_12 33 (by decide) (fun c_122 => ?_) (fun c_122 => ?_)
                                                    · exact absurd c_122 (by decide)
                                                    · have nc_122 := Int32.not_le.mp c_122
                                                      refine x_iload_n C d_TP_commonDivisor_15 1 rfl rfl ?_
                                                      refine x_iload_n C d_TP_commonDivisor_16 0 rfl rfl ?_
                                                      refine x_irem C d_TP_commonDivisor_17 (by decide) ?_
                                                      refine x_topi (x' := 0) (by decide) ?_
                                                      refine x_ifne C d_TP_commonDivisor_18 27 (by decide) (fun c_123 => ?_) (fun c_123 => ?_)
                                                      · exact absurd c_123 (by decide)
                                                      · refine x_iload_n C d_TP_commonDivisor_21 2 rfl rfl ?_
                                                        refine x_iload_n C d_TP_commonDivisor_22 0 rfl rfl ?_
                                                        refine x_irem C d_TP_commonDivisor_23 (by decide) ?_
                                                        refine x_topi (x' := 0) (by decide) ?_
                                                        refine x_ifeq C d_TP_commonDivisor_24 33 (by decide) (fun c_124 => ?_) (fun c_124 => ?_)
                                                        · refine x_iload_n C d_TP_commonDivisor_33 0 rfl rfl ?_
                                                          exact x_iret C (by decide) rfl d_TP_commonDivisor_34
                                                        · exact absurd c_124 (by decide)
                                                  · exact absurd c_121 (by decide)
                                              · exact absurd c_119 (by decide)
                                          · exact absurd c_117 (by decide)
                                      · exact absurd c_115 (by decide)
                                  · exact absurd c_113 (by decide)
                              · exact absurd c_111 (by decide)
                          · exact absurd c_109 (by decide)
                      · exact absurd c_107 (by decide)
                  · exact absurd c_105 (by decide)
              · exact absurd c_103 (by decide)
          · exact absurd c_101 (by decide)
      · exact absurd c_99 (by decide)
  · refine x_iconst C d_TP_commonDivisor_0 (v := 1) (by decide) ?_
    refine x_iload_n C d_TP_commonDivisor_1 0 rfl rfl ?_
    refine x_iload_n C d_TP_commonDivisor_2 1 rfl rfl ?_
    refine x_mx C k_549 (Nat.le_of_ble_eq_true rfl) (Nat.le_of_ble_eq_true rfl) d_TP_commonDivisor_3 ?_
    refine x_topi (x' := 16) (by decide) ?_
    refine x_mx C k_549 (Nat.le_of_ble_eq_true rfl) (Nat.le_of_ble_eq_true rfl) d_TP_commonDivisor_6 ?_
    refine x_topi (x' := 16) (by decide) ?_
    refine x_istore_n C d_TP_commonDivisor_9 rfl (by decide) (lv' := [(2, .int (16)), (0, .int (nI 5)), (1, .int (16))]) rfl ?_
    refine x_iload_n C d_TP_commonDivisor_10 0 rfl rfl ?_
    refine x_iconst C d_TP_commonDivisor_11 (v := 1) (by decide) ?_
    refine x_icmp_le C d_TP_commonDivisor_12 33 (by decide) (fun c_125 => ?_) (fun c_125 => ?_)
    · exact absurd c_125 (by decide)
    · have nc_125 := Int32.not_le.mp c_125
      refine x_iload_n C d_TP_commonDivisor_15 1 rfl rfl ?_
      refine x_iload_n C d_TP_commonDivisor_16 0 rfl rfl ?_
      refine x_irem C d_TP_commonDivisor_17 (by decide) ?_
      refine x_topi (x' := 5) (by decide) ?_
      refine x_ifne C d_TP_commonDivisor_18 27 (by decide) (fun c_126 => ?_) (fun c_126 => ?_)
      · refine x_iinc C d_TP_commonDivisor_27 0 rfl (v := 15) (by decide) (by decide) (lv' := [(2, .int (15)), (0, .int (nI 5)), (1, .int (16))]) rfl ?_
        refine x_goto C d_TP_commonDivisor_30 10 (by decide) ?_
        refine x_iload_n C d_TP_commonDivisor_10 0 rfl rfl ?_
        refine x_iconst C d_TP_commonDivisor_11 (v := 1) (by decide) ?_
        refine x_icmp_le C d_TP_commonDivisor_12 33 (by decide) (fun c_127 => ?_) (fun c_127 => ?_)
        · exact absurd c_127 (by decide)
        · have nc_127 := Int32.not_le.mp c_127
          refine x_iload_n C d_TP_commonDivisor_15 1 rfl rfl ?_
          refine x_iload_n C d_TP_commonDivisor_16 0 rfl rfl ?_
          refine x_irem C d_TP_commonDivisor_17 (by decide) ?_
          refine x_topi (x' := 5) (by decide) ?_
          refine x_ifne C d_TP_commonDivisor_18 27 (by decide) (fun c_128 => ?_) (fun c_128 => ?_)
          · refine x_iinc C d_TP_commonDivisor_27 0 rfl (v := 14) (by decide) (by decide) (lv' := [(2, .int (14)), (0, .int (nI 5)), (1, .int (16))]) rfl ?_
            refine x_goto C d_TP_commonDivisor_30 10 (by decide) ?_
            refine x_iload_n C d_TP_commonDivisor_10 0 rfl rfl ?_
            refine x_iconst C d_TP_commonDivisor_11 (v := 1) (by decide) ?_
            refine x_icmp_le C d_TP_commonDivisor_12 33 (by decide) (fun c_129 => ?_) (fun c_129 => ?_)
            · exact absurd c_129 (by decide)
            · have nc_129 := Int32.not_le.mp c_129
              refine x_iload_n C d_TP_commonDivisor_15 1 rfl rfl ?_
              refine x_iload_n C d_TP_commonDivisor_16 0 rfl rfl ?_
              refine x_irem C d_TP_commonDivisor_17 (by decide) ?_
              refine x_topi (x' := 5) (by decide) ?_
              refine x_ifne C d_TP_commonDivisor_18 27 (by decide) (fun c_130 => ?_) (fun c_130 => ?_)
              · refine x_iinc C d_TP_commonDivisor_27 0 rfl (v := 13) (by decide) (by decide) (lv' := [(2, .int (13)), (0, .int (nI 5)), (1, .int (16))]) rfl ?_
                refine x_goto C d_TP_commonDivisor_30 10 (by decide) ?_
                refine x_iload_n C d_TP_commonDivisor_10 0 rfl rfl ?_
                refine x_iconst C d_TP_commonDivisor_11 (v := 1) (by decide) ?_
                refine x_icmp_le C d_TP_commonDivisor_12 33 (by decide) (fun c_131 => ?_) (fun c_131 => ?_)
                · exact absurd c_131 (by decide)
                · have nc_131 := Int32.not_le.mp c_131
                  refine x_iload_n C d_TP_commonDivisor_15 1 rfl rfl ?_
                  refine x_iload_n C d_TP_commonDivisor_16 0 rfl rfl ?_
                  refine x_irem C d_TP_commonDivisor_17 (by decide) ?_
                  refine x_topi (x' := 5) (by decide) ?_
                  refine x_ifne C d_TP_commonDivisor_18 27 (by decide) (fun c_132 => ?_) (fun c_132 => ?_)
                  · refine x_iinc C d_TP_commonDivisor_27 0 rfl (v := 12) (by decide) (by decide) (lv' := [(2, .int (12)), (0, .int (nI 5)), (1, .int (16))]) rfl ?_
                    refine x_goto C d_TP_commonDivisor_30 10 (by decide) ?_
                    refine x_iload_n C d_TP_commonDivisor_10 0 rfl rfl ?_
                    refine x_iconst C d_TP_commonDivisor_11 (v := 1) (by decide) ?_
                    refine x_icmp_le C d_TP_commonDivisor_12 33 (by decide) (fun c_133 => ?_) (fun c_133 => ?_)
                    · exact absurd c_133 (by decide)
                    · have nc_133 := Int32.not_le.mp c_133
                      refine x_iload_n C d_TP_commonDivisor_15 1 rfl rfl ?_
                      refine x_iload_n C d_TP_commonDivisor_16 0 rfl rfl ?_
                      refine x_irem C d_TP_commonDivisor_17 (by decide) ?_
                      refine x_topi (x' := 5) (by decide) ?_
                      refine x_ifne C d_TP_commonDivisor_18 27 (by decide) (fun c_134 => ?_) (fun c_134 => ?_)
                      · refine x_iinc C d_TP_commonDivisor_27 0 rfl (v := 11) (by decide) (by decide) (lv' := [(2, .int (11)), (0, .int (nI 5)), (1, .int (16))]) rfl ?_
                        refine x_goto C d_TP_commonDivisor_30 10 (by decide) ?_
                        refine x_iload_n C d_TP_commonDivisor_10 0 rfl rfl ?_
                        refine x_iconst C d_TP_commonDivisor_11 (v := 1) (by decide) ?_
                        refine x_icmp_le C d_TP_commonDivisor_12 33 (by decide) (fun c_135 => ?_) (fun c_135 => ?_)
                        · exact absurd c_135 (by decide)
                        · have nc_135 := Int32.not_le.mp c_135
                          refine x_iload_n C d_TP_commonDivisor_15 1 rfl rfl ?_
                          refine x_iload_n C d_TP_commonDivisor_16 0 rfl rfl ?_
                          refine x_irem C d_TP_commonDivisor_17 (by decide) ?_
                          refine x_topi (x' := 5) (by decide) ?_
                          refine x_ifne C d_TP_commonDivisor_18 27 (by decide) (fun c_136 => ?_) (fun c_136 => ?_)
                          · refine x_iinc C d_TP_commonDivisor_27 0 rfl (v := 10) (by decide) (by decide) (lv' := [(2, .int (10)), (0, .int (nI 5)), (1, .int (16))]) rfl ?_
                            refine x_goto C d_TP_commonDivisor_30 10 (by decide) ?_
                            refine x_iload_n C d_TP_commonDivisor_10 0 rfl rfl ?_
                            refine x_iconst C d_TP_commonDivisor_11 (v := 1) (by decide) ?_
                            refine x_icmp_le C d_TP_commonDivisor_12 33 (by decide) (fun c_137 => ?_) (fun c_137 => ?_)
                            · exact absurd c_137 (by decide)
                            · have nc_137 := Int32.not_le.mp c_137
                              refine x_iload_n C d_TP_commonDivisor_15 1 rfl rfl ?_
                              refine x_iload_n C d_TP_commonDivisor_16 0 rfl rfl ?_
                              refine x_irem C d_TP_commonDivisor_17 (by decide) ?_
                              refine x_topi (x' := 5) (by decide) ?_
                              refine x_ifne C d_TP_commonDivisor_18 27 (by decide) (fun c_138 => ?_) (fun c_138 => ?_)
                              · refine x_iinc C d_TP_commonDivisor_27 0 rfl (v := 9) (by decide) (by decide) (lv' := [(2, .int (9)), (0, .int (nI 5)), (1, .int (16))]) rfl ?_
                                refine x_goto C d_TP_commonDivisor_30 10 (by decide) ?_
                                refine x_iload_n C d_TP_commonDivisor_10 0 rfl rfl ?_
                                refine x_iconst C d_TP_commonDivisor_11 (v := 1) (by decide) ?_
                                refine x_icmp_le C d_TP_commonDivisor_12 33 (by decide) (fun c_139 => ?_) (fun c_139 => ?_)
                                · exact absurd c_139 (by decide)
                                · have nc_139 := Int32.not_le.mp c_139
                                  refine x_iload_n C d_TP_commonDivisor_15 1 rfl rfl ?_
                                  refine x_iload_n C d_TP_commonDivisor_16 0 rfl rfl ?_
                                  refine x_irem C d_TP_commonDivisor_17 (by decide) ?_
                                  refine x_topi (x' := 5) (by decide) ?_
                                  refine x_ifne C d_TP_commonDivisor_18 27 (by decide) (fun c_140 => ?_) (fun c_140 => ?_)
                                  · refine x_iinc C d_TP_commonDivisor_27 0 rfl (v := 8) (by decide) (by decide) (lv' := [(2, .int (8)), (0, .int (nI 5)), (1, .int (16))]) rfl ?_
                                    refine x_goto C d_TP_commonDivisor_30 10 (by decide) ?_
                                    refine x_iload_n C d_TP_commonDivisor_10 0 rfl rfl ?_
                                    refine x_iconst C d_TP_commonDivisor_11 (v := 1) (by decide) ?_
                                    refine x_icmp_le C d_TP_commonDivisor_12 33 (by decide) (fun c_141 => ?_) (fun c_141 => ?_)
                                    · exact absurd c_141 (by decide)
                                    · have nc_141 := Int32.not_le.mp c_141
                                      refine x_iload_n C d_TP_commonDivisor_15 1 rfl rfl ?_
                                      refine x_iload_n C d_TP_commonDivisor_16 0 rfl rfl ?_
                                      refine x_irem C d_TP_commonDivisor_17 (by decide) ?_
                                      refine x_topi (x' := 5) (by decide) ?_
                                      refine x_ifne C d_TP_commonDivisor_18 27 (by decide) (fun c_142 => ?_) (fun c_142 => ?_)
                                      · refine x_iinc C d_TP_commonDivisor_27 0 rfl (v := 7) (by decide) (by decide) (lv' := [(2, .int (7)), (0, .int (nI 5)), (1, .int (16))]) rfl ?_
                                        refine x_goto C d_TP_commonDivisor_30 10 (by decide) ?_
                                        refine x_iload_n C d_TP_commonDivisor_10 0 rfl rfl ?_
                                        refine x_iconst C d_TP_commonDivisor_11 (v := 1) (by decide) ?_
                                        refine x_icmp_le C d_TP_commonDivisor_12 33 (by decide) (fun c_143 => ?_) (fun c_143 => ?_)
                                        · exact absurd c_143 (by decide)
                                        · have nc_143 := Int32.not_le.mp c_143
                                          refine x_iload_n C d_TP_commonDivisor_15 1 rfl rfl ?_
                                          refine x_iload_n C d_TP_commonDivisor_16 0 rfl rfl ?_
                                          refine x_irem C d_TP_commonDivisor_17 (by decide) ?_
                                          refine x_topi (x' := 5) (by decide) ?_
                                          refine x_ifne C d_TP_commonDivisor_18 27 (by decide) (fun c_144 => ?_) (fun c_144 => ?_)
                                          · refine x_iinc C d_TP_commonDivisor_27 0 rfl (v := 6) (by decide) (by decide) (lv' := [(2, .int (6)), (0, .int (nI 5)), (1, .int (16))]) rfl ?_
                                            refine x_goto C d_TP_commonDivisor_30 10 (by decide) ?_
                                            refine x_iload_n C d_TP_commonDivisor_10 0 rfl rfl ?_
                                            refine x_iconst C d_TP_commonDivisor_11 (v := 1) (by decide) ?_
                                            refine x_icmp_le C d_TP_commonDivisor_12 33 (by decide) (fun c_145 => ?_) (fun c_145 => ?_)
                                            · exact absurd c_145 (by decide)
                                            · have nc_145 := Int32.not_le.mp c_145
                                              refine x_iload_n C d_TP_commonDivisor_15 1 rfl rfl ?_
                                              refine x_iload_n C d_TP_commonDivisor_16 0 rfl rfl ?_
                                              refine x_irem C d_TP_commonDivisor_17 (by decide) ?_
                                              refine x_topi (x' := 5) (by decide) ?_
                                              refine x_ifne C d_TP_commonDivisor_18 27 (by decide) (fun c_146 => ?_) (fun c_146 => ?_)
                                              · refine x_iinc C d_TP_commonDivisor_27 0 rfl (v := 5) (by decide) (by decide) (lv' := [(2, .int (5)), (0, .int (nI 5)), (1, .int (16))]) rfl ?_
                                                refine x_goto C d_TP_commonDivisor_30 10 (by decide) ?_
                                                refine x_iload_n C d_TP_commonDivisor_10 0 rfl rfl ?_
                                                refine x_iconst C d_TP_commonDivisor_11 (v := 1) (by decide) ?_
                                                refine x_icmp_le C d_TP_commonDivisor_12 33 (by decide) (fun c_147 => ?_) (fun c_147 => ?_)
                                                · exact absurd c_147 (by decide)
                                                · have nc_147 := Int32.not_le.mp c_147
                                                  refine x_iload_n C d_TP_commonDivisor_15 1 rfl rfl ?_
                                                  refine x_iload_n C d_TP_commonDivisor_16 0 rfl rfl ?_
                                                  refine x_irem C d_TP_commonDivisor_17 (by decide) ?_
                                                  refine x_topi (x' := 0) (by decide) ?_
                                                  refine x_ifne C d_TP_commonDivisor_18 27 (by decide) (fun c_148 => ?_) (fun c_148 => ?_)
                                                  · exact absurd c_148 (by decide)
                                                  · refine x_iload_n C d_TP_commonDivisor_21 2 rfl rfl ?_
                                                    refine x_iload_n C d_TP_commonDivisor_22 0 rfl rfl ?_
                                                    refine x_irem C d_TP_commonDivisor_23 (by decide) ?_
                                                    refine x_topi (x' := 1) (by decide) ?_
                                                    refine x_ifeq C d_TP_commonDivisor_24 33 (by decide) (fun c_149 => ?_) (fun c_149 => ?_)
                                                    · exact absurd c_149 (by decide)
                                                    · refine x_iinc C d_TP_commonDivisor_27 0 rfl (v := 4) (by decide) (by decide) (lv' := [(2, .int (4)), (0, .int (nI 5)), (1, .int (16))]) rfl ?_
                                                      refine x_goto C d_TP_commonDivisor_30 10 (by decide) ?_
                                                      refine x_iload_n C d_TP_commonDivisor_10 0 rfl rfl ?_
                                                      refine x_iconst C d_TP_commonDivisor_11 (v := 1) (by decide) ?_
                                                      refine x_icmp_le C d_TP_commonDivisor_12 33 (by decide) (fun c_150 => ?_) (fun c_150 => ?_)
                                                      · exact absurd c_150 (by decide)
                                                      · have nc_150 := Int32.not_le.mp c_150
                                                        refine x_iload_n C d_TP_commonDivisor_15 1 rfl rfl ?_
                                                        refine x_iload_n C d_TP_commonDivisor_16 0 rfl rfl ?_
                                                        refine x_irem C d_TP_commonDivisor_17 (by decide) ?_
                                                        refine x_topi (x' := 1) (by decide) ?_
                                                        refine x_ifne C d_TP_commonDivisor_18 27 (by decide) (fun c_151 => ?_) (fun c_151 => ?_)
                                                        · refine x_iinc C d_TP_commonDivisor_27 0 rfl (v := 3) (by decide) (by decide) (lv' := [(2, .int (3)), (0, .int (nI 5)), (1, .int (16))]) rfl ?_
                                                          refine x_goto C d_TP_commonDivisor_30 10 (by decide) ?_
                                                          refine x_iload_n C d_TP_commonDivisor_10 0 rfl rfl ?_
                                                          refine x_iconst C d_TP_commonDivisor_11 (v := 1) (by decide) ?_
                                                          refine x_icmp_le C d_TP_commonDivisor_12 33 (by decide) (fun c_152 => ?_) (fun c_152 => ?_)
                                                          · exact absurd c_152 (by decide)
                                                          · have nc_152 := Int32.not_le.mp c_152
                                                            refine x_iload_n C d_TP_commonDivisor_15 1 rfl rfl ?_
                                                            refine x_iload_n C d_TP_commonDivisor_16 0 rfl rfl ?_
                                                            refine x_irem C d_TP_commonDivisor_17 (by decide) ?_
                                                            refine x_topi (x' := 2) (by decide) ?_
                                                            refine x_ifne C d_TP_commonDivisor_18 27 (by decide) (fun c_153 => ?_) (fun c_153 => ?_)
                                                            · refine x_iinc C d_TP_commonDivisor_27 0 rfl (v := 2) (by decide) (by decide) (lv' := [(2, .int (2)), (0, .int (nI 5)), (1, .int (16))]) rfl ?_
                                                              refine x_goto C d_TP_commonDivisor_30 10 (by decide) ?_
                                                              refine x_iload_n C d_TP_commonDivisor_10 0 rfl rfl ?_
                                                              refine x_iconst C d_TP_commonDivisor_11 (v := 1) (by decide) ?_
                                                              refine x_icmp_le C d_TP_commonDivisor_12 33 (by decide) (fun c_154 => ?_) (fun c_154 => ?_)
                                                              · exact absurd c_154 (by decide)
                                                              · have nc_154 := Int32.not_le.mp c_154
                                                                refine x_iload_n C d_TP_commonDivisor_15 1 rfl rfl ?_
                                                                refine x_iload_n C d_TP_commonDivisor_16 0 rfl rfl ?_
                                                                refine x_irem C d_TP_commonDivisor_17 (by decide) ?_
                                                                refine x_topi (x' := 1) (by decide) ?_
                                                                refine x_ifne C d_TP_commonDivisor_18 27 (by decide) (fun c_155 => ?_) (fun c_155 => ?_)
                                                                · refine x_iinc C d_TP_commonDivisor_27 0 rfl (v := 1) (by decide) (by decide) (lv' := [(2, .int (1)), (0, .int (nI 5)), (1, .int (16))]) rfl ?_
                                                                  refine x_goto C d_TP_commonDivisor_30 10 (by decide) ?_
                                                                  refine x_iload_n C d_TP_commonDivisor_10 0 rfl rfl ?_
                                                                  refine x_iconst C d_TP_commonDivisor_11 (v := 1) (by decide) ?_
                                                                  refine x_icmp_le C d_TP_commonDivisor_12 33 (by decide) (fun c_156 => ?_) (fun c_156 => ?_)
                                                                  · have nc_156 := Int32.not_lt.mpr c_156
                                                                    refine x_iload_n C d_TP_commonDivisor_33 0 rfl rfl ?_
                                                                    exact x_iret C (by decide) rfl d_TP_commonDivisor_34
                                                                  · exact absurd c_156 (by decide)
                                                                · exact absurd c_155 (by decide)
                                                            · exact absurd c_153 (by decide)
                                                        · exact absurd c_151 (by decide)
                                              · exact absurd c_146 (by decide)
                                          · exact absurd c_144 (by decide)
                                      · exact absurd c_142 (by decide)
                                  · exact absurd c_140 (by decide)
                              · exact absurd c_138 (by decide)
                          · exact absurd c_136 (by decide)
                      · exact absurd c_134 (by decide)
                  · exact absurd c_132 (by decide)
              · exact absurd c_130 (by decide)
          · exact absurd c_128 (by decide)
      · exact absurd c_126 (by decide)
  · refine x_iconst C d_TP_commonDivisor_0 (v := 1) (by decide) ?_
    refine x_iload_n C d_TP_commonDivisor_1 0 rfl rfl ?_
    refine x_iload_n C d_TP_commonDivisor_2 1 rfl rfl ?_
    refine x_mx C k_549 (Nat.le_of_ble_eq_true rfl) (Nat.le_of_ble_eq_true rfl) d_TP_commonDivisor_3 ?_
    refine x_topi (x' := 16) (by decide) ?_
    refine x_mx C k_549 (Nat.le_of_ble_eq_true rfl) (Nat.le_of_ble_eq_true rfl) d_TP_commonDivisor_6 ?_
    refine x_topi (x' := 16) (by decide) ?_
    refine x_istore_n C d_TP_commonDivisor_9 rfl (by decide) (lv' := [(2, .int (16)), (0, .int (nI 6)), (1, .int (16))]) rfl ?_
    refine x_iload_n C d_TP_commonDivisor_10 0 rfl rfl ?_
    refine x_iconst C d_TP_commonDivisor_11 (v := 1) (by decide) ?_
    refine x_icmp_le C d_TP_commonDivisor_12 33 (by decide) (fun c_157 => ?_) (fun c_157 => ?_)
    · exact absurd c_157 (by decide)
    · have nc_157 := Int32.not_le.mp c_157
      refine x_iload_n C d_TP_commonDivisor_15 1 rfl rfl ?_
      refine x_iload_n C d_TP_commonDivisor_16 0 rfl rfl ?_
      refine x_irem C d_TP_commonDivisor_17 (by decide) ?_
      refine x_topi (x' := 6) (by decide) ?_
      refine x_ifne C d_TP_commonDivisor_18 27 (by decide) (fun c_158 => ?_) (fun c_158 => ?_)
      · refine x_iinc C d_TP_commonDivisor_27 0 rfl (v := 15) (by decide) (by decide) (lv' := [(2, .int (15)), (0, .int (nI 6)), (1, .int (16))]) rfl ?_
        refine x_goto C d_TP_commonDivisor_30 10 (by decide) ?_
        refine x_iload_n C d_TP_commonDivisor_10 0 rfl rfl ?_
        refine x_iconst C d_TP_commonDivisor_11 (v := 1) (by decide) ?_
        refine x_icmp_le C d_TP_commonDivisor_12 33 (by decide) (fun c_159 => ?_) (fun c_159 => ?_)
        · exact absurd c_159 (by decide)
        · have nc_159 := Int32.not_le.mp c_159
          refine x_iload_n C d_TP_commonDivisor_15 1 rfl rfl ?_
          refine x_iload_n C d_TP_commonDivisor_16 0 rfl rfl ?_
          refine x_irem C d_TP_commonDivisor_17 (by decide) ?_
          refine x_topi (x' := 6) (by decide) ?_
          refine x_ifne C d_TP_commonDivisor_18 27 (by decide) (fun c_160 => ?_) (fun c_160 => ?_)
          · refine x_iinc C d_TP_commonDivisor_27 0 rfl (v := 14) (by decide) (by decide) (lv' := [(2, .int (14)), (0, .int (nI 6)), (1, .int (16))]) rfl ?_
            refine x_goto C d_TP_commonDivisor_30 10 (by decide) ?_
            refine x_iload_n C d_TP_commonDivisor_10 0 rfl rfl ?_
            refine x_iconst C d_TP_commonDivisor_11 (v := 1) (by decide) ?_
            refine x_icmp_le C d_TP_commonDivisor_12 33 (by decide) (fun c_161 => ?_) (fun c_161 => ?_)
            · exact absurd c_161 (by decide)
            · have nc_161 := Int32.not_le.mp c_161
              refine x_iload_n C d_TP_commonDivisor_15 1 rfl rfl ?_
              refine x_iload_n C d_TP_commonDivisor_16 0 rfl rfl ?_
              refine x_irem C d_TP_commonDivisor_17 (by decide) ?_
              refine x_topi (x' := 6) (by decide) ?_
              refine x_ifne C d_TP_commonDivisor_18 27 (by decide) (fun c_162 => ?_) (fun c_162 => ?_)
              · refine x_iinc C d_TP_commonDivisor_27 0 rfl (v := 13) (by decide) (by decide) (lv' := [(2, .int (13)), (0, .int (nI 6)), (1, .int (16))]) rfl ?_
                refine x_goto C d_TP_commonDivisor_30 10 (by decide) ?_
                refine x_iload_n C d_TP_commonDivisor_10 0 rfl rfl ?_
                refine x_iconst C d_TP_commonDivisor_11 (v := 1) (by decide) ?_
                refine x_icmp_le C d_TP_commonDivisor_12 33 (by decide) (fun c_163 => ?_) (fun c_163 => ?_)
                · exact absurd c_163 (by decide)
                · have nc_163 := Int32.not_le.mp c_163
                  refine x_iload_n C d_TP_commonDivisor_15 1 rfl rfl ?_
                  refine x_iload_n C d_TP_commonDivisor_16 0 rfl rfl ?_
                  refine x_irem C d_TP_commonDivisor_17 (by decide) ?_
                  refine x_topi (x' := 6) (by decide) ?_
                  refine x_ifne C d_TP_commonDivisor_18 27 (by decide) (fun c_164 => ?_) (fun c_164 => ?_)
                  · refine x_iinc C d_TP_commonDivisor_27 0 rfl (v := 12) (by decide) (by decide) (lv' := [(2, .int (12)), (0, .int (nI 6)), (1, .int (16))]) rfl ?_
                    refine x_goto C d_TP_commonDivisor_30 10 (by decide) ?_
                    refine x_iload_n C d_TP_commonDivisor_10 0 rfl rfl ?_
                    refine x_iconst C d_TP_commonDivisor_11 (v := 1) (by decide) ?_
                    refine x_icmp_le C d_TP_commonDivisor_12 33 (by decide) (fun c_165 => ?_) (fun c_165 => ?_)
                    · exact absurd c_165 (by decide)
                    · have nc_165 := Int32.not_le.mp c_165
                      refine x_iload_n C d_TP_commonDivisor_15 1 rfl rfl ?_
                      refine x_iload_n C d_TP_commonDivisor_16 0 rfl rfl ?_
                      refine x_irem C d_TP_commonDivisor_17 (by decide) ?_
                      refine x_topi (x' := 6) (by decide) ?_
                      refine x_ifne C d_TP_commonDivisor_18 27 (by decide) (fun c_166 => ?_) (fun c_166 => ?_)
                      · refine x_iinc C d_TP_commonDivisor_27 0 rfl (v := 11) (by decide) (by decide) (lv' := [(2, .int (11)), (0, .int (nI 6)), (1, .int (16))]) rfl ?_
                        refine x_goto C d_TP_commonDivisor_30 10 (by decide) ?_
                        refine x_iload_n C d_TP_commonDivisor_10 0 rfl rfl ?_
                        refine x_iconst C d_TP_commonDivisor_11 (v := 1) (by decide) ?_
                        refine x_icmp_le C d_TP_commonDivisor_12 33 (by decide) (fun c_167 => ?_) (fun c_167 => ?_)
                        · exact absurd c_167 (by decide)
                        · have nc_167 := Int32.not_le.mp c_167
                          refine x_iload_n C d_TP_commonDivisor_15 1 rfl rfl ?_
                          refine x_iload_n C d_TP_commonDivisor_16 0 rfl rfl ?_
                          refine x_irem C d_TP_commonDivisor_17 (by decide) ?_
                          refine x_topi (x' := 6) (by decide) ?_
                          refine x_ifne C d_TP_commonDivisor_18 27 (by decide) (fun c_168 => ?_) (fun c_168 => ?_)
                          · refine x_iinc C d_TP_commonDivisor_27 0 rfl (v := 10) (by decide) (by decide) (lv' := [(2, .int (10)), (0, .int (nI 6)), (1, .int (16))]) rfl ?_
                            refine x_goto C d_TP_commonDivisor_30 10 (by decide) ?_
                            refine x_iload_n C d_TP_commonDivisor_10 0 rfl rfl ?_
                            refine x_iconst C d_TP_commonDivisor_11 (v := 1) (by decide) ?_
                            refine x_icmp_le C d_TP_commonDivisor_12 33 (by decide) (fun c_169 => ?_) (fun c_169 => ?_)
                            · exact absurd c_169 (by decide)
                            · have nc_169 := Int32.not_le.mp c_169
                              refine x_iload_n C d_TP_commonDivisor_15 1 rfl rfl ?_
                              refine x_iload_n C d_TP_commonDivisor_16 0 rfl rfl ?_
                              refine x_irem C d_TP_commonDivisor_17 (by decide) ?_
                              refine x_topi (x' := 6) (by decide) ?_
                              refine x_ifne C d_TP_commonDivisor_18 27 (by decide) (fun c_170 => ?_) (fun c_170 => ?_)
                              · refine x_iinc C d_TP_commonDivisor_27 0 rfl (v := 9) (by decide) (by decide) (lv' := [(2, .int (9)), (0, .int (nI 6)), (1, .int (16))]) rfl ?_
                                refine x_goto C d_TP_commonDivisor_30 10 (by decide) ?_
                                refine x_iload_n C d_TP_commonDivisor_10 0 rfl rfl ?_
                                refine x_iconst C d_TP_commonDivisor_11 (v := 1) (by decide) ?_
                                refine x_icmp_le C d_TP_commonDivisor_12 33 (by decide) (fun c_171 => ?_) (fun c_171 => ?_)
                                · exact absurd c_171 (by decide)
                                · have nc_171 := Int32.not_le.mp c_171
                                  refine x_iload_n C d_TP_commonDivisor_15 1 rfl rfl ?_
                                  refine x_iload_n C d_TP_commonDivisor_16 0 rfl rfl ?_
                                  refine x_irem C d_TP_commonDivisor_17 (by decide) ?_
                                  refine x_topi (x' := 6) (by decide) ?_
                                  refine x_ifne C d_TP_commonDivisor_18 27 (by decide) (fun c_172 => ?_) (fun c_172 => ?_)
                                  · refine x_iinc C d_TP_commonDivisor_27 0 rfl (v := 8) (by decide) (by decide) (lv' := [(2, .int (8)), (0, .int (nI 6)), (1, .int (16))]) rfl ?_
                                    refine x_goto C d_TP_commonDivisor_30 10 (by decide) ?_
                                    refine x_iload_n C d_TP_commonDivisor_10 0 rfl rfl ?_
                                    refine x_iconst C d_TP_commonDivisor_11 (v := 1) (by decide) ?_
                                    refine x_icmp_le C d_TP_commonDivisor_12 33 (by decide) (fun c_173 => ?_) (fun c_173 => ?_)
                                    · exact absurd c_173 (by decide)
                                    · have nc_173 := Int32.not_le.mp c_173
                                      refine x_iload_n C d_TP_commonDivisor_15 1 rfl rfl ?_
                                      refine x_iload_n C d_TP_commonDivisor_16 0 rfl rfl ?_
                                      refine x_irem C d_TP_commonDivisor_17 (by decide) ?_
                                      refine x_topi (x' := 6) (by decide) ?_
                                      refine x_ifne C d_TP_commonDivisor_18 27 (by decide) (fun c_174 => ?_) (fun c_174 => ?_)
                                      · refine x_iinc C d_TP_commonDivisor_27 0 rfl (v := 7) (by decide) (by decide) (lv' := [(2, .int (7)), (0, .int (nI 6)), (1, .int (16))]) rfl ?_
                                        refine x_goto C d_TP_commonDivisor_30 10 (by decide) ?_
                                        refine x_iload_n C d_TP_commonDivisor_10 0 rfl rfl ?_
                                        refine x_iconst C d_TP_commonDivisor_11 (v := 1) (by decide) ?_
                                        refine x_icmp_le C d_TP_commonDivisor_12 33 (by decide) (fun c_175 => ?_) (fun c_175 => ?_)
                                        · exact absurd c_175 (by decide)
                                        · have nc_175 := Int32.not_le.mp c_175
                                          refine x_iload_n C d_TP_commonDivisor_15 1 rfl rfl ?_
                                          refine x_iload_n C d_TP_commonDivisor_16 0 rfl rfl ?_
                                          refine x_irem C d_TP_commonDivisor_17 (by decide) ?_
                                          refine x_topi (x' := 6) (by decide) ?_
                                          refine x_ifne C d_TP_commonDivisor_18 27 (by decide) (fun c_176 => ?_) (fun c_176 => ?_)
                                          · refine x_iinc C d_TP_commonDivisor_27 0 rfl (v := 6) (by decide) (by decide) (lv' := [(2, .int (6)), (0, .int (nI 6)), (1, .int (16))]) rfl ?_
                                            refine x_goto C d_TP_commonDivisor_30 10 (by decide) ?_
                                            refine x_iload_n C d_TP_commonDivisor_10 0 rfl rfl ?_
                                            refine x_iconst C d_TP_commonDivisor_11 (v := 1) (by decide) ?_
                                            refine x_icmp_le C d_TP_commonDivisor_12 33 (by decide) (fun c_177 => ?_) (fun c_177 => ?_)
                                            · exact absurd c_177 (by decide)
                                            · have nc_177 := Int32.not_le.mp c_177
                                              refine x_iload_n C d_TP_commonDivisor_15 1 rfl rfl ?_
                                              refine x_iload_n C d_TP_commonDivisor_16 0 rfl rfl ?_
                                              refine x_irem C d_TP_commonDivisor_17 (by decide) ?_
                                              refine x_topi (x' := 0) (by decide) ?_
                                              refine x_ifne C d_TP_commonDivisor_18 27 (by decide) (fun c_178 => ?_) (fun c_178 => ?_)
                                              · exact absurd c_178 (by decide)
                                              · refine x_iload_n C d_TP_commonDivisor_21 2 rfl rfl ?_
                                                refine x_iload_n C d_TP_commonDivisor_22 0 rfl rfl ?_
                                                refine x_irem C d_TP_commonDivisor_23 (by decide) ?_
                                                refine x_topi (x' := 4) (by decide) ?_
                                                refine x_ifeq C d_TP_commonDivisor_24 33 (by decide) (fun c_179 => ?_) (fun c_179 => ?_)
                                                · exact absurd c_179 (by decide)
                                                · refine x_iinc C d_TP_commonDivisor_27 0 rfl (v := 5) (by decide) (by decide) (lv' := [(2, .int (5)), (0, .int (nI 6)), (1, .int (16))]) rfl ?_
                                                  refine x_goto C d_TP_commonDivisor_30 10 (by decide) ?_
                                                  refine x_iload_n C d_TP_commonDivisor_10 0 rfl rfl ?_
                                                  refine x_iconst C d_TP_commonDivisor_11 (v := 1) (by decide) ?_
                                                  refine x_icmp_le C d_TP_commonDivisor_12 33 (by decide) (fun c_180 => ?_) (fun c_180 => ?_)
                                                  · exact absurd c_180 (by decide)
                                                  · have nc_180 := Int32.not_le.mp c_180
                                                    refine x_iload_n C d_TP_commonDivisor_15 1 rfl rfl ?_
                                                    refine x_iload_n C d_TP_commonDivisor_16 0 rfl rfl ?_
                                                    refine x_irem C d_TP_commonDivisor_17 (by decide) ?_
                                                    refine x_topi (x' := 1) (by decide) ?_
                                                    refine x_ifne C d_TP_commonDivisor_18 27 (by decide) (fun c_181 => ?_) (fun c_181 => ?_)
                                                    · refine x_iinc C d_TP_commonDivisor_27 0 rfl (v := 4) (by decide) (by decide) (lv' := [(2, .int (4)), (0, .int (nI 6)), (1, .int (16))]) rfl ?_
                                                      refine x_goto C d_TP_commonDivisor_30 10 (by decide) ?_
                                                      refine x_iload_n C d_TP_commonDivisor_10 0 rfl rfl ?_
                                                      refine x_iconst C d_TP_commonDivisor_11 (v := 1) (by decide) ?_
                                                      refine x_icmp_le C d_TP_commonDivisor_12 33 (by decide) (fun c_182 => ?_) (fun c_182 => ?_)
                                                      · exact absurd c_182 (by decide)
                                                      · have nc_182 := Int32.not_le.mp c_182
                                                        refine x_iload_n C d_TP_commonDivisor_15 1 rfl rfl ?_
                                                        refine x_iload_n C d_TP_commonDivisor_16 0 rfl rfl ?_
                                                        refine x_irem C d_TP_commonDivisor_17 (by decide) ?_
                                                        refine x_topi (x' := 2) (by decide) ?_
                                                        refine x_ifne C d_TP_commonDivisor_18 27 (by decide) (fun c_183 => ?_) (fun c_183 => ?_)
                                                        · refine x_iinc C d_TP_commonDivisor_27 0 rfl (v := 3) (by decide) (by decide) (lv' := [(2, .int (3)), (0, .int (nI 6)), (1, .int (16))]) rfl ?_
                                                          refine x_goto C d_TP_commonDivisor_30 10 (by decide) ?_
                                                          refine x_iload_n C d_TP_commonDivisor_10 0 rfl rfl ?_
                                                          refine x_iconst C d_TP_commonDivisor_11 (v := 1) (by decide) ?_
                                                          refine x_icmp_le C d_TP_commonDivisor_12 33 (by decide) (fun c_184 => ?_) (fun c_184 => ?_)
                                                          · exact absurd c_184 (by decide)
                                                          · have nc_184 := Int32.not_le.mp c_184
                                                            refine x_iload_n C d_TP_commonDivisor_15 1 rfl rfl ?_
                                                            refine x_iload_n C d_TP_commonDivisor_16 0 rfl rfl ?_
                                                            refine x_irem C d_TP_commonDivisor_17 (by decide) ?_
                                                            refine x_topi (x' := 0) (by decide) ?_
                                                            refine x_ifne C d_TP_commonDivisor_18 27 (by decide) (fun c_185 => ?_) (fun c_185 => ?_)
                                                            · exact absurd c_185 (by decide)
                                                            · refine x_iload_n C d_TP_commonDivisor_21 2 rfl rfl ?_
                                                              refine x_iload_n C d_TP_commonDivisor_22 0 rfl rfl ?_
                                                              refine x_irem C d_TP_commonDivisor_23 (by decide) ?_
                                                              refine x_topi (x' := 1) (by decide) ?_
                                                              refine x_ifeq C d_TP_commonDivisor_24 33 (by decide) (fun c_186 => ?_) (fun c_186 => ?_)
                                                              · exact absurd c_186 (by decide)
                                                              · refine x_iinc C d_TP_commonDivisor_27 0 rfl (v := 2) (by decide) (by decide) (lv' := [(2, .int (2)), (0, .int (nI 6)), (1, .int (16))]) rfl ?_
                                                                refine x_goto C d_TP_commonDivisor_30 10 (by decide) ?_
                                                                refine x_iload_n C d_TP_commonDivisor_10 0 rfl rfl ?_
                                                                refine x_iconst C d_TP_commonDivisor_11 (v := 1) (by decide) ?_
                                                                refine x_icmp_le C d_TP_commonDivisor_12 33 (by decide) (fun c_187 => ?_) (fun c_187 => ?_)
                                                                · exact absurd c_187 (by decide)
                                                                · have nc_187 := Int32.not_le.mp c_187
                                                                  refine x_iload_n C d_TP_commonDivisor_15 1 rfl rfl ?_
                                                                  refine x_iload_n C d_TP_commonDivisor_16 0 rfl rfl ?_
                                                                  refine x_irem C d_TP_commonDivisor_17 (by decide) ?_
                                                                  refine x_topi (x' := 0) (by decide) ?_
                                                                  refine x_ifne C d_TP_commonDivisor_18 27 (by decide) (fun c_188 => ?_) (fun c_188 => ?_)
                                                                  · exact absurd c_188 (by decide)
                                                                  · refine x_iload_n C d_TP_commonDivisor_21 2 rfl rfl ?_
                                                                    refine x_iload_n C d_TP_commonDivisor_22 0 rfl rfl ?_
                                                                    refine x_irem C d_TP_commonDivisor_23 (by decide) ?_
                                                                    refine x_topi (x' := 0) (by decide) ?_
                                                                    refine x_ifeq C d_TP_commonDivisor_24 33 (by decide) (fun c_189 => ?_) (fun c_189 => ?_)
                                                                    · refine x_iload_n C d_TP_commonDivisor_33 0 rfl rfl ?_
                                                                      exact x_iret C (by decide) rfl d_TP_commonDivisor_34
                                                                    · exact absurd c_189 (by decide)
                                                        · exact absurd c_183 (by decide)
                                                    · exact absurd c_181 (by decide)
                                          · exact absurd c_176 (by decide)
                                      · exact absurd c_174 (by decide)
                                  · exact absurd c_172 (by decide)
                              · exact absurd c_170 (by decide)
                          · exact absurd c_168 (by decide)
                      · exact absurd c_166 (by decide)
                  · exact absurd c_164 (by decide)
              · exact absurd c_162 (by decide)
          · exact absurd c_160 (by decide)
      · exact absurd c_158 (by decide)
  · refine x_iconst C d_TP_commonDivisor_0 (v := 1) (by decide) ?_
    refine x_iload_n C d_TP_commonDivisor_1 0 rfl rfl ?_
    refine x_iload_n C d_TP_commonDivisor_2 1 rfl rfl ?_
    refine x_mx C k_549 (Nat.le_of_ble_eq_true rfl) (Nat.le_of_ble_eq_true rfl) d_TP_commonDivisor_3 ?_
    refine x_topi (x' := 16) (by decide) ?_
    refine x_mx C k_549 (Nat.le_of_ble_eq_true rfl) (Nat.le_of_ble_eq_true rfl) d_TP_commonDivisor_6 ?_
    refine x_topi (x' := 16) (by decide) ?_
    refine x_istore_n C d_TP_commonDivisor_9 rfl (by decide) (lv' := [(2, .int (16)), (0, .int (nI 7)), (1, .int (16))]) rfl ?_
    refine x_iload_n C d_TP_commonDivisor_10 0 rfl rfl ?_
    refine x_iconst C d_TP_commonDivisor_11 (v := 1) (by decide) ?_
    refine x_icmp_le C d_TP_commonDivisor_12 33 (by decide) (fun c_190 => ?_) (fun c_190 => ?_)
    · exact absurd c_190 (by decide)
    · have nc_190 := Int32.not_le.mp c_190
      refine x_iload_n C d_TP_commonDivisor_15 1 rfl rfl ?_
      refine x_iload_n C d_TP_commonDivisor_16 0 rfl rfl ?_
      refine x_irem C d_TP_commonDivisor_17 (by decide) ?_
      refine x_topi (x' := 7) (by decide) ?_
      refine x_ifne C d_TP_commonDivisor_18 27 (by decide) (fun c_191 => ?_) (fun c_191 => ?_)
      · refine x_iinc C d_TP_commonDivisor_27 0 rfl (v := 15) (by decide) (by decide) (lv' := [(2, .int (15)), (0, .int (nI 7)), (1, .int (16))]) rfl ?_
        refine x_goto C d_TP_commonDivisor_30 10 (by decide) ?_
        refine x_iload_n C d_TP_commonDivisor_10 0 rfl rfl ?_
        refine x_iconst C d_TP_commonDivisor_11 (v := 1) (by decide) ?_
        refine x_icmp_le C d_TP_commonDivisor_12 33 (by decide) (fun c_192 => ?_) (fun c_192 => ?_)
        · exact absurd c_192 (by decide)
        · have nc_192 := Int32.not_le.mp c_192
          refine x_iload_n C d_TP_commonDivisor_15 1 rfl rfl ?_
          refine x_iload_n C d_TP_commonDivisor_16 0 rfl rfl ?_
          refine x_irem C d_TP_commonDivisor_17 (by decide) ?_
          refine x_topi (x' := 7) (by decide) ?_
          refine x_ifne C d_TP_commonDivisor_18 27 (by decide) (fun c_193 => ?_) (fun c_193 => ?_)
          · refine x_iinc C d_TP_commonDivisor_27 0 rfl (v := 14) (by decide) (by decide) (lv' := [(2, .int (14)), (0, .int (nI 7)), (1, .int (16))]) rfl ?_
            refine x_goto C d_TP_commonDivisor_30 10 (by decide) ?_
            refine x_iload_n C d_TP_commonDivisor_10 0 rfl rfl ?_
            refine x_iconst C d_TP_commonDivisor_11 (v := 1) (by decide) ?_
            refine x_icmp_le C d_TP_commonDivisor_12 33 (by decide) (fun c_194 => ?_) (fun c_194 => ?_)
            · exact absurd c_194 (by decide)
            · have nc_194 := Int32.not_le.mp c_194
              refine x_iload_n C d_TP_commonDivisor_15 1 rfl rfl ?_
              refine x_iload_n C d_TP_commonDivisor_16 0 rfl rfl ?_
              refine x_irem C d_TP_commonDivisor_17 (by decide) ?_
              refine x_topi (x' := 7) (by decide) ?_
              refine x_ifne C d_TP_commonDivisor_18 27 (by decide) (fun c_195 => ?_) (fun c_195 => ?_)
              · refine x_iinc C d_TP_commonDivisor_27 0 rfl (v := 13) (by decide) (by decide) (lv' := [(2, .int (13)), (0, .int (nI 7)), (1, .int (16))]) rfl ?_
                refine x_goto C d_TP_commonDivisor_30 10 (by decide) ?_
                refine x_iload_n C d_TP_commonDivisor_10 0 rfl rfl ?_
                refine x_iconst C d_TP_commonDivisor_11 (v := 1) (by decide) ?_
                refine x_icmp_le C d_TP_commonDivisor_12 33 (by decide) (fun c_196 => ?_) (fun c_196 => ?_)
                · exact absurd c_196 (by decide)
                · have nc_196 := Int32.not_le.mp c_196
                  refine x_iload_n C d_TP_commonDivisor_15 1 rfl rfl ?_
                  refine x_iload_n C d_TP_commonDivisor_16 0 rfl rfl ?_
                  refine x_irem C d_TP_commonDivisor_17 (by decide) ?_
                  refine x_topi (x' := 7) (by decide) ?_
                  refine x_ifne C d_TP_commonDivisor_18 27 (by decide) (fun c_197 => ?_) (fun c_197 => ?_)
                  · refine x_iinc C d_TP_commonDivisor_27 0 rfl (v := 12) (by decide) (by decide) (lv' := [(2, .int (12)), (0, .int (nI 7)), (1, .int (16))]) rfl ?_
                    refine x_goto C d_TP_commonDivisor_30 10 (by decide) ?_
                    refine x_iload_n C d_TP_commonDivisor_10 0 rfl rfl ?_
                    refine x_iconst C d_TP_commonDivisor_11 (v := 1) (by decide) ?_
                    refine x_icmp_le C d_TP_commonDivisor_12 33 (by decide) (fun c_198 => ?_) (fun c_198 => ?_)
                    · exact absurd c_198 (by decide)
                    · have nc_198 := Int32.not_le.mp c_198
                      refine x_iload_n C d_TP_commonDivisor_15 1 rfl rfl ?_
                      refine x_iload_n C d_TP_commonDivisor_16 0 rfl rfl ?_
                      refine x_irem C d_TP_commonDivisor_17 (by decide) ?_
                      refine x_topi (x' := 7) (by decide) ?_
                      refine x_ifne C d_TP_commonDivisor_18 27 (by decide) (fun c_199 => ?_) (fun c_199 => ?_)
                      · refine x_iinc C d_TP_commonDivisor_27 0 rfl (v := 11) (by decide) (by decide) (lv' := [(2, .int (11)), (0, .int (nI 7)), (1, .int (16))]) rfl ?_
                        refine x_goto C d_TP_commonDivisor_30 10 (by decide) ?_
                        refine x_iload_n C d_TP_commonDivisor_10 0 rfl rfl ?_
                        refine x_iconst C d_TP_commonDivisor_11 (v := 1) (by decide) ?_
                        refine x_icmp_le C d_TP_commonDivisor_12 33 (by decide) (fun c_200 => ?_) (fun c_200 => ?_)
                        · exact absurd c_200 (by decide)
                        · have nc_200 := Int32.not_le.mp c_200
                          refine x_iload_n C d_TP_commonDivisor_15 1 rfl rfl ?_
                          refine x_iload_n C d_TP_commonDivisor_16 0 rfl rfl ?_
                          refine x_irem C d_TP_commonDivisor_17 (by decide) ?_
                          refine x_topi (x' := 7) (by decide) ?_
                          refine x_ifne C d_TP_commonDivisor_18 27 (by decide) (fun c_201 => ?_) (fun c_201 => ?_)
                          · refine x_iinc C d_TP_commonDivisor_27 0 rfl (v := 10) (by decide) (by decide) (lv' := [(2, .int (10)), (0, .int (nI 7)), (1, .int (16))]) rfl ?_
                            refine x_goto C d_TP_commonDivisor_30 10 (by decide) ?_
                            refine x_iload_n C d_TP_commonDivisor_10 0 rfl rfl ?_
                            refine x_iconst C d_TP_commonDivisor_11 (v := 1) (by decide) ?_
                            refine x_icmp_le C d_TP_commonDivisor_12 33 (by decide) (fun c_202 => ?_) (fun c_202 => ?_)
                            · exact absurd c_202 (by decide)
                            · have nc_202 := Int32.not_le.mp c_202
                              refine x_iload_n C d_TP_commonDivisor_15 1 rfl rfl ?_
                              refine x_iload_n C d_TP_commonDivisor_16 0 rfl rfl ?_
                              refine x_irem C d_TP_commonDivisor_17 (by decide) ?_
                              refine x_topi (x' := 7) (by decide) ?_
                              refine x_ifne C d_TP_commonDivisor_18 27 (by decide) (fun c_203 => ?_) (fun c_203 => ?_)
                              · refine x_iinc C d_TP_commonDivisor_27 0 rfl (v := 9) (by decide) (by decide) (lv' := [(2, .int (9)), (0, .int (nI 7)), (1, .int (16))]) rfl ?_
                                refine x_goto C d_TP_commonDivisor_30 10 (by decide) ?_
                                refine x_iload_n C d_TP_commonDivisor_10 0 rfl rfl ?_
                                refine x_iconst C d_TP_commonDivisor_11 (v := 1) (by decide) ?_
                                refine x_icmp_le C d_TP_commonDivisor_12 33 (by decide) (fun c_204 => ?_) (fun c_204 => ?_)
                                · exact absurd c_204 (by decide)
                                · have nc_204 := Int32.not_le.mp c_204
                                  refine x_iload_n C d_TP_commonDivisor_15 1 rfl rfl ?_
                                  refine x_iload_n C d_TP_commonDivisor_16 0 rfl rfl ?_
                                  refine x_irem C d_TP_commonDivisor_17 (by decide) ?_
                                  refine x_topi (x' := 7) (by decide) ?_
                                  refine x_ifne C d_TP_commonDivisor_18 27 (by decide) (fun c_205 => ?_) (fun c_205 => ?_)
                                  · refine x_iinc C d_TP_commonDivisor_27 0 rfl (v := 8) (by decide) (by decide) (lv' := [(2, .int (8)), (0, .int (nI 7)), (1, .int (16))]) rfl ?_
                                    refine x_goto C d_TP_commonDivisor_30 10 (by decide) ?_
                                    refine x_iload_n C d_TP_commonDivisor_10 0 rfl rfl ?_
                                    refine x_iconst C d_TP_commonDivisor_11 (v := 1) (by decide) ?_
                                    refine x_icmp_le C d_TP_commonDivisor_12 33 (by decide) (fun c_206 => ?_) (fun c_206 => ?_)
                                    · exact absurd c_206 (by decide)
                                    · have nc_206 := Int32.not_le.mp c_206
                                      refine x_iload_n C d_TP_commonDivisor_15 1 rfl rfl ?_
                                      refine x_iload_n C d_TP_commonDivisor_16 0 rfl rfl ?_
                                      refine x_irem C d_TP_commonDivisor_17 (by decide) ?_
                                      refine x_topi (x' := 7) (by decide) ?_
                                      refine x_ifne C d_TP_commonDivisor_18 27 (by decide) (fun c_207 => ?_) (fun c_207 => ?_)
                                      · refine x_iinc C d_TP_commonDivisor_27 0 rfl (v := 7) (by decide) (by decide) (lv' := [(2, .int (7)), (0, .int (nI 7)), (1, .int (16))]) rfl ?_
                                        refine x_goto C d_TP_commonDivisor_30 10 (by decide) ?_
                                        refine x_iload_n C d_TP_commonDivisor_10 0 rfl rfl ?_
                                        refine x_iconst C d_TP_commonDivisor_11 (v := 1) (by decide) ?_
                                        refine x_icmp_le C d_TP_commonDivisor_12 33 (by decide) (fun c_208 => ?_) (fun c_208 => ?_)
                                        · exact absurd c_208 (by decide)
                                        · have nc_208 := Int32.not_le.mp c_208
                                          refine x_iload_n C d_TP_commonDivisor_15 1 rfl rfl ?_
                                          refine x_iload_n C d_TP_commonDivisor_16 0 rfl rfl ?_
                                          refine x_irem C d_TP_commonDivisor_17 (by decide) ?_
                                          refine x_topi (x' := 0) (by decide) ?_
                                          refine x_ifne C d_TP_commonDivisor_18 27 (by decide) (fun c_209 => ?_) (fun c_209 => ?_)
                                          · exact absurd c_209 (by decide)
                                          · refine x_iload_n C d_TP_commonDivisor_21 2 rfl rfl ?_
                                            refine x_iload_n C d_TP_commonDivisor_22 0 rfl rfl ?_
                                            refine x_irem C d_TP_commonDivisor_23 (by decide) ?_
                                            refine x_topi (x' := 2) (by decide) ?_
                                            refine x_ifeq C d_TP_commonDivisor_24 33 (by decide) (fun c_210 => ?_) (fun c_210 => ?_)
                                            · exact absurd c_210 (by decide)
                                            · refine x_iinc C d_TP_commonDivisor_27 0 rfl (v := 6) (by decide) (by decide) (lv' := [(2, .int (6)), (0, .int (nI 7)), (1, .int (16))]) rfl ?_
                                              refine x_goto C d_TP_commonDivisor_30 10 (by decide) ?_
                                              refine x_iload_n C d_TP_commonDivisor_10 0 rfl rfl ?_
                                              refine x_iconst C d_TP_commonDivisor_11 (v := 1) (by decide) ?_
                                              refine x_icmp_le C d_TP_commonDivisor_12 33 (by decide) (fun c_211 => ?_) (fun c_211 => ?_)
                                              · exact absurd c_211 (by decide)
                                              · have nc_211 := Int32.not_le.mp c_211
                                                refine x_iload_n C d_TP_commonDivisor_15 1 rfl rfl ?_
                                                refine x_iload_n C d_TP_commonDivisor_16 0 rfl rfl ?_
                                                refine x_irem C d_TP_commonDivisor_17 (by decide) ?_
                                                refine x_topi (x' := 1) (by decide) ?_
                                                refine x_ifne C d_TP_commonDivisor_18 27 (by decide) (fun c_212 => ?_) (fun c_212 => ?_)
                                                · refine x_iinc C d_TP_commonDivisor_27 0 rfl (v := 5) (by decide) (by decide) (lv' := [(2, .int (5)), (0, .int (nI 7)), (1, .int (16))]) rfl ?_
                                                  refine x_goto C d_TP_commonDivisor_30 10 (by decide) ?_
                                                  refine x_iload_n C d_TP_commonDivisor_10 0 rfl rfl ?_
                                                  refine x_iconst C d_TP_commonDivisor_11 (v := 1) (by decide) ?_
                                                  refine x_icmp_le C d_TP_commonDivisor_12 33 (by decide) (fun c_213 => ?_) (fun c_213 => ?_)
                                                  · exact absurd c_213 (by decide)
                                                  · have nc_213 := Int32.not_le.mp c_213
                                                    refine x_iload_n C d_TP_commonDivisor_15 1 rfl rfl ?_
                                                    refine x_iload_n C d_TP_commonDivisor_16 0 rfl rfl ?_
                                                    refine x_irem C d_TP_commonDivisor_17 (by decide) ?_
                                                    refine x_topi (x' := 2) (by decide) ?_
                                                    refine x_ifne C d_TP_commonDivisor_18 27 (by decide) (fun c_214 => ?_) (fun c_214 => ?_)
                                                    · refine x_iinc C d_TP_commonDivisor_27 0 rfl (v := 4) (by decide) (by decide) (lv' := [(2, .int (4)), (0, .int (nI 7)), (1, .int (16))]) rfl ?_
                                                      refine x_goto C d_TP_commonDivisor_30 10 (by decide) ?_
                                                      refine x_iload_n C d_TP_commonDivisor_10 0 rfl rfl ?_
                                                      refine x_iconst C d_TP_commonDivisor_11 (v := 1) (by decide) ?_
                                                      refine x_icmp_le C d_TP_commonDivisor_12 33 (by decide) (fun c_215 => ?_) (fun c_215 => ?_)
                                                      · exact absurd c_215 (by decide)
                                                      · have nc_215 := Int32.not_le.mp c_215
                                                        refine x_iload_n C d_TP_commonDivisor_15 1 rfl rfl ?_
                                                        refine x_iload_n C d_TP_commonDivisor_16 0 rfl rfl ?_
                                                        refine x_irem C d_TP_commonDivisor_17 (by decide) ?_
                                                        refine x_topi (x' := 3) (by decide) ?_
                                                        refine x_ifne C d_TP_commonDivisor_18 27 (by decide) (fun c_216 => ?_) (fun c_216 => ?_)
                                                        · refine x_iinc C d_TP_commonDivisor_27 0 rfl (v := 3) (by decide) (by decide) (lv' := [(2, .int (3)), (0, .int (nI 7)), (1, .int (16))]) rfl ?_
                                                          refine x_goto C d_TP_commonDivisor_30 10 (by decide) ?_
                                                          refine x_iload_n C d_TP_commonDivisor_10 0 rfl rfl ?_
                                                          refine x_iconst C d_TP_commonDivisor_11 (v := 1) (by decide) ?_
                                                          refine x_icmp_le C d_TP_commonDivisor_12 33 (by decide) (fun c_217 => ?_) (fun c_217 => ?_)
                                                          · exact absurd c_217 (by decide)
                                                          · have nc_217 := Int32.not_le.mp c_217
                                                            refine x_iload_n C d_TP_commonDivisor_15 1 rfl rfl ?_
                                                            refine x_iload_n C d_TP_commonDivisor_16 0 rfl rfl ?_
                                                            refine x_irem C d_TP_commonDivisor_17 (by decide) ?_
                                                            refine x_topi (x' := 1) (by decide) ?_
                                                            refine x_ifne C d_TP_commonDivisor_18 27 (by decide) (fun c_218 => ?_) (fun c_218 => ?_)
                                                            · refine x_iinc C d_TP_commonDivisor_27 0 rfl (v := 2) (by decide) (by decide) (lv' := [(2, .int (2)), (0, .int (nI 7)), (1, .int (16))]) rfl ?_
                                                              refine x_goto C d_TP_commonDivisor_30 10 (by decide) ?_
                                                              refine x_iload_n C d_TP_commonDivisor_10 0 rfl rfl ?_
                                                              refine x_iconst C d_TP_commonDivisor_11 (v := 1) (by decide) ?_
                                                              refine x_icmp_le C d_TP_commonDivisor_12 33 (by decide) (fun c_219 => ?_) (fun c_219 => ?_)
                                                              · exact absurd c_219 (by decide)
                                                              · have nc_219 := Int32.not_le.mp c_219
                                                                refine x_iload_n C d_TP_commonDivisor_15 1 rfl rfl ?_
                                                                refine x_iload_n C d_TP_commonDivisor_16 0 rfl rfl ?_
                                                                refine x_irem C d_TP_commonDivisor_17 (by decide) ?_
                                                                refine x_topi (x' := 1) (by decide) ?_
                                                                refine x_ifne C d_TP_commonDivisor_18 27 (by decide) (fun c_220 => ?_) (fun c_220 => ?_)
                                                                · refine x_iinc C d_TP_commonDivisor_27 0 rfl (v := 1) (by decide) (by decide) (lv' := [(2, .int (1)), (0, .int (nI 7)), (1, .int (16))]) rfl ?_
                                                                  refine x_goto C d_TP_commonDivisor_30 10 (by decide) ?_
                                                                  refine x_iload_n C d_TP_commonDivisor_10 0 rfl rfl ?_
                                                                  refine x_iconst C d_TP_commonDivisor_11 (v := 1) (by decide) ?_
                                                                  refine x_icmp_le C d_TP_commonDivisor_12 33 (by decide) (fun c_221 => ?_) (fun c_221 => ?_)
                                                                  · have nc_221 := Int32.not_lt.mpr c_221
                                                                    refine x_iload_n C d_TP_commonDivisor_33 0 rfl rfl ?_
                                                                    exact x_iret C (by decide) rfl d_TP_commonDivisor_34
                                                                  · exact absurd c_221 (by decide)
                                                                · exact absurd c_220 (by decide)
                                                            · exact absurd c_218 (by decide)
                                                        · exact absurd c_216 (by decide)
                                                    · exact absurd c_214 (by decide)
                                                · exact absurd c_212 (by decide)
                                      · exact absurd c_207 (by decide)
                                  · exact absurd c_205 (by decide)
                              · exact absurd c_203 (by decide)
                          · exact absurd c_201 (by decide)
                      · exact absurd c_199 (by decide)
                  · exact absurd c_197 (by decide)
              · exact absurd c_195 (by decide)
          · exact absurd c_193 (by decide)
      · exact absurd c_191 (by decide)
  · refine x_iconst C d_TP_commonDivisor_0 (v := 1) (by decide) ?_
    refine x_iload_n C d_TP_commonDivisor_1 0 rfl rfl ?_
    refine x_iload_n C d_TP_commonDivisor_2 1 rfl rfl ?_
    refine x_mx C k_549 (Nat.le_of_ble_eq_true rfl) (Nat.le_of_ble_eq_true rfl) d_TP_commonDivisor_3 ?_
    refine x_topi (x' := 16) (by decide) ?_
    refine x_mx C k_549 (Nat.le_of_ble_eq_true rfl) (Nat.le_of_ble_eq_true rfl) d_TP_commonDivisor_6 ?_
    refine x_topi (x' := 16) (by decide) ?_
    refine x_istore_n C d_TP_commonDivisor_9 rfl (by decide) (lv' := [(2, .int (16)), (0, .int (nI 8)), (1, .int (16))]) rfl ?_
    refine x_iload_n C d_TP_commonDivisor_10 0 rfl rfl ?_
    refine x_iconst C d_TP_commonDivisor_11 (v := 1) (by decide) ?_
    refine x_icmp_le C d_TP_commonDivisor_12 33 (by decide) (fun c_222 => ?_) (fun c_222 => ?_)
    · exact absurd c_222 (by decide)
    · have nc_222 := Int32.not_le.mp c_222
      refine x_iload_n C d_TP_commonDivisor_15 1 rfl rfl ?_
      refine x_iload_n C d_TP_commonDivisor_16 0 rfl rfl ?_
      refine x_irem C d_TP_commonDivisor_17 (by decide) ?_
      refine x_topi (x' := 8) (by decide) ?_
      refine x_ifne C d_TP_commonDivisor_18 27 (by decide) (fun c_223 => ?_) (fun c_223 => ?_)
      · refine x_iinc C d_TP_commonDivisor_27 0 rfl (v := 15) (by decide) (by decide) (lv' := [(2, .int (15)), (0, .int (nI 8)), (1, .int (16))]) rfl ?_
        refine x_goto C d_TP_commonDivisor_30 10 (by decide) ?_
        refine x_iload_n C d_TP_commonDivisor_10 0 rfl rfl ?_
        refine x_iconst C d_TP_commonDivisor_11 (v := 1) (by decide) ?_
        refine x_icmp_le C d_TP_commonDivisor_12 33 (by decide) (fun c_224 => ?_) (fun c_224 => ?_)
        · exact absurd c_224 (by decide)
        · have nc_224 := Int32.not_le.mp c_224
          refine x_iload_n C d_TP_commonDivisor_15 1 rfl rfl ?_
          refine x_iload_n C d_TP_commonDivisor_16 0 rfl rfl ?_
          refine x_irem C d_TP_commonDivisor_17 (by decide) ?_
          refine x_topi (x' := 8) (by decide) ?_
          refine x_ifne C d_TP_commonDivisor_18 27 (by decide) (fun c_225 => ?_) (fun c_225 => ?_)
          · refine x_iinc C d_TP_commonDivisor_27 0 rfl (v := 14) (by decide) (by decide) (lv' := [(2, .int (14)), (0, .int (nI 8)), (1, .int (16))]) rfl ?_
            refine x_goto C d_TP_commonDivisor_30 10 (by decide) ?_
            refine x_iload_n C d_TP_commonDivisor_10 0 rfl rfl ?_
            refine x_iconst C d_TP_commonDivisor_11 (v := 1) (by decide) ?_
            refine x_icmp_le C d_TP_commonDivisor_12 33 (by decide) (fun c_226 => ?_) (fun c_226 => ?_)
            · exact absurd c_226 (by decide)
            · have nc_226 := Int32.not_le.mp c_226
              refine x_iload_n C d_TP_commonDivisor_15 1 rfl rfl ?_
              refine x_iload_n C d_TP_commonDivisor_16 0 rfl rfl ?_
              refine x_irem C d_TP_commonDivisor_17 (by decide) ?_
              refine x_topi (x' := 8) (by decide) ?_
              refine x_ifne C d_TP_commonDivisor_18 27 (by decide) (fun c_227 => ?_) (fun c_227 => ?_)
              · refine x_iinc C d_TP_commonDivisor_27 0 rfl (v := 13) (by decide) (by decide) (lv' := [(2, .int (13)), (0, .int (nI 8)), (1, .int (16))]) rfl ?_
                refine x_goto C d_TP_commonDivisor_30 10 (by decide) ?_
                refine x_iload_n C d_TP_commonDivisor_10 0 rfl rfl ?_
                refine x_iconst C d_TP_commonDivisor_11 (v := 1) (by decide) ?_
                refine x_icmp_le C d_TP_commonDivisor_12 33 (by decide) (fun c_228 => ?_) (fun c_228 => ?_)
                · exact absurd c_228 (by decide)
                · have nc_228 := Int32.not_le.mp c_228
                  refine x_iload_n C d_TP_commonDivisor_15 1 rfl rfl ?_
                  refine x_iload_n C d_TP_commonDivisor_16 0 rfl rfl ?_
                  refine x_irem C d_TP_commonDivisor_17 (by decide) ?_
                  refine x_topi (x' := 8) (by decide) ?_
                  refine x_ifne C d_TP_commonDivisor_18 27 (by decide) (fun c_229 => ?_) (fun c_229 => ?_)
                  · refine x_iinc C d_TP_commonDivisor_27 0 rfl (v := 12) (by decide) (by decide) (lv' := [(2, .int (12)), (0, .int (nI 8)), (1, .int (16))]) rfl ?_
                    refine x_goto C d_TP_commonDivisor_30 10 (by decide) ?_
                    refine x_iload_n C d_TP_commonDivisor_10 0 rfl rfl ?_
                    refine x_iconst C d_TP_commonDivisor_11 (v := 1) (by decide) ?_
                    refine x_icmp_le C d_TP_commonDivisor_12 33 (by decide) (fun c_230 => ?_) (fun c_230 => ?_)
                    · exact absurd c_230 (by decide)
                    · have nc_230 := Int32.not_le.mp c_230
                      refine x_iload_n C d_TP_commonDivisor_15 1 rfl rfl ?_
                      refine x_iload_n C d_TP_commonDivisor_16 0 rfl rfl ?_
                      refine x_irem C d_TP_commonDivisor_17 (by decide) ?_
                      refine x_topi (x' := 8) (by decide) ?_
                      refine x_ifne C d_TP_commonDivisor_18 27 (by decide) (fun c_231 => ?_) (fun c_231 => ?_)
                      · refine x_iinc C d_TP_commonDivisor_27 0 rfl (v := 11) (by decide) (by decide) (lv' := [(2, .int (11)), (0, .int (nI 8)), (1, .int (16))]) rfl ?_
                        refine x_goto C d_TP_commonDivisor_30 10 (by decide) ?_
                        refine x_iload_n C d_TP_commonDivisor_10 0 rfl rfl ?_
                        refine x_iconst C d_TP_commonDivisor_11 (v := 1) (by decide) ?_
                        refine x_icmp_le C d_TP_commonDivisor_12 33 (by decide) (fun c_232 => ?_) (fun c_232 => ?_)
                        · exact absurd c_232 (by decide)
                        · have nc_232 := Int32.not_le.mp c_232
                          refine x_iload_n C d_TP_commonDivisor_15 1 rfl rfl ?_
                          refine x_iload_n C d_TP_commonDivisor_16 0 rfl rfl ?_
                          refine x_irem C d_TP_commonDivisor_17 (by decide) ?_
                          refine x_topi (x' := 8) (by decide) ?_
                          refine x_ifne C d_TP_commonDivisor_18 27 (by decide) (fun c_233 => ?_) (fun c_233 => ?_)
                          · refine x_iinc C d_TP_commonDivisor_27 0 rfl (v := 10) (by decide) (by decide) (lv' := [(2, .int (10)), (0, .int (nI 8)), (1, .int (16))]) rfl ?_
                            refine x_goto C d_TP_commonDivisor_30 10 (by decide) ?_
                            refine x_iload_n C d_TP_commonDivisor_10 0 rfl rfl ?_
                            refine x_iconst C d_TP_commonDivisor_11 (v := 1) (by decide) ?_
                            refine x_icmp_le C d_TP_commonDivisor_12 33 (by decide) (fun c_234 => ?_) (fun c_234 => ?_)
                            · exact absurd c_234 (by decide)
                            · have nc_234 := Int32.not_le.mp c_234
                              refine x_iload_n C d_TP_commonDivisor_15 1 rfl rfl ?_
                              refine x_iload_n C d_TP_commonDivisor_16 0 rfl rfl ?_
                              refine x_irem C d_TP_commonDivisor_17 (by decide) ?_
                              refine x_topi (x' := 8) (by decide) ?_
                              refine x_ifne C d_TP_commonDivisor_18 27 (by decide) (fun c_235 => ?_) (fun c_235 => ?_)
                              · refine x_iinc C d_TP_commonDivisor_27 0 rfl (v := 9) (by decide) (by decide) (lv' := [(2, .int (9)), (0, .int (nI 8)), (1, .int (16))]) rfl ?_
                                refine x_goto C d_TP_commonDivisor_30 10 (by decide) ?_
                                refine x_iload_n C d_TP_commonDivisor_10 0 rfl rfl ?_
                                refine x_iconst C d_TP_commonDivisor_11 (v := 1) (by decide) ?_
                                refine x_icmp_le C d_TP_commonDivisor_12 33 (by decide) (fun c_236 => ?_) (fun c_236 => ?_)
                                · exact absurd c_236 (by decide)
                                · have nc_236 := Int32.not_le.mp c_236
                                  refine x_iload_n C d_TP_commonDivisor_15 1 rfl rfl ?_
                                  refine x_iload_n C d_TP_commonDivisor_16 0 rfl rfl ?_
                                  refine x_irem C d_TP_commonDivisor_17 (by decide) ?_
                                  refine x_topi (x' := 8) (by decide) ?_
                                  refine x_ifne C d_TP_commonDivisor_18 27 (by decide) (fun c_237 => ?_) (fun c_237 => ?_)
                                  · refine x_iinc C d_TP_commonDivisor_27 0 rfl (v := 8) (by decide) (by decide) (lv' := [(2, .int (8)), (0, .int (nI 8)), (1, .int (16))]) rfl ?_
                                    refine x_goto C d_TP_commonDivisor_30 10 (by decide) ?_
                                    refine x_iload_n C d_TP_commonDivisor_10 0 rfl rfl ?_
                                    refine x_iconst C d_TP_commonDivisor_11 (v := 1) (by decide) ?_
                                    refine x_icmp_le C d_TP_commonDivisor_12 33 (by decide) (fun c_238 => ?_) (fun c_238 => ?_)
                                    · exact absurd c_238 (by decide)
                                    · have nc_238 := Int32.not_le.mp c_238
                                      refine x_iload_n C d_TP_commonDivisor_15 1 rfl rfl ?_
                                      refine x_iload_n C d_TP_commonDivisor_16 0 rfl rfl ?_
                                      refine x_irem C d_TP_commonDivisor_17 (by decide) ?_
                                      refine x_topi (x' := 0) (by decide) ?_
                                      refine x_ifne C d_TP_commonDivisor_18 27 (by decide) (fun c_239 => ?_) (fun c_239 => ?_)
                                      · exact absurd c_239 (by decide)
                                      · refine x_iload_n C d_TP_commonDivisor_21 2 rfl rfl ?_
                                        refine x_iload_n C d_TP_commonDivisor_22 0 rfl rfl ?_
                                        refine x_irem C d_TP_commonDivisor_23 (by decide) ?_
                                        refine x_topi (x' := 0) (by decide) ?_
                                        refine x_ifeq C d_TP_commonDivisor_24 33 (by decide) (fun c_240 => ?_) (fun c_240 => ?_)
                                        · refine x_iload_n C d_TP_commonDivisor_33 0 rfl rfl ?_
                                          exact x_iret C (by decide) rfl d_TP_commonDivisor_34
                                        · exact absurd c_240 (by decide)
                                  · exact absurd c_237 (by decide)
                              · exact absurd c_235 (by decide)
                          · exact absurd c_233 (by decide)
                      · exact absurd c_231 (by decide)
                  · exact absurd c_229 (by decide)
              · exact absurd c_227 (by decide)
          · exact absurd c_225 (by decide)
      · exact absurd c_223 (by decide)
  · refine x_iconst C d_TP_commonDivisor_0 (v := 1) (by decide) ?_
    refine x_iload_n C d_TP_commonDivisor_1 0 rfl rfl ?_
    refine x_iload_n C d_TP_commonDivisor_2 1 rfl rfl ?_
    refine x_mx C k_549 (Nat.le_of_ble_eq_true rfl) (Nat.le_of_ble_eq_true rfl) d_TP_commonDivisor_3 ?_
    refine x_topi (x' := 16) (by decide) ?_
    refine x_mx C k_549 (Nat.le_of_ble_eq_true rfl) (Nat.le_of_ble_eq_true rfl) d_TP_commonDivisor_6 ?_
    refine x_topi (x' := 16) (by decide) ?_
    refine x_istore_n C d_TP_commonDivisor_9 rfl (by decide) (lv' := [(2, .int (16)), (0, .int (nI 9)), (1, .int (16))]) rfl ?_
    refine x_iload_n C d_TP_commonDivisor_10 0 rfl rfl ?_
    refine x_iconst C d_TP_commonDivisor_11 (v := 1) (by decide) ?_
    refine x_icmp_le C d_TP_commonDivisor_12 33 (by decide) (fun c_241 => ?_) (fun c_241 => ?_)
    · exact absurd c_241 (by decide)
    · have nc_241 := Int32.not_le.mp c_241
      refine x_iload_n C d_TP_commonDivisor_15 1 rfl rfl ?_
      refine x_iload_n C d_TP_commonDivisor_16 0 rfl rfl ?_
      refine x_irem C d_TP_commonDivisor_17 (by decide) ?_
      refine x_topi (x' := 9) (by decide) ?_
      refine x_ifne C d_TP_commonDivisor_18 27 (by decide) (fun c_242 => ?_) (fun c_242 => ?_)
      · refine x_iinc C d_TP_commonDivisor_27 0 rfl (v := 15) (by decide) (by decide) (lv' := [(2, .int (15)), (0, .int (nI 9)), (1, .int (16))]) rfl ?_
        refine x_goto C d_TP_commonDivisor_30 10 (by decide) ?_
        refine x_iload_n C d_TP_commonDivisor_10 0 rfl rfl ?_
        refine x_iconst C d_TP_commonDivisor_11 (v := 1) (by decide) ?_
        refine x_icmp_le C d_TP_commonDivisor_12 33 (by decide) (fun c_243 => ?_) (fun c_243 => ?_)
        · exact absurd c_243 (by decide)
        · have nc_243 := Int32.not_le.mp c_243
          refine x_iload_n C d_TP_commonDivisor_15 1 rfl rfl ?_
          refine x_iload_n C d_TP_commonDivisor_16 0 rfl rfl ?_
          refine x_irem C d_TP_commonDivisor_17 (by decide) ?_
          refine x_topi (x' := 9) (by decide) ?_
          refine x_ifne C d_TP_commonDivisor_18 27 (by decide) (fun c_244 => ?_) (fun c_244 => ?_)
          · refine x_iinc C d_TP_commonDivisor_27 0 rfl (v := 14) (by decide) (by decide) (lv' := [(2, .int (14)), (0, .int (nI 9)), (1, .int (16))]) rfl ?_
            refine x_goto C d_TP_commonDivisor_30 10 (by decide) ?_
            refine x_iload_n C d_TP_commonDivisor_10 0 rfl rfl ?_
            refine x_iconst C d_TP_commonDivisor_11 (v := 1) (by decide) ?_
            refine x_icmp_le C d_TP_commonDivisor_12 33 (by decide) (fun c_245 => ?_) (fun c_245 => ?_)
            · exact absurd c_245 (by decide)
            · have nc_245 := Int32.not_le.mp c_245
              refine x_iload_n C d_TP_commonDivisor_15 1 rfl rfl ?_
              refine x_iload_n C d_TP_commonDivisor_16 0 rfl rfl ?_
              refine x_irem C d_TP_commonDivisor_17 (by decide) ?_
              refine x_topi (x' := 9) (by decide) ?_
              refine x_ifne C d_TP_commonDivisor_18 27 (by decide) (fun c_246 => ?_) (fun c_246 => ?_)
              · refine x_iinc C d_TP_commonDivisor_27 0 rfl (v := 13) (by decide) (by decide) (lv' := [(2, .int (13)), (0, .int (nI 9)), (1, .int (16))]) rfl ?_
                refine x_goto C d_TP_commonDivisor_30 10 (by decide) ?_
                refine x_iload_n C d_TP_commonDivisor_10 0 rfl rfl ?_
                refine x_iconst C d_TP_commonDivisor_11 (v := 1) (by decide) ?_
                refine x_icmp_le C d_TP_commonDivisor_12 33 (by decide) (fun c_247 => ?_) (fun c_247 => ?_)
                · exact absurd c_247 (by decide)
                · have nc_247 := Int32.not_le.mp c_247
                  refine x_iload_n C d_TP_commonDivisor_15 1 rfl rfl ?_
                  refine x_iload_n C d_TP_commonDivisor_16 0 rfl rfl ?_
                  refine x_irem C d_TP_commonDivisor_17 (by decide) ?_
                  refine x_topi (x' := 9) (by decide) ?_
                  refine x_ifne C d_TP_commonDivisor_18 27 (by decide) (fun c_248 => ?_) (fun c_248 => ?_)
                  · refine x_iinc C d_TP_commonDivisor_27 0 rfl (v := 12) (by decide) (by decide) (lv' := [(2, .int (12)), (0, .int (nI 9)), (1, .int (16))]) rfl ?_
                    refine x_goto C d_TP_commonDivisor_30 10 (by decide) ?_
                    refine x_iload_n C d_TP_commonDivisor_10 0 rfl rfl ?_
                    refine x_iconst C d_TP_commonDivisor_11 (v := 1) (by decide) ?_
                    refine x_icmp_le C d_TP_commonDivisor_12 33 (by decide) (fun c_249 => ?_) (fun c_249 => ?_)
                    · exact absurd c_249 (by decide)
                    · have nc_249 := Int32.not_le.mp c_249
                      refine x_iload_n C d_TP_commonDivisor_15 1 rfl rfl ?_
                      refine x_iload_n C d_TP_commonDivisor_16 0 rfl rfl ?_
                      refine x_irem C d_TP_commonDivisor_17 (by decide) ?_
                      refine x_topi (x' := 9) (by decide) ?_
                      refine x_ifne C d_TP_commonDivisor_18 27 (by decide) (fun c_250 => ?_) (fun c_250 => ?_)
                      · refine x_iinc C d_TP_commonDivisor_27 0 rfl (v := 11) (by decide) (by decide) (lv' := [(2, .int (11)), (0, .int (nI 9)), (1, .int (16))]) rfl ?_
                        refine x_goto C d_TP_commonDivisor_30 10 (by decide) ?_
                        refine x_iload_n C d_TP_commonDivisor_10 0 rfl rfl ?_
                        refine x_iconst C d_TP_commonDivisor_11 (v := 1) (by decide) ?_
                        refine x_icmp_le C d_TP_commonDivisor_12 33 (by decide) (fun c_251 => ?_) (fun c_251 => ?_)
                        · exact absurd c_251 (by decide)
                        · have nc_251 := Int32.not_le.mp c_251
                          refine x_iload_n C d_TP_commonDivisor_15 1 rfl rfl ?_
                          refine x_iload_n C d_TP_commonDivisor_16 0 rfl rfl ?_
                          refine x_irem C d_TP_commonDivisor_17 (by decide) ?_
                          refine x_topi (x' := 9) (by decide) ?_
                          refine x_ifne C d_TP_commonDivisor_18 27 (by decide) (fun c_252 => ?_) (fun c_252 => ?_)
                          · refine x_iinc C d_TP_commonDivisor_27 0 rfl (v := 10) (by decide) (by decide) (lv' := [(2, .int (10)), (0, .int (nI 9)), (1, .int (16))]) rfl ?_
                            refine x_goto C d_TP_commonDivisor_30 10 (by decide) ?_
                            refine x_iload_n C d_TP_commonDivisor_10 0 rfl rfl ?_
                            refine x_iconst C d_TP_commonDivisor_11 (v := 1) (by decide) ?_
                            refine x_icmp_le C d_TP_commonDivisor_12 33 (by decide) (fun c_253 => ?_) (fun c_253 => ?_)
                            · exact absurd c_253 (by decide)
                            · have nc_253 := Int32.not_le.mp c_253
                              refine x_iload_n C d_TP_commonDivisor_15 1 rfl rfl ?_
                              refine x_iload_n C d_TP_commonDivisor_16 0 rfl rfl ?_
                              refine x_irem C d_TP_commonDivisor_17 (by decide) ?_
                              refine x_topi (x' := 9) (by decide) ?_
                              refine x_ifne C d_TP_commonDivisor_18 27 (by decide) (fun c_254 => ?_) (fun c_254 => ?_)
                              · refine x_iinc C d_TP_commonDivisor_27 0 rfl (v := 9) (by decide) (by decide) (lv' := [(2, .int (9)), (0, .int (nI 9)), (1, .int (16))]) rfl ?_
                                refine x_goto C d_TP_commonDivisor_30 10 (by decide) ?_
                                refine x_iload_n C d_TP_commonDivisor_10 0 rfl rfl ?_
                                refine x_iconst C d_TP_commonDivisor_11 (v := 1) (by decide) ?_
                                refine x_icmp_le C d_TP_commonDivisor_12 33 (by decide) (fun c_255 => ?_) (fun c_255 => ?_)
                                · exact absurd c_255 (by decide)
                                · have nc_255 := Int32.not_le.mp c_255
                                  refine x_iload_n C d_TP_commonDivisor_15 1 rfl rfl ?_
                                  refine x_iload_n C d_TP_commonDivisor_16 0 rfl rfl ?_
                                  refine x_irem C d_TP_commonDivisor_17 (by decide) ?_
                                  refine x_topi (x' := 0) (by decide) ?_
                                  refine x_ifne C d_TP_commonDivisor_18 27 (by decide) (fun c_256 => ?_) (fun c_256 => ?_)
                                  · exact absurd c_256 (by decide)
                                  · refine x_iload_n C d_TP_commonDivisor_21 2 rfl rfl ?_
                                    refine x_iload_n C d_TP_commonDivisor_22 0 rfl rfl ?_
                                    refine x_irem C d_TP_commonDivisor_23 (by decide) ?_
                                    refine x_topi (x' := 7) (by decide) ?_
                                    refine x_ifeq C d_TP_commonDivisor_24 33 (by decide) (fun c_257 => ?_) (fun c_257 => ?_)
                                    · exact absurd c_257 (by decide)
                                    · refine x_iinc C d_TP_commonDivisor_27 0 rfl (v := 8) (by decide) (by decide) (lv' := [(2, .int (8)), (0, .int (nI 9)), (1, .int (16))]) rfl ?_
                                      refine x_goto C d_TP_commonDivisor_30 10 (by decide) ?_
                                      refine x_iload_n C d_TP_commonDivisor_10 0 rfl rfl ?_
                                      refine x_iconst C d_TP_commonDivisor_11 (v := 1) (by decide) ?_
                                      refine x_icmp_le C d_TP_commonDivisor_12 33 (by decide) (fun c_258 => ?_) (fun c_258 => ?_)
                                      · exact absurd c_258 (by decide)
                                      · have nc_258 := Int32.not_le.mp c_258
                                        refine x_iload_n C d_TP_commonDivisor_15 1 rfl rfl ?_
                                        refine x_iload_n C d_TP_commonDivisor_16 0 rfl rfl ?_
                                        refine x_irem C d_TP_commonDivisor_17 (by decide) ?_
                                        refine x_topi (x' := 1) (by decide) ?_
                                        refine x_ifne C d_TP_commonDivisor_18 27 (by decide) (fun c_259 => ?_) (fun c_259 => ?_)
                                        · refine x_iinc C d_TP_commonDivisor_27 0 rfl (v := 7) (by decide) (by decide) (lv' := [(2, .int (7)), (0, .int (nI 9)), (1, .int (16))]) rfl ?_
                                          refine x_goto C d_TP_commonDivisor_30 10 (by decide) ?_
                                          refine x_iload_n C d_TP_commonDivisor_10 0 rfl rfl ?_
                                          refine x_iconst C d_TP_commonDivisor_11 (v := 1) (by decide) ?_
                                          refine x_icmp_le C d_TP_commonDivisor_12 33 (by decide) (fun c_260 => ?_) (fun c_260 => ?_)
                                          · exact absurd c_260 (by decide)
                                          · have nc_260 := Int32.not_le.mp c_260
                                            refine x_iload_n C d_TP_commonDivisor_15 1 rfl rfl ?_
                                            refine x_iload_n C d_TP_commonDivisor_16 0 rfl rfl ?_
                                            refine x_irem C d_TP_commonDivisor_17 (by decide) ?_
                                            refine x_topi (x' := 2) (by decide) ?_
                                            refine x_ifne C d_TP_commonDivisor_18 27 (by decide) (fun c_261 => ?_) (fun c_261 => ?_)
                                            · refine x_iinc C d_TP_commonDivisor_27 0 rfl (v := 6) (by decide) (by decide) (lv' := [(2, .int (6)), (0, .int (nI 9)), (1, .int (16))]) rfl ?_
                                              refine x_goto C d_TP_commonDivisor_30 10 (by decide) ?_
                                              refine x_iload_n C d_TP_commonDivisor_10 0 rfl rfl ?_
                                              refine x_iconst C d_TP_commonDivisor_11 (v := 1) (by decide) ?_
                                              refine x_icmp_le C d_TP_commonDivisor_12 33 (by decide) (fun c_262 => ?_) (fun c_262 => ?_)
                                              · exact absurd c_262 (by decide)
                                              · have nc_262 := Int32.not_le.mp c_262
                                                refine x_iload_n C d_TP_commonDivisor_15 1 rfl rfl ?_
                                                refine x_iload_n C d_TP_commonDivisor_16 0 rfl rfl ?_
                                                refine x_irem C d_TP_commonDivisor_17 (by decide) ?_
                                                refine x_topi (x' := 3) (by decide) ?_
                                                refine x_ifne C d_TP_commonDivisor_18 27 (by decide) (fun c_263 => ?_) (fun c_263 => ?_)
                                                · refine x_iinc C d_TP_commonDivisor_27 0 rfl (v := 5) (by decide) (by decide) (lv' := [(2, .int (5)), (0, .int (nI 9)), (1, .int (16))]) rfl ?_
                                                  refine x_goto C d_TP_commonDivisor_30 10 (by decide) ?_
                                                  refine x_iload_n C d_TP_commonDivisor_10 0 rfl rfl ?_
                                                  refine x_iconst C d_TP_commonDivisor_11 (v := 1) (by decide) ?_
                                                  refine x_icmp_le C d_TP_commonDivisor_12 33 (by decide) (fun c_264 => ?_) (fun c_264 => ?_)
                                                  · exact absurd c_264 (by decide)
                                                  · have nc_264 := Int32.not_le.mp c_264
                                                    refine x_iload_n C d_TP_commonDivisor_15 1 rfl rfl ?_
                                                    refine x_iload_n C d_TP_commonDivisor_16 0 rfl rfl ?_
                                                    refine x_irem C d_TP_commonDivisor_17 (by decide) ?_
                                                    refine x_topi (x' := 4) (by decide) ?_
                                                    refine x_ifne C d_TP_commonDivisor_18 27 (by decide) (fun c_265 => ?_) (fun c_265 => ?_)
                                                    · refine x_iinc C d_TP_commonDivisor_27 0 rfl (v := 4) (by decide) (by decide) (lv' := [(2, .int (4)), (0, .int (nI 9)), (1, .int (16))]) rfl ?_
                                                      refine x_goto C d_TP_commonDivisor_30 10 (by decide) ?_
                                                      refine x_iload_n C d_TP_commonDivisor_10 0 rfl rfl ?_
                                                      refine x_iconst C d_TP_commonDivisor_11 (v := 1) (by decide) ?_
                                                      refine x_icmp_le C d_TP_commonDivisor_12 33 (by decide) (fun c_266 => ?_) (fun c_266 => ?_)
                                                      · exact absurd c_266 (by decide)
                                                      · have nc_266 := Int32.not_le.mp c_266
                                                        refine x_iload_n C d_TP_commonDivisor_15 1 rfl rfl ?_
                                                        refine x_iload_n C d_TP_commonDivisor_16 0 rfl rfl ?_
                                                        refine x_irem C d_TP_commonDivisor_17 (by decide) ?_
                                                        refine x_topi (x' := 1) (by decide) ?_
                                                        refine x_ifne C d_TP_commonDivisor_18 27 (by decide) (fun c_267 => ?_) (fun c_267 => ?_)
                                                        · refine x_iinc C d_TP_commonDivisor_27 0 rfl (v := 3) (by decide) (by decide) (lv' := [(2, .int (3)), (0, .int (nI 9)), (1, .int (16))]) rfl ?_
                                                          refine x_goto C d_TP_commonDivisor_30 10 (by decide) ?_
                                                          refine x_iload_n C d_TP_commonDivisor_10 0 rfl rfl ?_
                                                          refine x_iconst C d_TP_commonDivisor_11 (v := 1) (by decide) ?_
                                                          refine x_icmp_le C d_TP_commonDivisor_12 33 (by decide) (fun c_268 => ?_) (fun c_268 => ?_)
                                                          · exact absurd c_268 (by decide)
                                                          · have nc_268 := Int32.not_le.mp c_268
                                                            refine x_iload_n C d_TP_commonDivisor_15 1 rfl rfl ?_
                                                            refine x_iload_n C d_TP_commonDivisor_16 0 rfl rfl ?_
                                                            refine x_irem C d_TP_commonDivisor_17 (by decide) ?_
                                                            refine x_topi (x' := 0) (by decide) ?_
                                                            refine x_ifne C d_TP_commonDivisor_18 27 (by decide) (fun c_269 => ?_) (fun c_269 => ?_)
                                                            · exact absurd c_269 (by decide)
                                                            · refine x_iload_n C d_TP_commonDivisor_21 2 rfl rfl ?_
                                                              refine x_iload_n C d_TP_commonDivisor_22 0 rfl rfl ?_
                                                              refine x_irem C d_TP_commonDivisor_23 (by decide) ?_
                                                              refine x_topi (x' := 1) (by decide) ?_
                                                              refine x_ifeq C d_TP_commonDivisor_24 33 (by decide) (fun c_270 => ?_) (fun c_270 => ?_)
                                                              · exact absurd c_270 (by decide)
                                                              · refine x_iinc C d_TP_commonDivisor_27 0 rfl (v := 2) (by decide) (by decide) (lv' := [(2, .int (2)), (0, .int (nI 9)), (1, .int (16))]) rfl ?_
                                                                refine x_goto C d_TP_commonDivisor_30 10 (by decide) ?_
                                                                refine x_iload_n C d_TP_commonDivisor_10 0 rfl rfl ?_
                                                                refine x_iconst C d_TP_commonDivisor_11 (v := 1) (by decide) ?_
                                                                refine x_icmp_le C d_TP_commonDivisor_12 33 (by decide) (fun c_271 => ?_) (fun c_271 => ?_)
                                                                · exact absurd c_271 (by decide)
                                                                · have nc_271 := Int32.not_le.mp c_271
                                                                  refine x_iload_n C d_TP_commonDivisor_15 1 rfl rfl ?_
                                                                  refine x_iload_n C d_TP_commonDivisor_16 0 rfl rfl ?_
                                                                  refine x_irem C d_TP_commonDivisor_17 (by decide) ?_
                                                                  refine x_topi (x' := 1) (by decide) ?_
                                                                  refine x_ifne C d_TP_commonDivisor_18 27 (by decide) (fun c_272 => ?_) (fun c_272 => ?_)
                                                                  · refine x_iinc C d_TP_commonDivisor_27 0 rfl (v := 1) (by decide) (by decide) (lv' := [(2, .int (1)), (0, .int (nI 9)), (1, .int (16))]) rfl ?_
                                                                    refine x_goto C d_TP_commonDivisor_30 10 (by decide) ?_
                                                                    refine x_iload_n C d_TP_commonDivisor_10 0 rfl rfl ?_
                                                                    refine x_iconst C d_TP_commonDivisor_11 (v := 1) (by decide) ?_
                                                                    refine x_icmp_le C d_TP_commonDivisor_12 33 (by decide) (fun c_273 => ?_) (fun c_273 => ?_)
                                                                    · have nc_273 := Int32.not_lt.mpr c_273
                                                                      refine x_iload_n C d_TP_commonDivisor_33 0 rfl rfl ?_
                                                                      exact x_iret C (by decide) rfl d_TP_commonDivisor_34
                                                                    · exact absurd c_273 (by decide)
                                                                  · exact absurd c_272 (by decide)
                                                        · exact absurd c_267 (by decide)
                                                    · exact absurd c_265 (by decide)
                                                · exact absurd c_263 (by decide)
                                            · exact absurd c_261 (by decide)
                                        · exact absurd c_259 (by decide)
                              · exact absurd c_254 (by decide)
                          · exact absurd c_252 (by decide)
                      · exact absurd c_250 (by decide)
                  · exact absurd c_248 (by decide)
              · exact absurd c_246 (by decide)
          · exact absurd c_244 (by decide)
      · exact absurd c_242 (by decide)
  · refine x_iconst C d_TP_commonDivisor_0 (v := 1) (by decide) ?_
    refine x_iload_n C d_TP_commonDivisor_1 0 rfl rfl ?_
    refine x_iload_n C d_TP_commonDivisor_2 1 rfl rfl ?_
    refine x_mx C k_549 (Nat.le_of_ble_eq_true rfl) (Nat.le_of_ble_eq_true rfl) d_TP_commonDivisor_3 ?_
    refine x_topi (x' := 16) (by decide) ?_
    refine x_mx C k_549 (Nat.le_of_ble_eq_true rfl) (Nat.le_of_ble_eq_true rfl) d_TP_commonDivisor_6 ?_
    refine x_topi (x' := 16) (by decide) ?_
    refine x_istore_n C d_TP_commonDivisor_9 rfl (by decide) (lv' := [(2, .int (16)), (0, .int (nI 10)), (1, .int (16))]) rfl ?_
    refine x_iload_n C d_TP_commonDivisor_10 0 rfl rfl ?_
    refine x_iconst C d_TP_commonDivisor_11 (v := 1) (by decide) ?_
    refine x_icmp_le C d_TP_commonDivisor_12 33 (by decide) (fun c_274 => ?_) (fun c_274 => ?_)
    · exact absurd c_274 (by decide)
    · have nc_274 := Int32.not_le.mp c_274
      refine x_iload_n C d_TP_commonDivisor_15 1 rfl rfl ?_
      refine x_iload_n C d_TP_commonDivisor_16 0 rfl rfl ?_
      refine x_irem C d_TP_commonDivisor_17 (by decide) ?_
      refine x_topi (x' := 10) (by decide) ?_
      refine x_ifne C d_TP_commonDivisor_18 27 (by decide) (fun c_275 => ?_) (fun c_275 => ?_)
      · refine x_iinc C d_TP_commonDivisor_27 0 rfl (v := 15) (by decide) (by decide) (lv' := [(2, .int (15)), (0, .int (nI 10)), (1, .int (16))]) rfl ?_
        refine x_goto C d_TP_commonDivisor_30 10 (by decide) ?_
        refine x_iload_n C d_TP_commonDivisor_10 0 rfl rfl ?_
        refine x_iconst C d_TP_commonDivisor_11 (v := 1) (by decide) ?_
        refine x_icmp_le C d_TP_commonDivisor_12 33 (by decide) (fun c_276 => ?_) (fun c_276 => ?_)
        · exact absurd c_276 (by decide)
        · have nc_276 := Int32.not_le.mp c_276
          refine x_iload_n C d_TP_commonDivisor_15 1 rfl rfl ?_
          refine x_iload_n C d_TP_commonDivisor_16 0 rfl rfl ?_
          refine x_irem C d_TP_commonDivisor_17 (by decide) ?_
          refine x_topi (x' := 10) (by decide) ?_
          refine x_ifne C d_TP_commonDivisor_18 27 (by decide) (fun c_277 => ?_) (fun c_277 => ?_)
          · refine x_iinc C d_TP_commonDivisor_27 0 rfl (v := 14) (by decide) (by decide) (lv' := [(2, .int (14)), (0, .int (nI 10)), (1, .int (16))]) rfl ?_
            refine x_goto C d_TP_commonDivisor_30 10 (by decide) ?_
            refine x_iload_n C d_TP_commonDivisor_10 0 rfl rfl ?_
            refine x_iconst C d_TP_commonDivisor_11 (v := 1) (by decide) ?_
            refine x_icmp_le C d_TP_commonDivisor_12 33 (by decide) (fun c_278 => ?_) (fun c_278 => ?_)
            · exact absurd c_278 (by decide)
            · have nc_278 := Int32.not_le.mp c_278
              refine x_iload_n C d_TP_commonDivisor_15 1 rfl rfl ?_
              refine x_iload_n C d_TP_commonDivisor_16 0 rfl rfl ?_
              refine x_irem C d_TP_commonDivisor_17 (by decide) ?_
              refine x_topi (x' := 10) (by decide) ?_
              refine x_ifne C d_TP_commonDivisor_18 27 (by decide) (fun c_279 => ?_) (fun c_279 => ?_)
              · refine x_iinc C d_TP_commonDivisor_27 0 rfl (v := 13) (by decide) (by decide) (lv' := [(2, .int (13)), (0, .int (nI 10)), (1, .int (16))]) rfl ?_
                refine x_goto C d_TP_commonDivisor_30 10 (by decide) ?_
                refine x_iload_n C d_TP_commonDivisor_10 0 rfl rfl ?_
                refine x_iconst C d_TP_commonDivisor_11 (v := 1) (by decide) ?_
                refine x_icmp_le C d_TP_commonDivisor_12 33 (by decide) (fun c_280 => ?_) (fun c_280 => ?_)
                · exact absurd c_280 (by decide)
                · have nc_280 := Int32.not_le.mp c_280
                  refine x_iload_n C d_TP_commonDivisor_15 1 rfl rfl ?_
                  refine x_iload_n C d_TP_commonDivisor_16 0 rfl rfl ?_
                  refine x_irem C d_TP_commonDivisor_17 (by decide) ?_
                  refine x_topi (x' := 10) (by decide) ?_
                  refine x_ifne C d_TP_commonDivisor_18 27 (by decide) (fun c_281 => ?_) (fun c_281 => ?_)
                  · refine x_iinc C d_TP_commonDivisor_27 0 rfl (v := 12) (by decide) (by decide) (lv' := [(2, .int (12)), (0, .int (nI 10)), (1, .int (16))]) rfl ?_
                    refine x_goto C d_TP_commonDivisor_30 10 (by decide) ?_
                    refine x_iload_n C d_TP_commonDivisor_10 0 rfl rfl ?_
                    refine x_iconst C d_TP_commonDivisor_11 (v := 1) (by decide) ?_
                    refine x_icmp_le C d_TP_commonDivisor_12 33 (by decide) (fun c_282 => ?_) (fun c_282 => ?_)
                    · exact absurd c_282 (by decide)
                    · have nc_282 := Int32.not_le.mp c_282
                      refine x_iload_n C d_TP_commonDivisor_15 1 rfl rfl ?_
                      refine x_iload_n C d_TP_commonDivisor_16 0 rfl rfl ?_
                      refine x_irem C d_TP_commonDivisor_17 (by decide) ?_
                      refine x_topi (x' := 10) (by decide) ?_
                      refine x_ifne C d_TP_commonDivisor_18 27 (by decide) (fun c_283 => ?_) (fun c_283 => ?_)
                      · refine x_iinc C d_TP_commonDivisor_27 0 rfl (v := 11) (by decide) (by decide) (lv' := [(2, .int (11)), (0, .int (nI 10)), (1, .int (16))]) rfl ?_
                        refine x_goto C d_TP_commonDivisor_30 10 (by decide) ?_
                        refine x_iload_n C d_TP_commonDivisor_10 0 rfl rfl ?_
                        refine x_iconst C d_TP_commonDivisor_11 (v := 1) (by decide) ?_
                        refine x_icmp_le C d_TP_commonDivisor_12 33 (by decide) (fun c_284 => ?_) (fun c_284 => ?_)
                        · exact absurd c_284 (by decide)
                        · have nc_284 := Int32.not_le.mp c_284
                          refine x_iload_n C d_TP_commonDivisor_15 1 rfl rfl ?_
                          refine x_iload_n C d_TP_commonDivisor_16 0 rfl rfl ?_
                          refine x_irem C d_TP_commonDivisor_17 (by decide) ?_
                          refine x_topi (x' := 10) (by decide) ?_
                          refine x_ifne C d_TP_commonDivisor_18 27 (by decide) (fun c_285 => ?_) (fun c_285 => ?_)
                          · refine x_iinc C d_TP_commonDivisor_27 0 rfl (v := 10) (by decide) (by decide) (lv' := [(2, .int (10)), (0, .int (nI 10)), (1, .int (16))]) rfl ?_
                            refine x_goto C d_TP_commonDivisor_30 10 (by decide) ?_
                            refine x_iload_n C d_TP_commonDivisor_10 0 rfl rfl ?_
                            refine x_iconst C d_TP_commonDivisor_11 (v := 1) (by decide) ?_
                            refine x_icmp_le C d_TP_commonDivisor_12 33 (by decide) (fun c_286 => ?_) (fun c_286 => ?_)
                            · exact absurd c_286 (by decide)
                            · have nc_286 := Int32.not_le.mp c_286
                              refine x_iload_n C d_TP_commonDivisor_15 1 rfl rfl ?_
                              refine x_iload_n C d_TP_commonDivisor_16 0 rfl rfl ?_
                              refine x_irem C d_TP_commonDivisor_17 (by decide) ?_
                              refine x_topi (x' := 0) (by decide) ?_
                              refine x_ifne C d_TP_commonDivisor_18 27 (by decide) (fun c_287 => ?_) (fun c_287 => ?_)
                              · exact absurd c_287 (by decide)
                              · refine x_iload_n C d_TP_commonDivisor_21 2 rfl rfl ?_
                                refine x_iload_n C d_TP_commonDivisor_22 0 rfl rfl ?_
                                refine x_irem C d_TP_commonDivisor_23 (by decide) ?_
                                refine x_topi (x' := 6) (by decide) ?_
                                refine x_ifeq C d_TP_commonDivisor_24 33 (by decide) (fun c_288 => ?_) (fun c_288 => ?_)
                                · exact absurd c_288 (by decide)
                                · refine x_iinc C d_TP_commonDivisor_27 0 rfl (v := 9) (by decide) (by decide) (lv' := [(2, .int (9)), (0, .int (nI 10)), (1, .int (16))]) rfl ?_
                                  refine x_goto C d_TP_commonDivisor_30 10 (by decide) ?_
                                  refine x_iload_n C d_TP_commonDivisor_10 0 rfl rfl ?_
                                  refine x_iconst C d_TP_commonDivisor_11 (v := 1) (by decide) ?_
                                  refine x_icmp_le C d_TP_commonDivisor_12 33 (by decide) (fun c_289 => ?_) (fun c_289 => ?_)
                                  · exact absurd c_289 (by decide)
                                  · have nc_289 := Int32.not_le.mp c_289
                                    refine x_iload_n C d_TP_commonDivisor_15 1 rfl rfl ?_
                                    refine x_iload_n C d_TP_commonDivisor_16 0 rfl rfl ?_
                                    refine x_irem C d_TP_commonDivisor_17 (by decide) ?_
                                    refine x_topi (x' := 1) (by decide) ?_
                                    refine x_ifne C d_TP_commonDivisor_18 27 (by decide) (fun c_290 => ?_) (fun c_290 => ?_)
                                    · refine x_iinc C d_TP_commonDivisor_27 0 rfl (v := 8) (by decide) (by decide) (lv' := [(2, .int (8)), (0, .int (nI 10)), (1, .int (16))]) rfl ?_
                                      refine x_goto C d_TP_commonDivisor_30 10 (by decide) ?_
                                      refine x_iload_n C d_TP_commonDivisor_10 0 rfl rfl ?_
                                      refine x_iconst C d_TP_commonDivisor_11 (v := 1) (by decide) ?_
                                      refine x_icmp_le C d_TP_commonDivisor_12 33 (by decide) (fun c_291 => ?_) (fun c_291 => ?_)
                                      · exact absurd c_291 (by decide)
                                      · have nc_291 := Int32.not_le.mp c_291
                                        refine x_iload_n C d_TP_commonDivisor_15 1 rfl rfl ?_
                                        refine x_iload_n C d_TP_commonDivisor_16 0 rfl rfl ?_
                                        refine x_irem C d_TP_commonDivisor_17 (by decide) ?_
                                        refine x_topi (x' := 2) (by decide) ?_
                                        refine x_ifne C d_TP_commonDivisor_18 27 (by decide) (fun c_292 => ?_) (fun c_292 => ?_)
                                        · refine x_iinc C d_TP_commonDivisor_27 0 rfl (v := 7) (by decide) (by decide) (lv' := [(2, .int (7)), (0, .int (nI 10)), (1, .int (16))]) rfl ?_
                                          refine x_goto C d_TP_commonDivisor_30 10 (by decide) ?_
                                          refine x_iload_n C d_TP_commonDivisor_10 0 rfl rfl ?_
                                          refine x_iconst C d_TP_commonDivisor_11 (v := 1) (by decide) ?_
                                          refine x_icmp_le C d_TP_commonDivisor_12 33 (by decide) (fun c_293 => ?_) (fun c_293 => ?_)
                                          · exact absurd c_293 (by decide)
                                          · have nc_293 := Int32.not_le.mp c_293
                                            refine x_iload_n C d_TP_commonDivisor_15 1 rfl rfl ?_
                                            refine x_iload_n C d_TP_commonDivisor_16 0 rfl rfl ?_
                                            refine x_irem C d_TP_commonDivisor_17 (by decide) ?_
                                            refine x_topi (x' := 3) (by decide) ?_
                                            refine x_ifne C d_TP_commonDivisor_18 27 (by decide) (fun c_294 => ?_) (fun c_294 => ?_)
                                            · refine x_iinc C d_TP_commonDivisor_27 0 rfl (v := 6) (by decide) (by decide) (lv' := [(2, .int (6)), (0, .int (nI 10)), (1, .int (16))]) rfl ?_
                                              refine x_goto C d_TP_commonDivisor_30 10 (by decide) ?_
                                              refine x_iload_n C d_TP_commonDivisor_10 0 rfl rfl ?_
                                              refine x_iconst C d_TP_commonDivisor_11 (v := 1) (by decide) ?_
                                              refine x_icmp_le C d_TP_commonDivisor_12 33 (by decide) (fun c_295 => ?_) (fun c_295 => ?_)
                                              · exact absurd c_295 (by decide)
                                              · have nc_295 := Int32.not_le.mp c_295
                                                refine x_iload_n C d_TP_commonDivisor_15 1 rfl rfl ?_
                                                refine x_iload_n C d_TP_commonDivisor_16 0 rfl rfl ?_
                                                refine x_irem C d_TP_commonDivisor_17 (by decide) ?_
                                                refine x_topi (x' := 4) (by decide) ?_
                                                refine x_ifne C d_TP_commonDivisor_18 27 (by decide) (fun c_296 => ?_) (fun c_296 => ?_)
                                                · refine x_iinc C d_TP_commonDivisor_27 0 rfl (v := 5) (by decide) (by decide) (lv' := [(2, .int (5)), (0, .int (nI 10)), (1, .int (16))]) rfl ?_
                                                  refine x_goto C d_TP_commonDivisor_30 10 (by decide) ?_
                                                  refine x_iload_n C d_TP_commonDivisor_10 0 rfl rfl ?_
                                                  refine x_iconst C d_TP_commonDivisor_11 (v := 1) (by decide) ?_
                                                  refine x_icmp_le C d_TP_commonDivisor_12 33 (by decide) (fun c_297 => ?_) (fun c_297 => ?_)
                                                  · exact absurd c_297 (by decide)
                                                  · have nc_297 := Int32.not_le.mp c_297
                                                    refine x_iload_n C d_TP_commonDivisor_15 1 rfl rfl ?_
                                                    refine x_iload_n C d_TP_commonDivisor_16 0 rfl rfl ?_
                                                    refine x_irem C d_TP_commonDivisor_17 (by decide) ?_
                                                    refine x_topi (x' := 0) (by decide) ?_
                                                    refine x_ifne C d_TP_commonDivisor_18 27 (by decide) (fun c_298 => ?_) (fun c_298 => ?_)
                                                    · exact absurd c_298 (by decide)
                                                    · refine x_iload_n C d_TP_commonDivisor_21 2 rfl rfl ?_
                                                      refine x_iload_n C d_TP_commonDivisor_22 0 rfl rfl ?_
                                                      refine x_irem C d_TP_commonDivisor_23 (by decide) ?_
                                                      refine x_topi (x' := 1) (by decide) ?_
                                                      refine x_ifeq C d_TP_commonDivisor_24 33 (by decide) (fun c_299 => ?_) (fun c_299 => ?_)
                                                      · exact absurd c_299 (by decide)
                                                      · refine x_iinc C d_TP_commonDivisor_27 0 rfl (v := 4) (by decide) (by decide) (lv' := [(2, .int (4)), (0, .int (nI 10)), (1, .int (16))]) rfl ?_
                                                        refine x_goto C d_TP_commonDivisor_30 10 (by decide) ?_
                                                        refine x_iload_n C d_TP_commonDivisor_10 0 rfl rfl ?_
                                                        refine x_iconst C d_TP_commonDivisor_11 (v := 1) (by decide) ?_
                                                        refine x_icmp_le C d_TP_commonDivisor_12 33 (by decide) (fun c_300 => ?_) (fun c_300 => ?_)
                                                        · exact absurd c_300 (by decide)
                                                        · have nc_300 := Int32.not_le.mp c_300
                                                          refine x_iload_n C d_TP_commonDivisor_15 1 rfl rfl ?_
                                                          refine x_iload_n C d_TP_commonDivisor_16 0 rfl rfl ?_
                                                          refine x_irem C d_TP_commonDivisor_17 (by decide) ?_
                                                          refine x_topi (x' := 2) (by decide) ?_
                                                          refine x_ifne C d_TP_commonDivisor_18 27 (by decide) (fun c_301 => ?_) (fun c_301 => ?_)
                                                          · refine x_iinc C d_TP_commonDivisor_27 0 rfl (v := 3) (by decide) (by decide) (lv' := [(2, .int (3)), (0, .int (nI 10)), (1, .int (16))]) rfl ?_
                                                            refine x_goto C d_TP_commonDivisor_30 10 (by decide) ?_
                                                            refine x_iload_n C d_TP_commonDivisor_10 0 rfl rfl ?_
                                                            refine x_iconst C d_TP_commonDivisor_11 (v := 1) (by decide) ?_
                                                            refine x_icmp_le C d_TP_commonDivisor_12 33 (by decide) (fun c_302 => ?_) (fun c_302 => ?_)
                                                            · exact absurd c_302 (by decide)
                                                            · have nc_302 := Int32.not_le.mp c_302
                                                              refine x_iload_n C d_TP_commonDivisor_15 1 rfl rfl ?_
                                                              refine x_iload_n C d_TP_commonDivisor_16 0 rfl rfl ?_
                                                              refine x_irem C d_TP_commonDivisor_17 (by decide) ?_
                                                              refine x_topi (x' := 1) (by decide) ?_
                                                              refine x_ifne C d_TP_commonDivisor_18 27 (by decide) (fun c_303 => ?_) (fun c_303 => ?_)
                                                              · refine x_iinc C d_TP_commonDivisor_27 0 rfl (v := 2) (by decide) (by decide) (lv' := [(2, .int (2)), (0, .int (nI 10)), (1, .int (16))]) rfl ?_
                                                                refine x_goto C d_TP_commonDivisor_30 10 (by decide) ?_
                                                                refine x_iload_n C d_TP_commonDivisor_10 0 rfl rfl ?_
                                                                refine x_iconst C d_TP_commonDivisor_11 (v := 1) (by decide) ?_
                                                                refine x_icmp_le C d_TP_commonDivisor_12 33 (by decide) (fun c_304 => ?_) (fun c_304 => ?_)
                                                                · exact absurd c_304 (by decide)
                                                                · have nc_304 := Int32.not_le.mp c_304
                                                                  refine x_iload_n C d_TP_commonDivisor_15 1 rfl rfl ?_
                                                                  refine x_iload_n C d_TP_commonDivisor_16 0 rfl rfl ?_
                                                                  refine x_irem C d_TP_commonDivisor_17 (by decide) ?_
                                                                  refine x_topi (x' := 0) (by decide) ?_
                                                                  refine x_ifne C d_TP_commonDivisor_18 27 (by decide) (fun c_305 => ?_) (fun c_305 => ?_)
                                                                  · exact absurd c_305 (by decide)
                                                                  · refine x_iload_n C d_TP_commonDivisor_21 2 rfl rfl ?_
                                                                    refine x_iload_n C d_TP_commonDivisor_22 0 rfl rfl ?_
                                                                    refine x_irem C d_TP_commonDivisor_23 (by decide) ?_
                                                                    refine x_topi (x' := 0) (by decide) ?_
                                                                    refine x_ifeq C d_TP_commonDivisor_24 33 (by decide) (fun c_306 => ?_) (fun c_306 => ?_)
                                                                    · refine x_iload_n C d_TP_commonDivisor_33 0 rfl rfl ?_
                                                                      exact x_iret C (by decide) rfl d_TP_commonDivisor_34
                                                                    · exact absurd c_306 (by decide)
                                                              · exact absurd c_303 (by decide)
                                                          · exact absurd c_301 (by decide)
                                                · exact absurd c_296 (by decide)
                                            · exact absurd c_294 (by decide)
                                        · exact absurd c_292 (by decide)
                                    · exact absurd c_290 (by decide)
                          · exact absurd c_285 (by decide)
                      · exact absurd c_283 (by decide)
                  · exact absurd c_281 (by decide)
              · exact absurd c_279 (by decide)
          · exact absurd c_277 (by decide)
      · exact absurd c_275 (by decide)
  · refine x_iconst C d_TP_commonDivisor_0 (v := 1) (by decide) ?_
    refine x_iload_n C d_TP_commonDivisor_1 0 rfl rfl ?_
    refine x_iload_n C d_TP_commonDivisor_2 1 rfl rfl ?_
    refine x_mx C k_549 (Nat.le_of_ble_eq_true rfl) (Nat.le_of_ble_eq_true rfl) d_TP_commonDivisor_3 ?_
    refine x_topi (x' := 16) (by decide) ?_
    refine x_mx C k_549 (Nat.le_of_ble_eq_true rfl) (Nat.le_of_ble_eq_true rfl) d_TP_commonDivisor_6 ?_
    refine x_topi (x' := 16) (by decide) ?_
    refine x_istore_n C d_TP_commonDivisor_9 rfl (by decide) (lv' := [(2, .int (16)), (0, .int (nI 11)), (1, .int (16))]) rfl ?_
    refine x_iload_n C d_TP_commonDivisor_10 0 rfl rfl ?_
    refine x_iconst C d_TP_commonDivisor_11 (v := 1) (by decide) ?_
    refine x_icmp_le C d_TP_commonDivisor_12 33 (by decide) (fun c_307 => ?_) (fun c_307 => ?_)
    · exact absurd c_307 (by decide)
    · have nc_307 := Int32.not_le.mp c_307
      refine x_iload_n C d_TP_commonDivisor_15 1 rfl rfl ?_
      refine x_iload_n C d_TP_commonDivisor_16 0 rfl rfl ?_
      refine x_irem C d_TP_commonDivisor_17 (by decide) ?_
      refine x_topi (x' := 11) (by decide) ?_
      refine x_ifne C d_TP_commonDivisor_18 27 (by decide) (fun c_308 => ?_) (fun c_308 => ?_)
      · refine x_iinc C d_TP_commonDivisor_27 0 rfl (v := 15) (by decide) (by decide) (lv' := [(2, .int (15)), (0, .int (nI 11)), (1, .int (16))]) rfl ?_
        refine x_goto C d_TP_commonDivisor_30 10 (by decide) ?_
        refine x_iload_n C d_TP_commonDivisor_10 0 rfl rfl ?_
        refine x_iconst C d_TP_commonDivisor_11 (v := 1) (by decide) ?_
        refine x_icmp_le C d_TP_commonDivisor_12 33 (by decide) (fun c_309 => ?_) (fun c_309 => ?_)
        · exact absurd c_309 (by decide)
        · have nc_309 := Int32.not_le.mp c_309
          refine x_iload_n C d_TP_commonDivisor_15 1 rfl rfl ?_
          refine x_iload_n C d_TP_commonDivisor_16 0 rfl rfl ?_
          refine x_irem C d_TP_commonDivisor_17 (by decide) ?_
          refine x_topi (x' := 11) (by decide) ?_
          refine x_ifne C d_TP_commonDivisor_18 27 (by decide) (fun c_310 => ?_) (fun c_310 => ?_)
          · refine x_iinc C d_TP_commonDivisor_27 0 rfl (v := 14) (by decide) (by decide) (lv' := [(2, .int (14)), (0, .int (nI 11)), (1, .int (16))]) rfl ?_
            refine x_goto C d_TP_commonDivisor_30 10 (by decide) ?_
            refine x_iload_n C d_TP_commonDivisor_10 0 rfl rfl ?_
            refine x_iconst C d_TP_commonDivisor_11 (v := 1) (by decide) ?_
            refine x_icmp_le C d_TP_commonDivisor_12 33 (by decide) (fun c_311 => ?_) (fun c_311 => ?_)
            · exact absurd c_311 (by decide)
            · have nc_311 := Int32.not_le.mp c_311
              refine x_iload_n C d_TP_commonDivisor_15 1 rfl rfl ?_
              refine x_iload_n C d_TP_commonDivisor_16 0 rfl rfl ?_
              refine x_irem C d_TP_commonDivisor_17 (by decide) ?_
              refine x_topi (x' := 11) (by decide) ?_
              refine x_ifne C d_TP_commonDivisor_18 27 (by decide) (fun c_312 => ?_) (fun c_312 => ?_)
              · refine x_iinc C d_TP_commonDivisor_27 0 rfl (v := 13) (by decide) (by decide) (lv' := [(2, .int (13)), (0, .int (nI 11)), (1, .int (16))]) rfl ?_
                refine x_goto C d_TP_commonDivisor_30 10 (by decide) ?_
                refine x_iload_n C d_TP_commonDivisor_10 0 rfl rfl ?_
                refine x_iconst C d_TP_commonDivisor_11 (v := 1) (by decide) ?_
                refine x_icmp_le C d_TP_commonDivisor_12 33 (by decide) (fun c_313 => ?_) (fun c_313 => ?_)
                · exact absurd c_313 (by decide)
                · have nc_313 := Int32.not_le.mp c_313
                  refine x_iload_n C d_TP_commonDivisor_15 1 rfl rfl ?_
                  refine x_iload_n C d_TP_commonDivisor_16 0 rfl rfl ?_
                  refine x_irem C d_TP_commonDivisor_17 (by decide) ?_
                  refine x_topi (x' := 11) (by decide) ?_
                  refine x_ifne C d_TP_commonDivisor_18 27 (by decide) (fun c_314 => ?_) (fun c_314 => ?_)
                  · refine x_iinc C d_TP_commonDivisor_27 0 rfl (v := 12) (by decide) (by decide) (lv' := [(2, .int (12)), (0, .int (nI 11)), (1, .int (16))]) rfl ?_
                    refine x_goto C d_TP_commonDivisor_30 10 (by decide) ?_
                    refine x_iload_n C d_TP_commonDivisor_10 0 rfl rfl ?_
                    refine x_iconst C d_TP_commonDivisor_11 (v := 1) (by decide) ?_
                    refine x_icmp_le C d_TP_commonDivisor_12 33 (by decide) (fun c_315 => ?_) (fun c_315 => ?_)
                    · exact absurd c_315 (by decide)
                    · have nc_315 := Int32.not_le.mp c_315
                      refine x_iload_n C d_TP_commonDivisor_15 1 rfl rfl ?_
                      refine x_iload_n C d_TP_commonDivisor_16 0 rfl rfl ?_
                      refine x_irem C d_TP_commonDivisor_17 (by decide) ?_
                      refine x_topi (x' := 11) (by decide) ?_
                      refine x_ifne C d_TP_commonDivisor_18 27 (by decide) (fun c_316 => ?_) (fun c_316 => ?_)
                      · refine x_iinc C d_TP_commonDivisor_27 0 rfl (v := 11) (by decide) (by decide) (lv' := [(2, .int (11)), (0, .int (nI 11)), (1, .int (16))]) rfl ?_
                        refine x_goto C d_TP_commonDivisor_30 10 (by decide) ?_
                        refine x_iload_n C d_TP_commonDivisor_10 0 rfl rfl ?_
                        refine x_iconst C d_TP_commonDivisor_11 (v := 1) (by decide) ?_
                        refine x_icmp_le C d_TP_commonDivisor_12 33 (by decide) (fun c_317 => ?_) (fun c_317 => ?_)
                        · exact absurd c_317 (by decide)
                        · have nc_317 := Int32.not_le.mp c_317
                          refine x_iload_n C d_TP_commonDivisor_15 1 rfl rfl ?_
                          refine x_iload_n C d_TP_commonDivisor_16 0 rfl rfl ?_
                          refine x_irem C d_TP_commonDivisor_17 (by decide) ?_
                          refine x_topi (x' := 0) (by decide) ?_
                          refine x_ifne C d_TP_commonDivisor_18 27 (by decide) (fun c_318 => ?_) (fun c_318 => ?_)
                          · exact absurd c_318 (by decide)
                          · refine x_iload_n C d_TP_commonDivisor_21 2 rfl rfl ?_
                            refine x_iload_n C d_TP_commonDivisor_22 0 rfl rfl ?_
                            refine x_irem C d_TP_commonDivisor_23 (by decide) ?_
                            refine x_topi (x' := 5) (by decide) ?_
                            refine x_ifeq C d_TP_commonDivisor_24 33 (by decide) (fun c_319 => ?_) (fun c_319 => ?_)
                            · exact absurd c_319 (by decide)
                            · refine x_iinc C d_TP_commonDivisor_27 0 rfl (v := 10) (by decide) (by decide) (lv' := [(2, .int (10)), (0, .int (nI 11)), (1, .int (16))]) rfl ?_
                              refine x_goto C d_TP_commonDivisor_30 10 (by decide) ?_
                              refine x_iload_n C d_TP_commonDivisor_10 0 rfl rfl ?_
                              refine x_iconst C d_TP_commonDivisor_11 (v := 1) (by decide) ?_
                              refine x_icmp_le C d_TP_commonDivisor_12 33 (by decide) (fun c_320 => ?_) (fun c_320 => ?_)
                              · exact absurd c_320 (by decide)
                              · have nc_320 := Int32.not_le.mp c_320
                                refine x_iload_n C d_TP_commonDivisor_15 1 rfl rfl ?_
                                refine x_iload_n C d_TP_commonDivisor_16 0 rfl rfl ?_
                                refine x_irem C d_TP_commonDivisor_17 (by decide) ?_
                                refine x_topi (x' := 1) (by decide) ?_
                                refine x_ifne C d_TP_commonDivisor_18 27 (by decide) (fun c_321 => ?_) (fun c_321 => ?_)
                                · refine x_iinc C d_TP_commonDivisor_27 0 rfl (v := 9) (by decide) (by decide) (lv' := [(2, .int (9)), (0, .int (nI 11)), (1, .int (16))]) rfl ?_
                                  refine x_goto C d_TP_commonDivisor_30 10 (by decide) ?_
                                  refine x_iload_n C d_TP_commonDivisor_10 0 rfl rfl ?_
                                  refine x_iconst C d_TP_commonDivisor_11 (v := 1) (by decide) ?_
                                  refine x_icmp_le C d_TP_commonDivisor_12 33 (by decide) (fun c_322 => ?_) (fun c_322 => ?_)
                                  · exact absurd c_322 (by decide)
                                  · have nc_322 := Int32.not_le.mp c_322
                                    refine x_iload_n C d_TP_commonDivisor_15 1 rfl rfl ?_
                                    refine x_iload_n C d_TP_commonDivisor_16 0 rfl rfl ?_
                                    refine x_irem C d_TP_commonDivisor_17 (by decide) ?_
                                    refine x_topi (x' := 2) (by decide) ?_
                                    refine x_ifne C d_TP_commonDivisor_18 27 (by decide) (fun c_323 => ?_) (fun c_323 => ?_)
                                    · refine x_iinc C d_TP_commonDivisor_27 0 rfl (v := 8) (by decide) (by decide) (lv' := [(2, .int (8)), (0, .int (nI 11)), (1, .int (16))]) rfl ?_
                                      refine x_goto C d_TP_commonDivisor_30 10 (by decide) ?_
                                      refine x_iload_n C d_TP_commonDivisor_10 0 rfl rfl ?_
                                      refine x_iconst C d_TP_commonDivisor_11 (v := 1) (by decide) ?_
                                      refine x_icmp_le C d_TP_commonDivisor_12 33 (by decide) (fun c_324 => ?_) (fun c_324 => ?_)
                                      · exact absurd c_324 (by decide)
                                      · have nc_324 := Int32.not_le.mp c_324
                                        refine x_iload_n C d_TP_commonDivisor_15 1 rfl rfl ?_
                                        refine x_iload_n C d_TP_commonDivisor_16 0 rfl rfl ?_
                                        refine x_irem C d_TP_commonDivisor_17 (by decide) ?_
                                        refine x_topi (x' := 3) (by decide) ?_
                                        refine x_ifne C d_TP_commonDivisor_18 27 (by decide) (fun c_325 => ?_) (fun c_325 => ?_)
                                        · refine x_iinc C d_TP_commonDivisor_27 0 rfl (v := 7) (by decide) (by decide) (lv' := [(2, .int (7)), (0, .int (nI 11)), (1, .int (16))]) rfl ?_
                                          refine x_goto C d_TP_commonDivisor_30 10 (by decide) ?_
                                          refine x_iload_n C d_TP_commonDivisor_10 0 rfl rfl ?_
                                          refine x_iconst C d_TP_commonDivisor_11 (v := 1) (by decide) ?_
                                          refine x_icmp_le C d_TP_commonDivisor_12 33 (by decide) (fun c_326 => ?_) (fun c_326 => ?_)
                                          · exact absurd c_326 (by decide)
                                          · have nc_326 := Int32.not_le.mp c_326
                                            refine x_iload_n C d_TP_commonDivisor_15 1 rfl rfl ?_
                                            refine x_iload_n C d_TP_commonDivisor_16 0 rfl rfl ?_
                                            refine x_irem C d_TP_commonDivisor_17 (by decide) ?_
                                            refine x_topi (x' := 4) (by decide) ?_
                                            refine x_ifne C d_TP_commonDivisor_18 27 (by decide) (fun c_327 => ?_) (fun c_327 => ?_)
                                            · refine x_iinc C d_TP_commonDivisor_27 0 rfl (v := 6) (by decide) (by decide) (lv' := [(2, .int (6)), (0, .int (nI 11)), (1, .int (16))]) rfl ?_
                                              refine x_goto C d_TP_commonDivisor_30 10 (by decide) ?_
                                              refine x_iload_n C d_TP_commonDivisor_10 0 rfl rfl ?_
                                              refine x_iconst C d_TP_commonDivisor_11 (v := 1) (by decide) ?_
                                              refine x_icmp_le C d_TP_commonDivisor_12 33 (by decide) (fun c_328 => ?_) (fun c_328 => ?_)
                                              · exact absurd c_328 (by decide)
                                              · have nc_328 := Int32.not_le.mp c_328
                                                refine x_iload_n C d_TP_commonDivisor_15 1 rfl rfl ?_
                                                refine x_iload_n C d_TP_commonDivisor_16 0 rfl rfl ?_
                                                refine x_irem C d_TP_commonDivisor_17 (by decide) ?_
                                                refine x_topi (x' := 5) (by decide) ?_
                                                refine x_ifne C d_TP_commonDivisor_18 27 (by decide) (fun c_329 => ?_) (fun c_329 => ?_)
                                                · refine x_iinc C d_TP_commonDivisor_27 0 rfl (v := 5) (by decide) (by decide) (lv' := [(2, .int (5)), (0, .int (nI 11)), (1, .int (16))]) rfl ?_
                                                  refine x_goto C d_TP_commonDivisor_30 10 (by decide) ?_
                                                  refine x_iload_n C d_TP_commonDivisor_10 0 rfl rfl ?_
                                                  refine x_iconst C d_TP_commonDivisor_11 (v := 1) (by decide) ?_
                                                  refine x_icmp_le C d_TP_commonDivisor_12 33 (by decide) (fun c_330 => ?_) (fun c_330 => ?_)
                                                  · exact absurd c_330 (by decide)
                                                  · have nc_330 := Int32.not_le.mp c_330
                                                    refine x_iload_n C d_TP_commonDivisor_15 1 rfl rfl ?_
                                                    refine x_iload_n C d_TP_commonDivisor_16 0 rfl rfl ?_
                                                    refine x_irem C d_TP_commonDivisor_17 (by decide) ?_
                                                    refine x_topi (x' := 1) (by decide) ?_
                                                    refine x_ifne C d_TP_commonDivisor_18 27 (by decide) (fun c_331 => ?_) (fun c_331 => ?_)
                                                    · refine x_iinc C d_TP_commonDivisor_27 0 rfl (v := 4) (by decide) (by decide) (lv' := [(2, .int (4)), (0, .int (nI 11)), (1, .int (16))]) rfl ?_
                                                      refine x_goto C d_TP_commonDivisor_30 10 (by decide) ?_
                                                      refine x_iload_n C d_TP_commonDivisor_10 0 rfl rfl ?_
                                                      refine x_iconst C d_TP_commonDivisor_11 (v := 1) (by decide) ?_
                                                      refine x_icmp_le C d_TP_commonDivisor_12 33 (by decide) (fun c_332 => ?_) (fun c_332 => ?_)
                                                      · exact absurd c_332 (by decide)
                                                      · have nc_332 := Int32.not_le.mp c_332
                                                        refine x_iload_n C d_TP_commonDivisor_15 1 rfl rfl ?_
                                                        refine x_iload_n C d_TP_commonDivisor_16 0 rfl rfl ?_
                                                        refine x_irem C d_TP_commonDivisor_17 (by decide) ?_
                                                        refine x_topi (x' := 3) (by decide) ?_
                                                        refine x_ifne C d_TP_commonDivisor_18 27 (by decide) (fun c_333 => ?_) (fun c_333 => ?_)
                                                        · refine x_iinc C d_TP_commonDivisor_27 0 rfl (v := 3) (by decide) (by decide) (lv' := [(2, .int (3)), (0, .int (nI 11)), (1, .int (16))]) rfl ?_
                                                          refine x_goto C d_TP_commonDivisor_30 10 (by decide) ?_
                                                          refine x_iload_n C d_TP_commonDivisor_10 0 rfl rfl ?_
                                                          refine x_iconst C d_TP_commonDivisor_11 (v := 1) (by decide) ?_
                                                          refine x_icmp_le C d_TP_commonDivisor_12 33 (by decide) (fun c_334 => ?_) (fun c_334 => ?_)
                                                          · exact absurd c_334 (by decide)
                                                          · have nc_334 := Int32.not_le.mp c_334
                                                            refine x_iload_n C d_TP_commonDivisor_15 1 rfl rfl ?_
                                                            refine x_iload_n C d_TP_commonDivisor_16 0 rfl rfl ?_
                                                            refine x_irem C d_TP_commonDivisor_17 (by decide) ?_
                                                            refine x_topi (x' := 2) (by decide) ?_
                                                            refine x_ifne C d_TP_commonDivisor_18 27 (by decide) (fun c_335 => ?_) (fun c_335 => ?_)
                                                            · refine x_iinc C d_TP_commonDivisor_27 0 rfl (v := 2) (by decide) (by decide) (lv' := [(2, .int (2)), (0, .int (nI 11)), (1, .int (16))]) rfl ?_
                                                              refine x_goto C d_TP_commonDivisor_30 10 (by decide) ?_
                                                              refine x_iload_n C d_TP_commonDivisor_10 0 rfl rfl ?_
                                                              refine x_iconst C d_TP_commonDivisor_11 (v := 1) (by decide) ?_
                                                              refine x_icmp_le C d_TP_commonDivisor_12 33 (by decide) (fun c_336 => ?_) (fun c_336 => ?_)
                                                              · exact absurd c_336 (by decide)
                                                              · have nc_336 := Int32.not_le.mp c_336
                                                                refine x_iload_n C d_TP_commonDivisor_15 1 rfl rfl ?_
                                                                refine x_iload_n C d_TP_commonDivisor_16 0 rfl rfl ?_
                                                                refine x_irem C d_TP_commonDivisor_17 (by decide) ?_
                                                                refine x_topi (x' := 1) (by decide) ?_
                                                                refine x_ifne C d_TP_commonDivisor_18 27 (by decide) (fun c_337 => ?_) (fun c_337 => ?_)
                                                                · refine x_iinc C d_TP_commonDivisor_27 0 rfl (v := 1) (by decide) (by decide) (lv' := [(2, .int (1)), (0, .int (nI 11)), (1, .int (16))]) rfl ?_
                                                                  refine x_goto C d_TP_commonDivisor_30 10 (by decide) ?_
                                                                  refine x_iload_n C d_TP_commonDivisor_10 0 rfl rfl ?_
                                                                  refine x_iconst C d_TP_commonDivisor_11 (v := 1) (by decide) ?_
                                                                  refine x_icmp_le C d_TP_commonDivisor_12 33 (by decide) (fun c_338 => ?_) (fun c_338 => ?_)
                                                                  · have nc_338 := Int32.not_lt.mpr c_338
                                                                    refine x_iload_n C d_TP_commonDivisor_33 0 rfl rfl ?_
                                                                    exact x_iret C (by decide) rfl d_TP_commonDivisor_34
                                                                  · exact absurd c_338 (by decide)
                                                                · exact absurd c_337 (by decide)
                                                            · exact absurd c_335 (by decide)
                                                        · exact absurd c_333 (by decide)
                                                    · exact absurd c_331 (by decide)
                                                · exact absurd c_329 (by decide)
                                            · exact absurd c_327 (by decide)
                                        · exact absurd c_325 (by decide)
                                    · exact absurd c_323 (by decide)
                                · exact absurd c_321 (by decide)
                      · exact absurd c_316 (by decide)
                  · exact absurd c_314 (by decide)
              · exact absurd c_312 (by decide)
          · exact absurd c_310 (by decide)
      · exact absurd c_308 (by decide)
  · refine x_iconst C d_TP_commonDivisor_0 (v := 1) (by decide) ?_
    refine x_iload_n C d_TP_commonDivisor_1 0 rfl rfl ?_
    refine x_iload_n C d_TP_commonDivisor_2 1 rfl rfl ?_
    refine x_mx C k_549 (Nat.le_of_ble_eq_true rfl) (Nat.le_of_ble_eq_true rfl) d_TP_commonDivisor_3 ?_
    refine x_topi (x' := 16) (by decide) ?_
    refine x_mx C k_549 (Nat.le_of_ble_eq_true rfl) (Nat.le_of_ble_eq_true rfl) d_TP_commonDivisor_6 ?_
    refine x_topi (x' := 16) (by decide) ?_
    refine x_istore_n C d_TP_commonDivisor_9 rfl (by decide) (lv' := [(2, .int (16)), (0, .int (nI 12)), (1, .int (16))]) rfl ?_
    refine x_iload_n C d_TP_commonDivisor_10 0 rfl rfl ?_
    refine x_iconst C d_TP_commonDivisor_11 (v := 1) (by decide) ?_
    refine x_icmp_le C d_TP_commonDivisor_12 33 (by decide) (fun c_339 => ?_) (fun c_339 => ?_)
    · exact absurd c_339 (by decide)
    · have nc_339 := Int32.not_le.mp c_339
      refine x_iload_n C d_TP_commonDivisor_15 1 rfl rfl ?_
      refine x_iload_n C d_TP_commonDivisor_16 0 rfl rfl ?_
      refine x_irem C d_TP_commonDivisor_17 (by decide) ?_
      refine x_topi (x' := 12) (by decide) ?_
      refine x_ifne C d_TP_commonDivisor_18 27 (by decide) (fun c_340 => ?_) (fun c_340 => ?_)
      · refine x_iinc C d_TP_commonDivisor_27 0 rfl (v := 15) (by decide) (by decide) (lv' := [(2, .int (15)), (0, .int (nI 12)), (1, .int (16))]) rfl ?_
        refine x_goto C d_TP_commonDivisor_30 10 (by decide) ?_
        refine x_iload_n C d_TP_commonDivisor_10 0 rfl rfl ?_
        refine x_iconst C d_TP_commonDivisor_11 (v := 1) (by decide) ?_
        refine x_icmp_le C d_TP_commonDivisor_12 33 (by decide) (fun c_341 => ?_) (fun c_341 => ?_)
        · exact absurd c_341 (by decide)
        · have nc_341 := Int32.not_le.mp c_341
          refine x_iload_n C d_TP_commonDivisor_15 1 rfl rfl ?_
          refine x_iload_n C d_TP_commonDivisor_16 0 rfl rfl ?_
          refine x_irem C d_TP_commonDivisor_17 (by decide) ?_
          refine x_topi (x' := 12) (by decide) ?_
          refine x_ifne C d_TP_commonDivisor_18 27 (by decide) (fun c_342 => ?_) (fun c_342 => ?_)
          · refine x_iinc C d_TP_commonDivisor_27 0 rfl (v := 14) (by decide) (by decide) (lv' := [(2, .int (14)), (0, .int (nI 12)), (1, .int (16))]) rfl ?_
            refine x_goto C d_TP_commonDivisor_30 10 (by decide) ?_
            refine x_iload_n C d_TP_commonDivisor_10 0 rfl rfl ?_
            refine x_iconst C d_TP_commonDivisor_11 (v := 1) (by decide) ?_
            refine x_icmp_le C d_TP_commonDivisor_12 33 (by decide) (fun c_343 => ?_) (fun c_343 => ?_)
            · exact absurd c_343 (by decide)
            · have nc_343 := Int32.not_le.mp c_343
              refine x_iload_n C d_TP_commonDivisor_15 1 rfl rfl ?_
              refine x_iload_n C d_TP_commonDivisor_16 0 rfl rfl ?_
              refine x_irem C d_TP_commonDivisor_17 (by decide) ?_
              refine x_topi (x' := 12) (by decide) ?_
              refine x_ifne C d_TP_commonDivisor_18 27 (by decide) (fun c_344 => ?_) (fun c_344 => ?_)
              · refine x_iinc C d_TP_commonDivisor_27 0 rfl (v := 13) (by decide) (by decide) (lv' := [(2, .int (13)), (0, .int (nI 12)), (1, .int (16))]) rfl ?_
                refine x_goto C d_TP_commonDivisor_30 10 (by decide) ?_
                refine x_iload_n C d_TP_commonDivisor_10 0 rfl rfl ?_
                refine x_iconst C d_TP_commonDivisor_11 (v := 1) (by decide) ?_
                refine x_icmp_le C d_TP_commonDivisor_12 33 (by decide) (fun c_345 => ?_) (fun c_345 => ?_)
                · exact absurd c_345 (by decide)
                · have nc_345 := Int32.not_le.mp c_345
                  refine x_iload_n C d_TP_commonDivisor_15 1 rfl rfl ?_
                  refine x_iload_n C d_TP_commonDivisor_16 0 rfl rfl ?_
                  refine x_irem C d_TP_commonDivisor_17 (by decide) ?_
                  refine x_topi (x' := 12) (by decide) ?_
                  refine x_ifne C d_TP_commonDivisor_18 27 (by decide) (fun c_346 => ?_) (fun c_346 => ?_)
                  · refine x_iinc C d_TP_commonDivisor_27 0 rfl (v := 12) (by decide) (by decide) (lv' := [(2, .int (12)), (0, .int (nI 12)), (1, .int (16))]) rfl ?_
                    refine x_goto C d_TP_commonDivisor_30 10 (by decide) ?_
                    refine x_iload_n C d_TP_commonDivisor_10 0 rfl rfl ?_
                    refine x_iconst C d_TP_commonDivisor_11 (v := 1) (by decide) ?_
                    refine x_icmp_le C d_TP_commonDivisor_12 33 (by decide) (fun c_347 => ?_) (fun c_347 => ?_)
                    · exact absurd c_347 (by decide)
                    · have nc_347 := Int32.not_le.mp c_347
                      refine x_iload_n C d_TP_commonDivisor_15 1 rfl rfl ?_
                      refine x_iload_n C d_TP_commonDivisor_16 0 rfl rfl ?_
                      refine x_irem C d_TP_commonDivisor_17 (by decide) ?_
                      refine x_topi (x' := 0) (by decide) ?_
                      refine x_ifne C d_TP_commonDivisor_18 27 (by decide) (fun c_348 => ?_) (fun c_348 => ?_)
                      · exact absurd c_348 (by decide)
                      · refine x_iload_n C d_TP_commonDivisor_21 2 rfl rfl ?_
                        refine x_iload_n C d_TP_commonDivisor_22 0 rfl rfl ?_
                        refine x_irem C d_TP_commonDivisor_23 (by decide) ?_
                        refine x_topi (x' := 4) (by decide) ?_
                        refine x_ifeq C d_TP_commonDivisor_24 33 (by decide) (fun c_349 => ?_) (fun c_349 => ?_)
                        · exact absurd c_349 (by decide)
                        · refine x_iinc C d_TP_commonDivisor_27 0 rfl (v := 11) (by decide) (by decide) (lv' := [(2, .int (11)), (0, .int (nI 12)), (1, .int (16))]) rfl ?_
                          refine x_goto C d_TP_commonDivisor_30 10 (by decide) ?_
                          refine x_iload_n C d_TP_commonDivisor_10 0 rfl rfl ?_
                          refine x_iconst C d_TP_commonDivisor_11 (v := 1) (by decide) ?_
                          refine x_icmp_le C d_TP_commonDivisor_12 33 (by decide) (fun c_350 => ?_) (fun c_350 => ?_)
                          · exact absurd c_350 (by decide)
                          · have nc_350 := Int32.not_le.mp c_350
                            refine x_iload_n C d_TP_commonDivisor_15 1 rfl rfl ?_
                            refine x_iload_n C d_TP_commonDivisor_16 0 rfl rfl ?_
                            refine x_irem C d_TP_commonDivisor_17 (by decide) ?_
                            refine x_topi (x' := 1) (by decide) ?_
                            refine x_ifne C d_TP_commonDivisor_18 27 (by decide) (fun c_351 => ?_) (fun c_351 => ?_)
                            · refine x_iinc C d_TP_commonDivisor_27 0 rfl (v := 10) (by decide) (by decide) (lv' := [(2, .int (10)), (0, .int (nI 12)), (1, .int (16))]) rfl ?_
                              refine x_goto C d_TP_commonDivisor_30 10 (by decide) ?_
                              refine x_iload_n C d_TP_commonDivisor_10 0 rfl rfl ?_
                              refine x_iconst C d_TP_commonDivisor_11 (v := 1) (by decide) ?_
                              refine x_icmp_le C d_TP_commonDivisor_12 33 (by decide) (fun c_352 => ?_) (fun c_352 => ?_)
                              · exact absurd c_352 (by decide)
                              · have nc_352 := Int32.not_le.mp c_352
                                refine x_iload_n C d_TP_commonDivisor_15 1 rfl rfl ?_
                                refine x_iload_n C d_TP_commonDivisor_16 0 rfl rfl ?_
                                refine x_irem C d_TP_commonDivisor_17 (by decide) ?_
                                refine x_topi (x' := 2) (by decide) ?_
                                refine x_ifne C d_TP_commonDivisor_18 27 (by decide) (fun c_353 => ?_) (fun c_353 => ?_)
                                · refine x_iinc C d_TP_commonDivisor_27 0 rfl (v := 9) (by decide) (by decide) (lv' := [(2, .int (9)), (0, .int (nI 12)), (1, .int (16))]) rfl ?_
                                  refine x_goto C d_TP_commonDivisor_30 10 (by decide) ?_
                                  refine x_iload_n C d_TP_commonDivisor_10 0 rfl rfl ?_
                                  refine x_iconst C d_TP_commonDivisor_11 (v := 1) (by decide) ?_
                                  refine x_icmp_le C d_TP_commonDivisor_12 33 (by decide) (fun c_354 => ?_) (fun c_354 => ?_)
                                  · exact absurd c_354 (by decide)
                                  · have nc_354 := Int32.not_le.mp c_354
                                    refine x_iload_n C d_TP_commonDivisor_15 1 rfl rfl ?_
                                    refine x_iload_n C d_TP_commonDivisor_16 0 rfl rfl ?_
                                    refine x_irem C d_TP_commonDivisor_17 (by decide) ?_
                                    refine x_topi (x' := 3) (by decide) ?_
                                    refine x_ifne C d_TP_commonDivisor_18 27 (by decide) (fun c_355 => ?_) (fun c_355 => ?_)
                                    · refine x_iinc C d_TP_commonDivisor_27 0 rfl (v := 8) (by decide) (by decide) (lv' := [(2, .int (8)), (0, .int (nI 12)), (1, .int (16))]) rfl ?_
                                      refine x_goto C d_TP_commonDivisor_30 10 (by decide) ?_
                                      refine x_iload_n C d_TP_commonDivisor_10 0 rfl rfl ?_
                                      refine x_iconst C d_TP_commonDivisor_11 (v := 1) (by decide) ?_
                                      refine x_icmp_le C d_TP_commonDivisor_12 33 (by decide) (fun c_356 => ?_) (fun c_356 => ?_)
                                      · exact absurd c_356 (by decide)
                                      · have nc_356 := Int32.not_le.mp c_356
                                        refine x_iload_n C d_TP_commonDivisor_15 1 rfl rfl ?_
                                        refine x_iload_n C d_TP_commonDivisor_16 0 rfl rfl ?_
                                        refine x_irem C d_TP_commonDivisor_17 (by decide) ?_
                                        refine x_topi (x' := 4) (by decide) ?_
                                        refine x_ifne C d_TP_commonDivisor_18 27 (by decide) (fun c_357 => ?_) (fun c_357 => ?_)
                                        · refine x_iinc C d_TP_commonDivisor_27 0 rfl (v := 7) (by decide) (by decide) (lv' := [(2, .int (7)), (0, .int (nI 12)), (1, .int (16))]) rfl ?_
                                          refine x_goto C d_TP_commonDivisor_30 10 (by decide) ?_
                                          refine x_iload_n C d_TP_commonDivisor_10 0 rfl rfl ?_
                                          refine x_iconst C d_TP_commonDivisor_11 (v := 1) (by decide) ?_
                                          refine x_icmp_le C d_TP_commonDivisor_12 33 (by decide) (fun c_358 => ?_) (fun c_358 => ?_)
                                          · exact absurd c_358 (by decide)
                                          · have nc_358 := Int32.not_le.mp c_358
                                            refine x_iload_n C d_TP_commonDivisor_15 1 rfl rfl ?_
                                            refine x_iload_n C d_TP_commonDivisor_16 0 rfl rfl ?_
                                            refine x_irem C d_TP_commonDivisor_17 (by decide) ?_
                                            refine x_topi (x' := 5) (by decide) ?_
                                            refine x_ifne C d_TP_commonDivisor_18 27 (by decide) (fun c_359 => ?_) (fun c_359 => ?_)
                                            · refine x_iinc C d_TP_commonDivisor_27 0 rfl (v := 6) (by decide) (by decide) (lv' := [(2, .int (6)), (0, .int (nI 12)), (1, .int (16))]) rfl ?_
                                              refine x_goto C d_TP_commonDivisor_30 10 (by decide) ?_
                                              refine x_iload_n C d_TP_commonDivisor_10 0 rfl rfl ?_
                                              refine x_iconst C d_TP_commonDivisor_11 (v := 1) (by decide) ?_
                                              refine x_icmp_le C d_TP_commonDivisor_12 33 (by decide) (fun c_360 => ?_) (fun c_360 => ?_)
                                              · exact absurd c_360 (by decide)
                                              · have nc_360 := Int32.not_le.mp c_360
                                                refine x_iload_n C d_TP_commonDivisor_15 1 rfl rfl ?_
                                                refine x_iload_n C d_TP_commonDivisor_16 0 rfl rfl ?_
                                                refine x_irem C d_TP_commonDivisor_17 (by decide) ?_
                                                refine x_topi (x' := 0) (by decide) ?_
                                                refine x_ifne C d_TP_commonDivisor_18 27 (by decide) (fun c_361 => ?_) (fun c_361 => ?_)
                                                · exact absurd c_361 (by decide)
                                                · refine x_iload_n C d_TP_commonDivisor_21 2 rfl rfl ?_
                                                  refine x_iload_n C d_TP_commonDivisor_22 0 rfl rfl ?_
                                                  refine x_irem C d_TP_commonDivisor_23 (by decide) ?_
                                                  refine x_topi (x' := 4) (by decide) ?_
                                                  refine x_ifeq C d_TP_commonDivisor_24 33 (by decide) (fun c_362 => ?_) (fun c_362 => ?_)
                                                  · exact absurd c_362 (by decide)
                                                  · refine x_iinc C d_TP_commonDivisor_27 0 rfl (v := 5) (by decide) (by decide) (lv' := [(2, .int (5)), (0, .int (nI 12)), (1, .int (16))]) rfl ?_
                                                    refine x_goto C d_TP_commonDivisor_30 10 (by decide) ?_
                                                    refine x_iload_n C d_TP_commonDivisor_10 0 rfl rfl ?_
                                                    refine x_iconst C d_TP_commonDivisor_11 (v := 1) (by decide) ?_
                                                    refine x_icmp_le C d_TP_commonDivisor_12 33 (by decide) (fun c_363 => ?_) (fun c_363 => ?_)
                                                    · exact absurd c_363 (by decide)
                                                    · have nc_363 := Int32.not_le.mp c_363
                                                      refine x_iload_n C d_TP_commonDivisor_15 1 rfl rfl ?_
                                                      refine x_iload_n C d_TP_commonDivisor_16 0 rfl rfl ?_
                                                      refine x_irem C d_TP_commonDivisor_17 (by decide) ?_
                                                      refine x_topi (x' := 2) (by decide) ?_
                                                      refine x_ifne C d_TP_commonDivisor_18 27 (by decide) (fun c_364 => ?_) (fun c_364 => ?_)
                                                      · refine x_iinc C d_TP_commonDivisor_27 0 rfl (v := 4) (by decide) (by decide) (lv' := [(2, .int (4)), (0, .int (nI 12)), (1, .int (16))]) rfl ?_
                                                        refine x_goto C d_TP_commonDivisor_30 10 (by decide) ?_
                                                        refine x_iload_n C d_TP_commonDivisor_10 0 rfl rfl ?_
                                                        refine x_iconst C d_TP_commonDivisor_11 (v := 1) (by decide) ?_
                                                        refine x_icmp_le C d_TP_commonDivisor_12 33 (by decide) (fun c_365 => ?_) (fun c_365 => ?_)
                                                        · exact absurd c_365 (by decide)
                                                        · have nc_365 := Int32.not_le.mp c_365
                                                          refine x_iload_n C d_TP_commonDivisor_15 1 rfl rfl ?_
                                                          refine x_iload_n C d_TP_commonDivisor_16 0 rfl rfl ?_
                                                          refine x_irem C d_TP_commonDivisor_17 (by decide) ?_
                                                          refine x_topi (x' := 0) (by decide) ?_
                                                          refine x_ifne C d_TP_commonDivisor_18 27 (by decide) (fun c_366 => ?_) (fun c_366 => ?_)
                                                          · exact absurd c_366 (by decide)
                                                          · refine x_iload_n C d_TP_commonDivisor_21 2 rfl rfl ?_
                                                            refine x_iload_n C d_TP_commonDivisor_22 0 rfl rfl ?_
                                                            refine x_irem C d_TP_commonDivisor_23 (by decide) ?_
                                                            refine x_topi (x' := 0) (by decide) ?_
                                                            refine x_ifeq C d_TP_commonDivisor_24 33 (by decide) (fun c_367 => ?_) (fun c_367 => ?_)
                                                            · refine x_iload_n C d_TP_commonDivisor_33 0 rfl rfl ?_
                                                              exact x_iret C (by decide) rfl d_TP_commonDivisor_34
                                                            · exact absurd c_367 (by decide)
                                                      · exact absurd c_364 (by decide)
                                            · exact absurd c_359 (by decide)
                                        · exact absurd c_357 (by decide)
                                    · exact absurd c_355 (by decide)
                                · exact absurd c_353 (by decide)
                            · exact absurd c_351 (by decide)
                  · exact absurd c_346 (by decide)
              · exact absurd c_344 (by decide)
          · exact absurd c_342 (by decide)
      · exact absurd c_340 (by decide)
  · refine x_iconst C d_TP_commonDivisor_0 (v := 1) (by decide) ?_
    refine x_iload_n C d_TP_commonDivisor_1 0 rfl rfl ?_
    refine x_iload_n C d_TP_commonDivisor_2 1 rfl rfl ?_
    refine x_mx C k_549 (Nat.le_of_ble_eq_true rfl) (Nat.le_of_ble_eq_true rfl) d_TP_commonDivisor_3 ?_
    refine x_topi (x' := 16) (by decide) ?_
    refine x_mx C k_549 (Nat.le_of_ble_eq_true rfl) (Nat.le_of_ble_eq_true rfl) d_TP_commonDivisor_6 ?_
    refine x_topi (x' := 16) (by decide) ?_
    refine x_istore_n C d_TP_commonDivisor_9 rfl (by decide) (lv' := [(2, .int (16)), (0, .int (nI 13)), (1, .int (16))]) rfl ?_
    refine x_iload_n C d_TP_commonDivisor_10 0 rfl rfl ?_
    refine x_iconst C d_TP_commonDivisor_11 (v := 1) (by decide) ?_
    refine x_icmp_le C d_TP_commonDivisor_12 33 (by decide) (fun c_368 => ?_) (fun c_368 => ?_)
    · exact absurd c_368 (by decide)
    · have nc_368 := Int32.not_le.mp c_368
      refine x_iload_n C d_TP_commonDivisor_15 1 rfl rfl ?_
      refine x_iload_n C d_TP_commonDivisor_16 0 rfl rfl ?_
      refine x_irem C d_TP_commonDivisor_17 (by decide) ?_
      refine x_topi (x' := 13) (by decide) ?_
      refine x_ifne C d_TP_commonDivisor_18 27 (by decide) (fun c_369 => ?_) (fun c_369 => ?_)
      · refine x_iinc C d_TP_commonDivisor_27 0 rfl (v := 15) (by decide) (by decide) (lv' := [(2, .int (15)), (0, .int (nI 13)), (1, .int (16))]) rfl ?_
        refine x_goto C d_TP_commonDivisor_30 10 (by decide) ?_
        refine x_iload_n C d_TP_commonDivisor_10 0 rfl rfl ?_
        refine x_iconst C d_TP_commonDivisor_11 (v := 1) (by decide) ?_
        refine x_icmp_le C d_TP_commonDivisor_12 33 (by decide) (fun c_370 => ?_) (fun c_370 => ?_)
        · exact absurd c_370 (by decide)
        · have nc_370 := Int32.not_le.mp c_370
          refine x_iload_n C d_TP_commonDivisor_15 1 rfl rfl ?_
          refine x_iload_n C d_TP_commonDivisor_16 0 rfl rfl ?_
          refine x_irem C d_TP_commonDivisor_17 (by decide) ?_
          refine x_topi (x' := 13) (by decide) ?_
          refine x_ifne C d_TP_commonDivisor_18 27 (by decide) (fun c_371 => ?_) (fun c_371 => ?_)
          · refine x_iinc C d_TP_commonDivisor_27 0 rfl (v := 14) (by decide) (by decide) (lv' := [(2, .int (14)), (0, .int (nI 13)), (1, .int (16))]) rfl ?_
            refine x_goto C d_TP_commonDivisor_30 10 (by decide) ?_
            refine x_iload_n C d_TP_commonDivisor_10 0 rfl rfl ?_
            refine x_iconst C d_TP_commonDivisor_11 (v := 1) (by decide) ?_
            refine x_icmp_le C d_TP_commonDivisor_12 33 (by decide) (fun c_372 => ?_) (fun c_372 => ?_)
            · exact absurd c_372 (by decide)
            · have nc_372 := Int32.not_le.mp c_372
              refine x_iload_n C d_TP_commonDivisor_15 1 rfl rfl ?_
              refine x_iload_n C d_TP_commonDivisor_16 0 rfl rfl ?_
              refine x_irem C d_TP_commonDivisor_17 (by decide) ?_
              refine x_topi (x' := 13) (by decide) ?_
              refine x_ifne C d_TP_commonDivisor_18 27 (by decide) (fun c_373 => ?_) (fun c_373 => ?_)
              · refine x_iinc C d_TP_commonDivisor_27 0 rfl (v := 13) (by decide) (by decide) (lv' := [(2, .int (13)), (0, .int (nI 13)), (1, .int (16))]) rfl ?_
                refine x_goto C d_TP_commonDivisor_30 10 (by decide) ?_
                refine x_iload_n C d_TP_commonDivisor_10 0 rfl rfl ?_
                refine x_iconst C d_TP_commonDivisor_11 (v := 1) (by decide) ?_
                refine x_icmp_le C d_TP_commonDivisor_12 33 (by decide) (fun c_374 => ?_) (fun c_374 => ?_)
                · exact absurd c_374 (by decide)
                · have nc_374 := Int32.not_le.mp c_374
                  refine x_iload_n C d_TP_commonDivisor_15 1 rfl rfl ?_
                  refine x_iload_n C d_TP_commonDivisor_16 0 rfl rfl ?_
                  refine x_irem C d_TP_commonDivisor_17 (by decide) ?_
                  refine x_topi (x' := 0) (by decide) ?_
                  refine x_ifne C d_TP_commonDivisor_18 27 (by decide) (fun c_375 => ?_) (fun c_375 => ?_)
                  · exact absurd c_375 (by decide)
                  · refine x_iload_n C d_TP_commonDivisor_21 2 rfl rfl ?_
                    refine x_iload_n C d_TP_commonDivisor_22 0 rfl rfl ?_
                    refine x_irem C d_TP_commonDivisor_23 (by decide) ?_
                    refine x_topi (x' := 3) (by decide) ?_
                    refine x_ifeq C d_TP_commonDivisor_24 33 (by decide) (fun c_376 => ?_) (fun c_376 => ?_)
                    · exact absurd c_376 (by decide)
                    · refine x_iinc C d_TP_commonDivisor_27 0 rfl (v := 12) (by decide) (by decide) (lv' := [(2, .int (12)), (0, .int (nI 13)), (1, .int (16))]) rfl ?_
                      refine x_goto C d_TP_commonDivisor_30 10 (by decide) ?_
                      refine x_iload_n C d_TP_commonDivisor_10 0 rfl rfl ?_
                      refine x_iconst C d_TP_commonDivisor_11 (v := 1) (by decide) ?_
                      refine x_icmp_le C d_TP_commonDivisor_12 33 (by decide) (fun c_377 => ?_) (fun c_377 => ?_)
                      · exact absurd c_377 (by decide)
                      · have nc_377 := Int32.not_le.mp c_377
                        refine x_iload_n C d_TP_commonDivisor_15 1 rfl rfl ?_
                        refine x_iload_n C d_TP_commonDivisor_16 0 rfl rfl ?_
                        refine x_irem C d_TP_commonDivisor_17 (by decide) ?_
                        refine x_topi (x' := 1) (by decide) ?_
                        refine x_ifne C d_TP_commonDivisor_18 27 (by decide) (fun c_378 => ?_) (fun c_378 => ?_)
                        · refine x_iinc C d_TP_commonDivisor_27 0 rfl (v := 11) (by decide) (by decide) (lv' := [(2, .int (11)), (0, .int (nI 13)), (1, .int (16))]) rfl ?_
                          refine x_goto C d_TP_commonDivisor_30 10 (by decide) ?_
                          refine x_iload_n C d_TP_commonDivisor_10 0 rfl rfl ?_
                          refine x_iconst C d_TP_commonDivisor_11 (v := 1) (by decide) ?_
                          refine x_icmp_le C d_TP_commonDivisor_12 33 (by decide) (fun c_379 => ?_) (fun c_379 => ?_)
                          · exact absurd c_379 (by decide)
                          · have nc_379 := Int32.not_le.mp c_379
                            refine x_iload_n C d_TP_commonDivisor_15 1 rfl rfl ?_
                            refine x_iload_n C d_TP_commonDivisor_16 0 rfl rfl ?_
                            refine x_irem C d_TP_commonDivisor_17 (by decide) ?_
                            refine x_topi (x' := 2) (by decide) ?_
                            refine x_ifne C d_TP_commonDivisor_18 27 (by decide) (fun c_380 => ?_) (fun c_380 => ?_)
                            · refine x_iinc C d_TP_commonDivisor_27 0 rfl (v := 10) (by decide) (by decide) (lv' := [(2, .int (10)), (0, .int (nI 13)), (1, .int (16))]) rfl ?_
                              refine x_goto C d_TP_commonDivisor_30 10 (by decide) ?_
                              refine x_iload_n C d_TP_commonDivisor_10 0 rfl rfl ?_
                              refine x_iconst C d_TP_commonDivisor_11 (v := 1) (by decide) ?_
                              refine x_icmp_le C d_TP_commonDivisor_12 33 (by decide) (fun c_381 => ?_) (fun c_381 => ?_)
                              · exact absurd c_381 (by decide)
                              · have nc_381 := Int32.not_le.mp c_381
                                refine x_iload_n C d_TP_commonDivisor_15 1 rfl rfl ?_
                                refine x_iload_n C d_TP_commonDivisor_16 0 rfl rfl ?_
                                refine x_irem C d_TP_commonDivisor_17 (by decide) ?_
                                refine x_topi (x' := 3) (by decide) ?_
                                refine x_ifne C d_TP_commonDivisor_18 27 (by decide) (fun c_382 => ?_) (fun c_382 => ?_)
                                · refine x_iinc C d_TP_commonDivisor_27 0 rfl (v := 9) (by decide) (by decide) (lv' := [(2, .int (9)), (0, .int (nI 13)), (1, .int (16))]) rfl ?_
                                  refine x_goto C d_TP_commonDivisor_30 10 (by decide) ?_
                                  refine x_iload_n C d_TP_commonDivisor_10 0 rfl rfl ?_
                                  refine x_iconst C d_TP_commonDivisor_11 (v := 1) (by decide) ?_
                                  refine x_icmp_le C d_TP_commonDivisor_12 33 (by decide) (fun c_383 => ?_) (fun c_383 => ?_)
                                  · exact absurd c_383 (by decide)
                                  · have nc_383 := Int32.not_le.mp c_383
                                    refine x_iload_n C d_TP_commonDivisor_15 1 rfl rfl ?_
                                    refine x_iload_n C d_TP_commonDivisor_16 0 rfl rfl ?_
                                    refine x_irem C d_TP_commonDivisor_17 (by decide) ?_
                                    refine x_topi (x' := 4) (by decide) ?_
                                    refine x_ifne C d_TP_commonDivisor_18 27 (by decide) (fun c_384 => ?_) (fun c_384 => ?_)
                                    · refine x_iinc C d_TP_commonDivisor_27 0 rfl (v := 8) (by decide) (by decide) (lv' := [(2, .int (8)), (0, .int (nI 13)), (1, .int (16))]) rfl ?_
                                      refine x_goto C d_TP_commonDivisor_30 10 (by decide) ?_
                                      refine x_iload_n C d_TP_commonDivisor_10 0 rfl rfl ?_
                                      refine x_iconst C d_TP_commonDivisor_11 (v := 1) (by decide) ?_
                                      refine x_icmp_le C d_TP_commonDivisor_12 33 (by decide) (fun c_385 => ?_) (fun c_385 => ?_)
                                      · exact absurd c_385 (by decide)
                                      · have nc_385 := Int32.not_le.mp c_385
                                        refine x_iload_n C d_TP_commonDivisor_15 1 rfl rfl ?_
                                        refine x_iload_n C d_TP_commonDivisor_16 0 rfl rfl ?_
                                        refine x_irem C d_TP_commonDivisor_17 (by decide) ?_
                                        refine x_topi (x' := 5) (by decide) ?_
                                        refine x_ifne C d_TP_commonDivisor_18 27 (by decide) (fun c_386 => ?_) (fun c_386 => ?_)
                                        · refine x_iinc C d_TP_commonDivisor_27 0 rfl (v := 7) (by decide) (by decide) (lv' := [(2, .int (7)), (0, .int (nI 13)), (1, .int (16))]) rfl ?_
                                          refine x_goto C d_TP_commonDivisor_30 10 (by decide) ?_
                                          refine x_iload_n C d_TP_commonDivisor_10 0 rfl rfl ?_
                                          refine x_iconst C d_TP_commonDivisor_11 (v := 1) (by decide) ?_
                                          refine x_icmp_le C d_TP_commonDivisor_12 33 (by decide) (fun c_387 => ?_) (fun c_387 => ?_)
                                          · exact absurd c_387 (by decide)
                                          · have nc_387 := Int32.not_le.mp c_387
                                            refine x_iload_n C d_TP_commonDivisor_15 1 rfl rfl ?_
                                            refine x_iload_n C d_TP_commonDivisor_16 0 rfl rfl ?_
                                            refine x_irem C d_TP_commonDivisor_17 (by decide) ?_
                                            refine x_topi (x' := 6) (by decide) ?_
                                            refine x_ifne C d_TP_commonDivisor_18 27 (by decide) (fun c_388 => ?_) (fun c_388 => ?_)
                                            · refine x_iinc C d_TP_commonDivisor_27 0 rfl (v := 6) (by decide) (by decide) (lv' := [(2, .int (6)), (0, .int (nI 13)), (1, .int (16))]) rfl ?_
                                              refine x_goto C d_TP_commonDivisor_30 10 (by decide) ?_
                                              refine x_iload_n C d_TP_commonDivisor_10 0 rfl rfl ?_
                                              refine x_iconst C d_TP_commonDivisor_11 (v := 1) (by decide) ?_
                                              refine x_icmp_le C d_TP_commonDivisor_12 33 (by decide) (fun c_389 => ?_) (fun c_389 => ?_)
                                              · exact absurd c_389 (by decide)
                                              · have nc_389 := Int32.not_le.mp c_389
                                                refine x_iload_n C d_TP_commonDivisor_15 1 rfl rfl ?_
                                                refine x_iload_n C d_TP_commonDivisor_16 0 rfl rfl ?_
                                                refine x_irem C d_TP_commonDivisor_17 (by decide) ?_
                                                refine x_topi (x' := 1) (by decide) ?_
                                                refine x_ifne C d_TP_commonDivisor_18 27 (by decide) (fun c_390 => ?_) (fun c_390 => ?_)
                                                · refine x_iinc C d_TP_commonDivisor_27 0 rfl (v := 5) (by decide) (by decide) (lv' := [(2, .int (5)), (0, .int (nI 13)), (1, .int (16))]) rfl ?_
                                                  refine x_goto C d_TP_commonDivisor_30 10 (by decide) ?_
                                                  refine x_iload_n C d_TP_commonDivisor_10 0 rfl rfl ?_
                                                  refine x_iconst C d_TP_commonDivisor_11 (v := 1) (by decide) ?_
                                                  refine x_icmp_le C d_TP_commonDivisor_12 33 (by decide) (fun c_391 => ?_) (fun c_391 => ?_)
                                                  · exact absurd c_391 (by decide)
                                                  · have nc_391 := Int32.not_le.mp c_391
                                                    refine x_iload_n C d_TP_commonDivisor_15 1 rfl rfl ?_
                                                    refine x_iload_n C d_TP_commonDivisor_16 0 rfl rfl ?_
                                                    refine x_irem C d_TP_commonDivisor_17 (by decide) ?_
                                                    refine x_topi (x' := 3) (by decide) ?_
                                                    refine x_ifne C d_TP_commonDivisor_18 27 (by decide) (fun c_392 => ?_) (fun c_392 => ?_)
                                                    · refine x_iinc C d_TP_commonDivisor_27 0 rfl (v := 4) (by decide) (by decide) (lv' := [(2, .int (4)), (0, .int (nI 13)), (1, .int (16))]) rfl ?_
                                                      refine x_goto C d_TP_commonDivisor_30 10 (by decide) ?_
                                                      refine x_iload_n C d_TP_commonDivisor_10 0 rfl rfl ?_
                                                      refine x_iconst C d_TP_commonDivisor_11 (v := 1) (by decide) ?_
                                                      refine x_icmp_le C d_TP_commonDivisor_12 33 (by decide) (fun c_393 => ?_) (fun c_393 => ?_)
                                                      · exact absurd c_393 (by decide)
                                                      · have nc_393 := Int32.not_le.mp c_393
                                                        refine x_iload_n C d_TP_commonDivisor_15 1 rfl rfl ?_
                                                        refine x_iload_n C d_TP_commonDivisor_16 0 rfl rfl ?_
                                                        refine x_irem C d_TP_commonDivisor_17 (by decide) ?_
                                                        refine x_topi (x' := 1) (by decide) ?_
                                                        refine x_ifne C d_TP_commonDivisor_18 27 (by decide) (fun c_394 => ?_) (fun c_394 => ?_)
                                                        · refine x_iinc C d_TP_commonDivisor_27 0 rfl (v := 3) (by decide) (by decide) (lv' := [(2, .int (3)), (0, .int (nI 13)), (1, .int (16))]) rfl ?_
                                                          refine x_goto C d_TP_commonDivisor_30 10 (by decide) ?_
                                                          refine x_iload_n C d_TP_commonDivisor_10 0 rfl rfl ?_
                                                          refine x_iconst C d_TP_commonDivisor_11 (v := 1) (by decide) ?_
                                                          refine x_icmp_le C d_TP_commonDivisor_12 33 (by decide) (fun c_395 => ?_) (fun c_395 => ?_)
                                                          · exact absurd c_395 (by decide)
                                                          · have nc_395 := Int32.not_le.mp c_395
                                                            refine x_iload_n C d_TP_commonDivisor_15 1 rfl rfl ?_
                                                            refine x_iload_n C d_TP_commonDivisor_16 0 rfl rfl ?_
                                                            refine x_irem C d_TP_commonDivisor_17 (by decide) ?_
                                                            refine x_topi (x' := 1) (by decide) ?_
                                                            refine x_ifne C d_TP_commonDivisor_18 27 (by decide) (fun c_396 => ?_) (fun c_396 => ?_)
                                                            · refine x_iinc C d_TP_commonDivisor_27 0 rfl (v := 2) (by decide) (by decide) (lv' := [(2, .int (2)), (0, .int (nI 13)), (1, .int (16))]) rfl ?_
                                                              refine x_goto C d_TP_commonDivisor_30 10 (by decide) ?_
                                                              refine x_iload_n C d_TP_commonDivisor_10 0 rfl rfl ?_
                                                              refine x_iconst C d_TP_commonDivisor_11 (v := 1) (by decide) ?_
                                                              refine x_icmp_le C d_TP_commonDivisor_12 33 (by decide) (fun c_397 => ?_) (fun c_397 => ?_)
                                                              · exact absurd c_397 (by decide)
                                                              · have nc_397 := Int32.not_le.mp c_397
                                                                refine x_iload_n C d_TP_commonDivisor_15 1 rfl rfl ?_
                                                                refine x_iload_n C d_TP_commonDivisor_16 0 rfl rfl ?_
                                                                refine x_irem C d_TP_commonDivisor_17 (by decide) ?_
                                                                refine x_topi (x' := 1) (by decide) ?_
                                                                refine x_ifne C d_TP_commonDivisor_18 27 (by decide) (fun c_398 => ?_) (fun c_398 => ?_)
                                                                · refine x_iinc C d_TP_commonDivisor_27 0 rfl (v := 1) (by decide) (by decide) (lv' := [(2, .int (1)), (0, .int (nI 13)), (1, .int (16))]) rfl ?_
                                                                  refine x_goto C d_TP_commonDivisor_30 10 (by decide) ?_
                                                                  refine x_iload_n C d_TP_commonDivisor_10 0 rfl rfl ?_
                                                                  refine x_iconst C d_TP_commonDivisor_11 (v := 1) (by decide) ?_
                                                                  refine x_icmp_le C d_TP_commonDivisor_12 33 (by decide) (fun c_399 => ?_) (fun c_399 => ?_)
                                                                  · have nc_399 := Int32.not_lt.mpr c_399
                                                                    refine x_iload_n C d_TP_commonDivisor_33 0 rfl rfl ?_
                                                                    exact x_iret C (by decide) rfl d_TP_commonDivisor_34
                                                                  · exact absurd c_399 (by decide)
                                                                · exact absurd c_398 (by decide)
                                                            · exact absurd c_396 (by decide)
                                                        · exact absurd c_394 (by decide)
                                                    · exact absurd c_392 (by decide)
                                                · exact absurd c_390 (by decide)
                                            · exact absurd c_388 (by decide)
                                        · exact absurd c_386 (by decide)
                                    · exact absurd c_384 (by decide)
                                · exact absurd c_382 (by decide)
                            · exact absurd c_380 (by decide)
                        · exact absurd c_378 (by decide)
              · exact absurd c_373 (by decide)
          · exact absurd c_371 (by decide)
      · exact absurd c_369 (by decide)
  · refine x_iconst C d_TP_commonDivisor_0 (v := 1) (by decide) ?_
    refine x_iload_n C d_TP_commonDivisor_1 0 rfl rfl ?_
    refine x_iload_n C d_TP_commonDivisor_2 1 rfl rfl ?_
    refine x_mx C k_549 (Nat.le_of_ble_eq_true rfl) (Nat.le_of_ble_eq_true rfl) d_TP_commonDivisor_3 ?_
    refine x_topi (x' := 16) (by decide) ?_
    refine x_mx C k_549 (Nat.le_of_ble_eq_true rfl) (Nat.le_of_ble_eq_true rfl) d_TP_commonDivisor_6 ?_
    refine x_topi (x' := 16) (by decide) ?_
    refine x_istore_n C d_TP_commonDivisor_9 rfl (by decide) (lv' := [(2, .int (16)), (0, .int (nI 14)), (1, .int (16))]) rfl ?_
    refine x_iload_n C d_TP_commonDivisor_10 0 rfl rfl ?_
    refine x_iconst C d_TP_commonDivisor_11 (v := 1) (by decide) ?_
    refine x_icmp_le C d_TP_commonDivisor_12 33 (by decide) (fun c_400 => ?_) (fun c_400 => ?_)
    · exact absurd c_400 (by decide)
    · have nc_400 := Int32.not_le.mp c_400
      refine x_iload_n C d_TP_commonDivisor_15 1 rfl rfl ?_
      refine x_iload_n C d_TP_commonDivisor_16 0 rfl rfl ?_
      refine x_irem C d_TP_commonDivisor_17 (by decide) ?_
      refine x_topi (x' := 14) (by decide) ?_
      refine x_ifne C d_TP_commonDivisor_18 27 (by decide) (fun c_401 => ?_) (fun c_401 => ?_)
      · refine x_iinc C d_TP_commonDivisor_27 0 rfl (v := 15) (by decide) (by decide) (lv' := [(2, .int (15)), (0, .int (nI 14)), (1, .int (16))]) rfl ?_
        refine x_goto C d_TP_commonDivisor_30 10 (by decide) ?_
        refine x_iload_n C d_TP_commonDivisor_10 0 rfl rfl ?_
        refine x_iconst C d_TP_commonDivisor_11 (v := 1) (by decide) ?_
        refine x_icmp_le C d_TP_commonDivisor_12 33 (by decide) (fun c_402 => ?_) (fun c_402 => ?_)
        · exact absurd c_402 (by decide)
        · have nc_402 := Int32.not_le.mp c_402
          refine x_iload_n C d_TP_commonDivisor_15 1 rfl rfl ?_
          refine x_iload_n C d_TP_commonDivisor_16 0 rfl rfl ?_
          refine x_irem C d_TP_commonDivisor_17 (by decide) ?_
          refine x_topi (x' := 14) (by decide) ?_
          refine x_ifne C d_TP_commonDivisor_18 27 (by decide) (fun c_403 => ?_) (fun c_403 => ?_)
          · refine x_iinc C d_TP_commonDivisor_27 0 rfl (v := 14) (by decide) (by decide) (lv' := [(2, .int (14)), (0, .int (nI 14)), (1, .int (16))]) rfl ?_
            refine x_goto C d_TP_commonDivisor_30 10 (by decide) ?_
            refine x_iload_n C d_TP_commonDivisor_10 0 rfl rfl ?_
            refine x_iconst C d_TP_commonDivisor_11 (v := 1) (by decide) ?_
            refine x_icmp_le C d_TP_commonDivisor_12 33 (by decide) (fun c_404 => ?_) (fun c_404 => ?_)
            · exact absurd c_404 (by decide)
            · have nc_404 := Int32.not_le.mp c_404
              refine x_iload_n C d_TP_commonDivisor_15 1 rfl rfl ?_
              refine x_iload_n C d_TP_commonDivisor_16 0 rfl rfl ?_
              refine x_irem C d_TP_commonDivisor_17 (by decide) ?_
              refine x_topi (x' := 0) (by decide) ?_
              refine x_ifne C d_TP_commonDivisor_18 27 (by decide) (fun c_405 => ?_) (fun c_405 => ?_)
              · exact absurd c_405 (by decide)
              · refine x_iload_n C d_TP_commonDivisor_21 2 rfl rfl ?_
                refine x_iload_n C d_TP_commonDivisor_22 0 rfl rfl ?_
                refine x_irem C d_TP_commonDivisor_23 (by decide) ?_
                refine x_topi (x' := 2) (by decide) ?_
                refine x_ifeq C d_TP_commonDivisor_24 33 (by decide) (fun c_406 => ?_) (fun c_406 => ?_)
                · exact absurd c_406 (by decide)
                · refine x_iinc C d_TP_commonDivisor_27 0 rfl (v := 13) (by decide) (by decide) (lv' := [(2, .int (13)), (0, .int (nI 14)), (1, .int (16))]) rfl ?_
                  refine x_goto C d_TP_commonDivisor_30 10 (by decide) ?_
                  refine x_iload_n C d_TP_commonDivisor_10 0 rfl rfl ?_
                  refine x_iconst C d_TP_commonDivisor_11 (v := 1) (by decide) ?_
                  refine x_icmp_le C d_TP_commonDivisor_12 33 (by decide) (fun c_407 => ?_) (fun c_407 => ?_)
                  · exact absurd c_407 (by decide)
                  · have nc_407 := Int32.not_le.mp c_407
                    refine x_iload_n C d_TP_commonDivisor_15 1 rfl rfl ?_
                    refine x_iload_n C d_TP_commonDivisor_16 0 rfl rfl ?_
                    refine x_irem C d_TP_commonDivisor_17 (by decide) ?_
                    refine x_topi (x' := 1) (by decide) ?_
                    refine x_ifne C d_TP_commonDivisor_18 27 (by decide) (fun c_408 => ?_) (fun c_408 => ?_)
                    · refine x_iinc C d_TP_commonDivisor_27 0 rfl (v := 12) (by decide) (by decide) (lv' := [(2, .int (12)), (0, .int (nI 14)), (1, .int (16))]) rfl ?_
                      refine x_goto C d_TP_commonDivisor_30 10 (by decide) ?_
                      refine x_iload_n C d_TP_commonDivisor_10 0 rfl rfl ?_
                      refine x_iconst C d_TP_commonDivisor_11 (v := 1) (by decide) ?_
                      refine x_icmp_le C d_TP_commonDivisor_12 33 (by decide) (fun c_409 => ?_) (fun c_409 => ?_)
                      · exact absurd c_409 (by decide)
                      · have nc_409 := Int32.not_le.mp c_409
                        refine x_iload_n C d_TP_commonDivisor_15 1 rfl rfl ?_
                        refine x_iload_n C d_TP_commonDivisor_16 0 rfl rfl ?_
                        refine x_irem C d_TP_commonDivisor_17 (by decide) ?_
                        refine x_topi (x' := 2) (by decide) ?_
                        refine x_ifne C d_TP_commonDivisor_18 27 (by decide) (fun c_410 => ?_) (fun c_410 => ?_)
                        · refine x_iinc C d_TP_commonDivisor_27 0 rfl (v := 11) (by decide) (by decide) (lv' := [(2, .int (11)), (0, .int (nI 14)), (1, .int (16))]) rfl ?_
                          refine x_goto C d_TP_commonDivisor_30 10 (by decide) ?_
                          refine x_iload_n C d_TP_commonDivisor_10 0 rfl rfl ?_
                          refine x_iconst C d_TP_commonDivisor_11 (v := 1) (by decide) ?_
                          refine x_icmp_le C d_TP_commonDivisor_12 33 (by decide) (fun c_411 => ?_) (fun c_411 => ?_)
                          · exact absurd c_411 (by decide)
                          · have nc_411 := Int32.not_le.mp c_411
                            refine x_iload_n C d_TP_commonDivisor_15 1 rfl rfl ?_
                            refine x_iload_n C d_TP_commonDivisor_16 0 rfl rfl ?_
                            refine x_irem C d_TP_commonDivisor_17 (by decide) ?_
                            refine x_topi (x' := 3) (by decide) ?_
                            refine x_ifne C d_TP_commonDivisor_18 27 (by decide) (fun c_412 => ?_) (fun c_412 => ?_)
                            · refine x_iinc C d_TP_commonDivisor_27 0 rfl (v := 10) (by decide) (by decide) (lv' := [(2, .int (10)), (0, .int (nI 14)), (1, .int (16))]) rfl ?_
                              refine x_goto C d_TP_commonDivisor_30 10 (by decide) ?_
                              refine x_iload_n C d_TP_commonDivisor_10 0 rfl rfl ?_
                              refine x_iconst C d_TP_commonDivisor_11 (v := 1) (by decide) ?_
                              refine x_icmp_le C d_TP_commonDivisor_12 33 (by decide) (fun c_413 => ?_) (fun c_413 => ?_)
                              · exact absurd c_413 (by decide)
                              · have nc_413 := Int32.not_le.mp c_413
                                refine x_iload_n C d_TP_commonDivisor_15 1 rfl rfl ?_
                                refine x_iload_n C d_TP_commonDivisor_16 0 rfl rfl ?_
                                refine x_irem C d_TP_commonDivisor_17 (by decide) ?_
                                refine x_topi (x' := 4) (by decide) ?_
                                refine x_ifne C d_TP_commonDivisor_18 27 (by decide) (fun c_414 => ?_) (fun c_414 => ?_)
                                · refine x_iinc C d_TP_commonDivisor_27 0 rfl (v := 9) (by decide) (by decide) (lv' := [(2, .int (9)), (0, .int (nI 14)), (1, .int (16))]) rfl ?_
                                  refine x_goto C d_TP_commonDivisor_30 10 (by decide) ?_
                                  refine x_iload_n C d_TP_commonDivisor_10 0 rfl rfl ?_
                                  refine x_iconst C d_TP_commonDivisor_11 (v := 1) (by decide) ?_
                                  refine x_icmp_le C d_TP_commonDivisor_12 33 (by decide) (fun c_415 => ?_) (fun c_415 => ?_)
                                  · exact absurd c_415 (by decide)
                                  · have nc_415 := Int32.not_le.mp c_415
                                    refine x_iload_n C d_TP_commonDivisor_15 1 rfl rfl ?_
                                    refine x_iload_n C d_TP_commonDivisor_16 0 rfl rfl ?_
                                    refine x_irem C d_TP_commonDivisor_17 (by decide) ?_
                                    refine x_topi (x' := 5) (by decide) ?_
                                    refine x_ifne C d_TP_commonDivisor_18 27 (by decide) (fun c_416 => ?_) (fun c_416 => ?_)
                                    · refine x_iinc C d_TP_commonDivisor_27 0 rfl (v := 8) (by decide) (by decide) (lv' := [(2, .int (8)), (0, .int (nI 14)), (1, .int (16))]) rfl ?_
                                      refine x_goto C d_TP_commonDivisor_30 10 (by decide) ?_
                                      refine x_iload_n C d_TP_commonDivisor_10 0 rfl rfl ?_
                                      refine x_iconst C d_TP_commonDivisor_11 (v := 1) (by decide) ?_
                                      refine x_icmp_le C d_TP_commonDivisor_12 33 (by decide) (fun c_417 => ?_) (fun c_417 => ?_)
                                      · exact absurd c_417 (by decide)
                                      · have nc_417 := Int32.not_le.mp c_417
                                        refine x_iload_n C d_TP_commonDivisor_15 1 rfl rfl ?_
                                        refine x_iload_n C d_TP_commonDivisor_16 0 rfl rfl ?_
                                        refine x_irem C d_TP_commonDivisor_17 (by decide) ?_
                                        refine x_topi (x' := 6) (by decide) ?_
                                        refine x_ifne C d_TP_commonDivisor_18 27 (by decide) (fun c_418 => ?_) (fun c_418 => ?_)
                                        · refine x_iinc C d_TP_commonDivisor_27 0 rfl (v := 7) (by decide) (by decide) (lv' := [(2, .int (7)), (0, .int (nI 14)), (1, .int (16))]) rfl ?_
                                          refine x_goto C d_TP_commonDivisor_30 10 (by decide) ?_
                                          refine x_iload_n C d_TP_commonDivisor_10 0 rfl rfl ?_
                                          refine x_iconst C d_TP_commonDivisor_11 (v := 1) (by decide) ?_
                                          refine x_icmp_le C d_TP_commonDivisor_12 33 (by decide) (fun c_419 => ?_) (fun c_419 => ?_)
                                          · exact absurd c_419 (by decide)
                                          · have nc_419 := Int32.not_le.mp c_419
                                            refine x_iload_n C d_TP_commonDivisor_15 1 rfl rfl ?_
                                            refine x_iload_n C d_TP_commonDivisor_16 0 rfl rfl ?_
                                            refine x_irem C d_TP_commonDivisor_17 (by decide) ?_
                                            refine x_topi (x' := 0) (by decide) ?_
                                            refine x_ifne C d_TP_commonDivisor_18 27 (by decide) (fun c_420 => ?_) (fun c_420 => ?_)
                                            · exact absurd c_420 (by decide)
                                            · refine x_iload_n C d_TP_commonDivisor_21 2 rfl rfl ?_
                                              refine x_iload_n C d_TP_commonDivisor_22 0 rfl rfl ?_
                                              refine x_irem C d_TP_commonDivisor_23 (by decide) ?_
                                              refine x_topi (x' := 2) (by decide) ?_
                                              refine x_ifeq C d_TP_commonDivisor_24 33 (by decide) (fun c_421 => ?_) (fun c_421 => ?_)
                                              · exact absurd c_421 (by decide)
                                              · refine x_iinc C d_TP_commonDivisor_27 0 rfl (v := 6) (by decide) (by decide) (lv' := [(2, .int (6)), (0, .int (nI 14)), (1, .int (16))]) rfl ?_
                                                refine x_goto C d_TP_commonDivisor_30 10 (by decide) ?_
                                                refine x_iload_n C d_TP_commonDivisor_10 0 rfl rfl ?_
                                                refine x_iconst C d_TP_commonDivisor_11 (v := 1) (by decide) ?_
                                                refine x_icmp_le C d_TP_commonDivisor_12 33 (by decide) (fun c_422 => ?_) (fun c_422 => ?_)
                                                · exact absurd c_422 (by decide)
                                                · have nc_422 := Int32.not_le.mp c_422
                                                  refine x_iload_n C d_TP_commonDivisor_15 1 rfl rfl ?_
                                                  refine x_iload_n C d_TP_commonDivisor_16 0 rfl rfl ?_
                                                  refine x_irem C d_TP_commonDivisor_17 (by decide) ?_
                                                  refine x_topi (x' := 2) (by decide) ?_
                                                  refine x_ifne C d_TP_commonDivisor_18 27 (by decide) (fun c_423 => ?_) (fun c_423 => ?_)
                                                  · refine x_iinc C d_TP_commonDivisor_27 0 rfl (v := 5) (by decide) (by decide) (lv' := [(2, .int (5)), (0, .int (nI 14)), (1, .int (16))]) rfl ?_
                                                    refine x_goto C d_TP_commonDivisor_30 10 (by decide) ?_
                                                    refine x_iload_n C d_TP_commonDivisor_10 0 rfl rfl ?_
                                                    refine x_iconst C d_TP_commonDivisor_11 (v := 1) (by decide) ?_
                                                    refine x_icmp_le C d_TP_commonDivisor_12 33 (by decide) (fun c_424 => ?_) (fun c_424 => ?_)
                                                    · exact absurd c_424 (by decide)
                                                    · have nc_424 := Int32.not_le.mp c_424
                                                      refine x_iload_n C d_TP_commonDivisor_15 1 rfl rfl ?_
                                                      refine x_iload_n C d_TP_commonDivisor_16 0 rfl rfl ?_
                                                      refine x_irem C d_TP_commonDivisor_17 (by decide) ?_
                                                      refine x_topi (x' := 4) (by decide) ?_
                                                      refine x_ifne C d_TP_commonDivisor_18 27 (by decide) (fun c_425 => ?_) (fun c_425 => ?_)
                                                      · refine x_iinc C d_TP_commonDivisor_27 0 rfl (v := 4) (by decide) (by decide) (lv' := [(2, .int (4)), (0, .int (nI 14)), (1, .int (16))]) rfl ?_
                                                        refine x_goto C d_TP_commonDivisor_30 10 (by decide) ?_
                                                        refine x_iload_n C d_TP_commonDivisor_10 0 rfl rfl ?_
                                                        refine x_iconst C d_TP_commonDivisor_11 (v := 1) (by decide) ?_
                                                        refine x_icmp_le C d_TP_commonDivisor_12 33 (by decide) (fun c_426 => ?_) (fun c_426 => ?_)
                                                        · exact absurd c_426 (by decide)
                                                        · have nc_426 := Int32.not_le.mp c_426
                                                          refine x_iload_n C d_TP_commonDivisor_15 1 rfl rfl ?_
                                                          refine x_iload_n C d_TP_commonDivisor_16 0 rfl rfl ?_
                                                          refine x_irem C d_TP_commonDivisor_17 (by decide) ?_
                                                          refine x_topi (x' := 2) (by decide) ?_
                                                          refine x_ifne C d_TP_commonDivisor_18 27 (by decide) (fun c_427 => ?_) (fun c_427 => ?_)
                                                          · refine x_iinc C d_TP_commonDivisor_27 0 rfl (v := 3) (by decide) (by decide) (lv' := [(2, .int (3)), (0, .int (nI 14)), (1, .int (16))]) rfl ?_
                                                            refine x_goto C d_TP_commonDivisor_30 10 (by decide) ?_
                                                            refine x_iload_n C d_TP_commonDivisor_10 0 rfl rfl ?_
                                                            refine x_iconst C d_TP_commonDivisor_11 (v := 1) (by decide) ?_
                                                            refine x_icmp_le C d_TP_commonDivisor_12 33 (by decide) (fun c_428 => ?_) (fun c_428 => ?_)
                                                            · exact absurd c_428 (by decide)
                                                            · have nc_428 := Int32.not_le.mp c_428
                                                              refine x_iload_n C d_TP_commonDivisor_15 1 rfl rfl ?_
                                                              refine x_iload_n C d_TP_commonDivisor_16 0 rfl rfl ?_
                                                              refine x_irem C d_TP_commonDivisor_17 (by decide) ?_
                                                              refine x_topi (x' := 2) (by decide) ?_
                                                              refine x_ifne C d_TP_commonDivisor_18 27 (by decide) (fun c_429 => ?_) (fun c_429 => ?_)
                                                              · refine x_iinc C d_TP_commonDivisor_27 0 rfl (v := 2) (by decide) (by decide) (lv' := [(2, .int (2)), (0, .int (nI 14)), (1, .int (16))]) rfl ?_
                                                                refine x_goto C d_TP_commonDivisor_30 10 (by decide) ?_
                                                                refine x_iload_n C d_TP_commonDivisor_10 0 rfl rfl ?_
                                                                refine x_iconst C d_TP_commonDivisor_11 (v := 1) (by decide) ?_
                                                                refine x_icmp_le C d_TP_commonDivisor_12 33 (by decide) (fun c_430 => ?_) (fun c_430 => ?_)
                                                                · exact absurd c_430 (by decide)
                                                                · have nc_430 := Int32.not_le.mp c_430
                                                                  refine x_iload_n C d_TP_commonDivisor_15 1 rfl rfl ?_
                                                                  refine x_iload_n C d_TP_commonDivisor_16 0 rfl rfl ?_
                                                                  refine x_irem C d_TP_commonDivisor_17 (by decide) ?_
                                                                  refine x_topi (x' := 0) (by decide) ?_
                                                                  refine x_ifne C d_TP_commonDivisor_18 27 (by decide) (fun c_431 => ?_) (fun c_431 => ?_)
                                                                  · exact absurd c_431 (by decide)
                                                                  · refine x_iload_n C d_TP_commonDivisor_21 2 rfl rfl ?_
                                                                    refine x_iload_n C d_TP_commonDivisor_22 0 rfl rfl ?_
                                                                    refine x_irem C d_TP_commonDivisor_23 (by decide) ?_
                                                                    refine x_topi (x' := 0) (by decide) ?_
                                                                    refine x_ifeq C d_TP_commonDivisor_24 33 (by decide) (fun c_432 => ?_) (fun c_432 => ?_)
                                                                    · refine x_iload_n C d_TP_commonDivisor_33 0 rfl rfl ?_
                                                                      exact x_iret C (by decide) rfl d_TP_commonDivisor_34
                                                                    · exact absurd c_432 (by decide)
                                                              · exact absurd c_429 (by decide)
                                                          · exact absurd c_427 (by decide)
                                                      · exact absurd c_425 (by decide)
                                                  · exact absurd c_423 (by decide)
                                        · exact absurd c_418 (by decide)
                                    · exact absurd c_416 (by decide)
                                · exact absurd c_414 (by decide)
                            · exact absurd c_412 (by decide)
                        · exact absurd c_410 (by decide)
                    · exact absurd c_408 (by decide)
          · exact absurd c_403 (by decide)
      · exact absurd c_401 (by decide)
  · refine x_iconst C d_TP_commonDivisor_0 (v := 1) (by decide) ?_
    refine x_iload_n C d_TP_commonDivisor_1 0 rfl rfl ?_
    refine x_iload_n C d_TP_commonDivisor_2 1 rfl rfl ?_
    refine x_mx C k_549 (Nat.le_of_ble_eq_true rfl) (Nat.le_of_ble_eq_true rfl) d_TP_commonDivisor_3 ?_
    refine x_topi (x' := 16) (by decide) ?_
    refine x_mx C k_549 (Nat.le_of_ble_eq_true rfl) (Nat.le_of_ble_eq_true rfl) d_TP_commonDivisor_6 ?_
    refine x_topi (x' := 16) (by decide) ?_
    refine x_istore_n C d_TP_commonDivisor_9 rfl (by decide) (lv' := [(2, .int (16)), (0, .int (nI 15)), (1, .int (16))]) rfl ?_
    refine x_iload_n C d_TP_commonDivisor_10 0 rfl rfl ?_
    refine x_iconst C d_TP_commonDivisor_11 (v := 1) (by decide) ?_
    refine x_icmp_le C d_TP_commonDivisor_12 33 (by decide) (fun c_433 => ?_) (fun c_433 => ?_)
    · exact absurd c_433 (by decide)
    · have nc_433 := Int32.not_le.mp c_433
      refine x_iload_n C d_TP_commonDivisor_15 1 rfl rfl ?_
      refine x_iload_n C d_TP_commonDivisor_16 0 rfl rfl ?_
      refine x_irem C d_TP_commonDivisor_17 (by decide) ?_
      refine x_topi (x' := 15) (by decide) ?_
      refine x_ifne C d_TP_commonDivisor_18 27 (by decide) (fun c_434 => ?_) (fun c_434 => ?_)
      · refine x_iinc C d_TP_commonDivisor_27 0 rfl (v := 15) (by decide) (by decide) (lv' := [(2, .int (15)), (0, .int (nI 15)), (1, .int (16))]) rfl ?_
        refine x_goto C d_TP_commonDivisor_30 10 (by decide) ?_
        refine x_iload_n C d_TP_commonDivisor_10 0 rfl rfl ?_
        refine x_iconst C d_TP_commonDivisor_11 (v := 1) (by decide) ?_
        refine x_icmp_le C d_TP_commonDivisor_12 33 (by decide) (fun c_435 => ?_) (fun c_435 => ?_)
        · exact absurd c_435 (by decide)
        · have nc_435 := Int32.not_le.mp c_435
          refine x_iload_n C d_TP_commonDivisor_15 1 rfl rfl ?_
          refine x_iload_n C d_TP_commonDivisor_16 0 rfl rfl ?_
          refine x_irem C d_TP_commonDivisor_17 (by decide) ?_
          refine x_topi (x' := 0) (by decide) ?_
          refine x_ifne C d_TP_commonDivisor_18 27 (by decide) (fun c_436 => ?_) (fun c_436 => ?_)
          · exact absurd c_436 (by decide)
          · refine x_iload_n C d_TP_commonDivisor_21 2 rfl rfl ?_
            refine x_iload_n C d_TP_commonDivisor_22 0 rfl rfl ?_
            refine x_irem C d_TP_commonDivisor_23 (by decide) ?_
            refine x_topi (x' := 1) (by decide) ?_
            refine x_ifeq C d_TP_commonDivisor_24 33 (by decide) (fun c_437 => ?_) (fun c_437 => ?_)
            · exact absurd c_437 (by decide)
            · refine x_iinc C d_TP_commonDivisor_27 0 rfl (v := 14) (by decide) (by decide) (lv' := [(2, .int (14)), (0, .int (nI 15)), (1, .int (16))]) rfl ?_
              refine x_goto C d_TP_commonDivisor_30 10 (by decide) ?_
              refine x_iload_n C d_TP_commonDivisor_10 0 rfl rfl ?_
              refine x_iconst C d_TP_commonDivisor_11 (v := 1) (by decide) ?_
              refine x_icmp_le C d_TP_commonDivisor_12 33 (by decide) (fun c_438 => ?_) (fun c_438 => ?_)
              · exact absurd c_438 (by decide)
              · have nc_438 := Int32.not_le.mp c_438
                refine x_iload_n C d_TP_commonDivisor_15 1 rfl rfl ?_
                refine x_iload_n C d_TP_commonDivisor_16 0 rfl rfl ?_
                refine x_irem C d_TP_commonDivisor_17 (by decide) ?_
                refine x_topi (x' := 1) (by decide) ?_
                refine x_ifne C d_TP_commonDivisor_18 27 (by decide) (fun c_439 => ?_) (fun c_439 => ?_)
                · refine x_iinc C d_TP_commonDivisor_27 0 rfl (v := 13) (by decide) (by decide) (lv' := [(2, .int (13)), (0, .int (nI 15)), (1, .int (16))]) rfl ?_
                  refine x_goto C d_TP_commonDivisor_30 10 (by decide) ?_
                  refine x_iload_n C d_TP_commonDivisor_10 0 rfl rfl ?_
                  refine x_iconst C d_TP_commonDivisor_11 (v := 1) (by decide) ?_
                  refine x_icmp_le C d_TP_commonDivisor_12 33 (by decide) (fun c_440 => ?_) (fun c_440 => ?_)
                  · exact absurd c_440 (by decide)
                  · have nc_440 := Int32.not_le.mp c_440
                    refine x_iload_n C d_TP_commonDivisor_15 1 rfl rfl ?_
                    refine x_iload_n C d_TP_commonDivisor_16 0 rfl rfl ?_
                    refine x_irem C d_TP_commonDivisor_17 (by decide) ?_
                    refine x_topi (x' := 2) (by decide) ?_
                    refine x_ifne C d_TP_commonDivisor_18 27 (by decide) (fun c_441 => ?_) (fun c_441 => ?_)
                    · refine x_iinc C d_TP_commonDivisor_27 0 rfl (v := 12) (by decide) (by decide) (lv' := [(2, .int (12)), (0, .int (nI 15)), (1, .int (16))]) rfl ?_
                      refine x_goto C d_TP_commonDivisor_30 10 (by decide) ?_
                      refine x_iload_n C d_TP_commonDivisor_10 0 rfl rfl ?_
                      refine x_iconst C d_TP_commonDivisor_11 (v := 1) (by decide) ?_
                      refine x_icmp_le C d_TP_commonDivisor_12 33 (by decide) (fun c_442 => ?_) (fun c_442 => ?_)
                      · exact absurd c_442 (by decide)
                      · have nc_442 := Int32.not_le.mp c_442
                        refine x_iload_n C d_TP_commonDivisor_15 1 rfl rfl ?_
                        refine x_iload_n C d_TP_commonDivisor_16 0 rfl rfl ?_
                        refine x_irem C d_TP_commonDivisor_17 (by decide) ?_
                        refine x_topi (x' := 3) (by decide) ?_
                        refine x_ifne C d_TP_commonDivisor_18 27 (by decide) (fun c_443 => ?_) (fun c_443 => ?_)
                        · refine x_iinc C d_TP_commonDivisor_27 0 rfl (v := 11) (by decide) (by decide) (lv' := [(2, .int (11)), (0, .int (nI 15)), (1, .int (16))]) rfl ?_
                          refine x_goto C d_TP_commonDivisor_30 10 (by decide) ?_
                          refine x_iload_n C d_TP_commonDivisor_10 0 rfl rfl ?_
                          refine x_iconst C d_TP_commonDivisor_11 (v := 1) (by decide) ?_
                          refine x_icmp_le C d_TP_commonDivisor_12 33 (by decide) (fun c_444 => ?_) (fun c_444 => ?_)
                          · exact absurd c_444 (by decide)
                          · have nc_444 := Int32.not_le.mp c_444
                            refine x_iload_n C d_TP_commonDivisor_15 1 rfl rfl ?_
                            refine x_iload_n C d_TP_commonDivisor_16 0 rfl rfl ?_
                            refine x_irem C d_TP_commonDivisor_17 (by decide) ?_
                            refine x_topi (x' := 4) (by decide) ?_
                            refine x_ifne C d_TP_commonDivisor_18 27 (by decide) (fun c_445 => ?_) (fun c_445 => ?_)
                            · refine x_iinc C d_TP_commonDivisor_27 0 rfl (v := 10) (by decide) (by decide) (lv' := [(2, .int (10)), (0, .int (nI 15)), (1, .int (16))]) rfl ?_
                              refine x_goto C d_TP_commonDivisor_30 10 (by decide) ?_
                              refine x_iload_n C d_TP_commonDivisor_10 0 rfl rfl ?_
                              refine x_iconst C d_TP_commonDivisor_11 (v := 1) (by decide) ?_
                              refine x_icmp_le C d_TP_commonDivisor_12 33 (by decide) (fun c_446 => ?_) (fun c_446 => ?_)
                              · exact absurd c_446 (by decide)
                              · have nc_446 := Int32.not_le.mp c_446
                                refine x_iload_n C d_TP_commonDivisor_15 1 rfl rfl ?_
                                refine x_iload_n C d_TP_commonDivisor_16 0 rfl rfl ?_
                                refine x_irem C d_TP_commonDivisor_17 (by decide) ?_
                                refine x_topi (x' := 5) (by decide) ?_
                                refine x_ifne C d_TP_commonDivisor_18 27 (by decide) (fun c_447 => ?_) (fun c_447 => ?_)
                                · refine x_iinc C d_TP_commonDivisor_27 0 rfl (v := 9) (by decide) (by decide) (lv' := [(2, .int (9)), (0, .int (nI 15)), (1, .int (16))]) rfl ?_
                                  refine x_goto C d_TP_commonDivisor_30 10 (by decide) ?_
                                  refine x_iload_n C d_TP_commonDivisor_10 0 rfl rfl ?_
                                  refine x_iconst C d_TP_commonDivisor_11 (v := 1) (by decide) ?_
                                  refine x_icmp_le C d_TP_commonDivisor_12 33 (by decide) (fun c_448 => ?_) (fun c_448 => ?_)
                                  · exact absurd c_448 (by decide)
                                  · have nc_448 := Int32.not_le.mp c_448
                                    refine x_iload_n C d_TP_commonDivisor_15 1 rfl rfl ?_
                                    refine x_iload_n C d_TP_commonDivisor_16 0 rfl rfl ?_
                                    refine x_irem C d_TP_commonDivisor_17 (by decide) ?_
                                    refine x_topi (x' := 6) (by decide) ?_
                                    refine x_ifne C d_TP_commonDivisor_18 27 (by decide) (fun c_449 => ?_) (fun c_449 => ?_)
                                    · refine x_iinc C d_TP_commonDivisor_27 0 rfl (v := 8) (by decide) (by decide) (lv' := [(2, .int (8)), (0, .int (nI 15)), (1, .int (16))]) rfl ?_
                                      refine x_goto C d_TP_commonDivisor_30 10 (by decide) ?_
                                      refine x_iload_n C d_TP_commonDivisor_10 0 rfl rfl ?_
                                      refine x_iconst C d_TP_commonDivisor_11 (v := 1) (by decide) ?_
                                      refine x_icmp_le C d_TP_commonDivisor_12 33 (by decide) (fun c_450 => ?_) (fun c_450 => ?_)
                                      · exact absurd c_450 (by decide)
                                      · have nc_450 := Int32.not_le.mp c_450
                                        refine x_iload_n C d_TP_commonDivisor_15 1 rfl rfl ?_
                                        refine x_iload_n C d_TP_commonDivisor_16 0 rfl rfl ?_
                                        refine x_irem C d_TP_commonDivisor_17 (by decide) ?_
                                        refine x_topi (x' := 7) (by decide) ?_
                                        refine x_ifne C d_TP_commonDivisor_18 27 (by decide) (fun c_451 => ?_) (fun c_451 => ?_)
                                        · refine x_iinc C d_TP_commonDivisor_27 0 rfl (v := 7) (by decide) (by decide) (lv' := [(2, .int (7)), (0, .int (nI 15)), (1, .int (16))]) rfl ?_
                                          refine x_goto C d_TP_commonDivisor_30 10 (by decide) ?_
                                          refine x_iload_n C d_TP_commonDivisor_10 0 rfl rfl ?_
                                          refine x_iconst C d_TP_commonDivisor_11 (v := 1) (by decide) ?_
                                          refine x_icmp_le C d_TP_commonDivisor_12 33 (by decide) (fun c_452 => ?_) (fun c_452 => ?_)
                                          · exact absurd c_452 (by decide)
                                          · have nc_452 := Int32.not_le.mp c_452
                                            refine x_iload_n C d_TP_commonDivisor_15 1 rfl rfl ?_
                                            refine x_iload_n C d_TP_commonDivisor_16 0 rfl rfl ?_
                                            refine x_irem C d_TP_commonDivisor_17 (by decide) ?_
                                            refine x_topi (x' := 1) (by decide) ?_
                                            refine x_ifne C d_TP_commonDivisor_18 27 (by decide) (fun c_453 => ?_) (fun c_453 => ?_)
                                            · refine x_iinc C d_TP_commonDivisor_27 0 rfl (v := 6) (by decide) (by decide) (lv' := [(2, .int (6)), (0, .int (nI 15)), (1, .int (16))]) rfl ?_
                                              refine x_goto C d_TP_commonDivisor_30 10 (by decide) ?_
                                              refine x_iload_n C d_TP_commonDivisor_10 0 rfl rfl ?_
                                              refine x_iconst C d_TP_commonDivisor_11 (v := 1) (by decide) ?_
                                              refine x_icmp_le C d_TP_commonDivisor_12 33 (by decide) (fun c_454 => ?_) (fun c_454 => ?_)
                                              · exact absurd c_454 (by decide)
                                              · have nc_454 := Int32.not_le.mp c_454
                                                refine x_iload_n C d_TP_commonDivisor_15 1 rfl rfl ?_
                                                refine x_iload_n C d_TP_commonDivisor_16 0 rfl rfl ?_
                                                refine x_irem C d_TP_commonDivisor_17 (by decide) ?_
                                                refine x_topi (x' := 3) (by decide) ?_
                                                refine x_ifne C d_TP_commonDivisor_18 27 (by decide) (fun c_455 => ?_) (fun c_455 => ?_)
                                                · refine x_iinc C d_TP_commonDivisor_27 0 rfl (v := 5) (by decide) (by decide) (lv' := [(2, .int (5)), (0, .int (nI 15)), (1, .int (16))]) rfl ?_
                                                  refine x_goto C d_TP_commonDivisor_30 10 (by decide) ?_
                                                  refine x_iload_n C d_TP_commonDivisor_10 0 rfl rfl ?_
                                                  refine x_iconst C d_TP_commonDivisor_11 (v := 1) (by decide) ?_
                                                  refine x_icmp_le C d_TP_commonDivisor_12 33 (by decide) (fun c_456 => ?_) (fun c_456 => ?_)
                                                  · exact absurd c_456 (by decide)
                                                  · have nc_456 := Int32.not_le.mp c_456
                                                    refine x_iload_n C d_TP_commonDivisor_15 1 rfl rfl ?_
                                                    refine x_iload_n C d_TP_commonDivisor_16 0 rfl rfl ?_
                                                    refine x_irem C d_TP_commonDivisor_17 (by decide) ?_
                                                    refine x_topi (x' := 0) (by decide) ?_
                                                    refine x_ifne C d_TP_commonDivisor_18 27 (by decide) (fun c_457 => ?_) (fun c_457 => ?_)
                                                    · exact absurd c_457 (by decide)
                                                    · refine x_iload_n C d_TP_commonDivisor_21 2 rfl rfl ?_
                                                      refine x_iload_n C d_TP_commonDivisor_22 0 rfl rfl ?_
                                                      refine x_irem C d_TP_commonDivisor_23 (by decide) ?_
                                                      refine x_topi (x' := 1) (by decide) ?_
                                                      refine x_ifeq C d_TP_commonDivisor_24 33 (by decide) (fun c_458 => ?_) (fun c_458 => ?_)
                                                      · exact absurd c_458 (by decide)
                                                      · refine x_iinc C d_TP_commonDivisor_27 0 rfl (v := 4) (by decide) (by decide) (lv' := [(2, .int (4)), (0, .int (nI 15)), (1, .int (16))]) rfl ?_
                                                        refine x_goto C d_TP_commonDivisor_30 10 (by decide) ?_
                                                        refine x_iload_n C d_TP_commonDivisor_10 0 rfl rfl ?_
                                                        refine x_iconst C d_TP_commonDivisor_11 (v := 1) (by decide) ?_
                                                        refine x_icmp_le C d_TP_commonDivisor_12 33 (by decide) (fun c_459 => ?_) (fun c_459 => ?_)
                                                        · exact absurd c_459 (by decide)
                                                        · have nc_459 := Int32.not_le.mp c_459
                                                          refine x_iload_n C d_TP_commonDivisor_15 1 rfl rfl ?_
                                                          refine x_iload_n C d_TP_commonDivisor_16 0 rfl rfl ?_
                                                          refine x_irem C d_TP_commonDivisor_17 (by decide) ?_
                                                          refine x_topi (x' := 3) (by decide) ?_
                                                          refine x_ifne C d_TP_commonDivisor_18 27 (by decide) (fun c_460 => ?_) (fun c_460 => ?_)
                                                          · refine x_iinc C d_TP_commonDivisor_27 0 rfl (v := 3) (by decide) (by decide) (lv' := [(2, .int (3)), (0, .int (nI 15)), (1, .int (16))]) rfl ?_
                                                            refine x_goto C d_TP_commonDivisor_30 10 (by decide) ?_
                                                            refine x_iload_n C d_TP_commonDivisor_10 0 rfl rfl ?_
                                                            refine x_iconst C d_TP_commonDivisor_11 (v := 1) (by decide) ?_
                                                            refine x_icmp_le C d_TP_commonDivisor_12 33 (by decide) (fun c_461 => ?_) (fun c_461 => ?_)
                                                            · exact absurd c_461 (by decide)
                                                            · have nc_461 := Int32.not_le.mp c_461
                                                              refine x_iload_n C d_TP_commonDivisor_15 1 rfl rfl ?_
                                                              refine x_iload_n C d_TP_commonDivisor_16 0 rfl rfl ?_
                                                              refine x_irem C d_TP_commonDivisor_17 (by decide) ?_
                                                              refine x_topi (x' := 0) (by decide) ?_
                                                              refine x_ifne C d_TP_commonDivisor_18 27 (by decide) (fun c_462 => ?_) (fun c_462 => ?_)
                                                              · exact absurd c_462 (by decide)
                                                              · refine x_iload_n C d_TP_commonDivisor_21 2 rfl rfl ?_
                                                                refine x_iload_n C d_TP_commonDivisor_22 0 rfl rfl ?_
                                                                refine x_irem C d_TP_commonDivisor_23 (by decide) ?_
                                                                refine x_topi (x' := 1) (by decide) ?_
                                                                refine x_ifeq C d_TP_commonDivisor_24 33 (by decide) (fun c_463 => ?_) (fun c_463 => ?_)
                                                                · exact absurd c_463 (by decide)
                                                                · refine x_iinc C d_TP_commonDivisor_27 0 rfl (v := 2) (by decide) (by decide) (lv' := [(2, .int (2)), (0, .int (nI 15)), (1, .int (16))]) rfl ?_
                                                                  refine x_goto C d_TP_commonDivisor_30 10 (by decide) ?_
                                                                  refine x_iload_n C d_TP_commonDivisor_10 0 rfl rfl ?_
                                                                  refine x_iconst C d_TP_commonDivisor_11 (v := 1) (by decide) ?_
                                                                  refine x_icmp_le C d_TP_commonDivisor_12 33 (by decide) (fun c_464 => ?_) (fun c_464 => ?_)
                                                                  · exact absurd c_464 (by decide)
                                                                  · have nc_464 := Int32.not_le.mp c_464
                                                                    refine x_iload_n C d_TP_commonDivisor_15 1 rfl rfl ?_
                                                                    refine x_iload_n C d_TP_commonDivisor_16 0 rfl rfl ?_
                                                                    refine x_irem C d_TP_commonDivisor_17 (by decide) ?_
                                                                    refine x_topi (x' := 1) (by decide) ?_
                                                                    refine x_ifne C d_TP_commonDivisor_18 27 (by decide) (fun c_465 => ?_) (fun c_465 => ?_)
                                                                    · refine x_iinc C d_TP_commonDivisor_27 0 rfl (v := 1) (by decide) (by decide) (lv' := [(2, .int (1)), (0, .int (nI 15)), (1, .int (16))]) rfl ?_
                                                                      refine x_goto C d_TP_commonDivisor_30 10 (by decide) ?_
                                                                      refine x_iload_n C d_TP_commonDivisor_10 0 rfl rfl ?_
                                                                      refine x_iconst C d_TP_commonDivisor_11 (v := 1) (by decide) ?_
                                                                      refine x_icmp_le C d_TP_commonDivisor_12 33 (by decide) (fun c_466 => ?_) (fun c_466 => ?_)
                                                                      · have nc_466 := Int32.not_lt.mpr c_466
                                                                        refine x_iload_n C d_TP_commonDivisor_33 0 rfl rfl ?_
                                                                        exact x_iret C (by decide) rfl d_TP_commonDivisor_34
                                                                      · exact absurd c_466 (by decide)
                                                                    · exact absurd c_465 (by decide)
                                                          · exact absurd c_460 (by decide)
                                                · exact absurd c_455 (by decide)
                                            · exact absurd c_453 (by decide)
                                        · exact absurd c_451 (by decide)
                                    · exact absurd c_449 (by decide)
                                · exact absurd c_447 (by decide)
                            · exact absurd c_445 (by decide)
                        · exact absurd c_443 (by decide)
                    · exact absurd c_441 (by decide)
                · exact absurd c_439 (by decide)
      · exact absurd c_434 (by decide)
  · refine x_iconst C d_TP_commonDivisor_0 (v := 1) (by decide) ?_
    refine x_iload_n C d_TP_commonDivisor_1 0 rfl rfl ?_
    refine x_iload_n C d_TP_commonDivisor_2 1 rfl rfl ?_
    refine x_mx C k_549 (Nat.le_of_ble_eq_true rfl) (Nat.le_of_ble_eq_true rfl) d_TP_commonDivisor_3 ?_
    refine x_topi (x' := 16) (by decide) ?_
    refine x_mx C k_549 (Nat.le_of_ble_eq_true rfl) (Nat.le_of_ble_eq_true rfl) d_TP_commonDivisor_6 ?_
    refine x_topi (x' := 16) (by decide) ?_
    refine x_istore_n C d_TP_commonDivisor_9 rfl (by decide) (lv' := [(2, .int (16)), (0, .int (nI 16)), (1, .int (16))]) rfl ?_
    refine x_iload_n C d_TP_commonDivisor_10 0 rfl rfl ?_
    refine x_iconst C d_TP_commonDivisor_11 (v := 1) (by decide) ?_
    refine x_icmp_le C d_TP_commonDivisor_12 33 (by decide) (fun c_467 => ?_) (fun c_467 => ?_)
    · exact absurd c_467 (by decide)
    · have nc_467 := Int32.not_le.mp c_467
      refine x_iload_n C d_TP_commonDivisor_15 1 rfl rfl ?_
      refine x_iload_n C d_TP_commonDivisor_16 0 rfl rfl ?_
      refine x_irem C d_TP_commonDivisor_17 (by decide) ?_
      refine x_topi (x' := 0) (by decide) ?_
      refine x_ifne C d_TP_commonDivisor_18 27 (by decide) (fun c_468 => ?_) (fun c_468 => ?_)
      · exact absurd c_468 (by decide)
      · refine x_iload_n C d_TP_commonDivisor_21 2 rfl rfl ?_
        refine x_iload_n C d_TP_commonDivisor_22 0 rfl rfl ?_
        refine x_irem C d_TP_commonDivisor_23 (by decide) ?_
        refine x_topi (x' := 0) (by decide) ?_
        refine x_ifeq C d_TP_commonDivisor_24 33 (by decide) (fun c_469 => ?_) (fun c_469 => ?_)
        · refine x_iload_n C d_TP_commonDivisor_33 0 rfl rfl ?_
          exact x_iret C (by decide) rfl d_TP_commonDivisor_34
        · exact absurd c_469 (by decide)

set_option maxRecDepth 100000 in
set_option maxHeartbeats 600000 in
theorem c_TP_power (Z : ZT) (b : Int64) (m : Nat) (hm : m < 2 ^ 31) (g : St)  : CT yC Z y_TP_power b_TP_power 6 (some (.long)) 0 0 [.long (b), .int (nI m)] (g) (QcL yC Z (pwN b m) (g)) := by
  refine CT.mk "TunnelPeace" (by decide) rfl (Nat.le_of_ble_eq_true rfl) (fun X C => ?_)
  refine x_lv [0, 1] (lv' := [(0, .long (b)), (2, .int (nI m))]) rfl ?_
  refine x_lconst C d_TP_power_0 (v := 1) (by decide) ?_
  refine x_lstore_n C d_TP_power_1 rfl (by decide) (lv' := [(3, .long (1)), (0, .long (b)), (2, .int (nI m))]) rfl ?_
  refine x_iconst C d_TP_power_2 (v := 0) (by decide) ?_
  refine x_topi (show (0 : Int32) = nI 0 by decide) ?_
  refine x_istore C d_TP_power_3 (by decide) (lv' := [(5, .int (nI 0)), (3, .long (1)), (0, .long (b)), (2, .int (nI m))]) rfl ?_
  have LP_5 : ∀ (f_ i : Nat), i ≤ m → m - i < f_ → WX X 6 yC Z (QX X yC Z (QcL yC Z (pwN b m) (g))) (g) 5 [(5, .int (nI i)), (3, .long (pwN b (i))), (0, .long (b)), (2, .int (nI m))] [] := by
    intro f_
    induction f_ with
    | zero => intro i h1_ h2_; exact absurd h2_ (Nat.not_lt_zero _)
    | succ f_ ih_5 =>
      intro i hi_5 hf_5
      refine x_iload C d_TP_power_5 0 rfl ?_
      refine x_iload_n C d_TP_power_7 3 rfl rfl ?_
      refine x_icmp_ge C d_TP_power_8 21 (by decide) (fun c_1 => ?_) (fun c_1 => ?_)
      · have nc_1 := Int32.not_lt.mpr c_1
        have mc_1 : m ≤ i := (nI_leI (by omega) (by omega)).mp (show nI m ≤ nI i from c_1)
        have e_i : m = i := by omega
        subst e_i
        refine x_lload_n C d_TP_power_21 1 rfl rfl ?_
        exact x_lret C rfl rfl d_TP_power_22
      · have nc_1 := Int32.not_le.mp c_1
        have mc_1 : ¬ m ≤ i := fun z_ => (show ¬ nI m ≤ nI i from c_1) ((nI_leI (by omega) (by omega)).mpr z_)
        refine x_lload_n C d_TP_power_11 1 rfl rfl ?_
        refine x_lload_n C d_TP_power_12 2 rfl rfl ?_
        refine x_lmul C d_TP_power_13 ?_
        refine x_lstore_n C d_TP_power_14 rfl (by decide) (lv' := [(3, .long ((pwN b (i)) * b)), (5, .int (nI i)), (0, .long (b)), (2, .int (nI m))]) rfl ?_
        refine x_iinc C d_TP_power_15 1 rfl (v := nI (i + 1)) (nI_1 _) (by decide) (lv' := [(5, .int (nI (i + 1))), (3, .long ((pwN b (i)) * b)), (0, .long (b)), (2, .int (nI m))]) rfl ?_
        refine x_goto C d_TP_power_18 5 (by decide) ?_
        refine x_lve (lv' := [(5, .int (nI (i + 1))), (3, .long (pwN b (i + 1))), (0, .long (b)), (2, .int (nI m))]) rfl ?_
        exact ih_5 (i + 1) (by omega) (by omega)
  refine x_lve (lv' := [(5, .int (nI 0)), (3, .long (pwN b (0))), (0, .long (b)), (2, .int (nI m))]) rfl ?_
  exact LP_5 (m + 1) 0 (Nat.zero_le _) (by omega)

theorem ctn_le {r : Nat → Int32} {p n c : Nat} : ∃ k, k ≤ c ∧ ctmN r p n c = nI k := by
  induction c with
  | zero => exact ⟨0, Nat.le_refl _, rfl⟩
  | succ c ih =>
    obtain ⟨k, hk, e⟩ := ih
    unfold ctmN
    split
    · exact ⟨k + 1, by omega, by rw [e, nI_1]⟩
    · exact ⟨k, by omega, e⟩
theorem gcd_n0 {k : Nat} (hk : k ≤ 16) : ¬ nI (Nat.gcd k 16) = 0 := by
  have h1 : Nat.gcd k 16 ≤ 16 := Nat.le_of_dvd (by decide) (Nat.gcd_dvd_right k 16)
  have h2 : 0 < Nat.gcd k 16 := Nat.gcd_pos_of_pos_right k (by decide)
  exact nI_ne0 h2 (by omega)

set_option maxRecDepth 100000 in
set_option maxHeartbeats 600000 in
theorem c_TP_odds (Z : ZT) (p m w : Int32) (g : St)  (hk : okR (g 0)) : CT yC Z y_TP_odds b_TP_odds 6 (some (.long)) 3 68 [.ref (Z.2.1 (0)), .int (p), .int (m), .int (w)] (g) (QcL yC Z (if (0 ≤ p ∧ p < g 0 1) ∧ (0 ≤ m ∧ m ≤ 15) ∧ (0 ≤ w ∧ w ≤ 1) then pwN (((if w = 0 then ctmN (g 0) p.toNatClampNeg (sz (g 0)) 16 else 16) / nI (Nat.gcd (ctmN (g 0) p.toNatClampNeg (sz (g 0)) 16).toNatClampNeg 16)).toInt64) m.toNatClampNeg else (-1000001 : Int32).toInt64) (if (0 ≤ p ∧ p < g 0 1) ∧ (0 ≤ m ∧ m ≤ 15) ∧ (0 ≤ w ∧ w ≤ 1) then g else va_up g 16 (fndR (g 16) 0))) := by
  refine CT.mk "TunnelPeace" (by decide) rfl (Nat.le_of_ble_eq_true rfl) (fun X C => ?_)
  refine x_lv [0, 1, 2, 3] (lv' := [(0, .ref (Z.2.1 (0))), (1, .int (p)), (2, .int (m)), (3, .int (w))]) rfl ?_
  have hk0 := hk
  obtain ⟨⟨n, hn8, hn⟩, dd, hdd, hd⟩ := hk
  refine x_aload_n C d_TP_odds_0 0 rfl rfl ?_
  refine gf_TP_tunnel C k_165 d_TP_odds_1 ?_
  refine x_iload_n C d_TP_odds_4 1 rfl rfl ?_
  refine x_callVi C (c_Tu_has Z 0 (by omega) p (g) _ hn) mi_Tu_has k_235 (show 14 + 12 * 0 < 50 by omega) (e_Tu Z 0 _) rfl (As := [.int (p)]) ⟨Nat.le_of_ble_eq_true rfl, Nat.le_of_ble_eq_true rfl⟩ rfl rfl (Nat.le_of_ble_eq_true rfl) d_TP_odds_5 ?_
  refine x_ifeqB C d_TP_odds_8 28 (by decide) (fun c_1 => ?_) (fun c_1 => ?_)
  · refine x_aload_n C d_TP_odds_28 0 rfl rfl ?_
    refine x_ldc C d_TP_odds_29 k_197 ?_
    refine x_callVi C (c_TP_found_0 Z (g) _ rfl) mi_TP_found k_198 (show 0 < 50 by omega) (e_TP Z _) rfl (As := [.int ((-1000001))]) ⟨Nat.le_of_ble_eq_true rfl, Nat.le_of_ble_eq_true rfl⟩ rfl rfl (Nat.le_of_ble_eq_true rfl) d_TP_odds_31 ?_
    refine x_i2l C d_TP_odds_34 ?_
    exact x_lret C (by first | (simp [*, -hd]; done) | (simp [*]; done)) (by first | (simp [*, -hd]; done) | (simp [*]; done)) d_TP_odds_35
  · obtain ⟨pq, hpq, rfl⟩ := in_of c_1 (by omega)
    have hcp : (nI pq).toNatClampNeg = pq := nI_clamp (by omega)
    refine x_iload_n C d_TP_odds_11 2 rfl rfl ?_
    refine x_bipush C d_TP_odds_12 (v := 15) (by decide) ?_
    refine x_callSi C (c_TP_within Z m 15 (g)) mi_TP_within k_194 (As := [.int (m), .int (15)]) ⟨Nat.le_of_ble_eq_true rfl, Nat.le_of_ble_eq_true rfl⟩ rfl rfl (Nat.le_of_ble_eq_true rfl) d_TP_odds_14 ?_
    refine x_ifeqB C d_TP_odds_17 28 (by decide) (fun c_2 => ?_) (fun c_2 => ?_)
    · refine x_aload_n C d_TP_odds_28 0 rfl rfl ?_
      refine x_ldc C d_TP_odds_29 k_197 ?_
      refine x_callVi C (c_TP_found_0 Z (g) _ rfl) mi_TP_found k_198 (show 0 < 50 by omega) (e_TP Z _) rfl (As := [.int ((-1000001))]) ⟨Nat.le_of_ble_eq_true rfl, Nat.le_of_ble_eq_true rfl⟩ rfl rfl (Nat.le_of_ble_eq_true rfl) d_TP_odds_31 ?_
      refine x_i2l C d_TP_odds_34 ?_
      exact x_lret C (by first | (simp [*, -hd]; done) | (simp [*]; done)) (by first | (simp [*, -hd]; done) | (simp [*]; done)) d_TP_odds_35
    · obtain ⟨mq, hmq, rfl⟩ := in_le (n := 15) c_2 (by decide)
      have hcm : (nI mq).toNatClampNeg = mq := nI_clamp (by omega)
      refine x_iload_n C d_TP_odds_20 3 rfl rfl ?_
      refine x_iconst C d_TP_odds_21 (v := 1) (by decide) ?_
      refine x_callSi C (c_TP_within Z w 1 (g)) mi_TP_within k_194 (As := [.int (w), .int (1)]) ⟨Nat.le_of_ble_eq_true rfl, Nat.le_of_ble_eq_true rfl⟩ rfl rfl (Nat.le_of_ble_eq_true rfl) d_TP_odds_22 ?_
      refine x_ifneB C d_TP_odds_25 36 (by decide) (fun c_3 => ?_) (fun c_3 => ?_)
      · refine x_aload_n C d_TP_odds_36 0 rfl rfl ?_
        refine gf_TP_tunnel C k_165 d_TP_odds_37 ?_
        refine x_iload_n C d_TP_odds_40 1 rfl rfl ?_
        refine x_callVi C (c_Tu_cellsToMeetAt Z 0 (by omega) pq (by omega) (g) _ rfl hk0) mi_Tu_cellsToMeetAt k_537 (show 14 + 12 * 0 < 50 by omega) (e_Tu Z 0 _) rfl (As := [.int (nI pq)]) ⟨Nat.le_of_ble_eq_true rfl, Nat.le_of_ble_eq_true rfl⟩ rfl rfl (Nat.le_of_ble_eq_true rfl) d_TP_odds_41 ?_
        refine x_istore C d_TP_odds_44 (by decide) (lv' := [(4, .int (ctmN (g 0) pq (sz (g 0)) 16)), (0, .ref (Z.2.1 (0))), (1, .int (nI pq)), (2, .int (nI mq)), (3, .int (w))]) rfl ?_
        obtain ⟨kk, hkk, ekk⟩ := ctn_le (r := g 0) (p := pq) (n := sz (g 0)) (c := 16)
        have hckk : (nI kk).toNatClampNeg = kk := nI_clamp (by omega)
        refine x_lve (lv' := [(4, .int (nI kk)), (0, .ref (Z.2.1 (0))), (1, .int (nI pq)), (2, .int (nI mq)), (3, .int (w))]) (by rw [ekk]) ?_
        refine x_iload C d_TP_odds_46 0 rfl ?_
        refine x_bipush C d_TP_odds_48 (v := 16) (by decide) ?_
        refine x_callSi C (c_TP_commonDivisor Z kk (by omega) (g)) mi_TP_commonDivisor k_546 (As := [.int (nI kk), .int (16)]) ⟨Nat.le_of_ble_eq_true rfl, Nat.le_of_ble_eq_true rfl⟩ rfl rfl (Nat.le_of_ble_eq_true rfl) d_TP_odds_50 ?_
        refine x_istore C d_TP_odds_53 (by decide) (lv' := [(5, .int (nI (Nat.gcd kk 16))), (4, .int (nI kk)), (0, .ref (Z.2.1 (0))), (1, .int (nI pq)), (2, .int (nI mq)), (3, .int (w))]) rfl ?_
        refine x_iload_n C d_TP_odds_55 5 rfl rfl ?_
        refine x_ifne C d_TP_odds_56 64 (by decide) (fun c_4 => ?_) (fun c_4 => ?_)
        · refine x_bipush C d_TP_odds_64 (v := 16) (by decide) ?_
          refine x_iload C d_TP_odds_66 0 rfl ?_
          refine x_idiv C d_TP_odds_68 (gcd_n0 (by omega)) ?_
          refine x_i2l C d_TP_odds_69 ?_
          refine x_iload_n C d_TP_odds_70 4 rfl rfl ?_
          refine x_callSl C (c_TP_power Z ((16 / (nI (Nat.gcd kk 16))).toInt64) mq (by omega) (g)) mi_TP_power k_550 (As := [.long ((16 / (nI (Nat.gcd kk 16))).toInt64), .int (nI mq)]) ⟨Nat.le_of_ble_eq_true rfl, Nat.le_of_ble_eq_true rfl⟩ rfl rfl (Nat.le_of_ble_eq_true rfl) d_TP_odds_71 ?_
          exact x_lret C (by first | (simp [*, -hd]; done) | (simp [*]; done)) (by first | (simp [*, -hd]; done) | (simp [*]; done)) d_TP_odds_74
        · refine x_iload C d_TP_odds_59 1 rfl ?_
          refine x_goto C d_TP_odds_61 66 (by decide) ?_
          refine x_iload C d_TP_odds_66 0 rfl ?_
          refine x_idiv C d_TP_odds_68 (gcd_n0 (by omega)) ?_
          refine x_i2l C d_TP_odds_69 ?_
          refine x_iload_n C d_TP_odds_70 4 rfl rfl ?_
          refine x_callSl C (c_TP_power Z (((nI kk) / (nI (Nat.gcd kk 16))).toInt64) mq (by omega) (g)) mi_TP_power k_550 (As := [.long (((nI kk) / (nI (Nat.gcd kk 16))).toInt64), .int (nI mq)]) ⟨Nat.le_of_ble_eq_true rfl, Nat.le_of_ble_eq_true rfl⟩ rfl rfl (Nat.le_of_ble_eq_true rfl) d_TP_odds_71 ?_
          exact x_lret C (by first | (simp [*, -hd]; done) | (simp [*]; done)) (by first | (simp [*, -hd]; done) | (simp [*]; done)) d_TP_odds_74
      · refine x_aload_n C d_TP_odds_28 0 rfl rfl ?_
        refine x_ldc C d_TP_odds_29 k_197 ?_
        refine x_callVi C (c_TP_found_0 Z (g) _ rfl) mi_TP_found k_198 (show 0 < 50 by omega) (e_TP Z _) rfl (As := [.int ((-1000001))]) ⟨Nat.le_of_ble_eq_true rfl, Nat.le_of_ble_eq_true rfl⟩ rfl rfl (Nat.le_of_ble_eq_true rfl) d_TP_odds_31 ?_
        refine x_i2l C d_TP_odds_34 ?_
        exact x_lret C (by first | (simp [*, -hd]; done) | (simp [*]; done)) (by first | (simp [*, -hd]; done) | (simp [*]; done)) d_TP_odds_35
