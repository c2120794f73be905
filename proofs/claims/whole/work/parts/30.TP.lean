theorem in_le {x M : Int32} {n : Nat} (h : 0 ≤ x ∧ x ≤ M) (hM : M.toInt = n) : ∃ j, j ≤ n ∧ x = nI j := nI_of2 hM (Int32.not_lt.mpr h.1) h.2
def fndR (r : Nat → Int32) (w : Nat) : Nat → Int32 := upd r w (r w + 1)
theorem kfin {G G' u : St} {ρ : Nat → Int32} (hG : G = G') (h : u = va_up G' 1 ρ) : ∃ ρ : Nat → Int32, u = va_up G 1 ρ := ⟨ρ, by rw [hG]; exact h⟩
theorem va_com {g : St} {a b : Nat} {A B : Nat → Int32} (h : a ≠ b) : va_up (va_up g a A) b B = va_up (va_up g b B) a A := by
  funext j
  unfold va_up
  by_cases h1 : j = a
  · by_cases h2 : j = b
    · exact absurd (h1.symm.trans h2) h
    · simp [h1, h]
  · by_cases h2 : j = b
    · subst h2; simp [h1]
    · simp [h1, h2]
theorem va_idnn {g : St} {a b t : Nat} {A B : Nat → Int32} (h : t ≠ a) (h' : t ≠ b) : va_up (va_up (va_up g a A) b B) t (g t) = va_up (va_up g a A) b B := by
  have := va_idn (g := va_up g a A) (t := b) (t' := t) (R := B) h'
  rw [va_up_ne _ _ h] at this
  exact this
def nowV (r : Nat → Int32) (w : Int32) : Int32 := if w = 0 then r 0 else if w = 1 then r 3 else if w = 2 then sumN r (sz r) else if w = 3 then abrN r (sz r) else if w = 4 then seaN r (sz r) else if w = 5 then celN r (sz r) else if w = 6 then prO (sz r) r (sz r) else oI (mosN r (sz r))
def drsR (r : Nat → Int32) : Nat → Nat → Int32
  | 0 => r
  | k + 1 => drdR (drsR r k)
theorem okR_drs {r : Nat → Int32} (h : okR r) (k : Nat) : okR (drsR r k) := by
  induction k with
  | zero => exact h
  | succ k ih => exact okR_drd ih
def fsN (r : Nat → Int32) : Nat → Int32
  | 0 => 0
  | i + 1 => fsN r i + r i
def pwN (b : Int64) : Nat → Int64
  | 0 => 1
  | i + 1 => pwN b i * b

theorem fa_leI {a b : Int32} : a ≤ b ↔ a.toInt ≤ b.toInt := Int32.le_iff_toInt_le

set_option maxRecDepth 100000 in
set_option maxHeartbeats 600000 in
theorem c_TP_found_0 (Z : ZT)  (g : St)  (r : Nat → Int32) (hr : g 16 = r) : CT yC Z y_TP_found b_TP_found 3 (some (.int)) 1 21 [.ref (Z.2.1 (0)), .int ((-1000001))] (g) (QcI yC Z ((-1000001)) (va_up g 16 (fndR r 0))) := by
  refine CT.mk "TunnelPeace" (by decide) rfl (Nat.le_of_ble_eq_true rfl) (fun X C => ?_)
  refine x_lv [0, 1] (lv' := [(0, .ref (Z.2.1 (0))), (1, .int ((-1000001)))]) rfl ?_
  subst hr
  refine x_ldc C d_TP_found_0 k_197 ?_
  refine x_iload_n C d_TP_found_2 1 rfl rfl ?_
  refine x_isub C d_TP_found_3 ?_
  refine x_topi (x' := nI 0) (by decide) ?_
  refine x_istore_n C d_TP_found_4 rfl (by decide) (lv' := [(2, .int (nI 0)), (0, .ref (Z.2.1 (0))), (1, .int ((-1000001)))]) rfl ?_
  refine x_iload_n C d_TP_found_5 0 rfl rfl ?_
  refine x_bipush C d_TP_found_6 (v := 6) (by decide) ?_
  refine x_callSi C (c_TP_within Z (nI 0) 6 (g)) mi_TP_within k_194 (As := [.int (nI 0), .int (6)]) ⟨Nat.le_of_ble_eq_true rfl, Nat.le_of_ble_eq_true rfl⟩ rfl rfl (Nat.le_of_ble_eq_true rfl) d_TP_found_8 ?_
  refine x_ifeqB C d_TP_found_11 24 (by decide) (fun c_1 => ?_) (fun c_1 => ?_)
  · exact absurd c_1 (by decide)
  · refine x_aload_n C d_TP_found_14 1 rfl rfl ?_
    refine gf_TP_findings C k_172 d_TP_found_15 ?_
    refine x_iload_n C d_TP_found_18 0 rfl rfl ?_
    refine x_dup2 C d_TP_found_19 rfl rfl ?_
    refine al_fi C 0 (v := g 16 0) rfl (by omega) rfl d_TP_found_20 ?_
    refine x_iconst C d_TP_found_21 (v := 1) (by decide) ?_
    refine x_iadd C d_TP_found_22 ?_
    refine as_fi C 0 (v := (g 16 0) + 1) rfl (by omega) (G := va_up g 16 (upd (g 16) 0 ((g 16 0) + 1))) rfl d_TP_found_23 ?_
    refine x_iload_n C d_TP_found_24 2 rfl rfl ?_
    exact x_iret C rfl rfl d_TP_found_25

set_option maxRecDepth 100000 in
set_option maxHeartbeats 600000 in
theorem c_TP_found_1 (Z : ZT)  (g : St)  (r : Nat → Int32) (hr : g 16 = r) : CT yC Z y_TP_found b_TP_found 3 (some (.int)) 1 21 [.ref (Z.2.1 (0)), .int ((-1000002))] (g) (QcI yC Z ((-1000002)) (va_up g 16 (fndR r 1))) := by
  refine CT.mk "TunnelPeace" (by decide) rfl (Nat.le_of_ble_eq_true rfl) (fun X C => ?_)
  refine x_lv [0, 1] (lv' := [(0, .ref (Z.2.1 (0))), (1, .int ((-1000002)))]) rfl ?_
  subst hr
  refine x_ldc C d_TP_found_0 k_197 ?_
  refine x_iload_n C d_TP_found_2 1 rfl rfl ?_
  refine x_isub C d_TP_found_3 ?_
  refine x_topi (x' := nI 1) (by decide) ?_
  refine x_istore_n C d_TP_found_4 rfl (by decide) (lv' := [(2, .int (nI 1)), (0, .ref (Z.2.1 (0))), (1, .int ((-1000002)))]) rfl ?_
  refine x_iload_n C d_TP_found_5 0 rfl rfl ?_
  refine x_bipush C d_TP_found_6 (v := 6) (by decide) ?_
  refine x_callSi C (c_TP_within Z (nI 1) 6 (g)) mi_TP_within k_194 (As := [.int (nI 1), .int (6)]) ⟨Nat.le_of_ble_eq_true rfl, Nat.le_of_ble_eq_true rfl⟩ rfl rfl (Nat.le_of_ble_eq_true rfl) d_TP_found_8 ?_
  refine x_ifeqB C d_TP_found_11 24 (by decide) (fun c_1 => ?_) (fun c_1 => ?_)
  · exact absurd c_1 (by decide)
  · refine x_aload_n C d_TP_found_14 1 rfl rfl ?_
    refine gf_TP_findings C k_172 d_TP_found_15 ?_
    refine x_iload_n C d_TP_found_18 0 rfl rfl ?_
    refine x_dup2 C d_TP_found_19 rfl rfl ?_
    refine al_fi C 1 (v := g 16 1) rfl (by omega) rfl d_TP_found_20 ?_
    refine x_iconst C d_TP_found_21 (v := 1) (by decide) ?_
    refine x_iadd C d_TP_found_22 ?_
    refine as_fi C 1 (v := (g 16 1) + 1) rfl (by omega) (G := va_up g 16 (upd (g 16) 1 ((g 16 1) + 1))) rfl d_TP_found_23 ?_
    refine x_iload_n C d_TP_found_24 2 rfl rfl ?_
    exact x_iret C rfl rfl d_TP_found_25

set_option maxRecDepth 100000 in
set_option maxHeartbeats 600000 in
theorem c_TP_found_2 (Z : ZT)  (g : St)  (r : Nat → Int32) (hr : g 16 = r) : CT yC Z y_TP_found b_TP_found 3 (some (.int)) 1 21 [.ref (Z.2.1 (0)), .int ((-1000003))] (g) (QcI yC Z ((-1000003)) (va_up g 16 (fndR r 2))) := by
  refine CT.mk "TunnelPeace" (by decide) rfl (Nat.le_of_ble_eq_true rfl) (fun X C => ?_)
  refine x_lv [0, 1] (lv' := [(0, .ref (Z.2.1 (0))), (1, .int ((-1000003)))]) rfl ?_
  subst hr
  refine x_ldc C d_TP_found_0 k_197 ?_
  refine x_iload_n C d_TP_found_2 1 rfl rfl ?_
  refine x_isub C d_TP_found_3 ?_
  refine x_topi (x' := nI 2) (by decide) ?_
  refine x_istore_n C d_TP_found_4 rfl (by decide) (lv' := [(2, .int (nI 2)), (0, .ref (Z.2.1 (0))), (1, .int ((-1000003)))]) rfl ?_
  refine x_iload_n C d_TP_found_5 0 rfl rfl ?_
  refine x_bipush C d_TP_found_6 (v := 6) (by decide) ?_
  refine x_callSi C (c_TP_within Z (nI 2) 6 (g)) mi_TP_within k_194 (As := [.int (nI 2), .int (6)]) ⟨Nat.le_of_ble_eq_true rfl, Nat.le_of_ble_eq_true rfl⟩ rfl rfl (Nat.le_of_ble_eq_true rfl) d_TP_found_8 ?_
  refine x_ifeqB C d_TP_found_11 24 (by decide) (fun c_1 => ?_) (fun c_1 => ?_)
  · exact absurd c_1 (by decide)
  · refine x_aload_n C d_TP_found_14 1 rfl rfl ?_
    refine gf_TP_findings C k_172 d_TP_found_15 ?_
    refine x_iload_n C d_TP_found_18 0 rfl rfl ?_
    refine x_dup2 C d_TP_found_19 rfl rfl ?_
    refine al_fi C 2 (v := g 16 2) rfl (by omega) rfl d_TP_found_20 ?_
    refine x_iconst C d_TP_found_21 (v := 1) (by decide) ?_
    refine x_iadd C d_TP_found_22 ?_
    refine as_fi C 2 (v := (g 16 2) + 1) rfl (by omega) (G := va_up g 16 (upd (g 16) 2 ((g 16 2) + 1))) rfl d_TP_found_23 ?_
    refine x_iload_n C d_TP_found_24 2 rfl rfl ?_
    exact x_iret C rfl rfl d_TP_found_25

set_option maxRecDepth 100000 in
set_option maxHeartbeats 600000 in
theorem c_TP_found_3 (Z : ZT)  (g : St)  (r : Nat → Int32) (hr : g 16 = r) : CT yC Z y_TP_found b_TP_found 3 (some (.int)) 1 21 [.ref (Z.2.1 (0)), .int ((-1000004))] (g) (QcI yC Z ((-1000004)) (va_up g 16 (fndR r 3))) := by
  refine CT.mk "TunnelPeace" (by decide) rfl (Nat.le_of_ble_eq_true rfl) (fun X C => ?_)
  refine x_lv [0, 1] (lv' := [(0, .ref (Z.2.1 (0))), (1, .int ((-1000004)))]) rfl ?_
  subst hr
  refine x_ldc C d_TP_found_0 k_197 ?_
  refine x_iload_n C d_TP_found_2 1 rfl rfl ?_
  refine x_isub C d_TP_found_3 ?_
  refine x_topi (x' := nI 3) (by decide) ?_
  refine x_istore_n C d_TP_found_4 rfl (by decide) (lv' := [(2, .int (nI 3)), (0, .ref (Z.2.1 (0))), (1, .int ((-1000004)))]) rfl ?_
  refine x_iload_n C d_TP_found_5 0 rfl rfl ?_
  refine x_bipush C d_TP_found_6 (v := 6) (by decide) ?_
  refine x_callSi C (c_TP_within Z (nI 3) 6 (g)) mi_TP_within k_194 (As := [.int (nI 3), .int (6)]) ⟨Nat.le_of_ble_eq_true rfl, Nat.le_of_ble_eq_true rfl⟩ rfl rfl (Nat.le_of_ble_eq_true rfl) d_TP_found_8 ?_
  refine x_ifeqB C d_TP_found_11 24 (by decide) (fun c_1 => ?_) (fun c_1 => ?_)
  · exact absurd c_1 (by decide)
  · refine x_aload_n C d_TP_found_14 1 rfl rfl ?_
    refine gf_TP_findings C k_172 d_TP_found_15 ?_
    refine x_iload_n C d_TP_found_18 0 rfl rfl ?_
    refine x_dup2 C d_TP_found_19 rfl rfl ?_
    refine al_fi C 3 (v := g 16 3) rfl (by omega) rfl d_TP_found_20 ?_
    refine x_iconst C d_TP_found_21 (v := 1) (by decide) ?_
    refine x_iadd C d_TP_found_22 ?_
    refine as_fi C 3 (v := (g 16 3) + 1) rfl (by omega) (G := va_up g 16 (upd (g 16) 3 ((g 16 3) + 1))) rfl d_TP_found_23 ?_
    refine x_iload_n C d_TP_found_24 2 rfl rfl ?_
    exact x_iret C rfl rfl d_TP_found_25

set_option maxRecDepth 100000 in
set_option maxHeartbeats 600000 in
theorem c_TP_found_4 (Z : ZT)  (g : St)  (r : Nat → Int32) (hr : g 16 = r) : CT yC Z y_TP_found b_TP_found 3 (some (.int)) 1 21 [.ref (Z.2.1 (0)), .int ((-1000005))] (g) (QcI yC Z ((-1000005)) (va_up g 16 (fndR r 4))) := by
  refine CT.mk "TunnelPeace" (by decide) rfl (Nat.le_of_ble_eq_true rfl) (fun X C => ?_)
  refine x_lv [0, 1] (lv' := [(0, .ref (Z.2.1 (0))), (1, .int ((-1000005)))]) rfl ?_
  subst hr
  refine x_ldc C d_TP_found_0 k_197 ?_
  refine x_iload_n C d_TP_found_2 1 rfl rfl ?_
  refine x_isub C d_TP_found_3 ?_
  refine x_topi (x' := nI 4) (by decide) ?_
  refine x_istore_n C d_TP_found_4 rfl (by decide) (lv' := [(2, .int (nI 4)), (0, .ref (Z.2.1 (0))), (1, .int ((-1000005)))]) rfl ?_
  refine x_iload_n C d_TP_found_5 0 rfl rfl ?_
  refine x_bipush C d_TP_found_6 (v := 6) (by decide) ?_
  refine x_callSi C (c_TP_within Z (nI 4) 6 (g)) mi_TP_within k_194 (As := [.int (nI 4), .int (6)]) ⟨Nat.le_of_ble_eq_true rfl, Nat.le_of_ble_eq_true rfl⟩ rfl rfl (Nat.le_of_ble_eq_true rfl) d_TP_found_8 ?_
  refine x_ifeqB C d_TP_found_11 24 (by decide) (fun c_1 => ?_) (fun c_1 => ?_)
  · exact absurd c_1 (by decide)
  · refine x_aload_n C d_TP_found_14 1 rfl rfl ?_
    refine gf_TP_findings C k_172 d_TP_found_15 ?_
    refine x_iload_n C d_TP_found_18 0 rfl rfl ?_
    refine x_dup2 C d_TP_found_19 rfl rfl ?_
    refine al_fi C 4 (v := g 16 4) rfl (by omega) rfl d_TP_found_20 ?_
    refine x_iconst C d_TP_found_21 (v := 1) (by decide) ?_
    refine x_iadd C d_TP_found_22 ?_
    refine as_fi C 4 (v := (g 16 4) + 1) rfl (by omega) (G := va_up g 16 (upd (g 16) 4 ((g 16 4) + 1))) rfl d_TP_found_23 ?_
    refine x_iload_n C d_TP_found_24 2 rfl rfl ?_
    exact x_iret C rfl rfl d_TP_found_25

set_option maxRecDepth 100000 in
set_option maxHeartbeats 600000 in
theorem c_TP_found_5 (Z : ZT)  (g : St)  (r : Nat → Int32) (hr : g 16 = r) : CT yC Z y_TP_found b_TP_found 3 (some (.int)) 1 21 [.ref (Z.2.1 (0)), .int ((-1000006))] (g) (QcI yC Z ((-1000006)) (va_up g 16 (fndR r 5))) := by
  refine CT.mk "TunnelPeace" (by decide) rfl (Nat.le_of_ble_eq_true rfl) (fun X C => ?_)
  refine x_lv [0, 1] (lv' := [(0, .ref (Z.2.1 (0))), (1, .int ((-1000006)))]) rfl ?_
  subst hr
  refine x_ldc C d_TP_found_0 k_197 ?_
  refine x_iload_n C d_TP_found_2 1 rfl rfl ?_
  refine x_isub C d_TP_found_3 ?_
  refine x_topi (x' := nI 5) (by decide) ?_
  refine x_istore_n C d_TP_found_4 rfl (by decide) (lv' := [(2, .int (nI 5)), (0, .ref (Z.2.1 (0))), (1, .int ((-1000006)))]) rfl ?_
  refine x_iload_n C d_TP_found_5 0 rfl rfl ?_
  refine x_bipush C d_TP_found_6 (v := 6) (by decide) ?_
  refine x_callSi C (c_TP_within Z (nI 5) 6 (g)) mi_TP_within k_194 (As := [.int (nI 5), .int (6)]) ⟨Nat.le_of_ble_eq_true rfl, Nat.le_of_ble_eq_true rfl⟩ rfl rfl (Nat.le_of_ble_eq_true rfl) d_TP_found_8 ?_
  refine x_ifeqB C d_TP_found_11 24 (by decide) (fun c_1 => ?_) (fun c_1 => ?_)
  · exact absurd c_1 (by decide)
  · refine x_aload_n C d_TP_found_14 1 rfl rfl ?_
    refine gf_TP_findings C k_172 d_TP_found_15 ?_
    refine x_iload_n C d_TP_found_18 0 rfl rfl ?_
    refine x_dup2 C d_TP_found_19 rfl rfl ?_
    refine al_fi C 5 (v := g 16 5) rfl (by omega) rfl d_TP_found_20 ?_
    refine x_iconst C d_TP_found_21 (v := 1) (by decide) ?_
    refine x_iadd C d_TP_found_22 ?_
    refine as_fi C 5 (v := (g 16 5) + 1) rfl (by omega) (G := va_up g 16 (upd (g 16) 5 ((g 16 5) + 1))) rfl d_TP_found_23 ?_
    refine x_iload_n C d_TP_found_24 2 rfl rfl ?_
    exact x_iret C rfl rfl d_TP_found_25

set_option maxRecDepth 100000 in
set_option maxHeartbeats 600000 in
theorem c_TP_found_6 (Z : ZT)  (g : St)  (r : Nat → Int32) (hr : g 16 = r) : CT yC Z y_TP_found b_TP_found 3 (some (.int)) 1 21 [.ref (Z.2.1 (0)), .int ((-1000007))] (g) (QcI yC Z ((-1000007)) (va_up g 16 (fndR r 6))) := by
  refine CT.mk "TunnelPeace" (by decide) rfl (Nat.le_of_ble_eq_true rfl) (fun X C => ?_)
  refine x_lv [0, 1] (lv' := [(0, .ref (Z.2.1 (0))), (1, .int ((-1000007)))]) rfl ?_
  subst hr
  refine x_ldc C d_TP_found_0 k_197 ?_
  refine x_iload_n C d_TP_found_2 1 rfl rfl ?_
  refine x_isub C d_TP_found_3 ?_
  refine x_topi (x' := nI 6) (by decide) ?_
  refine x_istore_n C d_TP_found_4 rfl (by decide) (lv' := [(2, .int (nI 6)), (0, .ref (Z.2.1 (0))), (1, .int ((-1000007)))]) rfl ?_
  refine x_iload_n C d_TP_found_5 0 rfl rfl ?_
  refine x_bipush C d_TP_found_6 (v := 6) (by decide) ?_
  refine x_callSi C (c_TP_within Z (nI 6) 6 (g)) mi_TP_within k_194 (As := [.int (nI 6), .int (6)]) ⟨Nat.le_of_ble_eq_true rfl, Nat.le_of_ble_eq_true rfl⟩ rfl rfl (Nat.le_of_ble_eq_true rfl) d_TP_found_8 ?_
  refine x_ifeqB C d_TP_found_11 24 (by decide) (fun c_1 => ?_) (fun c_1 => ?_)
  · exact absurd c_1 (by decide)
  · refine x_aload_n C d_TP_found_14 1 rfl rfl ?_
    refine gf_TP_findings C k_172 d_TP_found_15 ?_
    refine x_iload_n C d_TP_found_18 0 rfl rfl ?_
    refine x_dup2 C d_TP_found_19 rfl rfl ?_
    refine al_fi C 6 (v := g 16 6) rfl (by omega) rfl d_TP_found_20 ?_
    refine x_iconst C d_TP_found_21 (v := 1) (by decide) ?_
    refine x_iadd C d_TP_found_22 ?_
    refine as_fi C 6 (v := (g 16 6) + 1) rfl (by omega) (G := va_up g 16 (upd (g 16) 6 ((g 16 6) + 1))) rfl d_TP_found_23 ?_
    refine x_iload_n C d_TP_found_24 2 rfl rfl ?_
    exact x_iret C rfl rfl d_TP_found_25

set_option maxRecDepth 100000 in
set_option maxHeartbeats 600000 in
theorem c_TP_guns (Z : ZT) (v : Int32) (g : St)  (hk : okR (g 0)) : CT yC Z y_TP_guns b_TP_guns 3 (some (.int)) 2 43 [.ref (Z.2.1 (0)), .int (v)] (g) (QkI yC Z (if (0 ≤ v ∧ v ≤ 99) then g 0 3 else (-1000001)) (fun u => ∃ ρ : Nat → Int32, u = va_up (if (0 ≤ v ∧ v ≤ 99) then va_up g 0 (upd (g 0) 3 v) else va_up g 16 (fndR (g 16) 0)) 1 ρ)) := by
  refine CT.mk "TunnelPeace" (by decide) rfl (Nat.le_of_ble_eq_true rfl) (fun X C => ?_)
  refine x_lv [0, 1] (lv' := [(0, .ref (Z.2.1 (0))), (1, .int (v))]) rfl ?_
  have hk0 := hk
  obtain ⟨⟨n, hn8, hn⟩, dd, hdd, hd⟩ := hk
  refine x_iload_n C d_TP_guns_0 1 rfl rfl ?_
  refine x_bipush C d_TP_guns_1 (v := 99) (by decide) ?_
  refine x_callSi C (c_TP_within Z v 99 (g)) mi_TP_within k_194 (As := [.int (v), .int (99)]) ⟨Nat.le_of_ble_eq_true rfl, Nat.le_of_ble_eq_true rfl⟩ rfl rfl (Nat.le_of_ble_eq_true rfl) d_TP_guns_3 ?_
  refine x_ifneB C d_TP_guns_6 16 (by decide) (fun c_1 => ?_) (fun c_1 => ?_)
  · refine x_aload_n C d_TP_guns_16 0 rfl rfl ?_
    refine gf_TP_tunnel C k_165 d_TP_guns_17 ?_
    refine gf_Tu_guns C (by omega) (v := g 0 3) rfl k_69 d_TP_guns_20 ?_
    refine x_istore_n C d_TP_guns_23 rfl (by decide) (lv' := [(2, .int (g 0 3)), (0, .ref (Z.2.1 (0))), (1, .int (v))]) rfl ?_
    refine x_aload_n C d_TP_guns_24 1 rfl rfl ?_
    refine gf_TP_tunnel C k_165 d_TP_guns_25 ?_
    refine x_iload_n C d_TP_guns_28 2 rfl rfl ?_
    refine pf_Tu_guns C (by omega) (v := v) (G := va_up g 0 (upd (g 0) 3 v)) rfl k_69 d_TP_guns_29 ?_
    refine x_iload_n C d_TP_guns_32 0 rfl rfl ?_
    exact x_iretK C (by first | with_reducible rfl | (simp [*]; done) | (simp_all; done)) (kfin (G' := va_up g 0 (upd (g 0) 3 v)) (by first | with_reducible rfl | (simp [*]; done) | (simp_all; done)) (va_idn (by omega)).symm) d_TP_guns_33
  · refine x_aload_n C d_TP_guns_9 0 rfl rfl ?_
    refine x_ldc C d_TP_guns_10 k_197 ?_
    refine x_callVi C (c_TP_found_0 Z (g) _ rfl) mi_TP_found k_198 (show 0 < 50 by omega) (e_TP Z _) rfl (As := [.int ((-1000001))]) ⟨Nat.le_of_ble_eq_true rfl, Nat.le_of_ble_eq_true rfl⟩ rfl rfl (Nat.le_of_ble_eq_true rfl) d_TP_guns_12 ?_
    exact x_iretK C (by first | with_reducible rfl | (simp [*]; done) | (simp_all; done)) (kfin (G' := va_up g 16 (fndR (g 16) 0)) (by first | with_reducible rfl | (simp [*]; done) | (simp_all; done)) (va_idn (by omega)).symm) d_TP_guns_15

set_option maxRecDepth 100000 in
set_option maxHeartbeats 600000 in
theorem c_TP_place (Z : ZT) (i c : Int32) (g : St)  (hk : okR (g 0)) : CT yC Z y_TP_place b_TP_place 4 (some (.int)) 2 43 [.ref (Z.2.1 (0)), .int (i), .int (c)] (g) (QkI yC Z (if (0 ≤ i ∧ i ≤ 5) ∧ (0 ≤ c ∧ c ≤ 15) then g 0 (4 + i.toNatClampNeg) else (-1000001)) (fun u => ∃ ρ : Nat → Int32, u = va_up (if (0 ≤ i ∧ i ≤ 5) ∧ (0 ≤ c ∧ c ≤ 15) then va_up g 0 (upd (g 0) (4 + i.toNatClampNeg) c) else va_up g 16 (fndR (g 16) 0)) 1 ρ)) := by
  refine CT.mk "TunnelPeace" (by decide) rfl (Nat.le_of_ble_eq_true rfl) (fun X C => ?_)
  refine x_lv [0, 1, 2] (lv' := [(0, .ref (Z.2.1 (0))), (1, .int (i)), (2, .int (c))]) rfl ?_
  have hk0 := hk
  obtain ⟨⟨n, hn8, hn⟩, dd, hdd, hd⟩ := hk
  refine x_iload_n C d_TP_place_0 1 rfl rfl ?_
  refine x_iconst C d_TP_place_1 (v := 5) (by decide) ?_
  refine x_callSi C (c_TP_within Z i 5 (g)) mi_TP_within k_194 (As := [.int (i), .int (5)]) ⟨Nat.le_of_ble_eq_true rfl, Nat.le_of_ble_eq_true rfl⟩ rfl rfl (Nat.le_of_ble_eq_true rfl) d_TP_place_2 ?_
  refine x_ifeqB C d_TP_place_5 17 (by decide) (fun c_1 => ?_) (fun c_1 => ?_)
  · refine x_aload_n C d_TP_place_17 0 rfl rfl ?_
    refine x_ldc C d_TP_place_18 k_197 ?_
    refine x_callVi C (c_TP_found_0 Z (g) _ rfl) mi_TP_found k_198 (show 0 < 50 by omega) (e_TP Z _) rfl (As := [.int ((-1000001))]) ⟨Nat.le_of_ble_eq_true rfl, Nat.le_of_ble_eq_true rfl⟩ rfl rfl (Nat.le_of_ble_eq_true rfl) d_TP_place_20 ?_
    exact x_iretK C (by first | with_reducible rfl | (simp [*]; done) | (simp_all; done)) (kfin (G' := va_up g 16 (fndR (g 16) 0)) (by first | with_reducible rfl | (simp [*]; done) | (simp_all; done)) (va_idn (by omega)).symm) d_TP_place_23
  · obtain ⟨iq, hiq, rfl⟩ := in_le (n := 5) c_1 (by decide)
    have hci : (nI iq).toNatClampNeg = iq := nI_clamp (by omega)
    refine x_iload_n C d_TP_place_8 2 rfl rfl ?_
    refine x_bipush C d_TP_place_9 (v := 15) (by decide) ?_
    refine x_callSi C (c_TP_within Z c 15 (g)) mi_TP_within k_194 (As := [.int (c), .int (15)]) ⟨Nat.le_of_ble_eq_true rfl, Nat.le_of_ble_eq_true rfl⟩ rfl rfl (Nat.le_of_ble_eq_true rfl) d_TP_place_11 ?_
    refine x_ifneB C d_TP_place_14 24 (by decide) (fun c_2 => ?_) (fun c_2 => ?_)
    · refine x_aload_n C d_TP_place_24 0 rfl rfl ?_
      refine gf_TP_tunnel C k_165 d_TP_place_25 ?_
      refine gf_Tu_list C (by omega) k_78 d_TP_place_28 ?_
      refine x_iload_n C d_TP_place_31 1 rfl rfl ?_
      refine al_li C (by omega) iq (v := g 0 (4 + iq)) rfl (by omega) rfl d_TP_place_32 ?_
      refine x_istore_n C d_TP_place_33 rfl (by decide) (lv' := [(3, .int (g 0 (4 + iq))), (0, .ref (Z.2.1 (0))), (1, .int (nI iq)), (2, .int (c))]) rfl ?_
      refine x_aload_n C d_TP_place_34 1 rfl rfl ?_
      refine gf_TP_tunnel C k_165 d_TP_place_35 ?_
      refine gf_Tu_list C (by omega) k_78 d_TP_place_38 ?_
      refine x_iload_n C d_TP_place_41 2 rfl rfl ?_
      refine x_iload_n C d_TP_place_42 3 rfl rfl ?_
      refine as_li C (by omega) iq (v := c) rfl (by omega) (G := va_up g 0 (upd (g 0) (4 + iq) c)) rfl d_TP_place_43 ?_
      refine x_iload_n C d_TP_place_44 0 rfl rfl ?_
      exact x_iretK C (by first | with_reducible rfl | (simp [*]; done) | (simp_all; done)) (kfin (G' := va_up g 0 (upd (g 0) (4 + iq) c)) (by first | with_reducible rfl | (simp [*]; done) | (simp_all; done)) (va_idn (by omega)).symm) d_TP_place_45
    · refine x_aload_n C d_TP_place_17 0 rfl rfl ?_
      refine x_ldc C d_TP_place_18 k_197 ?_
      refine x_callVi C (c_TP_found_0 Z (g) _ rfl) mi_TP_found k_198 (show 0 < 50 by omega) (e_TP Z _) rfl (As := [.int ((-1000001))]) ⟨Nat.le_of_ble_eq_true rfl, Nat.le_of_ble_eq_true rfl⟩ rfl rfl (Nat.le_of_ble_eq_true rfl) d_TP_place_20 ?_
      exact x_iretK C (by first | with_reducible rfl | (simp [*]; done) | (simp_all; done)) (kfin (G' := va_up g 16 (fndR (g 16) 0)) (by first | with_reducible rfl | (simp [*]; done) | (simp_all; done)) (va_idn (by omega)).symm) d_TP_place_23

set_option maxRecDepth 100000 in
set_option maxHeartbeats 600000 in
theorem c_TP_listed (Z : ZT) (i : Int32) (g : St)  (hk : okR (g 0)) : CT yC Z y_TP_listed b_TP_listed 2 (some (.int)) 2 43 [.ref (Z.2.1 (0)), .int (i)] (g) (QkI yC Z (if (0 ≤ i ∧ i ≤ 5) then g 0 (4 + i.toNatClampNeg) else (-1000001)) (fun u => ∃ ρ : Nat → Int32, u = va_up (if (0 ≤ i ∧ i ≤ 5) then g else va_up g 16 (fndR (g 16) 0)) 1 ρ)) := by
  refine CT.mk "TunnelPeace" (by decide) rfl (Nat.le_of_ble_eq_true rfl) (fun X C => ?_)
  refine x_lv [0, 1] (lv' := [(0, .ref (Z.2.1 (0))), (1, .int (i))]) rfl ?_
  have hk0 := hk
  obtain ⟨⟨n, hn8, hn⟩, dd, hdd, hd⟩ := hk
  refine x_iload_n C d_TP_listed_0 1 rfl rfl ?_
  refine x_iconst C d_TP_listed_1 (v := 5) (by decide) ?_
  refine x_callSi C (c_TP_within Z i 5 (g)) mi_TP_within k_194 (As := [.int (i), .int (5)]) ⟨Nat.le_of_ble_eq_true rfl, Nat.le_of_ble_eq_true rfl⟩ rfl rfl (Nat.le_of_ble_eq_true rfl) d_TP_listed_2 ?_
  refine x_ifeqB C d_TP_listed_5 20 (by decide) (fun c_1 => ?_) (fun c_1 => ?_)
  · refine x_aload_n C d_TP_listed_20 0 rfl rfl ?_
    refine x_ldc C d_TP_listed_21 k_197 ?_
    refine x_callVi C (c_TP_found_0 Z (g) _ rfl) mi_TP_found k_198 (show 0 < 50 by omega) (e_TP Z _) rfl (As := [.int ((-1000001))]) ⟨Nat.le_of_ble_eq_true rfl, Nat.le_of_ble_eq_true rfl⟩ rfl rfl (Nat.le_of_ble_eq_true rfl) d_TP_listed_23 ?_
    exact x_iretK C (by first | with_reducible rfl | (simp [*]; done) | (simp_all; done)) (kfin (G' := va_up g 16 (fndR (g 16) 0)) (by first | with_reducible rfl | (simp [*]; done) | (simp_all; done)) (va_idn (by omega)).symm) d_TP_listed_26
  · obtain ⟨iq, hiq, rfl⟩ := in_le (n := 5) c_1 (by decide)
    have hci : (nI iq).toNatClampNeg = iq := nI_clamp (by omega)
    refine x_aload_n C d_TP_listed_8 0 rfl rfl ?_
    refine gf_TP_tunnel C k_165 d_TP_listed_9 ?_
    refine gf_Tu_list C (by omega) k_78 d_TP_listed_12 ?_
    refine x_iload_n C d_TP_listed_15 1 rfl rfl ?_
    refine al_li C (by omega) iq (v := g 0 (4 + iq)) rfl (by omega) rfl d_TP_listed_16 ?_
    refine x_goto C d_TP_listed_17 26 (by decide) ?_
    exact x_iretK C (by first | with_reducible rfl | (simp [*]; done) | (simp_all; done)) (kfin (G' := g) (by first | with_reducible rfl | (simp [*]; done) | (simp_all; done)) (va_id g 1).symm) d_TP_listed_26

set_option maxRecDepth 100000 in
set_option maxHeartbeats 600000 in
theorem c_TP_person (Z : ZT) (k s : Int32) (g : St)  (hk : okR (g 0)) : CT yC Z y_TP_person b_TP_person 3 (some (.int)) 3 64 [.ref (Z.2.1 (0)), .int (k), .int (s)] (g) (QkI yC Z (if ¬ ((0 ≤ k ∧ k ≤ 6) ∧ (0 ≤ s ∧ s ≤ 1)) then (-1000001) else if 8 ≤ g 0 1 then (-1000002) else nI (sz (g 0))) (fun u => ∃ ρ : Nat → Int32, u = va_up (if ¬ ((0 ≤ k ∧ k ≤ 6) ∧ (0 ≤ s ∧ s ≤ 1)) then va_up g 16 (fndR (g 16) 0) else if 8 ≤ g 0 1 then va_up g 16 (fndR (g 16) 1) else va_up g 0 (addR (g 0) k s)) 1 ρ)) := by
  refine CT.mk "TunnelPeace" (by decide) rfl (Nat.le_of_ble_eq_true rfl) (fun X C => ?_)
  refine x_lv [0, 1, 2] (lv' := [(0, .ref (Z.2.1 (0))), (1, .int (k)), (2, .int (s))]) rfl ?_
  have hk0 := hk
  obtain ⟨⟨n, hn8, hn⟩, dd, hdd, hd⟩ := hk
  refine x_iload_n C d_TP_person_0 1 rfl rfl ?_
  refine x_bipush C d_TP_person_1 (v := 6) (by decide) ?_
  refine x_callSi C (c_TP_within Z k 6 (g)) mi_TP_within k_194 (As := [.int (k), .int (6)]) ⟨Nat.le_of_ble_eq_true rfl, Nat.le_of_ble_eq_true rfl⟩ rfl rfl (Nat.le_of_ble_eq_true rfl) d_TP_person_3 ?_
  refine x_ifeqB C d_TP_person_6 17 (by decide) (fun c_1 => ?_) (fun c_1 => ?_)
  · refine x_aload_n C d_TP_person_17 0 rfl rfl ?_
    refine x_ldc C d_TP_person_18 k_197 ?_
    refine x_callVi C (c_TP_found_0 Z (g) _ rfl) mi_TP_found k_198 (show 0 < 50 by omega) (e_TP Z _) rfl (As := [.int ((-1000001))]) ⟨Nat.le_of_ble_eq_true rfl, Nat.le_of_ble_eq_true rfl⟩ rfl rfl (Nat.le_of_ble_eq_true rfl) d_TP_person_20 ?_
    exact x_iretK C (by first | with_reducible rfl | (simp [*]; done) | (simp_all; done)) (kfin (G' := va_up g 16 (fndR (g 16) 0)) (by first | with_reducible rfl | (simp [*]; done) | (simp_all; done)) (va_idn (by omega)).symm) d_TP_person_23
  · refine x_iload_n C d_TP_person_9 2 rfl rfl ?_
    refine x_iconst C d_TP_person_10 (v := 1) (by decide) ?_
    refine x_callSi C (c_TP_within Z s 1 (g)) mi_TP_within k_194 (As := [.int (s), .int (1)]) ⟨Nat.le_of_ble_eq_true rfl, Nat.le_of_ble_eq_true rfl⟩ rfl rfl (Nat.le_of_ble_eq_true rfl) d_TP_person_11 ?_
    refine x_ifneB C d_TP_person_14 24 (by decide) (fun c_2 => ?_) (fun c_2 => ?_)
    · refine x_aload_n C d_TP_person_24 0 rfl rfl ?_
      refine gf_TP_tunnel C k_165 d_TP_person_25 ?_
      refine x_callVi C (c_Tu_isFull Z 0 (by omega) (g) _ hn) mi_Tu_isFull k_214 (show 14 + 12 * 0 < 50 by omega) (e_Tu Z 0 _) rfl (As := []) ⟨Nat.le_of_ble_eq_true rfl, Nat.le_of_ble_eq_true rfl⟩ rfl rfl (Nat.le_of_ble_eq_true rfl) d_TP_person_28 ?_
      refine x_ifeqB C d_TP_person_31 41 (by decide) (fun c_3 => ?_) (fun c_3 => ?_)
      · have mc_3 := full_f c_3 (by omega)
        refine x_aload_n C d_TP_person_41 0 rfl rfl ?_
        refine gf_TP_tunnel C k_165 d_TP_person_42 ?_
        refine x_iload_n C d_TP_person_45 1 rfl rfl ?_
        refine x_iload_n C d_TP_person_46 2 rfl rfl ?_
        refine x_callVi C (c_Tu_add Z 0 (by omega) k s (g) _ rfl hk0 (by rw [sz_of hn hn8]; omega)) mi_Tu_add k_219 (show 14 + 12 * 0 < 50 by omega) (e_Tu Z 0 _) rfl (As := [.int (k), .int (s)]) ⟨Nat.le_of_ble_eq_true rfl, Nat.le_of_ble_eq_true rfl⟩ rfl rfl (Nat.le_of_ble_eq_true rfl) d_TP_person_47 ?_
        exact x_iretK C (by first | with_reducible rfl | (simp [*]; done) | (simp_all; done)) (kfin (G' := va_up g 0 (addR (g 0) k s)) (by first | with_reducible rfl | (simp [*]; done) | (simp_all; done)) (va_idn (by omega)).symm) d_TP_person_50
      · have mc_3 := full_t c_3 (by omega)
        refine x_aload_n C d_TP_person_34 0 rfl rfl ?_
        refine x_ldc C d_TP_person_35 k_218 ?_
        refine x_callVi C (c_TP_found_1 Z (g) _ rfl) mi_TP_found k_198 (show 0 < 50 by omega) (e_TP Z _) rfl (As := [.int ((-1000002))]) ⟨Nat.le_of_ble_eq_true rfl, Nat.le_of_ble_eq_true rfl⟩ rfl rfl (Nat.le_of_ble_eq_true rfl) d_TP_person_37 ?_
        exact x_iretK C (by first | with_reducible rfl | (simp [*]; done) | (simp_all; done)) (kfin (G' := va_up g 16 (fndR (g 16) 1)) (by first | with_reducible rfl | (simp [*]; done) | (simp_all; done)) (va_idn (by omega)).symm) d_TP_person_40
    · refine x_aload_n C d_TP_person_17 0 rfl rfl ?_
      refine x_ldc C d_TP_person_18 k_197 ?_
      refine x_callVi C (c_TP_found_0 Z (g) _ rfl) mi_TP_found k_198 (show 0 < 50 by omega) (e_TP Z _) rfl (As := [.int ((-1000001))]) ⟨Nat.le_of_ble_eq_true rfl, Nat.le_of_ble_eq_true rfl⟩ rfl rfl (Nat.le_of_ble_eq_true rfl) d_TP_person_20 ?_
      exact x_iretK C (by first | with_reducible rfl | (simp [*]; done) | (simp_all; done)) (kfin (G' := va_up g 16 (fndR (g 16) 0)) (by first | with_reducible rfl | (simp [*]; done) | (simp_all; done)) (va_idn (by omega)).symm) d_TP_person_23

set_option maxRecDepth 100000 in
set_option maxHeartbeats 600000 in
theorem c_TP_of (Z : ZT) (p w : Int32) (g : St)  (hk : okR (g 0)) : CT yC Z y_TP_of b_TP_of 3 (some (.int)) 3 68 [.ref (Z.2.1 (0)), .int (p), .int (w)] (g) (QkI yC Z (if (0 ≤ p ∧ p < g 0 1) ∧ (0 ≤ w ∧ w ≤ 9) then tld (g 0) p.toNatClampNeg w.toNatClampNeg else (-1000001)) (fun u => ∃ ρ : Nat → Int32, u = va_up (if (0 ≤ p ∧ p < g 0 1) ∧ (0 ≤ w ∧ w ≤ 9) then g else va_up g 16 (fndR (g 16) 0)) 1 ρ)) := by
  refine CT.mk "TunnelPeace" (by decide) rfl (Nat.le_of_ble_eq_true rfl) (fun X C => ?_)
  refine x_lv [0, 1, 2] (lv' := [(0, .ref (Z.2.1 (0))), (1, .int (p)), (2, .int (w))]) rfl ?_
  have hk0 := hk
  obtain ⟨⟨n, hn8, hn⟩, dd, hdd, hd⟩ := hk
  refine x_aload_n C d_TP_of_0 0 rfl rfl ?_
  refine gf_TP_tunnel C k_165 d_TP_of_1 ?_
  refine x_iload_n C d_TP_of_4 1 rfl rfl ?_
  refine x_callVi C (c_Tu_has Z 0 (by omega) p (g) _ hn) mi_Tu_has k_235 (show 14 + 12 * 0 < 50 by omega) (e_Tu Z 0 _) rfl (As := [.int (p)]) ⟨Nat.le_of_ble_eq_true rfl, Nat.le_of_ble_eq_true rfl⟩ rfl rfl (Nat.le_of_ble_eq_true rfl) d_TP_of_5 ?_
  refine x_ifeqB C d_TP_of_8 20 (by decide) (fun c_1 => ?_) (fun c_1 => ?_)
  · refine x_aload_n C d_TP_of_20 0 rfl rfl ?_
    refine x_ldc C d_TP_of_21 k_197 ?_
    refine x_callVi C (c_TP_found_0 Z (g) _ rfl) mi_TP_found k_198 (show 0 < 50 by omega) (e_TP Z _) rfl (As := [.int ((-1000001))]) ⟨Nat.le_of_ble_eq_true rfl, Nat.le_of_ble_eq_true rfl⟩ rfl rfl (Nat.le_of_ble_eq_true rfl) d_TP_of_23 ?_
    exact x_iretK C (by first | with_reducible rfl | (simp [*]; done) | (simp_all; done)) (kfin (G' := va_up g 16 (fndR (g 16) 0)) (by first | with_reducible rfl | (simp [*]; done) | (simp_all; done)) (va_idn (by omega)).symm) d_TP_of_26
  · obtain ⟨pq, hpq, rfl⟩ := in_of c_1 (by omega)
    have hcp : (nI pq).toNatClampNeg = pq := nI_clamp (by omega)
    refine x_iload_n C d_TP_of_11 2 rfl rfl ?_
    refine x_bipush C d_TP_of_12 (v := 9) (by decide) ?_
    refine x_callSi C (c_TP_within Z w 9 (g)) mi_TP_within k_194 (As := [.int (w), .int (9)]) ⟨Nat.le_of_ble_eq_true rfl, Nat.le_of_ble_eq_true rfl⟩ rfl rfl (Nat.le_of_ble_eq_true rfl) d_TP_of_14 ?_
    refine x_ifneB C d_TP_of_17 27 (by decide) (fun c_2 => ?_) (fun c_2 => ?_)
    · obtain ⟨wq, hwq, rfl⟩ := in_le (n := 9) c_2 (by decide)
      have hcw : (nI wq).toNatClampNeg = wq := nI_clamp (by omega)
      refine x_aload_n C d_TP_of_27 0 rfl rfl ?_
      refine gf_TP_tunnel C k_165 d_TP_of_28 ?_
      refine x_iload_n C d_TP_of_31 1 rfl rfl ?_
      refine x_iload_n C d_TP_of_32 2 rfl rfl ?_
      refine x_callVi C (c_Tu_told Z 0 (by omega) pq wq (by omega) (by omega) (g) _ rfl) mi_Tu_told k_239 (show 14 + 12 * 0 < 50 by omega) (e_Tu Z 0 _) rfl (As := [.int (nI pq), .int (nI wq)]) ⟨Nat.le_of_ble_eq_true rfl, Nat.le_of_ble_eq_true rfl⟩ rfl rfl (Nat.le_of_ble_eq_true rfl) d_TP_of_33 ?_
      exact x_iretK C (by first | with_reducible rfl | (simp [*]; done) | (simp_all; done)) (kfin (G' := g) (by first | with_reducible rfl | (simp [*]; done) | (simp_all; done)) (va_id g 1).symm) d_TP_of_36
    · refine x_aload_n C d_TP_of_20 0 rfl rfl ?_
      refine x_ldc C d_TP_of_21 k_197 ?_
      refine x_callVi C (c_TP_found_0 Z (g) _ rfl) mi_TP_found k_198 (show 0 < 50 by omega) (e_TP Z _) rfl (As := [.int ((-1000001))]) ⟨Nat.le_of_ble_eq_true rfl, Nat.le_of_ble_eq_true rfl⟩ rfl rfl (Nat.le_of_ble_eq_true rfl) d_TP_of_23 ?_
      exact x_iretK C (by first | with_reducible rfl | (simp [*]; done) | (simp_all; done)) (kfin (G' := va_up g 16 (fndR (g 16) 0)) (by first | with_reducible rfl | (simp [*]; done) | (simp_all; done)) (va_idn (by omega)).symm) d_TP_of_26

set_option maxRecDepth 100000 in
set_option maxHeartbeats 600000 in
theorem c_TP_change (Z : ZT) (p w v : Int32) (g : St)  (hk : okR (g 0)) : CT yC Z y_TP_change b_TP_change 5 (some (.int)) 3 68 [.ref (Z.2.1 (0)), .int (p), .int (w), .int (v)] (g) (QkI yC Z (if (0 ≤ p ∧ p < g 0 1) ∧ (0 ≤ w ∧ w ≤ 5) ∧ (0 ≤ v ∧ v ≤ mOf w.toNatClampNeg) then tld (g 0) p.toNatClampNeg w.toNatClampNeg else (-1000001)) (fun u => ∃ ρ : Nat → Int32, u = va_up (if (0 ≤ p ∧ p < g 0 1) ∧ (0 ≤ w ∧ w ≤ 5) ∧ (0 ≤ v ∧ v ≤ mOf w.toNatClampNeg) then va_up g 0 (upd (g 0) (pI p.toNatClampNeg w.toNatClampNeg) v) else va_up g 16 (fndR (g 16) 0)) 1 ρ)) := by
  refine CT.mk "TunnelPeace" (by decide) rfl (Nat.le_of_ble_eq_true rfl) (fun X C => ?_)
  refine x_lv [0, 1, 2, 3] (lv' := [(0, .ref (Z.2.1 (0))), (1, .int (p)), (2, .int (w)), (3, .int (v))]) rfl ?_
  have hk0 := hk
  obtain ⟨⟨n, hn8, hn⟩, dd, hdd, hd⟩ := hk
  refine x_aload_n C d_TP_change_0 0 rfl rfl ?_
  refine gf_TP_tunnel C k_165 d_TP_change_1 ?_
  refine x_iload_n C d_TP_change_4 1 rfl rfl ?_
  refine x_callVi C (c_Tu_has Z 0 (by omega) p (g) _ hn) mi_Tu_has k_235 (show 14 + 12 * 0 < 50 by omega) (e_Tu Z 0 _) rfl (As := [.int (p)]) ⟨Nat.le_of_ble_eq_true rfl, Nat.le_of_ble_eq_true rfl⟩ rfl rfl (Nat.le_of_ble_eq_true rfl) d_TP_change_5 ?_
  refine x_ifeqB C d_TP_change_8 31 (by decide) (fun c_1 => ?_) (fun c_1 => ?_)
  · refine x_aload_n C d_TP_change_31 0 rfl rfl ?_
    refine x_ldc C d_TP_change_32 k_197 ?_
    refine x_callVi C (c_TP_found_0 Z (g) _ rfl) mi_TP_found k_198 (show 0 < 50 by omega) (e_TP Z _) rfl (As := [.int ((-1000001))]) ⟨Nat.le_of_ble_eq_true rfl, Nat.le_of_ble_eq_true rfl⟩ rfl rfl (Nat.le_of_ble_eq_true rfl) d_TP_change_34 ?_
    exact x_iretK C (by first | with_reducible rfl | (simp [*]; done) | (simp_all; done)) (kfin (G' := va_up g 16 (fndR (g 16) 0)) (by first | with_reducible rfl | (simp [*]; done) | (simp_all; done)) (va_idn (by omega)).symm) d_TP_change_37
  · obtain ⟨pq, hpq, rfl⟩ := in_of c_1 (by omega)
    have hcp : (nI pq).toNatClampNeg = pq := nI_clamp (by omega)
    refine x_iload_n C d_TP_change_11 2 rfl rfl ?_
    refine x_iconst C d_TP_change_12 (v := 5) (by decide) ?_
    refine x_callSi C (c_TP_within Z w 5 (g)) mi_TP_within k_194 (As := [.int (w), .int (5)]) ⟨Nat.le_of_ble_eq_true rfl, Nat.le_of_ble_eq_true rfl⟩ rfl rfl (Nat.le_of_ble_eq_true rfl) d_TP_change_13 ?_
    refine x_ifeqB C d_TP_change_16 31 (by decide) (fun c_2 => ?_) (fun c_2 => ?_)
    · refine x_aload_n C d_TP_change_31 0 rfl rfl ?_
      refine x_ldc C d_TP_change_32 k_197 ?_
      refine x_callVi C (c_TP_found_0 Z (g) _ rfl) mi_TP_found k_198 (show 0 < 50 by omega) (e_TP Z _) rfl (As := [.int ((-1000001))]) ⟨Nat.le_of_ble_eq_true rfl, Nat.le_of_ble_eq_true rfl⟩ rfl rfl (Nat.le_of_ble_eq_true rfl) d_TP_change_34 ?_
      exact x_iretK C (by first | with_reducible rfl | (simp [*]; done) | (simp_all; done)) (kfin (G' := va_up g 16 (fndR (g 16) 0)) (by first | with_reducible rfl | (simp [*]; done) | (simp_all; done)) (va_idn (by omega)).symm) d_TP_change_37
    · obtain ⟨wq, hwq, rfl⟩ := in_le (n := 5) c_2 (by decide)
      have hcw : (nI wq).toNatClampNeg = wq := nI_clamp (by omega)
      refine x_iload_n C d_TP_change_19 3 rfl rfl ?_
      refine x_getst0 C k_266 d_TP_change_20 ?_
      refine x_iload_n C d_TP_change_23 2 rfl rfl ?_
      refine x_stld0 C wq rfl (by omega) rfl d_TP_change_24 ?_
      refine x_callSi C (c_TP_within Z v (mOf wq) (g)) mi_TP_within k_194 (As := [.int (v), .int (mOf wq)]) ⟨Nat.le_of_ble_eq_true rfl, Nat.le_of_ble_eq_true rfl⟩ rfl rfl (Nat.le_of_ble_eq_true rfl) d_TP_change_25 ?_
      refine x_ifneB C d_TP_change_28 38 (by decide) (fun c_3 => ?_) (fun c_3 => ?_)
      · refine x_aload_n C d_TP_change_38 0 rfl rfl ?_
        refine gf_TP_tunnel C k_165 d_TP_change_39 ?_
        refine x_iload_n C d_TP_change_42 1 rfl rfl ?_
        refine x_iload_n C d_TP_change_43 2 rfl rfl ?_
        refine x_callVi C (c_Tu_told Z 0 (by omega) pq wq (by omega) (by omega) (g) _ rfl) mi_Tu_told k_239 (show 14 + 12 * 0 < 50 by omega) (e_Tu Z 0 _) rfl (As := [.int (nI pq), .int (nI wq)]) ⟨Nat.le_of_ble_eq_true rfl, Nat.le_of_ble_eq_true rfl⟩ rfl rfl (Nat.le_of_ble_eq_true rfl) d_TP_change_44 ?_
        refine x_istore C d_TP_change_47 (by decide) (lv' := [(4, .int (tld (g 0) pq wq)), (0, .ref (Z.2.1 (0))), (1, .int (nI pq)), (2, .int (nI wq)), (3, .int (v))]) rfl ?_
        refine x_aload_n C d_TP_change_49 1 rfl rfl ?_
        refine gf_TP_tunnel C k_165 d_TP_change_50 ?_
        refine gf_Tu_people C (by omega) k_85 d_TP_change_53 ?_
        refine x_iload_n C d_TP_change_56 2 rfl rfl ?_
        refine al_pp C (by omega) pq rfl (by omega) d_TP_change_57 ?_
        refine x_iload_n C d_TP_change_58 3 rfl rfl ?_
        refine x_iload_n C d_TP_change_59 4 rfl rfl ?_
        refine x_callVv C (c_Pe_set Z 0 pq (by omega) (by omega) wq (by omega) v (g) _ rfl) mi_Pe_set k_268 (show 18 + 12 * 0 + pq < 50 by omega) (e_Pe Z 0 (by omega) _) rfl (As := [.int (nI wq), .int (v)]) ⟨Nat.le_of_ble_eq_true rfl, Nat.le_of_ble_eq_true rfl⟩ rfl rfl (Nat.le_of_ble_eq_true rfl) d_TP_change_60 ?_
        refine x_iload C d_TP_change_63 0 rfl ?_
        exact x_iretK C (by first | with_reducible rfl | (simp [*]; done) | (simp_all; done)) (kfin (G' := va_up g 0 (upd (g 0) (pI pq wq) v)) (by first | with_reducible rfl | (simp [*]; done) | (simp_all; done)) (va_idn (by omega)).symm) d_TP_change_65
      · refine x_aload_n C d_TP_change_31 0 rfl rfl ?_
        refine x_ldc C d_TP_change_32 k_197 ?_
        refine x_callVi C (c_TP_found_0 Z (g) _ rfl) mi_TP_found k_198 (show 0 < 50 by omega) (e_TP Z _) rfl (As := [.int ((-1000001))]) ⟨Nat.le_of_ble_eq_true rfl, Nat.le_of_ble_eq_true rfl⟩ rfl rfl (Nat.le_of_ble_eq_true rfl) d_TP_change_34 ?_
        exact x_iretK C (by first | with_reducible rfl | (simp [*]; done) | (simp_all; done)) (kfin (G' := va_up g 16 (fndR (g 16) 0)) (by first | with_reducible rfl | (simp [*]; done) | (simp_all; done)) (va_idn (by omega)).symm) d_TP_change_37

set_option maxRecDepth 100000 in
set_option maxHeartbeats 600000 in
theorem c_TP_who (Z : ZT) (c : Int32) (g : St)  (hk : okR (g 0)) : CT yC Z y_TP_who b_TP_who 2 (some (.int)) 2 43 [.ref (Z.2.1 (0)), .int (c)] (g) (QkI yC Z (if (0 ≤ c ∧ c ≤ 15) then patN c (g 0) (sz (g 0)) else (-1000001)) (fun u => ∃ ρ : Nat → Int32, u = va_up (if (0 ≤ c ∧ c ≤ 15) then g else va_up g 16 (fndR (g 16) 0)) 1 ρ)) := by
  refine CT.mk "TunnelPeace" (by decide) rfl (Nat.le_of_ble_eq_true rfl) (fun X C => ?_)
  refine x_lv [0, 1] (lv' := [(0, .ref (Z.2.1 (0))), (1, .int (c))]) rfl ?_
  have hk0 := hk
  obtain ⟨⟨n, hn8, hn⟩, dd, hdd, hd⟩ := hk
  refine x_iload_n C d_TP_who_0 1 rfl rfl ?_
  refine x_bipush C d_TP_who_1 (v := 15) (by decide) ?_
  refine x_callSi C (c_TP_within Z c 15 (g)) mi_TP_within k_194 (As := [.int (c), .int (15)]) ⟨Nat.le_of_ble_eq_true rfl, Nat.le_of_ble_eq_true rfl⟩ rfl rfl (Nat.le_of_ble_eq_true rfl) d_TP_who_3 ?_
  refine x_ifeqB C d_TP_who_6 20 (by decide) (fun c_1 => ?_) (fun c_1 => ?_)
  · refine x_aload_n C d_TP_who_20 0 rfl rfl ?_
    refine x_ldc C d_TP_who_21 k_197 ?_
    refine x_callVi C (c_TP_found_0 Z (g) _ rfl) mi_TP_found k_198 (show 0 < 50 by omega) (e_TP Z _) rfl (As := [.int ((-1000001))]) ⟨Nat.le_of_ble_eq_true rfl, Nat.le_of_ble_eq_true rfl⟩ rfl rfl (Nat.le_of_ble_eq_true rfl) d_TP_who_23 ?_
    exact x_iretK C (by first | with_reducible rfl | (simp [*]; done) | (simp_all; done)) (kfin (G' := va_up g 16 (fndR (g 16) 0)) (by first | with_reducible rfl | (simp [*]; done) | (simp_all; done)) (va_idn (by omega)).symm) d_TP_who_26
  · refine x_aload_n C d_TP_who_9 0 rfl rfl ?_
    refine gf_TP_tunnel C k_165 d_TP_who_10 ?_
    refine x_iload_n C d_TP_who_13 1 rfl rfl ?_
    refine x_callVi C (c_Tu_peopleAt Z 0 (by omega) c (g) _ rfl hk0) mi_Tu_peopleAt k_276 (show 14 + 12 * 0 < 50 by omega) (e_Tu Z 0 _) rfl (As := [.int (c)]) ⟨Nat.le_of_ble_eq_true rfl, Nat.le_of_ble_eq_true rfl⟩ rfl rfl (Nat.le_of_ble_eq_true rfl) d_TP_who_14 ?_
    refine x_goto C d_TP_who_17 26 (by decide) ?_
    exact x_iretK C (by first | with_reducible rfl | (simp [*]; done) | (simp_all; done)) (kfin (G' := g) (by first | with_reducible rfl | (simp [*]; done) | (simp_all; done)) (va_id g 1).symm) d_TP_who_26

set_option maxRecDepth 100000 in
set_option maxHeartbeats 600000 in
theorem c_TP_two (Z : ZT) (a b : Int32) (g : St)  (hk : okR (g 0)) : CT yC Z y_TP_two b_TP_two 3 (some (.int)) 2 43 [.ref (Z.2.1 (0)), .int (a), .int (b)] (g) (QkI yC Z (if (0 ≤ a ∧ a < g 0 1) ∧ (0 ≤ b ∧ b < g 0 1) ∧ ¬ a = b then bI (mtA (g 0 (pI a.toNatClampNeg 1)) (g 0 (pI a.toNatClampNeg 2)) (g 0 (pI b.toNatClampNeg 1)) (g 0 (pI b.toNatClampNeg 2)) = true) else (-1000001)) (fun u => ∃ ρ : Nat → Int32, u = va_up (if (0 ≤ a ∧ a < g 0 1) ∧ (0 ≤ b ∧ b < g 0 1) ∧ ¬ a = b then g else va_up g 16 (fndR (g 16) 0)) 1 ρ)) := by
  refine CT.mk "TunnelPeace" (by decide) rfl (Nat.le_of_ble_eq_true rfl) (fun X C => ?_)
  refine x_lv [0, 1, 2] (lv' := [(0, .ref (Z.2.1 (0))), (1, .int (a)), (2, .int (b))]) rfl ?_
  have hk0 := hk
  obtain ⟨⟨n, hn8, hn⟩, dd, hdd, hd⟩ := hk
  refine x_aload_n C d_TP_two_0 0 rfl rfl ?_
  refine gf_TP_tunnel C k_165 d_TP_two_1 ?_
  refine x_iload_n C d_TP_two_4 1 rfl rfl ?_
  refine x_callVi C (c_Tu_has Z 0 (by omega) a (g) _ hn) mi_Tu_has k_235 (show 14 + 12 * 0 < 50 by omega) (e_Tu Z 0 _) rfl (As := [.int (a)]) ⟨Nat.le_of_ble_eq_true rfl, Nat.le_of_ble_eq_true rfl⟩ rfl rfl (Nat.le_of_ble_eq_true rfl) d_TP_two_5 ?_
  refine x_ifeqB C d_TP_two_8 27 (by decide) (fun c_1 => ?_) (fun c_1 => ?_)
  · refine x_aload_n C d_TP_two_27 0 rfl rfl ?_
    refine x_ldc C d_TP_two_28 k_197 ?_
    refine x_callVi C (c_TP_found_0 Z (g) _ rfl) mi_TP_found k_198 (show 0 < 50 by omega) (e_TP Z _) rfl (As := [.int ((-1000001))]) ⟨Nat.le_of_ble_eq_true rfl, Nat.le_of_ble_eq_true rfl⟩ rfl rfl (Nat.le_of_ble_eq_true rfl) d_TP_two_30 ?_
    exact x_iretK C (by first | with_reducible rfl | (simp [bI, *]; done) | (simp_all [bI]; done)) (kfin (G' := va_up g 16 (fndR (g 16) 0)) (by first | with_reducible rfl | (simp [*]; done) | (simp_all; done)) (va_idn (by omega)).symm) d_TP_two_33
  · obtain ⟨aq, haq, rfl⟩ := in_of c_1 (by omega)
    have hca : (nI aq).toNatClampNeg = aq := nI_clamp (by omega)
    refine x_aload_n C d_TP_two_11 0 rfl rfl ?_
    refine gf_TP_tunnel C k_165 d_TP_two_12 ?_
    refine x_iload_n C d_TP_two_15 2 rfl rfl ?_
    refine x_callVi C (c_Tu_has Z 0 (by omega) b (g) _ hn) mi_Tu_has k_235 (show 14 + 12 * 0 < 50 by omega) (e_Tu Z 0 _) rfl (As := [.int (b)]) ⟨Nat.le_of_ble_eq_true rfl, Nat.le_of_ble_eq_true rfl⟩ rfl rfl (Nat.le_of_ble_eq_true rfl) d_TP_two_16 ?_
    refine x_ifeqB C d_TP_two_19 27 (by decide) (fun c_2 => ?_) (fun c_2 => ?_)
    · refine x_aload_n C d_TP_two_27 0 rfl rfl ?_
      refine x_ldc C d_TP_two_28 k_197 ?_
      refine x_callVi C (c_TP_found_0 Z (g) _ rfl) mi_TP_found k_198 (show 0 < 50 by omega) (e_TP Z _) rfl (As := [.int ((-1000001))]) ⟨Nat.le_of_ble_eq_true rfl, Nat.le_of_ble_eq_true rfl⟩ rfl rfl (Nat.le_of_ble_eq_true rfl) d_TP_two_30 ?_
      exact x_iretK C (by first | with_reducible rfl | (simp [bI, *]; done) | (simp_all [bI]; done)) (kfin (G' := va_up g 16 (fndR (g 16) 0)) (by first | with_reducible rfl | (simp [*]; done) | (simp_all; done)) (va_idn (by omega)).symm) d_TP_two_33
    · obtain ⟨bq, hbq, rfl⟩ := in_of c_2 (by omega)
      have hcb : (nI bq).toNatClampNeg = bq := nI_clamp (by omega)
      refine x_iload_n C d_TP_two_22 1 rfl rfl ?_
      refine x_iload_n C d_TP_two_23 2 rfl rfl ?_
      refine x_icmp_ne C d_TP_two_24 34 (by decide) (fun c_3 => ?_) (fun c_3 => ?_)
      · have nc_3 := Ne.symm c_3
        have mc_3 : ¬ aq = bq := fun z_ => (show ¬ nI aq = nI bq from c_3) ((nI_eq (by omega) (by omega)).mpr z_)
        refine x_aload_n C d_TP_two_34 0 rfl rfl ?_
        refine gf_TP_tunnel C k_165 d_TP_two_35 ?_
        refine gf_Tu_people C (by omega) k_85 d_TP_two_38 ?_
        refine x_iload_n C d_TP_two_41 1 rfl rfl ?_
        refine al_pp C (by omega) aq rfl (by omega) d_TP_two_42 ?_
        refine x_aload_n C d_TP_two_43 0 rfl rfl ?_
        refine gf_TP_tunnel C k_165 d_TP_two_44 ?_
        refine gf_Tu_people C (by omega) k_85 d_TP_two_47 ?_
        refine x_iload_n C d_TP_two_50 2 rfl rfl ?_
        refine al_pp C (by omega) bq rfl (by omega) d_TP_two_51 ?_
        refine x_callVi C (c_Pe_wouldMeet Z 0 aq bq (by omega) (by omega) (by omega) (g) _ rfl) mi_Pe_wouldMeet k_284 (show 18 + 12 * 0 + aq < 50 by omega) (e_Pe Z 0 (by omega) _) rfl (As := [.ref (Z.2.1 (18 + 12 * 0 + bq))]) ⟨Nat.le_of_ble_eq_true rfl, Nat.le_of_ble_eq_true rfl⟩ rfl rfl (Nat.le_of_ble_eq_true rfl) d_TP_two_52 ?_
        refine x_ifeqB C d_TP_two_55 62 (by decide) (fun c_4 => ?_) (fun c_4 => ?_)
        · refine x_iconst C d_TP_two_62 (v := 0) (by decide) ?_
          exact x_iretK C (by first | with_reducible rfl | (simp [bI, *]; done) | (simp_all [bI]; done)) (kfin (G' := g) (by first | with_reducible rfl | (simp [*]; done) | (simp_all; done)) (va_id g 1).symm) d_TP_two_63
        · refine x_iconst C d_TP_two_58 (v := 1) (by decide) ?_
          refine x_goto C d_TP_two_59 63 (by decide) ?_
          exact x_iretK C (by first | with_reducible rfl | (simp [bI, *]; done) | (simp_all [bI]; done)) (kfin (G' := g) (by first | with_reducible rfl | (simp [*]; done) | (simp_all; done)) (va_id g 1).symm) d_TP_two_63
      · have mc_3 : aq = bq := (nI_eq (by omega) (by omega)).mp (show nI aq = nI bq from c_3)
        refine x_aload_n C d_TP_two_27 0 rfl rfl ?_
        refine x_ldc C d_TP_two_28 k_197 ?_
        refine x_callVi C (c_TP_found_0 Z (g) _ rfl) mi_TP_found k_198 (show 0 < 50 by omega) (e_TP Z _) rfl (As := [.int ((-1000001))]) ⟨Nat.le_of_ble_eq_true rfl, Nat.le_of_ble_eq_true rfl⟩ rfl rfl (Nat.le_of_ble_eq_true rfl) d_TP_two_30 ?_
        exact x_iretK C (by first | with_reducible rfl | (simp [bI, *]; done) | (simp_all [bI]; done)) (kfin (G' := va_up g 16 (fndR (g 16) 0)) (by first | with_reducible rfl | (simp [*]; done) | (simp_all; done)) (va_idn (by omega)).symm) d_TP_two_33

theorem in_n1 {x M : Int32} (h : 0 ≤ x - 1 ∧ x - 1 ≤ M) {m : Nat} (hM : M.toInt = m) : ∃ j, 1 ≤ j ∧ j ≤ m + 1 ∧ x = nI j := by
  obtain ⟨k, hk, e⟩ := nI_of2 hM (Int32.not_lt.mpr h.1) h.2
  refine ⟨k + 1, by omega, by omega, ?_⟩
  rw [← nI_1, ← e]
  exact (Int32.sub_add_cancel x 1).symm
theorem in_lt1 {x : Int32} {L : Nat} (h : 0 ≤ x ∧ x ≤ nI L - 1) (hL : L ≤ 40) : ∃ j, j < L ∧ x = nI j := by
  obtain ⟨k, hk, e⟩ := nI_of (Int32.not_lt.mpr h.1)
  refine ⟨k, ?_, e⟩
  rw [e] at h
  cases L with
  | zero =>
    have h2 := h.2
    rw [show nI 0 - 1 = -1 by decide, fa_leI] at h2
    rw [nI_toInt hk] at h2
    have : (-1 : Int32).toInt = -1 := by decide
    omega
  | succ L =>
    have h2 := h.2
    rw [nI_pred] at h2
    have := (nI_leI hk (by omega)).mp h2
    omega
theorem rng {f n : Int32} {L : Nat} (h : 0 ≤ f ∧ 0 ≤ n ∧ f ≤ nI L ∧ n ≤ nI L - f) (hL : L ≤ 40) : ∃ a b, f = nI a ∧ n = nI b ∧ a + b ≤ L := by
  obtain ⟨a, ha, rfl⟩ := nI_of (Int32.not_lt.mpr h.1)
  obtain ⟨b, hb, rfl⟩ := nI_of (Int32.not_lt.mpr h.2.1)
  have h1 := (nI_leI ha (by omega)).mp h.2.2.1
  have h2 := h.2.2.2
  rw [pk_sub h1] at h2
  have h3 := (nI_leI hb (by omega)).mp h2
  exact ⟨a, b, rfl, rfl, by omega⟩

set_option maxRecDepth 100000 in
set_option maxHeartbeats 600000 in
theorem c_TP_go (Z : ZT) (m : Int32) (g : St)  (hk : okR (g 0)) : CT yC Z y_TP_go b_TP_go 2 (some (.int)) 5 116 [.ref (Z.2.1 (0)), .int (m)] (g) (QkI yC Z (if ¬ (0 ≤ (m - 1) ∧ (m - 1) ≤ 59) then (-1000001) else if ¬ m ≤ 99999 - g 0 0 then (-1000005) else dysR (g 0) m.toNatClampNeg 3) (fun u => ∃ ρ : Nat → Int32, u = va_up (if ¬ (0 ≤ (m - 1) ∧ (m - 1) ≤ 59) then va_up g 16 (fndR (g 16) 0) else if ¬ m ≤ 99999 - g 0 0 then va_up g 16 (fndR (g 16) 4) else va_up g 0 (dysR (g 0) m.toNatClampNeg)) 1 ρ)) := by
  refine CT.mk "TunnelPeace" (by decide) rfl (Nat.le_of_ble_eq_true rfl) (fun X C => ?_)
  refine x_lv [0, 1] (lv' := [(0, .ref (Z.2.1 (0))), (1, .int (m))]) rfl ?_
  have hk0 := hk
  obtain ⟨⟨n, hn8, hn⟩, dd, hdd, hd⟩ := hk
  refine x_iload_n C d_TP_go_0 1 rfl rfl ?_
  refine x_iconst C d_TP_go_1 (v := 1) (by decide) ?_
  refine x_isub C d_TP_go_2 ?_
  refine x_bipush C d_TP_go_3 (v := 59) (by decide) ?_
  refine x_callSi C (c_TP_within Z (m - 1) 59 (g)) mi_TP_within k_194 (As := [.int (m - 1), .int (59)]) ⟨Nat.le_of_ble_eq_true rfl, Nat.le_of_ble_eq_true rfl⟩ rfl rfl (Nat.le_of_ble_eq_true rfl) d_TP_go_5 ?_
  refine x_ifneB C d_TP_go_8 18 (by decide) (fun c_1 => ?_) (fun c_1 => ?_)
  · refine x_aload_n C d_TP_go_18 0 rfl rfl ?_
    refine gf_TP_tunnel C k_165 d_TP_go_19 ?_
    refine x_iload_n C d_TP_go_22 1 rfl rfl ?_
    refine x_callVi C (c_Tu_hasDays Z 0 (by omega) m (g) _ rfl) mi_Tu_hasDays k_296 (show 14 + 12 * 0 < 50 by omega) (e_Tu Z 0 _) rfl (As := [.int (m)]) ⟨Nat.le_of_ble_eq_true rfl, Nat.le_of_ble_eq_true rfl⟩ rfl rfl (Nat.le_of_ble_eq_true rfl) d_TP_go_23 ?_
    refine x_ifneB C d_TP_go_26 36 (by decide) (fun c_2 => ?_) (fun c_2 => ?_)
    · obtain ⟨mq, hmq, hmq1, rfl⟩ := in_n1 (by assumption) (m := 59) (by decide)
      have hcm : (nI mq).toNatClampNeg = mq := nI_clamp (by omega)
      refine x_aload_n C d_TP_go_36 0 rfl rfl ?_
      refine gf_TP_tunnel C k_165 d_TP_go_37 ?_
      refine x_iload_n C d_TP_go_40 1 rfl rfl ?_
      refine x_callVv C (c_Tu_passDays Z 0 (by omega) mq (by omega) (g) _ rfl hk0) mi_Tu_passDays k_302 (show 14 + 12 * 0 < 50 by omega) (e_Tu Z 0 _) rfl (As := [.int (nI mq)]) ⟨Nat.le_of_ble_eq_true rfl, Nat.le_of_ble_eq_true rfl⟩ rfl rfl (Nat.le_of_ble_eq_true rfl) d_TP_go_41 ?_
      refine x_aload_n C d_TP_go_44 0 rfl rfl ?_
      refine gf_TP_tunnel C k_165 d_TP_go_45 ?_
      refine gf_Tu_guns C (by omega) (v := (dysR (g 0) mq) 3) (congrFun (va_up_self _ _ _) _) k_69 d_TP_go_48 ?_
      exact x_iretK C (by first | with_reducible rfl | (simp [*]; done) | (simp_all; done)) (kfin (G' := va_up g 0 (dysR (g 0) mq)) (by first | with_reducible rfl | (simp [*]; done) | (simp_all; done)) (va_idn (by omega)).symm) d_TP_go_51
    · refine x_aload_n C d_TP_go_29 0 rfl rfl ?_
      refine x_ldc C d_TP_go_30 k_301 ?_
      refine x_callVi C (c_TP_found_4 Z (g) _ rfl) mi_TP_found k_198 (show 0 < 50 by omega) (e_TP Z _) rfl (As := [.int ((-1000005))]) ⟨Nat.le_of_ble_eq_true rfl, Nat.le_of_ble_eq_true rfl⟩ rfl rfl (Nat.le_of_ble_eq_true rfl) d_TP_go_32 ?_
      exact x_iretK C (by first | with_reducible rfl | (simp [*]; done) | (simp_all; done)) (kfin (G' := va_up g 16 (fndR (g 16) 4)) (by first | with_reducible rfl | (simp [*]; done) | (simp_all; done)) (va_idn (by omega)).symm) d_TP_go_35
  · refine x_aload_n C d_TP_go_11 0 rfl rfl ?_
    refine x_ldc C d_TP_go_12 k_197 ?_
    refine x_callVi C (c_TP_found_0 Z (g) _ rfl) mi_TP_found k_198 (show 0 < 50 by omega) (e_TP Z _) rfl (As := [.int ((-1000001))]) ⟨Nat.le_of_ble_eq_true rfl, Nat.le_of_ble_eq_true rfl⟩ rfl rfl (Nat.le_of_ble_eq_true rfl) d_TP_go_14 ?_
    exact x_iretK C (by first | with_reducible rfl | (simp [*]; done) | (simp_all; done)) (kfin (G' := va_up g 16 (fndR (g 16) 0)) (by first | with_reducible rfl | (simp [*]; done) | (simp_all; done)) (va_idn (by omega)).symm) d_TP_go_17

set_option maxRecDepth 100000 in
set_option maxHeartbeats 600000 in
theorem c_TP_stroll (Z : ZT) (m : Int32) (g : St)  (hk : okR (g 0)) : CT yC Z y_TP_stroll b_TP_stroll 3 (some (.int)) 5 115 [.ref (Z.2.1 (0)), .int (m)] (g) (QkI yC Z (if ¬ (0 ≤ (m - 1) ∧ (m - 1) ≤ 19) then (-1000001) else if ¬ m ≤ 99999 - g 0 0 then (-1000005) else drsR (g 0) m.toNatClampNeg 3) (fun u => ∃ ρ : Nat → Int32, u = va_up (if ¬ (0 ≤ (m - 1) ∧ (m - 1) ≤ 19) then va_up g 16 (fndR (g 16) 0) else if ¬ m ≤ 99999 - g 0 0 then va_up g 16 (fndR (g 16) 4) else va_up g 0 (drsR (g 0) m.toNatClampNeg)) 1 ρ)) := by
  refine CT.mk "TunnelPeace" (by decide) rfl (Nat.le_of_ble_eq_true rfl) (fun X C => ?_)
  refine x_lv [0, 1] (lv' := [(0, .ref (Z.2.1 (0))), (1, .int (m))]) rfl ?_
  have hk0 := hk
  obtain ⟨⟨n, hn8, hn⟩, dd, hdd, hd⟩ := hk
  refine x_iload_n C d_TP_stroll_0 1 rfl rfl ?_
  refine x_iconst C d_TP_stroll_1 (v := 1) (by decide) ?_
  refine x_isub C d_TP_stroll_2 ?_
  refine x_bipush C d_TP_stroll_3 (v := 19) (by decide) ?_
  refine x_callSi C (c_TP_within Z (m - 1) 19 (g)) mi_TP_within k_194 (As := [.int (m - 1), .int (19)]) ⟨Nat.le_of_ble_eq_true rfl, Nat.le_of_ble_eq_true rfl⟩ rfl rfl (Nat.le_of_ble_eq_true rfl) d_TP_stroll_5 ?_
  refine x_ifneB C d_TP_stroll_8 18 (by decide) (fun c_1 => ?_) (fun c_1 => ?_)
  · refine x_aload_n C d_TP_stroll_18 0 rfl rfl ?_
    refine gf_TP_tunnel C k_165 d_TP_stroll_19 ?_
    refine x_iload_n C d_TP_stroll_22 1 rfl rfl ?_
    refine x_callVi C (c_Tu_hasDays Z 0 (by omega) m (g) _ rfl) mi_Tu_hasDays k_296 (show 14 + 12 * 0 < 50 by omega) (e_Tu Z 0 _) rfl (As := [.int (m)]) ⟨Nat.le_of_ble_eq_true rfl, Nat.le_of_ble_eq_true rfl⟩ rfl rfl (Nat.le_of_ble_eq_true rfl) d_TP_stroll_23 ?_
    refine x_ifneB C d_TP_stroll_26 36 (by decide) (fun c_2 => ?_) (fun c_2 => ?_)
    · obtain ⟨mq, hmq, hmq1, rfl⟩ := in_n1 (by assumption) (m := 19) (by decide)
      have hcm : (nI mq).toNatClampNeg = mq := nI_clamp (by omega)
      refine x_iconst C d_TP_stroll_36 (v := 0) (by decide) ?_
      refine x_topi (show (0 : Int32) = nI 0 by decide) ?_
      refine x_istore_n C d_TP_stroll_37 rfl (by decide) (lv' := [(2, .int (nI 0)), (0, .ref (Z.2.1 (0))), (1, .int (nI mq))]) rfl ?_
      have LP_38 : ∀ (f_ i : Nat), i ≤ mq → mq - i < f_ → WX X 3 yC Z (QX X yC Z (QkI yC Z (if ¬ (0 ≤ ((nI mq) - 1) ∧ ((nI mq) - 1) ≤ 19) then (-1000001) else if ¬ (nI mq) ≤ 99999 - g 0 0 then (-1000005) else drsR (g 0) (nI mq).toNatClampNeg 3) (fun u => ∃ ρ : Nat → Int32, u = va_up (if ¬ (0 ≤ ((nI mq) - 1) ∧ ((nI mq) - 1) ≤ 19) then va_up g 16 (fndR (g 16) 0) else if ¬ (nI mq) ≤ 99999 - g 0 0 then va_up g 16 (fndR (g 16) 4) else va_up g 0 (drsR (g 0) (nI mq).toNatClampNeg)) 1 ρ))) (va_up g 0 (drsR (g 0) (i))) 38 [(2, .int (nI i)), (0, .ref (Z.2.1 (0))), (1, .int (nI mq))] [] := by
        intro f_
        induction f_ with
        | zero => intro i h1_ h2_; exact absurd h2_ (Nat.not_lt_zero _)
        | succ f_ ih_38 =>
          intro i hi_38 hf_38
          refine x_iload_n C d_TP_stroll_38 0 rfl rfl ?_
          refine x_iload_n C d_TP_stroll_39 2 rfl rfl ?_
          refine x_icmp_ge C d_TP_stroll_40 56 (by decide) (fun c_3 => ?_) (fun c_3 => ?_)
          · have nc_3 := Int32.not_lt.mpr c_3
            have mc_3 : mq ≤ i := (nI_leI (by omega) (by omega)).mp (show nI mq ≤ nI i from c_3)
            have e_i : mq = i := by omega
            subst e_i
            refine x_aload_n C d_TP_stroll_56 1 rfl rfl ?_
            refine gf_TP_tunnel C k_165 d_TP_stroll_57 ?_
            refine gf_Tu_guns C (by omega) (v := (drsR (g 0) (mq)) 3) (congrFun (va_up_self _ _ _) _) k_69 d_TP_stroll_60 ?_
            exact x_iretK C (by first | with_reducible rfl | (simp [*]; done) | (simp_all; done)) (kfin (G' := va_up g 0 (drsR (g 0) (mq))) (by first | with_reducible rfl | (simp [*]; done) | (simp_all; done)) (va_idn (by omega)).symm) d_TP_stroll_63
          · have nc_3 := Int32.not_le.mp c_3
            have mc_3 : ¬ mq ≤ i := fun z_ => (show ¬ nI mq ≤ nI i from c_3) ((nI_leI (by omega) (by omega)).mpr z_)
            refine x_aload_n C d_TP_stroll_43 1 rfl rfl ?_
            refine gf_TP_tunnel C k_165 d_TP_stroll_44 ?_
            refine x_callVv C (c_Tu_passDrawnDay Z 0 (by omega) (va_up g 0 (drsR (g 0) (i))) _ (va_up_self _ _ _) (okR_drs hk0 _)) mi_Tu_passDrawnDay k_522 (show 14 + 12 * 0 < 50 by omega) (e_Tu Z 0 _) rfl (As := []) ⟨Nat.le_of_ble_eq_true rfl, Nat.le_of_ble_eq_true rfl⟩ rfl rfl (Nat.le_of_ble_eq_true rfl) d_TP_stroll_47 ?_
            refine x_eqg (g' := va_up g 0 (drdR (drsR (g 0) (i)))) (bx_uu _ _ _ _) ?_
            refine x_iinc C d_TP_stroll_50 0 rfl (v := nI (i + 1)) (nI_1 _) (by decide) (lv' := [(2, .int (nI (i + 1))), (0, .ref (Z.2.1 (0))), (1, .int (nI mq))]) rfl ?_
            refine x_goto C d_TP_stroll_53 38 (by decide) ?_
            refine x_eqg (g' := va_up g 0 (drsR (g 0) (i + 1))) rfl ?_
            exact ih_38 (i + 1) (by omega) (by omega)
      refine x_eqg (g' := va_up g 0 (drsR (g 0) (0))) (va_id g 0).symm ?_
      exact LP_38 (mq + 1) 0 (Nat.zero_le _) (by omega)
    · refine x_aload_n C d_TP_stroll_29 0 rfl rfl ?_
      refine x_ldc C d_TP_stroll_30 k_301 ?_
      refine x_callVi C (c_TP_found_4 Z (g) _ rfl) mi_TP_found k_198 (show 0 < 50 by omega) (e_TP Z _) rfl (As := [.int ((-1000005))]) ⟨Nat.le_of_ble_eq_true rfl, Nat.le_of_ble_eq_true rfl⟩ rfl rfl (Nat.le_of_ble_eq_true rfl) d_TP_stroll_32 ?_
      exact x_iretK C (by first | with_reducible rfl | (simp [*]; done) | (simp_all; done)) (kfin (G' := va_up g 16 (fndR (g 16) 4)) (by first | with_reducible rfl | (simp [*]; done) | (simp_all; done)) (va_idn (by omega)).symm) d_TP_stroll_35
  · refine x_aload_n C d_TP_stroll_11 0 rfl rfl ?_
    refine x_ldc C d_TP_stroll_12 k_197 ?_
    refine x_callVi C (c_TP_found_0 Z (g) _ rfl) mi_TP_found k_198 (show 0 < 50 by omega) (e_TP Z _) rfl (As := [.int ((-1000001))]) ⟨Nat.le_of_ble_eq_true rfl, Nat.le_of_ble_eq_true rfl⟩ rfl rfl (Nat.le_of_ble_eq_true rfl) d_TP_stroll_14 ?_
    exact x_iretK C (by first | with_reducible rfl | (simp [*]; done) | (simp_all; done)) (kfin (G' := va_up g 16 (fndR (g 16) 0)) (by first | with_reducible rfl | (simp [*]; done) | (simp_all; done)) (va_idn (by omega)).symm) d_TP_stroll_17

set_option maxRecDepth 100000 in
set_option maxHeartbeats 600000 in
theorem c_TP_now (Z : ZT) (w : Int32) (g : St)  (hk : okR (g 0)) : CT yC Z y_TP_now b_TP_now 2 (some (.int)) 3 66 [.ref (Z.2.1 (0)), .int (w)] (g) (QkI yC Z (if w = 0 ∨ w = 1 ∨ w = 2 ∨ w = 3 ∨ w = 4 ∨ w = 5 ∨ w = 6 ∨ w = 7 then nowV (g 0) w else (-1000001)) (fun u => ∃ ρ : Nat → Int32, u = va_up (if w = 0 ∨ w = 1 ∨ w = 2 ∨ w = 3 ∨ w = 4 ∨ w = 5 ∨ w = 6 ∨ w = 7 then g else va_up g 16 (fndR (g 16) 0)) 1 ρ)) := by
  refine CT.mk "TunnelPeace" (by decide) rfl (Nat.le_of_ble_eq_true rfl) (fun X C => ?_)
  refine x_lv [0, 1] (lv' := [(0, .ref (Z.2.1 (0))), (1, .int (w))]) rfl ?_
  have hk0 := hk
  obtain ⟨⟨n, hn8, hn⟩, dd, hdd, hd⟩ := hk
  refine x_iload_n C d_TP_now_0 1 rfl rfl ?_
  by_cases c_1 : w = 0
  · refine x_tabAt C d_TP_now_1 c_1 (by decide) (by decide) (off := 47) (by decide) 48 (by decide) ?_
    refine x_aload_n C d_TP_now_48 0 rfl rfl ?_
    refine gf_TP_tunnel C k_165 d_TP_now_49 ?_
    refine gf_Tu_day C (by omega) (v := g 0 0) rfl k_67 d_TP_now_52 ?_
    exact x_iretK C (by simp [nowV, *]) (kfin (G' := g) (by first | with_reducible rfl | (simp [*]; done) | (simp_all; done)) (va_id g 1).symm) d_TP_now_55
  by_cases c_2 : w = 1
  · refine x_tabAt C d_TP_now_1 c_2 (by decide) (by decide) (off := 55) (by decide) 56 (by decide) ?_
    refine x_aload_n C d_TP_now_56 0 rfl rfl ?_
    refine gf_TP_tunnel C k_165 d_TP_now_57 ?_
    refine gf_Tu_guns C (by omega) (v := g 0 3) rfl k_69 d_TP_now_60 ?_
    exact x_iretK C (by simp [nowV, *]) (kfin (G' := g) (by first | with_reducible rfl | (simp [*]; done) | (simp_all; done)) (va_id g 1).symm) d_TP_now_63
  by_cases c_3 : w = 2
  · refine x_tabAt C d_TP_now_1 c_3 (by decide) (by decide) (off := 63) (by decide) 64 (by decide) ?_
    refine x_aload_n C d_TP_now_64 0 rfl rfl ?_
    refine gf_TP_tunnel C k_165 d_TP_now_65 ?_
    refine x_callVi C (c_Tu_allMet Z 0 (by omega) (g) _ rfl hk0) mi_Tu_allMet k_344 (show 14 + 12 * 0 < 50 by omega) (e_Tu Z 0 _) rfl (As := []) ⟨Nat.le_of_ble_eq_true rfl, Nat.le_of_ble_eq_true rfl⟩ rfl rfl (Nat.le_of_ble_eq_true rfl) d_TP_now_68 ?_
    exact x_iretK C (by simp [nowV, *]) (kfin (G' := g) (by first | with_reducible rfl | (simp [*]; done) | (simp_all; done)) (va_id g 1).symm) d_TP_now_71
  by_cases c_4 : w = 3
  · refine x_tabAt C d_TP_now_1 c_4 (by decide) (by decide) (off := 71) (by decide) 72 (by decide) ?_
    refine x_aload_n C d_TP_now_72 0 rfl rfl ?_
    refine gf_TP_tunnel C k_165 d_TP_now_73 ?_
    refine x_callVi C (c_Tu_peopleAbroad Z 0 (by omega) (g) _ rfl hk0) mi_Tu_peopleAbroad k_348 (show 14 + 12 * 0 < 50 by omega) (e_Tu Z 0 _) rfl (As := []) ⟨Nat.le_of_ble_eq_true rfl, Nat.le_of_ble_eq_true rfl⟩ rfl rfl (Nat.le_of_ble_eq_true rfl) d_TP_now_76 ?_
    exact x_iretK C (by simp [nowV, *]) (kfin (G' := g) (by first | with_reducible rfl | (simp [*]; done) | (simp_all; done)) (va_id g 1).symm) d_TP_now_79
  by_cases c_5 : w = 4
  · refine x_tabAt C d_TP_now_1 c_5 (by decide) (by decide) (off := 79) (by decide) 80 (by decide) ?_
    refine x_aload_n C d_TP_now_80 0 rfl rfl ?_
    refine gf_TP_tunnel C k_165 d_TP_now_81 ?_
    refine x_callVi C (c_Tu_peopleWithSeason Z 0 (by omega) (g) _ rfl hk0) mi_Tu_peopleWithSeason k_356 (show 14 + 12 * 0 < 50 by omega) (e_Tu Z 0 _) rfl (As := []) ⟨Nat.le_of_ble_eq_true rfl, Nat.le_of_ble_eq_true rfl⟩ rfl rfl (Nat.le_of_ble_eq_true rfl) d_TP_now_84 ?_
    exact x_iretK C (by simp [nowV, *]) (kfin (G' := g) (by first | with_reducible rfl | (simp [*]; done) | (simp_all; done)) (va_id g 1).symm) d_TP_now_87
  by_cases c_6 : w = 5
  · refine x_tabAt C d_TP_now_1 c_6 (by decide) (by decide) (off := 87) (by decide) 88 (by decide) ?_
    refine x_aload_n C d_TP_now_88 0 rfl rfl ?_
    refine gf_TP_tunnel C k_165 d_TP_now_89 ?_
    refine x_callVi C (c_Tu_cellsTaken Z 0 (by omega) (g) _ rfl hk0) mi_Tu_cellsTaken k_360 (show 14 + 12 * 0 < 50 by omega) (e_Tu Z 0 _) rfl (As := []) ⟨Nat.le_of_ble_eq_true rfl, Nat.le_of_ble_eq_true rfl⟩ rfl rfl (Nat.le_of_ble_eq_true rfl) d_TP_now_92 ?_
    exact x_iretK C (by simp [nowV, *]) (kfin (G' := g) (by first | with_reducible rfl | (simp [*]; done) | (simp_all; done)) (va_id g 1).symm) d_TP_now_95
  by_cases c_7 : w = 6
  · refine x_tabAt C d_TP_now_1 c_7 (by decide) (by decide) (off := 95) (by decide) 96 (by decide) ?_
    refine x_aload_n C d_TP_now_96 0 rfl rfl ?_
    refine gf_TP_tunnel C k_165 d_TP_now_97 ?_
    refine x_callVi C (c_Tu_pairsMeeting Z 0 (by omega) (g) _ rfl hk0) mi_Tu_pairsMeeting k_364 (show 14 + 12 * 0 < 50 by omega) (e_Tu Z 0 _) rfl (As := []) ⟨Nat.le_of_ble_eq_true rfl, Nat.le_of_ble_eq_true rfl⟩ rfl rfl (Nat.le_of_ble_eq_true rfl) d_TP_now_100 ?_
    exact x_iretK C (by simp [nowV, *]) (kfin (G' := g) (by first | with_reducible rfl | (simp [*]; done) | (simp_all; done)) (va_id g 1).symm) d_TP_now_103
  by_cases c_8 : w = 7
  · refine x_tabAt C d_TP_now_1 c_8 (by decide) (by decide) (off := 103) (by decide) 104 (by decide) ?_
    refine x_aload_n C d_TP_now_104 0 rfl rfl ?_
    refine gf_TP_tunnel C k_165 d_TP_now_105 ?_
    refine x_callVi C (c_Tu_whoMetMost Z 0 (by omega) (g) _ rfl hk0) mi_Tu_whoMetMost k_368 (show 14 + 12 * 0 < 50 by omega) (e_Tu Z 0 _) rfl (As := []) ⟨Nat.le_of_ble_eq_true rfl, Nat.le_of_ble_eq_true rfl⟩ rfl rfl (Nat.le_of_ble_eq_true rfl) d_TP_now_108 ?_
    exact x_iretK C (by simp [nowV, *]) (kfin (G' := g) (by first | with_reducible rfl | (simp [*]; done) | (simp_all; done)) (va_id g 1).symm) d_TP_now_111
  · have ic_1 := i32_ne c_1 (z := 0) (by decide)
    have ic_2 := i32_ne c_2 (z := 1) (by decide)
    have ic_3 := i32_ne c_3 (z := 2) (by decide)
    have ic_4 := i32_ne c_4 (z := 3) (by decide)
    have ic_5 := i32_ne c_5 (z := 4) (by decide)
    have ic_6 := i32_ne c_6 (z := 5) (by decide)
    have ic_7 := i32_ne c_7 (z := 6) (by decide)
    have ic_8 := i32_ne c_8 (z := 7) (by decide)
    refine x_tabOut C d_TP_now_1 (by omega) 112 (by decide) ?_
    refine x_aload_n C d_TP_now_112 0 rfl rfl ?_
    refine x_ldc C d_TP_now_113 k_197 ?_
    refine x_callVi C (c_TP_found_0 Z (g) _ rfl) mi_TP_found k_198 (show 0 < 50 by omega) (e_TP Z _) rfl (As := [.int ((-1000001))]) ⟨Nat.le_of_ble_eq_true rfl, Nat.le_of_ble_eq_true rfl⟩ rfl rfl (Nat.le_of_ble_eq_true rfl) d_TP_now_115 ?_
    exact x_iretK C (by simp [nowV, *]) (kfin (G' := va_up g 16 (fndR (g 16) 0)) (by first | with_reducible rfl | (simp [*]; done) | (simp_all; done)) (va_idn (by omega)).symm) d_TP_now_118

set_option maxRecDepth 100000 in
set_option maxHeartbeats 600000 in
theorem c_TP_ahead (Z : ZT) (p w m : Int32) (g : St)  (hk : okR (g 0)) : CT yC Z y_TP_ahead b_TP_ahead 5 (some (.int)) 6 137 [.ref (Z.2.1 (0)), .int (p), .int (w), .int (m)] (g) (QkI yC Z (if (0 ≤ p ∧ p < g 0 1) ∧ (w = 2 ∨ w = 3 ∨ w = 5 ∨ w = 7) ∧ (0 ≤ m ∧ m ≤ 100) then tld (dysR (g 0) m.toNatClampNeg) p.toNatClampNeg w.toNatClampNeg else (-1000001)) (fun u => ∃ ρ : Nat → Int32, u = va_up (if (0 ≤ p ∧ p < g 0 1) ∧ (w = 2 ∨ w = 3 ∨ w = 5 ∨ w = 7) ∧ (0 ≤ m ∧ m ≤ 100) then g else va_up g 16 (fndR (g 16) 0)) 1 ρ)) := by
  refine CT.mk "TunnelPeace" (by decide) rfl (Nat.le_of_ble_eq_true rfl) (fun X C => ?_)
  refine x_lv [0, 1, 2, 3] (lv' := [(0, .ref (Z.2.1 (0))), (1, .int (p)), (2, .int (w)), (3, .int (m))]) rfl ?_
  have hk0 := hk
  obtain ⟨⟨n, hn8, hn⟩, dd, hdd, hd⟩ := hk
  refine x_iload_n C d_TP_ahead_0 2 rfl rfl ?_
  refine x_iconst C d_TP_ahead_1 (v := 2) (by decide) ?_
  refine x_icmp_eq C d_TP_ahead_2 21 (by decide) (fun c_1 => ?_) (fun c_1 => ?_)
  · obtain ⟨wq, hwq, rfl⟩ : ∃ j, j < 10 ∧ w = nI j := by first | exact ⟨2, by decide, by assumption⟩ | exact ⟨3, by decide, by assumption⟩ | exact ⟨5, by decide, by assumption⟩ | exact ⟨7, by decide, by assumption⟩
    have hcw : (nI wq).toNatClampNeg = wq := nI_clamp (by omega)
    refine x_iconst C d_TP_ahead_21 (v := 1) (by decide) ?_
    refine x_goto C d_TP_ahead_22 26 (by decide) ?_
    refine x_istore C d_TP_ahead_26 (by decide) (lv' := [(4, .int (1)), (0, .ref (Z.2.1 (0))), (1, .int (p)), (2, .int (nI wq)), (3, .int (m))]) rfl ?_
    refine x_aload_n C d_TP_ahead_28 1 rfl rfl ?_
    refine gf_TP_tunnel C k_165 d_TP_ahead_29 ?_
    refine x_iload_n C d_TP_ahead_32 2 rfl rfl ?_
    refine x_callVi C (c_Tu_has Z 0 (by omega) p (g) _ hn) mi_Tu_has k_235 (show 14 + 12 * 0 < 50 by omega) (e_Tu Z 0 _) rfl (As := [.int (p)]) ⟨Nat.le_of_ble_eq_true rfl, Nat.le_of_ble_eq_true rfl⟩ rfl rfl (Nat.le_of_ble_eq_true rfl) d_TP_ahead_33 ?_
    refine x_ifeqB C d_TP_ahead_36 53 (by decide) (fun c_2 => ?_) (fun c_2 => ?_)
    · refine x_aload_n C d_TP_ahead_53 1 rfl rfl ?_
      refine x_ldc C d_TP_ahead_54 k_197 ?_
      refine x_callVi C (c_TP_found_0 Z (g) _ rfl) mi_TP_found k_198 (show 0 < 50 by omega) (e_TP Z _) rfl (As := [.int ((-1000001))]) ⟨Nat.le_of_ble_eq_true rfl, Nat.le_of_ble_eq_true rfl⟩ rfl rfl (Nat.le_of_ble_eq_true rfl) d_TP_ahead_56 ?_
      exact x_iretK C (by first | with_reducible rfl | (simp [*]; done) | (simp_all; done)) (kfin (G' := va_up g 16 (fndR (g 16) 0)) (by first | with_reducible rfl | (simp [*]; done) | (simp_all; done)) (va_idn (by omega)).symm) d_TP_ahead_59
    · obtain ⟨pq, hpq, rfl⟩ := in_of c_2 (by omega)
      have hcp : (nI pq).toNatClampNeg = pq := nI_clamp (by omega)
      refine x_iload C d_TP_ahead_39 0 rfl ?_
      refine x_ifeq C d_TP_ahead_41 53 (by decide) (fun c_3 => ?_) (fun c_3 => ?_)
      · exact absurd c_3 (by decide)
      · refine x_iload_n C d_TP_ahead_44 4 rfl rfl ?_
        refine x_bipush C d_TP_ahead_45 (v := 100) (by decide) ?_
        refine x_callSi C (c_TP_within Z m 100 (g)) mi_TP_within k_194 (As := [.int (m), .int (100)]) ⟨Nat.le_of_ble_eq_true rfl, Nat.le_of_ble_eq_true rfl⟩ rfl rfl (Nat.le_of_ble_eq_true rfl) d_TP_ahead_47 ?_
        refine x_ifneB C d_TP_ahead_50 60 (by decide) (fun c_4 => ?_) (fun c_4 => ?_)
        · obtain ⟨mq, hmq, rfl⟩ := in_le (n := 100) c_4 (by decide)
          have hcm : (nI mq).toNatClampNeg = mq := nI_clamp (by omega)
          refine x_aload_n C d_TP_ahead_60 1 rfl rfl ?_
          refine gf_TP_forecast C k_169 d_TP_ahead_61 ?_
          refine x_iload_n C d_TP_ahead_64 4 rfl rfl ?_
          refine x_callVr C (c_Fo_behind Z mq (by omega) (g) hk0) mi_Fo_behind k_376 (show 1 < 50 by omega) (e_Fo Z (sr yC (g) 1)) rfl (As := [.int (nI mq)]) ⟨Nat.le_of_ble_eq_true rfl, Nat.le_of_ble_eq_true rfl⟩ rfl rfl (Nat.le_of_ble_eq_true rfl) d_TP_ahead_65 ?_
          refine x_iload_n C d_TP_ahead_68 2 rfl rfl ?_
          refine x_iload_n C d_TP_ahead_69 3 rfl rfl ?_
          refine x_callVi C (c_Tu_told Z 1 (by omega) pq wq (by omega) (by omega) (va_up g 1 (dysR (becR (g 1) (g 0)) mq)) _ (va_up_self _ _ _)) mi_Tu_told k_239 (show 14 + 12 * 1 < 50 by omega) (e_Tu Z 1 _) rfl (As := [.int (nI pq), .int (nI wq)]) ⟨Nat.le_of_ble_eq_true rfl, Nat.le_of_ble_eq_true rfl⟩ rfl rfl (Nat.le_of_ble_eq_true rfl) d_TP_ahead_70 ?_
          refine x_topi (x' := tld (dysR (g 0) mq) pq wq) (tld_e bec_days0 (by rw [sz_of hn hn8]; omega)) ?_
          exact x_iretK C (by first | with_reducible rfl | (simp [*]; done) | (simp_all; done)) (kfin (G' := g) (by first | with_reducible rfl | (simp [*]; done) | (simp_all; done)) rfl) d_TP_ahead_73
        · refine x_aload_n C d_TP_ahead_53 1 rfl rfl ?_
          refine x_ldc C d_TP_ahead_54 k_197 ?_
          refine x_callVi C (c_TP_found_0 Z (g) _ rfl) mi_TP_found k_198 (show 0 < 50 by omega) (e_TP Z _) rfl (As := [.int ((-1000001))]) ⟨Nat.le_of_ble_eq_true rfl, Nat.le_of_ble_eq_true rfl⟩ rfl rfl (Nat.le_of_ble_eq_true rfl) d_TP_ahead_56 ?_
          exact x_iretK C (by first | with_reducible rfl | (simp [*]; done) | (simp_all; done)) (kfin (G' := va_up g 16 (fndR (g 16) 0)) (by first | with_reducible rfl | (simp [*]; done) | (simp_all; done)) (va_idn (by omega)).symm) d_TP_ahead_59
  · have nc_1 := Ne.symm c_1
    refine x_iload_n C d_TP_ahead_5 2 rfl rfl ?_
    refine x_iconst C d_TP_ahead_6 (v := 3) (by decide) ?_
    refine x_icmp_eq C d_TP_ahead_7 21 (by decide) (fun c_5 => ?_) (fun c_5 => ?_)
    · obtain ⟨wq, hwq, rfl⟩ : ∃ j, j < 10 ∧ w = nI j := by first | exact ⟨2, by decide, by assumption⟩ | exact ⟨3, by decide, by assumption⟩ | exact ⟨5, by decide, by assumption⟩ | exact ⟨7, by decide, by assumption⟩
      have hcw : (nI wq).toNatClampNeg = wq := nI_clamp (by omega)
      refine x_iconst C d_TP_ahead_21 (v := 1) (by decide) ?_
      refine x_goto C d_TP_ahead_22 26 (by decide) ?_
      refine x_istore C d_TP_ahead_26 (by decide) (lv' := [(4, .int (1)), (0, .ref (Z.2.1 (0))), (1, .int (p)), (2, .int (nI wq)), (3, .int (m))]) rfl ?_
      refine x_aload_n C d_TP_ahead_28 1 rfl rfl ?_
      refine gf_TP_tunnel C k_165 d_TP_ahead_29 ?_
      refine x_iload_n C d_TP_ahead_32 2 rfl rfl ?_
      refine x_callVi C (c_Tu_has Z 0 (by omega) p (g) _ hn) mi_Tu_has k_235 (show 14 + 12 * 0 < 50 by omega) (e_Tu Z 0 _) rfl (As := [.int (p)]) ⟨Nat.le_of_ble_eq_true rfl, Nat.le_of_ble_eq_true rfl⟩ rfl rfl (Nat.le_of_ble_eq_true rfl) d_TP_ahead_33 ?_
      refine x_ifeqB C d_TP_ahead_36 53 (by decide) (fun c_6 => ?_) (fun c_6 => ?_)
      · refine x_aload_n C d_TP_ahead_53 1 rfl rfl ?_
        refine x_ldc C d_TP_ahead_54 k_197 ?_
        refine x_callVi C (c_TP_found_0 Z (g) _ rfl) mi_TP_found k_198 (show 0 < 50 by omega) (e_TP Z _) rfl (As := [.int ((-1000001))]) ⟨Nat.le_of_ble_eq_true rfl, Nat.le_of_ble_eq_true rfl⟩ rfl rfl (Nat.le_of_ble_eq_true rfl) d_TP_ahead_56 ?_
        exact x_iretK C (by first | with_reducible rfl | (simp [*]; done) | (simp_all; done)) (kfin (G' := va_up g 16 (fndR (g 16) 0)) (by first | with_reducible rfl | (simp [*]; done) | (simp_all; done)) (va_idn (by omega)).symm) d_TP_ahead_59
      · obtain ⟨pq, hpq, rfl⟩ := in_of c_6 (by omega)
        have hcp : (nI pq).toNatClampNeg = pq := nI_clamp (by omega)
        refine x_iload C d_TP_ahead_39 0 rfl ?_
        refine x_ifeq C d_TP_ahead_41 53 (by decide) (fun c_7 => ?_) (fun c_7 => ?_)
        · exact absurd c_7 (by decide)
        · refine x_iload_n C d_TP_ahead_44 4 rfl rfl ?_
          refine x_bipush C d_TP_ahead_45 (v := 100) (by decide) ?_
          refine x_callSi C (c_TP_within Z m 100 (g)) mi_TP_within k_194 (As := [.int (m), .int (100)]) ⟨Nat.le_of_ble_eq_true rfl, Nat.le_of_ble_eq_true rfl⟩ rfl rfl (Nat.le_of_ble_eq_true rfl) d_TP_ahead_47 ?_
          refine x_ifneB C d_TP_ahead_50 60 (by decide) (fun c_8 => ?_) (fun c_8 => ?_)
          · obtain ⟨mq, hmq, rfl⟩ := in_le (n := 100) c_8 (by decide)
            have hcm : (nI mq).toNatClampNeg = mq := nI_clamp (by omega)
            refine x_aload_n C d_TP_ahead_60 1 rfl rfl ?_
            refine gf_TP_forecast C k_169 d_TP_ahead_61 ?_
            refine x_iload_n C d_TP_ahead_64 4 rfl rfl ?_
            refine x_callVr C (c_Fo_behind Z mq (by omega) (g) hk0) mi_Fo_behind k_376 (show 1 < 50 by omega) (e_Fo Z (sr yC (g) 1)) rfl (As := [.int (nI mq)]) ⟨Nat.le_of_ble_eq_true rfl, Nat.le_of_ble_eq_true rfl⟩ rfl rfl (Nat.le_of_ble_eq_true rfl) d_TP_ahead_65 ?_
            refine x_iload_n C d_TP_ahead_68 2 rfl rfl ?_
            refine x_iload_n C d_TP_ahead_69 3 rfl rfl ?_
            refine x_callVi C (c_Tu_told Z 1 (by omega) pq wq (by omega) (by omega) (va_up g 1 (dysR (becR (g 1) (g 0)) mq)) _ (va_up_self _ _ _)) mi_Tu_told k_239 (show 14 + 12 * 1 < 50 by omega) (e_Tu Z 1 _) rfl (As := [.int (nI pq), .int (nI wq)]) ⟨Nat.le_of_ble_eq_true rfl, Nat.le_of_ble_eq_true rfl⟩ rfl rfl (Nat.le_of_ble_eq_true rfl) d_TP_ahead_70 ?_
            refine x_topi (x' := tld (dysR (g 0) mq) pq wq) (tld_e bec_days0 (by rw [sz_of hn hn8]; omega)) ?_
            exact x_iretK C (by first | with_reducible rfl | (simp [*]; done) | (simp_all; done)) (kfin (G' := g) (by first | with_reducible rfl | (simp [*]; done) | (simp_all; done)) rfl) d_TP_ahead_73
          · refine x_aload_n C d_TP_ahead_53 1 rfl rfl ?_
            refine x_ldc C d_TP_ahead_54 k_197 ?_
            refine x_callVi C (c_TP_found_0 Z (g) _ rfl) mi_TP_found k_198 (show 0 < 50 by omega) (e_TP Z _) rfl (As := [.int ((-1000001))]) ⟨Nat.le_of_ble_eq_true rfl, Nat.le_of_ble_eq_true rfl⟩ rfl rfl (Nat.le_of_ble_eq_true rfl) d_TP_ahead_56 ?_
            exact x_iretK C (by first | with_reducible rfl | (simp [*]; done) | (simp_all; done)) (kfin (G' := va_up g 16 (fndR (g 16) 0)) (by first | with_reducible rfl | (simp [*]; done) | (simp_all; done)) (va_idn (by omega)).symm) d_TP_ahead_59
    · have nc_5 := Ne.symm c_5
      refine x_iload_n C d_TP_ahead_10 2 rfl rfl ?_
      refine x_iconst C d_TP_ahead_11 (v := 5) (by decide) ?_
      refine x_icmp_eq C d_TP_ahead_12 21 (by decide) (fun c_9 => ?_) (fun c_9 => ?_)
      · obtain ⟨wq, hwq, rfl⟩ : ∃ j, j < 10 ∧ w = nI j := by first | exact ⟨2, by decide, by assumption⟩ | exact ⟨3, by decide, by assumption⟩ | exact ⟨5, by decide, by assumption⟩ | exact ⟨7, by decide, by assumption⟩
        have hcw : (nI wq).toNatClampNeg = wq := nI_clamp (by omega)
        refine x_iconst C d_TP_ahead_21 (v := 1) (by decide) ?_
        refine x_goto C d_TP_ahead_22 26 (by decide) ?_
        refine x_istore C d_TP_ahead_26 (by decide) (lv' := [(4, .int (1)), (0, .ref (Z.2.1 (0))), (1, .int (p)), (2, .int (nI wq)), (3, .int (m))]) rfl ?_
        refine x_aload_n C d_TP_ahead_28 1 rfl rfl ?_
        refine gf_TP_tunnel C k_165 d_TP_ahead_29 ?_
        refine x_iload_n C d_TP_ahead_32 2 rfl rfl ?_
        refine x_callVi C (c_Tu_has Z 0 (by omega) p (g) _ hn) mi_Tu_has k_235 (show 14 + 12 * 0 < 50 by omega) (e_Tu Z 0 _) rfl (As := [.int (p)]) ⟨Nat.le_of_ble_eq_true rfl, Nat.le_of_ble_eq_true rfl⟩ rfl rfl (Nat.le_of_ble_eq_true rfl) d_TP_ahead_33 ?_
        refine x_ifeqB C d_TP_ahead_36 53 (by decide) (fun c_10 => ?_) (fun c_10 => ?_)
        · refine x_aload_n C d_TP_ahead_53 1 rfl rfl ?_
          refine x_ldc C d_TP_ahead_54 k_197 ?_
          refine x_callVi C (c_TP_found_0 Z (g) _ rfl) mi_TP_found k_198 (show 0 < 50 by omega) (e_TP Z _) rfl (As := [.int ((-1000001))]) ⟨Nat.le_of_ble_eq_true rfl, Nat.le_of_ble_eq_true rfl⟩ rfl rfl (Nat.le_of_ble_eq_true rfl) d_TP_ahead_56 ?_
          exact x_iretK C (by first | with_reducible rfl | (simp [*]; done) | (simp_all; done)) (kfin (G' := va_up g 16 (fndR (g 16) 0)) (by first | with_reducible rfl | (simp [*]; done) | (simp_all; done)) (va_idn (by omega)).symm) d_TP_ahead_59
        · obtain ⟨pq, hpq, rfl⟩ := in_of c_10 (by omega)
          have hcp : (nI pq).toNatClampNeg = pq := nI_clamp (by omega)
          refine x_iload C d_TP_ahead_39 0 rfl ?_
          refine x_ifeq C d_TP_ahead_41 53 (by decide) (fun c_11 => ?_) (fun c_11 => ?_)
          · exact absurd c_11 (by decide)
          · refine x_iload_n C d_TP_ahead_44 4 rfl rfl ?_
            refine x_bipush C d_TP_ahead_45 (v := 100) (by decide) ?_
            refine x_callSi C (c_TP_within Z m 100 (g)) mi_TP_within k_194 (As := [.int (m), .int (100)]) ⟨Nat.le_of_ble_eq_true rfl, Nat.le_of_ble_eq_true rfl⟩ rfl rfl (Nat.le_of_ble_eq_true rfl) d_TP_ahead_47 ?_
            refine x_ifneB C d_TP_ahead_50 60 (by decide) (fun c_12 => ?_) (fun c_12 => ?_)
            · obtain ⟨mq, hmq, rfl⟩ := in_le (n := 100) c_12 (by decide)
              have hcm : (nI mq).toNatClampNeg = mq := nI_clamp (by omega)
              refine x_aload_n C d_TP_ahead_60 1 rfl rfl ?_
              refine gf_TP_forecast C k_169 d_TP_ahead_61 ?_
              refine x_iload_n C d_TP_ahead_64 4 rfl rfl ?_
              refine x_callVr C (c_Fo_behind Z mq (by omega) (g) hk0) mi_Fo_behind k_376 (show 1 < 50 by omega) (e_Fo Z (sr yC (g) 1)) rfl (As := [.int (nI mq)]) ⟨Nat.le_of_ble_eq_true rfl, Nat.le_of_ble_eq_true rfl⟩ rfl rfl (Nat.le_of_ble_eq_true rfl) d_TP_ahead_65 ?_
              refine x_iload_n C d_TP_ahead_68 2 rfl rfl ?_
              refine x_iload_n C d_TP_ahead_69 3 rfl rfl ?_
              refine x_callVi C (c_Tu_told Z 1 (by omega) pq wq (by omega) (by omega) (va_up g 1 (dysR (becR (g 1) (g 0)) mq)) _ (va_up_self _ _ _)) mi_Tu_told k_239 (show 14 + 12 * 1 < 50 by omega) (e_Tu Z 1 _) rfl (As := [.int (nI pq), .int (nI wq)]) ⟨Nat.le_of_ble_eq_true rfl, Nat.le_of_ble_eq_true rfl⟩ rfl rfl (Nat.le_of_ble_eq_true rfl) d_TP_ahead_70 ?_
              refine x_topi (x' := tld (dysR (g 0) mq) pq wq) (tld_e bec_days0 (by rw [sz_of hn hn8]; omega)) ?_
              exact x_iretK C (by first | with_reducible rfl | (simp [*]; done) | (simp_all; done)) (kfin (G' := g) (by first | with_reducible rfl | (simp [*]; done) | (simp_all; done)) rfl) d_TP_ahead_73
            · refine x_aload_n C d_TP_ahead_53 1 rfl rfl ?_
              refine x_ldc C d_TP_ahead_54 k_197 ?_
              refine x_callVi C (c_TP_found_0 Z (g) _ rfl) mi_TP_found k_198 (show 0 < 50 by omega) (e_TP Z _) rfl (As := [.int ((-1000001))]) ⟨Nat.le_of_ble_eq_true rfl, Nat.le_of_ble_eq_true rfl⟩ rfl rfl (Nat.le_of_ble_eq_true rfl) d_TP_ahead_56 ?_
              exact x_iretK C (by first | with_reducible rfl | (simp [*]; done) | (simp_all; done)) (kfin (G' := va_up g 16 (fndR (g 16) 0)) (by first | with_reducible rfl | (simp [*]; done) | (simp_all; done)) (va_idn (by omega)).symm) d_TP_ahead_59
      · have nc_9 := Ne.symm c_9
        refine x_iload_n C d_TP_ahead_15 2 rfl rfl ?_
        refine x_bipush C d_TP_ahead_16 (v := 7) (by decide) ?_
        refine x_icmp_ne C d_TP_ahead_18 25 (by decide) (fun c_13 => ?_) (fun c_13 => ?_)
        · have nc_13 := Ne.symm c_13
          refine x_iconst C d_TP_ahead_25 (v := 0) (by decide) ?_
          refine x_istore C d_TP_ahead_26 (by decide) (lv' := [(4, .int (0)), (0, .ref (Z.2.1 (0))), (1, .int (p)), (2, .int (w)), (3, .int (m))]) rfl ?_
          refine x_aload_n C d_TP_ahead_28 1 rfl rfl ?_
          refine gf_TP_tunnel C k_165 d_TP_ahead_29 ?_
          refine x_iload_n C d_TP_ahead_32 2 rfl rfl ?_
          refine x_callVi C (c_Tu_has Z 0 (by omega) p (g) _ hn) mi_Tu_has k_235 (show 14 + 12 * 0 < 50 by omega) (e_Tu Z 0 _) rfl (As := [.int (p)]) ⟨Nat.le_of_ble_eq_true rfl, Nat.le_of_ble_eq_true rfl⟩ rfl rfl (Nat.le_of_ble_eq_true rfl) d_TP_ahead_33 ?_
          refine x_ifeqB C d_TP_ahead_36 53 (by decide) (fun c_14 => ?_) (fun c_14 => ?_)
          · refine x_aload_n C d_TP_ahead_53 1 rfl rfl ?_
            refine x_ldc C d_TP_ahead_54 k_197 ?_
            refine x_callVi C (c_TP_found_0 Z (g) _ rfl) mi_TP_found k_198 (show 0 < 50 by omega) (e_TP Z _) rfl (As := [.int ((-1000001))]) ⟨Nat.le_of_ble_eq_true rfl, Nat.le_of_ble_eq_true rfl⟩ rfl rfl (Nat.le_of_ble_eq_true rfl) d_TP_ahead_56 ?_
            exact x_iretK C (by first | with_reducible rfl | (simp [*]; done) | (simp_all; done)) (kfin (G' := va_up g 16 (fndR (g 16) 0)) (by first | with_reducible rfl | (simp [*]; done) | (simp_all; done)) (va_idn (by omega)).symm) d_TP_ahead_59
          · obtain ⟨pq, hpq, rfl⟩ := in_of c_14 (by omega)
            have hcp : (nI pq).toNatClampNeg = pq := nI_clamp (by omega)
            refine x_iload C d_TP_ahead_39 0 rfl ?_
            refine x_ifeq C d_TP_ahead_41 53 (by decide) (fun c_15 => ?_) (fun c_15 => ?_)
            · refine x_aload_n C d_TP_ahead_53 1 rfl rfl ?_
              refine x_ldc C d_TP_ahead_54 k_197 ?_
              refine x_callVi C (c_TP_found_0 Z (g) _ rfl) mi_TP_found k_198 (show 0 < 50 by omega) (e_TP Z _) rfl (As := [.int ((-1000001))]) ⟨Nat.le_of_ble_eq_true rfl, Nat.le_of_ble_eq_true rfl⟩ rfl rfl (Nat.le_of_ble_eq_true rfl) d_TP_ahead_56 ?_
              exact x_iretK C (by first | with_reducible rfl | (simp [*]; done) | (simp_all; done)) (kfin (G' := va_up g 16 (fndR (g 16) 0)) (by first | with_reducible rfl | (simp [*]; done) | (simp_all; done)) (va_idn (by omega)).symm) d_TP_ahead_59
            · exact absurd c_15 (by decide)
        · obtain ⟨wq, hwq, rfl⟩ : ∃ j, j < 10 ∧ w = nI j := by first | exact ⟨2, by decide, by assumption⟩ | exact ⟨3, by decide, by assumption⟩ | exact ⟨5, by decide, by assumption⟩ | exact ⟨7, by decide, by assumption⟩
          have hcw : (nI wq).toNatClampNeg = wq := nI_clamp (by omega)
          refine x_iconst C d_TP_ahead_21 (v := 1) (by decide) ?_
          refine x_goto C d_TP_ahead_22 26 (by decide) ?_
          refine x_istore C d_TP_ahead_26 (by decide) (lv' := [(4, .int (1)), (0, .ref (Z.2.1 (0))), (1, .int (p)), (2, .int (nI wq)), (3, .int (m))]) rfl ?_
          refine x_aload_n C d_TP_ahead_28 1 rfl rfl ?_
          refine gf_TP_tunnel C k_165 d_TP_ahead_29 ?_
          refine x_iload_n C d_TP_ahead_32 2 rfl rfl ?_
          refine x_callVi C (c_Tu_has Z 0 (by omega) p (g) _ hn) mi_Tu_has k_235 (show 14 + 12 * 0 < 50 by omega) (e_Tu Z 0 _) rfl (As := [.int (p)]) ⟨Nat.le_of_ble_eq_true rfl, Nat.le_of_ble_eq_true rfl⟩ rfl rfl (Nat.le_of_ble_eq_true rfl) d_TP_ahead_33 ?_
          refine x_ifeqB C d_TP_ahead_36 53 (by decide) (fun c_16 => ?_) (fun c_16 => ?_)
          · refine x_aload_n C d_TP_ahead_53 1 rfl rfl ?_
            refine x_ldc C d_TP_ahead_54 k_197 ?_
            refine x_callVi C (c_TP_found_0 Z (g) _ rfl) mi_TP_found k_198 (show 0 < 50 by omega) (e_TP Z _) rfl (As := [.int ((-1000001))]) ⟨Nat.le_of_ble_eq_true rfl, Nat.le_of_ble_eq_true rfl⟩ rfl rfl (Nat.le_of_ble_eq_true rfl) d_TP_ahead_56 ?_
            exact x_iretK C (by first | with_reducible rfl | (simp [*]; done) | (simp_all; done)) (kfin (G' := va_up g 16 (fndR (g 16) 0)) (by first | with_reducible rfl | (simp [*]; done) | (simp_all; done)) (va_idn (by omega)).symm) d_TP_ahead_59
          · obtain ⟨pq, hpq, rfl⟩ := in_of c_16 (by omega)
            have hcp : (nI pq).toNatClampNeg = pq := nI_clamp (by omega)
            refine x_iload C d_TP_ahead_39 0 rfl ?_
            refine x_ifeq C d_TP_ahead_41 53 (by decide) (fun c_17 => ?_) (fun c_17 => ?_)
            · exact absurd c_17 (by decide)
            · refine x_iload_n C d_TP_ahead_44 4 rfl rfl ?_
              refine x_bipush C d_TP_ahead_45 (v := 100) (by decide) ?_
              refine x_callSi C (c_TP_within Z m 100 (g)) mi_TP_within k_194 (As := [.int (m), .int (100)]) ⟨Nat.le_of_ble_eq_true rfl, Nat.le_of_ble_eq_true rfl⟩ rfl rfl (Nat.le_of_ble_eq_true rfl) d_TP_ahead_47 ?_
              refine x_ifneB C d_TP_ahead_50 60 (by decide) (fun c_18 => ?_) (fun c_18 => ?_)
              · obtain ⟨mq, hmq, rfl⟩ := in_le (n := 100) c_18 (by decide)
                have hcm : (nI mq).toNatClampNeg = mq := nI_clamp (by omega)
                refine x_aload_n C d_TP_ahead_60 1 rfl rfl ?_
                refine gf_TP_forecast C k_169 d_TP_ahead_61 ?_
                refine x_iload_n C d_TP_ahead_64 4 rfl rfl ?_
                refine x_callVr C (c_Fo_behind Z mq (by omega) (g) hk0) mi_Fo_behind k_376 (show 1 < 50 by omega) (e_Fo Z (sr yC (g) 1)) rfl (As := [.int (nI mq)]) ⟨Nat.le_of_ble_eq_true rfl, Nat.le_of_ble_eq_true rfl⟩ rfl rfl (Nat.le_of_ble_eq_true rfl) d_TP_ahead_65 ?_
                refine x_iload_n C d_TP_ahead_68 2 rfl rfl ?_
                refine x_iload_n C d_TP_ahead_69 3 rfl rfl ?_
                refine x_callVi C (c_Tu_told Z 1 (by omega) pq wq (by omega) (by omega) (va_up g 1 (dysR (becR (g 1) (g 0)) mq)) _ (va_up_self _ _ _)) mi_Tu_told k_239 (show 14 + 12 * 1 < 50 by omega) (e_Tu Z 1 _) rfl (As := [.int (nI pq), .int (nI wq)]) ⟨Nat.le_of_ble_eq_true rfl, Nat.le_of_ble_eq_true rfl⟩ rfl rfl (Nat.le_of_ble_eq_true rfl) d_TP_ahead_70 ?_
                refine x_topi (x' := tld (dysR (g 0) mq) pq wq) (tld_e bec_days0 (by rw [sz_of hn hn8]; omega)) ?_
                exact x_iretK C (by first | with_reducible rfl | (simp [*]; done) | (simp_all; done)) (kfin (G' := g) (by first | with_reducible rfl | (simp [*]; done) | (simp_all; done)) rfl) d_TP_ahead_73
              · refine x_aload_n C d_TP_ahead_53 1 rfl rfl ?_
                refine x_ldc C d_TP_ahead_54 k_197 ?_
                refine x_callVi C (c_TP_found_0 Z (g) _ rfl) mi_TP_found k_198 (show 0 < 50 by omega) (e_TP Z _) rfl (As := [.int ((-1000001))]) ⟨Nat.le_of_ble_eq_true rfl, Nat.le_of_ble_eq_true rfl⟩ rfl rfl (Nat.le_of_ble_eq_true rfl) d_TP_ahead_56 ?_
                exact x_iretK C (by first | with_reducible rfl | (simp [*]; done) | (simp_all; done)) (kfin (G' := va_up g 16 (fndR (g 16) 0)) (by first | with_reducible rfl | (simp [*]; done) | (simp_all; done)) (va_idn (by omega)).symm) d_TP_ahead_59

set_option maxRecDepth 100000 in
set_option maxHeartbeats 600000 in
theorem c_TP_noise (Z : ZT) (m : Int32) (g : St)  (hk : okR (g 0)) : CT yC Z y_TP_noise b_TP_noise 2 (some (.int)) 6 137 [.ref (Z.2.1 (0)), .int (m)] (g) (QkI yC Z (if (0 ≤ m ∧ m ≤ 100) then dysR (g 0) m.toNatClampNeg 3 else (-1000001)) (fun u => ∃ ρ : Nat → Int32, u = va_up (if (0 ≤ m ∧ m ≤ 100) then g else va_up g 16 (fndR (g 16) 0)) 1 ρ)) := by
  refine CT.mk "TunnelPeace" (by decide) rfl (Nat.le_of_ble_eq_true rfl) (fun X C => ?_)
  refine x_lv [0, 1] (lv' := [(0, .ref (Z.2.1 (0))), (1, .int (m))]) rfl ?_
  have hk0 := hk
  obtain ⟨⟨n, hn8, hn⟩, dd, hdd, hd⟩ := hk
  refine x_iload_n C d_TP_noise_0 1 rfl rfl ?_
  refine x_bipush C d_TP_noise_1 (v := 100) (by decide) ?_
  refine x_callSi C (c_TP_within Z m 100 (g)) mi_TP_within k_194 (As := [.int (m), .int (100)]) ⟨Nat.le_of_ble_eq_true rfl, Nat.le_of_ble_eq_true rfl⟩ rfl rfl (Nat.le_of_ble_eq_true rfl) d_TP_noise_3 ?_
  refine x_ifeqB C d_TP_noise_6 23 (by decide) (fun c_1 => ?_) (fun c_1 => ?_)
  · refine x_aload_n C d_TP_noise_23 0 rfl rfl ?_
    refine x_ldc C d_TP_noise_24 k_197 ?_
    refine x_callVi C (c_TP_found_0 Z (g) _ rfl) mi_TP_found k_198 (show 0 < 50 by omega) (e_TP Z _) rfl (As := [.int ((-1000001))]) ⟨Nat.le_of_ble_eq_true rfl, Nat.le_of_ble_eq_true rfl⟩ rfl rfl (Nat.le_of_ble_eq_true rfl) d_TP_noise_26 ?_
    exact x_iretK C (by first | with_reducible rfl | (simp [*]; done) | (simp_all; done)) (kfin (G' := va_up g 16 (fndR (g 16) 0)) (by first | with_reducible rfl | (simp [*]; done) | (simp_all; done)) (va_idn (by omega)).symm) d_TP_noise_29
  · obtain ⟨mq, hmq, rfl⟩ := in_le (n := 100) c_1 (by decide)
    have hcm : (nI mq).toNatClampNeg = mq := nI_clamp (by omega)
    refine x_aload_n C d_TP_noise_9 0 rfl rfl ?_
    refine gf_TP_forecast C k_169 d_TP_noise_10 ?_
    refine x_iload_n C d_TP_noise_13 1 rfl rfl ?_
    refine x_callVr C (c_Fo_behind Z mq (by omega) (g) hk0) mi_Fo_behind k_376 (show 1 < 50 by omega) (e_Fo Z (sr yC (g) 1)) rfl (As := [.int (nI mq)]) ⟨Nat.le_of_ble_eq_true rfl, Nat.le_of_ble_eq_true rfl⟩ rfl rfl (Nat.le_of_ble_eq_true rfl) d_TP_noise_14 ?_
    refine gf_Tu_guns C (by omega) (v := dysR (g 0) mq 3) (Eq.trans (congrFun (va_up_self _ _ _) _) (bec_days0.hd (by decide))) k_69 d_TP_noise_17 ?_
    refine x_goto C d_TP_noise_20 29 (by decide) ?_
    exact x_iretK C (by first | with_reducible rfl | (simp [*]; done) | (simp_all; done)) (kfin (G' := g) (by first | with_reducible rfl | (simp [*]; done) | (simp_all; done)) rfl) d_TP_noise_29

set_option maxRecDepth 100000 in
set_option maxHeartbeats 600000 in
theorem c_TP_orNone_t (Z : ZT) (x : Int32) (hx : x < 0) (g : St)  (r : Nat → Int32) (hr : g 16 = r) : CT yC Z y_TP_orNone b_TP_orNone 2 (some (.int)) 2 43 [.ref (Z.2.1 (0)), .int (x)] (g) (QcI yC Z ((-1000004)) (va_up g 16 (fndR r 3))) := by
  refine CT.mk "TunnelPeace" (by decide) rfl (Nat.le_of_ble_eq_true rfl) (fun X C => ?_)
  refine x_lv [0, 1] (lv' := [(0, .ref (Z.2.1 (0))), (1, .int (x))]) rfl ?_
  subst hr
  have nhx := Int32.not_le.mpr hx
  refine x_iload_n C d_TP_orNone_0 1 rfl rfl ?_
  refine x_ifge C d_TP_orNone_1 13 (by decide) (fun c_1 => ?_) (fun c_1 => ?_)
  · have nc_1 := Int32.not_lt.mpr c_1
    refine x_iload_n C d_TP_orNone_13 1 rfl rfl ?_
    exact absurd (by assumption) nhx
  · have nc_1 := Int32.not_le.mp c_1
    refine x_aload_n C d_TP_orNone_4 0 rfl rfl ?_
    refine x_ldc C d_TP_orNone_5 k_409 ?_
    refine x_callVi C (c_TP_found_3 Z (g) _ rfl) mi_TP_found k_198 (show 0 < 50 by omega) (e_TP Z _) rfl (As := [.int ((-1000004))]) ⟨Nat.le_of_ble_eq_true rfl, Nat.le_of_ble_eq_true rfl⟩ rfl rfl (Nat.le_of_ble_eq_true rfl) d_TP_orNone_7 ?_
    refine x_goto C d_TP_orNone_10 14 (by decide) ?_
    exact x_iret C rfl rfl d_TP_orNone_14

set_option maxRecDepth 100000 in
set_option maxHeartbeats 600000 in
theorem c_TP_orNone_f (Z : ZT) (x : Int32) (hx : ¬ x < 0) (g : St)  : CT yC Z y_TP_orNone b_TP_orNone 2 (some (.int)) 2 43 [.ref (Z.2.1 (0)), .int (x)] (g) (QcI yC Z (x) (g)) := by
  refine CT.mk "TunnelPeace" (by decide) rfl (Nat.le_of_ble_eq_true rfl) (fun X C => ?_)
  refine x_lv [0, 1] (lv' := [(0, .ref (Z.2.1 (0))), (1, .int (x))]) rfl ?_
  have nhx := Int32.not_lt.mp hx
  refine x_iload_n C d_TP_orNone_0 1 rfl rfl ?_
  refine x_ifge C d_TP_orNone_1 13 (by decide) (fun c_1 => ?_) (fun c_1 => ?_)
  · have nc_1 := Int32.not_lt.mpr c_1
    refine x_iload_n C d_TP_orNone_13 1 rfl rfl ?_
    exact x_iret C rfl rfl d_TP_orNone_14
  · have nc_1 := Int32.not_le.mp c_1
    refine x_aload_n C d_TP_orNone_4 0 rfl rfl ?_
    refine x_ldc C d_TP_orNone_5 k_409 ?_
    refine x_callVi C (c_TP_found_3 Z (g) _ rfl) mi_TP_found k_198 (show 0 < 50 by omega) (e_TP Z _) rfl (As := [.int ((-1000004))]) ⟨Nat.le_of_ble_eq_true rfl, Nat.le_of_ble_eq_true rfl⟩ rfl rfl (Nat.le_of_ble_eq_true rfl) d_TP_orNone_7 ?_
    refine x_goto C d_TP_orNone_10 14 (by decide) ?_
    exact absurd nhx (by assumption)

set_option maxRecDepth 100000 in
set_option maxHeartbeats 600000 in
theorem c_TP_stills (Z : ZT) (v : Int32) (g : St)  (hk : okR (g 0)) : CT yC Z y_TP_stills b_TP_stills 2 (some (.int)) 5 116 [.ref (Z.2.1 (0)), .int (v)] (g) (QkI yC Z (if ¬ (0 ≤ v ∧ v ≤ 99) then (-1000001) else if oI (fdo (fun i_ => decide (dysR (g 0) i_ 3 ≤ v)) 201 0) < 0 then (-1000004) else oI (fdo (fun i_ => decide (dysR (g 0) i_ 3 ≤ v)) 201 0)) (fun u => ∃ ρ : Nat → Int32, u = va_up (if ¬ (0 ≤ v ∧ v ≤ 99) then va_up g 16 (fndR (g 16) 0) else if oI (fdo (fun i_ => decide (dysR (g 0) i_ 3 ≤ v)) 201 0) < 0 then va_up g 16 (fndR (g 16) 3) else g) 1 ρ)) := by
  refine CT.mk "TunnelPeace" (by decide) rfl (Nat.le_of_ble_eq_true rfl) (fun X C => ?_)
  refine x_lv [0, 1] (lv' := [(0, .ref (Z.2.1 (0))), (1, .int (v))]) rfl ?_
  have hk0 := hk
  obtain ⟨⟨n, hn8, hn⟩, dd, hdd, hd⟩ := hk
  refine x_iload_n C d_TP_stills_0 1 rfl rfl ?_
  refine x_bipush C d_TP_stills_1 (v := 99) (by decide) ?_
  refine x_callSi C (c_TP_within Z v 99 (g)) mi_TP_within k_194 (As := [.int (v), .int (99)]) ⟨Nat.le_of_ble_eq_true rfl, Nat.le_of_ble_eq_true rfl⟩ rfl rfl (Nat.le_of_ble_eq_true rfl) d_TP_stills_3 ?_
  refine x_ifeqB C d_TP_stills_6 24 (by decide) (fun c_1 => ?_) (fun c_1 => ?_)
  · refine x_aload_n C d_TP_stills_24 0 rfl rfl ?_
    refine x_ldc C d_TP_stills_25 k_197 ?_
    refine x_callVi C (c_TP_found_0 Z (g) _ rfl) mi_TP_found k_198 (show 0 < 50 by omega) (e_TP Z _) rfl (As := [.int ((-1000001))]) ⟨Nat.le_of_ble_eq_true rfl, Nat.le_of_ble_eq_true rfl⟩ rfl rfl (Nat.le_of_ble_eq_true rfl) d_TP_stills_27 ?_
    exact x_iretK C (by first | with_reducible rfl | (simp [*]; done) | (simp_all; done)) (kfin (G' := va_up g 16 (fndR (g 16) 0)) (by first | with_reducible rfl | (simp [*]; done) | (simp_all; done)) (va_idn (by omega)).symm) d_TP_stills_30
  · refine x_aload_n C d_TP_stills_9 0 rfl rfl ?_
    refine x_aload_n C d_TP_stills_10 0 rfl rfl ?_
    refine gf_TP_forecast C k_169 d_TP_stills_11 ?_
    refine x_iload_n C d_TP_stills_14 1 rfl rfl ?_
    refine x_callVki C (c_Fo_daysTillGuns Z v (g) hk0) mi_Fo_daysTillGuns k_400 (show 1 < 50 by omega) (e_Fo Z (sr yC (g) 1)) rfl (As := [.int (v)]) ⟨Nat.le_of_ble_eq_true rfl, Nat.le_of_ble_eq_true rfl⟩ rfl rfl (Nat.le_of_ble_eq_true rfl) d_TP_stills_15 (fun u_ hu_ => ?_)
    obtain ⟨ρ_2, rfl⟩ := hu_
    by_cases c_3 : (oI (fdo (fun i_ => decide (dysR (g 0) i_ 3 ≤ v)) 201 0)) < 0
    · skip
      refine x_callVi C (c_TP_orNone_t Z (oI (fdo (fun i_ => decide (dysR (g 0) i_ 3 ≤ v)) 201 0)) (by assumption) (va_up g 1 ρ_2) _ (va_up_ne _ _ (by omega))) mi_TP_orNone k_405 (show 0 < 50 by omega) (e_TP Z _) rfl (As := [.int (oI (fdo (fun i_ => decide (dysR (g 0) i_ 3 ≤ v)) 201 0))]) ⟨Nat.le_of_ble_eq_true rfl, Nat.le_of_ble_eq_true rfl⟩ rfl rfl (Nat.le_of_ble_eq_true rfl) d_TP_stills_18 ?_
      refine x_goto C d_TP_stills_21 30 (by decide) ?_
      exact x_iretK C (by first | with_reducible rfl | (simp [*]; done) | (simp_all; done)) (kfin (G' := va_up g 16 (fndR (g 16) 3)) (by first | with_reducible rfl | (simp [*]; done) | (simp_all; done)) (va_com (by omega))) d_TP_stills_30
    · skip
      refine x_callVi C (c_TP_orNone_f Z (oI (fdo (fun i_ => decide (dysR (g 0) i_ 3 ≤ v)) 201 0)) (by assumption) (va_up g 1 ρ_2)) mi_TP_orNone k_405 (show 0 < 50 by omega) (e_TP Z _) rfl (As := [.int (oI (fdo (fun i_ => decide (dysR (g 0) i_ 3 ≤ v)) 201 0))]) ⟨Nat.le_of_ble_eq_true rfl, Nat.le_of_ble_eq_true rfl⟩ rfl rfl (Nat.le_of_ble_eq_true rfl) d_TP_stills_18 ?_
      refine x_goto C d_TP_stills_21 30 (by decide) ?_
      exact x_iretK C (by first | with_reducible rfl | (simp [*]; done) | (simp_all; done)) (kfin (G' := g) (by first | with_reducible rfl | (simp [*]; done) | (simp_all; done)) rfl) d_TP_stills_30

set_option maxRecDepth 100000 in
set_option maxHeartbeats 600000 in
theorem c_TP_meets (Z : ZT) (p v : Int32) (g : St)  (hk : okR (g 0)) : CT yC Z y_TP_meets b_TP_meets 3 (some (.int)) 5 117 [.ref (Z.2.1 (0)), .int (p), .int (v)] (g) (QkI yC Z (if ¬ ((0 ≤ p ∧ p < g 0 1) ∧ (0 ≤ v ∧ v ≤ 9999)) then (-1000001) else if oI (fdo (fun i_ => decide (v ≤ dysR (g 0) i_ (pI p.toNatClampNeg 5))) 201 0) < 0 then (-1000004) else oI (fdo (fun i_ => decide (v ≤ dysR (g 0) i_ (pI p.toNatClampNeg 5))) 201 0)) (fun u => ∃ ρ : Nat → Int32, u = va_up (if ¬ ((0 ≤ p ∧ p < g 0 1) ∧ (0 ≤ v ∧ v ≤ 9999)) then va_up g 16 (fndR (g 16) 0) else if oI (fdo (fun i_ => decide (v ≤ dysR (g 0) i_ (pI p.toNatClampNeg 5))) 201 0) < 0 then va_up g 16 (fndR (g 16) 3) else g) 1 ρ)) := by
  refine CT.mk "TunnelPeace" (by decide) rfl (Nat.le_of_ble_eq_true rfl) (fun X C => ?_)
  refine x_lv [0, 1, 2] (lv' := [(0, .ref (Z.2.1 (0))), (1, .int (p)), (2, .int (v))]) rfl ?_
  have hk0 := hk
  obtain ⟨⟨n, hn8, hn⟩, dd, hdd, hd⟩ := hk
  refine x_aload_n C d_TP_meets_0 0 rfl rfl ?_
  refine gf_TP_tunnel C k_165 d_TP_meets_1 ?_
  refine x_iload_n C d_TP_meets_4 1 rfl rfl ?_
  refine x_callVi C (c_Tu_has Z 0 (by omega) p (g) _ hn) mi_Tu_has k_235 (show 14 + 12 * 0 < 50 by omega) (e_Tu Z 0 _) rfl (As := [.int (p)]) ⟨Nat.le_of_ble_eq_true rfl, Nat.le_of_ble_eq_true rfl⟩ rfl rfl (Nat.le_of_ble_eq_true rfl) d_TP_meets_5 ?_
  refine x_ifeqB C d_TP_meets_8 23 (by decide) (fun c_1 => ?_) (fun c_1 => ?_)
  · refine x_aload_n C d_TP_meets_23 0 rfl rfl ?_
    refine x_ldc C d_TP_meets_24 k_197 ?_
    refine x_callVi C (c_TP_found_0 Z (g) _ rfl) mi_TP_found k_198 (show 0 < 50 by omega) (e_TP Z _) rfl (As := [.int ((-1000001))]) ⟨Nat.le_of_ble_eq_true rfl, Nat.le_of_ble_eq_true rfl⟩ rfl rfl (Nat.le_of_ble_eq_true rfl) d_TP_meets_26 ?_
    exact x_iretK C (by first | with_reducible rfl | (simp [*]; done) | (simp_all; done)) (kfin (G' := va_up g 16 (fndR (g 16) 0)) (by first | with_reducible rfl | (simp [*]; done) | (simp_all; done)) (va_idn (by omega)).symm) d_TP_meets_29
  · obtain ⟨pq, hpq, rfl⟩ := in_of c_1 (by omega)
    have hcp : (nI pq).toNatClampNeg = pq := nI_clamp (by omega)
    refine x_iload_n C d_TP_meets_11 2 rfl rfl ?_
    refine x_getst0 C k_266 d_TP_meets_12 ?_
    refine x_iconst C d_TP_meets_15 (v := 5) (by decide) ?_
    refine x_stld0 C 5 (by decide) (by decide) rfl d_TP_meets_16 ?_
    refine x_callSi C (c_TP_within Z v 9999 (g)) mi_TP_within k_194 (As := [.int (v), .int (9999)]) ⟨Nat.le_of_ble_eq_true rfl, Nat.le_of_ble_eq_true rfl⟩ rfl rfl (Nat.le_of_ble_eq_true rfl) d_TP_meets_17 ?_
    refine x_ifneB C d_TP_meets_20 30 (by decide) (fun c_2 => ?_) (fun c_2 => ?_)
    · refine x_aload_n C d_TP_meets_30 0 rfl rfl ?_
      refine x_aload_n C d_TP_meets_31 0 rfl rfl ?_
      refine gf_TP_forecast C k_169 d_TP_meets_32 ?_
      refine x_iload_n C d_TP_meets_35 1 rfl rfl ?_
      refine x_iload_n C d_TP_meets_36 2 rfl rfl ?_
      refine x_callVki C (c_Fo_daysTillMet Z pq v (g) hk0 (by rw [sz_of hn hn8]; omega) (by omega)) mi_Fo_daysTillMet k_414 (show 1 < 50 by omega) (e_Fo Z (sr yC (g) 1)) rfl (As := [.int (nI pq), .int (v)]) ⟨Nat.le_of_ble_eq_true rfl, Nat.le_of_ble_eq_true rfl⟩ rfl rfl (Nat.le_of_ble_eq_true rfl) d_TP_meets_37 (fun u_ hu_ => ?_)
      obtain ⟨ρ_3, rfl⟩ := hu_
      by_cases c_4 : (oI (fdo (fun i_ => decide (v ≤ dysR (g 0) i_ (pI pq 5))) 201 0)) < 0
      · skip
        refine x_callVi C (c_TP_orNone_t Z (oI (fdo (fun i_ => decide (v ≤ dysR (g 0) i_ (pI pq 5))) 201 0)) (by assumption) (va_up g 1 ρ_3) _ (va_up_ne _ _ (by omega))) mi_TP_orNone k_405 (show 0 < 50 by omega) (e_TP Z _) rfl (As := [.int (oI (fdo (fun i_ => decide (v ≤ dysR (g 0) i_ (pI pq 5))) 201 0))]) ⟨Nat.le_of_ble_eq_true rfl, Nat.le_of_ble_eq_true rfl⟩ rfl rfl (Nat.le_of_ble_eq_true rfl) d_TP_meets_40 ?_
        exact x_iretK C (by first | with_reducible rfl | (simp [*]; done) | (simp_all; done)) (kfin (G' := va_up g 16 (fndR (g 16) 3)) (by first | with_reducible rfl | (simp [*]; done) | (simp_all; done)) (va_com (by omega))) d_TP_meets_43
      · skip
        refine x_callVi C (c_TP_orNone_f Z (oI (fdo (fun i_ => decide (v ≤ dysR (g 0) i_ (pI pq 5))) 201 0)) (by assumption) (va_up g 1 ρ_3)) mi_TP_orNone k_405 (show 0 < 50 by omega) (e_TP Z _) rfl (As := [.int (oI (fdo (fun i_ => decide (v ≤ dysR (g 0) i_ (pI pq 5))) 201 0))]) ⟨Nat.le_of_ble_eq_true rfl, Nat.le_of_ble_eq_true rfl⟩ rfl rfl (Nat.le_of_ble_eq_true rfl) d_TP_meets_40 ?_
        exact x_iretK C (by first | with_reducible rfl | (simp [*]; done) | (simp_all; done)) (kfin (G' := g) (by first | with_reducible rfl | (simp [*]; done) | (simp_all; done)) rfl) d_TP_meets_43
    · refine x_aload_n C d_TP_meets_23 0 rfl rfl ?_
      refine x_ldc C d_TP_meets_24 k_197 ?_
      refine x_callVi C (c_TP_found_0 Z (g) _ rfl) mi_TP_found k_198 (show 0 < 50 by omega) (e_TP Z _) rfl (As := [.int ((-1000001))]) ⟨Nat.le_of_ble_eq_true rfl, Nat.le_of_ble_eq_true rfl⟩ rfl rfl (Nat.le_of_ble_eq_true rfl) d_TP_meets_26 ?_
      exact x_iretK C (by first | with_reducible rfl | (simp [*]; done) | (simp_all; done)) (kfin (G' := va_up g 16 (fndR (g 16) 0)) (by first | with_reducible rfl | (simp [*]; done) | (simp_all; done)) (va_idn (by omega)).symm) d_TP_meets_29

set_option maxRecDepth 100000 in
set_option maxHeartbeats 600000 in
theorem c_TP_lapses (Z : ZT)  (g : St)  (hk : okR (g 0)) : CT yC Z y_TP_lapses b_TP_lapses 1 (some (.int)) 5 115 [.ref (Z.2.1 (0))] (g) (QkI yC Z (if oI (fdo (fun i_ => decide (seaN (dysR (g 0) i_) (sz (g 0)) = 0)) 201 0) < 0 then (-1000004) else oI (fdo (fun i_ => decide (seaN (dysR (g 0) i_) (sz (g 0)) = 0)) 201 0)) (fun u => ∃ ρ : Nat → Int32, u = va_up (if oI (fdo (fun i_ => decide (seaN (dysR (g 0) i_) (sz (g 0)) = 0)) 201 0) < 0 then va_up g 16 (fndR (g 16) 3) else g) 1 ρ)) := by
  refine CT.mk "TunnelPeace" (by decide) rfl (Nat.le_of_ble_eq_true rfl) (fun X C => ?_)
  refine x_lv [0] (lv' := [(0, .ref (Z.2.1 (0)))]) rfl ?_
  have hk0 := hk
  obtain ⟨⟨n, hn8, hn⟩, dd, hdd, hd⟩ := hk
  refine x_aload_n C d_TP_lapses_0 0 rfl rfl ?_
  refine x_aload_n C d_TP_lapses_1 0 rfl rfl ?_
  refine gf_TP_forecast C k_169 d_TP_lapses_2 ?_
  refine x_callVki C (c_Fo_daysTillNoSeason Z (g) hk0) mi_Fo_daysTillNoSeason k_422 (show 1 < 50 by omega) (e_Fo Z (sr yC (g) 1)) rfl (As := []) ⟨Nat.le_of_ble_eq_true rfl, Nat.le_of_ble_eq_true rfl⟩ rfl rfl (Nat.le_of_ble_eq_true rfl) d_TP_lapses_5 (fun u_ hu_ => ?_)
  obtain ⟨ρ_1, rfl⟩ := hu_
  by_cases c_2 : (oI (fdo (fun i_ => decide (seaN (dysR (g 0) i_) (sz (g 0)) = 0)) 201 0)) < 0
  · skip
    refine x_callVi C (c_TP_orNone_t Z (oI (fdo (fun i_ => decide (seaN (dysR (g 0) i_) (sz (g 0)) = 0)) 201 0)) (by assumption) (va_up g 1 ρ_1) _ (va_up_ne _ _ (by omega))) mi_TP_orNone k_405 (show 0 < 50 by omega) (e_TP Z _) rfl (As := [.int (oI (fdo (fun i_ => decide (seaN (dysR (g 0) i_) (sz (g 0)) = 0)) 201 0))]) ⟨Nat.le_of_ble_eq_true rfl, Nat.le_of_ble_eq_true rfl⟩ rfl rfl (Nat.le_of_ble_eq_true rfl) d_TP_lapses_8 ?_
    exact x_iretK C (by first | with_reducible rfl | (simp [*]; done) | (simp_all; done)) (kfin (G' := va_up g 16 (fndR (g 16) 3)) (by first | with_reducible rfl | (simp [*]; done) | (simp_all; done)) (va_com (by omega))) d_TP_lapses_11
  · skip
    refine x_callVi C (c_TP_orNone_f Z (oI (fdo (fun i_ => decide (seaN (dysR (g 0) i_) (sz (g 0)) = 0)) 201 0)) (by assumption) (va_up g 1 ρ_1)) mi_TP_orNone k_405 (show 0 < 50 by omega) (e_TP Z _) rfl (As := [.int (oI (fdo (fun i_ => decide (seaN (dysR (g 0) i_) (sz (g 0)) = 0)) 201 0))]) ⟨Nat.le_of_ble_eq_true rfl, Nat.le_of_ble_eq_true rfl⟩ rfl rfl (Nat.le_of_ble_eq_true rfl) d_TP_lapses_8 ?_
    exact x_iretK C (by first | with_reducible rfl | (simp [*]; done) | (simp_all; done)) (kfin (G' := g) (by first | with_reducible rfl | (simp [*]; done) | (simp_all; done)) rfl) d_TP_lapses_11

set_option maxRecDepth 100000 in
set_option maxHeartbeats 600000 in
theorem c_TP_placeFor (Z : ZT) (i m : Int32) (g : St)  (hk : okR (g 0)) : CT yC Z y_TP_placeFor b_TP_placeFor 3 (some (.int)) 6 141 [.ref (Z.2.1 (0)), .int (i), .int (m)] (g) (QkI yC Z (if (0 ≤ i ∧ i ≤ 5) ∧ (0 ≤ m ∧ m ≤ 40) then (bst (fun c_ => dysR (upd (g 0) (4 + i.toNatClampNeg) (nI c_)) m.toNatClampNeg 3) 16).1 else (-1000001)) (fun u => ∃ ρ : Nat → Int32, u = va_up (if (0 ≤ i ∧ i ≤ 5) ∧ (0 ≤ m ∧ m ≤ 40) then g else va_up g 16 (fndR (g 16) 0)) 1 ρ)) := by
  refine CT.mk "TunnelPeace" (by decide) rfl (Nat.le_of_ble_eq_true rfl) (fun X C => ?_)
  refine x_lv [0, 1, 2] (lv' := [(0, .ref (Z.2.1 (0))), (1, .int (i)), (2, .int (m))]) rfl ?_
  have hk0 := hk
  obtain ⟨⟨n, hn8, hn⟩, dd, hdd, hd⟩ := hk
  refine x_iload_n C d_TP_placeFor_0 1 rfl rfl ?_
  refine x_iconst C d_TP_placeFor_1 (v := 5) (by decide) ?_
  refine x_callSi C (c_TP_within Z i 5 (g)) mi_TP_within k_194 (As := [.int (i), .int (5)]) ⟨Nat.le_of_ble_eq_true rfl, Nat.le_of_ble_eq_true rfl⟩ rfl rfl (Nat.le_of_ble_eq_true rfl) d_TP_placeFor_2 ?_
  refine x_ifeqB C d_TP_placeFor_5 17 (by decide) (fun c_1 => ?_) (fun c_1 => ?_)
  · refine x_aload_n C d_TP_placeFor_17 0 rfl rfl ?_
    refine x_ldc C d_TP_placeFor_18 k_197 ?_
    refine x_callVi C (c_TP_found_0 Z (g) _ rfl) mi_TP_found k_198 (show 0 < 50 by omega) (e_TP Z _) rfl (As := [.int ((-1000001))]) ⟨Nat.le_of_ble_eq_true rfl, Nat.le_of_ble_eq_true rfl⟩ rfl rfl (Nat.le_of_ble_eq_true rfl) d_TP_placeFor_20 ?_
    exact x_iretK C (by first | with_reducible rfl | (simp [*]; done) | (simp_all; done)) (kfin (G' := va_up g 16 (fndR (g 16) 0)) (by first | with_reducible rfl | (simp [*]; done) | (simp_all; done)) (va_idn (by omega)).symm) d_TP_placeFor_23
  · obtain ⟨iq, hiq, rfl⟩ := in_le (n := 5) c_1 (by decide)
    have hci : (nI iq).toNatClampNeg = iq := nI_clamp (by omega)
    refine x_iload_n C d_TP_placeFor_8 2 rfl rfl ?_
    refine x_bipush C d_TP_placeFor_9 (v := 40) (by decide) ?_
    refine x_callSi C (c_TP_within Z m 40 (g)) mi_TP_within k_194 (As := [.int (m), .int (40)]) ⟨Nat.le_of_ble_eq_true rfl, Nat.le_of_ble_eq_true rfl⟩ rfl rfl (Nat.le_of_ble_eq_true rfl) d_TP_placeFor_11 ?_
    refine x_ifneB C d_TP_placeFor_14 24 (by decide) (fun c_2 => ?_) (fun c_2 => ?_)
    · obtain ⟨mq, hmq, rfl⟩ := in_le (n := 40) c_2 (by decide)
      have hcm : (nI mq).toNatClampNeg = mq := nI_clamp (by omega)
      refine x_aload_n C d_TP_placeFor_24 0 rfl rfl ?_
      refine gf_TP_forecast C k_169 d_TP_placeFor_25 ?_
      refine x_iload_n C d_TP_placeFor_28 1 rfl rfl ?_
      refine x_iload_n C d_TP_placeFor_29 2 rfl rfl ?_
      refine x_callVki C (c_Fo_stillestCell Z iq mq (by omega) (by omega) (g) hk0) mi_Fo_stillestCell k_431 (show 1 < 50 by omega) (e_Fo Z (sr yC (g) 1)) rfl (As := [.int (nI iq), .int (nI mq)]) ⟨Nat.le_of_ble_eq_true rfl, Nat.le_of_ble_eq_true rfl⟩ rfl rfl (Nat.le_of_ble_eq_true rfl) d_TP_placeFor_30 (fun u_ hu_ => ?_)
      obtain ⟨ρ_3, rfl⟩ := hu_
      exact x_iretK C (by first | with_reducible rfl | (simp [*]; done) | (simp_all; done)) (kfin (G' := g) (by first | with_reducible rfl | (simp [*]; done) | (simp_all; done)) rfl) d_TP_placeFor_33
    · refine x_aload_n C d_TP_placeFor_17 0 rfl rfl ?_
      refine x_ldc C d_TP_placeFor_18 k_197 ?_
      refine x_callVi C (c_TP_found_0 Z (g) _ rfl) mi_TP_found k_198 (show 0 < 50 by omega) (e_TP Z _) rfl (As := [.int ((-1000001))]) ⟨Nat.le_of_ble_eq_true rfl, Nat.le_of_ble_eq_true rfl⟩ rfl rfl (Nat.le_of_ble_eq_true rfl) d_TP_placeFor_20 ?_
      exact x_iretK C (by first | with_reducible rfl | (simp [*]; done) | (simp_all; done)) (kfin (G' := va_up g 16 (fndR (g 16) 0)) (by first | with_reducible rfl | (simp [*]; done) | (simp_all; done)) (va_idn (by omega)).symm) d_TP_placeFor_23

set_option maxRecDepth 100000 in
set_option maxHeartbeats 600000 in
theorem c_TP_kindFor (Z : ZT) (p m : Int32) (g : St)  (hk : okR (g 0)) : CT yC Z y_TP_kindFor b_TP_kindFor 3 (some (.int)) 6 141 [.ref (Z.2.1 (0)), .int (p), .int (m)] (g) (QkI yC Z (if (0 ≤ p ∧ p < g 0 1) ∧ (0 ≤ m ∧ m ≤ 40) then (bst (fun c_ => dysR (upd (g 0) (pI p.toNatClampNeg 0) (nI c_)) m.toNatClampNeg 3) 7).1 else (-1000001)) (fun u => ∃ ρ : Nat → Int32, u = va_up (if (0 ≤ p ∧ p < g 0 1) ∧ (0 ≤ m ∧ m ≤ 40) then g else va_up g 16 (fndR (g 16) 0)) 1 ρ)) := by
  refine CT.mk "TunnelPeace" (by decide) rfl (Nat.le_of_ble_eq_true rfl) (fun X C => ?_)
  refine x_lv [0, 1, 2] (lv' := [(0, .ref (Z.2.1 (0))), (1, .int (p)), (2, .int (m))]) rfl ?_
  have hk0 := hk
  obtain ⟨⟨n, hn8, hn⟩, dd, hdd, hd⟩ := hk
  refine x_aload_n C d_TP_kindFor_0 0 rfl rfl ?_
  refine gf_TP_tunnel C k_165 d_TP_kindFor_1 ?_
  refine x_iload_n C d_TP_kindFor_4 1 rfl rfl ?_
  refine x_callVi C (c_Tu_has Z 0 (by omega) p (g) _ hn) mi_Tu_has k_235 (show 14 + 12 * 0 < 50 by omega) (e_Tu Z 0 _) rfl (As := [.int (p)]) ⟨Nat.le_of_ble_eq_true rfl, Nat.le_of_ble_eq_true rfl⟩ rfl rfl (Nat.le_of_ble_eq_true rfl) d_TP_kindFor_5 ?_
  refine x_ifeqB C d_TP_kindFor_8 20 (by decide) (fun c_1 => ?_) (fun c_1 => ?_)
  · refine x_aload_n C d_TP_kindFor_20 0 rfl rfl ?_
    refine x_ldc C d_TP_kindFor_21 k_197 ?_
    refine x_callVi C (c_TP_found_0 Z (g) _ rfl) mi_TP_found k_198 (show 0 < 50 by omega) (e_TP Z _) rfl (As := [.int ((-1000001))]) ⟨Nat.le_of_ble_eq_true rfl, Nat.le_of_ble_eq_true rfl⟩ rfl rfl (Nat.le_of_ble_eq_true rfl) d_TP_kindFor_23 ?_
    exact x_iretK C (by first | with_reducible rfl | (simp [*]; done) | (simp_all; done)) (kfin (G' := va_up g 16 (fndR (g 16) 0)) (by first | with_reducible rfl | (simp [*]; done) | (simp_all; done)) (va_idn (by omega)).symm) d_TP_kindFor_26
  · obtain ⟨pq, hpq, rfl⟩ := in_of c_1 (by omega)
    have hcp : (nI pq).toNatClampNeg = pq := nI_clamp (by omega)
    refine x_iload_n C d_TP_kindFor_11 2 rfl rfl ?_
    refine x_bipush C d_TP_kindFor_12 (v := 40) (by decide) ?_
    refine x_callSi C (c_TP_within Z m 40 (g)) mi_TP_within k_194 (As := [.int (m), .int (40)]) ⟨Nat.le_of_ble_eq_true rfl, Nat.le_of_ble_eq_true rfl⟩ rfl rfl (Nat.le_of_ble_eq_true rfl) d_TP_kindFor_14 ?_
    refine x_ifneB C d_TP_kindFor_17 27 (by decide) (fun c_2 => ?_) (fun c_2 => ?_)
    · obtain ⟨mq, hmq, rfl⟩ := in_le (n := 40) c_2 (by decide)
      have hcm : (nI mq).toNatClampNeg = mq := nI_clamp (by omega)
      refine x_aload_n C d_TP_kindFor_27 0 rfl rfl ?_
      refine gf_TP_forecast C k_169 d_TP_kindFor_28 ?_
      refine x_iload_n C d_TP_kindFor_31 1 rfl rfl ?_
      refine x_iload_n C d_TP_kindFor_32 2 rfl rfl ?_
      refine x_callVki C (c_Fo_stillestKind Z pq mq (by omega) (g) hk0 (by rw [sz_of hn hn8]; omega) (by omega)) mi_Fo_stillestKind k_439 (show 1 < 50 by omega) (e_Fo Z (sr yC (g) 1)) rfl (As := [.int (nI pq), .int (nI mq)]) ⟨Nat.le_of_ble_eq_true rfl, Nat.le_of_ble_eq_true rfl⟩ rfl rfl (Nat.le_of_ble_eq_true rfl) d_TP_kindFor_33 (fun u_ hu_ => ?_)
      obtain ⟨ρ_3, rfl⟩ := hu_
      exact x_iretK C (by first | with_reducible rfl | (simp [*]; done) | (simp_all; done)) (kfin (G' := g) (by first | with_reducible rfl | (simp [*]; done) | (simp_all; done)) rfl) d_TP_kindFor_36
    · refine x_aload_n C d_TP_kindFor_20 0 rfl rfl ?_
      refine x_ldc C d_TP_kindFor_21 k_197 ?_
      refine x_callVi C (c_TP_found_0 Z (g) _ rfl) mi_TP_found k_198 (show 0 < 50 by omega) (e_TP Z _) rfl (As := [.int ((-1000001))]) ⟨Nat.le_of_ble_eq_true rfl, Nat.le_of_ble_eq_true rfl⟩ rfl rfl (Nat.le_of_ble_eq_true rfl) d_TP_kindFor_23 ?_
      exact x_iretK C (by first | with_reducible rfl | (simp [*]; done) | (simp_all; done)) (kfin (G' := va_up g 16 (fndR (g 16) 0)) (by first | with_reducible rfl | (simp [*]; done) | (simp_all; done)) (va_idn (by omega)).symm) d_TP_kindFor_26

set_option maxRecDepth 100000 in
set_option maxHeartbeats 600000 in
theorem c_TP_seasonFor (Z : ZT) (p v m : Int32) (g : St)  (hk : okR (g 0)) : CT yC Z y_TP_seasonFor b_TP_seasonFor 4 (some (.int)) 6 141 [.ref (Z.2.1 (0)), .int (p), .int (v), .int (m)] (g) (QkI yC Z (if ¬ ((0 ≤ p ∧ p < g 0 1) ∧ (0 ≤ v ∧ v ≤ 9999) ∧ (0 ≤ m ∧ m ≤ 40)) then (-1000001) else if oI (fdo (fun c_ => decide (v ≤ dysR (upd (g 0) (pI p.toNatClampNeg 3) (nI c_)) m.toNatClampNeg (pI p.toNatClampNeg 5))) (min 99 (2 * m.toNatClampNeg) + 1) 0) < 0 then (-1000004) else oI (fdo (fun c_ => decide (v ≤ dysR (upd (g 0) (pI p.toNatClampNeg 3) (nI c_)) m.toNatClampNeg (pI p.toNatClampNeg 5))) (min 99 (2 * m.toNatClampNeg) + 1) 0)) (fun u => ∃ ρ : Nat → Int32, u = va_up (if ¬ ((0 ≤ p ∧ p < g 0 1) ∧ (0 ≤ v ∧ v ≤ 9999) ∧ (0 ≤ m ∧ m ≤ 40)) then va_up g 16 (fndR (g 16) 0) else if oI (fdo (fun c_ => decide (v ≤ dysR (upd (g 0) (pI p.toNatClampNeg 3) (nI c_)) m.toNatClampNeg (pI p.toNatClampNeg 5))) (min 99 (2 * m.toNatClampNeg) + 1) 0) < 0 then va_up g 16 (fndR (g 16) 3) else g) 1 ρ)) := by
  refine CT.mk "TunnelPeace" (by decide) rfl (Nat.le_of_ble_eq_true rfl) (fun X C => ?_)
  refine x_lv [0, 1, 2, 3] (lv' := [(0, .ref (Z.2.1 (0))), (1, .int (p)), (2, .int (v)), (3, .int (m))]) rfl ?_
  have hk0 := hk
  obtain ⟨⟨n, hn8, hn⟩, dd, hdd, hd⟩ := hk
  refine x_aload_n C d_TP_seasonFor_0 0 rfl rfl ?_
  refine gf_TP_tunnel C k_165 d_TP_seasonFor_1 ?_
  refine x_iload_n C d_TP_seasonFor_4 1 rfl rfl ?_
  refine x_callVi C (c_Tu_has Z 0 (by omega) p (g) _ hn) mi_Tu_has k_235 (show 14 + 12 * 0 < 50 by omega) (e_Tu Z 0 _) rfl (As := [.int (p)]) ⟨Nat.le_of_ble_eq_true rfl, Nat.le_of_ble_eq_true rfl⟩ rfl rfl (Nat.le_of_ble_eq_true rfl) d_TP_seasonFor_5 ?_
  refine x_ifeqB C d_TP_seasonFor_8 32 (by decide) (fun c_1 => ?_) (fun c_1 => ?_)
  · refine x_aload_n C d_TP_seasonFor_32 0 rfl rfl ?_
    refine x_ldc C d_TP_seasonFor_33 k_197 ?_
    refine x_callVi C (c_TP_found_0 Z (g) _ rfl) mi_TP_found k_198 (show 0 < 50 by omega) (e_TP Z _) rfl (As := [.int ((-1000001))]) ⟨Nat.le_of_ble_eq_true rfl, Nat.le_of_ble_eq_true rfl⟩ rfl rfl (Nat.le_of_ble_eq_true rfl) d_TP_seasonFor_35 ?_
    exact x_iretK C (by first | with_reducible rfl | (simp [*]; done) | (simp_all; done)) (kfin (G' := va_up g 16 (fndR (g 16) 0)) (by first | with_reducible rfl | (simp [*]; done) | (simp_all; done)) (va_idn (by omega)).symm) d_TP_seasonFor_38
  · obtain ⟨pq, hpq, rfl⟩ := in_of c_1 (by omega)
    have hcp : (nI pq).toNatClampNeg = pq := nI_clamp (by omega)
    refine x_iload_n C d_TP_seasonFor_11 2 rfl rfl ?_
    refine x_getst0 C k_266 d_TP_seasonFor_12 ?_
    refine x_iconst C d_TP_seasonFor_15 (v := 5) (by decide) ?_
    refine x_stld0 C 5 (by decide) (by decide) rfl d_TP_seasonFor_16 ?_
    refine x_callSi C (c_TP_within Z v 9999 (g)) mi_TP_within k_194 (As := [.int (v), .int (9999)]) ⟨Nat.le_of_ble_eq_true rfl, Nat.le_of_ble_eq_true rfl⟩ rfl rfl (Nat.le_of_ble_eq_true rfl) d_TP_seasonFor_17 ?_
    refine x_ifeqB C d_TP_seasonFor_20 32 (by decide) (fun c_2 => ?_) (fun c_2 => ?_)
    · refine x_aload_n C d_TP_seasonFor_32 0 rfl rfl ?_
      refine x_ldc C d_TP_seasonFor_33 k_197 ?_
      refine x_callVi C (c_TP_found_0 Z (g) _ rfl) mi_TP_found k_198 (show 0 < 50 by omega) (e_TP Z _) rfl (As := [.int ((-1000001))]) ⟨Nat.le_of_ble_eq_true rfl, Nat.le_of_ble_eq_true rfl⟩ rfl rfl (Nat.le_of_ble_eq_true rfl) d_TP_seasonFor_35 ?_
      exact x_iretK C (by first | with_reducible rfl | (simp [*]; done) | (simp_all; done)) (kfin (G' := va_up g 16 (fndR (g 16) 0)) (by first | with_reducible rfl | (simp [*]; done) | (simp_all; done)) (va_idn (by omega)).symm) d_TP_seasonFor_38
    · refine x_iload_n C d_TP_seasonFor_23 3 rfl rfl ?_
      refine x_bipush C d_TP_seasonFor_24 (v := 40) (by decide) ?_
      refine x_callSi C (c_TP_within Z m 40 (g)) mi_TP_within k_194 (As := [.int (m), .int (40)]) ⟨Nat.le_of_ble_eq_true rfl, Nat.le_of_ble_eq_true rfl⟩ rfl rfl (Nat.le_of_ble_eq_true rfl) d_TP_seasonFor_26 ?_
      refine x_ifneB C d_TP_seasonFor_29 39 (by decide) (fun c_3 => ?_) (fun c_3 => ?_)
      · obtain ⟨mq, hmq, rfl⟩ := in_le (n := 40) c_3 (by decide)
        have hcm : (nI mq).toNatClampNeg = mq := nI_clamp (by omega)
        refine x_aload_n C d_TP_seasonFor_39 0 rfl rfl ?_
        refine x_aload_n C d_TP_seasonFor_40 0 rfl rfl ?_
        refine gf_TP_forecast C k_169 d_TP_seasonFor_41 ?_
        refine x_iload_n C d_TP_seasonFor_44 1 rfl rfl ?_
        refine x_iload_n C d_TP_seasonFor_45 2 rfl rfl ?_
        refine x_iload_n C d_TP_seasonFor_46 3 rfl rfl ?_
        refine x_callVki C (c_Fo_leastSeason Z pq v mq (by omega) (g) hk0 (by rw [sz_of hn hn8]; omega) (by omega)) mi_Fo_leastSeason k_452 (show 1 < 50 by omega) (e_Fo Z (sr yC (g) 1)) rfl (As := [.int (nI pq), .int (v), .int (nI mq)]) ⟨Nat.le_of_ble_eq_true rfl, Nat.le_of_ble_eq_true rfl⟩ rfl rfl (Nat.le_of_ble_eq_true rfl) d_TP_seasonFor_47 (fun u_ hu_ => ?_)
        obtain ⟨ρ_4, rfl⟩ := hu_
        by_cases c_5 : (oI (fdo (fun c_ => decide (v ≤ dysR (upd (g 0) (pI pq 3) (nI c_)) mq (pI pq 5))) (min 99 (2 * mq) + 1) 0)) < 0
        · skip
          refine x_callVi C (c_TP_orNone_t Z (oI (fdo (fun c_ => decide (v ≤ dysR (upd (g 0) (pI pq 3) (nI c_)) mq (pI pq 5))) (min 99 (2 * mq) + 1) 0)) (by assumption) (va_up g 1 ρ_4) _ (va_up_ne _ _ (by omega))) mi_TP_orNone k_405 (show 0 < 50 by omega) (e_TP Z _) rfl (As := [.int (oI (fdo (fun c_ => decide (v ≤ dysR (upd (g 0) (pI pq 3) (nI c_)) mq (pI pq 5))) (min 99 (2 * mq) + 1) 0))]) ⟨Nat.le_of_ble_eq_true rfl, Nat.le_of_ble_eq_true rfl⟩ rfl rfl (Nat.le_of_ble_eq_true rfl) d_TP_seasonFor_50 ?_
          exact x_iretK C (by first | with_reducible rfl | (simp [*]; done) | (simp_all; done)) (kfin (G' := va_up g 16 (fndR (g 16) 3)) (by first | with_reducible rfl | (simp [*]; done) | (simp_all; done)) (va_com (by omega))) d_TP_seasonFor_53
        · skip
          refine x_callVi C (c_TP_orNone_f Z (oI (fdo (fun c_ => decide (v ≤ dysR (upd (g 0) (pI pq 3) (nI c_)) mq (pI pq 5))) (min 99 (2 * mq) + 1) 0)) (by assumption) (va_up g 1 ρ_4)) mi_TP_orNone k_405 (show 0 < 50 by omega) (e_TP Z _) rfl (As := [.int (oI (fdo (fun c_ => decide (v ≤ dysR (upd (g 0) (pI pq 3) (nI c_)) mq (pI pq 5))) (min 99 (2 * mq) + 1) 0))]) ⟨Nat.le_of_ble_eq_true rfl, Nat.le_of_ble_eq_true rfl⟩ rfl rfl (Nat.le_of_ble_eq_true rfl) d_TP_seasonFor_50 ?_
          exact x_iretK C (by first | with_reducible rfl | (simp [*]; done) | (simp_all; done)) (kfin (G' := g) (by first | with_reducible rfl | (simp [*]; done) | (simp_all; done)) rfl) d_TP_seasonFor_53
      · refine x_aload_n C d_TP_seasonFor_32 0 rfl rfl ?_
        refine x_ldc C d_TP_seasonFor_33 k_197 ?_
        refine x_callVi C (c_TP_found_0 Z (g) _ rfl) mi_TP_found k_198 (show 0 < 50 by omega) (e_TP Z _) rfl (As := [.int ((-1000001))]) ⟨Nat.le_of_ble_eq_true rfl, Nat.le_of_ble_eq_true rfl⟩ rfl rfl (Nat.le_of_ble_eq_true rfl) d_TP_seasonFor_35 ?_
        exact x_iretK C (by first | with_reducible rfl | (simp [*]; done) | (simp_all; done)) (kfin (G' := va_up g 16 (fndR (g 16) 0)) (by first | with_reducible rfl | (simp [*]; done) | (simp_all; done)) (va_idn (by omega)).symm) d_TP_seasonFor_38

set_option maxRecDepth 100000 in
set_option maxHeartbeats 600000 in
theorem c_TP_bagsFor (Z : ZT) (p m : Int32) (g : St)  (hk : okR (g 0)) : CT yC Z y_TP_bagsFor b_TP_bagsFor 3 (some (.int)) 6 139 [.ref (Z.2.1 (0)), .int (p), .int (m)] (g) (QkI yC Z (if ¬ ((0 ≤ p ∧ p < g 0 1) ∧ (0 ≤ m ∧ m ≤ 40)) then (-1000001) else if fdn (fun b_ => decide (g 0 (pI p.toNatClampNeg 5) < dysR (upd (g 0) (pI p.toNatClampNeg 4) (nI b_)) m.toNatClampNeg (pI p.toNatClampNeg 5))) 10 < 0 then (-1000004) else fdn (fun b_ => decide (g 0 (pI p.toNatClampNeg 5) < dysR (upd (g 0) (pI p.toNatClampNeg 4) (nI b_)) m.toNatClampNeg (pI p.toNatClampNeg 5))) 10) (fun u => ∃ ρ : Nat → Int32, u = va_up (if ¬ ((0 ≤ p ∧ p < g 0 1) ∧ (0 ≤ m ∧ m ≤ 40)) then va_up g 16 (fndR (g 16) 0) else if fdn (fun b_ => decide (g 0 (pI p.toNatClampNeg 5) < dysR (upd (g 0) (pI p.toNatClampNeg 4) (nI b_)) m.toNatClampNeg (pI p.toNatClampNeg 5))) 10 < 0 then va_up g 16 (fndR (g 16) 3) else g) 1 ρ)) := by
  refine CT.mk "TunnelPeace" (by decide) rfl (Nat.le_of_ble_eq_true rfl) (fun X C => ?_)
  refine x_lv [0, 1, 2] (lv' := [(0, .ref (Z.2.1 (0))), (1, .int (p)), (2, .int (m))]) rfl ?_
  have hk0 := hk
  obtain ⟨⟨n, hn8, hn⟩, dd, hdd, hd⟩ := hk
  refine x_aload_n C d_TP_bagsFor_0 0 rfl rfl ?_
  refine gf_TP_tunnel C k_165 d_TP_bagsFor_1 ?_
  refine x_iload_n C d_TP_bagsFor_4 1 rfl rfl ?_
  refine x_callVi C (c_Tu_has Z 0 (by omega) p (g) _ hn) mi_Tu_has k_235 (show 14 + 12 * 0 < 50 by omega) (e_Tu Z 0 _) rfl (As := [.int (p)]) ⟨Nat.le_of_ble_eq_true rfl, Nat.le_of_ble_eq_true rfl⟩ rfl rfl (Nat.le_of_ble_eq_true rfl) d_TP_bagsFor_5 ?_
  refine x_ifeqB C d_TP_bagsFor_8 20 (by decide) (fun c_1 => ?_) (fun c_1 => ?_)
  · refine x_aload_n C d_TP_bagsFor_20 0 rfl rfl ?_
    refine x_ldc C d_TP_bagsFor_21 k_197 ?_
    refine x_callVi C (c_TP_found_0 Z (g) _ rfl) mi_TP_found k_198 (show 0 < 50 by omega) (e_TP Z _) rfl (As := [.int ((-1000001))]) ⟨Nat.le_of_ble_eq_true rfl, Nat.le_of_ble_eq_true rfl⟩ rfl rfl (Nat.le_of_ble_eq_true rfl) d_TP_bagsFor_23 ?_
    exact x_iretK C (by first | with_reducible rfl | (simp [*]; done) | (simp_all; done)) (kfin (G' := va_up g 16 (fndR (g 16) 0)) (by first | with_reducible rfl | (simp [*]; done) | (simp_all; done)) (va_idn (by omega)).symm) d_TP_bagsFor_26
  · obtain ⟨pq, hpq, rfl⟩ := in_of c_1 (by omega)
    have hcp : (nI pq).toNatClampNeg = pq := nI_clamp (by omega)
    refine x_iload_n C d_TP_bagsFor_11 2 rfl rfl ?_
    refine x_bipush C d_TP_bagsFor_12 (v := 40) (by decide) ?_
    refine x_callSi C (c_TP_within Z m 40 (g)) mi_TP_within k_194 (As := [.int (m), .int (40)]) ⟨Nat.le_of_ble_eq_true rfl, Nat.le_of_ble_eq_true rfl⟩ rfl rfl (Nat.le_of_ble_eq_true rfl) d_TP_bagsFor_14 ?_
    refine x_ifneB C d_TP_bagsFor_17 27 (by decide) (fun c_2 => ?_) (fun c_2 => ?_)
    · obtain ⟨mq, hmq, rfl⟩ := in_le (n := 40) c_2 (by decide)
      have hcm : (nI mq).toNatClampNeg = mq := nI_clamp (by omega)
      refine x_aload_n C d_TP_bagsFor_27 0 rfl rfl ?_
      refine x_aload_n C d_TP_bagsFor_28 0 rfl rfl ?_
      refine gf_TP_forecast C k_169 d_TP_bagsFor_29 ?_
      refine x_iload_n C d_TP_bagsFor_32 1 rfl rfl ?_
      refine x_iload_n C d_TP_bagsFor_33 2 rfl rfl ?_
      refine x_callVki C (c_Fo_mostBags Z pq mq (by omega) (g) hk0 (by rw [sz_of hn hn8]; omega) (by omega)) mi_Fo_mostBags k_462 (show 1 < 50 by omega) (e_Fo Z (sr yC (g) 1)) rfl (As := [.int (nI pq), .int (nI mq)]) ⟨Nat.le_of_ble_eq_true rfl, Nat.le_of_ble_eq_true rfl⟩ rfl rfl (Nat.le_of_ble_eq_true rfl) d_TP_bagsFor_34 (fun u_ hu_ => ?_)
      obtain ⟨ρ_3, rfl⟩ := hu_
      by_cases c_4 : (fdn (fun b_ => decide (g 0 (pI pq 5) < dysR (upd (g 0) (pI pq 4) (nI b_)) mq (pI pq 5))) 10) < 0
      · skip
        refine x_callVi C (c_TP_orNone_t Z (fdn (fun b_ => decide (g 0 (pI pq 5) < dysR (upd (g 0) (pI pq 4) (nI b_)) mq (pI pq 5))) 10) (by assumption) (va_up g 1 ρ_3) _ (va_up_ne _ _ (by omega))) mi_TP_orNone k_405 (show 0 < 50 by omega) (e_TP Z _) rfl (As := [.int (fdn (fun b_ => decide (g 0 (pI pq 5) < dysR (upd (g 0) (pI pq 4) (nI b_)) mq (pI pq 5))) 10)]) ⟨Nat.le_of_ble_eq_true rfl, Nat.le_of_ble_eq_true rfl⟩ rfl rfl (Nat.le_of_ble_eq_true rfl) d_TP_bagsFor_37 ?_
        exact x_iretK C (by first | with_reducible rfl | (simp [*]; done) | (simp_all; done)) (kfin (G' := va_up g 16 (fndR (g 16) 3)) (by first | with_reducible rfl | (simp [*]; done) | (simp_all; done)) (va_com (by omega))) d_TP_bagsFor_40
      · skip
        refine x_callVi C (c_TP_orNone_f Z (fdn (fun b_ => decide (g 0 (pI pq 5) < dysR (upd (g 0) (pI pq 4) (nI b_)) mq (pI pq 5))) 10) (by assumption) (va_up g 1 ρ_3)) mi_TP_orNone k_405 (show 0 < 50 by omega) (e_TP Z _) rfl (As := [.int (fdn (fun b_ => decide (g 0 (pI pq 5) < dysR (upd (g 0) (pI pq 4) (nI b_)) mq (pI pq 5))) 10)]) ⟨Nat.le_of_ble_eq_true rfl, Nat.le_of_ble_eq_true rfl⟩ rfl rfl (Nat.le_of_ble_eq_true rfl) d_TP_bagsFor_37 ?_
        exact x_iretK C (by first | with_reducible rfl | (simp [*]; done) | (simp_all; done)) (kfin (G' := g) (by first | with_reducible rfl | (simp [*]; done) | (simp_all; done)) rfl) d_TP_bagsFor_40
    · refine x_aload_n C d_TP_bagsFor_20 0 rfl rfl ?_
      refine x_ldc C d_TP_bagsFor_21 k_197 ?_
      refine x_callVi C (c_TP_found_0 Z (g) _ rfl) mi_TP_found k_198 (show 0 < 50 by omega) (e_TP Z _) rfl (As := [.int ((-1000001))]) ⟨Nat.le_of_ble_eq_true rfl, Nat.le_of_ble_eq_true rfl⟩ rfl rfl (Nat.le_of_ble_eq_true rfl) d_TP_bagsFor_23 ?_
      exact x_iretK C (by first | with_reducible rfl | (simp [*]; done) | (simp_all; done)) (kfin (G' := va_up g 16 (fndR (g 16) 0)) (by first | with_reducible rfl | (simp [*]; done) | (simp_all; done)) (va_idn (by omega)).symm) d_TP_bagsFor_26

set_option maxRecDepth 100000 in
set_option maxHeartbeats 600000 in
theorem c_TP_leaveOut (Z : ZT) (m : Int32) (g : St)  (hk : okR (g 0)) : CT yC Z y_TP_leaveOut b_TP_leaveOut 2 (some (.int)) 6 142 [.ref (Z.2.1 (0)), .int (m)] (g) (QkI yC Z (if ¬ (0 ≤ m ∧ m ≤ 20) then (-1000001) else if oI (fO (fun a_ s_ => decide (bc (nI s_) = nI a_) && kapN (fun i_ => sumN (dysR (outN (nI s_) (g 0) (sz (g 0))) i_) (sz (g 0))) (sumN (g 0) (sz (g 0))) m.toNatClampNeg) (2 ^ sz (g 0)) (sz (g 0) + 1) 0) < 0 then (-1000004) else oI (fO (fun a_ s_ => decide (bc (nI s_) = nI a_) && kapN (fun i_ => sumN (dysR (outN (nI s_) (g 0) (sz (g 0))) i_) (sz (g 0))) (sumN (g 0) (sz (g 0))) m.toNatClampNeg) (2 ^ sz (g 0)) (sz (g 0) + 1) 0)) (fun u => ∃ ρ : Nat → Int32, u = va_up (if ¬ (0 ≤ m ∧ m ≤ 20) then va_up g 16 (fndR (g 16) 0) else if oI (fO (fun a_ s_ => decide (bc (nI s_) = nI a_) && kapN (fun i_ => sumN (dysR (outN (nI s_) (g 0) (sz (g 0))) i_) (sz (g 0))) (sumN (g 0) (sz (g 0))) m.toNatClampNeg) (2 ^ sz (g 0)) (sz (g 0) + 1) 0) < 0 then va_up g 16 (fndR (g 16) 3) else g) 1 ρ)) := by
  refine CT.mk "TunnelPeace" (by decide) rfl (Nat.le_of_ble_eq_true rfl) (fun X C => ?_)
  refine x_lv [0, 1] (lv' := [(0, .ref (Z.2.1 (0))), (1, .int (m))]) rfl ?_
  have hk0 := hk
  obtain ⟨⟨n, hn8, hn⟩, dd, hdd, hd⟩ := hk
  refine x_iload_n C d_TP_leaveOut_0 1 rfl rfl ?_
  refine x_bipush C d_TP_leaveOut_1 (v := 20) (by decide) ?_
  refine x_callSi C (c_TP_within Z m 20 (g)) mi_TP_within k_194 (As := [.int (m), .int (20)]) ⟨Nat.le_of_ble_eq_true rfl, Nat.le_of_ble_eq_true rfl⟩ rfl rfl (Nat.le_of_ble_eq_true rfl) d_TP_leaveOut_3 ?_
  refine x_ifeqB C d_TP_leaveOut_6 24 (by decide) (fun c_1 => ?_) (fun c_1 => ?_)
  · refine x_aload_n C d_TP_leaveOut_24 0 rfl rfl ?_
    refine x_ldc C d_TP_leaveOut_25 k_197 ?_
    refine x_callVi C (c_TP_found_0 Z (g) _ rfl) mi_TP_found k_198 (show 0 < 50 by omega) (e_TP Z _) rfl (As := [.int ((-1000001))]) ⟨Nat.le_of_ble_eq_true rfl, Nat.le_of_ble_eq_true rfl⟩ rfl rfl (Nat.le_of_ble_eq_true rfl) d_TP_leaveOut_27 ?_
    exact x_iretK C (by first | with_reducible rfl | (simp [*]; done) | (simp_all; done)) (kfin (G' := va_up g 16 (fndR (g 16) 0)) (by first | with_reducible rfl | (simp [*]; done) | (simp_all; done)) (va_idn (by omega)).symm) d_TP_leaveOut_30
  · obtain ⟨mq, hmq, rfl⟩ := in_le (n := 20) c_1 (by decide)
    have hcm : (nI mq).toNatClampNeg = mq := nI_clamp (by omega)
    refine x_aload_n C d_TP_leaveOut_9 0 rfl rfl ?_
    refine x_aload_n C d_TP_leaveOut_10 0 rfl rfl ?_
    refine gf_TP_forecast C k_169 d_TP_leaveOut_11 ?_
    refine x_iload_n C d_TP_leaveOut_14 1 rfl rfl ?_
    refine x_callVki C (c_Fo_fewestLeftOut Z mq (by omega) (g) hk0) mi_Fo_fewestLeftOut k_470 (show 1 < 50 by omega) (e_Fo Z (sr yC (g) 1)) rfl (As := [.int (nI mq)]) ⟨Nat.le_of_ble_eq_true rfl, Nat.le_of_ble_eq_true rfl⟩ rfl rfl (Nat.le_of_ble_eq_true rfl) d_TP_leaveOut_15 (fun u_ hu_ => ?_)
    obtain ⟨ρ_2, rfl⟩ := hu_
    by_cases c_3 : (oI (fO (fun a_ s_ => decide (bc (nI s_) = nI a_) && kapN (fun i_ => sumN (dysR (outN (nI s_) (g 0) (sz (g 0))) i_) (sz (g 0))) (sumN (g 0) (sz (g 0))) mq) (2 ^ sz (g 0)) (sz (g 0) + 1) 0)) < 0
    · skip
      refine x_callVi C (c_TP_orNone_t Z (oI (fO (fun a_ s_ => decide (bc (nI s_) = nI a_) && kapN (fun i_ => sumN (dysR (outN (nI s_) (g 0) (sz (g 0))) i_) (sz (g 0))) (sumN (g 0) (sz (g 0))) mq) (2 ^ sz (g 0)) (sz (g 0) + 1) 0)) (by assumption) (va_up g 1 ρ_2) _ (va_up_ne _ _ (by omega))) mi_TP_orNone k_405 (show 0 < 50 by omega) (e_TP Z _) rfl (As := [.int (oI (fO (fun a_ s_ => decide (bc (nI s_) = nI a_) && kapN (fun i_ => sumN (dysR (outN (nI s_) (g 0) (sz (g 0))) i_) (sz (g 0))) (sumN (g 0) (sz (g 0))) mq) (2 ^ sz (g 0)) (sz (g 0) + 1) 0))]) ⟨Nat.le_of_ble_eq_true rfl, Nat.le_of_ble_eq_true rfl⟩ rfl rfl (Nat.le_of_ble_eq_true rfl) d_TP_leaveOut_18 ?_
      refine x_goto C d_TP_leaveOut_21 30 (by decide) ?_
      exact x_iretK C (by first | with_reducible rfl | (simp [*]; done) | (simp_all; done)) (kfin (G' := va_up g 16 (fndR (g 16) 3)) (by first | with_reducible rfl | (simp [*]; done) | (simp_all; done)) (va_com (by omega))) d_TP_leaveOut_30
    · skip
      refine x_callVi C (c_TP_orNone_f Z (oI (fO (fun a_ s_ => decide (bc (nI s_) = nI a_) && kapN (fun i_ => sumN (dysR (outN (nI s_) (g 0) (sz (g 0))) i_) (sz (g 0))) (sumN (g 0) (sz (g 0))) mq) (2 ^ sz (g 0)) (sz (g 0) + 1) 0)) (by assumption) (va_up g 1 ρ_2)) mi_TP_orNone k_405 (show 0 < 50 by omega) (e_TP Z _) rfl (As := [.int (oI (fO (fun a_ s_ => decide (bc (nI s_) = nI a_) && kapN (fun i_ => sumN (dysR (outN (nI s_) (g 0) (sz (g 0))) i_) (sz (g 0))) (sumN (g 0) (sz (g 0))) mq) (2 ^ sz (g 0)) (sz (g 0) + 1) 0))]) ⟨Nat.le_of_ble_eq_true rfl, Nat.le_of_ble_eq_true rfl⟩ rfl rfl (Nat.le_of_ble_eq_true rfl) d_TP_leaveOut_18 ?_
      refine x_goto C d_TP_leaveOut_21 30 (by decide) ?_
      exact x_iretK C (by first | with_reducible rfl | (simp [*]; done) | (simp_all; done)) (kfin (G' := g) (by first | with_reducible rfl | (simp [*]; done) | (simp_all; done)) rfl) d_TP_leaveOut_30

set_option maxRecDepth 100000 in
set_option maxHeartbeats 600000 in
theorem c_TP_seed (Z : ZT) (v : Int32) (g : St)  (hk : okR (g 0)) : CT yC Z y_TP_seed b_TP_seed 3 (some (.int)) 0 0 [.ref (Z.2.1 (0)), .int (v)] (g) (QkI yC Z (g 0 2) (fun u => ∃ ρ : Nat → Int32, u = va_up (va_up g 0 (upd (g 0) 2 v)) 1 ρ)) := by
  refine CT.mk "TunnelPeace" (by decide) rfl (Nat.le_of_ble_eq_true rfl) (fun X C => ?_)
  refine x_lv [0, 1] (lv' := [(0, .ref (Z.2.1 (0))), (1, .int (v))]) rfl ?_
  have hk0 := hk
  obtain ⟨⟨n, hn8, hn⟩, dd, hdd, hd⟩ := hk
  refine x_aload_n C d_TP_seed_0 0 rfl rfl ?_
  refine gf_TP_tunnel C k_165 d_TP_seed_1 ?_
  refine gf_Tu_z C (by omega) (v := g 0 2) rfl k_73 d_TP_seed_4 ?_
  refine x_istore_n C d_TP_seed_7 rfl (by decide) (lv' := [(2, .int (g 0 2)), (0, .ref (Z.2.1 (0))), (1, .int (v))]) rfl ?_
  refine x_aload_n C d_TP_seed_8 1 rfl rfl ?_
  refine gf_TP_tunnel C k_165 d_TP_seed_9 ?_
  refine x_iload_n C d_TP_seed_12 2 rfl rfl ?_
  refine pf_Tu_z C (by omega) (v := v) (G := va_up g 0 (upd (g 0) 2 v)) rfl k_73 d_TP_seed_13 ?_
  refine x_iload_n C d_TP_seed_16 0 rfl rfl ?_
  exact x_iretK C rfl (kfin (G' := va_up g 0 (upd (g 0) 2 v)) (by first | with_reducible rfl | (simp [*]; done) | (simp_all; done)) (va_idn (by omega)).symm) d_TP_seed_17
