set_option maxRecDepth 100000 in
set_option maxHeartbeats 2000000 in
theorem c_Fo_init (Z : ZT) (a t1 t2 : Nat) : CTi Z y_Fo_init b_Fo_init 3 1 12 0 0 [.ref a, .ref t1, .ref t2] [(a, .inr (0, [.null, .null]))] (fun _ => [(a, .inr (0, [.ref t1, .ref t2]))]) := by
  refine CTi.mk "TunnelPeace$Forecast" (by decide) rfl rfl (Nat.le_of_ble_eq_true rfl) (fun X A C I => ?_)
  refine n_lv [0, 1, 2] (lv' := [(0, .ref (a)), (1, .ref (t1)), (2, .ref (t2))]) rfl ?_
  refine n_aload_n C d_Fo_init_0 0 rfl rfl ?_
  refine n_obj C k_108 (Nat.le_of_ble_eq_true rfl) (Nat.le_of_ble_eq_true rfl) d_Fo_init_1 ?_
  refine n_aload_n C d_Fo_init_4 0 rfl rfl ?_
  refine n_aload_n C d_Fo_init_5 1 rfl rfl ?_
  refine n_putF C I 0 rfl rfl in_Fo ty_Fo tyok_Fo nm_Fo 0 (by decide) rfl rfl k_109 rfl rfl (Nat.le_of_ble_eq_true rfl) (ws' := [(a, .inr (0, [.ref (t1), .null]))]) rfl d_Fo_init_6 ?_
  refine n_aload_n C d_Fo_init_9 0 rfl rfl ?_
  refine n_aload_n C d_Fo_init_10 2 rfl rfl ?_
  refine n_putF C I 0 rfl rfl in_Fo ty_Fo tyok_Fo nm_Fo 1 (by decide) rfl rfl k_110 rfl rfl (Nat.le_of_ble_eq_true rfl) (ws' := [(a, .inr (0, [.ref (t1), .ref (t2)]))]) rfl d_Fo_init_11 ?_
  exact n_vret C I (fun _ => 0) rfl d_Fo_init_14

set_option maxRecDepth 100000 in
set_option maxHeartbeats 2000000 in
theorem c_Ta_init (Z : ZT) (a : Nat) : CTi Z y_Ta_init b_Ta_init 1 1 12 1 120 [.ref a] [(a, .inr (3, [.int 0, .null, .int 0, .int 0, .int 0, .int 0]))] (fun u => [(a, .inr (3, [.int 0, .ref (u 1), .int 0, .int 0, .int 0, .int 0])), (u 1, .inl (Z.2.2.1 1, 120, .inl (fun _ => 0)))]) := by
  refine CTi.mk "TunnelPeace$Tape" (by decide) rfl rfl (Nat.le_of_ble_eq_true rfl) (fun X A C I => ?_)
  refine n_lv [0] (lv' := [(0, .ref (a))]) rfl ?_
  refine n_aload_n C d_Ta_init_0 0 rfl rfl ?_
  refine n_obj C k_121 (Nat.le_of_ble_eq_true rfl) (Nat.le_of_ble_eq_true rfl) d_Ta_init_1 ?_
  refine n_aload_n C d_Ta_init_4 0 rfl rfl ?_
  refine n_iconst C d_Ta_init_5 (v := 0) (by decide) ?_
  refine n_put C 0 rfl rfl in_Ta ty_Ta tyok_Ta nm_Ta 0 (by decide) rfl k_122 rfl rfl (Nat.le_of_ble_eq_true rfl) (ws' := [(a, .inr (3, [.int (0), .null, .int 0, .int 0, .int 0, .int 0]))]) rfl d_Ta_init_6 ?_
  refine n_aload_n C d_Ta_init_9 0 rfl rfl ?_
  refine n_bipush C d_Ta_init_10 (v := 120) (by decide) ?_
  refine n_newB C 120 (by decide) (by decide) (by decide) (Nat.le_of_ble_eq_true rfl) (Nat.le_of_ble_eq_true rfl) d_Ta_init_12 (fun q1 => ?_)
  refine n_ws (ws' := [(a, .inr (3, [.int (0), .null, .int 0, .int 0, .int 0, .int 0])), (q1, .inl (Z.2.2.1 1, 120, .inl (fun _ => 0)))]) rfl ?_
  refine n_putF C I 0 rfl rfl in_Ta ty_Ta tyok_Ta nm_Ta 1 (by decide) rfl rfl k_124 rfl rfl (Nat.le_of_ble_eq_true rfl) (ws' := [(a, .inr (3, [.int (0), .ref (q1), .int 0, .int 0, .int 0, .int 0])), (q1, .inl (Z.2.2.1 1, 120, .inl (fun _ => 0)))]) rfl d_Ta_init_14 ?_
  exact n_vret C I (post := fun u => [(a, .inr (3, [.int 0, .ref (u 1), .int 0, .int 0, .int 0, .int 0])), (u 1, .inl (Z.2.2.1 1, 120, .inl (fun _ => 0)))]) (fun _ => q1) rfl d_Ta_init_17

set_option maxRecDepth 100000 in
set_option maxHeartbeats 2000000 in
theorem c_Sh_init (Z : ZT) (a : Nat) : CTi Z y_Sh_init b_Sh_init 1 1 12 1 40 [.ref a] [(a, .inr (2, [.int 0, .int 0, .null]))] (fun u => [(a, .inr (2, [.int 0, .int 0, .ref (u 1)])), (u 1, .inl (Z.2.2.1 0, 40, .inl (fun _ => 0)))]) := by
  refine CTi.mk "TunnelPeace$Sheet" (by decide) rfl rfl (Nat.le_of_ble_eq_true rfl) (fun X A C I => ?_)
  refine n_lv [0] (lv' := [(0, .ref (a))]) rfl ?_
  refine n_aload_n C d_Sh_init_0 0 rfl rfl ?_
  refine n_obj C k_149 (Nat.le_of_ble_eq_true rfl) (Nat.le_of_ble_eq_true rfl) d_Sh_init_1 ?_
  refine n_aload_n C d_Sh_init_4 0 rfl rfl ?_
  refine n_iconst C d_Sh_init_5 (v := 0) (by decide) ?_
  refine n_put C 0 rfl rfl in_Sh ty_Sh tyok_Sh nm_Sh 0 (by decide) rfl k_150 rfl rfl (Nat.le_of_ble_eq_true rfl) (ws' := [(a, .inr (2, [.int (0), .int 0, .null]))]) rfl d_Sh_init_6 ?_
  refine n_aload_n C d_Sh_init_9 0 rfl rfl ?_
  refine n_iconst C d_Sh_init_10 (v := 0) (by decide) ?_
  refine n_put C 0 rfl rfl in_Sh ty_Sh tyok_Sh nm_Sh 1 (by decide) rfl k_152 rfl rfl (Nat.le_of_ble_eq_true rfl) (ws' := [(a, .inr (2, [.int (0), .int (0), .null]))]) rfl d_Sh_init_11 ?_
  refine n_aload_n C d_Sh_init_14 0 rfl rfl ?_
  refine n_bipush C d_Sh_init_15 (v := 40) (by decide) ?_
  refine n_newI C 40 (by decide) (by decide) (by decide) (Nat.le_of_ble_eq_true rfl) (Nat.le_of_ble_eq_true rfl) d_Sh_init_17 (fun q1 => ?_)
  refine n_ws (ws' := [(a, .inr (2, [.int (0), .int (0), .null])), (q1, .inl (Z.2.2.1 0, 40, .inl (fun _ => 0)))]) rfl ?_
  refine n_putF C I 0 rfl rfl in_Sh ty_Sh tyok_Sh nm_Sh 2 (by decide) rfl rfl k_155 rfl rfl (Nat.le_of_ble_eq_true rfl) (ws' := [(a, .inr (2, [.int (0), .int (0), .ref (q1)])), (q1, .inl (Z.2.2.1 0, 40, .inl (fun _ => 0)))]) rfl d_Sh_init_19 ?_
  exact n_vret C I (post := fun u => [(a, .inr (2, [.int 0, .int 0, .ref (u 1)])), (u 1, .inl (Z.2.2.1 0, 40, .inl (fun _ => 0)))]) (fun _ => q1) rfl d_Sh_init_22

/-! a new object of the class: fifty cells -/
def gI : St := fun s j => if s < 3 then tI j else 0
def uC (v u1 u2 u3 : Nat → Nat) : Nat → Nat := fun k => if k < 14 then v k else if k < 26 then u1 (k - 14) else if k < 38 then u2 (k - 26) else u3 (k - 38)
theorem uC_0 {v u1 u2 u3 : Nat → Nat} {k : Nat} (h : k < 14) : uC v u1 u2 u3 k = v k := if_pos h
theorem uC_1 {v u1 u2 u3 : Nat → Nat} {q : Nat} (h : q < 12) : uC v u1 u2 u3 (14 + 12 * 0 + q) = u1 q := by
  unfold uC
  rw [if_neg (by omega), if_pos (by omega)]
  congr 1; omega
theorem uC_2 {v u1 u2 u3 : Nat → Nat} {q : Nat} (h : q < 12) : uC v u1 u2 u3 (14 + 12 * 1 + q) = u2 q := by
  unfold uC
  rw [if_neg (by omega), if_neg (by omega), if_pos (by omega)]
  congr 1; omega
theorem uC_3 {v u1 u2 u3 : Nat → Nat} {q : Nat} (h : q < 12) : uC v u1 u2 u3 (14 + 12 * 2 + q) = u3 q := by
  unfold uC
  rw [if_neg (by omega), if_neg (by omega), if_neg (by omega)]
  congr 1; omega
theorem tr_0 {n : Nat} : tr n (fun _ => (0 : Int32)) = fun _ => 0 := by
  funext j
  unfold tr
  split <;> rfl
theorem tw_len {Z : ZT} {u : Nat → Nat} : (tw Z u).length = 12 := by simp [tw]
theorem tw_at {Z : ZT} {u : Nat → Nat} {q : Nat} (h : q < 12) : (tw Z u)[q]? = some (u q, qE (zU Z u) q q (fun j => tI (qIdx q j))) := by
  simp [tw, h]
theorem cI_t {Z : ZT} {u U : Nat → Nat} {t q : Nat} (ht : t < 3) (hq : q < 12) (hU : ∀ q, q < 12 → U (14 + 12 * t + q) = u q) : cE (zU Z U) (14 + 12 * t + q) (sr yC gI (14 + 12 * t + q)) = qE (zU Z u) q q (fun j => tI (qIdx q j)) := by
  have hr : sr yC gI (14 + 12 * t + q) = fun j => tI (qIdx q j) := by
    funext j
    show gI (cSec (14 + 12 * t + q)) (cIdx (14 + 12 * t + q) j) = _
    rw [sec_hi hq, idx_hi hq]
    exact if_pos ht
  rw [hr, e_q _ (by omega), show (14 + 12 * t + q - 14) % 12 = q by omega]
  generalize (fun j => tI (qIdx q j)) = r
  have ha : ∀ i, q + i < 12 → (zU Z U).2.1 (14 + 12 * t + q + i) = (zU Z u).2.1 (q + i) := fun i hi => by
    show U (14 + 12 * t + q + i) = u (q + i)
    rw [Nat.add_assoc]; exact hU _ hi
  unfold qE
  by_cases h0 : q = 0
  · subst h0
    rw [if_pos rfl, if_pos rfl, ha 1 (by omega), ha 2 (by omega), ha 3 (by omega)]
  · rw [if_neg h0, if_neg h0]
    by_cases h1 : q = 1
    · rw [if_pos h1, if_pos h1]; rfl
    · rw [if_neg h1, if_neg h1]
      by_cases h2 : q = 2
      · rw [if_pos h2, if_pos h2]; rfl
      · rw [if_neg h2, if_neg h2]
        by_cases h3 : q = 3
        · subst h3
          rw [if_pos rfl, if_pos rfl]
          have hf : (fun i => if i < 8 then some ((zU Z U).2.1 (14 + 12 * t + 3 + 1 + i)) else none) = (fun i => if i < 8 then some ((zU Z u).2.1 (3 + 1 + i)) else none) := by
            funext i
            by_cases hi : i < 8
            · rw [if_pos hi, if_pos hi, Nat.add_assoc (14 + 12 * t + 3), ha (1 + i) (by omega), Nat.add_assoc]
            · rw [if_neg hi, if_neg hi]
          rw [hf]; rfl
        · rw [if_neg h3, if_neg h3]
theorem swC_I (Z : ZT) (v u1 u2 u3 : Nat → Nat) : [(v 0, .inr (5, [.ref (u1 0), .ref (u2 0), .ref (u3 0), .int 0, .ref (v 1), .ref (v 2), .ref (v 4), .ref (v 13)])), (v 1, .inr (0, [.ref (u1 0), .ref (u2 0)])), (v 2, .inr (3, [.int 0, .ref (v 3), .int 0, .int 0, .int 0, .int 0])), (v 3, .inl (Z.2.2.1 1, 120, .inl (fun _ => 0))), (v 4, .inl (Z.2.2.1 3, 4, .inr (.inr (.inr (.inr (fun i => if i < 4 then some (v (5 + i)) else none)))))), (v 5, .inr (2, [.int 0, .int 0, .ref (v 9)])), (v 6, .inr (2, [.int 0, .int 0, .ref (v 10)])), (v 7, .inr (2, [.int 0, .int 0, .ref (v 11)])), (v 8, .inr (2, [.int 0, .int 0, .ref (v 12)])), (v 9, .inl (Z.2.2.1 0, 40, .inl (fun _ => 0))), (v 10, .inl (Z.2.2.1 0, 40, .inl (fun _ => 0))), (v 11, .inl (Z.2.2.1 0, 40, .inl (fun _ => 0))), (v 12, .inl (Z.2.2.1 0, 40, .inl (fun _ => 0))), (v 13, .inl (Z.2.2.1 0, 7, .inl (fun _ => 0)))] ++ (tw Z u1 ++ (tw Z u2 ++ tw Z u3)) = sw yC (zU Z (uC v u1 u2 u3)) gI := by
  apply List.ext_getElem?
  intro k
  by_cases h14 : k < 14
  · rw [List.getElem?_append_left (show k < 14 from h14), sw_at (show k < 50 by omega)]
    have z0 : ∀ (s : Nat), 3 ≤ s → ∀ j, gI s j = 0 := fun s hs j => if_neg (by omega)
    rcases (show k = 0 ∨ k = 1 ∨ k = 2 ∨ k = 3 ∨ k = 4 ∨ k = 5 ∨ k = 6 ∨ k = 7 ∨ k = 8 ∨ k = 9 ∨ k = 10 ∨ k = 11 ∨ k = 12 ∨ k = 13 by omega) with rfl | rfl | rfl | rfl | rfl | rfl | rfl | rfl | rfl | rfl | rfl | rfl | rfl | rfl
    · rfl
    · rfl
    · rfl
    · exact congrArg (fun f => some (v 3, (.inl (Z.2.2.1 1, 120, .inl f) : va_E))) tr_0.symm
    · have hf : (fun i => if i < 4 then some (uC v u1 u2 u3 (5 + i)) else none) = (fun i => if i < 4 then some (v (5 + i)) else none) := by
        funext i
        by_cases hi : i < 4
        · rw [if_pos hi, if_pos hi, uC_0 (by omega)]
        · rw [if_neg hi, if_neg hi]
      exact congrArg (fun f => some (v 4, (.inl (Z.2.2.1 3, 4, .inr (.inr (.inr (.inr f)))) : va_E))) hf.symm
    · rfl
    · rfl
    · rfl
    · rfl
    · exact congrArg (fun f => some (v 9, (.inl (Z.2.2.1 0, 40, .inl f) : va_E))) tr_0.symm
    · exact congrArg (fun f => some (v 10, (.inl (Z.2.2.1 0, 40, .inl f) : va_E))) tr_0.symm
    · exact congrArg (fun f => some (v 11, (.inl (Z.2.2.1 0, 40, .inl f) : va_E))) tr_0.symm
    · exact congrArg (fun f => some (v 12, (.inl (Z.2.2.1 0, 40, .inl f) : va_E))) tr_0.symm
    · exact congrArg (fun f => some (v 13, (.inl (Z.2.2.1 0, 7, .inl f) : va_E))) tr_0.symm
  · rw [List.getElem?_append_right (show 14 ≤ k by omega)]
    show (tw Z u1 ++ (tw Z u2 ++ tw Z u3))[k - 14]? = _
    by_cases h50 : k < 50
    · rw [sw_at (show k < 50 from h50)]
      by_cases h26 : k < 26
      · obtain ⟨q, hq, rfl⟩ : ∃ q, q < 12 ∧ k = 14 + 12 * 0 + q := ⟨k - 14, by omega, by omega⟩
        rw [List.getElem?_append_left (by rw [tw_len]; omega), show 14 + 12 * 0 + q - 14 = q by omega, tw_at hq]
        exact congrArg some (Prod.ext (uC_1 hq).symm (cI_t (by omega) hq (fun q hq => uC_1 hq)).symm)
      · rw [List.getElem?_append_right (by rw [tw_len]; omega), tw_len]
        by_cases h38 : k < 38
        · obtain ⟨q, hq, rfl⟩ : ∃ q, q < 12 ∧ k = 14 + 12 * 1 + q := ⟨k - 26, by omega, by omega⟩
          rw [List.getElem?_append_left (by rw [tw_len]; omega), show 14 + 12 * 1 + q - 14 - 12 = q by omega, tw_at hq]
          exact congrArg some (Prod.ext (uC_2 hq).symm (cI_t (by omega) hq (fun q hq => uC_2 hq)).symm)
        · obtain ⟨q, hq, rfl⟩ : ∃ q, q < 12 ∧ k = 14 + 12 * 2 + q := ⟨k - 38, by omega, by omega⟩
          rw [List.getElem?_append_right (by rw [tw_len]; omega), tw_len, show 14 + 12 * 2 + q - 14 - 12 - 12 = q by omega, tw_at hq]
          exact congrArg some (Prod.ext (uC_3 hq).symm (cI_t (by omega) hq (fun q hq => uC_3 hq)).symm)
    · rw [List.getElem?_eq_none (by simp only [List.length_append, tw_len]; omega), List.getElem?_eq_none (by simp [sw]; show 50 ≤ k; omega)]
theorem ss_I {a0 a1 a2 a3 : Nat} {v : Nat → Nat} (h0 : v 5 = a0) (h1 : v 6 = a1) (h2 : v 7 = a2) (h3 : v 8 = a3) : (va_up (va_up (va_up (va_up (fun _ : Nat => (none : Option Nat)) 0 (some a0)) 1 (some a1)) 2 (some a2)) 3 (some a3)) = fun i => if i < 4 then some (v (5 + i)) else none := by
  funext j
  match j with
  | 0 => exact congrArg some h0.symm
  | 1 => exact congrArg some h1.symm
  | 2 => exact congrArg some h2.symm
  | 3 => exact congrArg some h3.symm
  | j + 4 => simp [va_up]
