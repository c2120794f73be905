/-! a new reference: twelve cells -/
def hI : St := fun s j => if s = 0 then tI j else 0
theorem now_I : (upd (upd (upd (upd (upd (upd (upd (upd (upd (upd (upd (upd (upd (upd (upd (upd (upd (upd (fun _ => (0 : Int32)) 2 (1)) 3 (50)) 4 (7)) 5 (7)) 6 (7)) 7 (7)) 8 (7)) 9 (7)) 10 (-1)) 11 (-1)) 12 (-1)) 13 (-1)) 14 (-1)) 15 (-1)) 16 (-1)) 17 (-1)) 18 (-1)) 19 (-1)) = tr 68 tI := by
  funext j
  match j with
  | 0 => rfl
  | 1 => rfl
  | 2 => rfl
  | 3 => rfl
  | 4 => rfl
  | 5 => rfl
  | 6 => rfl
  | 7 => rfl
  | 8 => rfl
  | 9 => rfl
  | 10 => rfl
  | 11 => rfl
  | 12 => rfl
  | 13 => rfl
  | 14 => rfl
  | 15 => rfl
  | 16 => rfl
  | 17 => rfl
  | 18 => rfl
  | 19 => rfl
  | j + 20 =>
    have h : tI (j + 20) = 0 := by unfold tI; rw [if_neg (by omega), if_neg (by omega), if_neg (by omega), if_neg (by omega)]
    unfold tr
    rw [h]
    simp [upd]
theorem kn_I {Z : ZT} : (va_up (va_up (va_up (va_up (va_up (va_up (va_up (fun _ : Nat => (none : Option Nat)) 0 (some (Z.2.2.2.2.1 8))) 1 (some (Z.2.2.2.2.1 2))) 2 (some (Z.2.2.2.2.1 3))) 3 (some (Z.2.2.2.2.1 4))) 4 (some (Z.2.2.2.2.1 5))) 5 (some (Z.2.2.2.2.1 6))) 6 (some (Z.2.2.2.2.1 7))) = fun i => if i < 7 then some (Z.2.2.2.2.1 (mTx i)) else none := by
  funext j
  match j with
  | 0 => rfl
  | 1 => rfl
  | 2 => rfl
  | 3 => rfl
  | 4 => rfl
  | 5 => rfl
  | 6 => rfl
  | j + 7 => simp [va_up]
theorem swM_I (Z : ZT) (v : Nat → Nat) : [(v 0, .inr (6, [.ref (v 1), .ref (v 2), .ref (v 3), .int 0, .ref (v 4), .ref (v 5), .int 0, .int 0, .int 0, .int 0, .int 0, .int 0, .ref (v 6), .ref (v 7), .int 0, .int 0, .ref (v 8), .ref (v 9), .ref (v 10), .ref (v 11)])), (v 1, .inl (Z.2.2.1 0, 68, .inl (tr 68 tI))), (v 2, .inl (Z.2.2.1 0, 68, .inl (fun _ => 0))), (v 3, .inl (Z.2.2.1 0, 68, .inl (fun _ => 0))), (v 4, .inl (Z.2.2.1 0, 8, .inl (fun _ => 0))), (v 5, .inl (Z.2.2.1 0, 120, .inl (fun _ => 0))), (v 6, .inl (Z.2.2.1 4, 7, .inr (.inr (.inr (.inr (fun i => if i < 7 then some (Z.2.2.2.2.1 (mTx i)) else none)))))), (v 7, .inl (Z.2.2.1 0, 720, .inl (fun _ => 0))), (v 8, .inl (Z.2.2.1 0, 4, .inl (fun _ => 0))), (v 9, .inl (Z.2.2.1 0, 4, .inl (fun _ => 0))), (v 10, .inl (Z.2.2.1 0, 160, .inl (fun _ => 0))), (v 11, .inl (Z.2.2.1 0, 40, .inl (fun _ => 0)))] = sw yM (zU Z v) hI := by
  apply List.ext_getElem?
  intro k
  by_cases h12 : k < 12
  · rw [sw_at (show k < 12 from h12)]
    rcases (show k = 0 ∨ k = 1 ∨ k = 2 ∨ k = 3 ∨ k = 4 ∨ k = 5 ∨ k = 6 ∨ k = 7 ∨ k = 8 ∨ k = 9 ∨ k = 10 ∨ k = 11 by omega) with rfl | rfl | rfl | rfl | rfl | rfl | rfl | rfl | rfl | rfl | rfl | rfl
    · rfl
    · rfl
    · exact congrArg (fun f => some (v 2, (.inl (Z.2.2.1 0, 68, .inl f) : va_E))) tr_0.symm
    · exact congrArg (fun f => some (v 3, (.inl (Z.2.2.1 0, 68, .inl f) : va_E))) tr_0.symm
    · exact congrArg (fun f => some (v 4, (.inl (Z.2.2.1 0, 8, .inl f) : va_E))) tr_0.symm
    · exact congrArg (fun f => some (v 5, (.inl (Z.2.2.1 0, 120, .inl f) : va_E))) tr_0.symm
    · rfl
    · exact congrArg (fun f => some (v 7, (.inl (Z.2.2.1 0, 720, .inl f) : va_E))) tr_0.symm
    · exact congrArg (fun f => some (v 8, (.inl (Z.2.2.1 0, 4, .inl f) : va_E))) tr_0.symm
    · exact congrArg (fun f => some (v 9, (.inl (Z.2.2.1 0, 4, .inl f) : va_E))) tr_0.symm
    · exact congrArg (fun f => some (v 10, (.inl (Z.2.2.1 0, 160, .inl f) : va_E))) tr_0.symm
    · exact congrArg (fun f => some (v 11, (.inl (Z.2.2.1 0, 40, .inl f) : va_E))) tr_0.symm
  · rw [List.getElem?_eq_none (by show 12 ≤ k; omega), List.getElem?_eq_none (by simp [sw]; show 12 ≤ k; omega)]

set_option maxRecDepth 100000 in
set_option maxHeartbeats 2000000 in
theorem c_Mo_init (Z : ZT) (a : Nat) : CTi Z y_Mo_init b_Mo_init 2 1 12 11 1267 [.ref a] [(a, .inr (6, [.null, .null, .null, .int 0, .null, .null, .int 0, .int 0, .int 0, .int 0, .int 0, .int 0, .null, .null, .int 0, .int 0, .null, .null, .null, .null]))] (fun u => sw yM (zU Z (va_up u 0 a)) hI) := by
  refine CTi.mk "TunnelPeaceModel" (by decide) rfl rfl (Nat.le_of_ble_eq_true rfl) (fun X A C I => ?_)
  refine n_lv [0] (lv' := [(0, .ref (a))]) rfl ?_
  refine n_aload_n C d_Mo_init_0 0 rfl rfl ?_
  refine n_obj C k_781 (Nat.le_of_ble_eq_true rfl) (Nat.le_of_ble_eq_true rfl) d_Mo_init_1 ?_
  refine n_aload_n C d_Mo_init_4 0 rfl rfl ?_
  refine n_bipush C d_Mo_init_5 (v := 68) (by decide) ?_
  refine n_newI C 68 (by decide) (by decide) (by decide) (Nat.le_of_ble_eq_true rfl) (Nat.le_of_ble_eq_true rfl) d_Mo_init_7 (fun q1 => ?_)
  refine n_ws (ws' := [(a, .inr (6, [.null, .null, .null, .int 0, .null, .null, .int 0, .int 0, .int 0, .int 0, .int 0, .int 0, .null, .null, .int 0, .int 0, .null, .null, .null, .null])), (q1, .inl (Z.2.2.1 0, 68, .inl (fun _ => 0)))]) rfl ?_
  refine n_putF C I 0 rfl rfl in_Mo ty_Mo tyok_Mo nm_Mo 0 (by decide) rfl rfl k_791 rfl rfl (Nat.le_of_ble_eq_true rfl) (ws' := [(a, .inr (6, [.ref (q1), .null, .null, .int 0, .null, .null, .int 0, .int 0, .int 0, .int 0, .int 0, .int 0, .null, .null, .int 0, .int 0, .null, .null, .null, .null])), (q1, .inl (Z.2.2.1 0, 68, .inl (fun _ => 0)))]) rfl d_Mo_init_9 ?_
  refine n_aload_n C d_Mo_init_12 0 rfl rfl ?_
  refine n_bipush C d_Mo_init_13 (v := 68) (by decide) ?_
  refine n_newI C 68 (by decide) (by decide) (by decide) (Nat.le_of_ble_eq_true rfl) (Nat.le_of_ble_eq_true rfl) d_Mo_init_15 (fun q2 => ?_)
  refine n_ws (ws' := [(a, .inr (6, [.ref (q1), .null, .null, .int 0, .null, .null, .int 0, .int 0, .int 0, .int 0, .int 0, .int 0, .null, .null, .int 0, .int 0, .null, .null, .null, .null])), (q1, .inl (Z.2.2.1 0, 68, .inl (fun _ => 0))), (q2, .inl (Z.2.2.1 0, 68, .inl (fun _ => 0)))]) rfl ?_
  refine n_putF C I 0 rfl rfl in_Mo ty_Mo tyok_Mo nm_Mo 1 (by decide) rfl rfl k_792 rfl rfl (Nat.le_of_ble_eq_true rfl) (ws' := [(a, .inr (6, [.ref (q1), .ref (q2), .null, .int 0, .null, .null, .int 0, .int 0, .int 0, .int 0, .int 0, .int 0, .null, .null, .int 0, .int 0, .null, .null, .null, .null])), (q1, .inl (Z.2.2.1 0, 68, .inl (fun _ => 0))), (q2, .inl (Z.2.2.1 0, 68, .inl (fun _ => 0)))]) rfl d_Mo_init_17 ?_
  refine n_aload_n C d_Mo_init_20 0 rfl rfl ?_
  refine n_bipush C d_Mo_init_21 (v := 68) (by decide) ?_
  refine n_newI C 68 (by decide) (by decide) (by decide) (Nat.le_of_ble_eq_true rfl) (Nat.le_of_ble_eq_true rfl) d_Mo_init_23 (fun q3 => ?_)
  refine n_ws (ws' := [(a, .inr (6, [.ref (q1), .ref (q2), .null, .int 0, .null, .null, .int 0, .int 0, .int 0, .int 0, .int 0, .int 0, .null, .null, .int 0, .int 0, .null, .null, .null, .null])), (q1, .inl (Z.2.2.1 0, 68, .inl (fun _ => 0))), (q2, .inl (Z.2.2.1 0, 68, .inl (fun _ => 0))), (q3, .inl (Z.2.2.1 0, 68, .inl (fun _ => 0)))]) rfl ?_
  refine n_putF C I 0 rfl rfl in_Mo ty_Mo tyok_Mo nm_Mo 2 (by decide) rfl rfl k_793 rfl rfl (Nat.le_of_ble_eq_true rfl) (ws' := [(a, .inr (6, [.ref (q1), .ref (q2), .ref (q3), .int 0, .null, .null, .int 0, .int 0, .int 0, .int 0, .int 0, .int 0, .null, .null, .int 0, .int 0, .null, .null, .null, .null])), (q1, .inl (Z.2.2.1 0, 68, .inl (fun _ => 0))), (q2, .inl (Z.2.2.1 0, 68, .inl (fun _ => 0))), (q3, .inl (Z.2.2.1 0, 68, .inl (fun _ => 0)))]) rfl d_Mo_init_25 ?_
  refine n_aload_n C d_Mo_init_28 0 rfl rfl ?_
  refine n_bipush C d_Mo_init_29 (v := 8) (by decide) ?_
  refine n_newI C 8 (by decide) (by decide) (by decide) (Nat.le_of_ble_eq_true rfl) (Nat.le_of_ble_eq_true rfl) d_Mo_init_31 (fun q4 => ?_)
  refine n_ws (ws' := [(a, .inr (6, [.ref (q1), .ref (q2), .ref (q3), .int 0, .null, .null, .int 0, .int 0, .int 0, .int 0, .int 0, .int 0, .null, .null, .int 0, .int 0, .null, .null, .null, .null])), (q1, .inl (Z.2.2.1 0, 68, .inl (fun _ => 0))), (q2, .inl (Z.2.2.1 0, 68, .inl (fun _ => 0))), (q3, .inl (Z.2.2.1 0, 68, .inl (fun _ => 0))), (q4, .inl (Z.2.2.1 0, 8, .inl (fun _ => 0)))]) rfl ?_
  refine n_putF C I 0 rfl rfl in_Mo ty_Mo tyok_Mo nm_Mo 4 (by decide) rfl rfl k_795 rfl rfl (Nat.le_of_ble_eq_true rfl) (ws' := [(a, .inr (6, [.ref (q1), .ref (q2), .ref (q3), .int 0, .ref (q4), .null, .int 0, .int 0, .int 0, .int 0, .int 0, .int 0, .null, .null, .int 0, .int 0, .null, .null, .null, .null])), (q1, .inl (Z.2.2.1 0, 68, .inl (fun _ => 0))), (q2, .inl (Z.2.2.1 0, 68, .inl (fun _ => 0))), (q3, .inl (Z.2.2.1 0, 68, .inl (fun _ => 0))), (q4, .inl (Z.2.2.1 0, 8, .inl (fun _ => 0)))]) rfl d_Mo_init_33 ?_
  refine n_aload_n C d_Mo_init_36 0 rfl rfl ?_
  refine n_bipush C d_Mo_init_37 (v := 120) (by decide) ?_
  refine n_newI C 120 (by decide) (by decide) (by decide) (Nat.le_of_ble_eq_true rfl) (Nat.le_of_ble_eq_true rfl) d_Mo_init_39 (fun q5 => ?_)
  refine n_ws (ws' := [(a, .inr (6, [.ref (q1), .ref (q2), .ref (q3), .int 0, .ref (q4), .null, .int 0, .int 0, .int 0, .int 0, .int 0, .int 0, .null, .null, .int 0, .int 0, .null, .null, .null, .null])), (q1, .inl (Z.2.2.1 0, 68, .inl (fun _ => 0))), (q2, .inl (Z.2.2.1 0, 68, .inl (fun _ => 0))), (q3, .inl (Z.2.2.1 0, 68, .inl (fun _ => 0))), (q4, .inl (Z.2.2.1 0, 8, .inl (fun _ => 0))), (q5, .inl (Z.2.2.1 0, 120, .inl (fun _ => 0)))]) rfl ?_
  refine n_putF C I 0 rfl rfl in_Mo ty_Mo tyok_Mo nm_Mo 5 (by decide) rfl rfl k_796 rfl rfl (Nat.le_of_ble_eq_true rfl) (ws' := [(a, .inr (6, [.ref (q1), .ref (q2), .ref (q3), .int 0, .ref (q4), .ref (q5), .int 0, .int 0, .int 0, .int 0, .int 0, .int 0, .null, .null, .int 0, .int 0, .null, .null, .null, .null])), (q1, .inl (Z.2.2.1 0, 68, .inl (fun _ => 0))), (q2, .inl (Z.2.2.1 0, 68, .inl (fun _ => 0))), (q3, .inl (Z.2.2.1 0, 68, .inl (fun _ => 0))), (q4, .inl (Z.2.2.1 0, 8, .inl (fun _ => 0))), (q5, .inl (Z.2.2.1 0, 120, .inl (fun _ => 0)))]) rfl d_Mo_init_41 ?_
  refine n_aload_n C d_Mo_init_44 0 rfl rfl ?_
  refine n_bipush C d_Mo_init_45 (v := 7) (by decide) ?_
  refine n_newQ C 4 rfl (fun _ h => h.2.2) k_782 7 (by decide) (by decide) (by decide) (Nat.le_of_ble_eq_true rfl) (Nat.le_of_ble_eq_true rfl) d_Mo_init_47 (fun q6 => ?_)
  refine n_ws (ws' := [(a, .inr (6, [.ref (q1), .ref (q2), .ref (q3), .int 0, .ref (q4), .ref (q5), .int 0, .int 0, .int 0, .int 0, .int 0, .int 0, .null, .null, .int 0, .int 0, .null, .null, .null, .null])), (q1, .inl (Z.2.2.1 0, 68, .inl (fun _ => 0))), (q2, .inl (Z.2.2.1 0, 68, .inl (fun _ => 0))), (q3, .inl (Z.2.2.1 0, 68, .inl (fun _ => 0))), (q4, .inl (Z.2.2.1 0, 8, .inl (fun _ => 0))), (q5, .inl (Z.2.2.1 0, 120, .inl (fun _ => 0))), (q6, .inl (Z.2.2.1 4, 7, .inr (.inr (.inr (.inr (fun _ => none))))))]) rfl ?_
  refine n_dup C d_Mo_init_50 rfl ?_
  refine n_iconst C d_Mo_init_51 (v := 0) (by decide) ?_
  refine n_ldcS C d_Mo_init_52 13 rfl ?_
  refine n_aastT C 6 8 (by decide) rfl 0 (by decide) (by decide) (Nat.le_of_ble_eq_true rfl) (ws' := [(a, .inr (6, [.ref (q1), .ref (q2), .ref (q3), .int 0, .ref (q4), .ref (q5), .int 0, .int 0, .int 0, .int 0, .int 0, .int 0, .null, .null, .int 0, .int 0, .null, .null, .null, .null])), (q1, .inl (Z.2.2.1 0, 68, .inl (fun _ => 0))), (q2, .inl (Z.2.2.1 0, 68, .inl (fun _ => 0))), (q3, .inl (Z.2.2.1 0, 68, .inl (fun _ => 0))), (q4, .inl (Z.2.2.1 0, 8, .inl (fun _ => 0))), (q5, .inl (Z.2.2.1 0, 120, .inl (fun _ => 0))), (q6, .inl (Z.2.2.1 4, 7, .inr (.inr (.inr (.inr (va_up (fun _ => none) 0 (some (Z.2.2.2.2.1 8))))))))]) rfl d_Mo_init_54 ?_
  refine n_dup C d_Mo_init_55 rfl ?_
  refine n_iconst C d_Mo_init_56 (v := 1) (by decide) ?_
  refine n_ldcS C d_Mo_init_57 14 rfl ?_
  refine n_aastT C 6 2 (by decide) rfl 1 (by decide) (by decide) (Nat.le_of_ble_eq_true rfl) (ws' := [(a, .inr (6, [.ref (q1), .ref (q2), .ref (q3), .int 0, .ref (q4), .ref (q5), .int 0, .int 0, .int 0, .int 0, .int 0, .int 0, .null, .null, .int 0, .int 0, .null, .null, .null, .null])), (q1, .inl (Z.2.2.1 0, 68, .inl (fun _ => 0))), (q2, .inl (Z.2.2.1 0, 68, .inl (fun _ => 0))), (q3, .inl (Z.2.2.1 0, 68, .inl (fun _ => 0))), (q4, .inl (Z.2.2.1 0, 8, .inl (fun _ => 0))), (q5, .inl (Z.2.2.1 0, 120, .inl (fun _ => 0))), (q6, .inl (Z.2.2.1 4, 7, .inr (.inr (.inr (.inr (va_up (va_up (fun _ => none) 0 (some (Z.2.2.2.2.1 8))) 1 (some (Z.2.2.2.2.1 2))))))))]) rfl d_Mo_init_59 ?_
  refine n_dup C d_Mo_init_60 rfl ?_
  refine n_iconst C d_Mo_init_61 (v := 2) (by decide) ?_
  refine n_ldcS C d_Mo_init_62 15 rfl ?_
  refine n_aastT C 6 3 (by decide) rfl 2 (by decide) (by decide) (Nat.le_of_ble_eq_true rfl) (ws' := [(a, .inr (6, [.ref (q1), .ref (q2), .ref (q3), .int 0, .ref (q4), .ref (q5), .int 0, .int 0, .int 0, .int 0, .int 0, .int 0, .null, .null, .int 0, .int 0, .null, .null, .null, .null])), (q1, .inl (Z.2.2.1 0, 68, .inl (fun _ => 0))), (q2, .inl (Z.2.2.1 0, 68, .inl (fun _ => 0))), (q3, .inl (Z.2.2.1 0, 68, .inl (fun _ => 0))), (q4, .inl (Z.2.2.1 0, 8, .inl (fun _ => 0))), (q5, .inl (Z.2.2.1 0, 120, .inl (fun _ => 0))), (q6, .inl (Z.2.2.1 4, 7, .inr (.inr (.inr (.inr (va_up (va_up (va_up (fun _ => none) 0 (some (Z.2.2.2.2.1 8))) 1 (some (Z.2.2.2.2.1 2))) 2 (some (Z.2.2.2.2.1 3))))))))]) rfl d_Mo_init_64 ?_
  refine n_dup C d_Mo_init_65 rfl ?_
  refine n_iconst C d_Mo_init_66 (v := 3) (by decide) ?_
  refine n_ldcS C d_Mo_init_67 16 rfl ?_
  refine n_aastT C 6 4 (by decide) rfl 3 (by decide) (by decide) (Nat.le_of_ble_eq_true rfl) (ws' := [(a, .inr (6, [.ref (q1), .ref (q2), .ref (q3), .int 0, .ref (q4), .ref (q5), .int 0, .int 0, .int 0, .int 0, .int 0, .int 0, .null, .null, .int 0, .int 0, .null, .null, .null, .null])), (q1, .inl (Z.2.2.1 0, 68, .inl (fun _ => 0))), (q2, .inl (Z.2.2.1 0, 68, .inl (fun _ => 0))), (q3, .inl (Z.2.2.1 0, 68, .inl (fun _ => 0))), (q4, .inl (Z.2.2.1 0, 8, .inl (fun _ => 0))), (q5, .inl (Z.2.2.1 0, 120, .inl (fun _ => 0))), (q6, .inl (Z.2.2.1 4, 7, .inr (.inr (.inr (.inr (va_up (va_up (va_up (va_up (fun _ => none) 0 (some (Z.2.2.2.2.1 8))) 1 (some (Z.2.2.2.2.1 2))) 2 (some (Z.2.2.2.2.1 3))) 3 (some (Z.2.2.2.2.1 4))))))))]) rfl d_Mo_init_69 ?_
  refine n_dup C d_Mo_init_70 rfl ?_
  refine n_iconst C d_Mo_init_71 (v := 4) (by decide) ?_
  refine n_ldcS C d_Mo_init_72 17 rfl ?_
  refine n_aastT C 6 5 (by decide) rfl 4 (by decide) (by decide) (Nat.le_of_ble_eq_true rfl) (ws' := [(a, .inr (6, [.ref (q1), .ref (q2), .ref (q3), .int 0, .ref (q4), .ref (q5), .int 0, .int 0, .int 0, .int 0, .int 0, .int 0, .null, .null, .int 0, .int 0, .null, .null, .null, .null])), (q1, .inl (Z.2.2.1 0, 68, .inl (fun _ => 0))), (q2, .inl (Z.2.2.1 0, 68, .inl (fun _ => 0))), (q3, .inl (Z.2.2.1 0, 68, .inl (fun _ => 0))), (q4, .inl (Z.2.2.1 0, 8, .inl (fun _ => 0))), (q5, .inl (Z.2.2.1 0, 120, .inl (fun _ => 0))), (q6, .inl (Z.2.2.1 4, 7, .inr (.inr (.inr (.inr (va_up (va_up (va_up (va_up (va_up (fun _ => none) 0 (some (Z.2.2.2.2.1 8))) 1 (some (Z.2.2.2.2.1 2))) 2 (some (Z.2.2.2.2.1 3))) 3 (some (Z.2.2.2.2.1 4))) 4 (some (Z.2.2.2.2.1 5))))))))]) rfl d_Mo_init_74 ?_
  refine n_dup C d_Mo_init_75 rfl ?_
  refine n_iconst C d_Mo_init_76 (v := 5) (by decide) ?_
  refine n_ldcS C d_Mo_init_77 18 rfl ?_
  refine n_aastT C 6 6 (by decide) rfl 5 (by decide) (by decide) (Nat.le_of_ble_eq_true rfl) (ws' := [(a, .inr (6, [.ref (q1), .ref (q2), .ref (q3), .int 0, .ref (q4), .ref (q5), .int 0, .int 0, .int 0, .int 0, .int 0, .int 0, .null, .null, .int 0, .int 0, .null, .null, .null, .null])), (q1, .inl (Z.2.2.1 0, 68, .inl (fun _ => 0))), (q2, .inl (Z.2.2.1 0, 68, .inl (fun _ => 0))), (q3, .inl (Z.2.2.1 0, 68, .inl (fun _ => 0))), (q4, .inl (Z.2.2.1 0, 8, .inl (fun _ => 0))), (q5, .inl (Z.2.2.1 0, 120, .inl (fun _ => 0))), (q6, .inl (Z.2.2.1 4, 7, .inr (.inr (.inr (.inr (va_up (va_up (va_up (va_up (va_up (va_up (fun _ => none) 0 (some (Z.2.2.2.2.1 8))) 1 (some (Z.2.2.2.2.1 2))) 2 (some (Z.2.2.2.2.1 3))) 3 (some (Z.2.2.2.2.1 4))) 4 (some (Z.2.2.2.2.1 5))) 5 (some (Z.2.2.2.2.1 6))))))))]) rfl d_Mo_init_79 ?_
  refine n_dup C d_Mo_init_80 rfl ?_
  refine n_bipush C d_Mo_init_81 (v := 6) (by decide) ?_
  refine n_ldcS C d_Mo_init_83 19 rfl ?_
  refine n_aastT C 6 7 (by decide) rfl 6 (by decide) (by decide) (Nat.le_of_ble_eq_true rfl) (ws' := [(a, .inr (6, [.ref (q1), .ref (q2), .ref (q3), .int 0, .ref (q4), .ref (q5), .int 0, .int 0, .int 0, .int 0, .int 0, .int 0, .null, .null, .int 0, .int 0, .null, .null, .null, .null])), (q1, .inl (Z.2.2.1 0, 68, .inl (fun _ => 0))), (q2, .inl (Z.2.2.1 0, 68, .inl (fun _ => 0))), (q3, .inl (Z.2.2.1 0, 68, .inl (fun _ => 0))), (q4, .inl (Z.2.2.1 0, 8, .inl (fun _ => 0))), (q5, .inl (Z.2.2.1 0, 120, .inl (fun _ => 0))), (q6, .inl (Z.2.2.1 4, 7, .inr (.inr (.inr (.inr (va_up (va_up (va_up (va_up (va_up (va_up (va_up (fun _ => none) 0 (some (Z.2.2.2.2.1 8))) 1 (some (Z.2.2.2.2.1 2))) 2 (some (Z.2.2.2.2.1 3))) 3 (some (Z.2.2.2.2.1 4))) 4 (some (Z.2.2.2.2.1 5))) 5 (some (Z.2.2.2.2.1 6))) 6 (some (Z.2.2.2.2.1 7))))))))]) rfl d_Mo_init_85 ?_
  refine n_putF C I 0 rfl rfl in_Mo ty_Mo tyok_Mo nm_Mo 12 (by decide) rfl rfl k_803 rfl rfl (Nat.le_of_ble_eq_true rfl) (ws' := [(a, .inr (6, [.ref (q1), .ref (q2), .ref (q3), .int 0, .ref (q4), .ref (q5), .int 0, .int 0, .int 0, .int 0, .int 0, .int 0, .ref (q6), .null, .int 0, .int 0, .null, .null, .null, .null])), (q1, .inl (Z.2.2.1 0, 68, .inl (fun _ => 0))), (q2, .inl (Z.2.2.1 0, 68, .inl (fun _ => 0))), (q3, .inl (Z.2.2.1 0, 68, .inl (fun _ => 0))), (q4, .inl (Z.2.2.1 0, 8, .inl (fun _ => 0))), (q5, .inl (Z.2.2.1 0, 120, .inl (fun _ => 0))), (q6, .inl (Z.2.2.1 4, 7, .inr (.inr (.inr (.inr (va_up (va_up (va_up (va_up (va_up (va_up (va_up (fun _ => none) 0 (some (Z.2.2.2.2.1 8))) 1 (some (Z.2.2.2.2.1 2))) 2 (some (Z.2.2.2.2.1 3))) 3 (some (Z.2.2.2.2.1 4))) 4 (some (Z.2.2.2.2.1 5))) 5 (some (Z.2.2.2.2.1 6))) 6 (some (Z.2.2.2.2.1 7))))))))]) rfl d_Mo_init_86 ?_
  refine n_aload_n C d_Mo_init_89 0 rfl rfl ?_
  refine n_sipush C d_Mo_init_90 (v := 720) (by decide) ?_
  refine n_newI C 720 (by decide) (by decide) (by decide) (Nat.le_of_ble_eq_true rfl) (Nat.le_of_ble_eq_true rfl) d_Mo_init_93 (fun q7 => ?_)
  refine n_ws (ws' := [(a, .inr (6, [.ref (q1), .ref (q2), .ref (q3), .int 0, .ref (q4), .ref (q5), .int 0, .int 0, .int 0, .int 0, .int 0, .int 0, .ref (q6), .null, .int 0, .int 0, .null, .null, .null, .null])), (q1, .inl (Z.2.2.1 0, 68, .inl (fun _ => 0))), (q2, .inl (Z.2.2.1 0, 68, .inl (fun _ => 0))), (q3, .inl (Z.2.2.1 0, 68, .inl (fun _ => 0))), (q4, .inl (Z.2.2.1 0, 8, .inl (fun _ => 0))), (q5, .inl (Z.2.2.1 0, 120, .inl (fun _ => 0))), (q6, .inl (Z.2.2.1 4, 7, .inr (.inr (.inr (.inr (va_up (va_up (va_up (va_up (va_up (va_up (va_up (fun _ => none) 0 (some (Z.2.2.2.2.1 8))) 1 (some (Z.2.2.2.2.1 2))) 2 (some (Z.2.2.2.2.1 3))) 3 (some (Z.2.2.2.2.1 4))) 4 (some (Z.2.2.2.2.1 5))) 5 (some (Z.2.2.2.2.1 6))) 6 (some (Z.2.2.2.2.1 7)))))))), (q7, .inl (Z.2.2.1 0, 720, .inl (fun _ => 0)))]) rfl ?_
  refine n_putF C I 0 rfl rfl in_Mo ty_Mo tyok_Mo nm_Mo 13 (by decide) rfl rfl k_804 rfl rfl (Nat.le_of_ble_eq_true rfl) (ws' := [(a, .inr (6, [.ref (q1), .ref (q2), .ref (q3), .int 0, .ref (q4), .ref (q5), .int 0, .int 0, .int 0, .int 0, .int 0, .int 0, .ref (q6), .ref (q7), .int 0, .int 0, .null, .null, .null, .null])), (q1, .inl (Z.2.2.1 0, 68, .inl (fun _ => 0))), (q2, .inl (Z.2.2.1 0, 68, .inl (fun _ => 0))), (q3, .inl (Z.2.2.1 0, 68, .inl (fun _ => 0))), (q4, .inl (Z.2.2.1 0, 8, .inl (fun _ => 0))), (q5, .inl (Z.2.2.1 0, 120, .inl (fun _ => 0))), (q6, .inl (Z.2.2.1 4, 7, .inr (.inr (.inr (.inr (va_up (va_up (va_up (va_up (va_up (va_up (va_up (fun _ => none) 0 (some (Z.2.2.2.2.1 8))) 1 (some (Z.2.2.2.2.1 2))) 2 (some (Z.2.2.2.2.1 3))) 3 (some (Z.2.2.2.2.1 4))) 4 (some (Z.2.2.2.2.1 5))) 5 (some (Z.2.2.2.2.1 6))) 6 (some (Z.2.2.2.2.1 7)))))))), (q7, .inl (Z.2.2.1 0, 720, .inl (fun _ => 0)))]) rfl d_Mo_init_95 ?_
  refine n_aload_n C d_Mo_init_98 0 rfl rfl ?_
  refine n_iconst C d_Mo_init_99 (v := 4) (by decide) ?_
  refine n_newI C 4 (by decide) (by decide) (by decide) (Nat.le_of_ble_eq_true rfl) (Nat.le_of_ble_eq_true rfl) d_Mo_init_100 (fun q8 => ?_)
  refine n_ws (ws' := [(a, .inr (6, [.ref (q1), .ref (q2), .ref (q3), .int 0, .ref (q4), .ref (q5), .int 0, .int 0, .int 0, .int 0, .int 0, .int 0, .ref (q6), .ref (q7), .int 0, .int 0, .null, .null, .null, .null])), (q1, .inl (Z.2.2.1 0, 68, .inl (fun _ => 0))), (q2, .inl (Z.2.2.1 0, 68, .inl (fun _ => 0))), (q3, .inl (Z.2.2.1 0, 68, .inl (fun _ => 0))), (q4, .inl (Z.2.2.1 0, 8, .inl (fun _ => 0))), (q5, .inl (Z.2.2.1 0, 120, .inl (fun _ => 0))), (q6, .inl (Z.2.2.1 4, 7, .inr (.inr (.inr (.inr (va_up (va_up (va_up (va_up (va_up (va_up (va_up (fun _ => none) 0 (some (Z.2.2.2.2.1 8))) 1 (some (Z.2.2.2.2.1 2))) 2 (some (Z.2.2.2.2.1 3))) 3 (some (Z.2.2.2.2.1 4))) 4 (some (Z.2.2.2.2.1 5))) 5 (some (Z.2.2.2.2.1 6))) 6 (some (Z.2.2.2.2.1 7)))))))), (q7, .inl (Z.2.2.1 0, 720, .inl (fun _ => 0))), (q8, .inl (Z.2.2.1 0, 4, .inl (fun _ => 0)))]) rfl ?_
  refine n_putF C I 0 rfl rfl in_Mo ty_Mo tyok_Mo nm_Mo 16 (by decide) rfl rfl k_807 rfl rfl (Nat.le_of_ble_eq_true rfl) (ws' := [(a, .inr (6, [.ref (q1), .ref (q2), .ref (q3), .int 0, .ref (q4), .ref (q5), .int 0, .int 0, .int 0, .int 0, .int 0, .int 0, .ref (q6), .ref (q7), .int 0, .int 0, .ref (q8), .null, .null, .null])), (q1, .inl (Z.2.2.1 0, 68, .inl (fun _ => 0))), (q2, .inl (Z.2.2.1 0, 68, .inl (fun _ => 0))), (q3, .inl (Z.2.2.1 0, 68, .inl (fun _ => 0))), (q4, .inl (Z.2.2.1 0, 8, .inl (fun _ => 0))), (q5, .inl (Z.2.2.1 0, 120, .inl (fun _ => 0))), (q6, .inl (Z.2.2.1 4, 7, .inr (.inr (.inr (.inr (va_up (va_up (va_up (va_up (va_up (va_up (va_up (fun _ => none) 0 (some (Z.2.2.2.2.1 8))) 1 (some (Z.2.2.2.2.1 2))) 2 (some (Z.2.2.2.2.1 3))) 3 (some (Z.2.2.2.2.1 4))) 4 (some (Z.2.2.2.2.1 5))) 5 (some (Z.2.2.2.2.1 6))) 6 (some (Z.2.2.2.2.1 7)))))))), (q7, .inl (Z.2.2.1 0, 720, .inl (fun _ => 0))), (q8, .inl (Z.2.2.1 0, 4, .inl (fun _ => 0)))]) rfl d_Mo_init_102 ?_
  refine n_aload_n C d_Mo_init_105 0 rfl rfl ?_
  refine n_iconst C d_Mo_init_106 (v := 4) (by decide) ?_
  refine n_newI C 4 (by decide) (by decide) (by decide) (Nat.le_of_ble_eq_true rfl) (Nat.le_of_ble_eq_true rfl) d_Mo_init_107 (fun q9 => ?_)
  refine n_ws (ws' := [(a, .inr (6, [.ref (q1), .ref (q2), .ref (q3), .int 0, .ref (q4), .ref (q5), .int 0, .int 0, .int 0, .int 0, .int 0, .int 0, .ref (q6), .ref (q7), .int 0, .int 0, .ref (q8), .null, .null, .null])), (q1, .inl (Z.2.2.1 0, 68, .inl (fun _ => 0))), (q2, .inl (Z.2.2.1 0, 68, .inl (fun _ => 0))), (q3, .inl (Z.2.2.1 0, 68, .inl (fun _ => 0))), (q4, .inl (Z.2.2.1 0, 8, .inl (fun _ => 0))), (q5, .inl (Z.2.2.1 0, 120, .inl (fun _ => 0))), (q6, .inl (Z.2.2.1 4, 7, .inr (.inr (.inr (.inr (va_up (va_up (va_up (va_up (va_up (va_up (va_up (fun _ => none) 0 (some (Z.2.2.2.2.1 8))) 1 (some (Z.2.2.2.2.1 2))) 2 (some (Z.2.2.2.2.1 3))) 3 (some (Z.2.2.2.2.1 4))) 4 (some (Z.2.2.2.2.1 5))) 5 (some (Z.2.2.2.2.1 6))) 6 (some (Z.2.2.2.2.1 7)))))))), (q7, .inl (Z.2.2.1 0, 720, .inl (fun _ => 0))), (q8, .inl (Z.2.2.1 0, 4, .inl (fun _ => 0))), (q9, .inl (Z.2.2.1 0, 4, .inl (fun _ => 0)))]) rfl ?_
  refine n_putF C I 0 rfl rfl in_Mo ty_Mo tyok_Mo nm_Mo 17 (by decide) rfl rfl k_808 rfl rfl (Nat.le_of_ble_eq_true rfl) (ws' := [(a, .inr (6, [.ref (q1), .ref (q2), .ref (q3), .int 0, .ref (q4), .ref (q5), .int 0, .int 0, .int 0, .int 0, .int 0, .int 0, .ref (q6), .ref (q7), .int 0, .int 0, .ref (q8), .ref (q9), .null, .null])), (q1, .inl (Z.2.2.1 0, 68, .inl (fun _ => 0))), (q2, .inl (Z.2.2.1 0, 68, .inl (fun _ => 0))), (q3, .inl (Z.2.2.1 0, 68, .inl (fun _ => 0))), (q4, .inl (Z.2.2.1 0, 8, .inl (fun _ => 0))), (q5, .inl (Z.2.2.1 0, 120, .inl (fun _ => 0))), (q6, .inl (Z.2.2.1 4, 7, .inr (.inr (.inr (.inr (va_up (va_up (va_up (va_up (va_up (va_up (va_up (fun _ => none) 0 (some (Z.2.2.2.2.1 8))) 1 (some (Z.2.2.2.2.1 2))) 2 (some (Z.2.2.2.2.1 3))) 3 (some (Z.2.2.2.2.1 4))) 4 (some (Z.2.2.2.2.1 5))) 5 (some (Z.2.2.2.2.1 6))) 6 (some (Z.2.2.2.2.1 7)))))))), (q7, .inl (Z.2.2.1 0, 720, .inl (fun _ => 0))), (q8, .inl (Z.2.2.1 0, 4, .inl (fun _ => 0))), (q9, .inl (Z.2.2.1 0, 4, .inl (fun _ => 0)))]) rfl d_Mo_init_109 ?_
  refine n_aload_n C d_Mo_init_112 0 rfl rfl ?_
  refine n_sipush C d_Mo_init_113 (v := 160) (by decide) ?_
  refine n_newI C 160 (by decide) (by decide) (by decide) (Nat.le_of_ble_eq_true rfl) (Nat.le_of_ble_eq_true rfl) d_Mo_init_116 (fun q10 => ?_)
  refine n_ws (ws' := [(a, .inr (6, [.ref (q1), .ref (q2), .ref (q3), .int 0, .ref (q4), .ref (q5), .int 0, .int 0, .int 0, .int 0, .int 0, .int 0, .ref (q6), .ref (q7), .int 0, .int 0, .ref (q8), .ref (q9), .null, .null])), (q1, .inl (Z.2.2.1 0, 68, .inl (fun _ => 0))), (q2, .inl (Z.2.2.1 0, 68, .inl (fun _ => 0))), (q3, .inl (Z.2.2.1 0, 68, .inl (fun _ => 0))), (q4, .inl (Z.2.2.1 0, 8, .inl (fun _ => 0))), (q5, .inl (Z.2.2.1 0, 120, .inl (fun _ => 0))), (q6, .inl (Z.2.2.1 4, 7, .inr (.inr (.inr (.inr (va_up (va_up (va_up (va_up (va_up (va_up (va_up (fun _ => none) 0 (some (Z.2.2.2.2.1 8))) 1 (some (Z.2.2.2.2.1 2))) 2 (some (Z.2.2.2.2.1 3))) 3 (some (Z.2.2.2.2.1 4))) 4 (some (Z.2.2.2.2.1 5))) 5 (some (Z.2.2.2.2.1 6))) 6 (some (Z.2.2.2.2.1 7)))))))), (q7, .inl (Z.2.2.1 0, 720, .inl (fun _ => 0))), (q8, .inl (Z.2.2.1 0, 4, .inl (fun _ => 0))), (q9, .inl (Z.2.2.1 0, 4, .inl (fun _ => 0))), (q10, .inl (Z.2.2.1 0, 160, .inl (fun _ => 0)))]) rfl ?_
  refine n_putF C I 0 rfl rfl in_Mo ty_Mo tyok_Mo nm_Mo 18 (by decide) rfl rfl k_809 rfl rfl (Nat.le_of_ble_eq_true rfl) (ws' := [(a, .inr (6, [.ref (q1), .ref (q2), .ref (q3), .int 0, .ref (q4), .ref (q5), .int 0, .int 0, .int 0, .int 0, .int 0, .int 0, .ref (q6), .ref (q7), .int 0, .int 0, .ref (q8), .ref (q9), .ref (q10), .null])), (q1, .inl (Z.2.2.1 0, 68, .inl (fun _ => 0))), (q2, .inl (Z.2.2.1 0, 68, .inl (fun _ => 0))), (q3, .inl (Z.2.2.1 0, 68, .inl (fun _ => 0))), (q4, .inl (Z.2.2.1 0, 8, .inl (fun _ => 0))), (q5, .inl (Z.2.2.1 0, 120, .inl (fun _ => 0))), (q6, .inl (Z.2.2.1 4, 7, .inr (.inr (.inr (.inr (va_up (va_up (va_up (va_up (va_up (va_up (va_up (fun _ => none) 0 (some (Z.2.2.2.2.1 8))) 1 (some (Z.2.2.2.2.1 2))) 2 (some (Z.2.2.2.2.1 3))) 3 (some (Z.2.2.2.2.1 4))) 4 (some (Z.2.2.2.2.1 5))) 5 (some (Z.2.2.2.2.1 6))) 6 (some (Z.2.2.2.2.1 7)))))))), (q7, .inl (Z.2.2.1 0, 720, .inl (fun _ => 0))), (q8, .inl (Z.2.2.1 0, 4, .inl (fun _ => 0))), (q9, .inl (Z.2.2.1 0, 4, .inl (fun _ => 0))), (q10, .inl (Z.2.2.1 0, 160, .inl (fun _ => 0)))]) rfl d_Mo_init_118 ?_
  refine n_aload_n C d_Mo_init_121 0 rfl rfl ?_
  refine n_bipush C d_Mo_init_122 (v := 40) (by decide) ?_
  refine n_newI C 40 (by decide) (by decide) (by decide) (Nat.le_of_ble_eq_true rfl) (Nat.le_of_ble_eq_true rfl) d_Mo_init_124 (fun q11 => ?_)
  refine n_ws (ws' := [(a, .inr (6, [.ref (q1), .ref (q2), .ref (q3), .int 0, .ref (q4), .ref (q5), .int 0, .int 0, .int 0, .int 0, .int 0, .int 0, .ref (q6), .ref (q7), .int 0, .int 0, .ref (q8), .ref (q9), .ref (q10), .null])), (q1, .inl (Z.2.2.1 0, 68, .inl (fun _ => 0))), (q2, .inl (Z.2.2.1 0, 68, .inl (fun _ => 0))), (q3, .inl (Z.2.2.1 0, 68, .inl (fun _ => 0))), (q4, .inl (Z.2.2.1 0, 8, .inl (fun _ => 0))), (q5, .inl (Z.2.2.1 0, 120, .inl (fun _ => 0))), (q6, .inl (Z.2.2.1 4, 7, .inr (.inr (.inr (.inr (va_up (va_up (va_up (va_up (va_up (va_up (va_up (fun _ => none) 0 (some (Z.2.2.2.2.1 8))) 1 (some (Z.2.2.2.2.1 2))) 2 (some (Z.2.2.2.2.1 3))) 3 (some (Z.2.2.2.2.1 4))) 4 (some (Z.2.2.2.2.1 5))) 5 (some (Z.2.2.2.2.1 6))) 6 (some (Z.2.2.2.2.1 7)))))))), (q7, .inl (Z.2.2.1 0, 720, .inl (fun _ => 0))), (q8, .inl (Z.2.2.1 0, 4, .inl (fun _ => 0))), (q9, .inl (Z.2.2.1 0, 4, .inl (fun _ => 0))), (q10, .inl (Z.2.2.1 0, 160, .inl (fun _ => 0))), (q11, .inl (Z.2.2.1 0, 40, .inl (fun _ => 0)))]) rfl ?_
  refine n_putF C I 0 rfl rfl in_Mo ty_Mo tyok_Mo nm_Mo 19 (by decide) rfl rfl k_810 rfl rfl (Nat.le_of_ble_eq_true rfl) (ws' := [(a, .inr (6, [.ref (q1), .ref (q2), .ref (q3), .int 0, .ref (q4), .ref (q5), .int 0, .int 0, .int 0, .int 0, .int 0, .int 0, .ref (q6), .ref (q7), .int 0, .int 0, .ref (q8), .ref (q9), .ref (q10), .ref (q11)])), (q1, .inl (Z.2.2.1 0, 68, .inl (fun _ => 0))), (q2, .inl (Z.2.2.1 0, 68, .inl (fun _ => 0))), (q3, .inl (Z.2.2.1 0, 68, .inl (fun _ => 0))), (q4, .inl (Z.2.2.1 0, 8, .inl (fun _ => 0))), (q5, .inl (Z.2.2.1 0, 120, .inl (fun _ => 0))), (q6, .inl (Z.2.2.1 4, 7, .inr (.inr (.inr (.inr (va_up (va_up (va_up (va_up (va_up (va_up (va_up (fun _ => none) 0 (some (Z.2.2.2.2.1 8))) 1 (some (Z.2.2.2.2.1 2))) 2 (some (Z.2.2.2.2.1 3))) 3 (some (Z.2.2.2.2.1 4))) 4 (some (Z.2.2.2.2.1 5))) 5 (some (Z.2.2.2.2.1 6))) 6 (some (Z.2.2.2.2.1 7)))))))), (q7, .inl (Z.2.2.1 0, 720, .inl (fun _ => 0))), (q8, .inl (Z.2.2.1 0, 4, .inl (fun _ => 0))), (q9, .inl (Z.2.2.1 0, 4, .inl (fun _ => 0))), (q10, .inl (Z.2.2.1 0, 160, .inl (fun _ => 0))), (q11, .inl (Z.2.2.1 0, 40, .inl (fun _ => 0)))]) rfl d_Mo_init_126 ?_
  refine n_aload_n C d_Mo_init_129 0 rfl rfl ?_
  refine n_get C 0 rfl rfl in_Mo 0 (by decide) k_791 (v := .ref (q1)) rfl d_Mo_init_130 ?_
  refine n_iconst C d_Mo_init_133 (v := 2) (by decide) ?_
  refine n_iconst C d_Mo_init_134 (v := 1) (by decide) ?_
  refine n_iast C 1 rfl 2 (by decide) (by decide) (Nat.le_of_ble_eq_true rfl) (ws' := [(a, .inr (6, [.ref (q1), .ref (q2), .ref (q3), .int 0, .ref (q4), .ref (q5), .int 0, .int 0, .int 0, .int 0, .int 0, .int 0, .ref (q6), .ref (q7), .int 0, .int 0, .ref (q8), .ref (q9), .ref (q10), .ref (q11)])), (q1, .inl (Z.2.2.1 0, 68, .inl (upd (fun _ => 0) 2 (1)))), (q2, .inl (Z.2.2.1 0, 68, .inl (fun _ => 0))), (q3, .inl (Z.2.2.1 0, 68, .inl (fun _ => 0))), (q4, .inl (Z.2.2.1 0, 8, .inl (fun _ => 0))), (q5, .inl (Z.2.2.1 0, 120, .inl (fun _ => 0))), (q6, .inl (Z.2.2.1 4, 7, .inr (.inr (.inr (.inr (va_up (va_up (va_up (va_up (va_up (va_up (va_up (fun _ => none) 0 (some (Z.2.2.2.2.1 8))) 1 (some (Z.2.2.2.2.1 2))) 2 (some (Z.2.2.2.2.1 3))) 3 (some (Z.2.2.2.2.1 4))) 4 (some (Z.2.2.2.2.1 5))) 5 (some (Z.2.2.2.2.1 6))) 6 (some (Z.2.2.2.2.1 7)))))))), (q7, .inl (Z.2.2.1 0, 720, .inl (fun _ => 0))), (q8, .inl (Z.2.2.1 0, 4, .inl (fun _ => 0))), (q9, .inl (Z.2.2.1 0, 4, .inl (fun _ => 0))), (q10, .inl (Z.2.2.1 0, 160, .inl (fun _ => 0))), (q11, .inl (Z.2.2.1 0, 40, .inl (fun _ => 0)))]) rfl d_Mo_init_135 ?_
  refine n_aload_n C d_Mo_init_136 0 rfl rfl ?_
  refine n_get C 0 rfl rfl in_Mo 0 (by decide) k_791 (v := .ref (q1)) rfl d_Mo_init_137 ?_
  refine n_iconst C d_Mo_init_140 (v := 3) (by decide) ?_
  refine n_bipush C d_Mo_init_141 (v := 50) (by decide) ?_
  refine n_iast C 1 rfl 3 (by decide) (by decide) (Nat.le_of_ble_eq_true rfl) (ws' := [(a, .inr (6, [.ref (q1), .ref (q2), .ref (q3), .int 0, .ref (q4), .ref (q5), .int 0, .int 0, .int 0, .int 0, .int 0, .int 0, .ref (q6), .ref (q7), .int 0, .int 0, .ref (q8), .ref (q9), .ref (q10), .ref (q11)])), (q1, .inl (Z.2.2.1 0, 68, .inl (upd (upd (fun _ => 0) 2 (1)) 3 (50)))), (q2, .inl (Z.2.2.1 0, 68, .inl (fun _ => 0))), (q3, .inl (Z.2.2.1 0, 68, .inl (fun _ => 0))), (q4, .inl (Z.2.2.1 0, 8, .inl (fun _ => 0))), (q5, .inl (Z.2.2.1 0, 120, .inl (fun _ => 0))), (q6, .inl (Z.2.2.1 4, 7, .inr (.inr (.inr (.inr (va_up (va_up (va_up (va_up (va_up (va_up (va_up (fun _ => none) 0 (some (Z.2.2.2.2.1 8))) 1 (some (Z.2.2.2.2.1 2))) 2 (some (Z.2.2.2.2.1 3))) 3 (some (Z.2.2.2.2.1 4))) 4 (some (Z.2.2.2.2.1 5))) 5 (some (Z.2.2.2.2.1 6))) 6 (some (Z.2.2.2.2.1 7)))))))), (q7, .inl (Z.2.2.1 0, 720, .inl (fun _ => 0))), (q8, .inl (Z.2.2.1 0, 4, .inl (fun _ => 0))), (q9, .inl (Z.2.2.1 0, 4, .inl (fun _ => 0))), (q10, .inl (Z.2.2.1 0, 160, .inl (fun _ => 0))), (q11, .inl (Z.2.2.1 0, 40, .inl (fun _ => 0)))]) rfl d_Mo_init_143 ?_
  refine n_iconst C d_Mo_init_144 (v := 0) (by decide) ?_
  refine n_istore_n C d_Mo_init_145 rfl (by decide) (lv' := [(1, .int (0)), (0, .ref (a))]) rfl ?_
  refine n_iload_n C d_Mo_init_146 0 rfl rfl ?_
  refine n_bipush C d_Mo_init_147 (v := 6) (by decide) ?_
  refine n_icmp_ge C d_Mo_init_149 168 (by decide) (fun h => absurd h (by decide)) (fun _ => ?_)
  refine n_aload_n C d_Mo_init_152 1 rfl rfl ?_
  refine n_get C 0 rfl rfl in_Mo 0 (by decide) k_791 (v := .ref (q1)) rfl d_Mo_init_153 ?_
  refine n_iconst C d_Mo_init_156 (v := 4) (by decide) ?_
  refine n_iload_n C d_Mo_init_157 0 rfl rfl ?_
  refine n_iadd C d_Mo_init_158 ?_
  refine n_topi (x' := 4) (by decide) ?_
  refine n_bipush C d_Mo_init_159 (v := 7) (by decide) ?_
  refine n_iast C 1 rfl 4 (by decide) (by decide) (Nat.le_of_ble_eq_true rfl) (ws' := [(a, .inr (6, [.ref (q1), .ref (q2), .ref (q3), .int 0, .ref (q4), .ref (q5), .int 0, .int 0, .int 0, .int 0, .int 0, .int 0, .ref (q6), .ref (q7), .int 0, .int 0, .ref (q8), .ref (q9), .ref (q10), .ref (q11)])), (q1, .inl (Z.2.2.1 0, 68, .inl (upd (upd (upd (fun _ => 0) 2 (1)) 3 (50)) 4 (7)))), (q2, .inl (Z.2.2.1 0, 68, .inl (fun _ => 0))), (q3, .inl (Z.2.2.1 0, 68, .inl (fun _ => 0))), (q4, .inl (Z.2.2.1 0, 8, .inl (fun _ => 0))), (q5, .inl (Z.2.2.1 0, 120, .inl (fun _ => 0))), (q6, .inl (Z.2.2.1 4, 7, .inr (.inr (.inr (.inr (va_up (va_up (va_up (va_up (va_up (va_up (va_up (fun _ => none) 0 (some (Z.2.2.2.2.1 8))) 1 (some (Z.2.2.2.2.1 2))) 2 (some (Z.2.2.2.2.1 3))) 3 (some (Z.2.2.2.2.1 4))) 4 (some (Z.2.2.2.2.1 5))) 5 (some (Z.2.2.2.2.1 6))) 6 (some (Z.2.2.2.2.1 7)))))))), (q7, .inl (Z.2.2.1 0, 720, .inl (fun _ => 0))), (q8, .inl (Z.2.2.1 0, 4, .inl (fun _ => 0))), (q9, .inl (Z.2.2.1 0, 4, .inl (fun _ => 0))), (q10, .inl (Z.2.2.1 0, 160, .inl (fun _ => 0))), (q11, .inl (Z.2.2.1 0, 40, .inl (fun _ => 0)))]) rfl d_Mo_init_161 ?_
  refine n_iinc C d_Mo_init_162 0 rfl (v := 1) (by decide) (by decide) (lv' := [(1, .int (1)), (0, .ref (a))]) rfl ?_
  refine n_goto C d_Mo_init_165 146 (by decide) ?_
  refine n_iload_n C d_Mo_init_146 0 rfl rfl ?_
  refine n_bipush C d_Mo_init_147 (v := 6) (by decide) ?_
  refine n_icmp_ge C d_Mo_init_149 168 (by decide) (fun h => absurd h (by decide)) (fun _ => ?_)
  refine n_aload_n C d_Mo_init_152 1 rfl rfl ?_
  refine n_get C 0 rfl rfl in_Mo 0 (by decide) k_791 (v := .ref (q1)) rfl d_Mo_init_153 ?_
  refine n_iconst C d_Mo_init_156 (v := 4) (by decide) ?_
  refine n_iload_n C d_Mo_init_157 0 rfl rfl ?_
  refine n_iadd C d_Mo_init_158 ?_
  refine n_topi (x' := 5) (by decide) ?_
  refine n_bipush C d_Mo_init_159 (v := 7) (by decide) ?_
  refine n_iast C 1 rfl 5 (by decide) (by decide) (Nat.le_of_ble_eq_true rfl) (ws' := [(a, .inr (6, [.ref (q1), .ref (q2), .ref (q3), .int 0, .ref (q4), .ref (q5), .int 0, .int 0, .int 0, .int 0, .int 0, .int 0, .ref (q6), .ref (q7), .int 0, .int 0, .ref (q8), .ref (q9), .ref (q10), .ref (q11)])), (q1, .inl (Z.2.2.1 0, 68, .inl (upd (upd (upd (upd (fun _ => 0) 2 (1)) 3 (50)) 4 (7)) 5 (7)))), (q2, .inl (Z.2.2.1 0, 68, .inl (fun _ => 0))), (q3, .inl (Z.2.2.1 0, 68, .inl (fun _ => 0))), (q4, .inl (Z.2.2.1 0, 8, .inl (fun _ => 0))), (q5, .inl (Z.2.2.1 0, 120, .inl (fun _ => 0))), (q6, .inl (Z.2.2.1 4, 7, .inr (.inr (.inr (.inr (va_up (va_up (va_up (va_up (va_up (va_up (va_up (fun _ => none) 0 (some (Z.2.2.2.2.1 8))) 1 (some (Z.2.2.2.2.1 2))) 2 (some (Z.2.2.2.2.1 3))) 3 (some (Z.2.2.2.2.1 4))) 4 (some (Z.2.2.2.2.1 5))) 5 (some (Z.2.2.2.2.1 6))) 6 (some (Z.2.2.2.2.1 7)))))))), (q7, .inl (Z.2.2.1 0, 720, .inl (fun _ => 0))), (q8, .inl (Z.2.2.1 0, 4, .inl (fun _ => 0))), (q9, .inl (Z.2.2.1 0, 4, .inl (fun _ => 0))), (q10, .inl (Z.2.2.1 0, 160, .inl (fun _ => 0))), (q11, .inl (Z.2.2.1 0, 40, .inl (fun _ => 0)))]) rfl d_Mo_init_161 ?_
  refine n_iinc C d_Mo_init_162 0 rfl (v := 2) (by decide) (by decide) (lv' := [(1, .int (2)), (0, .ref (a))]) rfl ?_
  refine n_goto C d_Mo_init_165 146 (by decide) ?_
  refine n_iload_n C d_Mo_init_146 0 rfl rfl ?_
  refine n_bipush C d_Mo_init_147 (v := 6) (by decide) ?_
  refine n_icmp_ge C d_Mo_init_149 168 (by decide) (fun h => absurd h (by decide)) (fun _ => ?_)
  refine n_aload_n C d_Mo_init_152 1 rfl rfl ?_
  refine n_get C 0 rfl rfl in_Mo 0 (by decide) k_791 (v := .ref (q1)) rfl d_Mo_init_153 ?_
  refine n_iconst C d_Mo_init_156 (v := 4) (by decide) ?_
  refine n_iload_n C d_Mo_init_157 0 rfl rfl ?_
  refine n_iadd C d_Mo_init_158 ?_
  refine n_topi (x' := 6) (by decide) ?_
  refine n_bipush C d_Mo_init_159 (v := 7) (by decide) ?_
  refine n_iast C 1 rfl 6 (by decide) (by decide) (Nat.le_of_ble_eq_true rfl) (ws' := [(a, .inr (6, [.ref (q1), .ref (q2), .ref (q3), .int 0, .ref (q4), .ref (q5), .int 0, .int 0, .int 0, .int 0, .int 0, .int 0, .ref (q6), .ref (q7), .int 0, .int 0, .ref (q8), .ref (q9), .ref (q10), .ref (q11)])), (q1, .inl (Z.2.2.1 0, 68, .inl (upd (upd (upd (upd (upd (fun _ => 0) 2 (1)) 3 (50)) 4 (7)) 5 (7)) 6 (7)))), (q2, .inl (Z.2.2.1 0, 68, .inl (fun _ => 0))), (q3, .inl (Z.2.2.1 0, 68, .inl (fun _ => 0))), (q4, .inl (Z.2.2.1 0, 8, .inl (fun _ => 0))), (q5, .inl (Z.2.2.1 0, 120, .inl (fun _ => 0))), (q6, .inl (Z.2.2.1 4, 7, .inr (.inr (.inr (.inr (va_up (va_up (va_up (va_up (va_up (va_up (va_up (fun _ => none) 0 (some (Z.2.2.2.2.1 8))) 1 (some (Z.2.2.2.2.1 2))) 2 (some (Z.2.2.2.2.1 3))) 3 (some (Z.2.2.2.2.1 4))) 4 (some (Z.2.2.2.2.1 5))) 5 (some (Z.2.2.2.2.1 6))) 6 (some (Z.2.2.2.2.1 7)))))))), (q7, .inl (Z.2.2.1 0, 720, .inl (fun _ => 0))), (q8, .inl (Z.2.2.1 0, 4, .inl (fun _ => 0))), (q9, .inl (Z.2.2.1 0, 4, .inl (fun _ => 0))), (q10, .inl (Z.2.2.1 0, 160, .inl (fun _ => 0))), (q11, .inl (Z.2.2.1 0, 40, .inl (fun _ => 0)))]) rfl d_Mo_init_161 ?_
  refine n_iinc C d_Mo_init_162 0 rfl (v := 3) (by decide) (by decide) (lv' := [(1, .int (3)), (0, .ref (a))]) rfl ?_
  refine n_goto C d_Mo_init_165 146 (by decide) ?_
  refine n_iload_n C d_Mo_init_146 0 rfl rfl ?_
  refine n_bipush C d_Mo_init_147 (v := 6) (by decide) ?_
  refine n_icmp_ge C d_Mo_init_149 168 (by decide) (fun h => absurd h (by decide)) (fun _ => ?_)
  refine n_aload_n C d_Mo_init_152 1 rfl rfl ?_
  refine n_get C 0 rfl rfl in_Mo 0 (by decide) k_791 (v := .ref (q1)) rfl d_Mo_init_153 ?_
  refine n_iconst C d_Mo_init_156 (v := 4) (by decide) ?_
  refine n_iload_n C d_Mo_init_157 0 rfl rfl ?_
  refine n_iadd C d_Mo_init_158 ?_
  refine n_topi (x' := 7) (by decide) ?_
  refine n_bipush C d_Mo_init_159 (v := 7) (by decide) ?_
  refine n_iast C 1 rfl 7 (by decide) (by decide) (Nat.le_of_ble_eq_true rfl) (ws' := [(a, .inr (6, [.ref (q1), .ref (q2), .ref (q3), .int 0, .ref (q4), .ref (q5), .int 0, .int 0, .int 0, .int 0, .int 0, .int 0, .ref (q6), .ref (q7), .int 0, .int 0, .ref (q8), .ref (q9), .ref (q10), .ref (q11)])), (q1, .inl (Z.2.2.1 0, 68, .inl (upd (upd (upd (upd (upd (upd (fun _ => 0) 2 (1)) 3 (50)) 4 (7)) 5 (7)) 6 (7)) 7 (7)))), (q2, .inl (Z.2.2.1 0, 68, .inl (fun _ => 0))), (q3, .inl (Z.2.2.1 0, 68, .inl (fun _ => 0))), (q4, .inl (Z.2.2.1 0, 8, .inl (fun _ => 0))), (q5, .inl (Z.2.2.1 0, 120, .inl (fun _ => 0))), (q6, .inl (Z.2.2.1 4, 7, .inr (.inr (.inr (.inr (va_up (va_up (va_up (va_up (va_up (va_up (va_up (fun _ => none) 0 (some (Z.2.2.2.2.1 8))) 1 (some (Z.2.2.2.2.1 2))) 2 (some (Z.2.2.2.2.1 3))) 3 (some (Z.2.2.2.2.1 4))) 4 (some (Z.2.2.2.2.1 5))) 5 (some (Z.2.2.2.2.1 6))) 6 (some (Z.2.2.2.2.1 7)))))))), (q7, .inl (Z.2.2.1 0, 720, .inl (fun _ => 0))), (q8, .inl (Z.2.2.1 0, 4, .inl (fun _ => 0))), (q9, .inl (Z.2.2.1 0, 4, .inl (fun _ => 0))), (q10, .inl (Z.2.2.1 0, 160, .inl (fun _ => 0))), (q11, .inl (Z.2.2.1 0, 40, .inl (fun _ => 0)))]) rfl d_Mo_init_161 ?_
  refine n_iinc C d_Mo_init_162 0 rfl (v := 4) (by decide) (by decide) (lv' := [(1, .int (4)), (0, .ref (a))]) rfl ?_
  refine n_goto C d_Mo_init_165 146 (by decide) ?_
  refine n_iload_n C d_Mo_init_146 0 rfl rfl ?_
  refine n_bipush C d_Mo_init_147 (v := 6) (by decide) ?_
  refine n_icmp_ge C d_Mo_init_149 168 (by decide) (fun h => absurd h (by decide)) (fun _ => ?_)
  refine n_aload_n C d_Mo_init_152 1 rfl rfl ?_
  refine n_get C 0 rfl rfl in_Mo 0 (by decide) k_791 (v := .ref (q1)) rfl d_Mo_init_153 ?_
  refine n_iconst C d_Mo_init_156 (v := 4) (by decide) ?_
  refine n_iload_n C d_Mo_init_157 0 rfl rfl ?_
  refine n_iadd C d_Mo_init_158 ?_
  refine n_topi (x' := 8) (by decide) ?_
  refine n_bipush C d_Mo_init_159 (v := 7) (by decide) ?_
  refine n_iast C 1 rfl 8 (by decide) (by decide) (Nat.le_of_ble_eq_true rfl) (ws' := [(a, .inr (6, [.ref (q1), .ref (q2), .ref (q3), .int 0, .ref (q4), .ref (q5), .int 0, .int 0, .int 0, .int 0, .int 0, .int 0, .ref (q6), .ref (q7), .int 0, .int 0, .ref (q8), .ref (q9), .ref (q10), .ref (q11)])), (q1, .inl (Z.2.2.1 0, 68, .inl (upd (upd (upd (upd (upd (upd (upd (fun _ => 0) 2 (1)) 3 (50)) 4 (7)) 5 (7)) 6 (7)) 7 (7)) 8 (7)))), (q2, .inl (Z.2.2.1 0, 68, .inl (fun _ => 0))), (q3, .inl (Z.2.2.1 0, 68, .inl (fun _ => 0))), (q4, .inl (Z.2.2.1 0, 8, .inl (fun _ => 0))), (q5, .inl (Z.2.2.1 0, 120, .inl (fun _ => 0))), (q6, .inl (Z.2.2.1 4, 7, .inr (.inr (.inr (.inr (va_up (va_up (va_up (va_up (va_up (va_up (va_up (fun _ => none) 0 (some (Z.2.2.2.2.1 8))) 1 (some (Z.2.2.2.2.1 2))) 2 (some (Z.2.2.2.2.1 3))) 3 (some (Z.2.2.2.2.1 4))) 4 (some (Z.2.2.2.2.1 5))) 5 (some (Z.2.2.2.2.1 6))) 6 (some (Z.2.2.2.2.1 7)))))))), (q7, .inl (Z.2.2.1 0, 720, .inl (fun _ => 0))), (q8, .inl (Z.2.2.1 0, 4, .inl (fun _ => 0))), (q9, .inl (Z.2.2.1 0, 4, .inl (fun _ => 0))), (q10, .inl (Z.2.2.1 0, 160, .inl (fun _ => 0))), (q11, .inl (Z.2.2.1 0, 40, .inl (fun _ => 0)))]) rfl d_Mo_init_161 ?_
  refine n_iinc C d_Mo_init_162 0 rfl (v := 5) (by decide) (by decide) (lv' := [(1, .int (5)), (0, .ref (a))]) rfl ?_
  refine n_goto C d_Mo_init_165 146 (by decide) ?_
  refine n_iload_n C d_Mo_init_146 0 rfl rfl ?_
  refine n_bipush C d_Mo_init_147 (v := 6) (by decide) ?_
  refine n_icmp_ge C d_Mo_init_149 168 (by decide) (fun h => absurd h (by decide)) (fun _ => ?_)
  refine n_aload_n C d_Mo_init_152 1 rfl rfl ?_
  refine n_get C 0 rfl rfl in_Mo 0 (by decide) k_791 (v := .ref (q1)) rfl d_Mo_init_153 ?_
  refine n_iconst C d_Mo_init_156 (v := 4) (by decide) ?_
  refine n_iload_n C d_Mo_init_157 0 rfl rfl ?_
  refine n_iadd C d_Mo_init_158 ?_
  refine n_topi (x' := 9) (by decide) ?_
  refine n_bipush C d_Mo_init_159 (v := 7) (by decide) ?_
  refine n_iast C 1 rfl 9 (by decide) (by decide) (Nat.le_of_ble_eq_true rfl) (ws' := [(a, .inr (6, [.ref (q1), .ref (q2), .ref (q3), .int 0, .ref (q4), .ref (q5), .int 0, .int 0, .int 0, .int 0, .int 0, .int 0, .ref (q6), .ref (q7), .int 0, .int 0, .ref (q8), .ref (q9), .ref (q10), .ref (q11)])), (q1, .inl (Z.2.2.1 0, 68, .inl (upd (upd (upd (upd (upd (upd (upd (upd (fun _ => 0) 2 (1)) 3 (50)) 4 (7)) 5 (7)) 6 (7)) 7 (7)) 8 (7)) 9 (7)))), (q2, .inl (Z.2.2.1 0, 68, .inl (fun _ => 0))), (q3, .inl (Z.2.2.1 0, 68, .inl (fun _ => 0))), (q4, .inl (Z.2.2.1 0, 8, .inl (fun _ => 0))), (q5, .inl (Z.2.2.1 0, 120, .inl (fun _ => 0))), (q6, .inl (Z.2.2.1 4, 7, .inr (.inr (.inr (.inr (va_up (va_up (va_up (va_up (va_up (va_up (va_up (fun _ => none) 0 (some (Z.2.2.2.2.1 8))) 1 (some (Z.2.2.2.2.1 2))) 2 (some (Z.2.2.2.2.1 3))) 3 (some (Z.2.2.2.2.1 4))) 4 (some (Z.2.2.2.2.1 5))) 5 (some (Z.2.2.2.2.1 6))) 6 (some (Z.2.2.2.2.1 7)))))))), (q7, .inl (Z.2.2.1 0, 720, .inl (fun _ => 0))), (q8, .inl (Z.2.2.1 0, 4, .inl (fun _ => 0))), (q9, .inl (Z.2.2.1 0, 4, .inl (fun _ => 0))), (q10, .inl (Z.2.2.1 0, 160, .inl (fun _ => 0))), (q11, .inl (Z.2.2.1 0, 40, .inl (fun _ => 0)))]) rfl d_Mo_init_161 ?_
  refine n_iinc C d_Mo_init_162 0 rfl (v := 6) (by decide) (by decide) (lv' := [(1, .int (6)), (0, .ref (a))]) rfl ?_
  refine n_goto C d_Mo_init_165 146 (by decide) ?_
  refine n_iload_n C d_Mo_init_146 0 rfl rfl ?_
  refine n_bipush C d_Mo_init_147 (v := 6) (by decide) ?_
  refine n_icmp_ge C d_Mo_init_149 168 (by decide) (fun _ => ?_) (fun h => absurd (by decide) h)
  refine n_iconst C d_Mo_init_168 (v := 0) (by decide) ?_
  refine n_istore_n C d_Mo_init_169 rfl (by decide) (lv' := [(1, .int (0)), (0, .ref (a))]) rfl ?_
  refine n_iload_n C d_Mo_init_170 0 rfl rfl ?_
  refine n_bipush C d_Mo_init_171 (v := 10) (by decide) ?_
  refine n_icmp_ge C d_Mo_init_173 192 (by decide) (fun h => absurd h (by decide)) (fun _ => ?_)
  refine n_aload_n C d_Mo_init_176 1 rfl rfl ?_
  refine n_get C 0 rfl rfl in_Mo 0 (by decide) k_791 (v := .ref (q1)) rfl d_Mo_init_177 ?_
  refine n_bipush C d_Mo_init_180 (v := 10) (by decide) ?_
  refine n_iload_n C d_Mo_init_182 0 rfl rfl ?_
  refine n_iadd C d_Mo_init_183 ?_
  refine n_topi (x' := 10) (by decide) ?_
  refine n_iconst C d_Mo_init_184 (v := -1) (by decide) ?_
  refine n_iast C 1 rfl 10 (by decide) (by decide) (Nat.le_of_ble_eq_true rfl) (ws' := [(a, .inr (6, [.ref (q1), .ref (q2), .ref (q3), .int 0, .ref (q4), .ref (q5), .int 0, .int 0, .int 0, .int 0, .int 0, .int 0, .ref (q6), .ref (q7), .int 0, .int 0, .ref (q8), .ref (q9), .ref (q10), .ref (q11)])), (q1, .inl (Z.2.2.1 0, 68, .inl (upd (upd (upd (upd (upd (upd (upd (upd (upd (fun _ => 0) 2 (1)) 3 (50)) 4 (7)) 5 (7)) 6 (7)) 7 (7)) 8 (7)) 9 (7)) 10 (-1)))), (q2, .inl (Z.2.2.1 0, 68, .inl (fun _ => 0))), (q3, .inl (Z.2.2.1 0, 68, .inl (fun _ => 0))), (q4, .inl (Z.2.2.1 0, 8, .inl (fun _ => 0))), (q5, .inl (Z.2.2.1 0, 120, .inl (fun _ => 0))), (q6, .inl (Z.2.2.1 4, 7, .inr (.inr (.inr (.inr (va_up (va_up (va_up (va_up (va_up (va_up (va_up (fun _ => none) 0 (some (Z.2.2.2.2.1 8))) 1 (some (Z.2.2.2.2.1 2))) 2 (some (Z.2.2.2.2.1 3))) 3 (some (Z.2.2.2.2.1 4))) 4 (some (Z.2.2.2.2.1 5))) 5 (some (Z.2.2.2.2.1 6))) 6 (some (Z.2.2.2.2.1 7)))))))), (q7, .inl (Z.2.2.1 0, 720, .inl (fun _ => 0))), (q8, .inl (Z.2.2.1 0, 4, .inl (fun _ => 0))), (q9, .inl (Z.2.2.1 0, 4, .inl (fun _ => 0))), (q10, .inl (Z.2.2.1 0, 160, .inl (fun _ => 0))), (q11, .inl (Z.2.2.1 0, 40, .inl (fun _ => 0)))]) rfl d_Mo_init_185 ?_
  refine n_iinc C d_Mo_init_186 0 rfl (v := 1) (by decide) (by decide) (lv' := [(1, .int (1)), (0, .ref (a))]) rfl ?_
  refine n_goto C d_Mo_init_189 170 (by decide) ?_
  refine n_iload_n C d_Mo_init_170 0 rfl rfl ?_
  refine n_bipush C d_Mo_init_171 (v := 10) (by decide) ?_
  refine n_icmp_ge C d_Mo_init_173 192 (by decide) (fun h => absurd h (by decide)) (fun _ => ?_)
  refine n_aload_n C d_Mo_init_176 1 rfl rfl ?_
  refine n_get C 0 rfl rfl in_Mo 0 (by decide) k_791 (v := .ref (q1)) rfl d_Mo_init_177 ?_
  refine n_bipush C d_Mo_init_180 (v := 10) (by decide) ?_
  refine n_iload_n C d_Mo_init_182 0 rfl rfl ?_
  refine n_iadd C d_Mo_init_183 ?_
  refine n_topi (x' := 11) (by decide) ?_
  refine n_iconst C d_Mo_init_184 (v := -1) (by decide) ?_
  refine n_iast C 1 rfl 11 (by decide) (by decide) (Nat.le_of_ble_eq_true rfl) (ws' := [(a, .inr (6, [.ref (q1), .ref (q2), .ref (q3), .int 0, .ref (q4), .ref (q5), .int 0, .int 0, .int 0, .int 0, .int 0, .int 0, .ref (q6), .ref (q7), .int 0, .int 0, .ref (q8), .ref (q9), .ref (q10), .ref (q11)])), (q1, .inl (Z.2.2.1 0, 68, .inl (upd (upd (upd (upd (upd (upd (upd (upd (upd (upd (fun _ => 0) 2 (1)) 3 (50)) 4 (7)) 5 (7)) 6 (7)) 7 (7)) 8 (7)) 9 (7)) 10 (-1)) 11 (-1)))), (q2, .inl (Z.2.2.1 0, 68, .inl (fun _ => 0))), (q3, .inl (Z.2.2.1 0, 68, .inl (fun _ => 0))), (q4, .inl (Z.2.2.1 0, 8, .inl (fun _ => 0))), (q5, .inl (Z.2.2.1 0, 120, .inl (fun _ => 0))), (q6, .inl (Z.2.2.1 4, 7, .inr (.inr (.inr (.inr (va_up (va_up (va_up (va_up (va_up (va_up (va_up (fun _ => none) 0 (some (Z.2.2.2.2.1 8))) 1 (some (Z.2.2.2.2.1 2))) 2 (some (Z.2.2.2.2.1 3))) 3 (some (Z.2.2.2.2.1 4))) 4 (some (Z.2.2.2.2.1 5))) 5 (some (Z.2.2.2.2.1 6))) 6 (some (Z.2.2.2.2.1 7)))))))), (q7, .inl (Z.2.2.1 0, 720, .inl (fun _ => 0))), (q8, .inl (Z.2.2.1 0, 4, .inl (fun _ => 0))), (q9, .inl (Z.2.2.1 0, 4, .inl (fun _ => 0))), (q10, .inl (Z.2.2.1 0, 160, .inl (fun _ => 0))), (q11, .inl (Z.2.2.1 0, 40, .inl (fun _ => 0)))]) rfl d_Mo_init_185 ?_
  refine n_iinc C d_Mo_init_186 0 rfl (v := 2) (by decide) (by decide) (lv' := [(1, .int (2)), (0, .ref (a))]) rfl ?_
  refine n_goto C d_Mo_init_189 170 (by decide) ?_
  refine n_iload_n C d_Mo_init_170 0 rfl rfl ?_
  refine n_bipush C d_Mo_init_171 (v := 10) (by decide) ?_
  refine n_icmp_ge C d_Mo_init_173 192 (by decide) (fun h => absurd h (by decide)) (fun _ => ?_)
  refine n_aload_n C d_Mo_init_176 1 rfl rfl ?_
  refine n_get C 0 rfl rfl in_Mo 0 (by decide) k_791 (v := .ref (q1)) rfl d_Mo_init_177 ?_
  refine n_bipush C d_Mo_init_180 (v := 10) (by decide) ?_
  refine n_iload_n C d_Mo_init_182 0 rfl rfl ?_
  refine n_iadd C d_Mo_init_183 ?_
  refine n_topi (x' := 12) (by decide) ?_
  refine n_iconst C d_Mo_init_184 (v := -1) (by decide) ?_
  refine n_iast C 1 rfl 12 (by decide) (by decide) (Nat.le_of_ble_eq_true rfl) (ws' := [(a, .inr (6, [.ref (q1), .ref (q2), .ref (q3), .int 0, .ref (q4), .ref (q5), .int 0, .int 0, .int 0, .int 0, .int 0, .int 0, .ref (q6), .ref (q7), .int 0, .int 0, .ref (q8), .ref (q9), .ref (q10), .ref (q11)])), (q1, .inl (Z.2.2.1 0, 68, .inl (upd (upd (upd (upd (upd (upd (upd (upd (upd (upd (upd (fun _ => 0) 2 (1)) 3 (50)) 4 (7)) 5 (7)) 6 (7)) 7 (7)) 8 (7)) 9 (7)) 10 (-1)) 11 (-1)) 12 (-1)))), (q2, .inl (Z.2.2.1 0, 68, .inl (fun _ => 0))), (q3, .inl (Z.2.2.1 0, 68, .inl (fun _ => 0))), (q4, .inl (Z.2.2.1 0, 8, .inl (fun _ => 0))), (q5, .inl (Z.2.2.1 0, 120, .inl (fun _ => 0))), (q6, .inl (Z.2.2.1 4, 7, .inr (.inr (.inr (.inr (va_up (va_up (va_up (va_up (va_up (va_up (va_up (fun _ => none) 0 (some (Z.2.2.2.2.1 8))) 1 (some (Z.2.2.2.2.1 2))) 2 (some (Z.2.2.2.2.1 3))) 3 (some (Z.2.2.2.2.1 4))) 4 (some (Z.2.2.2.2.1 5))) 5 (some (Z.2.2.2.2.1 6))) 6 (some (Z.2.2.2.2.1 7)))))))), (q7, .inl (Z.2.2.1 0, 720, .inl (fun _ => 0))), (q8, .inl (Z.2.2.1 0, 4, .inl (fun _ => 0))), (q9, .inl (Z.2.2.1 0, 4, .inl (fun _ => 0))), (q10, .inl (Z.2.2.1 0, 160, .inl (fun _ => 0))), (q11, .inl (Z.2.2.1 0, 40, .inl (fun _ => 0)))]) rfl d_Mo_init_185 ?_
  refine n_iinc C d_Mo_init_186 0 rfl (v := 3) (by decide) (by decide) (lv' := [(1, .int (3)), (0, .ref (a))]) rfl ?_
  refine n_goto C d_Mo_init_189 170 (by decide) ?_
  refine n_iload_n C d_Mo_init_170 0 rfl rfl ?_
  refine n_bipush C d_Mo_init_171 (v := 10) (by decide) ?_
  refine n_icmp_ge C d_Mo_init_173 192 (by decide) (fun h => absurd h (by decide)) (fun _ => ?_)
  refine n_aload_n C d_Mo_init_176 1 rfl rfl ?_
  refine n_get C 0 rfl rfl in_Mo 0 (by decide) k_791 (v := .ref (q1)) rfl d_Mo_init_177 ?_
  refine n_bipush C d_Mo_init_180 (v := 10) (by decide) ?_
  refine n_iload_n C d_Mo_init_182 0 rfl rfl ?_
  refine n_iadd C d_Mo_init_183 ?_
  refine n_topi (x' := 13) (by decide) ?_
  refine n_iconst C d_Mo_init_184 (v := -1) (by decide) ?_
  refine n_iast C 1 rfl 13 (by decide) (by decide) (Nat.le_of_ble_eq_true rfl) (ws' := [(a, .inr (6, [.ref (q1), .ref (q2), .ref (q3), .int 0, .ref (q4), .ref (q5), .int 0, .int 0, .int 0, .int 0, .int 0, .int 0, .ref (q6), .ref (q7), .int 0, .int 0, .ref (q8), .ref (q9), .ref (q10), .ref (q11)])), (q1, .inl (Z.2.2.1 0, 68, .inl (upd (upd (upd (upd (upd (upd (upd (upd (upd (upd (upd (upd (fun _ => 0) 2 (1)) 3 (50)) 4 (7)) 5 (7)) 6 (7)) 7 (7)) 8 (7)) 9 (7)) 10 (-1)) 11 (-1)) 12 (-1)) 13 (-1)))), (q2, .inl (Z.2.2.1 0, 68, .inl (fun _ => 0))), (q3, .inl (Z.2.2.1 0, 68, .inl (fun _ => 0))), (q4, .inl (Z.2.2.1 0, 8, .inl (fun _ => 0))), (q5, .inl (Z.2.2.1 0, 120, .inl (fun _ => 0))), (q6, .inl (Z.2.2.1 4, 7, .inr (.inr (.inr (.inr (va_up (va_up (va_up (va_up (va_up (va_up (va_up (fun _ => none) 0 (some (Z.2.2.2.2.1 8))) 1 (some (Z.2.2.2.2.1 2))) 2 (some (Z.2.2.2.2.1 3))) 3 (some (Z.2.2.2.2.1 4))) 4 (some (Z.2.2.2.2.1 5))) 5 (some (Z.2.2.2.2.1 6))) 6 (some (Z.2.2.2.2.1 7)))))))), (q7, .inl (Z.2.2.1 0, 720, .inl (fun _ => 0))), (q8, .inl (Z.2.2.1 0, 4, .inl (fun _ => 0))), (q9, .inl (Z.2.2.1 0, 4, .inl (fun _ => 0))), (q10, .inl (Z.2.2.1 0, 160, .inl (fun _ => 0))), (q11, .inl (Z.2.2.1 0, 40, .inl (fun _ => 0)))]) rfl d_Mo_init_185 ?_
  refine n_iinc C d_Mo_init_186 0 rfl (v := 4) (by decide) (by decide) (lv' := [(1, .int (4)), (0, .ref (a))]) rfl ?_
  refine n_goto C d_Mo_init_189 170 (by decide) ?_
  refine n_iload_n C d_Mo_init_170 0 rfl rfl ?_
  refine n_bipush C d_Mo_init_171 (v := 10) (by decide) ?_
  refine n_icmp_ge C d_Mo_init_173 192 (by decide) (fun h => absurd h (by decide)) (fun _ => ?_)
  refine n_aload_n C d_Mo_init_176 1 rfl rfl ?_
  refine n_get C 0 rfl rfl in_Mo 0 (by decide) k_791 (v := .ref (q1)) rfl d_Mo_init_177 ?_
  refine n_bipush C d_Mo_init_180 (v := 10) (by decide) ?_
  refine n_iload_n C d_Mo_init_182 0 rfl rfl ?_
  refine n_iadd C d_Mo_init_183 ?_
  refine n_topi (x' := 14) (by decide) ?_
  refine n_iconst C d_Mo_init_184 (v := -1) (by decide) ?_
  refine n_iast C 1 rfl 14 (by decide) (by decide) (Nat.le_of_ble_eq_true rfl) (ws' := [(a, .inr (6, [.ref (q1), .ref (q2), .ref (q3), .int 0, .ref (q4), .ref (q5), .int 0, .int 0, .int 0, .int 0, .int 0, .int 0, .ref (q6), .ref (q7), .int 0, .int 0, .ref (q8), .ref (q9), .ref (q10), .ref (q11)])), (q1, .inl (Z.2.2.1 0, 68, .inl (upd (upd (upd (upd (upd (upd (upd (upd (upd (upd (upd (upd (upd (fun _ => 0) 2 (1)) 3 (50)) 4 (7)) 5 (7)) 6 (7)) 7 (7)) 8 (7)) 9 (7)) 10 (-1)) 11 (-1)) 12 (-1)) 13 (-1)) 14 (-1)))), (q2, .inl (Z.2.2.1 0, 68, .inl (fun _ => 0))), (q3, .inl (Z.2.2.1 0, 68, .inl (fun _ => 0))), (q4, .inl (Z.2.2.1 0, 8, .inl (fun _ => 0))), (q5, .inl (Z.2.2.1 0, 120, .inl (fun _ => 0))), (q6, .inl (Z.2.2.1 4, 7, .inr (.inr (.inr (.inr (va_up (va_up (va_up (va_up (va_up (va_up (va_up (fun _ => none) 0 (some (Z.2.2.2.2.1 8))) 1 (some (Z.2.2.2.2.1 2))) 2 (some (Z.2.2.2.2.1 3))) 3 (some (Z.2.2.2.2.1 4))) 4 (some (Z.2.2.2.2.1 5))) 5 (some (Z.2.2.2.2.1 6))) 6 (some (Z.2.2.2.2.1 7)))))))), (q7, .inl (Z.2.2.1 0, 720, .inl (fun _ => 0))), (q8, .inl (Z.2.2.1 0, 4, .inl (fun _ => 0))), (q9, .inl (Z.2.2.1 0, 4, .inl (fun _ => 0))), (q10, .inl (Z.2.2.1 0, 160, .inl (fun _ => 0))), (q11, .inl (Z.2.2.1 0, 40, .inl (fun _ => 0)))]) rfl d_Mo_init_185 ?_
  refine n_iinc C d_Mo_init_186 0 rfl (v := 5) (by decide) (by decide) (lv' := [(1, .int (5)), (0, .ref (a))]) rfl ?_
  refine n_goto C d_Mo_init_189 170 (by decide) ?_
  refine n_iload_n C d_Mo_init_170 0 rfl rfl ?_
  refine n_bipush C d_Mo_init_171 (v := 10) (by decide) ?_
  refine n_icmp_ge C d_Mo_init_173 192 (by decide) (fun h => absurd h (by decide)) (fun _ => ?_)
  refine n_aload_n C d_Mo_init_176 1 rfl rfl ?_
  refine n_get C 0 rfl rfl in_Mo 0 (by decide) k_791 (v := .ref (q1)) rfl d_Mo_init_177 ?_
  refine n_bipush C d_Mo_init_180 (v := 10) (by decide) ?_
  refine n_iload_n C d_Mo_init_182 0 rfl rfl ?_
  refine n_iadd C d_Mo_init_183 ?_
  refine n_topi (x' := 15) (by decide) ?_
  refine n_iconst C d_Mo_init_184 (v := -1) (by decide) ?_
  refine n_iast C 1 rfl 15 (by decide) (by decide) (Nat.le_of_ble_eq_true rfl) (ws' := [(a, .inr (6, [.ref (q1), .ref (q2), .ref (q3), .int 0, .ref (q4), .ref (q5), .int 0, .int 0, .int 0, .int 0, .int 0, .int 0, .ref (q6), .ref (q7), .int 0, .int 0, .ref (q8), .ref (q9), .ref (q10), .ref (q11)])), (q1, .inl (Z.2.2.1 0, 68, .inl (upd (upd (upd (upd (upd (upd (upd (upd (upd (upd (upd (upd (upd (upd (fun _ => 0) 2 (1)) 3 (50)) 4 (7)) 5 (7)) 6 (7)) 7 (7)) 8 (7)) 9 (7)) 10 (-1)) 11 (-1)) 12 (-1)) 13 (-1)) 14 (-1)) 15 (-1)))), (q2, .inl (Z.2.2.1 0, 68, .inl (fun _ => 0))), (q3, .inl (Z.2.2.1 0, 68, .inl (fun _ => 0))), (q4, .inl (Z.2.2.1 0, 8, .inl (fun _ => 0))), (q5, .inl (Z.2.2.1 0, 120, .inl (fun _ => 0))), (q6, .inl (Z.2.2.1 4, 7, .inr (.inr (.inr (.inr (va_up (va_up (va_up (va_up (va_up (va_up (va_up (fun _ => none) 0 (some (Z.2.2.2.2.1 8))) 1 (some (Z.2.2.2.2.1 2))) 2 (some (Z.2.2.2.2.1 3))) 3 (some (Z.2.2.2.2.1 4))) 4 (some (Z.2.2.2.2.1 5))) 5 (some (Z.2.2.2.2.1 6))) 6 (some (Z.2.2.2.2.1 7)))))))), (q7, .inl (Z.2.2.1 0, 720, .inl (fun _ => 0))), (q8, .inl (Z.2.2.1 0, 4, .inl (fun _ => 0))), (q9, .inl (Z.2.2.1 0, 4, .inl (fun _ => 0))), (q10, .inl (Z.2.2.1 0, 160, .inl (fun _ => 0))), (q11, .inl (Z.2.2.1 0, 40, .inl (fun _ => 0)))]) rfl d_Mo_init_185 ?_
  refine n_iinc C d_Mo_init_186 0 rfl (v := 6) (by decide) (by decide) (lv' := [(1, .int (6)), (0, .ref (a))]) rfl ?_
  refine n_goto C d_Mo_init_189 170 (by decide) ?_
  refine n_iload_n C d_Mo_init_170 0 rfl rfl ?_
  refine n_bipush C d_Mo_init_171 (v := 10) (by decide) ?_
  refine n_icmp_ge C d_Mo_init_173 192 (by decide) (fun h => absurd h (by decide)) (fun _ => ?_)
  refine n_aload_n C d_Mo_init_176 1 rfl rfl ?_
  refine n_get C 0 rfl rfl in_Mo 0 (by decide) k_791 (v := .ref (q1)) rfl d_Mo_init_177 ?_
  refine n_bipush C d_Mo_init_180 (v := 10) (by decide) ?_
  refine n_iload_n C d_Mo_init_182 0 rfl rfl ?_
  refine n_iadd C d_Mo_init_183 ?_
  refine n_topi (x' := 16) (by decide) ?_
  refine n_iconst C d_Mo_init_184 (v := -1) (by decide) ?_
  refine n_iast C 1 rfl 16 (by decide) (by decide) (Nat.le_of_ble_eq_true rfl) (ws' := [(a, .inr (6, [.ref (q1), .ref (q2), .ref (q3), .int 0, .ref (q4), .ref (q5), .int 0, .int 0, .int 0, .int 0, .int 0, .int 0, .ref (q6), .ref (q7), .int 0, .int 0, .ref (q8), .ref (q9), .ref (q10), .ref (q11)])), (q1, .inl (Z.2.2.1 0, 68, .inl (upd (upd (upd (upd (upd (upd (upd (upd (upd (upd (upd (upd (upd (upd (upd (fun _ => 0) 2 (1)) 3 (50)) 4 (7)) 5 (7)) 6 (7)) 7 (7)) 8 (7)) 9 (7)) 10 (-1)) 11 (-1)) 12 (-1)) 13 (-1)) 14 (-1)) 15 (-1)) 16 (-1)))), (q2, .inl (Z.2.2.1 0, 68, .inl (fun _ => 0))), (q3, .inl (Z.2.2.1 0, 68, .inl (fun _ => 0))), (q4, .inl (Z.2.2.1 0, 8, .inl (fun _ => 0))), (q5, .inl (Z.2.2.1 0, 120, .inl (fun _ => 0))), (q6, .inl (Z.2.2.1 4, 7, .inr (.inr (.inr (.inr (va_up (va_up (va_up (va_up (va_up (va_up (va_up (fun _ => none) 0 (some (Z.2.2.2.2.1 8))) 1 (some (Z.2.2.2.2.1 2))) 2 (some (Z.2.2.2.2.1 3))) 3 (some (Z.2.2.2.2.1 4))) 4 (some (Z.2.2.2.2.1 5))) 5 (some (Z.2.2.2.2.1 6))) 6 (some (Z.2.2.2.2.1 7)))))))), (q7, .inl (Z.2.2.1 0, 720, .inl (fun _ => 0))), (q8, .inl (Z.2.2.1 0, 4, .inl (fun _ => 0))), (q9, .inl (Z.2.2.1 0, 4, .inl (fun _ => 0))), (q10, .inl (Z.2.2.1 0, 160, .inl (fun _ => 0))), (q11, .inl (Z.2.2.1 0, 40, .inl (fun _ => 0)))]) rfl d_Mo_init_185 ?_
  refine n_iinc C d_Mo_init_186 0 rfl (v := 7) (by decide) (by decide) (lv' := [(1, .int (7)), (0, .ref (a))]) rfl ?_
  refine n_goto C d_Mo_init_189 170 (by decide) ?_
  refine n_iload_n C d_Mo_init_170 0 rfl rfl ?_
  refine n_bipush C d_Mo_init_171 (v := 10) (by decide) ?_
  refine n_icmp_ge C d_Mo_init_173 192 (by decide) (fun h => absurd h (by decide)) (fun _ => ?_)
  refine n_aload_n C d_Mo_init_176 1 rfl rfl ?_
  refine n_get C 0 rfl rfl in_Mo 0 (by decide) k_791 (v := .ref (q1)) rfl d_Mo_init_177 ?_
  refine n_bipush C d_Mo_init_180 (v := 10) (by decide) ?_
  refine n_iload_n C d_Mo_init_182 0 rfl rfl ?_
  refine n_iadd C d_Mo_init_183 ?_
  refine n_topi (x' := 17) (by decide) ?_
  refine n_iconst C d_Mo_init_184 (v := -1) (by decide) ?_
  refine n_iast C 1 rfl 17 (by decide) (by decide) (Nat.le_of_ble_eq_true rfl) (ws' := [(a, .inr (6, [.ref (q1), .ref (q2), .ref (q3), .int 0, .ref (q4), .ref (q5), .int 0, .int 0, .int 0, .int 0, .int 0, .int 0, .ref (q6), .ref (q7), .int 0, .int 0, .ref (q8), .ref (q9), .ref (q10), .ref (q11)])), (q1, .inl (Z.2.2.1 0, 68, .inl (upd (upd (upd (upd (upd (upd (upd (upd (upd (upd (upd (upd (upd (upd (upd (upd (fun _ => 0) 2 (1)) 3 (50)) 4 (7)) 5 (7)) 6 (7)) 7 (7)) 8 (7)) 9 (7)) 10 (-1)) 11 (-1)) 12 (-1)) 13 (-1)) 14 (-1)) 15 (-1)) 16 (-1)) 17 (-1)))), (q2, .inl (Z.2.2.1 0, 68, .inl (fun _ => 0))), (q3, .inl (Z.2.2.1 0, 68, .inl (fun _ => 0))), (q4, .inl (Z.2.2.1 0, 8, .inl (fun _ => 0))), (q5, .inl (Z.2.2.1 0, 120, .inl (fun _ => 0))), (q6, .inl (Z.2.2.1 4, 7, .inr (.inr (.inr (.inr (va_up (va_up (va_up (va_up (va_up (va_up (va_up (fun _ => none) 0 (some (Z.2.2.2.2.1 8))) 1 (some (Z.2.2.2.2.1 2))) 2 (some (Z.2.2.2.2.1 3))) 3 (some (Z.2.2.2.2.1 4))) 4 (some (Z.2.2.2.2.1 5))) 5 (some (Z.2.2.2.2.1 6))) 6 (some (Z.2.2.2.2.1 7)))))))), (q7, .inl (Z.2.2.1 0, 720, .inl (fun _ => 0))), (q8, .inl (Z.2.2.1 0, 4, .inl (fun _ => 0))), (q9, .inl (Z.2.2.1 0, 4, .inl (fun _ => 0))), (q10, .inl (Z.2.2.1 0, 160, .inl (fun _ => 0))), (q11, .inl (Z.2.2.1 0, 40, .inl (fun _ => 0)))]) rfl d_Mo_init_185 ?_
  refine n_iinc C d_Mo_init_186 0 rfl (v := 8) (by decide) (by decide) (lv' := [(1, .int (8)), (0, .ref (a))]) rfl ?_
  refine n_goto C d_Mo_init_189 170 (by decide) ?_
  refine n_iload_n C d_Mo_init_170 0 rfl rfl ?_
  refine n_bipush C d_Mo_init_171 (v := 10) (by decide) ?_
  refine n_icmp_ge C d_Mo_init_173 192 (by decide) (fun h => absurd h (by decide)) (fun _ => ?_)
  refine n_aload_n C d_Mo_init_176 1 rfl rfl ?_
  refine n_get C 0 rfl rfl in_Mo 0 (by decide) k_791 (v := .ref (q1)) rfl d_Mo_init_177 ?_
  refine n_bipush C d_Mo_init_180 (v := 10) (by decide) ?_
  refine n_iload_n C d_Mo_init_182 0 rfl rfl ?_
  refine n_iadd C d_Mo_init_183 ?_
  refine n_topi (x' := 18) (by decide) ?_
  refine n_iconst C d_Mo_init_184 (v := -1) (by decide) ?_
  refine n_iast C 1 rfl 18 (by decide) (by decide) (Nat.le_of_ble_eq_true rfl) (ws' := [(a, .inr (6, [.ref (q1), .ref (q2), .ref (q3), .int 0, .ref (q4), .ref (q5), .int 0, .int 0, .int 0, .int 0, .int 0, .int 0, .ref (q6), .ref (q7), .int 0, .int 0, .ref (q8), .ref (q9), .ref (q10), .ref (q11)])), (q1, .inl (Z.2.2.1 0, 68, .inl (upd (upd (upd (upd (upd (upd (upd (upd (upd (upd (upd (upd (upd (upd (upd (upd (upd (fun _ => 0) 2 (1)) 3 (50)) 4 (7)) 5 (7)) 6 (7)) 7 (7)) 8 (7)) 9 (7)) 10 (-1)) 11 (-1)) 12 (-1)) 13 (-1)) 14 (-1)) 15 (-1)) 16 (-1)) 17 (-1)) 18 (-1)))), (q2, .inl (Z.2.2.1 0, 68, .inl (fun _ => 0))), (q3, .inl (Z.2.2.1 0, 68, .inl (fun _ => 0))), (q4, .inl (Z.2.2.1 0, 8, .inl (fun _ => 0))), (q5, .inl (Z.2.2.1 0, 120, .inl (fun _ => 0))), (q6, .inl (Z.2.2.1 4, 7, .inr (.inr (.inr (.inr (va_up (va_up (va_up (va_up (va_up (va_up (va_up (fun _ => none) 0 (some (Z.2.2.2.2.1 8))) 1 (some (Z.2.2.2.2.1 2))) 2 (some (Z.2.2.2.2.1 3))) 3 (some (Z.2.2.2.2.1 4))) 4 (some (Z.2.2.2.2.1 5))) 5 (some (Z.2.2.2.2.1 6))) 6 (some (Z.2.2.2.2.1 7)))))))), (q7, .inl (Z.2.2.1 0, 720, .inl (fun _ => 0))), (q8, .inl (Z.2.2.1 0, 4, .inl (fun _ => 0))), (q9, .inl (Z.2.2.1 0, 4, .inl (fun _ => 0))), (q10, .inl (Z.2.2.1 0, 160, .inl (fun _ => 0))), (q11, .inl (Z.2.2.1 0, 40, .inl (fun _ => 0)))]) rfl d_Mo_init_185 ?_
  refine n_iinc C d_Mo_init_186 0 rfl (v := 9) (by decide) (by decide) (lv' := [(1, .int (9)), (0, .ref (a))]) rfl ?_
  refine n_goto C d_Mo_init_189 170 (by decide) ?_
  refine n_iload_n C d_Mo_init_170 0 rfl rfl ?_
  refine n_bipush C d_Mo_init_171 (v := 10) (by decide) ?_
  refine n_icmp_ge C d_Mo_init_173 192 (by decide) (fun h => absurd h (by decide)) (fun _ => ?_)
  refine n_aload_n C d_Mo_init_176 1 rfl rfl ?_
  refine n_get C 0 rfl rfl in_Mo 0 (by decide) k_791 (v := .ref (q1)) rfl d_Mo_init_177 ?_
  refine n_bipush C d_Mo_init_180 (v := 10) (by decide) ?_
  refine n_iload_n C d_Mo_init_182 0 rfl rfl ?_
  refine n_iadd C d_Mo_init_183 ?_
  refine n_topi (x' := 19) (by decide) ?_
  refine n_iconst C d_Mo_init_184 (v := -1) (by decide) ?_
  refine n_iast C 1 rfl 19 (by decide) (by decide) (Nat.le_of_ble_eq_true rfl) (ws' := [(a, .inr (6, [.ref (q1), .ref (q2), .ref (q3), .int 0, .ref (q4), .ref (q5), .int 0, .int 0, .int 0, .int 0, .int 0, .int 0, .ref (q6), .ref (q7), .int 0, .int 0, .ref (q8), .ref (q9), .ref (q10), .ref (q11)])), (q1, .inl (Z.2.2.1 0, 68, .inl (upd (upd (upd (upd (upd (upd (upd (upd (upd (upd (upd (upd (upd (upd (upd (upd (upd (upd (fun _ => 0) 2 (1)) 3 (50)) 4 (7)) 5 (7)) 6 (7)) 7 (7)) 8 (7)) 9 (7)) 10 (-1)) 11 (-1)) 12 (-1)) 13 (-1)) 14 (-1)) 15 (-1)) 16 (-1)) 17 (-1)) 18 (-1)) 19 (-1)))), (q2, .inl (Z.2.2.1 0, 68, .inl (fun _ => 0))), (q3, .inl (Z.2.2.1 0, 68, .inl (fun _ => 0))), (q4, .inl (Z.2.2.1 0, 8, .inl (fun _ => 0))), (q5, .inl (Z.2.2.1 0, 120, .inl (fun _ => 0))), (q6, .inl (Z.2.2.1 4, 7, .inr (.inr (.inr (.inr (va_up (va_up (va_up (va_up (va_up (va_up (va_up (fun _ => none) 0 (some (Z.2.2.2.2.1 8))) 1 (some (Z.2.2.2.2.1 2))) 2 (some (Z.2.2.2.2.1 3))) 3 (some (Z.2.2.2.2.1 4))) 4 (some (Z.2.2.2.2.1 5))) 5 (some (Z.2.2.2.2.1 6))) 6 (some (Z.2.2.2.2.1 7)))))))), (q7, .inl (Z.2.2.1 0, 720, .inl (fun _ => 0))), (q8, .inl (Z.2.2.1 0, 4, .inl (fun _ => 0))), (q9, .inl (Z.2.2.1 0, 4, .inl (fun _ => 0))), (q10, .inl (Z.2.2.1 0, 160, .inl (fun _ => 0))), (q11, .inl (Z.2.2.1 0, 40, .inl (fun _ => 0)))]) rfl d_Mo_init_185 ?_
  refine n_iinc C d_Mo_init_186 0 rfl (v := 10) (by decide) (by decide) (lv' := [(1, .int (10)), (0, .ref (a))]) rfl ?_
  refine n_goto C d_Mo_init_189 170 (by decide) ?_
  refine n_iload_n C d_Mo_init_170 0 rfl rfl ?_
  refine n_bipush C d_Mo_init_171 (v := 10) (by decide) ?_
  refine n_icmp_ge C d_Mo_init_173 192 (by decide) (fun _ => ?_) (fun h => absurd (by decide) h)
  refine n_ws (ws' := [(a, .inr (6, [.ref (q1), .ref (q2), .ref (q3), .int 0, .ref (q4), .ref (q5), .int 0, .int 0, .int 0, .int 0, .int 0, .int 0, .ref (q6), .ref (q7), .int 0, .int 0, .ref (q8), .ref (q9), .ref (q10), .ref (q11)])), (q1, .inl (Z.2.2.1 0, 68, .inl (tr 68 tI))), (q2, .inl (Z.2.2.1 0, 68, .inl (fun _ => 0))), (q3, .inl (Z.2.2.1 0, 68, .inl (fun _ => 0))), (q4, .inl (Z.2.2.1 0, 8, .inl (fun _ => 0))), (q5, .inl (Z.2.2.1 0, 120, .inl (fun _ => 0))), (q6, .inl (Z.2.2.1 4, 7, .inr (.inr (.inr (.inr (fun i => if i < 7 then some (Z.2.2.2.2.1 (mTx i)) else none)))))), (q7, .inl (Z.2.2.1 0, 720, .inl (fun _ => 0))), (q8, .inl (Z.2.2.1 0, 4, .inl (fun _ => 0))), (q9, .inl (Z.2.2.1 0, 4, .inl (fun _ => 0))), (q10, .inl (Z.2.2.1 0, 160, .inl (fun _ => 0))), (q11, .inl (Z.2.2.1 0, 40, .inl (fun _ => 0)))]) (by rw [now_I, kn_I]) ?_
  refine n_ws (swM_I Z (fun k => ([a, q1, q2, q3, q4, q5, q6, q7, q8, q9, q10, q11] : List Nat).getD k 0)) ?_
  exact n_vret C I (post := fun u => sw yM (zU Z (va_up u 0 a)) hI) (fun k => ([a, q1, q2, q3, q4, q5, q6, q7, q8, q9, q10, q11] : List Nat).getD k 0) (congrArg (fun u => sw yM (zU Z u) hI) (va_sm rfl).symm) d_Mo_init_192
