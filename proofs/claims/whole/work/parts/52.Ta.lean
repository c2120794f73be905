def rw4 (r : Nat → Int32) (t j e v : Int32) : Nat → Int32 := fun k => if k = 2 then t else if k = 3 then j else if k = 4 then e else if k = 5 then v else r k
theorem rw4_2 {r : Nat → Int32} {t j e v x : Int32} : upd (rw4 r t j e v) 2 x = rw4 r x j e v := by
  funext k; unfold rw4 upd; by_cases h : k = 2 <;> simp [h]
theorem rw4_3 {r : Nat → Int32} {t j e v x : Int32} : upd (rw4 r t j e v) 3 x = rw4 r t x e v := by
  funext k; unfold rw4 upd; by_cases h : k = 3 <;> simp [h]
theorem rw4_4 {r : Nat → Int32} {t j e v x : Int32} : upd (rw4 r t j e v) 4 x = rw4 r t j x v := by
  funext k; unfold rw4 upd; by_cases h : k = 4 <;> simp [h]
theorem rw4_5 {r : Nat → Int32} {t j e v x : Int32} : upd (rw4 r t j e v) 5 x = rw4 r t j e x := by
  funext k; unfold rw4 upd; by_cases h : k = 5 <;> simp [h]
theorem rw4_id {g : St} : g = va_up g 5 (rw4 (g 5) (g 5 2) (g 5 3) (g 5 4) (g 5 5)) := by
  have : rw4 (g 5) (g 5 2) (g 5 3) (g 5 4) (g 5 5) = g 5 := by
    funext k; unfold rw4
    repeat' split
    all_goals (first | rfl | (simp only [*]))
  rw [this, va_id]
theorem lexR_rw {b r : Nat → Int32} {L e : Nat} : lexR b r L e = rw4 r (nI (tok b L e)) (nI (skp b L e)) (nI (tnd b L e)) (nI (tnm b L e)) := rfl
/-- a digit's worth -/
theorem dig_of {x : Int32} (h : tkN x = 2) : ∃ d, d ≤ 9 ∧ x = nI (48 + d) ∧ dig x = d := by
  have hx : 48 ≤ x ∧ x ≤ 57 := by
    unfold tkN at h
    by_cases h1 : 97 ≤ x ∧ x ≤ 122
    · rw [if_pos h1] at h; omega
    · rw [if_neg h1] at h
      by_cases h2 : 48 ≤ x ∧ x ≤ 57
      · exact h2
      · rw [if_neg h2] at h
        split at h <;> omega
  have h1 := hx.1
  have h2 := hx.2
  rw [fa_leI] at h1 h2
  have e1 : (48 : Int32).toInt = 48 := by decide
  have e2 : (57 : Int32).toInt = 57 := by decide
  rw [e1] at h1
  rw [e2] at h2
  have hn : x = nI x.toInt.toNat := by
    apply Int32.toInt_inj.mp
    rw [nI_toInt (by omega)]
    omega
  refine ⟨x.toInt.toNat - 48, by omega, ?_, ?_⟩
  · rw [show 48 + (x.toInt.toNat - 48) = x.toInt.toNat by omega]; exact hn
  · unfold dig; rw [hn, nI_clamp (by omega), nI_toInt (by omega)]; omega
def nmP (b : Nat → Int32) (j : Nat) : Nat → Nat
  | 0 => 0
  | i + 1 => min 10000 (10 * nmP b j i + dig (b (j + i)))
theorem nmP_le {b : Nat → Int32} {j i : Nat} : nmP b j i ≤ 10000 := by
  cases i with
  | zero => exact Nat.zero_le _
  | succ i => exact Nat.min_le_left _ _
theorem num_st {b : Nat → Int32} {j i : Nat} (h : tkN (b (j + i)) = 2) : mn 10000 (nI (nmP b j i) * 10 + b (j + i) - 48) = nI (nmP b j (i + 1)) := by
  obtain ⟨d, hd, e1, e2⟩ := dig_of h
  have hv := nmP_le (b := b) (j := j) (i := i)
  rw [show nmP b j (i + 1) = min 10000 (10 * nmP b j i + d) by rw [nmP, e2]]
  rw [e1, show (10 : Int32) = nI 10 from rfl, pk_mul, nI_add, show (48 : Int32) = nI 48 from rfl, pk_sub (by omega), show (10000 : Int32) = nI 10000 from rfl]
  unfold mn
  by_cases hc : nmP b j i * 10 + (48 + d) - 48 < 10000
  · rw [if_pos (nI_lt hc (by omega))]; congr 1; omega
  · rw [if_neg (nI_nlt (by omega) (by omega))]; congr 1; omega

set_option maxRecDepth 100000 in
set_option maxHeartbeats 600000 in
theorem c_Ta_tokenOf (Z : ZT) (x : Int32) (g : St)  : CT yC Z y_Ta_tokenOf b_Ta_tokenOf 1 (some (.int)) 0 0 [.int (x)] (g) (QcI yC Z (nI (tkN x)) (g)) := by
  refine CT.mk "TunnelPeace$Tape" (by decide) rfl (Nat.le_of_ble_eq_true rfl) (fun X C => ?_)
  refine x_lv [0] (lv' := [(0, .int (x))]) rfl ?_
  refine x_iload_n C d_Ta_tokenOf_0 0 rfl rfl ?_
  refine x_bipush C d_Ta_tokenOf_1 (v := 97) (by decide) ?_
  refine x_icmp_lt C d_Ta_tokenOf_3 14 (by decide) (fun c_1 => ?_) (fun c_1 => ?_)
  · have nc_1 := Int32.not_le.mpr c_1
    refine x_iload_n C d_Ta_tokenOf_14 0 rfl rfl ?_
    refine x_bipush C d_Ta_tokenOf_15 (v := 48) (by decide) ?_
    refine x_icmp_lt C d_Ta_tokenOf_17 28 (by decide) (fun c_2 => ?_) (fun c_2 => ?_)
    · have nc_2 := Int32.not_le.mpr c_2
      refine x_iload_n C d_Ta_tokenOf_28 0 rfl rfl ?_
      refine x_bipush C d_Ta_tokenOf_29 (v := 59) (by decide) ?_
      refine x_icmp_ne C d_Ta_tokenOf_31 38 (by decide) (fun c_3 => ?_) (fun c_3 => ?_)
      · have nc_3 := Ne.symm c_3
        refine x_iconst C d_Ta_tokenOf_38 (v := 4) (by decide) ?_
        exact x_iret C (by unfold tkN; first | (rw [if_pos ⟨by with_reducible assumption, by with_reducible assumption⟩]; rfl) | (rw [if_neg (fun z_ => by first | exact absurd z_.1 (Int32.not_le.mpr (by with_reducible assumption)) | exact absurd z_.2 (Int32.not_le.mpr (by with_reducible assumption))), if_pos ⟨by with_reducible assumption, by with_reducible assumption⟩]; rfl) | (rw [if_neg (fun z_ => by first | exact absurd z_.1 (Int32.not_le.mpr (by with_reducible assumption)) | exact absurd z_.2 (Int32.not_le.mpr (by with_reducible assumption))), if_neg (fun z_ => by first | exact absurd z_.1 (Int32.not_le.mpr (by with_reducible assumption)) | exact absurd z_.2 (Int32.not_le.mpr (by with_reducible assumption))), if_pos (by with_reducible assumption)]; rfl) | (rw [if_neg (fun z_ => by first | exact absurd z_.1 (Int32.not_le.mpr (by with_reducible assumption)) | exact absurd z_.2 (Int32.not_le.mpr (by with_reducible assumption))), if_neg (fun z_ => by first | exact absurd z_.1 (Int32.not_le.mpr (by with_reducible assumption)) | exact absurd z_.2 (Int32.not_le.mpr (by with_reducible assumption))), if_neg (by with_reducible assumption)]; rfl)) rfl d_Ta_tokenOf_39
      · refine x_iconst C d_Ta_tokenOf_34 (v := 3) (by decide) ?_
        refine x_goto C d_Ta_tokenOf_35 39 (by decide) ?_
        exact x_iret C (by unfold tkN; first | (rw [if_pos ⟨by with_reducible assumption, by with_reducible assumption⟩]; rfl) | (rw [if_neg (fun z_ => by first | exact absurd z_.1 (Int32.not_le.mpr (by with_reducible assumption)) | exact absurd z_.2 (Int32.not_le.mpr (by with_reducible assumption))), if_pos ⟨by with_reducible assumption, by with_reducible assumption⟩]; rfl) | (rw [if_neg (fun z_ => by first | exact absurd z_.1 (Int32.not_le.mpr (by with_reducible assumption)) | exact absurd z_.2 (Int32.not_le.mpr (by with_reducible assumption))), if_neg (fun z_ => by first | exact absurd z_.1 (Int32.not_le.mpr (by with_reducible assumption)) | exact absurd z_.2 (Int32.not_le.mpr (by with_reducible assumption))), if_pos (by with_reducible assumption)]; rfl) | (rw [if_neg (fun z_ => by first | exact absurd z_.1 (Int32.not_le.mpr (by with_reducible assumption)) | exact absurd z_.2 (Int32.not_le.mpr (by with_reducible assumption))), if_neg (fun z_ => by first | exact absurd z_.1 (Int32.not_le.mpr (by with_reducible assumption)) | exact absurd z_.2 (Int32.not_le.mpr (by with_reducible assumption))), if_neg (by with_reducible assumption)]; rfl)) rfl d_Ta_tokenOf_39
    · have nc_2 := Int32.not_lt.mp c_2
      refine x_iload_n C d_Ta_tokenOf_20 0 rfl rfl ?_
      refine x_bipush C d_Ta_tokenOf_21 (v := 57) (by decide) ?_
      refine x_icmp_gt C d_Ta_tokenOf_23 28 (by decide) (fun c_4 => ?_) (fun c_4 => ?_)
      · have nc_4 := Int32.not_le.mpr c_4
        refine x_iload_n C d_Ta_tokenOf_28 0 rfl rfl ?_
        refine x_bipush C d_Ta_tokenOf_29 (v := 59) (by decide) ?_
        refine x_icmp_ne C d_Ta_tokenOf_31 38 (by decide) (fun c_5 => ?_) (fun c_5 => ?_)
        · have nc_5 := Ne.symm c_5
          refine x_iconst C d_Ta_tokenOf_38 (v := 4) (by decide) ?_
          exact x_iret C (by unfold tkN; first | (rw [if_pos ⟨by with_reducible assumption, by with_reducible assumption⟩]; rfl) | (rw [if_neg (fun z_ => by first | exact absurd z_.1 (Int32.not_le.mpr (by with_reducible assumption)) | exact absurd z_.2 (Int32.not_le.mpr (by with_reducible assumption))), if_pos ⟨by with_reducible assumption, by with_reducible assumption⟩]; rfl) | (rw [if_neg (fun z_ => by first | exact absurd z_.1 (Int32.not_le.mpr (by with_reducible assumption)) | exact absurd z_.2 (Int32.not_le.mpr (by with_reducible assumption))), if_neg (fun z_ => by first | exact absurd z_.1 (Int32.not_le.mpr (by with_reducible assumption)) | exact absurd z_.2 (Int32.not_le.mpr (by with_reducible assumption))), if_pos (by with_reducible assumption)]; rfl) | (rw [if_neg (fun z_ => by first | exact absurd z_.1 (Int32.not_le.mpr (by with_reducible assumption)) | exact absurd z_.2 (Int32.not_le.mpr (by with_reducible assumption))), if_neg (fun z_ => by first | exact absurd z_.1 (Int32.not_le.mpr (by with_reducible assumption)) | exact absurd z_.2 (Int32.not_le.mpr (by with_reducible assumption))), if_neg (by with_reducible assumption)]; rfl)) rfl d_Ta_tokenOf_39
        · refine x_iconst C d_Ta_tokenOf_34 (v := 3) (by decide) ?_
          refine x_goto C d_Ta_tokenOf_35 39 (by decide) ?_
          exact x_iret C (by unfold tkN; first | (rw [if_pos ⟨by with_reducible assumption, by with_reducible assumption⟩]; rfl) | (rw [if_neg (fun z_ => by first | exact absurd z_.1 (Int32.not_le.mpr (by with_reducible assumption)) | exact absurd z_.2 (Int32.not_le.mpr (by with_reducible assumption))), if_pos ⟨by with_reducible assumption, by with_reducible assumption⟩]; rfl) | (rw [if_neg (fun z_ => by first | exact absurd z_.1 (Int32.not_le.mpr (by with_reducible assumption)) | exact absurd z_.2 (Int32.not_le.mpr (by with_reducible assumption))), if_neg (fun z_ => by first | exact absurd z_.1 (Int32.not_le.mpr (by with_reducible assumption)) | exact absurd z_.2 (Int32.not_le.mpr (by with_reducible assumption))), if_pos (by with_reducible assumption)]; rfl) | (rw [if_neg (fun z_ => by first | exact absurd z_.1 (Int32.not_le.mpr (by with_reducible assumption)) | exact absurd z_.2 (Int32.not_le.mpr (by with_reducible assumption))), if_neg (fun z_ => by first | exact absurd z_.1 (Int32.not_le.mpr (by with_reducible assumption)) | exact absurd z_.2 (Int32.not_le.mpr (by with_reducible assumption))), if_neg (by with_reducible assumption)]; rfl)) rfl d_Ta_tokenOf_39
      · have nc_4 := Int32.not_lt.mp c_4
        refine x_iconst C d_Ta_tokenOf_26 (v := 2) (by decide) ?_
        exact x_iret C (by unfold tkN; first | (rw [if_pos ⟨by with_reducible assumption, by with_reducible assumption⟩]; rfl) | (rw [if_neg (fun z_ => by first | exact absurd z_.1 (Int32.not_le.mpr (by with_reducible assumption)) | exact absurd z_.2 (Int32.not_le.mpr (by with_reducible assumption))), if_pos ⟨by with_reducible assumption, by with_reducible assumption⟩]; rfl) | (rw [if_neg (fun z_ => by first | exact absurd z_.1 (Int32.not_le.mpr (by with_reducible assumption)) | exact absurd z_.2 (Int32.not_le.mpr (by with_reducible assumption))), if_neg (fun z_ => by first | exact absurd z_.1 (Int32.not_le.mpr (by with_reducible assumption)) | exact absurd z_.2 (Int32.not_le.mpr (by with_reducible assumption))), if_pos (by with_reducible assumption)]; rfl) | (rw [if_neg (fun z_ => by first | exact absurd z_.1 (Int32.not_le.mpr (by with_reducible assumption)) | exact absurd z_.2 (Int32.not_le.mpr (by with_reducible assumption))), if_neg (fun z_ => by first | exact absurd z_.1 (Int32.not_le.mpr (by with_reducible assumption)) | exact absurd z_.2 (Int32.not_le.mpr (by with_reducible assumption))), if_neg (by with_reducible assumption)]; rfl)) rfl d_Ta_tokenOf_27
  · have nc_1 := Int32.not_lt.mp c_1
    refine x_iload_n C d_Ta_tokenOf_6 0 rfl rfl ?_
    refine x_bipush C d_Ta_tokenOf_7 (v := 122) (by decide) ?_
    refine x_icmp_gt C d_Ta_tokenOf_9 14 (by decide) (fun c_6 => ?_) (fun c_6 => ?_)
    · have nc_6 := Int32.not_le.mpr c_6
      refine x_iload_n C d_Ta_tokenOf_14 0 rfl rfl ?_
      refine x_bipush C d_Ta_tokenOf_15 (v := 48) (by decide) ?_
      refine x_icmp_lt C d_Ta_tokenOf_17 28 (by decide) (fun c_7 => ?_) (fun c_7 => ?_)
      · have nc_7 := Int32.not_le.mpr c_7
        refine x_iload_n C d_Ta_tokenOf_28 0 rfl rfl ?_
        refine x_bipush C d_Ta_tokenOf_29 (v := 59) (by decide) ?_
        refine x_icmp_ne C d_Ta_tokenOf_31 38 (by decide) (fun c_8 => ?_) (fun c_8 => ?_)
        · have nc_8 := Ne.symm c_8
          refine x_iconst C d_Ta_tokenOf_38 (v := 4) (by decide) ?_
          exact x_iret C (by unfold tkN; first | (rw [if_pos ⟨by with_reducible assumption, by with_reducible assumption⟩]; rfl) | (rw [if_neg (fun z_ => by first | exact absurd z_.1 (Int32.not_le.mpr (by with_reducible assumption)) | exact absurd z_.2 (Int32.not_le.mpr (by with_reducible assumption))), if_pos ⟨by with_reducible assumption, by with_reducible assumption⟩]; rfl) | (rw [if_neg (fun z_ => by first | exact absurd z_.1 (Int32.not_le.mpr (by with_reducible assumption)) | exact absurd z_.2 (Int32.not_le.mpr (by with_reducible assumption))), if_neg (fun z_ => by first | exact absurd z_.1 (Int32.not_le.mpr (by with_reducible assumption)) | exact absurd z_.2 (Int32.not_le.mpr (by with_reducible assumption))), if_pos (by with_reducible assumption)]; rfl) | (rw [if_neg (fun z_ => by first | exact absurd z_.1 (Int32.not_le.mpr (by with_reducible assumption)) | exact absurd z_.2 (Int32.not_le.mpr (by with_reducible assumption))), if_neg (fun z_ => by first | exact absurd z_.1 (Int32.not_le.mpr (by with_reducible assumption)) | exact absurd z_.2 (Int32.not_le.mpr (by with_reducible assumption))), if_neg (by with_reducible assumption)]; rfl)) rfl d_Ta_tokenOf_39
        · refine x_iconst C d_Ta_tokenOf_34 (v := 3) (by decide) ?_
          refine x_goto C d_Ta_tokenOf_35 39 (by decide) ?_
          exact x_iret C (by unfold tkN; first | (rw [if_pos ⟨by with_reducible assumption, by with_reducible assumption⟩]; rfl) | (rw [if_neg (fun z_ => by first | exact absurd z_.1 (Int32.not_le.mpr (by with_reducible assumption)) | exact absurd z_.2 (Int32.not_le.mpr (by with_reducible assumption))), if_pos ⟨by with_reducible assumption, by with_reducible assumption⟩]; rfl) | (rw [if_neg (fun z_ => by first | exact absurd z_.1 (Int32.not_le.mpr (by with_reducible assumption)) | exact absurd z_.2 (Int32.not_le.mpr (by with_reducible assumption))), if_neg (fun z_ => by first | exact absurd z_.1 (Int32.not_le.mpr (by with_reducible assumption)) | exact absurd z_.2 (Int32.not_le.mpr (by with_reducible assumption))), if_pos (by with_reducible assumption)]; rfl) | (rw [if_neg (fun z_ => by first | exact absurd z_.1 (Int32.not_le.mpr (by with_reducible assumption)) | exact absurd z_.2 (Int32.not_le.mpr (by with_reducible assumption))), if_neg (fun z_ => by first | exact absurd z_.1 (Int32.not_le.mpr (by with_reducible assumption)) | exact absurd z_.2 (Int32.not_le.mpr (by with_reducible assumption))), if_neg (by with_reducible assumption)]; rfl)) rfl d_Ta_tokenOf_39
      · have nc_7 := Int32.not_lt.mp c_7
        refine x_iload_n C d_Ta_tokenOf_20 0 rfl rfl ?_
        refine x_bipush C d_Ta_tokenOf_21 (v := 57) (by decide) ?_
        refine x_icmp_gt C d_Ta_tokenOf_23 28 (by decide) (fun c_9 => ?_) (fun c_9 => ?_)
        · have nc_9 := Int32.not_le.mpr c_9
          refine x_iload_n C d_Ta_tokenOf_28 0 rfl rfl ?_
          refine x_bipush C d_Ta_tokenOf_29 (v := 59) (by decide) ?_
          refine x_icmp_ne C d_Ta_tokenOf_31 38 (by decide) (fun c_10 => ?_) (fun c_10 => ?_)
          · have nc_10 := Ne.symm c_10
            refine x_iconst C d_Ta_tokenOf_38 (v := 4) (by decide) ?_
            exact x_iret C (by unfold tkN; first | (rw [if_pos ⟨by with_reducible assumption, by with_reducible assumption⟩]; rfl) | (rw [if_neg (fun z_ => by first | exact absurd z_.1 (Int32.not_le.mpr (by with_reducible assumption)) | exact absurd z_.2 (Int32.not_le.mpr (by with_reducible assumption))), if_pos ⟨by with_reducible assumption, by with_reducible assumption⟩]; rfl) | (rw [if_neg (fun z_ => by first | exact absurd z_.1 (Int32.not_le.mpr (by with_reducible assumption)) | exact absurd z_.2 (Int32.not_le.mpr (by with_reducible assumption))), if_neg (fun z_ => by first | exact absurd z_.1 (Int32.not_le.mpr (by with_reducible assumption)) | exact absurd z_.2 (Int32.not_le.mpr (by with_reducible assumption))), if_pos (by with_reducible assumption)]; rfl) | (rw [if_neg (fun z_ => by first | exact absurd z_.1 (Int32.not_le.mpr (by with_reducible assumption)) | exact absurd z_.2 (Int32.not_le.mpr (by with_reducible assumption))), if_neg (fun z_ => by first | exact absurd z_.1 (Int32.not_le.mpr (by with_reducible assumption)) | exact absurd z_.2 (Int32.not_le.mpr (by with_reducible assumption))), if_neg (by with_reducible assumption)]; rfl)) rfl d_Ta_tokenOf_39
          · refine x_iconst C d_Ta_tokenOf_34 (v := 3) (by decide) ?_
            refine x_goto C d_Ta_tokenOf_35 39 (by decide) ?_
            exact x_iret C (by unfold tkN; first | (rw [if_pos ⟨by with_reducible assumption, by with_reducible assumption⟩]; rfl) | (rw [if_neg (fun z_ => by first | exact absurd z_.1 (Int32.not_le.mpr (by with_reducible assumption)) | exact absurd z_.2 (Int32.not_le.mpr (by with_reducible assumption))), if_pos ⟨by with_reducible assumption, by with_reducible assumption⟩]; rfl) | (rw [if_neg (fun z_ => by first | exact absurd z_.1 (Int32.not_le.mpr (by with_reducible assumption)) | exact absurd z_.2 (Int32.not_le.mpr (by with_reducible assumption))), if_neg (fun z_ => by first | exact absurd z_.1 (Int32.not_le.mpr (by with_reducible assumption)) | exact absurd z_.2 (Int32.not_le.mpr (by with_reducible assumption))), if_pos (by with_reducible assumption)]; rfl) | (rw [if_neg (fun z_ => by first | exact absurd z_.1 (Int32.not_le.mpr (by with_reducible assumption)) | exact absurd z_.2 (Int32.not_le.mpr (by with_reducible assumption))), if_neg (fun z_ => by first | exact absurd z_.1 (Int32.not_le.mpr (by with_reducible assumption)) | exact absurd z_.2 (Int32.not_le.mpr (by with_reducible assumption))), if_neg (by with_reducible assumption)]; rfl)) rfl d_Ta_tokenOf_39
        · have nc_9 := Int32.not_lt.mp c_9
          refine x_iconst C d_Ta_tokenOf_26 (v := 2) (by decide) ?_
          exact x_iret C (by unfold tkN; first | (rw [if_pos ⟨by with_reducible assumption, by with_reducible assumption⟩]; rfl) | (rw [if_neg (fun z_ => by first | exact absurd z_.1 (Int32.not_le.mpr (by with_reducible assumption)) | exact absurd z_.2 (Int32.not_le.mpr (by with_reducible assumption))), if_pos ⟨by with_reducible assumption, by with_reducible assumption⟩]; rfl) | (rw [if_neg (fun z_ => by first | exact absurd z_.1 (Int32.not_le.mpr (by with_reducible assumption)) | exact absurd z_.2 (Int32.not_le.mpr (by with_reducible assumption))), if_neg (fun z_ => by first | exact absurd z_.1 (Int32.not_le.mpr (by with_reducible assumption)) | exact absurd z_.2 (Int32.not_le.mpr (by with_reducible assumption))), if_pos (by with_reducible assumption)]; rfl) | (rw [if_neg (fun z_ => by first | exact absurd z_.1 (Int32.not_le.mpr (by with_reducible assumption)) | exact absurd z_.2 (Int32.not_le.mpr (by with_reducible assumption))), if_neg (fun z_ => by first | exact absurd z_.1 (Int32.not_le.mpr (by with_reducible assumption)) | exact absurd z_.2 (Int32.not_le.mpr (by with_reducible assumption))), if_neg (by with_reducible assumption)]; rfl)) rfl d_Ta_tokenOf_27
    · have nc_6 := Int32.not_lt.mp c_6
      refine x_iconst C d_Ta_tokenOf_12 (v := 1) (by decide) ?_
      exact x_iret C (by unfold tkN; first | (rw [if_pos ⟨by with_reducible assumption, by with_reducible assumption⟩]; rfl) | (rw [if_neg (fun z_ => by first | exact absurd z_.1 (Int32.not_le.mpr (by with_reducible assumption)) | exact absurd z_.2 (Int32.not_le.mpr (by with_reducible assumption))), if_pos ⟨by with_reducible assumption, by with_reducible assumption⟩]; rfl) | (rw [if_neg (fun z_ => by first | exact absurd z_.1 (Int32.not_le.mpr (by with_reducible assumption)) | exact absurd z_.2 (Int32.not_le.mpr (by with_reducible assumption))), if_neg (fun z_ => by first | exact absurd z_.1 (Int32.not_le.mpr (by with_reducible assumption)) | exact absurd z_.2 (Int32.not_le.mpr (by with_reducible assumption))), if_pos (by with_reducible assumption)]; rfl) | (rw [if_neg (fun z_ => by first | exact absurd z_.1 (Int32.not_le.mpr (by with_reducible assumption)) | exact absurd z_.2 (Int32.not_le.mpr (by with_reducible assumption))), if_neg (fun z_ => by first | exact absurd z_.1 (Int32.not_le.mpr (by with_reducible assumption)) | exact absurd z_.2 (Int32.not_le.mpr (by with_reducible assumption))), if_neg (by with_reducible assumption)]; rfl)) rfl d_Ta_tokenOf_13

set_option maxRecDepth 100000 in
set_option maxHeartbeats 600000 in
theorem c_Ta_advance (Z : ZT) (b : Nat → Int32) (L e : Nat) (hL : L ≤ 120) (he : e ≤ L) (g : St)  (h6 : g 6 = b) (h0 : g 5 0 = nI L) (h4 : g 5 4 = nI e) : CT yC Z y_Ta_advance b_Ta_advance 2 none 1 21 [.ref (Z.2.1 (2))] (g) (QcV yC Z (va_up g 5 (lexR b (g 5) L e))) := by
  refine CT.mk "TunnelPeace$Tape" (by decide) rfl (Nat.le_of_ble_eq_true rfl) (fun X C => ?_)
  refine x_lv [0] (lv' := [(0, .ref (Z.2.1 (2)))]) rfl ?_
  subst h6
  have hj := skp_ge (b := g 6) (L := L) (e := e)
  have hjl := skp_le (b := g 6) he
  refine x_eqg (g' := va_up g 5 (rw4 (g 5) (g 5 2) (g 5 3) (nI e) (g 5 5))) (by rw [← h4]; exact rw4_id) ?_
  refine x_aload_n C d_Ta_advance_0 0 rfl rfl ?_
  refine x_aload_n C d_Ta_advance_1 0 rfl rfl ?_
  refine gf_Ta_end C (v := nI e) (Eq.trans (congrFun (va_up_self _ _ _) _) rfl) k_127 d_Ta_advance_2 ?_
  have J_46 : WX X 2 yC Z (QX X yC Z (QcV yC Z (va_up g 5 (lexR (g 6) (g 5) L e)))) (va_up g 5 (rw4 (g 5) (g 5 2) (nI (skp (g 6) L e)) (nI e) (g 5 5))) 46 [(0, .ref (Z.2.1 (2)))] [] := by
    refine x_aload_n C d_Ta_advance_46 0 rfl rfl ?_
    refine x_aload_n C d_Ta_advance_47 0 rfl rfl ?_
    refine gf_Ta_begin C (v := nI (skp (g 6) L e)) (Eq.trans (congrFun (va_up_self _ _ _) _) rfl) k_126 d_Ta_advance_48 ?_
    refine pf_Ta_end C (v := nI (skp (g 6) L e)) (G := va_up g 5 (rw4 (g 5) (g 5 2) (nI (skp (g 6) L e)) (nI (skp (g 6) L e)) (g 5 5))) (Eq.trans up_va (congrArg (va_up _ _) rw4_4)) k_127 d_Ta_advance_51 ?_
    refine x_aload_n C d_Ta_advance_54 0 rfl rfl ?_
    refine x_aload_n C d_Ta_advance_55 0 rfl rfl ?_
    refine gf_Ta_begin C (v := nI (skp (g 6) L e)) (Eq.trans (congrFun (va_up_self _ _ _) _) rfl) k_126 d_Ta_advance_56 ?_
    refine x_aload_n C d_Ta_advance_59 0 rfl rfl ?_
    refine gf_Ta_length C (v := nI L) (Eq.trans (Eq.trans (congrFun (va_up_self _ _ _) _) rfl) h0) k_122 d_Ta_advance_60 ?_
    refine x_icmp_ge C d_Ta_advance_63 81 (by decide) (fun c_1 => ?_) (fun c_1 => ?_)
    · have nc_1 := Int32.not_lt.mpr c_1
      have mc_1 : L ≤ (skp (g 6) L e) := (nI_leI (by omega) (by omega)).mp (show nI L ≤ nI (skp (g 6) L e) from c_1)
      refine x_iconst C d_Ta_advance_81 (v := 0) (by decide) ?_
      refine pf_Ta_token C (v := 0) (G := va_up g 5 (rw4 (g 5) 0 (nI (skp (g 6) L e)) (nI (skp (g 6) L e)) (g 5 5))) (Eq.trans up_va (congrArg (va_up _ _) rw4_2)) k_125 d_Ta_advance_82 ?_
      refine x_aload_n C d_Ta_advance_85 0 rfl rfl ?_
      refine x_iconst C d_Ta_advance_86 (v := 0) (by decide) ?_
      refine pf_Ta_number C (v := 0) (G := va_up g 5 (rw4 (g 5) 0 (nI (skp (g 6) L e)) (nI (skp (g 6) L e)) 0)) (Eq.trans up_va (congrArg (va_up _ _) rw4_5)) k_128 d_Ta_advance_87 ?_
      refine x_iconst C d_Ta_advance_90 (v := 1) (by decide) ?_
      refine x_istore_n C d_Ta_advance_91 rfl (by decide) (lv' := [(1, .int (1)), (0, .ref (Z.2.1 (2)))]) rfl ?_
      refine x_iload_n C d_Ta_advance_92 0 rfl rfl ?_
      refine x_ifeq C d_Ta_advance_93 199 (by decide) (fun c_2 => ?_) (fun c_2 => ?_)
      · exact absurd c_2 (by decide)
      · refine x_aload_n C d_Ta_advance_96 1 rfl rfl ?_
        refine gf_Ta_end C (v := nI (skp (g 6) L e)) (Eq.trans (congrFun (va_up_self _ _ _) _) rfl) k_127 d_Ta_advance_97 ?_
        refine x_aload_n C d_Ta_advance_100 1 rfl rfl ?_
        refine gf_Ta_length C (v := nI L) (Eq.trans (Eq.trans (congrFun (va_up_self _ _ _) _) rfl) h0) k_122 d_Ta_advance_101 ?_
        refine x_icmp_ge C d_Ta_advance_104 199 (by decide) (fun c_3 => ?_) (fun c_3 => ?_)
        · have nc_3 := Int32.not_lt.mpr c_3
          have mc_3 : L ≤ (skp (g 6) L e) := (nI_leI (by omega) (by omega)).mp (show nI L ≤ nI (skp (g 6) L e) from c_3)
          refine x_vret C (congrArg (va_up g 5) ?_) d_Ta_advance_199
          first | (exfalso; omega) | (have et : tok (g 6) L e = 0 := if_neg (by omega); rw [lexR_rw, show tnd (g 6) L e = (skp (g 6) L e) by unfold tnd; rw [if_pos et], show tnm (g 6) L e = 0 by unfold tnm; rw [if_neg (by rw [et]; decide)], et]; rfl)
        · have nc_3 := Int32.not_le.mp c_3
          have mc_3 : ¬ L ≤ (skp (g 6) L e) := fun z_ => (show ¬ nI L ≤ nI (skp (g 6) L e) from c_3) ((nI_leI (by omega) (by omega)).mpr z_)
          refine x_aload_n C d_Ta_advance_107 1 rfl rfl ?_
          have hb4 := tkN_4 (g 6 (skp (g 6) L e))
          refine gf_Ta_bytes C k_124 d_Ta_advance_108 ?_
          refine x_aload_n C d_Ta_advance_111 1 rfl rfl ?_
          refine gf_Ta_end C (v := nI (skp (g 6) L e)) (Eq.trans (congrFun (va_up_self _ _ _) _) rfl) k_127 d_Ta_advance_112 ?_
          refine al_by C (skp (g 6) L e) (v := g 6 (skp (g 6) L e)) rfl (by omega) (congrFun (va_up_ne _ _ (by omega)) _) d_Ta_advance_115 ?_
          refine x_callSi C (c_Ta_tokenOf Z (g 6 (skp (g 6) L e)) (va_up g 5 (rw4 (g 5) 0 (nI (skp (g 6) L e)) (nI (skp (g 6) L e)) 0))) mi_Ta_tokenOf k_582 (As := [.int (g 6 (skp (g 6) L e))]) ⟨Nat.le_of_ble_eq_true rfl, Nat.le_of_ble_eq_true rfl⟩ rfl rfl (Nat.le_of_ble_eq_true rfl) d_Ta_advance_116 ?_
          refine x_aload_n C d_Ta_advance_119 1 rfl rfl ?_
          refine gf_Ta_token C (v := 0) (Eq.trans (congrFun (va_up_self _ _ _) _) rfl) k_125 d_Ta_advance_120 ?_
          refine x_icmp_ne C d_Ta_advance_123 199 (by decide) (fun c_4 => ?_) (fun c_4 => ?_)
          · have nc_4 := Ne.symm c_4
            have mc_4 : ¬ (tkN (g 6 (skp (g 6) L e))) = 0 := fun z_ => (show ¬ nI (tkN (g 6 (skp (g 6) L e))) = nI 0 from c_4) ((nI_eq (by omega) (by omega)).mpr z_)
            refine x_vret C (congrArg (va_up g 5) ?_) d_Ta_advance_199
            first | (exfalso; omega) | (have et : tok (g 6) L e = 0 := if_neg (by omega); rw [lexR_rw, show tnd (g 6) L e = (skp (g 6) L e) by unfold tnd; rw [if_pos et], show tnm (g 6) L e = 0 by unfold tnm; rw [if_neg (by rw [et]; decide)], et]; rfl)
          · have mc_4 : (tkN (g 6 (skp (g 6) L e))) = 0 := (nI_eq (by omega) (by omega)).mp (show nI (tkN (g 6 (skp (g 6) L e))) = nI 0 from c_4)
            refine x_aload_n C d_Ta_advance_126 1 rfl rfl ?_
            refine gf_Ta_token C (v := 0) (Eq.trans (congrFun (va_up_self _ _ _) _) rfl) k_125 d_Ta_advance_127 ?_
            refine x_iconst C d_Ta_advance_130 (v := 2) (by decide) ?_
            refine x_icmp_ne C d_Ta_advance_131 164 (by decide) (fun c_5 => ?_) (fun c_5 => ?_)
            · have nc_5 := Ne.symm c_5
              refine x_aload_n C d_Ta_advance_164 1 rfl rfl ?_
              refine x_dup C d_Ta_advance_165 rfl ?_
              refine gf_Ta_end C (v := nI (skp (g 6) L e)) (Eq.trans (congrFun (va_up_self _ _ _) _) rfl) k_127 d_Ta_advance_166 ?_
              refine x_iconst C d_Ta_advance_169 (v := 1) (by decide) ?_
              refine x_iadd C d_Ta_advance_170 ?_
              refine x_topi (x' := nI ((skp (g 6) L e) + 1)) (nI_1 _) ?_
              refine pf_Ta_end C (v := nI ((skp (g 6) L e) + 1)) (G := va_up g 5 (rw4 (g 5) 0 (nI (skp (g 6) L e)) (nI ((skp (g 6) L e) + 1)) 0)) (Eq.trans up_va (congrArg (va_up _ _) rw4_4)) k_127 d_Ta_advance_171 ?_
              refine x_aload_n C d_Ta_advance_174 1 rfl rfl ?_
              refine gf_Ta_token C (v := 0) (Eq.trans (congrFun (va_up_self _ _ _) _) rfl) k_125 d_Ta_advance_175 ?_
              refine x_iconst C d_Ta_advance_178 (v := 1) (by decide) ?_
              refine x_icmp_eq C d_Ta_advance_179 190 (by decide) (fun c_6 => ?_) (fun c_6 => ?_)
              · exact absurd c_6 (by decide)
              · have nc_6 := Ne.symm c_6
                refine x_aload_n C d_Ta_advance_182 1 rfl rfl ?_
                refine gf_Ta_token C (v := 0) (Eq.trans (congrFun (va_up_self _ _ _) _) rfl) k_125 d_Ta_advance_183 ?_
                refine x_iconst C d_Ta_advance_186 (v := 2) (by decide) ?_
                refine x_icmp_ne C d_Ta_advance_187 194 (by decide) (fun c_7 => ?_) (fun c_7 => ?_)
                · have nc_7 := Ne.symm c_7
                  refine x_iconst C d_Ta_advance_194 (v := 0) (by decide) ?_
                  refine x_istore_n C d_Ta_advance_195 rfl (by decide) (lv' := [(1, .int (0)), (0, .ref (Z.2.1 (2)))]) rfl ?_
                  refine x_goto C d_Ta_advance_196 92 (by decide) ?_
                  refine x_iload_n C d_Ta_advance_92 0 rfl rfl ?_
                  refine x_ifeq C d_Ta_advance_93 199 (by decide) (fun c_8 => ?_) (fun c_8 => ?_)
                  · refine x_vret C (congrArg (va_up g 5) ?_) d_Ta_advance_199
                    first | (exfalso; omega) | (have et : tok (g 6) L e = 0 := if_neg (by omega); rw [lexR_rw, show tnd (g 6) L e = (skp (g 6) L e) by unfold tnd; rw [if_pos et], show tnm (g 6) L e = 0 by unfold tnm; rw [if_neg (by rw [et]; decide)], et]; rfl)
                  · exact absurd c_8 (by decide)
                · exact absurd c_7 (by decide)
            · exact absurd c_5 (by decide)
    · have nc_1 := Int32.not_le.mp c_1
      have mc_1 : ¬ L ≤ (skp (g 6) L e) := fun z_ => (show ¬ nI L ≤ nI (skp (g 6) L e) from c_1) ((nI_leI (by omega) (by omega)).mpr z_)
      obtain ⟨tk, htk⟩ : ∃ tk, tkN (g 6 (skp (g 6) L e)) = tk := ⟨_, rfl⟩
      have htk4 : 1 ≤ tk ∧ tk ≤ 4 := htk ▸ tkN_4 _
      refine x_aload_n C d_Ta_advance_66 0 rfl rfl ?_
      refine gf_Ta_bytes C k_124 d_Ta_advance_67 ?_
      refine x_aload_n C d_Ta_advance_70 0 rfl rfl ?_
      refine gf_Ta_begin C (v := nI (skp (g 6) L e)) (Eq.trans (congrFun (va_up_self _ _ _) _) rfl) k_126 d_Ta_advance_71 ?_
      refine al_by C (skp (g 6) L e) (v := g 6 (skp (g 6) L e)) rfl (by omega) (congrFun (va_up_ne _ _ (by omega)) _) d_Ta_advance_74 ?_
      refine x_callSi C (c_Ta_tokenOf Z (g 6 (skp (g 6) L e)) (va_up g 5 (rw4 (g 5) (g 5 2) (nI (skp (g 6) L e)) (nI (skp (g 6) L e)) (g 5 5)))) mi_Ta_tokenOf k_582 (As := [.int (g 6 (skp (g 6) L e))]) ⟨Nat.le_of_ble_eq_true rfl, Nat.le_of_ble_eq_true rfl⟩ rfl rfl (Nat.le_of_ble_eq_true rfl) d_Ta_advance_75 ?_
      refine x_topi (x' := nI tk) (by rw [htk]) ?_
      rcases (show tk = 1 ∨ tk = 2 ∨ tk = 3 ∨ tk = 4 by omega) with rfl | rfl | rfl | rfl
      · skip
        refine x_goto C d_Ta_advance_78 82 (by decide) ?_
        refine pf_Ta_token C (v := nI 1) (G := va_up g 5 (rw4 (g 5) (nI 1) (nI (skp (g 6) L e)) (nI (skp (g 6) L e)) (g 5 5))) (Eq.trans up_va (congrArg (va_up _ _) rw4_2)) k_125 d_Ta_advance_82 ?_
        refine x_aload_n C d_Ta_advance_85 0 rfl rfl ?_
        refine x_iconst C d_Ta_advance_86 (v := 0) (by decide) ?_
        refine pf_Ta_number C (v := 0) (G := va_up g 5 (rw4 (g 5) (nI 1) (nI (skp (g 6) L e)) (nI (skp (g 6) L e)) 0)) (Eq.trans up_va (congrArg (va_up _ _) rw4_5)) k_128 d_Ta_advance_87 ?_
        refine x_iconst C d_Ta_advance_90 (v := 1) (by decide) ?_
        refine x_istore_n C d_Ta_advance_91 rfl (by decide) (lv' := [(1, .int (1)), (0, .ref (Z.2.1 (2)))]) rfl ?_
        have LP_92 : ∀ (f_ i : Nat), i ≤ L - (skp (g 6) L e) → (L - (skp (g 6) L e)) - i < f_ → (ext (g 6) L 1 ((skp (g 6) L e) + i) = ext (g 6) L 1 (skp (g 6) L e)) → WX X 2 yC Z (QX X yC Z (QcV yC Z (va_up g 5 (lexR (g 6) (g 5) L e)))) (va_up g 5 (rw4 (g 5) (nI 1) (nI (skp (g 6) L e)) (nI ((skp (g 6) L e) + i)) 0)) 92 [(1, .int (1)), (0, .ref (Z.2.1 (2)))] [] := by
          intro f_
          induction f_ with
          | zero => intro i h1_ h2_ _; exact absurd h2_ (Nat.not_lt_zero _)
          | succ f_ ih_92 =>
            intro i hi_92 hf_92 hy_92
            refine x_iload_n C d_Ta_advance_92 0 rfl rfl ?_
            refine x_ifeq C d_Ta_advance_93 199 (by decide) (fun c_9 => ?_) (fun c_9 => ?_)
            · exact absurd c_9 (by decide)
            · refine x_aload_n C d_Ta_advance_96 1 rfl rfl ?_
              refine gf_Ta_end C (v := nI ((skp (g 6) L e) + i)) (Eq.trans (congrFun (va_up_self _ _ _) _) rfl) k_127 d_Ta_advance_97 ?_
              refine x_aload_n C d_Ta_advance_100 1 rfl rfl ?_
              refine gf_Ta_length C (v := nI L) (Eq.trans (Eq.trans (congrFun (va_up_self _ _ _) _) rfl) h0) k_122 d_Ta_advance_101 ?_
              refine x_icmp_ge C d_Ta_advance_104 199 (by decide) (fun c_10 => ?_) (fun c_10 => ?_)
              · have nc_10 := Int32.not_lt.mpr c_10
                have mc_10 : L ≤ ((skp (g 6) L e) + i) := (nI_leI (by omega) (by omega)).mp (show nI L ≤ nI ((skp (g 6) L e) + i) from c_10)
                refine x_vret C (congrArg (va_up g 5) ?_) d_Ta_advance_199
                have et : tok (g 6) L e = 1 := (tok_eq (by omega)).trans htk
                rw [lexR_rw, show tnd (g 6) L e = (skp (g 6) L e) + i by unfold tnd; rw [if_neg (by rw [et]; decide), if_pos (by rw [et]; decide), et, ← hy_92, ext_f (by rintro ⟨z1, z2⟩; first | omega | contradiction)], show tnm (g 6) L e = 0 by unfold tnm; rw [if_neg (by rw [et]; decide)], et]; try rfl
              · have nc_10 := Int32.not_le.mp c_10
                have mc_10 : ¬ L ≤ ((skp (g 6) L e) + i) := fun z_ => (show ¬ nI L ≤ nI ((skp (g 6) L e) + i) from c_10) ((nI_leI (by omega) (by omega)).mpr z_)
                refine x_aload_n C d_Ta_advance_107 1 rfl rfl ?_
                have hb4 := tkN_4 (g 6 ((skp (g 6) L e) + i))
                refine gf_Ta_bytes C k_124 d_Ta_advance_108 ?_
                refine x_aload_n C d_Ta_advance_111 1 rfl rfl ?_
                refine gf_Ta_end C (v := nI ((skp (g 6) L e) + i)) (Eq.trans (congrFun (va_up_self _ _ _) _) rfl) k_127 d_Ta_advance_112 ?_
                refine al_by C ((skp (g 6) L e) + i) (v := g 6 ((skp (g 6) L e) + i)) rfl (by omega) (congrFun (va_up_ne _ _ (by omega)) _) d_Ta_advance_115 ?_
                refine x_callSi C (c_Ta_tokenOf Z (g 6 ((skp (g 6) L e) + i)) (va_up g 5 (rw4 (g 5) (nI 1) (nI (skp (g 6) L e)) (nI ((skp (g 6) L e) + i)) 0))) mi_Ta_tokenOf k_582 (As := [.int (g 6 ((skp (g 6) L e) + i))]) ⟨Nat.le_of_ble_eq_true rfl, Nat.le_of_ble_eq_true rfl⟩ rfl rfl (Nat.le_of_ble_eq_true rfl) d_Ta_advance_116 ?_
                refine x_aload_n C d_Ta_advance_119 1 rfl rfl ?_
                refine gf_Ta_token C (v := nI 1) (Eq.trans (congrFun (va_up_self _ _ _) _) rfl) k_125 d_Ta_advance_120 ?_
                refine x_icmp_ne C d_Ta_advance_123 199 (by decide) (fun c_11 => ?_) (fun c_11 => ?_)
                · have nc_11 := Ne.symm c_11
                  have mc_11 : ¬ (tkN (g 6 ((skp (g 6) L e) + i))) = 1 := fun z_ => (show ¬ nI (tkN (g 6 ((skp (g 6) L e) + i))) = nI 1 from c_11) ((nI_eq (by omega) (by omega)).mpr z_)
                  refine x_vret C (congrArg (va_up g 5) ?_) d_Ta_advance_199
                  have et : tok (g 6) L e = 1 := (tok_eq (by omega)).trans htk
                  rw [lexR_rw, show tnd (g 6) L e = (skp (g 6) L e) + i by unfold tnd; rw [if_neg (by rw [et]; decide), if_pos (by rw [et]; decide), et, ← hy_92, ext_f (by rintro ⟨z1, z2⟩; first | omega | contradiction)], show tnm (g 6) L e = 0 by unfold tnm; rw [if_neg (by rw [et]; decide)], et]; try rfl
                · have mc_11 : (tkN (g 6 ((skp (g 6) L e) + i))) = 1 := (nI_eq (by omega) (by omega)).mp (show nI (tkN (g 6 ((skp (g 6) L e) + i))) = nI 1 from c_11)
                  refine x_aload_n C d_Ta_advance_126 1 rfl rfl ?_
                  refine gf_Ta_token C (v := nI 1) (Eq.trans (congrFun (va_up_self _ _ _) _) rfl) k_125 d_Ta_advance_127 ?_
                  refine x_iconst C d_Ta_advance_130 (v := 2) (by decide) ?_
                  refine x_icmp_ne C d_Ta_advance_131 164 (by decide) (fun c_12 => ?_) (fun c_12 => ?_)
                  · have nc_12 := Ne.symm c_12
                    refine x_aload_n C d_Ta_advance_164 1 rfl rfl ?_
                    refine x_dup C d_Ta_advance_165 rfl ?_
                    refine gf_Ta_end C (v := nI ((skp (g 6) L e) + i)) (Eq.trans (congrFun (va_up_self _ _ _) _) rfl) k_127 d_Ta_advance_166 ?_
                    refine x_iconst C d_Ta_advance_169 (v := 1) (by decide) ?_
                    refine x_iadd C d_Ta_advance_170 ?_
                    refine x_topi (x' := nI (((skp (g 6) L e) + i) + 1)) (nI_1 _) ?_
                    refine pf_Ta_end C (v := nI (((skp (g 6) L e) + i) + 1)) (G := va_up g 5 (rw4 (g 5) (nI 1) (nI (skp (g 6) L e)) (nI (((skp (g 6) L e) + i) + 1)) 0)) (Eq.trans up_va (congrArg (va_up _ _) rw4_4)) k_127 d_Ta_advance_171 ?_
                    refine x_aload_n C d_Ta_advance_174 1 rfl rfl ?_
                    refine gf_Ta_token C (v := nI 1) (Eq.trans (congrFun (va_up_self _ _ _) _) rfl) k_125 d_Ta_advance_175 ?_
                    refine x_iconst C d_Ta_advance_178 (v := 1) (by decide) ?_
                    refine x_icmp_eq C d_Ta_advance_179 190 (by decide) (fun c_13 => ?_) (fun c_13 => ?_)
                    · refine x_iconst C d_Ta_advance_190 (v := 1) (by decide) ?_
                      refine x_goto C d_Ta_advance_191 195 (by decide) ?_
                      refine x_istore_n C d_Ta_advance_195 rfl (by decide) (lv' := [(1, .int (1)), (0, .ref (Z.2.1 (2)))]) rfl ?_
                      refine x_goto C d_Ta_advance_196 92 (by decide) ?_
                      refine x_eqg (g' := va_up g 5 (rw4 (g 5) (nI 1) (nI (skp (g 6) L e)) (nI ((skp (g 6) L e) + i + 1)) 0)) rfl ?_
                      exact ih_92 (i + 1) (by omega) (by omega) ((ext_t (e := (skp (g 6) L e) + i) (by omega) (by assumption)).symm.trans hy_92)
                    · exact absurd c_13 (by decide)
                  · exact absurd c_12 (by decide)
        refine x_eqg (g' := va_up g 5 (rw4 (g 5) (nI 1) (nI (skp (g 6) L e)) (nI ((skp (g 6) L e) + 0)) 0)) rfl ?_
        exact LP_92 (L - (skp (g 6) L e) + 1) 0 (Nat.zero_le _) (by omega) rfl
      · skip
        refine x_goto C d_Ta_advance_78 82 (by decide) ?_
        refine pf_Ta_token C (v := nI 2) (G := va_up g 5 (rw4 (g 5) (nI 2) (nI (skp (g 6) L e)) (nI (skp (g 6) L e)) (g 5 5))) (Eq.trans up_va (congrArg (va_up _ _) rw4_2)) k_125 d_Ta_advance_82 ?_
        refine x_aload_n C d_Ta_advance_85 0 rfl rfl ?_
        refine x_iconst C d_Ta_advance_86 (v := 0) (by decide) ?_
        refine pf_Ta_number C (v := 0) (G := va_up g 5 (rw4 (g 5) (nI 2) (nI (skp (g 6) L e)) (nI (skp (g 6) L e)) 0)) (Eq.trans up_va (congrArg (va_up _ _) rw4_5)) k_128 d_Ta_advance_87 ?_
        refine x_iconst C d_Ta_advance_90 (v := 1) (by decide) ?_
        refine x_istore_n C d_Ta_advance_91 rfl (by decide) (lv' := [(1, .int (1)), (0, .ref (Z.2.1 (2)))]) rfl ?_
        have LP_92 : ∀ (f_ i : Nat), i ≤ L - (skp (g 6) L e) → (L - (skp (g 6) L e)) - i < f_ → (ext (g 6) L 2 ((skp (g 6) L e) + i) = ext (g 6) L 2 (skp (g 6) L e) ∧ nmV (g 6) L ((skp (g 6) L e) + i) (nmP (g 6) (skp (g 6) L e) i) = nmV (g 6) L (skp (g 6) L e) 0) → WX X 2 yC Z (QX X yC Z (QcV yC Z (va_up g 5 (lexR (g 6) (g 5) L e)))) (va_up g 5 (rw4 (g 5) (nI 2) (nI (skp (g 6) L e)) (nI ((skp (g 6) L e) + i)) (nI (nmP (g 6) (skp (g 6) L e) i)))) 92 [(1, .int (1)), (0, .ref (Z.2.1 (2)))] [] := by
          intro f_
          induction f_ with
          | zero => intro i h1_ h2_ _; exact absurd h2_ (Nat.not_lt_zero _)
          | succ f_ ih_92 =>
            intro i hi_92 hf_92 hy_92
            refine x_iload_n C d_Ta_advance_92 0 rfl rfl ?_
            refine x_ifeq C d_Ta_advance_93 199 (by decide) (fun c_14 => ?_) (fun c_14 => ?_)
            · exact absurd c_14 (by decide)
            · refine x_aload_n C d_Ta_advance_96 1 rfl rfl ?_
              refine gf_Ta_end C (v := nI ((skp (g 6) L e) + i)) (Eq.trans (congrFun (va_up_self _ _ _) _) rfl) k_127 d_Ta_advance_97 ?_
              refine x_aload_n C d_Ta_advance_100 1 rfl rfl ?_
              refine gf_Ta_length C (v := nI L) (Eq.trans (Eq.trans (congrFun (va_up_self _ _ _) _) rfl) h0) k_122 d_Ta_advance_101 ?_
              refine x_icmp_ge C d_Ta_advance_104 199 (by decide) (fun c_15 => ?_) (fun c_15 => ?_)
              · have nc_15 := Int32.not_lt.mpr c_15
                have mc_15 : L ≤ ((skp (g 6) L e) + i) := (nI_leI (by omega) (by omega)).mp (show nI L ≤ nI ((skp (g 6) L e) + i) from c_15)
                refine x_vret C (congrArg (va_up g 5) ?_) d_Ta_advance_199
                have et : tok (g 6) L e = 2 := (tok_eq (by omega)).trans htk
                rw [lexR_rw, show tnd (g 6) L e = (skp (g 6) L e) + i by unfold tnd; rw [if_neg (by rw [et]; decide), if_pos (by rw [et]; decide), et, ← hy_92.1, ext_f (by rintro ⟨z1, z2⟩; first | omega | contradiction)], show tnm (g 6) L e = nmP (g 6) (skp (g 6) L e) i by unfold tnm; rw [if_pos et, ← hy_92.2, nmV_f (by rintro ⟨z1, z2⟩; first | omega | contradiction)], et]; try rfl
              · have nc_15 := Int32.not_le.mp c_15
                have mc_15 : ¬ L ≤ ((skp (g 6) L e) + i) := fun z_ => (show ¬ nI L ≤ nI ((skp (g 6) L e) + i) from c_15) ((nI_leI (by omega) (by omega)).mpr z_)
                refine x_aload_n C d_Ta_advance_107 1 rfl rfl ?_
                have hb4 := tkN_4 (g 6 ((skp (g 6) L e) + i))
                refine gf_Ta_bytes C k_124 d_Ta_advance_108 ?_
                refine x_aload_n C d_Ta_advance_111 1 rfl rfl ?_
                refine gf_Ta_end C (v := nI ((skp (g 6) L e) + i)) (Eq.trans (congrFun (va_up_self _ _ _) _) rfl) k_127 d_Ta_advance_112 ?_
                refine al_by C ((skp (g 6) L e) + i) (v := g 6 ((skp (g 6) L e) + i)) rfl (by omega) (congrFun (va_up_ne _ _ (by omega)) _) d_Ta_advance_115 ?_
                refine x_callSi C (c_Ta_tokenOf Z (g 6 ((skp (g 6) L e) + i)) (va_up g 5 (rw4 (g 5) (nI 2) (nI (skp (g 6) L e)) (nI ((skp (g 6) L e) + i)) (nI (nmP (g 6) (skp (g 6) L e) i))))) mi_Ta_tokenOf k_582 (As := [.int (g 6 ((skp (g 6) L e) + i))]) ⟨Nat.le_of_ble_eq_true rfl, Nat.le_of_ble_eq_true rfl⟩ rfl rfl (Nat.le_of_ble_eq_true rfl) d_Ta_advance_116 ?_
                refine x_aload_n C d_Ta_advance_119 1 rfl rfl ?_
                refine gf_Ta_token C (v := nI 2) (Eq.trans (congrFun (va_up_self _ _ _) _) rfl) k_125 d_Ta_advance_120 ?_
                refine x_icmp_ne C d_Ta_advance_123 199 (by decide) (fun c_16 => ?_) (fun c_16 => ?_)
                · have nc_16 := Ne.symm c_16
                  have mc_16 : ¬ (tkN (g 6 ((skp (g 6) L e) + i))) = 2 := fun z_ => (show ¬ nI (tkN (g 6 ((skp (g 6) L e) + i))) = nI 2 from c_16) ((nI_eq (by omega) (by omega)).mpr z_)
                  refine x_vret C (congrArg (va_up g 5) ?_) d_Ta_advance_199
                  have et : tok (g 6) L e = 2 := (tok_eq (by omega)).trans htk
                  rw [lexR_rw, show tnd (g 6) L e = (skp (g 6) L e) + i by unfold tnd; rw [if_neg (by rw [et]; decide), if_pos (by rw [et]; decide), et, ← hy_92.1, ext_f (by rintro ⟨z1, z2⟩; first | omega | contradiction)], show tnm (g 6) L e = nmP (g 6) (skp (g 6) L e) i by unfold tnm; rw [if_pos et, ← hy_92.2, nmV_f (by rintro ⟨z1, z2⟩; first | omega | contradiction)], et]; try rfl
                · have mc_16 : (tkN (g 6 ((skp (g 6) L e) + i))) = 2 := (nI_eq (by omega) (by omega)).mp (show nI (tkN (g 6 ((skp (g 6) L e) + i))) = nI 2 from c_16)
                  refine x_aload_n C d_Ta_advance_126 1 rfl rfl ?_
                  refine gf_Ta_token C (v := nI 2) (Eq.trans (congrFun (va_up_self _ _ _) _) rfl) k_125 d_Ta_advance_127 ?_
                  refine x_iconst C d_Ta_advance_130 (v := 2) (by decide) ?_
                  refine x_icmp_ne C d_Ta_advance_131 164 (by decide) (fun c_17 => ?_) (fun c_17 => ?_)
                  · exact absurd c_17 (by decide)
                  · refine x_aload_n C d_Ta_advance_134 1 rfl rfl ?_
                    refine x_sipush C d_Ta_advance_135 (v := 10000) (by decide) ?_
                    refine x_aload_n C d_Ta_advance_138 1 rfl rfl ?_
                    refine gf_Ta_number C (v := nI (nmP (g 6) (skp (g 6) L e) i)) (Eq.trans (congrFun (va_up_self _ _ _) _) rfl) k_128 d_Ta_advance_139 ?_
                    refine x_bipush C d_Ta_advance_142 (v := 10) (by decide) ?_
                    refine x_imul C d_Ta_advance_144 ?_
                    refine x_aload_n C d_Ta_advance_145 1 rfl rfl ?_
                    refine gf_Ta_bytes C k_124 d_Ta_advance_146 ?_
                    refine x_aload_n C d_Ta_advance_149 1 rfl rfl ?_
                    refine gf_Ta_end C (v := nI ((skp (g 6) L e) + i)) (Eq.trans (congrFun (va_up_self _ _ _) _) rfl) k_127 d_Ta_advance_150 ?_
                    refine al_by C ((skp (g 6) L e) + i) (v := g 6 ((skp (g 6) L e) + i)) rfl (by omega) (congrFun (va_up_ne _ _ (by omega)) _) d_Ta_advance_153 ?_
                    refine x_iadd C d_Ta_advance_154 ?_
                    refine x_bipush C d_Ta_advance_155 (v := 48) (by decide) ?_
                    refine x_isub C d_Ta_advance_157 ?_
                    refine x_mn C k_585 (Nat.le_of_ble_eq_true rfl) (Nat.le_of_ble_eq_true rfl) d_Ta_advance_158 ?_
                    refine x_topi (x' := nI (nmP (g 6) (skp (g 6) L e) (i + 1))) (num_st (by assumption)) ?_
                    refine pf_Ta_number C (v := nI (nmP (g 6) (skp (g 6) L e) (i + 1))) (G := va_up g 5 (rw4 (g 5) (nI 2) (nI (skp (g 6) L e)) (nI ((skp (g 6) L e) + i)) (nI (nmP (g 6) (skp (g 6) L e) (i + 1))))) (Eq.trans up_va (congrArg (va_up _ _) rw4_5)) k_128 d_Ta_advance_161 ?_
                    refine x_aload_n C d_Ta_advance_164 1 rfl rfl ?_
                    refine x_dup C d_Ta_advance_165 rfl ?_
                    refine gf_Ta_end C (v := nI ((skp (g 6) L e) + i)) (Eq.trans (congrFun (va_up_self _ _ _) _) rfl) k_127 d_Ta_advance_166 ?_
                    refine x_iconst C d_Ta_advance_169 (v := 1) (by decide) ?_
                    refine x_iadd C d_Ta_advance_170 ?_
                    refine x_topi (x' := nI (((skp (g 6) L e) + i) + 1)) (nI_1 _) ?_
                    refine pf_Ta_end C (v := nI (((skp (g 6) L e) + i) + 1)) (G := va_up g 5 (rw4 (g 5) (nI 2) (nI (skp (g 6) L e)) (nI (((skp (g 6) L e) + i) + 1)) (nI (nmP (g 6) (skp (g 6) L e) (i + 1))))) (Eq.trans up_va (congrArg (va_up _ _) rw4_4)) k_127 d_Ta_advance_171 ?_
                    refine x_aload_n C d_Ta_advance_174 1 rfl rfl ?_
                    refine gf_Ta_token C (v := nI 2) (Eq.trans (congrFun (va_up_self _ _ _) _) rfl) k_125 d_Ta_advance_175 ?_
                    refine x_iconst C d_Ta_advance_178 (v := 1) (by decide) ?_
                    refine x_icmp_eq C d_Ta_advance_179 190 (by decide) (fun c_18 => ?_) (fun c_18 => ?_)
                    · exact absurd c_18 (by decide)
                    · have nc_18 := Ne.symm c_18
                      refine x_aload_n C d_Ta_advance_182 1 rfl rfl ?_
                      refine gf_Ta_token C (v := nI 2) (Eq.trans (congrFun (va_up_self _ _ _) _) rfl) k_125 d_Ta_advance_183 ?_
                      refine x_iconst C d_Ta_advance_186 (v := 2) (by decide) ?_
                      refine x_icmp_ne C d_Ta_advance_187 194 (by decide) (fun c_19 => ?_) (fun c_19 => ?_)
                      · exact absurd c_19 (by decide)
                      · refine x_iconst C d_Ta_advance_190 (v := 1) (by decide) ?_
                        refine x_goto C d_Ta_advance_191 195 (by decide) ?_
                        refine x_istore_n C d_Ta_advance_195 rfl (by decide) (lv' := [(1, .int (1)), (0, .ref (Z.2.1 (2)))]) rfl ?_
                        refine x_goto C d_Ta_advance_196 92 (by decide) ?_
                        refine x_eqg (g' := va_up g 5 (rw4 (g 5) (nI 2) (nI (skp (g 6) L e)) (nI ((skp (g 6) L e) + i + 1)) (nI (nmP (g 6) (skp (g 6) L e) (i + 1))))) rfl ?_
                        exact ih_92 (i + 1) (by omega) (by omega) ⟨(ext_t (e := (skp (g 6) L e) + i) (by omega) (by assumption)).symm.trans hy_92.1, (nmV_t (e := (skp (g 6) L e) + i) (by omega) (by assumption)).symm.trans hy_92.2⟩
        refine x_eqg (g' := va_up g 5 (rw4 (g 5) (nI 2) (nI (skp (g 6) L e)) (nI ((skp (g 6) L e) + 0)) (nI (nmP (g 6) (skp (g 6) L e) 0)))) rfl ?_
        exact LP_92 (L - (skp (g 6) L e) + 1) 0 (Nat.zero_le _) (by omega) (by exact ⟨rfl, rfl⟩)
      · skip
        refine x_goto C d_Ta_advance_78 82 (by decide) ?_
        refine pf_Ta_token C (v := nI 3) (G := va_up g 5 (rw4 (g 5) (nI 3) (nI (skp (g 6) L e)) (nI (skp (g 6) L e)) (g 5 5))) (Eq.trans up_va (congrArg (va_up _ _) rw4_2)) k_125 d_Ta_advance_82 ?_
        refine x_aload_n C d_Ta_advance_85 0 rfl rfl ?_
        refine x_iconst C d_Ta_advance_86 (v := 0) (by decide) ?_
        refine pf_Ta_number C (v := 0) (G := va_up g 5 (rw4 (g 5) (nI 3) (nI (skp (g 6) L e)) (nI (skp (g 6) L e)) 0)) (Eq.trans up_va (congrArg (va_up _ _) rw4_5)) k_128 d_Ta_advance_87 ?_
        refine x_iconst C d_Ta_advance_90 (v := 1) (by decide) ?_
        refine x_istore_n C d_Ta_advance_91 rfl (by decide) (lv' := [(1, .int (1)), (0, .ref (Z.2.1 (2)))]) rfl ?_
        refine x_iload_n C d_Ta_advance_92 0 rfl rfl ?_
        refine x_ifeq C d_Ta_advance_93 199 (by decide) (fun c_20 => ?_) (fun c_20 => ?_)
        · exact absurd c_20 (by decide)
        · refine x_aload_n C d_Ta_advance_96 1 rfl rfl ?_
          refine gf_Ta_end C (v := nI (skp (g 6) L e)) (Eq.trans (congrFun (va_up_self _ _ _) _) rfl) k_127 d_Ta_advance_97 ?_
          refine x_aload_n C d_Ta_advance_100 1 rfl rfl ?_
          refine gf_Ta_length C (v := nI L) (Eq.trans (Eq.trans (congrFun (va_up_self _ _ _) _) rfl) h0) k_122 d_Ta_advance_101 ?_
          refine x_icmp_ge C d_Ta_advance_104 199 (by decide) (fun c_21 => ?_) (fun c_21 => ?_)
          · have nc_21 := Int32.not_lt.mpr c_21
            have mc_21 : L ≤ (skp (g 6) L e) := (nI_leI (by omega) (by omega)).mp (show nI L ≤ nI (skp (g 6) L e) from c_21)
            refine x_vret C (congrArg (va_up g 5) ?_) d_Ta_advance_199
            have et : tok (g 6) L e = 3 := (tok_eq (by omega)).trans htk
            first | (exfalso; omega) | (rw [lexR_rw, show tnd (g 6) L e = (skp (g 6) L e) + 1 by unfold tnd; rw [if_neg (by rw [et]; decide), if_neg (by rw [et]; decide)], show tnm (g 6) L e = 0 by unfold tnm; rw [if_neg (by rw [et]; decide)], et]; rfl)
          · have nc_21 := Int32.not_le.mp c_21
            have mc_21 : ¬ L ≤ (skp (g 6) L e) := fun z_ => (show ¬ nI L ≤ nI (skp (g 6) L e) from c_21) ((nI_leI (by omega) (by omega)).mpr z_)
            refine x_aload_n C d_Ta_advance_107 1 rfl rfl ?_
            have hb4 := tkN_4 (g 6 (skp (g 6) L e))
            refine gf_Ta_bytes C k_124 d_Ta_advance_108 ?_
            refine x_aload_n C d_Ta_advance_111 1 rfl rfl ?_
            refine gf_Ta_end C (v := nI (skp (g 6) L e)) (Eq.trans (congrFun (va_up_self _ _ _) _) rfl) k_127 d_Ta_advance_112 ?_
            refine al_by C (skp (g 6) L e) (v := g 6 (skp (g 6) L e)) rfl (by omega) (congrFun (va_up_ne _ _ (by omega)) _) d_Ta_advance_115 ?_
            refine x_callSi C (c_Ta_tokenOf Z (g 6 (skp (g 6) L e)) (va_up g 5 (rw4 (g 5) (nI 3) (nI (skp (g 6) L e)) (nI (skp (g 6) L e)) 0))) mi_Ta_tokenOf k_582 (As := [.int (g 6 (skp (g 6) L e))]) ⟨Nat.le_of_ble_eq_true rfl, Nat.le_of_ble_eq_true rfl⟩ rfl rfl (Nat.le_of_ble_eq_true rfl) d_Ta_advance_116 ?_
            refine x_aload_n C d_Ta_advance_119 1 rfl rfl ?_
            refine gf_Ta_token C (v := nI 3) (Eq.trans (congrFun (va_up_self _ _ _) _) rfl) k_125 d_Ta_advance_120 ?_
            refine x_icmp_ne C d_Ta_advance_123 199 (by decide) (fun c_22 => ?_) (fun c_22 => ?_)
            · have nc_22 := Ne.symm c_22
              have mc_22 : ¬ (tkN (g 6 (skp (g 6) L e))) = 3 := fun z_ => (show ¬ nI (tkN (g 6 (skp (g 6) L e))) = nI 3 from c_22) ((nI_eq (by omega) (by omega)).mpr z_)
              refine x_vret C (congrArg (va_up g 5) ?_) d_Ta_advance_199
              have et : tok (g 6) L e = 3 := (tok_eq (by omega)).trans htk
              first | (exfalso; omega) | (rw [lexR_rw, show tnd (g 6) L e = (skp (g 6) L e) + 1 by unfold tnd; rw [if_neg (by rw [et]; decide), if_neg (by rw [et]; decide)], show tnm (g 6) L e = 0 by unfold tnm; rw [if_neg (by rw [et]; decide)], et]; rfl)
            · have mc_22 : (tkN (g 6 (skp (g 6) L e))) = 3 := (nI_eq (by omega) (by omega)).mp (show nI (tkN (g 6 (skp (g 6) L e))) = nI 3 from c_22)
              refine x_aload_n C d_Ta_advance_126 1 rfl rfl ?_
              refine gf_Ta_token C (v := nI 3) (Eq.trans (congrFun (va_up_self _ _ _) _) rfl) k_125 d_Ta_advance_127 ?_
              refine x_iconst C d_Ta_advance_130 (v := 2) (by decide) ?_
              refine x_icmp_ne C d_Ta_advance_131 164 (by decide) (fun c_23 => ?_) (fun c_23 => ?_)
              · have nc_23 := Ne.symm c_23
                refine x_aload_n C d_Ta_advance_164 1 rfl rfl ?_
                refine x_dup C d_Ta_advance_165 rfl ?_
                refine gf_Ta_end C (v := nI (skp (g 6) L e)) (Eq.trans (congrFun (va_up_self _ _ _) _) rfl) k_127 d_Ta_advance_166 ?_
                refine x_iconst C d_Ta_advance_169 (v := 1) (by decide) ?_
                refine x_iadd C d_Ta_advance_170 ?_
                refine x_topi (x' := nI ((skp (g 6) L e) + 1)) (nI_1 _) ?_
                refine pf_Ta_end C (v := nI ((skp (g 6) L e) + 1)) (G := va_up g 5 (rw4 (g 5) (nI 3) (nI (skp (g 6) L e)) (nI ((skp (g 6) L e) + 1)) 0)) (Eq.trans up_va (congrArg (va_up _ _) rw4_4)) k_127 d_Ta_advance_171 ?_
                refine x_aload_n C d_Ta_advance_174 1 rfl rfl ?_
                refine gf_Ta_token C (v := nI 3) (Eq.trans (congrFun (va_up_self _ _ _) _) rfl) k_125 d_Ta_advance_175 ?_
                refine x_iconst C d_Ta_advance_178 (v := 1) (by decide) ?_
                refine x_icmp_eq C d_Ta_advance_179 190 (by decide) (fun c_24 => ?_) (fun c_24 => ?_)
                · exact absurd c_24 (by decide)
                · have nc_24 := Ne.symm c_24
                  refine x_aload_n C d_Ta_advance_182 1 rfl rfl ?_
                  refine gf_Ta_token C (v := nI 3) (Eq.trans (congrFun (va_up_self _ _ _) _) rfl) k_125 d_Ta_advance_183 ?_
                  refine x_iconst C d_Ta_advance_186 (v := 2) (by decide) ?_
                  refine x_icmp_ne C d_Ta_advance_187 194 (by decide) (fun c_25 => ?_) (fun c_25 => ?_)
                  · have nc_25 := Ne.symm c_25
                    refine x_iconst C d_Ta_advance_194 (v := 0) (by decide) ?_
                    refine x_istore_n C d_Ta_advance_195 rfl (by decide) (lv' := [(1, .int (0)), (0, .ref (Z.2.1 (2)))]) rfl ?_
                    refine x_goto C d_Ta_advance_196 92 (by decide) ?_
                    refine x_iload_n C d_Ta_advance_92 0 rfl rfl ?_
                    refine x_ifeq C d_Ta_advance_93 199 (by decide) (fun c_26 => ?_) (fun c_26 => ?_)
                    · refine x_vret C (congrArg (va_up g 5) ?_) d_Ta_advance_199
                      have et : tok (g 6) L e = 3 := (tok_eq (by omega)).trans htk
                      first | (exfalso; omega) | (rw [lexR_rw, show tnd (g 6) L e = (skp (g 6) L e) + 1 by unfold tnd; rw [if_neg (by rw [et]; decide), if_neg (by rw [et]; decide)], show tnm (g 6) L e = 0 by unfold tnm; rw [if_neg (by rw [et]; decide)], et]; rfl)
                    · exact absurd c_26 (by decide)
                  · exact absurd c_25 (by decide)
              · exact absurd c_23 (by decide)
      · skip
        refine x_goto C d_Ta_advance_78 82 (by decide) ?_
        refine pf_Ta_token C (v := nI 4) (G := va_up g 5 (rw4 (g 5) (nI 4) (nI (skp (g 6) L e)) (nI (skp (g 6) L e)) (g 5 5))) (Eq.trans up_va (congrArg (va_up _ _) rw4_2)) k_125 d_Ta_advance_82 ?_
        refine x_aload_n C d_Ta_advance_85 0 rfl rfl ?_
        refine x_iconst C d_Ta_advance_86 (v := 0) (by decide) ?_
        refine pf_Ta_number C (v := 0) (G := va_up g 5 (rw4 (g 5) (nI 4) (nI (skp (g 6) L e)) (nI (skp (g 6) L e)) 0)) (Eq.trans up_va (congrArg (va_up _ _) rw4_5)) k_128 d_Ta_advance_87 ?_
        refine x_iconst C d_Ta_advance_90 (v := 1) (by decide) ?_
        refine x_istore_n C d_Ta_advance_91 rfl (by decide) (lv' := [(1, .int (1)), (0, .ref (Z.2.1 (2)))]) rfl ?_
        refine x_iload_n C d_Ta_advance_92 0 rfl rfl ?_
        refine x_ifeq C d_Ta_advance_93 199 (by decide) (fun c_27 => ?_) (fun c_27 => ?_)
        · exact absurd c_27 (by decide)
        · refine x_aload_n C d_Ta_advance_96 1 rfl rfl ?_
          refine gf_Ta_end C (v := nI (skp (g 6) L e)) (Eq.trans (congrFun (va_up_self _ _ _) _) rfl) k_127 d_Ta_advance_97 ?_
          refine x_aload_n C d_Ta_advance_100 1 rfl rfl ?_
          refine gf_Ta_length C (v := nI L) (Eq.trans (Eq.trans (congrFun (va_up_self _ _ _) _) rfl) h0) k_122 d_Ta_advance_101 ?_
          refine x_icmp_ge C d_Ta_advance_104 199 (by decide) (fun c_28 => ?_) (fun c_28 => ?_)
          · have nc_28 := Int32.not_lt.mpr c_28
            have mc_28 : L ≤ (skp (g 6) L e) := (nI_leI (by omega) (by omega)).mp (show nI L ≤ nI (skp (g 6) L e) from c_28)
            refine x_vret C (congrArg (va_up g 5) ?_) d_Ta_advance_199
            have et : tok (g 6) L e = 4 := (tok_eq (by omega)).trans htk
            first | (exfalso; omega) | (rw [lexR_rw, show tnd (g 6) L e = (skp (g 6) L e) + 1 by unfold tnd; rw [if_neg (by rw [et]; decide), if_neg (by rw [et]; decide)], show tnm (g 6) L e = 0 by unfold tnm; rw [if_neg (by rw [et]; decide)], et]; rfl)
          · have nc_28 := Int32.not_le.mp c_28
            have mc_28 : ¬ L ≤ (skp (g 6) L e) := fun z_ => (show ¬ nI L ≤ nI (skp (g 6) L e) from c_28) ((nI_leI (by omega) (by omega)).mpr z_)
            refine x_aload_n C d_Ta_advance_107 1 rfl rfl ?_
            have hb4 := tkN_4 (g 6 (skp (g 6) L e))
            refine gf_Ta_bytes C k_124 d_Ta_advance_108 ?_
            refine x_aload_n C d_Ta_advance_111 1 rfl rfl ?_
            refine gf_Ta_end C (v := nI (skp (g 6) L e)) (Eq.trans (congrFun (va_up_self _ _ _) _) rfl) k_127 d_Ta_advance_112 ?_
            refine al_by C (skp (g 6) L e) (v := g 6 (skp (g 6) L e)) rfl (by omega) (congrFun (va_up_ne _ _ (by omega)) _) d_Ta_advance_115 ?_
            refine x_callSi C (c_Ta_tokenOf Z (g 6 (skp (g 6) L e)) (va_up g 5 (rw4 (g 5) (nI 4) (nI (skp (g 6) L e)) (nI (skp (g 6) L e)) 0))) mi_Ta_tokenOf k_582 (As := [.int (g 6 (skp (g 6) L e))]) ⟨Nat.le_of_ble_eq_true rfl, Nat.le_of_ble_eq_true rfl⟩ rfl rfl (Nat.le_of_ble_eq_true rfl) d_Ta_advance_116 ?_
            refine x_aload_n C d_Ta_advance_119 1 rfl rfl ?_
            refine gf_Ta_token C (v := nI 4) (Eq.trans (congrFun (va_up_self _ _ _) _) rfl) k_125 d_Ta_advance_120 ?_
            refine x_icmp_ne C d_Ta_advance_123 199 (by decide) (fun c_29 => ?_) (fun c_29 => ?_)
            · have nc_29 := Ne.symm c_29
              have mc_29 : ¬ (tkN (g 6 (skp (g 6) L e))) = 4 := fun z_ => (show ¬ nI (tkN (g 6 (skp (g 6) L e))) = nI 4 from c_29) ((nI_eq (by omega) (by omega)).mpr z_)
              refine x_vret C (congrArg (va_up g 5) ?_) d_Ta_advance_199
              have et : tok (g 6) L e = 4 := (tok_eq (by omega)).trans htk
              first | (exfalso; omega) | (rw [lexR_rw, show tnd (g 6) L e = (skp (g 6) L e) + 1 by unfold tnd; rw [if_neg (by rw [et]; decide), if_neg (by rw [et]; decide)], show tnm (g 6) L e = 0 by unfold tnm; rw [if_neg (by rw [et]; decide)], et]; rfl)
            · have mc_29 : (tkN (g 6 (skp (g 6) L e))) = 4 := (nI_eq (by omega) (by omega)).mp (show nI (tkN (g 6 (skp (g 6) L e))) = nI 4 from c_29)
              refine x_aload_n C d_Ta_advance_126 1 rfl rfl ?_
              refine gf_Ta_token C (v := nI 4) (Eq.trans (congrFun (va_up_self _ _ _) _) rfl) k_125 d_Ta_advance_127 ?_
              refine x_iconst C d_Ta_advance_130 (v := 2) (by decide) ?_
              refine x_icmp_ne C d_Ta_advance_131 164 (by decide) (fun c_30 => ?_) (fun c_30 => ?_)
              · have nc_30 := Ne.symm c_30
                refine x_aload_n C d_Ta_advance_164 1 rfl rfl ?_
                refine x_dup C d_Ta_advance_165 rfl ?_
                refine gf_Ta_end C (v := nI (skp (g 6) L e)) (Eq.trans (congrFun (va_up_self _ _ _) _) rfl) k_127 d_Ta_advance_166 ?_
                refine x_iconst C d_Ta_advance_169 (v := 1) (by decide) ?_
                refine x_iadd C d_Ta_advance_170 ?_
                refine x_topi (x' := nI ((skp (g 6) L e) + 1)) (nI_1 _) ?_
                refine pf_Ta_end C (v := nI ((skp (g 6) L e) + 1)) (G := va_up g 5 (rw4 (g 5) (nI 4) (nI (skp (g 6) L e)) (nI ((skp (g 6) L e) + 1)) 0)) (Eq.trans up_va (congrArg (va_up _ _) rw4_4)) k_127 d_Ta_advance_171 ?_
                refine x_aload_n C d_Ta_advance_174 1 rfl rfl ?_
                refine gf_Ta_token C (v := nI 4) (Eq.trans (congrFun (va_up_self _ _ _) _) rfl) k_125 d_Ta_advance_175 ?_
                refine x_iconst C d_Ta_advance_178 (v := 1) (by decide) ?_
                refine x_icmp_eq C d_Ta_advance_179 190 (by decide) (fun c_31 => ?_) (fun c_31 => ?_)
                · exact absurd c_31 (by decide)
                · have nc_31 := Ne.symm c_31
                  refine x_aload_n C d_Ta_advance_182 1 rfl rfl ?_
                  refine gf_Ta_token C (v := nI 4) (Eq.trans (congrFun (va_up_self _ _ _) _) rfl) k_125 d_Ta_advance_183 ?_
                  refine x_iconst C d_Ta_advance_186 (v := 2) (by decide) ?_
                  refine x_icmp_ne C d_Ta_advance_187 194 (by decide) (fun c_32 => ?_) (fun c_32 => ?_)
                  · have nc_32 := Ne.symm c_32
                    refine x_iconst C d_Ta_advance_194 (v := 0) (by decide) ?_
                    refine x_istore_n C d_Ta_advance_195 rfl (by decide) (lv' := [(1, .int (0)), (0, .ref (Z.2.1 (2)))]) rfl ?_
                    refine x_goto C d_Ta_advance_196 92 (by decide) ?_
                    refine x_iload_n C d_Ta_advance_92 0 rfl rfl ?_
                    refine x_ifeq C d_Ta_advance_93 199 (by decide) (fun c_33 => ?_) (fun c_33 => ?_)
                    · refine x_vret C (congrArg (va_up g 5) ?_) d_Ta_advance_199
                      have et : tok (g 6) L e = 4 := (tok_eq (by omega)).trans htk
                      first | (exfalso; omega) | (rw [lexR_rw, show tnd (g 6) L e = (skp (g 6) L e) + 1 by unfold tnd; rw [if_neg (by rw [et]; decide), if_neg (by rw [et]; decide)], show tnm (g 6) L e = 0 by unfold tnm; rw [if_neg (by rw [et]; decide)], et]; rfl)
                    · exact absurd c_33 (by decide)
                  · exact absurd c_32 (by decide)
              · exact absurd c_30 (by decide)
  refine pf_Ta_begin C (v := nI e) (G := va_up g 5 (rw4 (g 5) (g 5 2) (nI e) (nI e) (g 5 5))) (Eq.trans up_va (congrArg (va_up _ _) rw4_3)) k_126 d_Ta_advance_5 ?_
  have LP_8 : ∀ (f_ i : Nat), i ≤ L - e → (L - e) - i < f_ → (skp (g 6) L (e + i) = skp (g 6) L e) → WX X 2 yC Z (QX X yC Z (QcV yC Z (va_up g 5 (lexR (g 6) (g 5) L e)))) (va_up g 5 (rw4 (g 5) (g 5 2) (nI (e + i)) (nI e) (g 5 5))) 8 [(0, .ref (Z.2.1 (2)))] [] := by
    intro f_
    induction f_ with
    | zero => intro i h1_ h2_ _; exact absurd h2_ (Nat.not_lt_zero _)
    | succ f_ ih_8 =>
      intro i hi_8 hf_8 hy_8
      refine x_aload_n C d_Ta_advance_8 0 rfl rfl ?_
      refine gf_Ta_begin C (v := nI (e + i)) (Eq.trans (congrFun (va_up_self _ _ _) _) rfl) k_126 d_Ta_advance_9 ?_
      refine x_aload_n C d_Ta_advance_12 0 rfl rfl ?_
      refine gf_Ta_length C (v := nI L) (Eq.trans (Eq.trans (congrFun (va_up_self _ _ _) _) rfl) h0) k_122 d_Ta_advance_13 ?_
      refine x_icmp_ge C d_Ta_advance_16 46 (by decide) (fun c_34 => ?_) (fun c_34 => ?_)
      · have nc_34 := Int32.not_lt.mpr c_34
        have mc_34 : L ≤ (e + i) := (nI_leI (by omega) (by omega)).mp (show nI L ≤ nI (e + i) from c_34)
        refine x_eqg (g' := va_up g 5 (rw4 (g 5) (g 5 2) (nI (skp (g 6) L e)) (nI e) (g 5 5))) (by rw [← hy_8, skp_f (by rintro ⟨z1, z2⟩; first | omega | contradiction)]) ?_
        exact J_46
      · have nc_34 := Int32.not_le.mp c_34
        have mc_34 : ¬ L ≤ (e + i) := fun z_ => (show ¬ nI L ≤ nI (e + i) from c_34) ((nI_leI (by omega) (by omega)).mpr z_)
        refine x_aload_n C d_Ta_advance_19 0 rfl rfl ?_
        refine gf_Ta_bytes C k_124 d_Ta_advance_20 ?_
        refine x_aload_n C d_Ta_advance_23 0 rfl rfl ?_
        refine gf_Ta_begin C (v := nI (e + i)) (Eq.trans (congrFun (va_up_self _ _ _) _) rfl) k_126 d_Ta_advance_24 ?_
        refine al_by C (e + i) (v := g 6 (e + i)) rfl (by omega) (congrFun (va_up_ne _ _ (by omega)) _) d_Ta_advance_27 ?_
        refine x_bipush C d_Ta_advance_28 (v := 32) (by decide) ?_
        refine x_icmp_ne C d_Ta_advance_30 46 (by decide) (fun c_35 => ?_) (fun c_35 => ?_)
        · have nc_35 := Ne.symm c_35
          refine x_eqg (g' := va_up g 5 (rw4 (g 5) (g 5 2) (nI (skp (g 6) L e)) (nI e) (g 5 5))) (by rw [← hy_8, skp_f (by rintro ⟨z1, z2⟩; first | omega | contradiction)]) ?_
          exact J_46
        · refine x_aload_n C d_Ta_advance_33 0 rfl rfl ?_
          refine x_dup C d_Ta_advance_34 rfl ?_
          refine gf_Ta_begin C (v := nI (e + i)) (Eq.trans (congrFun (va_up_self _ _ _) _) rfl) k_126 d_Ta_advance_35 ?_
          refine x_iconst C d_Ta_advance_38 (v := 1) (by decide) ?_
          refine x_iadd C d_Ta_advance_39 ?_
          refine x_topi (x' := nI (e + i + 1)) (nI_1 (e + i)) ?_
          refine pf_Ta_begin C (v := nI (e + i + 1)) (G := va_up g 5 (rw4 (g 5) (g 5 2) (nI (e + i + 1)) (nI e) (g 5 5))) (Eq.trans up_va (congrArg (va_up _ _) rw4_3)) k_126 d_Ta_advance_40 ?_
          refine x_goto C d_Ta_advance_43 8 (by decide) ?_
          exact ih_8 (i + 1) (by omega) (by omega) ((skp_t (e := e + i) (by omega) (by assumption)).symm.trans hy_8)
  refine x_eqg (g' := va_up g 5 (rw4 (g 5) (g 5 2) (nI (e + 0)) (nI e) (g 5 5))) rfl ?_
  exact LP_8 (L - e + 1) 0 (Nat.zero_le _) (by omega) rfl
