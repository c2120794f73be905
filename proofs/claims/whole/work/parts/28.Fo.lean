set_option maxRecDepth 100000 in
set_option maxHeartbeats 600000 in
theorem c_Sh_isMissing (Z : ZT) (s : Nat) (hs : s < 4) (g : St)  : CT yC Z y_Sh_isMissing b_Sh_isMissing 1 (some (.boolean)) 0 0 [.ref (Z.2.1 (5 + s))] (g) (QcI yC Z (bI (g (8 + s) 0 = 0)) (g)) := by
  refine CT.mk "TunnelPeace$Sheet" (by decide) rfl (Nat.le_of_ble_eq_true rfl) (fun X C => ?_)
  refine x_lv [0] (lv' := [(0, .ref (Z.2.1 (5 + s)))]) rfl ?_
  refine x_aload_n C d_Sh_isMissing_0 0 rfl rfl ?_
  refine gf_Sh_bits C (by omega) (v := (g (8 + s)) 0) rfl k_150 d_Sh_isMissing_1 ?_
  refine x_ifne C d_Sh_isMissing_4 11 (by decide) (fun c_1 => ?_) (fun c_1 => ?_)
  · refine x_iconst C d_Sh_isMissing_11 (v := 0) (by decide) ?_
    exact x_zret C (by decide) (bI_f (by first | (simp [bI_01, *]; done) | (simp_all [bI_01]; done))).symm rfl d_Sh_isMissing_12
  · refine x_iconst C d_Sh_isMissing_7 (v := 1) (by decide) ?_
    refine x_goto C d_Sh_isMissing_8 12 (by decide) ?_
    exact x_zret C (by decide) (bI_t (by first | (simp [bI_01, *]; done) | (simp_all [bI_01]; done))).symm rfl d_Sh_isMissing_12

set_option maxRecDepth 100000 in
set_option maxHeartbeats 600000 in
theorem c_Sh_begin (Z : ZT) (s : Nat) (hs : s < 4) (b n : Int32) (g : St)  : CT yC Z y_Sh_begin b_Sh_begin 4 none 0 0 [.ref (Z.2.1 (5 + s)), .int (b), .int (n)] (g) (QcV yC Z (va_up (va_up g (8 + s) (upd (upd (g (8 + s)) 0 b) 1 (if b = 0 then 0 else n))) (12 + s) (zerN (g (12 + s)) 40))) := by
  refine CT.mk "TunnelPeace$Sheet" (by decide) rfl (Nat.le_of_ble_eq_true rfl) (fun X C => ?_)
  refine x_lv [0, 1, 2] (lv' := [(0, .ref (Z.2.1 (5 + s))), (1, .int (b)), (2, .int (n))]) rfl ?_
  refine x_aload_n C d_Sh_begin_0 0 rfl rfl ?_
  refine x_iload_n C d_Sh_begin_1 1 rfl rfl ?_
  refine pf_Sh_bits C (by omega) (v := b) (G := va_up g (8 + s) (upd (g (8 + s)) 0 b)) rfl k_150 d_Sh_begin_2 ?_
  refine x_aload_n C d_Sh_begin_5 0 rfl rfl ?_
  refine x_iload_n C d_Sh_begin_6 1 rfl rfl ?_
  refine x_ifne C d_Sh_begin_7 14 (by decide) (fun c_1 => ?_) (fun c_1 => ?_)
  · refine x_iload_n C d_Sh_begin_14 2 rfl rfl ?_
    refine pf_Sh_length C (by omega) (v := n) (G := va_up g (8 + s) (upd (upd (g (8 + s)) 0 b) 1 n)) up_va k_152 d_Sh_begin_15 ?_
    refine x_iconst C d_Sh_begin_18 (v := 0) (by decide) ?_
    refine x_topi (show (0 : Int32) = nI 0 by decide) ?_
    refine x_istore_n C d_Sh_begin_19 rfl (by decide) (lv' := [(3, .int (nI 0)), (0, .ref (Z.2.1 (5 + s))), (1, .int (b)), (2, .int (n))]) rfl ?_
    have LP_20 : ∀ (f_ i : Nat), i ≤ 40 → 40 - i < f_ → WX X 4 yC Z (QX X yC Z (QcV yC Z (va_up (va_up g (8 + s) (upd (upd (g (8 + s)) 0 b) 1 (if b = 0 then 0 else n))) (12 + s) (zerN (g (12 + s)) 40)))) (va_up (va_up g (8 + s) (upd (upd (g (8 + s)) 0 b) 1 (if b = 0 then 0 else n))) (12 + s) (zerN (g (12 + s)) (i))) 20 [(3, .int (nI i)), (0, .ref (Z.2.1 (5 + s)))] [] := by
      intro f_
      induction f_ with
      | zero => intro i h1_ h2_; exact absurd h2_ (Nat.not_lt_zero _)
      | succ f_ ih_20 =>
        intro i hi_20 hf_20
        refine x_iload_n C d_Sh_begin_20 0 rfl rfl ?_
        refine x_bipush C d_Sh_begin_21 (v := 40) (by decide) ?_
        refine x_icmp_ge C d_Sh_begin_23 39 (by decide) (fun c_2 => ?_) (fun c_2 => ?_)
        · have nc_2 := Int32.not_lt.mpr c_2
          have mc_2 : 40 ≤ i := (nI_leI (by omega) (by omega)).mp (show nI 40 ≤ nI i from c_2)
          have e_i : 40 = i := by omega
          subst e_i
          exact x_vret C (by simp_all) d_Sh_begin_39
        · have nc_2 := Int32.not_le.mp c_2
          have mc_2 : ¬ 40 ≤ i := fun z_ => (show ¬ nI 40 ≤ nI i from c_2) ((nI_leI (by omega) (by omega)).mpr z_)
          refine x_aload_n C d_Sh_begin_26 1 rfl rfl ?_
          refine gf_Sh_numbers C (by omega) k_155 d_Sh_begin_27 ?_
          refine x_iload_n C d_Sh_begin_30 0 rfl rfl ?_
          refine x_iconst C d_Sh_begin_31 (v := 0) (by decide) ?_
          refine as_nu C (by omega) i (v := 0) rfl (by omega) (G := va_up (va_up g (8 + s) (upd (upd (g (8 + s)) 0 b) 1 (if b = 0 then 0 else n))) (12 + s) (upd (zerN (g (12 + s)) (i)) i 0)) up_va d_Sh_begin_32 ?_
          refine x_iinc C d_Sh_begin_33 0 rfl (v := nI (i + 1)) (nI_1 _) (by decide) (lv' := [(3, .int (nI (i + 1))), (0, .ref (Z.2.1 (5 + s)))]) rfl ?_
          refine x_goto C d_Sh_begin_36 20 (by decide) ?_
          refine x_eqg (g' := va_up (va_up g (8 + s) (upd (upd (g (8 + s)) 0 b) 1 (if b = 0 then 0 else n))) (12 + s) (zerN (g (12 + s)) (i + 1))) rfl ?_
          exact ih_20 (i + 1) (by omega) (by omega)
    refine x_lv [0, 1] (lv' := [(3, .int (nI 0)), (0, .ref (Z.2.1 (5 + s)))]) rfl ?_
    refine x_eqg (g' := va_up (va_up g (8 + s) (upd (upd (g (8 + s)) 0 b) 1 (if b = 0 then 0 else n))) (12 + s) (zerN (g (12 + s)) (0))) (by (first | rw [if_pos (by assumption)] | rw [if_neg (by assumption)]); exact (va_idn (by omega)).symm) ?_
    exact LP_20 (40 + 1) 0 (Nat.zero_le _) (by omega)
  · refine x_iconst C d_Sh_begin_10 (v := 0) (by decide) ?_
    refine x_goto C d_Sh_begin_11 15 (by decide) ?_
    refine pf_Sh_length C (by omega) (v := 0) (G := va_up g (8 + s) (upd (upd (g (8 + s)) 0 b) 1 0)) up_va k_152 d_Sh_begin_15 ?_
    refine x_iconst C d_Sh_begin_18 (v := 0) (by decide) ?_
    refine x_topi (show (0 : Int32) = nI 0 by decide) ?_
    refine x_istore_n C d_Sh_begin_19 rfl (by decide) (lv' := [(3, .int (nI 0)), (0, .ref (Z.2.1 (5 + s))), (1, .int (b)), (2, .int (n))]) rfl ?_
    have LP_20 : ∀ (f_ i : Nat), i ≤ 40 → 40 - i < f_ → WX X 4 yC Z (QX X yC Z (QcV yC Z (va_up (va_up g (8 + s) (upd (upd (g (8 + s)) 0 b) 1 (if b = 0 then 0 else n))) (12 + s) (zerN (g (12 + s)) 40)))) (va_up (va_up g (8 + s) (upd (upd (g (8 + s)) 0 b) 1 (if b = 0 then 0 else n))) (12 + s) (zerN (g (12 + s)) (i))) 20 [(3, .int (nI i)), (0, .ref (Z.2.1 (5 + s)))] [] := by
      intro f_
      induction f_ with
      | zero => intro i h1_ h2_; exact absurd h2_ (Nat.not_lt_zero _)
      | succ f_ ih_20 =>
        intro i hi_20 hf_20
        refine x_iload_n C d_Sh_begin_20 0 rfl rfl ?_
        refine x_bipush C d_Sh_begin_21 (v := 40) (by decide) ?_
        refine x_icmp_ge C d_Sh_begin_23 39 (by decide) (fun c_3 => ?_) (fun c_3 => ?_)
        · have nc_3 := Int32.not_lt.mpr c_3
          have mc_3 : 40 ≤ i := (nI_leI (by omega) (by omega)).mp (show nI 40 ≤ nI i from c_3)
          have e_i : 40 = i := by omega
          subst e_i
          exact x_vret C (by simp_all) d_Sh_begin_39
        · have nc_3 := Int32.not_le.mp c_3
          have mc_3 : ¬ 40 ≤ i := fun z_ => (show ¬ nI 40 ≤ nI i from c_3) ((nI_leI (by omega) (by omega)).mpr z_)
          refine x_aload_n C d_Sh_begin_26 1 rfl rfl ?_
          refine gf_Sh_numbers C (by omega) k_155 d_Sh_begin_27 ?_
          refine x_iload_n C d_Sh_begin_30 0 rfl rfl ?_
          refine x_iconst C d_Sh_begin_31 (v := 0) (by decide) ?_
          refine as_nu C (by omega) i (v := 0) rfl (by omega) (G := va_up (va_up g (8 + s) (upd (upd (g (8 + s)) 0 b) 1 (if b = 0 then 0 else n))) (12 + s) (upd (zerN (g (12 + s)) (i)) i 0)) up_va d_Sh_begin_32 ?_
          refine x_iinc C d_Sh_begin_33 0 rfl (v := nI (i + 1)) (nI_1 _) (by decide) (lv' := [(3, .int (nI (i + 1))), (0, .ref (Z.2.1 (5 + s)))]) rfl ?_
          refine x_goto C d_Sh_begin_36 20 (by decide) ?_
          refine x_eqg (g' := va_up (va_up g (8 + s) (upd (upd (g (8 + s)) 0 b) 1 (if b = 0 then 0 else n))) (12 + s) (zerN (g (12 + s)) (i + 1))) rfl ?_
          exact ih_20 (i + 1) (by omega) (by omega)
    refine x_lv [0, 1] (lv' := [(3, .int (nI 0)), (0, .ref (Z.2.1 (5 + s)))]) rfl ?_
    refine x_eqg (g' := va_up (va_up g (8 + s) (upd (upd (g (8 + s)) 0 b) 1 (if b = 0 then 0 else n))) (12 + s) (zerN (g (12 + s)) (0))) (by (first | rw [if_pos (by assumption)] | rw [if_neg (by assumption)]); exact (va_idn (by omega)).symm) ?_
    exact LP_20 (40 + 1) 0 (Nat.zero_le _) (by omega)

set_option maxRecDepth 100000 in
set_option maxHeartbeats 600000 in
theorem c_Sh_put (Z : ZT) (s : Nat) (hs : s < 4) (i : Nat) (hi : i < 40) (v : Int32) (g : St)  : CT yC Z y_Sh_put b_Sh_put 3 none 0 0 [.ref (Z.2.1 (5 + s)), .int (nI i), .int (v)] (g) (QcV yC Z (va_up g (12 + s) (upd (g (12 + s)) i (cutv (g (8 + s) 0) v)))) := by
  refine CT.mk "TunnelPeace$Sheet" (by decide) rfl (Nat.le_of_ble_eq_true rfl) (fun X C => ?_)
  refine x_lv [0, 1, 2] (lv' := [(0, .ref (Z.2.1 (5 + s))), (1, .int (nI i)), (2, .int (v))]) rfl ?_
  refine x_aload_n C d_Sh_put_0 0 rfl rfl ?_
  refine gf_Sh_bits C (by omega) (v := (g (8 + s)) 0) rfl k_150 d_Sh_put_1 ?_
  by_cases c_1 : (g (8 + s)) 0 = 8
  · refine x_look C d_Sh_put_4 (by decide) (off := 28) (by rw [c_1]; decide) 32 (by decide) ?_
    refine x_aload_n C d_Sh_put_32 0 rfl rfl ?_
    refine gf_Sh_numbers C (by omega) k_155 d_Sh_put_33 ?_
    refine x_iload_n C d_Sh_put_36 1 rfl rfl ?_
    refine x_iload_n C d_Sh_put_37 2 rfl rfl ?_
    refine x_i2b C d_Sh_put_38 ?_
    refine as_nu C (by omega) i (v := v.toInt8.toInt32) rfl (by omega) (G := va_up g (12 + s) (upd (g (12 + s)) i v.toInt8.toInt32)) rfl d_Sh_put_39 ?_
    refine x_goto C d_Sh_put_40 61 (by decide) ?_
    exact x_vret C (by simp [cutv, *]) d_Sh_put_61
  by_cases c_2 : (g (8 + s)) 0 = 16
  · refine x_look C d_Sh_put_4 (by decide) (off := 39) (by rw [c_2]; decide) 43 (by decide) ?_
    refine x_aload_n C d_Sh_put_43 0 rfl rfl ?_
    refine gf_Sh_numbers C (by omega) k_155 d_Sh_put_44 ?_
    refine x_iload_n C d_Sh_put_47 1 rfl rfl ?_
    refine x_iload_n C d_Sh_put_48 2 rfl rfl ?_
    refine x_i2s C d_Sh_put_49 ?_
    refine as_nu C (by omega) i (v := v.toInt16.toInt32) rfl (by omega) (G := va_up g (12 + s) (upd (g (12 + s)) i v.toInt16.toInt32)) rfl d_Sh_put_50 ?_
    refine x_goto C d_Sh_put_51 61 (by decide) ?_
    exact x_vret C (by simp [cutv, *]) d_Sh_put_61
  · refine x_look C d_Sh_put_4 (by decide) (off := 50) (by rw [lv_osw c_1 (by decide), lv_osw c_2 (by decide)]; rfl) 54 (by decide) ?_
    refine x_aload_n C d_Sh_put_54 0 rfl rfl ?_
    refine gf_Sh_numbers C (by omega) k_155 d_Sh_put_55 ?_
    refine x_iload_n C d_Sh_put_58 1 rfl rfl ?_
    refine x_iload_n C d_Sh_put_59 2 rfl rfl ?_
    refine as_nu C (by omega) i (v := v) rfl (by omega) (G := va_up g (12 + s) (upd (g (12 + s)) i v)) rfl d_Sh_put_60 ?_
    exact x_vret C (by simp [cutv, *]) d_Sh_put_61

set_option maxRecDepth 100000 in
set_option maxHeartbeats 600000 in
theorem c_Sh_hasRange (Z : ZT) (s : Nat) (hs : s < 4) (f n : Int32) (g : St)  : CT yC Z y_Sh_hasRange b_Sh_hasRange 3 (some (.boolean)) 0 0 [.ref (Z.2.1 (5 + s)), .int (f), .int (n)] (g) (QcI yC Z (bI (0 ≤ f ∧ 0 ≤ n ∧ f ≤ g (8 + s) 1 ∧ n ≤ g (8 + s) 1 - f)) (g)) := by
  refine CT.mk "TunnelPeace$Sheet" (by decide) rfl (Nat.le_of_ble_eq_true rfl) (fun X C => ?_)
  refine x_lv [0, 1, 2] (lv' := [(0, .ref (Z.2.1 (5 + s))), (1, .int (f)), (2, .int (n))]) rfl ?_
  refine x_iload_n C d_Sh_hasRange_0 1 rfl rfl ?_
  refine x_iflt C d_Sh_hasRange_1 30 (by decide) (fun c_1 => ?_) (fun c_1 => ?_)
  · have nc_1 := Int32.not_le.mpr c_1
    refine x_iconst C d_Sh_hasRange_30 (v := 0) (by decide) ?_
    exact x_zret C (by decide) (bI_f (by first | (simp [bI_01, *]; done) | (simp_all [bI_01]; done))).symm rfl d_Sh_hasRange_31
  · have nc_1 := Int32.not_lt.mp c_1
    refine x_iload_n C d_Sh_hasRange_4 2 rfl rfl ?_
    refine x_iflt C d_Sh_hasRange_5 30 (by decide) (fun c_2 => ?_) (fun c_2 => ?_)
    · have nc_2 := Int32.not_le.mpr c_2
      refine x_iconst C d_Sh_hasRange_30 (v := 0) (by decide) ?_
      exact x_zret C (by decide) (bI_f (by first | (simp [bI_01, *]; done) | (simp_all [bI_01]; done))).symm rfl d_Sh_hasRange_31
    · have nc_2 := Int32.not_lt.mp c_2
      refine x_iload_n C d_Sh_hasRange_8 1 rfl rfl ?_
      refine x_aload_n C d_Sh_hasRange_9 0 rfl rfl ?_
      refine gf_Sh_length C (by omega) (v := (g (8 + s)) 1) rfl k_152 d_Sh_hasRange_10 ?_
      refine x_icmp_gt C d_Sh_hasRange_13 30 (by decide) (fun c_3 => ?_) (fun c_3 => ?_)
      · have nc_3 := Int32.not_le.mpr c_3
        refine x_iconst C d_Sh_hasRange_30 (v := 0) (by decide) ?_
        exact x_zret C (by decide) (bI_f (by first | (simp [bI_01, *]; done) | (simp_all [bI_01]; done))).symm rfl d_Sh_hasRange_31
      · have nc_3 := Int32.not_lt.mp c_3
        refine x_iload_n C d_Sh_hasRange_16 2 rfl rfl ?_
        refine x_aload_n C d_Sh_hasRange_17 0 rfl rfl ?_
        refine gf_Sh_length C (by omega) (v := (g (8 + s)) 1) rfl k_152 d_Sh_hasRange_18 ?_
        refine x_iload_n C d_Sh_hasRange_21 1 rfl rfl ?_
        refine x_isub C d_Sh_hasRange_22 ?_
        refine x_icmp_gt C d_Sh_hasRange_23 30 (by decide) (fun c_4 => ?_) (fun c_4 => ?_)
        · have nc_4 := Int32.not_le.mpr c_4
          refine x_iconst C d_Sh_hasRange_30 (v := 0) (by decide) ?_
          exact x_zret C (by decide) (bI_f (by first | (simp [bI_01, *]; done) | (simp_all [bI_01]; done))).symm rfl d_Sh_hasRange_31
        · have nc_4 := Int32.not_lt.mp c_4
          refine x_iconst C d_Sh_hasRange_26 (v := 1) (by decide) ?_
          refine x_goto C d_Sh_hasRange_27 31 (by decide) ?_
          exact x_zret C (by decide) (bI_t (by first | (simp [bI_01, *]; done) | (simp_all [bI_01]; done))).symm rfl d_Sh_hasRange_31

theorem okR_out {s : Int32} {r : Nat → Int32} {k : Nat} (h : okR r) : okR (outN s r k) := by
  unfold okR
  rw [outN_hd (by omega), outN_hd (by omega)]
  exact h

set_option maxRecDepth 100000 in
set_option maxHeartbeats 600000 in
theorem c_Fo_behind (Z : ZT) (m : Nat) (hm : m < 2 ^ 31) (g : St)  (hk : okR (g 0)) : CT yC Z y_Fo_behind b_Fo_behind 2 (some (.object "TunnelPeace$Tunnel")) 5 116 [.ref (Z.2.1 (1)), .int (nI m)] (g) (QcR yC Z (Z.2.1 (14 + 12 * 1)) (va_up g 1 (dysR (becR (g 1) (g 0)) m))) := by
  refine CT.mk "TunnelPeace$Forecast" (by decide) rfl (Nat.le_of_ble_eq_true rfl) (fun X C => ?_)
  refine x_lv [0, 1] (lv' := [(0, .ref (Z.2.1 (1))), (1, .int (nI m))]) rfl ?_
  have hk0 := hk
  obtain ⟨⟨n, hn8, hn⟩, dd, hdd, hd⟩ := hk
  refine x_aload_n C d_Fo_behind_0 0 rfl rfl ?_
  refine gf_Fo_trial C k_110 d_Fo_behind_1 ?_
  refine x_aload_n C d_Fo_behind_4 0 rfl rfl ?_
  refine gf_Fo_now C k_109 d_Fo_behind_5 ?_
  refine x_callVv C (c_Tu_become Z 1 0 (by omega) (by omega) (by omega) (g) _ rfl _ rfl hk0) mi_Tu_become k_380 (show 14 + 12 * 1 < 50 by omega) (e_Tu Z 1 _) rfl (As := [.ref (Z.2.1 (14 + 12 * 0))]) ⟨Nat.le_of_ble_eq_true rfl, Nat.le_of_ble_eq_true rfl⟩ rfl rfl (Nat.le_of_ble_eq_true rfl) d_Fo_behind_8 ?_
  refine x_aload_n C d_Fo_behind_11 0 rfl rfl ?_
  refine gf_Fo_trial C k_110 d_Fo_behind_12 ?_
  refine x_iload_n C d_Fo_behind_15 1 rfl rfl ?_
  refine x_callVv C (c_Tu_passDays Z 1 (by omega) m (by omega) (va_up g 1 (becR (g 1) (g 0))) _ (va_up_self _ _ _) (okR_bec hk0)) mi_Tu_passDays k_391 (show 14 + 12 * 1 < 50 by omega) (e_Tu Z 1 _) rfl (As := [.int (nI m)]) ⟨Nat.le_of_ble_eq_true rfl, Nat.le_of_ble_eq_true rfl⟩ rfl rfl (Nat.le_of_ble_eq_true rfl) d_Fo_behind_16 ?_
  refine x_eqg (g' := va_up g 1 (dysR (becR (g 1) (g 0)) m)) (bx_uu _ _ _ _) ?_
  refine x_aload_n C d_Fo_behind_19 0 rfl rfl ?_
  refine gf_Fo_trial C k_110 d_Fo_behind_20 ?_
  exact x_aret C rfl rfl d_Fo_behind_23

set_option maxRecDepth 100000 in
set_option maxHeartbeats 600000 in
theorem c_Fo_tryWith (Z : ZT) (p f : Nat) (hp : p < 8) (hf : f < 6) (v : Int32) (g : St)  (hk : okR (g 0)) : CT yC Z y_Fo_tryWith b_Fo_tryWith 4 none 2 48 [.ref (Z.2.1 (1)), .int (nI p), .int (nI f), .int (v)] (g) (QcV yC Z (va_up g 1 (upd (becR (g 1) (g 0)) (pI p f) v))) := by
  refine CT.mk "TunnelPeace$Forecast" (by decide) rfl (Nat.le_of_ble_eq_true rfl) (fun X C => ?_)
  refine x_lv [0, 1, 2, 3] (lv' := [(0, .ref (Z.2.1 (1))), (1, .int (nI p)), (2, .int (nI f)), (3, .int (v))]) rfl ?_
  have hk0 := hk
  obtain ⟨⟨n, hn8, hn⟩, dd, hdd, hd⟩ := hk
  refine x_aload_n C d_Fo_tryWith_0 0 rfl rfl ?_
  refine gf_Fo_trial C k_110 d_Fo_tryWith_1 ?_
  refine x_aload_n C d_Fo_tryWith_4 0 rfl rfl ?_
  refine gf_Fo_now C k_109 d_Fo_tryWith_5 ?_
  refine x_callVv C (c_Tu_become Z 1 0 (by omega) (by omega) (by omega) (g) _ rfl _ rfl hk0) mi_Tu_become k_380 (show 14 + 12 * 1 < 50 by omega) (e_Tu Z 1 _) rfl (As := [.ref (Z.2.1 (14 + 12 * 0))]) ⟨Nat.le_of_ble_eq_true rfl, Nat.le_of_ble_eq_true rfl⟩ rfl rfl (Nat.le_of_ble_eq_true rfl) d_Fo_tryWith_8 ?_
  refine x_aload_n C d_Fo_tryWith_11 0 rfl rfl ?_
  refine gf_Fo_trial C k_110 d_Fo_tryWith_12 ?_
  refine gf_Tu_people C (by omega) k_82 d_Fo_tryWith_15 ?_
  refine x_iload_n C d_Fo_tryWith_18 1 rfl rfl ?_
  refine al_pp C (by omega) p rfl (by omega) d_Fo_tryWith_19 ?_
  refine x_iload_n C d_Fo_tryWith_20 2 rfl rfl ?_
  refine x_iload_n C d_Fo_tryWith_21 3 rfl rfl ?_
  refine x_callVv C (c_Pe_set Z 1 p (by omega) (by omega) f (by omega) v (va_up g 1 (becR (g 1) (g 0))) _ (va_up_self _ _ _)) mi_Pe_set k_447 (show 18 + 12 * 1 + p < 50 by omega) (e_Pe Z 1 (by omega) _) rfl (As := [.int (nI f), .int (v)]) ⟨Nat.le_of_ble_eq_true rfl, Nat.le_of_ble_eq_true rfl⟩ rfl rfl (Nat.le_of_ble_eq_true rfl) d_Fo_tryWith_22 ?_
  refine x_eqg (g' := va_up g 1 (upd (becR (g 1) (g 0)) (pI p f) v)) (bx_uu _ _ _ _) ?_
  exact x_vret C rfl d_Fo_tryWith_25

set_option maxRecDepth 100000 in
set_option maxHeartbeats 600000 in
theorem c_Fo_daysTillGuns (Z : ZT) (v : Int32) (g : St)  (hk : okR (g 0)) : CT yC Z y_Fo_daysTillGuns b_Fo_daysTillGuns 3 (some (.int)) 4 94 [.ref (Z.2.1 (1)), .int (v)] (g) (QkI yC Z (oI (fdo (fun i_ => decide (dysR (g 0) i_ 3 ≤ v)) 201 0)) (fun u => ∃ ρ : Nat → Int32, u = va_up g 1 ρ)) := by
  refine CT.mk "TunnelPeace$Forecast" (by decide) rfl (Nat.le_of_ble_eq_true rfl) (fun X C => ?_)
  refine x_lv [0, 1] (lv' := [(0, .ref (Z.2.1 (1))), (1, .int (v))]) rfl ?_
  have hk0 := hk
  obtain ⟨⟨n, hn8, hn⟩, dd, hdd, hd⟩ := hk
  refine x_aload_n C d_Fo_daysTillGuns_0 0 rfl rfl ?_
  refine gf_Fo_trial C k_110 d_Fo_daysTillGuns_1 ?_
  refine x_aload_n C d_Fo_daysTillGuns_4 0 rfl rfl ?_
  refine gf_Fo_now C k_109 d_Fo_daysTillGuns_5 ?_
  refine x_callVv C (c_Tu_become Z 1 0 (by omega) (by omega) (by omega) (g) _ rfl _ rfl hk0) mi_Tu_become k_380 (show 14 + 12 * 1 < 50 by omega) (e_Tu Z 1 _) rfl (As := [.ref (Z.2.1 (14 + 12 * 0))]) ⟨Nat.le_of_ble_eq_true rfl, Nat.le_of_ble_eq_true rfl⟩ rfl rfl (Nat.le_of_ble_eq_true rfl) d_Fo_daysTillGuns_8 ?_
  refine x_iconst C d_Fo_daysTillGuns_11 (v := 0) (by decide) ?_
  refine x_topi (show (0 : Int32) = nI 0 by decide) ?_
  refine x_istore_n C d_Fo_daysTillGuns_12 rfl (by decide) (lv' := [(2, .int (nI 0)), (0, .ref (Z.2.1 (1))), (1, .int (v))]) rfl ?_
  have LP_13 : ∀ (f_ i : Nat), i ≤ 201 → 201 - i < f_ → (fdo (fun i_ => decide (dysR (g 0) i_ 3 ≤ v)) 201 0 = fdo (fun i_ => decide (dysR (g 0) i_ 3 ≤ v)) (201 - i) i) → WX X 3 yC Z (QX X yC Z (QkI yC Z (oI (fdo (fun i_ => decide (dysR (g 0) i_ 3 ≤ v)) 201 0)) (fun u => ∃ ρ : Nat → Int32, u = va_up g 1 ρ))) (va_up g 1 (dysR (becR (g 1) (g 0)) (i))) 13 [(2, .int (nI i)), (0, .ref (Z.2.1 (1))), (1, .int (v))] [] := by
    intro f_
    induction f_ with
    | zero => intro i h1_ h2_ _; exact absurd h2_ (Nat.not_lt_zero _)
    | succ f_ ih_13 =>
      intro i hi_13 hf_13 hy_13
      refine x_iload_n C d_Fo_daysTillGuns_13 0 rfl rfl ?_
      refine x_sipush C d_Fo_daysTillGuns_14 (v := 200) (by decide) ?_
      refine x_icmp_gt C d_Fo_daysTillGuns_17 46 (by decide) (fun c_1 => ?_) (fun c_1 => ?_)
      · have nc_1 := Int32.not_le.mpr c_1
        have mc_1 : 200 < i := (nI_ltI (by omega) (by omega)).mp (show nI 200 < nI i from c_1)
        have e_i : 201 = i := by omega
        subst e_i
        refine x_iconst C d_Fo_daysTillGuns_46 (v := -1) (by decide) ?_
        exact x_iretK C (by rw [hy_13, Nat.sub_self]; rfl) ⟨_, rfl⟩ d_Fo_daysTillGuns_47
      · have nc_1 := Int32.not_lt.mp c_1
        have mc_1 : ¬ 200 < i := fun z_ => (show ¬ nI 200 < nI i from c_1) ((nI_ltI (by omega) (by omega)).mpr z_)
        refine x_aload_n C d_Fo_daysTillGuns_20 1 rfl rfl ?_
        refine gf_Fo_trial C k_110 d_Fo_daysTillGuns_21 ?_
        refine gf_Tu_guns C (by omega) (v := dysR (g 0) (i) 3) (Eq.trans (congrFun (va_up_self _ _ _) _) (bec_days0.hd (by decide))) k_70 d_Fo_daysTillGuns_24 ?_
        refine x_iload_n C d_Fo_daysTillGuns_27 2 rfl rfl ?_
        refine x_icmp_gt C d_Fo_daysTillGuns_28 33 (by decide) (fun c_2 => ?_) (fun c_2 => ?_)
        · have nc_2 := Int32.not_le.mpr c_2
          refine x_aload_n C d_Fo_daysTillGuns_33 1 rfl rfl ?_
          refine gf_Fo_trial C k_110 d_Fo_daysTillGuns_34 ?_
          refine x_callVv C (c_Tu_passDay Z 1 (by omega) (va_up g 1 (dysR (becR (g 1) (g 0)) (i))) _ (va_up_self _ _ _) (okR_dys (okR_bec hk0) _)) mi_Tu_passDay k_404 (show 14 + 12 * 1 < 50 by omega) (e_Tu Z 1 _) rfl (As := []) ⟨Nat.le_of_ble_eq_true rfl, Nat.le_of_ble_eq_true rfl⟩ rfl rfl (Nat.le_of_ble_eq_true rfl) d_Fo_daysTillGuns_37 ?_
          refine x_eqg (g' := va_up g 1 (dayR (dysR (becR (g 1) (g 0)) (i)))) (bx_uu _ _ _ _) ?_
          refine x_iinc C d_Fo_daysTillGuns_40 0 rfl (v := nI (i + 1)) (nI_1 _) (by decide) (lv' := [(2, .int (nI (i + 1))), (0, .ref (Z.2.1 (1))), (1, .int (v))]) rfl ?_
          refine x_goto C d_Fo_daysTillGuns_43 13 (by decide) ?_
          refine x_eqg (g' := va_up g 1 (dysR (becR (g 1) (g 0)) (i + 1))) rfl ?_
          exact ih_13 (i + 1) (by omega) (by omega) (hy_13.trans (fdo_n (by omega) (by simp [*])))
        · have nc_2 := Int32.not_lt.mp c_2
          refine x_iload_n C d_Fo_daysTillGuns_31 0 rfl rfl ?_
          exact x_iretK C (by rw [hy_13, fdo_t (by omega) (by simp [*])]; rfl) ⟨_, rfl⟩ d_Fo_daysTillGuns_32
  refine x_eqg (g' := va_up g 1 (dysR (becR (g 1) (g 0)) (0))) rfl ?_
  exact LP_13 (201 + 1) 0 (Nat.zero_le _) (by omega) rfl

set_option maxRecDepth 100000 in
set_option maxHeartbeats 600000 in
theorem c_Fo_daysTillMet (Z : ZT) (p : Nat) (v : Int32) (g : St)  (hk : okR (g 0)) (hp : p < sz (g 0)) (hp8 : p < 8) : CT yC Z y_Fo_daysTillMet b_Fo_daysTillMet 4 (some (.int)) 4 94 [.ref (Z.2.1 (1)), .int (nI p), .int (v)] (g) (QkI yC Z (oI (fdo (fun i_ => decide (v ≤ dysR (g 0) i_ (pI p 5))) 201 0)) (fun u => ∃ ρ : Nat → Int32, u = va_up g 1 ρ)) := by
  refine CT.mk "TunnelPeace$Forecast" (by decide) rfl (Nat.le_of_ble_eq_true rfl) (fun X C => ?_)
  refine x_lv [0, 1, 2] (lv' := [(0, .ref (Z.2.1 (1))), (1, .int (nI p)), (2, .int (v))]) rfl ?_
  have hk0 := hk
  obtain ⟨⟨n, hn8, hn⟩, dd, hdd, hd⟩ := hk
  have hps : p < sz (g 0) := hp
  refine x_aload_n C d_Fo_daysTillMet_0 0 rfl rfl ?_
  refine gf_Fo_trial C k_110 d_Fo_daysTillMet_1 ?_
  refine x_aload_n C d_Fo_daysTillMet_4 0 rfl rfl ?_
  refine gf_Fo_now C k_109 d_Fo_daysTillMet_5 ?_
  refine x_callVv C (c_Tu_become Z 1 0 (by omega) (by omega) (by omega) (g) _ rfl _ rfl hk0) mi_Tu_become k_380 (show 14 + 12 * 1 < 50 by omega) (e_Tu Z 1 _) rfl (As := [.ref (Z.2.1 (14 + 12 * 0))]) ⟨Nat.le_of_ble_eq_true rfl, Nat.le_of_ble_eq_true rfl⟩ rfl rfl (Nat.le_of_ble_eq_true rfl) d_Fo_daysTillMet_8 ?_
  refine x_iconst C d_Fo_daysTillMet_11 (v := 0) (by decide) ?_
  refine x_topi (show (0 : Int32) = nI 0 by decide) ?_
  refine x_istore_n C d_Fo_daysTillMet_12 rfl (by decide) (lv' := [(3, .int (nI 0)), (0, .ref (Z.2.1 (1))), (1, .int (nI p)), (2, .int (v))]) rfl ?_
  have LP_13 : ∀ (f_ i : Nat), i ≤ 201 → 201 - i < f_ → (fdo (fun i_ => decide (v ≤ dysR (g 0) i_ (pI p 5))) 201 0 = fdo (fun i_ => decide (v ≤ dysR (g 0) i_ (pI p 5))) (201 - i) i) → WX X 4 yC Z (QX X yC Z (QkI yC Z (oI (fdo (fun i_ => decide (v ≤ dysR (g 0) i_ (pI p 5))) 201 0)) (fun u => ∃ ρ : Nat → Int32, u = va_up g 1 ρ))) (va_up g 1 (dysR (becR (g 1) (g 0)) (i))) 13 [(3, .int (nI i)), (0, .ref (Z.2.1 (1))), (1, .int (nI p)), (2, .int (v))] [] := by
    intro f_
    induction f_ with
    | zero => intro i h1_ h2_ _; exact absurd h2_ (Nat.not_lt_zero _)
    | succ f_ ih_13 =>
      intro i hi_13 hf_13 hy_13
      refine x_iload_n C d_Fo_daysTillMet_13 0 rfl rfl ?_
      refine x_sipush C d_Fo_daysTillMet_14 (v := 200) (by decide) ?_
      refine x_icmp_gt C d_Fo_daysTillMet_17 51 (by decide) (fun c_1 => ?_) (fun c_1 => ?_)
      · have nc_1 := Int32.not_le.mpr c_1
        have mc_1 : 200 < i := (nI_ltI (by omega) (by omega)).mp (show nI 200 < nI i from c_1)
        have e_i : 201 = i := by omega
        subst e_i
        refine x_iconst C d_Fo_daysTillMet_51 (v := -1) (by decide) ?_
        exact x_iretK C (by rw [hy_13, Nat.sub_self]; rfl) ⟨_, rfl⟩ d_Fo_daysTillMet_52
      · have nc_1 := Int32.not_lt.mp c_1
        have mc_1 : ¬ 200 < i := fun z_ => (show ¬ nI 200 < nI i from c_1) ((nI_ltI (by omega) (by omega)).mpr z_)
        refine x_aload_n C d_Fo_daysTillMet_20 1 rfl rfl ?_
        refine gf_Fo_trial C k_110 d_Fo_daysTillMet_21 ?_
        refine gf_Tu_people C (by omega) k_82 d_Fo_daysTillMet_24 ?_
        refine x_iload_n C d_Fo_daysTillMet_27 2 rfl rfl ?_
        refine al_pp C (by omega) p rfl (by omega) d_Fo_daysTillMet_28 ?_
        refine gf_Pe_met C (by omega) (by omega) (v := dysR (g 0) (i) (pI p 5)) (Eq.trans (congrFun (va_up_self _ _ _) _) (bec_days0.at hps (by decide))) k_50 d_Fo_daysTillMet_29 ?_
        refine x_iload_n C d_Fo_daysTillMet_32 3 rfl rfl ?_
        refine x_icmp_lt C d_Fo_daysTillMet_33 38 (by decide) (fun c_2 => ?_) (fun c_2 => ?_)
        · have nc_2 := Int32.not_le.mpr c_2
          refine x_aload_n C d_Fo_daysTillMet_38 1 rfl rfl ?_
          refine gf_Fo_trial C k_110 d_Fo_daysTillMet_39 ?_
          refine x_callVv C (c_Tu_passDay Z 1 (by omega) (va_up g 1 (dysR (becR (g 1) (g 0)) (i))) _ (va_up_self _ _ _) (okR_dys (okR_bec hk0) _)) mi_Tu_passDay k_404 (show 14 + 12 * 1 < 50 by omega) (e_Tu Z 1 _) rfl (As := []) ⟨Nat.le_of_ble_eq_true rfl, Nat.le_of_ble_eq_true rfl⟩ rfl rfl (Nat.le_of_ble_eq_true rfl) d_Fo_daysTillMet_42 ?_
          refine x_eqg (g' := va_up g 1 (dayR (dysR (becR (g 1) (g 0)) (i)))) (bx_uu _ _ _ _) ?_
          refine x_iinc C d_Fo_daysTillMet_45 0 rfl (v := nI (i + 1)) (nI_1 _) (by decide) (lv' := [(3, .int (nI (i + 1))), (0, .ref (Z.2.1 (1))), (1, .int (nI p)), (2, .int (v))]) rfl ?_
          refine x_goto C d_Fo_daysTillMet_48 13 (by decide) ?_
          refine x_eqg (g' := va_up g 1 (dysR (becR (g 1) (g 0)) (i + 1))) rfl ?_
          exact ih_13 (i + 1) (by omega) (by omega) (hy_13.trans (fdo_n (by omega) (by simp [*])))
        · have nc_2 := Int32.not_lt.mp c_2
          refine x_iload_n C d_Fo_daysTillMet_36 0 rfl rfl ?_
          exact x_iretK C (by rw [hy_13, fdo_t (by omega) (by simp [*])]; rfl) ⟨_, rfl⟩ d_Fo_daysTillMet_37
  refine x_eqg (g' := va_up g 1 (dysR (becR (g 1) (g 0)) (0))) rfl ?_
  exact LP_13 (201 + 1) 0 (Nat.zero_le _) (by omega) rfl

set_option maxRecDepth 100000 in
set_option maxHeartbeats 600000 in
theorem c_Fo_daysTillNoSeason (Z : ZT)  (g : St)  (hk : okR (g 0)) : CT yC Z y_Fo_daysTillNoSeason b_Fo_daysTillNoSeason 2 (some (.int)) 4 94 [.ref (Z.2.1 (1))] (g) (QkI yC Z (oI (fdo (fun i_ => decide (seaN (dysR (g 0) i_) (sz (g 0)) = 0)) 201 0)) (fun u => ∃ ρ : Nat → Int32, u = va_up g 1 ρ)) := by
  refine CT.mk "TunnelPeace$Forecast" (by decide) rfl (Nat.le_of_ble_eq_true rfl) (fun X C => ?_)
  refine x_lv [0] (lv' := [(0, .ref (Z.2.1 (1)))]) rfl ?_
  have hk0 := hk
  obtain ⟨⟨n, hn8, hn⟩, dd, hdd, hd⟩ := hk
  refine x_aload_n C d_Fo_daysTillNoSeason_0 0 rfl rfl ?_
  refine gf_Fo_trial C k_110 d_Fo_daysTillNoSeason_1 ?_
  refine x_aload_n C d_Fo_daysTillNoSeason_4 0 rfl rfl ?_
  refine gf_Fo_now C k_109 d_Fo_daysTillNoSeason_5 ?_
  refine x_callVv C (c_Tu_become Z 1 0 (by omega) (by omega) (by omega) (g) _ rfl _ rfl hk0) mi_Tu_become k_380 (show 14 + 12 * 1 < 50 by omega) (e_Tu Z 1 _) rfl (As := [.ref (Z.2.1 (14 + 12 * 0))]) ⟨Nat.le_of_ble_eq_true rfl, Nat.le_of_ble_eq_true rfl⟩ rfl rfl (Nat.le_of_ble_eq_true rfl) d_Fo_daysTillNoSeason_8 ?_
  refine x_iconst C d_Fo_daysTillNoSeason_11 (v := 0) (by decide) ?_
  refine x_topi (show (0 : Int32) = nI 0 by decide) ?_
  refine x_istore_n C d_Fo_daysTillNoSeason_12 rfl (by decide) (lv' := [(1, .int (nI 0)), (0, .ref (Z.2.1 (1)))]) rfl ?_
  have LP_13 : ∀ (f_ i : Nat), i ≤ 201 → 201 - i < f_ → (fdo (fun i_ => decide (seaN (dysR (g 0) i_) (sz (g 0)) = 0)) 201 0 = fdo (fun i_ => decide (seaN (dysR (g 0) i_) (sz (g 0)) = 0)) (201 - i) i) → WX X 2 yC Z (QX X yC Z (QkI yC Z (oI (fdo (fun i_ => decide (seaN (dysR (g 0) i_) (sz (g 0)) = 0)) 201 0)) (fun u => ∃ ρ : Nat → Int32, u = va_up g 1 ρ))) (va_up g 1 (dysR (becR (g 1) (g 0)) (i))) 13 [(1, .int (nI i)), (0, .ref (Z.2.1 (1)))] [] := by
    intro f_
    induction f_ with
    | zero => intro i h1_ h2_ _; exact absurd h2_ (Nat.not_lt_zero _)
    | succ f_ ih_13 =>
      intro i hi_13 hf_13 hy_13
      refine x_iload_n C d_Fo_daysTillNoSeason_13 0 rfl rfl ?_
      refine x_sipush C d_Fo_daysTillNoSeason_14 (v := 200) (by decide) ?_
      refine x_icmp_gt C d_Fo_daysTillNoSeason_17 45 (by decide) (fun c_1 => ?_) (fun c_1 => ?_)
      · have nc_1 := Int32.not_le.mpr c_1
        have mc_1 : 200 < i := (nI_ltI (by omega) (by omega)).mp (show nI 200 < nI i from c_1)
        have e_i : 201 = i := by omega
        subst e_i
        refine x_iconst C d_Fo_daysTillNoSeason_45 (v := -1) (by decide) ?_
        exact x_iretK C (by rw [hy_13, Nat.sub_self]; rfl) ⟨_, rfl⟩ d_Fo_daysTillNoSeason_46
      · have nc_1 := Int32.not_lt.mp c_1
        have mc_1 : ¬ 200 < i := fun z_ => (show ¬ nI 200 < nI i from c_1) ((nI_ltI (by omega) (by omega)).mpr z_)
        refine x_aload_n C d_Fo_daysTillNoSeason_20 1 rfl rfl ?_
        refine gf_Fo_trial C k_110 d_Fo_daysTillNoSeason_21 ?_
        refine x_callVi C (c_Tu_peopleWithSeason Z 1 (by omega) (va_up g 1 (dysR (becR (g 1) (g 0)) (i))) _ (va_up_self _ _ _) (okR_dys (okR_bec hk0) _)) mi_Tu_peopleWithSeason k_426 (show 14 + 12 * 1 < 50 by omega) (e_Tu Z 1 _) rfl (As := []) ⟨Nat.le_of_ble_eq_true rfl, Nat.le_of_ble_eq_true rfl⟩ rfl rfl (Nat.le_of_ble_eq_true rfl) d_Fo_daysTillNoSeason_24 ?_
        refine x_topi (x' := seaN (dysR (g 0) i) (sz (g 0))) (by rw [dysR_sz, becR_sz]; exact seaN_e bec_days0 (Nat.le_refl _)) ?_
        refine x_ifne C d_Fo_daysTillNoSeason_27 32 (by decide) (fun c_2 => ?_) (fun c_2 => ?_)
        · refine x_aload_n C d_Fo_daysTillNoSeason_32 1 rfl rfl ?_
          refine gf_Fo_trial C k_110 d_Fo_daysTillNoSeason_33 ?_
          refine x_callVv C (c_Tu_passDay Z 1 (by omega) (va_up g 1 (dysR (becR (g 1) (g 0)) (i))) _ (va_up_self _ _ _) (okR_dys (okR_bec hk0) _)) mi_Tu_passDay k_404 (show 14 + 12 * 1 < 50 by omega) (e_Tu Z 1 _) rfl (As := []) ⟨Nat.le_of_ble_eq_true rfl, Nat.le_of_ble_eq_true rfl⟩ rfl rfl (Nat.le_of_ble_eq_true rfl) d_Fo_daysTillNoSeason_36 ?_
          refine x_eqg (g' := va_up g 1 (dayR (dysR (becR (g 1) (g 0)) (i)))) (bx_uu _ _ _ _) ?_
          refine x_iinc C d_Fo_daysTillNoSeason_39 0 rfl (v := nI (i + 1)) (nI_1 _) (by decide) (lv' := [(1, .int (nI (i + 1))), (0, .ref (Z.2.1 (1)))]) rfl ?_
          refine x_goto C d_Fo_daysTillNoSeason_42 13 (by decide) ?_
          refine x_eqg (g' := va_up g 1 (dysR (becR (g 1) (g 0)) (i + 1))) rfl ?_
          exact ih_13 (i + 1) (by omega) (by omega) (hy_13.trans (fdo_n (by omega) (by simp [*])))
        · refine x_iload_n C d_Fo_daysTillNoSeason_30 0 rfl rfl ?_
          exact x_iretK C (by rw [hy_13, fdo_t (by omega) (by simp [*])]; rfl) ⟨_, rfl⟩ d_Fo_daysTillNoSeason_31
  refine x_eqg (g' := va_up g 1 (dysR (becR (g 1) (g 0)) (0))) rfl ?_
  exact LP_13 (201 + 1) 0 (Nat.zero_le _) (by omega) rfl

set_option maxRecDepth 100000 in
set_option maxHeartbeats 600000 in
theorem c_Fo_stillestCell (Z : ZT) (i m : Nat) (hi : i < 6) (hm : m < 2 ^ 31) (g : St)  (hk : okR (g 0)) : CT yC Z y_Fo_stillestCell b_Fo_stillestCell 6 (some (.int)) 5 116 [.ref (Z.2.1 (1)), .int (nI i), .int (nI m)] (g) (QkI yC Z ((bst (fun c_ => dysR (upd (g 0) (4 + i) (nI c_)) m 3) 16).1) (fun u => ∃ ρ : Nat → Int32, u = va_up g 1 ρ)) := by
  refine CT.mk "TunnelPeace$Forecast" (by decide) rfl (Nat.le_of_ble_eq_true rfl) (fun X C => ?_)
  refine x_lv [0, 1, 2] (lv' := [(0, .ref (Z.2.1 (1))), (1, .int (nI i)), (2, .int (nI m))]) rfl ?_
  have hk0 := hk
  obtain ⟨⟨n, hn8, hn⟩, dd, hdd, hd⟩ := hk
  refine x_iconst C d_Fo_stillestCell_0 (v := 0) (by decide) ?_
  refine x_istore_n C d_Fo_stillestCell_1 rfl (by decide) (lv' := [(3, .int (0)), (0, .ref (Z.2.1 (1))), (1, .int (nI i)), (2, .int (nI m))]) rfl ?_
  refine x_bipush C d_Fo_stillestCell_2 (v := 100) (by decide) ?_
  refine x_istore C d_Fo_stillestCell_4 (by decide) (lv' := [(4, .int (100)), (3, .int (0)), (0, .ref (Z.2.1 (1))), (1, .int (nI i)), (2, .int (nI m))]) rfl ?_
  refine x_iconst C d_Fo_stillestCell_6 (v := 0) (by decide) ?_
  refine x_topi (show (0 : Int32) = nI 0 by decide) ?_
  refine x_istore C d_Fo_stillestCell_7 (by decide) (lv' := [(5, .int (nI 0)), (4, .int (100)), (3, .int (0)), (0, .ref (Z.2.1 (1))), (1, .int (nI i)), (2, .int (nI m))]) rfl ?_
  have LP_9 : ∀ (f_ c : Nat) (ρ : Nat → Int32), c ≤ 16 → 16 - c < f_ → WX X 6 yC Z (QX X yC Z (QkI yC Z ((bst (fun c_ => dysR (upd (g 0) (4 + i) (nI c_)) m 3) 16).1) (fun u => ∃ ρ : Nat → Int32, u = va_up g 1 ρ))) (va_up g 1 ρ) 9 [(5, .int (nI c)), (4, .int ((bst (fun c_ => dysR (upd (g 0) (4 + i) (nI c_)) m 3) (c)).2)), (3, .int ((bst (fun c_ => dysR (upd (g 0) (4 + i) (nI c_)) m 3) (c)).1)), (0, .ref (Z.2.1 (1))), (1, .int (nI i)), (2, .int (nI m))] [] := by
    intro f_
    induction f_ with
    | zero => intro c _ h1_ h2_; exact absurd h2_ (Nat.not_lt_zero _)
    | succ f_ ih_9 =>
      intro c ρ hi_9 hf_9
      refine x_iload C d_Fo_stillestCell_9 0 rfl ?_
      refine x_bipush C d_Fo_stillestCell_11 (v := 16) (by decide) ?_
      refine x_icmp_ge C d_Fo_stillestCell_13 76 (by decide) (fun c_1 => ?_) (fun c_1 => ?_)
      · have nc_1 := Int32.not_lt.mpr c_1
        have mc_1 : 16 ≤ c := (nI_leI (by omega) (by omega)).mp (show nI 16 ≤ nI c from c_1)
        have e_c : 16 = c := by omega
        subst e_c
        refine x_iload_n C d_Fo_stillestCell_76 2 rfl rfl ?_
        exact x_iretK C rfl ⟨_, rfl⟩ d_Fo_stillestCell_77
      · have nc_1 := Int32.not_le.mp c_1
        have mc_1 : ¬ 16 ≤ c := fun z_ => (show ¬ nI 16 ≤ nI c from c_1) ((nI_leI (by omega) (by omega)).mpr z_)
        refine x_aload_n C d_Fo_stillestCell_16 3 rfl rfl ?_
        refine gf_Fo_trial C k_110 d_Fo_stillestCell_17 ?_
        refine x_aload_n C d_Fo_stillestCell_20 3 rfl rfl ?_
        refine gf_Fo_now C k_109 d_Fo_stillestCell_21 ?_
        refine x_callVv C (c_Tu_become Z 1 0 (by omega) (by omega) (by omega) (va_up g 1 ρ) _ (va_up_self _ _ _) _ (va_up_ne _ _ (by omega)) hk0) mi_Tu_become k_380 (show 14 + 12 * 1 < 50 by omega) (e_Tu Z 1 _) rfl (As := [.ref (Z.2.1 (14 + 12 * 0))]) ⟨Nat.le_of_ble_eq_true rfl, Nat.le_of_ble_eq_true rfl⟩ rfl rfl (Nat.le_of_ble_eq_true rfl) d_Fo_stillestCell_24 ?_
        refine x_eqg (g' := va_up g 1 (becR ρ (g 0))) (bx_uu _ _ _ _) ?_
        refine x_aload_n C d_Fo_stillestCell_27 3 rfl rfl ?_
        refine gf_Fo_trial C k_110 d_Fo_stillestCell_28 ?_
        refine gf_Tu_list C (by omega) k_80 d_Fo_stillestCell_31 ?_
        refine x_iload_n C d_Fo_stillestCell_34 4 rfl rfl ?_
        refine x_iload C d_Fo_stillestCell_35 0 rfl ?_
        refine as_li C (by omega) i (v := nI c) rfl (by omega) (G := va_up g 1 (upd (becR ρ (g 0)) (4 + i) (nI c))) up_va d_Fo_stillestCell_37 ?_
        refine x_aload_n C d_Fo_stillestCell_38 3 rfl rfl ?_
        refine gf_Fo_trial C k_110 d_Fo_stillestCell_39 ?_
        refine x_iload_n C d_Fo_stillestCell_42 5 rfl rfl ?_
        refine x_callVv C (c_Tu_passDays Z 1 (by omega) m (by omega) (va_up g 1 (upd (becR ρ (g 0)) (4 + i) (nI c))) _ (va_up_self _ _ _) (okR_upd (okR_bec hk0) (by omega))) mi_Tu_passDays k_391 (show 14 + 12 * 1 < 50 by omega) (e_Tu Z 1 _) rfl (As := [.int (nI m)]) ⟨Nat.le_of_ble_eq_true rfl, Nat.le_of_ble_eq_true rfl⟩ rfl rfl (Nat.le_of_ble_eq_true rfl) d_Fo_stillestCell_43 ?_
        refine x_eqg (g' := va_up g 1 (dysR (upd (becR ρ (g 0)) (4 + i) (nI c)) m)) (bx_uu _ _ _ _) ?_
        refine x_aload_n C d_Fo_stillestCell_46 3 rfl rfl ?_
        refine gf_Fo_trial C k_110 d_Fo_stillestCell_47 ?_
        refine gf_Tu_guns C (by omega) (v := dysR (upd (g 0) (4 + i) (nI c)) m 3) (Eq.trans (congrFun (va_up_self _ _ _) _) ((bec_days (by omega)).hd (by decide))) k_70 d_Fo_stillestCell_50 ?_
        refine x_iload C d_Fo_stillestCell_53 1 rfl ?_
        refine x_icmp_ge C d_Fo_stillestCell_55 70 (by decide) (fun c_2 => ?_) (fun c_2 => ?_)
        · have nc_2 := Int32.not_lt.mpr c_2
          refine x_iinc C d_Fo_stillestCell_70 0 rfl (v := nI (c + 1)) (nI_1 _) (by decide) (lv' := [(5, .int (nI (c + 1))), (4, .int ((bst (fun c_ => dysR (upd (g 0) (4 + i) (nI c_)) m 3) (c)).2)), (3, .int ((bst (fun c_ => dysR (upd (g 0) (4 + i) (nI c_)) m 3) (c)).1)), (0, .ref (Z.2.1 (1))), (1, .int (nI i)), (2, .int (nI m))]) rfl ?_
          refine x_goto C d_Fo_stillestCell_73 9 (by decide) ?_
          refine x_lve (lv' := [(5, .int (nI (c + 1))), (4, .int ((bst (fun c_ => dysR (upd (g 0) (4 + i) (nI c_)) m 3) (c + 1)).2)), (3, .int ((bst (fun c_ => dysR (upd (g 0) (4 + i) (nI c_)) m 3) (c + 1)).1)), (0, .ref (Z.2.1 (1))), (1, .int (nI i)), (2, .int (nI m))]) (by simp [bst, *]) ?_
          exact ih_9 (c + 1) (dysR (upd (becR ρ (g 0)) (4 + i) (nI c)) m) (by omega) (by omega)
        · have nc_2 := Int32.not_le.mp c_2
          refine x_aload_n C d_Fo_stillestCell_58 3 rfl rfl ?_
          refine gf_Fo_trial C k_110 d_Fo_stillestCell_59 ?_
          refine gf_Tu_guns C (by omega) (v := dysR (upd (g 0) (4 + i) (nI c)) m 3) (Eq.trans (congrFun (va_up_self _ _ _) _) ((bec_days (by omega)).hd (by decide))) k_70 d_Fo_stillestCell_62 ?_
          refine x_istore C d_Fo_stillestCell_65 (by decide) (lv' := [(4, .int (dysR (upd (g 0) (4 + i) (nI c)) m 3)), (5, .int (nI c)), (3, .int ((bst (fun c_ => dysR (upd (g 0) (4 + i) (nI c_)) m 3) (c)).1)), (0, .ref (Z.2.1 (1))), (1, .int (nI i)), (2, .int (nI m))]) rfl ?_
          refine x_iload C d_Fo_stillestCell_67 1 rfl ?_
          refine x_istore_n C d_Fo_stillestCell_69 rfl (by decide) (lv' := [(3, .int (nI c)), (4, .int (dysR (upd (g 0) (4 + i) (nI c)) m 3)), (5, .int (nI c)), (0, .ref (Z.2.1 (1))), (1, .int (nI i)), (2, .int (nI m))]) rfl ?_
          refine x_iinc C d_Fo_stillestCell_70 2 rfl (v := nI (c + 1)) (nI_1 _) (by decide) (lv' := [(5, .int (nI (c + 1))), (3, .int (nI c)), (4, .int (dysR (upd (g 0) (4 + i) (nI c)) m 3)), (0, .ref (Z.2.1 (1))), (1, .int (nI i)), (2, .int (nI m))]) rfl ?_
          refine x_goto C d_Fo_stillestCell_73 9 (by decide) ?_
          refine x_lv [0, 2, 1, 3, 4, 5] (lv' := [(5, .int (nI (c + 1))), (4, .int (dysR (upd (g 0) (4 + i) (nI c)) m 3)), (3, .int (nI c)), (0, .ref (Z.2.1 (1))), (1, .int (nI i)), (2, .int (nI m))]) rfl ?_
          refine x_lve (lv' := [(5, .int (nI (c + 1))), (4, .int ((bst (fun c_ => dysR (upd (g 0) (4 + i) (nI c_)) m 3) (c + 1)).2)), (3, .int ((bst (fun c_ => dysR (upd (g 0) (4 + i) (nI c_)) m 3) (c + 1)).1)), (0, .ref (Z.2.1 (1))), (1, .int (nI i)), (2, .int (nI m))]) (by simp [bst, *]) ?_
          exact ih_9 (c + 1) (dysR (upd (becR ρ (g 0)) (4 + i) (nI c)) m) (by omega) (by omega)
  refine x_lve (lv' := [(5, .int (nI 0)), (4, .int ((bst (fun c_ => dysR (upd (g 0) (4 + i) (nI c_)) m 3) (0)).2)), (3, .int ((bst (fun c_ => dysR (upd (g 0) (4 + i) (nI c_)) m 3) (0)).1)), (0, .ref (Z.2.1 (1))), (1, .int (nI i)), (2, .int (nI m))]) rfl ?_
  refine x_eqg (g' := va_up g 1 (g 1)) (va_id g 1).symm ?_
  exact LP_9 (16 + 1) 0 (g 1) (Nat.zero_le _) (by omega)

set_option maxRecDepth 100000 in
set_option maxHeartbeats 600000 in
theorem c_Fo_stillestKind (Z : ZT) (p m : Nat) (hm : m < 2 ^ 31) (g : St)  (hk : okR (g 0)) (hps : p < sz (g 0)) (hp8 : p < 8) : CT yC Z y_Fo_stillestKind b_Fo_stillestKind 6 (some (.int)) 5 116 [.ref (Z.2.1 (1)), .int (nI p), .int (nI m)] (g) (QkI yC Z ((bst (fun c_ => dysR (upd (g 0) (pI p 0) (nI c_)) m 3) 7).1) (fun u => ∃ ρ : Nat → Int32, u = va_up g 1 ρ)) := by
  refine CT.mk "TunnelPeace$Forecast" (by decide) rfl (Nat.le_of_ble_eq_true rfl) (fun X C => ?_)
  refine x_lv [0, 1, 2] (lv' := [(0, .ref (Z.2.1 (1))), (1, .int (nI p)), (2, .int (nI m))]) rfl ?_
  have hk0 := hk
  obtain ⟨⟨n, hn8, hn⟩, dd, hdd, hd⟩ := hk
  refine x_iconst C d_Fo_stillestKind_0 (v := 0) (by decide) ?_
  refine x_istore_n C d_Fo_stillestKind_1 rfl (by decide) (lv' := [(3, .int (0)), (0, .ref (Z.2.1 (1))), (1, .int (nI p)), (2, .int (nI m))]) rfl ?_
  refine x_bipush C d_Fo_stillestKind_2 (v := 100) (by decide) ?_
  refine x_istore C d_Fo_stillestKind_4 (by decide) (lv' := [(4, .int (100)), (3, .int (0)), (0, .ref (Z.2.1 (1))), (1, .int (nI p)), (2, .int (nI m))]) rfl ?_
  refine x_iconst C d_Fo_stillestKind_6 (v := 0) (by decide) ?_
  refine x_topi (show (0 : Int32) = nI 0 by decide) ?_
  refine x_istore C d_Fo_stillestKind_7 (by decide) (lv' := [(5, .int (nI 0)), (4, .int (100)), (3, .int (0)), (0, .ref (Z.2.1 (1))), (1, .int (nI p)), (2, .int (nI m))]) rfl ?_
  have LP_9 : ∀ (f_ c : Nat) (ρ : Nat → Int32), c ≤ 7 → 7 - c < f_ → WX X 6 yC Z (QX X yC Z (QkI yC Z ((bst (fun c_ => dysR (upd (g 0) (pI p 0) (nI c_)) m 3) 7).1) (fun u => ∃ ρ : Nat → Int32, u = va_up g 1 ρ))) (va_up g 1 ρ) 9 [(5, .int (nI c)), (4, .int ((bst (fun c_ => dysR (upd (g 0) (pI p 0) (nI c_)) m 3) (c)).2)), (3, .int ((bst (fun c_ => dysR (upd (g 0) (pI p 0) (nI c_)) m 3) (c)).1)), (0, .ref (Z.2.1 (1))), (1, .int (nI p)), (2, .int (nI m))] [] := by
    intro f_
    induction f_ with
    | zero => intro c _ h1_ h2_; exact absurd h2_ (Nat.not_lt_zero _)
    | succ f_ ih_9 =>
      intro c ρ hi_9 hf_9
      refine x_iload C d_Fo_stillestKind_9 0 rfl ?_
      refine x_bipush C d_Fo_stillestKind_11 (v := 6) (by decide) ?_
      refine x_icmp_gt C d_Fo_stillestKind_13 62 (by decide) (fun c_1 => ?_) (fun c_1 => ?_)
      · have nc_1 := Int32.not_le.mpr c_1
        have mc_1 : 6 < c := (nI_ltI (by omega) (by omega)).mp (show nI 6 < nI c from c_1)
        have e_c : 7 = c := by omega
        subst e_c
        refine x_iload_n C d_Fo_stillestKind_62 2 rfl rfl ?_
        exact x_iretK C rfl ⟨_, rfl⟩ d_Fo_stillestKind_63
      · have nc_1 := Int32.not_lt.mp c_1
        have mc_1 : ¬ 6 < c := fun z_ => (show ¬ nI 6 < nI c from c_1) ((nI_ltI (by omega) (by omega)).mpr z_)
        refine x_aload_n C d_Fo_stillestKind_16 3 rfl rfl ?_
        refine x_iload_n C d_Fo_stillestKind_17 4 rfl rfl ?_
        refine x_iconst C d_Fo_stillestKind_18 (v := 0) (by decide) ?_
        refine x_iload C d_Fo_stillestKind_19 0 rfl ?_
        refine x_callVv C (c_Fo_tryWith Z p 0 (by omega) (by omega) (nI c) (va_up g 1 ρ) (by rw [va_up_ne _ _ (by decide)]; exact hk0)) mi_Fo_tryWith k_443 (show 1 < 50 by omega) (e_Fo Z (sr yC (va_up g 1 ρ) 1)) rfl (As := [.int (nI p), .int (0), .int (nI c)]) ⟨Nat.le_of_ble_eq_true rfl, Nat.le_of_ble_eq_true rfl⟩ rfl rfl (Nat.le_of_ble_eq_true rfl) d_Fo_stillestKind_21 ?_
        refine x_eqg (g' := va_up g 1 (upd (becR ρ (g 0)) (pI p 0) (nI c))) (by rw [va_up_self, va_up_ne _ _ (by decide), bx_uu]) ?_
        refine x_aload_n C d_Fo_stillestKind_24 3 rfl rfl ?_
        refine gf_Fo_trial C k_110 d_Fo_stillestKind_25 ?_
        refine x_iload_n C d_Fo_stillestKind_28 5 rfl rfl ?_
        refine x_callVv C (c_Tu_passDays Z 1 (by omega) m (by omega) (va_up g 1 (upd (becR ρ (g 0)) (pI p 0) (nI c))) _ (va_up_self _ _ _) (okR_updP (okR_bec hk0))) mi_Tu_passDays k_391 (show 14 + 12 * 1 < 50 by omega) (e_Tu Z 1 _) rfl (As := [.int (nI m)]) ⟨Nat.le_of_ble_eq_true rfl, Nat.le_of_ble_eq_true rfl⟩ rfl rfl (Nat.le_of_ble_eq_true rfl) d_Fo_stillestKind_29 ?_
        refine x_eqg (g' := va_up g 1 (dysR (upd (becR ρ (g 0)) (pI p 0) (nI c)) m)) (bx_uu _ _ _ _) ?_
        refine x_aload_n C d_Fo_stillestKind_32 3 rfl rfl ?_
        refine gf_Fo_trial C k_110 d_Fo_stillestKind_33 ?_
        refine gf_Tu_guns C (by omega) (v := dysR (upd (g 0) (pI p 0) (nI c)) m 3) (Eq.trans (congrFun (va_up_self _ _ _) _) ((bec_days (by simp only [pI]; omega)).hd (by decide))) k_70 d_Fo_stillestKind_36 ?_
        refine x_iload C d_Fo_stillestKind_39 1 rfl ?_
        refine x_icmp_ge C d_Fo_stillestKind_41 56 (by decide) (fun c_2 => ?_) (fun c_2 => ?_)
        · have nc_2 := Int32.not_lt.mpr c_2
          refine x_iinc C d_Fo_stillestKind_56 0 rfl (v := nI (c + 1)) (nI_1 _) (by decide) (lv' := [(5, .int (nI (c + 1))), (4, .int ((bst (fun c_ => dysR (upd (g 0) (pI p 0) (nI c_)) m 3) (c)).2)), (3, .int ((bst (fun c_ => dysR (upd (g 0) (pI p 0) (nI c_)) m 3) (c)).1)), (0, .ref (Z.2.1 (1))), (1, .int (nI p)), (2, .int (nI m))]) rfl ?_
          refine x_goto C d_Fo_stillestKind_59 9 (by decide) ?_
          refine x_lve (lv' := [(5, .int (nI (c + 1))), (4, .int ((bst (fun c_ => dysR (upd (g 0) (pI p 0) (nI c_)) m 3) (c + 1)).2)), (3, .int ((bst (fun c_ => dysR (upd (g 0) (pI p 0) (nI c_)) m 3) (c + 1)).1)), (0, .ref (Z.2.1 (1))), (1, .int (nI p)), (2, .int (nI m))]) (by simp [bst, *]) ?_
          exact ih_9 (c + 1) (dysR (upd (becR ρ (g 0)) (pI p 0) (nI c)) m) (by omega) (by omega)
        · have nc_2 := Int32.not_le.mp c_2
          refine x_aload_n C d_Fo_stillestKind_44 3 rfl rfl ?_
          refine gf_Fo_trial C k_110 d_Fo_stillestKind_45 ?_
          refine gf_Tu_guns C (by omega) (v := dysR (upd (g 0) (pI p 0) (nI c)) m 3) (Eq.trans (congrFun (va_up_self _ _ _) _) ((bec_days (by simp only [pI]; omega)).hd (by decide))) k_70 d_Fo_stillestKind_48 ?_
          refine x_istore C d_Fo_stillestKind_51 (by decide) (lv' := [(4, .int (dysR (upd (g 0) (pI p 0) (nI c)) m 3)), (5, .int (nI c)), (3, .int ((bst (fun c_ => dysR (upd (g 0) (pI p 0) (nI c_)) m 3) (c)).1)), (0, .ref (Z.2.1 (1))), (1, .int (nI p)), (2, .int (nI m))]) rfl ?_
          refine x_iload C d_Fo_stillestKind_53 1 rfl ?_
          refine x_istore_n C d_Fo_stillestKind_55 rfl (by decide) (lv' := [(3, .int (nI c)), (4, .int (dysR (upd (g 0) (pI p 0) (nI c)) m 3)), (5, .int (nI c)), (0, .ref (Z.2.1 (1))), (1, .int (nI p)), (2, .int (nI m))]) rfl ?_
          refine x_iinc C d_Fo_stillestKind_56 2 rfl (v := nI (c + 1)) (nI_1 _) (by decide) (lv' := [(5, .int (nI (c + 1))), (3, .int (nI c)), (4, .int (dysR (upd (g 0) (pI p 0) (nI c)) m 3)), (0, .ref (Z.2.1 (1))), (1, .int (nI p)), (2, .int (nI m))]) rfl ?_
          refine x_goto C d_Fo_stillestKind_59 9 (by decide) ?_
          refine x_lv [0, 2, 1, 3, 4, 5] (lv' := [(5, .int (nI (c + 1))), (4, .int (dysR (upd (g 0) (pI p 0) (nI c)) m 3)), (3, .int (nI c)), (0, .ref (Z.2.1 (1))), (1, .int (nI p)), (2, .int (nI m))]) rfl ?_
          refine x_lve (lv' := [(5, .int (nI (c + 1))), (4, .int ((bst (fun c_ => dysR (upd (g 0) (pI p 0) (nI c_)) m 3) (c + 1)).2)), (3, .int ((bst (fun c_ => dysR (upd (g 0) (pI p 0) (nI c_)) m 3) (c + 1)).1)), (0, .ref (Z.2.1 (1))), (1, .int (nI p)), (2, .int (nI m))]) (by simp [bst, *]) ?_
          exact ih_9 (c + 1) (dysR (upd (becR ρ (g 0)) (pI p 0) (nI c)) m) (by omega) (by omega)
  refine x_lve (lv' := [(5, .int (nI 0)), (4, .int ((bst (fun c_ => dysR (upd (g 0) (pI p 0) (nI c_)) m 3) (0)).2)), (3, .int ((bst (fun c_ => dysR (upd (g 0) (pI p 0) (nI c_)) m 3) (0)).1)), (0, .ref (Z.2.1 (1))), (1, .int (nI p)), (2, .int (nI m))]) rfl ?_
  refine x_eqg (g' := va_up g 1 (g 1)) (va_id g 1).symm ?_
  exact LP_9 (7 + 1) 0 (g 1) (Nat.zero_le _) (by omega)

theorem mn_99 {m : Nat} (h : m ≤ 40) : mn 99 (2 * nI m) = nI (min 99 (2 * m)) := by
  unfold mn
  rw [show (2 : Int32) = nI 2 from rfl, pk_mul, show (99 : Int32) = nI 99 from rfl]
  by_cases hd : 2 * m < 99
  · rw [if_pos (nI_lt hd (by decide))]; congr 1; omega
  · rw [if_neg (nI_nlt (by omega) (by omega))]; congr 1; omega

set_option maxRecDepth 100000 in
set_option maxHeartbeats 600000 in
theorem c_Fo_leastSeason (Z : ZT) (p : Nat) (v : Int32) (m : Nat) (hm : m ≤ 40) (g : St)  (hk : okR (g 0)) (hps : p < sz (g 0)) (hp8 : p < 8) : CT yC Z y_Fo_leastSeason b_Fo_leastSeason 6 (some (.int)) 5 116 [.ref (Z.2.1 (1)), .int (nI p), .int (v), .int (nI m)] (g) (QkI yC Z (oI (fdo (fun c_ => decide (v ≤ dysR (upd (g 0) (pI p 3) (nI c_)) m (pI p 5))) (min 99 (2 * m) + 1) 0)) (fun u => ∃ ρ : Nat → Int32, u = va_up g 1 ρ)) := by
  refine CT.mk "TunnelPeace$Forecast" (by decide) rfl (Nat.le_of_ble_eq_true rfl) (fun X C => ?_)
  refine x_lv [0, 1, 2, 3] (lv' := [(0, .ref (Z.2.1 (1))), (1, .int (nI p)), (2, .int (v)), (3, .int (nI m))]) rfl ?_
  have hk0 := hk
  obtain ⟨⟨n, hn8, hn⟩, dd, hdd, hd⟩ := hk
  refine x_getst0N C (List.mem_of_getElem? (i := 1) rfl) d_Fo_leastSeason_0 ?_
  refine x_iconst C d_Fo_leastSeason_3 (v := 3) (by decide) ?_
  refine x_stld0 C 3 (by decide) (by decide) rfl d_Fo_leastSeason_4 ?_
  refine x_iconst C d_Fo_leastSeason_5 (v := 2) (by decide) ?_
  refine x_iload_n C d_Fo_leastSeason_6 3 rfl rfl ?_
  refine x_imul C d_Fo_leastSeason_7 ?_
  refine x_mn C k_457 (Nat.le_of_ble_eq_true rfl) (Nat.le_of_ble_eq_true rfl) d_Fo_leastSeason_8 ?_
  refine x_topi (x' := nI (min 99 (2 * m))) (mn_99 hm) ?_
  refine x_istore C d_Fo_leastSeason_11 (by decide) (lv' := [(4, .int (nI (min 99 (2 * m)))), (0, .ref (Z.2.1 (1))), (1, .int (nI p)), (2, .int (v)), (3, .int (nI m))]) rfl ?_
  refine x_iconst C d_Fo_leastSeason_13 (v := 0) (by decide) ?_
  refine x_topi (show (0 : Int32) = nI 0 by decide) ?_
  refine x_istore C d_Fo_leastSeason_14 (by decide) (lv' := [(5, .int (nI 0)), (4, .int (nI (min 99 (2 * m)))), (0, .ref (Z.2.1 (1))), (1, .int (nI p)), (2, .int (v)), (3, .int (nI m))]) rfl ?_
  have LP_16 : ∀ (f_ c : Nat) (ρ : Nat → Int32), c ≤ min 99 (2 * m) + 1 → (min 99 (2 * m) + 1) - c < f_ → (fdo (fun c_ => decide (v ≤ dysR (upd (g 0) (pI p 3) (nI c_)) m (pI p 5))) (min 99 (2 * m) + 1) 0 = fdo (fun c_ => decide (v ≤ dysR (upd (g 0) (pI p 3) (nI c_)) m (pI p 5))) (min 99 (2 * m) + 1 - c) c) → WX X 6 yC Z (QX X yC Z (QkI yC Z (oI (fdo (fun c_ => decide (v ≤ dysR (upd (g 0) (pI p 3) (nI c_)) m (pI p 5))) (min 99 (2 * m) + 1) 0)) (fun u => ∃ ρ : Nat → Int32, u = va_up g 1 ρ))) (va_up g 1 ρ) 16 [(5, .int (nI c)), (4, .int (nI (min 99 (2 * m)))), (0, .ref (Z.2.1 (1))), (1, .int (nI p)), (2, .int (v)), (3, .int (nI m))] [] := by
    intro f_
    induction f_ with
    | zero => intro c _ h1_ h2_ _; exact absurd h2_ (Nat.not_lt_zero _)
    | succ f_ ih_16 =>
      intro c ρ hi_16 hf_16 hy_16
      refine x_iload C d_Fo_leastSeason_16 0 rfl ?_
      refine x_iload C d_Fo_leastSeason_18 1 rfl ?_
      refine x_icmp_gt C d_Fo_leastSeason_20 64 (by decide) (fun c_1 => ?_) (fun c_1 => ?_)
      · have nc_1 := Int32.not_le.mpr c_1
        have mc_1 : min 99 (2 * m) < c := (nI_ltI (by omega) (by omega)).mp (show nI (min 99 (2 * m)) < nI c from c_1)
        have e_c : min 99 (2 * m) + 1 = c := by omega
        subst e_c
        refine x_iconst C d_Fo_leastSeason_64 (v := -1) (by decide) ?_
        exact x_iretK C (by rw [hy_16, Nat.sub_self]; rfl) ⟨_, rfl⟩ d_Fo_leastSeason_65
      · have nc_1 := Int32.not_lt.mp c_1
        have mc_1 : ¬ min 99 (2 * m) < c := fun z_ => (show ¬ nI (min 99 (2 * m)) < nI c from c_1) ((nI_ltI (by omega) (by omega)).mpr z_)
        refine x_aload_n C d_Fo_leastSeason_23 2 rfl rfl ?_
        refine x_iload_n C d_Fo_leastSeason_24 3 rfl rfl ?_
        refine x_iconst C d_Fo_leastSeason_25 (v := 3) (by decide) ?_
        refine x_iload C d_Fo_leastSeason_26 0 rfl ?_
        refine x_callVv C (c_Fo_tryWith Z p 3 (by omega) (by omega) (nI c) (va_up g 1 ρ) (by rw [va_up_ne _ _ (by decide)]; exact hk0)) mi_Fo_tryWith k_443 (show 1 < 50 by omega) (e_Fo Z (sr yC (va_up g 1 ρ) 1)) rfl (As := [.int (nI p), .int (3), .int (nI c)]) ⟨Nat.le_of_ble_eq_true rfl, Nat.le_of_ble_eq_true rfl⟩ rfl rfl (Nat.le_of_ble_eq_true rfl) d_Fo_leastSeason_28 ?_
        refine x_eqg (g' := va_up g 1 (upd (becR ρ (g 0)) (pI p 3) (nI c))) (by rw [va_up_self, va_up_ne _ _ (by decide), bx_uu]) ?_
        refine x_aload_n C d_Fo_leastSeason_31 2 rfl rfl ?_
        refine gf_Fo_trial C k_110 d_Fo_leastSeason_32 ?_
        refine x_iload_n C d_Fo_leastSeason_35 5 rfl rfl ?_
        refine x_callVv C (c_Tu_passDays Z 1 (by omega) m (by omega) (va_up g 1 (upd (becR ρ (g 0)) (pI p 3) (nI c))) _ (va_up_self _ _ _) (okR_updP (okR_bec hk0))) mi_Tu_passDays k_391 (show 14 + 12 * 1 < 50 by omega) (e_Tu Z 1 _) rfl (As := [.int (nI m)]) ⟨Nat.le_of_ble_eq_true rfl, Nat.le_of_ble_eq_true rfl⟩ rfl rfl (Nat.le_of_ble_eq_true rfl) d_Fo_leastSeason_36 ?_
        refine x_eqg (g' := va_up g 1 (dysR (upd (becR ρ (g 0)) (pI p 3) (nI c)) m)) (bx_uu _ _ _ _) ?_
        refine x_aload_n C d_Fo_leastSeason_39 2 rfl rfl ?_
        refine gf_Fo_trial C k_110 d_Fo_leastSeason_40 ?_
        refine gf_Tu_people C (by omega) k_82 d_Fo_leastSeason_43 ?_
        refine x_iload_n C d_Fo_leastSeason_46 3 rfl rfl ?_
        refine al_pp C (by omega) p rfl (by omega) d_Fo_leastSeason_47 ?_
        refine gf_Pe_met C (by omega) (by omega) (v := dysR (upd (g 0) (pI p 3) (nI c)) m (pI p 5)) (Eq.trans (congrFun (va_up_self _ _ _) _) ((bec_days (by simp only [pI]; omega)).at hps (by decide))) k_50 d_Fo_leastSeason_48 ?_
        refine x_iload_n C d_Fo_leastSeason_51 4 rfl rfl ?_
        refine x_icmp_lt C d_Fo_leastSeason_52 58 (by decide) (fun c_2 => ?_) (fun c_2 => ?_)
        · have nc_2 := Int32.not_le.mpr c_2
          refine x_iinc C d_Fo_leastSeason_58 0 rfl (v := nI (c + 1)) (nI_1 _) (by decide) (lv' := [(5, .int (nI (c + 1))), (4, .int (nI (min 99 (2 * m)))), (0, .ref (Z.2.1 (1))), (1, .int (nI p)), (2, .int (v)), (3, .int (nI m))]) rfl ?_
          refine x_goto C d_Fo_leastSeason_61 16 (by decide) ?_
          exact ih_16 (c + 1) (dysR (upd (becR ρ (g 0)) (pI p 3) (nI c)) m) (by omega) (by omega) (hy_16.trans (fdo_n (by omega) (by simp [*])))
        · have nc_2 := Int32.not_lt.mp c_2
          refine x_iload C d_Fo_leastSeason_55 0 rfl ?_
          exact x_iretK C (by rw [hy_16, fdo_t (by omega) (by simp [*])]; rfl) ⟨_, rfl⟩ d_Fo_leastSeason_57
  refine x_eqg (g' := va_up g 1 (g 1)) (va_id g 1).symm ?_
  exact LP_16 (min 99 (2 * m) + 1 + 1) 0 (g 1) (Nat.zero_le _) (by omega) rfl

set_option maxRecDepth 100000 in
set_option maxHeartbeats 600000 in
theorem c_Fo_mostBags (Z : ZT) (p m : Nat) (hm : m < 2 ^ 31) (g : St)  (hk : okR (g 0)) (hps : p < sz (g 0)) (hp8 : p < 8) : CT yC Z y_Fo_mostBags b_Fo_mostBags 4 (some (.int)) 5 116 [.ref (Z.2.1 (1)), .int (nI p), .int (nI m)] (g) (QkI yC Z (fdn (fun b_ => decide (g 0 (pI p 5) < dysR (upd (g 0) (pI p 4) (nI b_)) m (pI p 5))) 10) (fun u => ∃ ρ : Nat → Int32, u = va_up g 1 ρ)) := by
  refine CT.mk "TunnelPeace$Forecast" (by decide) rfl (Nat.le_of_ble_eq_true rfl) (fun X C => ?_)
  refine x_lv [0, 1, 2] (lv' := [(0, .ref (Z.2.1 (1))), (1, .int (nI p)), (2, .int (nI m))]) rfl ?_
  have hk0 := hk
  obtain ⟨⟨n, hn8, hn⟩, dd, hdd, hd⟩ := hk
  refine x_getst0N C (List.mem_of_getElem? (i := 1) rfl) d_Fo_mostBags_0 ?_
  refine x_iconst C d_Fo_mostBags_3 (v := 4) (by decide) ?_
  refine x_stld0 C 4 (by decide) (by decide) rfl d_Fo_mostBags_4 ?_
  refine x_topi (show (9 : Int32) = nI 9 by decide) ?_
  refine x_istore_n C d_Fo_mostBags_5 rfl (by decide) (lv' := [(3, .int (nI 9)), (0, .ref (Z.2.1 (1))), (1, .int (nI p)), (2, .int (nI m))]) rfl ?_
  refine x_iload_n C d_Fo_mostBags_6 0 rfl rfl ?_
  refine x_iflt C d_Fo_mostBags_7 60 (by decide) (fun c_1 => ?_) (fun c_1 => ?_)
  · exact absurd c_1 (by decide)
  · have nc_1 := Int32.not_lt.mp c_1
    refine x_aload_n C d_Fo_mostBags_10 1 rfl rfl ?_
    refine x_iload_n C d_Fo_mostBags_11 2 rfl rfl ?_
    refine x_iconst C d_Fo_mostBags_12 (v := 4) (by decide) ?_
    refine x_iload_n C d_Fo_mostBags_13 0 rfl rfl ?_
    refine x_callVv C (c_Fo_tryWith Z p 4 (by omega) (by omega) (nI 9) (g) hk0) mi_Fo_tryWith k_443 (show 1 < 50 by omega) (e_Fo Z (sr yC (g) 1)) rfl (As := [.int (nI p), .int (4), .int (nI 9)]) ⟨Nat.le_of_ble_eq_true rfl, Nat.le_of_ble_eq_true rfl⟩ rfl rfl (Nat.le_of_ble_eq_true rfl) d_Fo_mostBags_14 ?_
    refine x_aload_n C d_Fo_mostBags_17 1 rfl rfl ?_
    refine gf_Fo_trial C k_110 d_Fo_mostBags_18 ?_
    refine x_iload_n C d_Fo_mostBags_21 3 rfl rfl ?_
    refine x_callVv C (c_Tu_passDays Z 1 (by omega) m (by omega) (va_up g 1 (upd (becR (g 1) (g 0)) (pI p 4) (nI 9))) _ (va_up_self _ _ _) (okR_updP (okR_bec hk0))) mi_Tu_passDays k_391 (show 14 + 12 * 1 < 50 by omega) (e_Tu Z 1 _) rfl (As := [.int (nI m)]) ⟨Nat.le_of_ble_eq_true rfl, Nat.le_of_ble_eq_true rfl⟩ rfl rfl (Nat.le_of_ble_eq_true rfl) d_Fo_mostBags_22 ?_
    refine x_eqg (g' := va_up g 1 (dysR (upd (becR (g 1) (g 0)) (pI p 4) (nI 9)) m)) (bx_uu _ _ _ _) ?_
    refine x_aload_n C d_Fo_mostBags_25 1 rfl rfl ?_
    refine gf_Fo_trial C k_110 d_Fo_mostBags_26 ?_
    refine gf_Tu_people C (by omega) k_82 d_Fo_mostBags_29 ?_
    refine x_iload_n C d_Fo_mostBags_32 2 rfl rfl ?_
    refine al_pp C (by omega) p rfl (by omega) d_Fo_mostBags_33 ?_
    refine gf_Pe_met C (by omega) (by omega) (v := dysR (upd (g 0) (pI p 4) (nI 9)) m (pI p 5)) (Eq.trans (congrFun (va_up_self _ _ _) _) ((bec_days (by simp only [pI]; omega)).at hps (by decide))) k_50 d_Fo_mostBags_34 ?_
    refine x_aload_n C d_Fo_mostBags_37 1 rfl rfl ?_
    refine gf_Fo_now C k_109 d_Fo_mostBags_38 ?_
    refine gf_Tu_people C (by omega) k_82 d_Fo_mostBags_41 ?_
    refine x_iload_n C d_Fo_mostBags_44 2 rfl rfl ?_
    refine al_pp C (by omega) p rfl (by omega) d_Fo_mostBags_45 ?_
    refine gf_Pe_met C (by omega) (by omega) (v := g 0 (pI p 5)) (congrFun (va_up_ne _ _ (by omega)) _) k_50 d_Fo_mostBags_46 ?_
    refine x_icmp_le C d_Fo_mostBags_49 54 (by decide) (fun c_2 => ?_) (fun c_2 => ?_)
    · have nc_2 := Int32.not_lt.mpr c_2
      refine x_iinc C d_Fo_mostBags_54 0 rfl (v := nI 8) (by decide) (by decide) (lv' := [(3, .int (nI 8)), (0, .ref (Z.2.1 (1))), (1, .int (nI p)), (2, .int (nI m))]) rfl ?_
      refine x_goto C d_Fo_mostBags_57 6 (by decide) ?_
      refine x_iload_n C d_Fo_mostBags_6 0 rfl rfl ?_
      refine x_iflt C d_Fo_mostBags_7 60 (by decide) (fun c_3 => ?_) (fun c_3 => ?_)
      · exact absurd c_3 (by decide)
      · have nc_3 := Int32.not_lt.mp c_3
        refine x_aload_n C d_Fo_mostBags_10 1 rfl rfl ?_
        refine x_iload_n C d_Fo_mostBags_11 2 rfl rfl ?_
        refine x_iconst C d_Fo_mostBags_12 (v := 4) (by decide) ?_
        refine x_iload_n C d_Fo_mostBags_13 0 rfl rfl ?_
        refine x_callVv C (c_Fo_tryWith Z p 4 (by omega) (by omega) (nI 8) (va_up g 1 (dysR (upd (becR (g 1) (g 0)) (pI p 4) (nI 9)) m)) (by rw [va_up_ne _ _ (by decide)]; exact hk0)) mi_Fo_tryWith k_443 (show 1 < 50 by omega) (e_Fo Z (sr yC (va_up g 1 (dysR (upd (becR (g 1) (g 0)) (pI p 4) (nI 9)) m)) 1)) rfl (As := [.int (nI p), .int (4), .int (nI 8)]) ⟨Nat.le_of_ble_eq_true rfl, Nat.le_of_ble_eq_true rfl⟩ rfl rfl (Nat.le_of_ble_eq_true rfl) d_Fo_mostBags_14 ?_
        refine x_eqg (g' := va_up g 1 (upd (becR (dysR (upd (becR (g 1) (g 0)) (pI p 4) (nI 9)) m) (g 0)) (pI p 4) (nI 8))) (by rw [va_up_self, va_up_ne _ _ (by decide), bx_uu]) ?_
        refine x_aload_n C d_Fo_mostBags_17 1 rfl rfl ?_
        refine gf_Fo_trial C k_110 d_Fo_mostBags_18 ?_
        refine x_iload_n C d_Fo_mostBags_21 3 rfl rfl ?_
        refine x_callVv C (c_Tu_passDays Z 1 (by omega) m (by omega) (va_up g 1 (upd (becR (dysR (upd (becR (g 1) (g 0)) (pI p 4) (nI 9)) m) (g 0)) (pI p 4) (nI 8))) _ (va_up_self _ _ _) (okR_updP (okR_bec hk0))) mi_Tu_passDays k_391 (show 14 + 12 * 1 < 50 by omega) (e_Tu Z 1 _) rfl (As := [.int (nI m)]) ⟨Nat.le_of_ble_eq_true rfl, Nat.le_of_ble_eq_true rfl⟩ rfl rfl (Nat.le_of_ble_eq_true rfl) d_Fo_mostBags_22 ?_
        refine x_eqg (g' := va_up g 1 (dysR (upd (becR (dysR (upd (becR (g 1) (g 0)) (pI p 4) (nI 9)) m) (g 0)) (pI p 4) (nI 8)) m)) (bx_uu _ _ _ _) ?_
        refine x_aload_n C d_Fo_mostBags_25 1 rfl rfl ?_
        refine gf_Fo_trial C k_110 d_Fo_mostBags_26 ?_
        refine gf_Tu_people C (by omega) k_82 d_Fo_mostBags_29 ?_
        refine x_iload_n C d_Fo_mostBags_32 2 rfl rfl ?_
        refine al_pp C (by omega) p rfl (by omega) d_Fo_mostBags_33 ?_
        refine gf_Pe_met C (by omega) (by omega) (v := dysR (upd (g 0) (pI p 4) (nI 8)) m (pI p 5)) (Eq.trans (congrFun (va_up_self _ _ _) _) ((bec_days (by simp only [pI]; omega)).at hps (by decide))) k_50 d_Fo_mostBags_34 ?_
        refine x_aload_n C d_Fo_mostBags_37 1 rfl rfl ?_
        refine gf_Fo_now C k_109 d_Fo_mostBags_38 ?_
        refine gf_Tu_people C (by omega) k_82 d_Fo_mostBags_41 ?_
        refine x_iload_n C d_Fo_mostBags_44 2 rfl rfl ?_
        refine al_pp C (by omega) p rfl (by omega) d_Fo_mostBags_45 ?_
        refine gf_Pe_met C (by omega) (by omega) (v := g 0 (pI p 5)) (congrFun (va_up_ne _ _ (by omega)) _) k_50 d_Fo_mostBags_46 ?_
        refine x_icmp_le C d_Fo_mostBags_49 54 (by decide) (fun c_4 => ?_) (fun c_4 => ?_)
        · have nc_4 := Int32.not_lt.mpr c_4
          refine x_iinc C d_Fo_mostBags_54 0 rfl (v := nI 7) (by decide) (by decide) (lv' := [(3, .int (nI 7)), (0, .ref (Z.2.1 (1))), (1, .int (nI p)), (2, .int (nI m))]) rfl ?_
          refine x_goto C d_Fo_mostBags_57 6 (by decide) ?_
          refine x_iload_n C d_Fo_mostBags_6 0 rfl rfl ?_
          refine x_iflt C d_Fo_mostBags_7 60 (by decide) (fun c_5 => ?_) (fun c_5 => ?_)
          · exact absurd c_5 (by decide)
          · have nc_5 := Int32.not_lt.mp c_5
            refine x_aload_n C d_Fo_mostBags_10 1 rfl rfl ?_
            refine x_iload_n C d_Fo_mostBags_11 2 rfl rfl ?_
            refine x_iconst C d_Fo_mostBags_12 (v := 4) (by decide) ?_
            refine x_iload_n C d_Fo_mostBags_13 0 rfl rfl ?_
            refine x_callVv C (c_Fo_tryWith Z p 4 (by omega) (by omega) (nI 7) (va_up g 1 (dysR (upd (becR (dysR (upd (becR (g 1) (g 0)) (pI p 4) (nI 9)) m) (g 0)) (pI p 4) (nI 8)) m)) (by rw [va_up_ne _ _ (by decide)]; exact hk0)) mi_Fo_tryWith k_443 (show 1 < 50 by omega) (e_Fo Z (sr yC (va_up g 1 (dysR (upd (becR (dysR (upd (becR (g 1) (g 0)) (pI p 4) (nI 9)) m) (g 0)) (pI p 4) (nI 8)) m)) 1)) rfl (As := [.int (nI p), .int (4), .int (nI 7)]) ⟨Nat.le_of_ble_eq_true rfl, Nat.le_of_ble_eq_true rfl⟩ rfl rfl (Nat.le_of_ble_eq_true rfl) d_Fo_mostBags_14 ?_
            refine x_eqg (g' := va_up g 1 (upd (becR (dysR (upd (becR (dysR (upd (becR (g 1) (g 0)) (pI p 4) (nI 9)) m) (g 0)) (pI p 4) (nI 8)) m) (g 0)) (pI p 4) (nI 7))) (by rw [va_up_self, va_up_ne _ _ (by decide), bx_uu]) ?_
            refine x_aload_n C d_Fo_mostBags_17 1 rfl rfl ?_
            refine gf_Fo_trial C k_110 d_Fo_mostBags_18 ?_
            refine x_iload_n C d_Fo_mostBags_21 3 rfl rfl ?_
            refine x_callVv C (c_Tu_passDays Z 1 (by omega) m (by omega) (va_up g 1 (upd (becR (dysR (upd (becR (dysR (upd (becR (g 1) (g 0)) (pI p 4) (nI 9)) m) (g 0)) (pI p 4) (nI 8)) m) (g 0)) (pI p 4) (nI 7))) _ (va_up_self _ _ _) (okR_updP (okR_bec hk0))) mi_Tu_passDays k_391 (show 14 + 12 * 1 < 50 by omega) (e_Tu Z 1 _) rfl (As := [.int (nI m)]) ⟨Nat.le_of_ble_eq_true rfl, Nat.le_of_ble_eq_true rfl⟩ rfl rfl (Nat.le_of_ble_eq_true rfl) d_Fo_mostBags_22 ?_
            refine x_eqg (g' := va_up g 1 (dysR (upd (becR (dysR (upd (becR (dysR (upd (becR (g 1) (g 0)) (pI p 4) (nI 9)) m) (g 0)) (pI p 4) (nI 8)) m) (g 0)) (pI p 4) (nI 7)) m)) (bx_uu _ _ _ _) ?_
            refine x_aload_n C d_Fo_mostBags_25 1 rfl rfl ?_
            refine gf_Fo_trial C k_110 d_Fo_mostBags_26 ?_
            refine gf_Tu_people C (by omega) k_82 d_Fo_mostBags_29 ?_
            refine x_iload_n C d_Fo_mostBags_32 2 rfl rfl ?_
            refine al_pp C (by omega) p rfl (by omega) d_Fo_mostBags_33 ?_
            refine gf_Pe_met C (by omega) (by omega) (v := dysR (upd (g 0) (pI p 4) (nI 7)) m (pI p 5)) (Eq.trans (congrFun (va_up_self _ _ _) _) ((bec_days (by simp only [pI]; omega)).at hps (by decide))) k_50 d_Fo_mostBags_34 ?_
            refine x_aload_n C d_Fo_mostBags_37 1 rfl rfl ?_
            refine gf_Fo_now C k_109 d_Fo_mostBags_38 ?_
            refine gf_Tu_people C (by omega) k_82 d_Fo_mostBags_41 ?_
            refine x_iload_n C d_Fo_mostBags_44 2 rfl rfl ?_
            refine al_pp C (by omega) p rfl (by omega) d_Fo_mostBags_45 ?_
            refine gf_Pe_met C (by omega) (by omega) (v := g 0 (pI p 5)) (congrFun (va_up_ne _ _ (by omega)) _) k_50 d_Fo_mostBags_46 ?_
            refine x_icmp_le C d_Fo_mostBags_49 54 (by decide) (fun c_6 => ?_) (fun c_6 => ?_)
            · have nc_6 := Int32.not_lt.mpr c_6
              refine x_iinc C d_Fo_mostBags_54 0 rfl (v := nI 6) (by decide) (by decide) (lv' := [(3, .int (nI 6)), (0, .ref (Z.2.1 (1))), (1, .int (nI p)), (2, .int (nI m))]) rfl ?_
              refine x_goto C d_Fo_mostBags_57 6 (by decide) ?_
              refine x_iload_n C d_Fo_mostBags_6 0 rfl rfl ?_
              refine x_iflt C d_Fo_mostBags_7 60 (by decide) (fun c_7 => ?_) (fun c_7 => ?_)
              · exact absurd c_7 (by decide)
              · have nc_7 := Int32.not_lt.mp c_7
                refine x_aload_n C d_Fo_mostBags_10 1 rfl rfl ?_
                refine x_iload_n C d_Fo_mostBags_11 2 rfl rfl ?_
                refine x_iconst C d_Fo_mostBags_12 (v := 4) (by decide) ?_
                refine x_iload_n C d_Fo_mostBags_13 0 rfl rfl ?_
                refine x_callVv C (c_Fo_tryWith Z p 4 (by omega) (by omega) (nI 6) (va_up g 1 (dysR (upd (becR (dysR (upd (becR (dysR (upd (becR (g 1) (g 0)) (pI p 4) (nI 9)) m) (g 0)) (pI p 4) (nI 8)) m) (g 0)) (pI p 4) (nI 7)) m)) (by rw [va_up_ne _ _ (by decide)]; exact hk0)) mi_Fo_tryWith k_443 (show 1 < 50 by omega) (e_Fo Z (sr yC (va_up g 1 (dysR (upd (becR (dysR (upd (becR (dysR (upd (becR (g 1) (g 0)) (pI p 4) (nI 9)) m) (g 0)) (pI p 4) (nI 8)) m) (g 0)) (pI p 4) (nI 7)) m)) 1)) rfl (As := [.int (nI p), .int (4), .int (nI 6)]) ⟨Nat.le_of_ble_eq_true rfl, Nat.le_of_ble_eq_true rfl⟩ rfl rfl (Nat.le_of_ble_eq_true rfl) d_Fo_mostBags_14 ?_
                refine x_eqg (g' := va_up g 1 (upd (becR (dysR (upd (becR (dysR (upd (becR (dysR (upd (becR (g 1) (g 0)) (pI p 4) (nI 9)) m) (g 0)) (pI p 4) (nI 8)) m) (g 0)) (pI p 4) (nI 7)) m) (g 0)) (pI p 4) (nI 6))) (by rw [va_up_self, va_up_ne _ _ (by decide), bx_uu]) ?_
                refine x_aload_n C d_Fo_mostBags_17 1 rfl rfl ?_
                refine gf_Fo_trial C k_110 d_Fo_mostBags_18 ?_
                refine x_iload_n C d_Fo_mostBags_21 3 rfl rfl ?_
                refine x_callVv C (c_Tu_passDays Z 1 (by omega) m (by omega) (va_up g 1 (upd (becR (dysR (upd (becR (dysR (upd (becR (dysR (upd (becR (g 1) (g 0)) (pI p 4) (nI 9)) m) (g 0)) (pI p 4) (nI 8)) m) (g 0)) (pI p 4) (nI 7)) m) (g 0)) (pI p 4) (nI 6))) _ (va_up_self _ _ _) (okR_updP (okR_bec hk0))) mi_Tu_passDays k_391 (show 14 + 12 * 1 < 50 by omega) (e_Tu Z 1 _) rfl (As := [.int (nI m)]) ⟨Nat.le_of_ble_eq_true rfl, Nat.le_of_ble_eq_true rfl⟩ rfl rfl (Nat.le_of_ble_eq_true rfl) d_Fo_mostBags_22 ?_
                refine x_eqg (g' := va_up g 1 (dysR (upd (becR (dysR (upd (becR (dysR (upd (becR (dysR (upd (becR (g 1) (g 0)) (pI p 4) (nI 9)) m) (g 0)) (pI p 4) (nI 8)) m) (g 0)) (pI p 4) (nI 7)) m) (g 0)) (pI p 4) (nI 6)) m)) (bx_uu _ _ _ _) ?_
                refine x_aload_n C d_Fo_mostBags_25 1 rfl rfl ?_
                refine gf_Fo_trial C k_110 d_Fo_mostBags_26 ?_
                refine gf_Tu_people C (by omega) k_82 d_Fo_mostBags_29 ?_
                refine x_iload_n C d_Fo_mostBags_32 2 rfl rfl ?_
                refine al_pp C (by omega) p rfl (by omega) d_Fo_mostBags_33 ?_
                refine gf_Pe_met C (by omega) (by omega) (v := dysR (upd (g 0) (pI p 4) (nI 6)) m (pI p 5)) (Eq.trans (congrFun (va_up_self _ _ _) _) ((bec_days (by simp only [pI]; omega)).at hps (by decide))) k_50 d_Fo_mostBags_34 ?_
                refine x_aload_n C d_Fo_mostBags_37 1 rfl rfl ?_
                refine gf_Fo_now C k_109 d_Fo_mostBags_38 ?_
                refine gf_Tu_people C (by omega) k_82 d_Fo_mostBags_41 ?_
                refine x_iload_n C d_Fo_mostBags_44 2 rfl rfl ?_
                refine al_pp C (by omega) p rfl (by omega) d_Fo_mostBags_45 ?_
                refine gf_Pe_met C (by omega) (by omega) (v := g 0 (pI p 5)) (congrFun (va_up_ne _ _ (by omega)) _) k_50 d_Fo_mostBags_46 ?_
                refine x_icmp_le C d_Fo_mostBags_49 54 (by decide) (fun c_8 => ?_) (fun c_8 => ?_)
                · have nc_8 := Int32.not_lt.mpr c_8
                  refine x_iinc C d_Fo_mostBags_54 0 rfl (v := nI 5) (by decide) (by decide) (lv' := [(3, .int (nI 5)), (0, .ref (Z.2.1 (1))), (1, .int (nI p)), (2, .int (nI m))]) rfl ?_
                  refine x_goto C d_Fo_mostBags_57 6 (by decide) ?_
                  refine x_iload_n C d_Fo_mostBags_6 0 rfl rfl ?_
                  refine x_iflt C d_Fo_mostBags_7 60 (by decide) (fun c_9 => ?_) (fun c_9 => ?_)
                  · exact absurd c_9 (by decide)
                  · have nc_9 := Int32.not_lt.mp c_9
                    refine x_aload_n C d_Fo_mostBags_10 1 rfl rfl ?_
                    refine x_iload_n C d_Fo_mostBags_11 2 rfl rfl ?_
                    refine x_iconst C d_Fo_mostBags_12 (v := 4) (by decide) ?_
                    refine x_iload_n C d_Fo_mostBags_13 0 rfl rfl ?_
                    refine x_callVv C (c_Fo_tryWith Z p 4 (by omega) (by omega) (nI 5) (va_up g 1 (dysR (upd (becR (dysR (upd (becR (dysR (upd (becR (dysR (upd (becR (g 1) (g 0)) (pI p 4) (nI 9)) m) (g 0)) (pI p 4) (nI 8)) m) (g 0)) (pI p 4) (nI 7)) m) (g 0)) (pI p 4) (nI 6)) m)) (by rw [va_up_ne _ _ (by decide)]; exact hk0)) mi_Fo_tryWith k_443 (show 1 < 50 by omega) (e_Fo Z (sr yC (va_up g 1 (dysR (upd (becR (dysR (upd (becR (dysR (upd (becR (dysR (upd (becR (g 1) (g 0)) (pI p 4) (nI 9)) m) (g 0)) (pI p 4) (nI 8)) m) (g 0)) (pI p 4) (nI 7)) m) (g 0)) (pI p 4) (nI 6)) m)) 1)) rfl (As := [.int (nI p), .int (4), .int (nI 5)]) ⟨Nat.le_of_ble_eq_true rfl, Nat.le_of_ble_eq_true rfl⟩ rfl rfl (Nat.le_of_ble_eq_true rfl) d_Fo_mostBags_14 ?_
                    refine x_eqg (g' := va_up g 1 (upd (becR (dysR (upd (becR (dysR (upd (becR (dysR (upd (becR (dysR (upd (becR (g 1) (g 0)) (pI p 4) (nI 9)) m) (g 0)) (pI p 4) (nI 8)) m) (g 0)) (pI p 4) (nI 7)) m) (g 0)) (pI p 4) (nI 6)) m) (g 0)) (pI p 4) (nI 5))) (by rw [va_up_self, va_up_ne _ _ (by decide), bx_uu]) ?_
                    refine x_aload_n C d_Fo_mostBags_17 1 rfl rfl ?_
                    refine gf_Fo_trial C k_110 d_Fo_mostBags_18 ?_
                    refine x_iload_n C d_Fo_mostBags_21 3 rfl rfl ?_
                    refine x_callVv C (c_Tu_passDays Z 1 (by omega) m (by omega) (va_up g 1 (upd (becR (dysR (upd (becR (dysR (upd (becR (dysR (upd (becR (dysR (upd (becR (g 1) (g 0)) (pI p 4) (nI 9)) m) (g 0)) (pI p 4) (nI 8)) m) (g 0)) (pI p 4) (nI 7)) m) (g 0)) (pI p 4) (nI 6)) m) (g 0)) (pI p 4) (nI 5))) _ (va_up_self _ _ _) (okR_updP (okR_bec hk0))) mi_Tu_passDays k_391 (show 14 + 12 * 1 < 50 by omega) (e_Tu Z 1 _) rfl (As := [.int (nI m)]) ⟨Nat.le_of_ble_eq_true rfl, Nat.le_of_ble_eq_true rfl⟩ rfl rfl (Nat.le_of_ble_eq_true rfl) d_Fo_mostBags_22 ?_
                    refine x_eqg (g' := va_up g 1 (dysR (upd (becR (dysR (upd (becR (dysR (upd (becR (dysR (upd (becR (dysR (upd (becR (g 1) (g 0)) (pI p 4) (nI 9)) m) (g 0)) (pI p 4) (nI 8)) m) (g 0)) (pI p 4) (nI 7)) m) (g 0)) (pI p 4) (nI 6)) m) (g 0)) (pI p 4) (nI 5)) m)) (bx_uu _ _ _ _) ?_
                    refine x_aload_n C d_Fo_mostBags_25 1 rfl rfl ?_
                    refine gf_Fo_trial C k_110 d_Fo_mostBags_26 ?_
                    refine gf_Tu_people C (by omega) k_82 d_Fo_mostBags_29 ?_
                    refine x_iload_n C d_Fo_mostBags_32 2 rfl rfl ?_
                    refine al_pp C (by omega) p rfl (by omega) d_Fo_mostBags_33 ?_
                    refine gf_Pe_met C (by omega) (by omega) (v := dysR (upd (g 0) (pI p 4) (nI 5)) m (pI p 5)) (Eq.trans (congrFun (va_up_self _ _ _) _) ((bec_days (by simp only [pI]; omega)).at hps (by decide))) k_50 d_Fo_mostBags_34 ?_
                    refine x_aload_n C d_Fo_mostBags_37 1 rfl rfl ?_
                    refine gf_Fo_now C k_109 d_Fo_mostBags_38 ?_
                    refine gf_Tu_people C (by omega) k_82 d_Fo_mostBags_41 ?_
                    refine x_iload_n C d_Fo_mostBags_44 2 rfl rfl ?_
                    refine al_pp C (by omega) p rfl (by omega) d_Fo_mostBags_45 ?_
                    refine gf_Pe_met C (by omega) (by omega) (v := g 0 (pI p 5)) (congrFun (va_up_ne _ _ (by omega)) _) k_50 d_Fo_mostBags_46 ?_
                    refine x_icmp_le C d_Fo_mostBags_49 54 (by decide) (fun c_10 => ?_) (fun c_10 => ?_)
                    · have nc_10 := Int32.not_lt.mpr c_10
                      refine x_iinc C d_Fo_mostBags_54 0 rfl (v := nI 4) (by decide) (by decide) (lv' := [(3, .int (nI 4)), (0, .ref (Z.2.1 (1))), (1, .int (nI p)), (2, .int (nI m))]) rfl ?_
                      refine x_goto C d_Fo_mostBags_57 6 (by decide) ?_
                      refine x_iload_n C d_Fo_mostBags_6 0 rfl rfl ?_
                      refine x_iflt C d_Fo_mostBags_7 60 (by decide) (fun c_11 => ?_) (fun c_11 => ?_)
                      · exact absurd c_11 (by decide)
                      · have nc_11 := Int32.not_lt.mp c_11
                        refine x_aload_n C d_Fo_mostBags_10 1 rfl rfl ?_
                        refine x_iload_n C d_Fo_mostBags_11 2 rfl rfl ?_
                        refine x_iconst C d_Fo_mostBags_12 (v := 4) (by decide) ?_
                        refine x_iload_n C d_Fo_mostBags_13 0 rfl rfl ?_
                        refine x_callVv C (c_Fo_tryWith Z p 4 (by omega) (by omega) (nI 4) (va_up g 1 (dysR (upd (becR (dysR (upd (becR (dysR (upd (becR (dysR (upd (becR (dysR (upd (becR (g 1) (g 0)) (pI p 4) (nI 9)) m) (g 0)) (pI p 4) (nI 8)) m) (g 0)) (pI p 4) (nI 7)) m) (g 0)) (pI p 4) (nI 6)) m) (g 0)) (pI p 4) (nI 5)) m)) (by rw [va_up_ne _ _ (by decide)]; exact hk0)) mi_Fo_tryWith k_443 (show 1 < 50 by omega) (e_Fo Z (sr yC (va_up g 1 (dysR (upd (becR (dysR (upd (becR (dysR (upd (becR (dysR (upd (becR (dysR (upd (becR (g 1) (g 0)) (pI p 4) (nI 9)) m) (g 0)) (pI p 4) (nI 8)) m) (g 0)) (pI p 4) (nI 7)) m) (g 0)) (pI p 4) (nI 6)) m) (g 0)) (pI p 4) (nI 5)) m)) 1)) rfl (As := [.int (nI p), .int (4), .int (nI 4)]) ⟨Nat.le_of_ble_eq_true rfl, Nat.le_of_ble_eq_true rfl⟩ rfl rfl (Nat.le_of_ble_eq_true rfl) d_Fo_mostBags_14 ?_
                        refine x_eqg (g' := va_up g 1 (upd (becR (dysR (upd (becR (dysR (upd (becR (dysR (upd (becR (dysR (upd (becR (dysR (upd (becR (g 1) (g 0)) (pI p 4) (nI 9)) m) (g 0)) (pI p 4) (nI 8)) m) (g 0)) (pI p 4) (nI 7)) m) (g 0)) (pI p 4) (nI 6)) m) (g 0)) (pI p 4) (nI 5)) m) (g 0)) (pI p 4) (nI 4))) (by rw [va_up_self, va_up_ne _ _ (by decide), bx_uu]) ?_
                        refine x_aload_n C d_Fo_mostBags_17 1 rfl rfl ?_
                        refine gf_Fo_trial C k_110 d_Fo_mostBags_18 ?_
                        refine x_iload_n C d_Fo_mostBags_21 3 rfl rfl ?_
                        refine x_callVv C (c_Tu_passDays Z 1 (by omega) m (by omega) (va_up g 1 (upd (becR (dysR (upd (becR (dysR (upd (becR (dysR (upd (becR (dysR (upd (becR (dysR (upd (becR (g 1) (g 0)) (pI p 4) (nI 9)) m) (g 0)) (pI p 4) (nI 8)) m) (g 0)) (pI p 4) (nI 7)) m) (g 0)) (pI p 4) (nI 6)) m) (g 0)) (pI p 4) (nI 5)) m) (g 0)) (pI p 4) (nI 4))) _ (va_up_self _ _ _) (okR_updP (okR_bec hk0))) mi_Tu_passDays k_391 (show 14 + 12 * 1 < 50 by omega) (e_Tu Z 1 _) rfl (As := [.int (nI m)]) ⟨Nat.le_of_ble_eq_true rfl, Nat.le_of_ble_eq_true rfl⟩ rfl rfl (Nat.le_of_ble_eq_true rfl) d_Fo_mostBags_22 ?_
                        refine x_eqg (g' := va_up g 1 (dysR (upd (becR (dysR (upd (becR (dysR (upd (becR (dysR (upd (becR (dysR (upd (becR (dysR (upd (becR (g 1) (g 0)) (pI p 4) (nI 9)) m) (g 0)) (pI p 4) (nI 8)) m) (g 0)) (pI p 4) (nI 7)) m) (g 0)) (pI p 4) (nI 6)) m) (g 0)) (pI p 4) (nI 5)) m) (g 0)) (pI p 4) (nI 4)) m)) (bx_uu _ _ _ _) ?_
                        refine x_aload_n C d_Fo_mostBags_25 1 rfl rfl ?_
                        refine gf_Fo_trial C k_110 d_Fo_mostBags_26 ?_
                        refine gf_Tu_people C (by omega) k_82 d_Fo_mostBags_29 ?_
                        refine x_iload_n C d_Fo_mostBags_32 2 rfl rfl ?_
                        refine al_pp C (by omega) p rfl (by omega) d_Fo_mostBags_33 ?_
                        refine gf_Pe_met C (by omega) (by omega) (v := dysR (upd (g 0) (pI p 4) (nI 4)) m (pI p 5)) (Eq.trans (congrFun (va_up_self _ _ _) _) ((bec_days (by simp only [pI]; omega)).at hps (by decide))) k_50 d_Fo_mostBags_34 ?_
                        refine x_aload_n C d_Fo_mostBags_37 1 rfl rfl ?_
                        refine gf_Fo_now C k_109 d_Fo_mostBags_38 ?_
                        refine gf_Tu_people C (by omega) k_82 d_Fo_mostBags_41 ?_
                        refine x_iload_n C d_Fo_mostBags_44 2 rfl rfl ?_
                        refine al_pp C (by omega) p rfl (by omega) d_Fo_mostBags_45 ?_
                        refine gf_Pe_met C (by omega) (by omega) (v := g 0 (pI p 5)) (congrFun (va_up_ne _ _ (by omega)) _) k_50 d_Fo_mostBags_46 ?_
                        refine x_icmp_le C d_Fo_mostBags_49 54 (by decide) (fun c_12 => ?_) (fun c_12 => ?_)
                        · have nc_12 := Int32.not_lt.mpr c_12
                          refine x_iinc C d_Fo_mostBags_54 0 rfl (v := nI 3) (by decide) (by decide) (lv' := [(3, .int (nI 3)), (0, .ref (Z.2.1 (1))), (1, .int (nI p)), (2, .int (nI m))]) rfl ?_
                          refine x_goto C d_Fo_mostBags_57 6 (by decide) ?_
                          refine x_iload_n C d_Fo_mostBags_6 0 rfl rfl ?_
                          refine x_iflt C d_Fo_mostBags_7 60 (by decide) (fun c_13 => ?_) (fun c_13 => ?_)
                          · exact absurd c_13 (by decide)
                          · have nc_13 := Int32.not_lt.mp c_13
                            refine x_aload_n C d_Fo_mostBags_10 1 rfl rfl ?_
                            refine x_iload_n C d_Fo_mostBags_11 2 rfl rfl ?_
                            refine x_iconst C d_Fo_mostBags_12 (v := 4) (by decide) ?_
                            refine x_iload_n C d_Fo_mostBags_13 0 rfl rfl ?_
                            refine x_callVv C (c_Fo_tryWith Z p 4 (by omega) (by omega) (nI 3) (va_up g 1 (dysR (upd (becR (dysR (upd (becR (dysR (upd (becR (dysR (upd (becR (dysR (upd (becR (dysR (upd (becR (g 1) (g 0)) (pI p 4) (nI 9)) m) (g 0)) (pI p 4) (nI 8)) m) (g 0)) (pI p 4) (nI 7)) m) (g 0)) (pI p 4) (nI 6)) m) (g 0)) (pI p 4) (nI 5)) m) (g 0)) (pI p 4) (nI 4)) m)) (by rw [va_up_ne _ _ (by decide)]; exact hk0)) mi_Fo_tryWith k_443 (show 1 < 50 by omega) (e_Fo Z (sr yC (va_up g 1 (dysR (upd (becR (dysR (upd (becR (dysR (upd (becR (dysR (upd (becR (dysR (upd (becR (dysR (upd (becR (g 1) (g 0)) (pI p 4) (nI 9)) m) (g 0)) (pI p 4) (nI 8)) m) (g 0)) (pI p 4) (nI 7)) m) (g 0)) (pI p 4) (nI 6)) m) (g 0)) (pI p 4) (nI 5)) m) (g 0)) (pI p 4) (nI 4)) m)) 1)) rfl (As := [.int (nI p), .int (4), .int (nI 3)]) ⟨Nat.le_of_ble_eq_true rfl, Nat.le_of_ble_eq_true rfl⟩ rfl rfl (Nat.le_of_ble_eq_true rfl) d_Fo_mostBags_14 ?_
                            refine x_eqg (g' := va_up g 1 (upd (becR (dysR (upd (becR (dysR (upd (becR (dysR (upd (becR (dysR (upd (becR (dysR (upd (becR (dysR (upd (becR (g 1) (g 0)) (pI p 4) (nI 9)) m) (g 0)) (pI p 4) (nI 8)) m) (g 0)) (pI p 4) (nI 7)) m) (g 0)) (pI p 4) (nI 6)) m) (g 0)) (pI p 4) (nI 5)) m) (g 0)) (pI p 4) (nI 4)) m) (g 0)) (pI p 4) (nI 3))) (by rw [va_up_self, va_up_ne _ _ (by decide), bx_uu]) ?_
                            refine x_aload_n C d_Fo_mostBags_17 1 rfl rfl ?_
                            refine gf_Fo_trial C k_110 d_Fo_mostBags_18 ?_
                            refine x_iload_n C d_Fo_mostBags_21 3 rfl rfl ?_
                            refine x_callVv C (c_Tu_passDays Z 1 (by omega) m (by omega) (va_up g 1 (upd (becR (dysR (upd (becR (dysR (upd (becR (dysR (upd (becR (dysR (upd (becR (dysR (upd (becR (dysR (upd (becR (g 1) (g 0)) (pI p 4) (nI 9)) m) (g 0)) (pI p 4) (nI 8)) m) (g 0)) (pI p 4) (nI 7)) m) (g 0)) (pI p 4) (nI 6)) m) (g 0)) (pI p 4) (nI 5)) m) (g 0)) (pI p 4) (nI 4)) m) (g 0)) (pI p 4) (nI 3))) _ (va_up_self _ _ _) (okR_updP (okR_bec hk0))) mi_Tu_passDays k_391 (show 14 + 12 * 1 < 50 by omega) (e_Tu Z 1 _) rfl (As := [.int (nI m)]) ⟨Nat.le_of_ble_eq_true rfl, Nat.le_of_ble_eq_true rfl⟩ rfl rfl (Nat.le_of_ble_eq_true rfl) d_Fo_mostBags_22 ?_
                            refine x_eqg (g' := va_up g 1 (dysR (upd (becR (dysR (upd (becR (dysR (upd (becR (dysR (upd (becR (dysR (upd (becR (dysR (upd (becR (dysR (upd (becR (g 1) (g 0)) (pI p 4) (nI 9)) m) (g 0)) (pI p 4) (nI 8)) m) (g 0)) (pI p 4) (nI 7)) m) (g 0)) (pI p 4) (nI 6)) m) (g 0)) (pI p 4) (nI 5)) m) (g 0)) (pI p 4) (nI 4)) m) (g 0)) (pI p 4) (nI 3)) m)) (bx_uu _ _ _ _) ?_
                            refine x_aload_n C d_Fo_mostBags_25 1 rfl rfl ?_
                            refine gf_Fo_trial C k_110 d_Fo_mostBags_26 ?_
                            refine gf_Tu_people C (by omega) k_82 d_Fo_mostBags_29 ?_
                            refine x_iload_n C d_Fo_mostBags_32 2 rfl rfl ?_
                            refine al_pp C (by omega) p rfl (by omega) d_Fo_mostBags_33 ?_
                            refine gf_Pe_met C (by omega) (by omega) (v := dysR (upd (g 0) (pI p 4) (nI 3)) m (pI p 5)) (Eq.trans (congrFun (va_up_self _ _ _) _) ((bec_days (by simp only [pI]; omega)).at hps (by decide))) k_50 d_Fo_mostBags_34 ?_
                            refine x_aload_n C d_Fo_mostBags_37 1 rfl rfl ?_
                            refine gf_Fo_now C k_109 d_Fo_mostBags_38 ?_
                            refine gf_Tu_people C (by omega) k_82 d_Fo_mostBags_41 ?_
                            refine x_iload_n C d_Fo_mostBags_44 2 rfl rfl ?_
                            refine al_pp C (by omega) p rfl (by omega) d_Fo_mostBags_45 ?_
                            refine gf_Pe_met C (by omega) (by omega) (v := g 0 (pI p 5)) (congrFun (va_up_ne _ _ (by omega)) _) k_50 d_Fo_mostBags_46 ?_
                            refine x_icmp_le C d_Fo_mostBags_49 54 (by decide) (fun c_14 => ?_) (fun c_14 => ?_)
                            · have nc_14 := Int32.not_lt.mpr c_14
                              refine x_iinc C d_Fo_mostBags_54 0 rfl (v := nI 2) (by decide) (by decide) (lv' := [(3, .int (nI 2)), (0, .ref (Z.2.1 (1))), (1, .int (nI p)), (2, .int (nI m))]) rfl ?_
                              refine x_goto C d_Fo_mostBags_57 6 (by decide) ?_
                              refine x_iload_n C d_Fo_mostBags_6 0 rfl rfl ?_
                              refine x_iflt C d_Fo_mostBags_7 60 (by decide) (fun c_15 => ?_) (fun c_15 => ?_)
                              · exact absurd c_15 (by decide)
                              · have nc_15 := Int32.not_lt.mp c_15
                                refine x_aload_n C d_Fo_mostBags_10 1 rfl rfl ?_
                                refine x_iload_n C d_Fo_mostBags_11 2 rfl rfl ?_
                                refine x_iconst C d_Fo_mostBags_12 (v := 4) (by decide) ?_
                                refine x_iload_n C d_Fo_mostBags_13 0 rfl rfl ?_
                                refine x_callVv C (c_Fo_tryWith Z p 4 (by omega) (by omega) (nI 2) (va_up g 1 (dysR (upd (becR (dysR (upd (becR (dysR (upd (becR (dysR (upd (becR (dysR (upd (becR (dysR (upd (becR (dysR (upd (becR (g 1) (g 0)) (pI p 4) (nI 9)) m) (g 0)) (pI p 4) (nI 8)) m) (g 0)) (pI p 4) (nI 7)) m) (g 0)) (pI p 4) (nI 6)) m) (g 0)) (pI p 4) (nI 5)) m) (g 0)) (pI p 4) (nI 4)) m) (g 0)) (pI p 4) (nI 3)) m)) (by rw [va_up_ne _ _ (by decide)]; exact hk0)) mi_Fo_tryWith k_443 (show 1 < 50 by omega) (e_Fo Z (sr yC (va_up g 1 (dysR (upd (becR (dysR (upd (becR (dysR (upd (becR (dysR (upd (becR (dysR (upd (becR (dysR (upd (becR (dysR (upd (becR (g 1) (g 0)) (pI p 4) (nI 9)) m) (g 0)) (pI p 4) (nI 8)) m) (g 0)) (pI p 4) (nI 7)) m) (g 0)) (pI p 4) (nI 6)) m) (g 0)) (pI p 4) (nI 5)) m) (g 0)) (pI p 4) (nI 4)) m) (g 0)) (pI p 4) (nI 3)) m)) 1)) rfl (As := [.int (nI p), .int (4), .int (nI 2)]) ⟨Nat.le_of_ble_eq_true rfl, Nat.le_of_ble_eq_true rfl⟩ rfl rfl (Nat.le_of_ble_eq_true rfl) d_Fo_mostBags_14 ?_
                                refine x_eqg (g' := va_up g 1 (upd (becR (dysR (upd (becR (dysR (upd (becR (dysR (upd (becR (dysR (upd (becR (dysR (upd (becR (dysR (upd (becR (dysR (upd (becR (g 1) (g 0)) (pI p 4) (nI 9)) m) (g 0)) (pI p 4) (nI 8)) m) (g 0)) (pI p 4) (nI 7)) m) (g 0)) (pI p 4) (nI 6)) m) (g 0)) (pI p 4) (nI 5)) m) (g 0)) (pI p 4) (nI 4)) m) (g 0)) (pI p 4) (nI 3)) m) (g 0)) (pI p 4) (nI 2))) (by rw [va_up_self, va_up_ne _ _ (by decide), bx_uu]) ?_
                                refine x_aload_n C d_Fo_mostBags_17 1 rfl rfl ?_
                                refine gf_Fo_trial C k_110 d_Fo_mostBags_18 ?_
                                refine x_iload_n C d_Fo_mostBags_21 3 rfl rfl ?_
                                refine x_callVv C (c_Tu_passDays Z 1 (by omega) m (by omega) (va_up g 1 (upd (becR (dysR (upd (becR (dysR (upd (becR (dysR (upd (becR (dysR (upd (becR (dysR (upd (becR (dysR (upd (becR (dysR (upd (becR (g 1) (g 0)) (pI p 4) (nI 9)) m) (g 0)) (pI p 4) (nI 8)) m) (g 0)) (pI p 4) (nI 7)) m) (g 0)) (pI p 4) (nI 6)) m) (g 0)) (pI p 4) (nI 5)) m) (g 0)) (pI p 4) (nI 4)) m) (g 0)) (pI p 4) (nI 3)) m) (g 0)) (pI p 4) (nI 2))) _ (va_up_self _ _ _) (okR_updP (okR_bec hk0))) mi_Tu_passDays k_391 (show 14 + 12 * 1 < 50 by omega) (e_Tu Z 1 _) rfl (As := [.int (nI m)]) ⟨Nat.le_of_ble_eq_true rfl, Nat.le_of_ble_eq_true rfl⟩ rfl rfl (Nat.le_of_ble_eq_true rfl) d_Fo_mostBags_22 ?_
                                refine x_eqg (g' := va_up g 1 (dysR (upd (becR (dysR (upd (becR (dysR (upd (becR (dysR (upd (becR (dysR (upd (becR (dysR (upd (becR (dysR (upd (becR (dysR (upd (becR (g 1) (g 0)) (pI p 4) (nI 9)) m) (g 0)) (pI p 4) (nI 8)) m) (g 0)) (pI p 4) (nI 7)) m) (g 0)) (pI p 4) (nI 6)) m) (g 0)) (pI p 4) (nI 5)) m) (g 0)) (pI p 4) (nI 4)) m) (g 0)) (pI p 4) (nI 3)) m) (g 0)) (pI p 4) (nI 2)) m)) (bx_uu _ _ _ _) ?_
                                refine x_aload_n C d_Fo_mostBags_25 1 rfl rfl ?_
                                refine gf_Fo_trial C k_110 d_Fo_mostBags_26 ?_
                                refine gf_Tu_people C (by omega) k_82 d_Fo_mostBags_29 ?_
                                refine x_iload_n C d_Fo_mostBags_32 2 rfl rfl ?_
                                refine al_pp C (by omega) p rfl (by omega) d_Fo_mostBags_33 ?_
                                refine gf_Pe_met C (by omega) (by omega) (v := dysR (upd (g 0) (pI p 4) (nI 2)) m (pI p 5)) (Eq.trans (congrFun (va_up_self _ _ _) _) ((bec_days (by simp only [pI]; omega)).at hps (by decide))) k_50 d_Fo_mostBags_34 ?_
                                refine x_aload_n C d_Fo_mostBags_37 1 rfl rfl ?_
                                refine gf_Fo_now C k_109 d_Fo_mostBags_38 ?_
                                refine gf_Tu_people C (by omega) k_82 d_Fo_mostBags_41 ?_
                                refine x_iload_n C d_Fo_mostBags_44 2 rfl rfl ?_
                                refine al_pp C (by omega) p rfl (by omega) d_Fo_mostBags_45 ?_
                                refine gf_Pe_met C (by omega) (by omega) (v := g 0 (pI p 5)) (congrFun (va_up_ne _ _ (by omega)) _) k_50 d_Fo_mostBags_46 ?_
                                refine x_icmp_le C d_Fo_mostBags_49 54 (by decide) (fun c_16 => ?_) (fun c_16 => ?_)
                                · have nc_16 := Int32.not_lt.mpr c_16
                                  refine x_iinc C d_Fo_mostBags_54 0 rfl (v := nI 1) (by decide) (by decide) (lv' := [(3, .int (nI 1)), (0, .ref (Z.2.1 (1))), (1, .int (nI p)), (2, .int (nI m))]) rfl ?_
                                  refine x_goto C d_Fo_mostBags_57 6 (by decide) ?_
                                  refine x_iload_n C d_Fo_mostBags_6 0 rfl rfl ?_
                                  refine x_iflt C d_Fo_mostBags_7 60 (by decide) (fun c_17 => ?_) (fun c_17 => ?_)
                                  · exact absurd c_17 (by decide)
                                  · have nc_17 := Int32.not_lt.mp c_17
                                    refine x_aload_n C d_Fo_mostBags_10 1 rfl rfl ?_
                                    refine x_iload_n C d_Fo_mostBags_11 2 rfl rfl ?_
                                    refine x_iconst C d_Fo_mostBags_12 (v := 4) (by decide) ?_
                                    refine x_iload_n C d_Fo_mostBags_13 0 rfl rfl ?_
                                    refine x_callVv C (c_Fo_tryWith Z p 4 (by omega) (by omega) (nI 1) (va_up g 1 (dysR (upd (becR (dysR (upd (becR (dysR (upd (becR (dysR (upd (becR (dysR (upd (becR (dysR (upd (becR (dysR (upd (becR (dysR (upd (becR (g 1) (g 0)) (pI p 4) (nI 9)) m) (g 0)) (pI p 4) (nI 8)) m) (g 0)) (pI p 4) (nI 7)) m) (g 0)) (pI p 4) (nI 6)) m) (g 0)) (pI p 4) (nI 5)) m) (g 0)) (pI p 4) (nI 4)) m) (g 0)) (pI p 4) (nI 3)) m) (g 0)) (pI p 4) (nI 2)) m)) (by rw [va_up_ne _ _ (by decide)]; exact hk0)) mi_Fo_tryWith k_443 (show 1 < 50 by omega) (e_Fo Z (sr yC (va_up g 1 (dysR (upd (becR (dysR (upd (becR (dysR (upd (becR (dysR (upd (becR (dysR (upd (becR (dysR (upd (becR (dysR (upd (becR (dysR (upd (becR (g 1) (g 0)) (pI p 4) (nI 9)) m) (g 0)) (pI p 4) (nI 8)) m) (g 0)) (pI p 4) (nI 7)) m) (g 0)) (pI p 4) (nI 6)) m) (g 0)) (pI p 4) (nI 5)) m) (g 0)) (pI p 4) (nI 4)) m) (g 0)) (pI p 4) (nI 3)) m) (g 0)) (pI p 4) (nI 2)) m)) 1)) rfl (As := [.int (nI p), .int (4), .int (nI 1)]) ⟨Nat.le_of_ble_eq_true rfl, Nat.le_of_ble_eq_true rfl⟩ rfl rfl (Nat.le_of_ble_eq_true rfl) d_Fo_mostBags_14 ?_
                                    refine x_eqg (g' := va_up g 1 (upd (becR (dysR (upd (becR (dysR (upd (becR (dysR (upd (becR (dysR (upd (becR (dysR (upd (becR (dysR (upd (becR (dysR (upd (becR (dysR (upd (becR (g 1) (g 0)) (pI p 4) (nI 9)) m) (g 0)) (pI p 4) (nI 8)) m) (g 0)) (pI p 4) (nI 7)) m) (g 0)) (pI p 4) (nI 6)) m) (g 0)) (pI p 4) (nI 5)) m) (g 0)) (pI p 4) (nI 4)) m) (g 0)) (pI p 4) (nI 3)) m) (g 0)) (pI p 4) (nI 2)) m) (g 0)) (pI p 4) (nI 1))) (by rw [va_up_self, va_up_ne _ _ (by decide), bx_uu]) ?_
                                    refine x_aload_n C d_Fo_mostBags_17 1 rfl rfl ?_
                                    refine gf_Fo_trial C k_110 d_Fo_mostBags_18 ?_
                                    refine x_iload_n C d_Fo_mostBags_21 3 rfl rfl ?_
                                    refine x_callVv C (c_Tu_passDays Z 1 (by omega) m (by omega) (va_up g 1 (upd (becR (dysR (upd (becR (dysR (upd (becR (dysR (upd (becR (dysR (upd (becR (dysR (upd (becR (dysR (upd (becR (dysR (upd (becR (dysR (upd (becR (g 1) (g 0)) (pI p 4) (nI 9)) m) (g 0)) (pI p 4) (nI 8)) m) (g 0)) (pI p 4) (nI 7)) m) (g 0)) (pI p 4) (nI 6)) m) (g 0)) (pI p 4) (nI 5)) m) (g 0)) (pI p 4) (nI 4)) m) (g 0)) (pI p 4) (nI 3)) m) (g 0)) (pI p 4) (nI 2)) m) (g 0)) (pI p 4) (nI 1))) _ (va_up_self _ _ _) (okR_updP (okR_bec hk0))) mi_Tu_passDays k_391 (show 14 + 12 * 1 < 50 by omega) (e_Tu Z 1 _) rfl (As := [.int (nI m)]) ⟨Nat.le_of_ble_eq_true rfl, Nat.le_of_ble_eq_true rfl⟩ rfl rfl (Nat.le_of_ble_eq_true rfl) d_Fo_mostBags_22 ?_
                                    refine x_eqg (g' := va_up g 1 (dysR (upd (becR (dysR (upd (becR (dysR (upd (becR (dysR (upd (becR (dysR (upd (becR (dysR (upd (becR (dysR (upd (becR (dysR (upd (becR (dysR (upd (becR (g 1) (g 0)) (pI p 4) (nI 9)) m) (g 0)) (pI p 4) (nI 8)) m) (g 0)) (pI p 4) (nI 7)) m) (g 0)) (pI p 4) (nI 6)) m) (g 0)) (pI p 4) (nI 5)) m) (g 0)) (pI p 4) (nI 4)) m) (g 0)) (pI p 4) (nI 3)) m) (g 0)) (pI p 4) (nI 2)) m) (g 0)) (pI p 4) (nI 1)) m)) (bx_uu _ _ _ _) ?_
                                    refine x_aload_n C d_Fo_mostBags_25 1 rfl rfl ?_
                                    refine gf_Fo_trial C k_110 d_Fo_mostBags_26 ?_
                                    refine gf_Tu_people C (by omega) k_82 d_Fo_mostBags_29 ?_
                                    refine x_iload_n C d_Fo_mostBags_32 2 rfl rfl ?_
                                    refine al_pp C (by omega) p rfl (by omega) d_Fo_mostBags_33 ?_
                                    refine gf_Pe_met C (by omega) (by omega) (v := dysR (upd (g 0) (pI p 4) (nI 1)) m (pI p 5)) (Eq.trans (congrFun (va_up_self _ _ _) _) ((bec_days (by simp only [pI]; omega)).at hps (by decide))) k_50 d_Fo_mostBags_34 ?_
                                    refine x_aload_n C d_Fo_mostBags_37 1 rfl rfl ?_
                                    refine gf_Fo_now C k_109 d_Fo_mostBags_38 ?_
                                    refine gf_Tu_people C (by omega) k_82 d_Fo_mostBags_41 ?_
                                    refine x_iload_n C d_Fo_mostBags_44 2 rfl rfl ?_
                                    refine al_pp C (by omega) p rfl (by omega) d_Fo_mostBags_45 ?_
                                    refine gf_Pe_met C (by omega) (by omega) (v := g 0 (pI p 5)) (congrFun (va_up_ne _ _ (by omega)) _) k_50 d_Fo_mostBags_46 ?_
                                    refine x_icmp_le C d_Fo_mostBags_49 54 (by decide) (fun c_18 => ?_) (fun c_18 => ?_)
                                    · have nc_18 := Int32.not_lt.mpr c_18
                                      refine x_iinc C d_Fo_mostBags_54 0 rfl (v := nI 0) (by decide) (by decide) (lv' := [(3, .int (nI 0)), (0, .ref (Z.2.1 (1))), (1, .int (nI p)), (2, .int (nI m))]) rfl ?_
                                      refine x_goto C d_Fo_mostBags_57 6 (by decide) ?_
                                      refine x_iload_n C d_Fo_mostBags_6 0 rfl rfl ?_
                                      refine x_iflt C d_Fo_mostBags_7 60 (by decide) (fun c_19 => ?_) (fun c_19 => ?_)
                                      · exact absurd c_19 (by decide)
                                      · have nc_19 := Int32.not_lt.mp c_19
                                        refine x_aload_n C d_Fo_mostBags_10 1 rfl rfl ?_
                                        refine x_iload_n C d_Fo_mostBags_11 2 rfl rfl ?_
                                        refine x_iconst C d_Fo_mostBags_12 (v := 4) (by decide) ?_
                                        refine x_iload_n C d_Fo_mostBags_13 0 rfl rfl ?_
                                        refine x_callVv C (c_Fo_tryWith Z p 4 (by omega) (by omega) (nI 0) (va_up g 1 (dysR (upd (becR (dysR (upd (becR (dysR (upd (becR (dysR (upd (becR (dysR (upd (becR (dysR (upd (becR (dysR (upd (becR (dysR (upd (becR (dysR (upd (becR (g 1) (g 0)) (pI p 4) (nI 9)) m) (g 0)) (pI p 4) (nI 8)) m) (g 0)) (pI p 4) (nI 7)) m) (g 0)) (pI p 4) (nI 6)) m) (g 0)) (pI p 4) (nI 5)) m) (g 0)) (pI p 4) (nI 4)) m) (g 0)) (pI p 4) (nI 3)) m) (g 0)) (pI p 4) (nI 2)) m) (g 0)) (pI p 4) (nI 1)) m)) (by rw [va_up_ne _ _ (by decide)]; exact hk0)) mi_Fo_tryWith k_443 (show 1 < 50 by omega) (e_Fo Z (sr yC (va_up g 1 (dysR (upd (becR (dysR (upd (becR (dysR (upd (becR (dysR (upd (becR (dysR (upd (becR (dysR (upd (becR (dysR (upd (becR (dysR (upd (becR (dysR (upd (becR (g 1) (g 0)) (pI p 4) (nI 9)) m) (g 0)) (pI p 4) (nI 8)) m) (g 0)) (pI p 4) (nI 7)) m) (g 0)) (pI p 4) (nI 6)) m) (g 0)) (pI p 4) (nI 5)) m) (g 0)) (pI p 4) (nI 4)) m) (g 0)) (pI p 4) (nI 3)) m) (g 0)) (pI p 4) (nI 2)) m) (g 0)) (pI p 4) (nI 1)) m)) 1)) rfl (As := [.int (nI p), .int (4), .int (nI 0)]) ⟨Nat.le_of_ble_eq_true rfl, Nat.le_of_ble_eq_true rfl⟩ rfl rfl (Nat.le_of_ble_eq_true rfl) d_Fo_mostBags_14 ?_
                                        refine x_eqg (g' := va_up g 1 (upd (becR (dysR (upd (becR (dysR (upd (becR (dysR (upd (becR (dysR (upd (becR (dysR (upd (becR (dysR (upd (becR (dysR (upd (becR (dysR (upd (becR (dysR (upd (becR (g 1) (g 0)) (pI p 4) (nI 9)) m) (g 0)) (pI p 4) (nI 8)) m) (g 0)) (pI p 4) (nI 7)) m) (g 0)) (pI p 4) (nI 6)) m) (g 0)) (pI p 4) (nI 5)) m) (g 0)) (pI p 4) (nI 4)) m) (g 0)) (pI p 4) (nI 3)) m) (g 0)) (pI p 4) (nI 2)) m) (g 0)) (pI p 4) (nI 1)) m) (g 0)) (pI p 4) (nI 0))) (by rw [va_up_self, va_up_ne _ _ (by decide), bx_uu]) ?_
                                        refine x_aload_n C d_Fo_mostBags_17 1 rfl rfl ?_
                                        refine gf_Fo_trial C k_110 d_Fo_mostBags_18 ?_
                                        refine x_iload_n C d_Fo_mostBags_21 3 rfl rfl ?_
                                        refine x_callVv C (c_Tu_passDays Z 1 (by omega) m (by omega) (va_up g 1 (upd (becR (dysR (upd (becR (dysR (upd (becR (dysR (upd (becR (dysR (upd (becR (dysR (upd (becR (dysR (upd (becR (dysR (upd (becR (dysR (upd (becR (dysR (upd (becR (g 1) (g 0)) (pI p 4) (nI 9)) m) (g 0)) (pI p 4) (nI 8)) m) (g 0)) (pI p 4) (nI 7)) m) (g 0)) (pI p 4) (nI 6)) m) (g 0)) (pI p 4) (nI 5)) m) (g 0)) (pI p 4) (nI 4)) m) (g 0)) (pI p 4) (nI 3)) m) (g 0)) (pI p 4) (nI 2)) m) (g 0)) (pI p 4) (nI 1)) m) (g 0)) (pI p 4) (nI 0))) _ (va_up_self _ _ _) (okR_updP (okR_bec hk0))) mi_Tu_passDays k_391 (show 14 + 12 * 1 < 50 by omega) (e_Tu Z 1 _) rfl (As := [.int (nI m)]) ⟨Nat.le_of_ble_eq_true rfl, Nat.le_of_ble_eq_true rfl⟩ rfl rfl (Nat.le_of_ble_eq_true rfl) d_Fo_mostBags_22 ?_
                                        refine x_eqg (g' := va_up g 1 (dysR (upd (becR (dysR (upd (becR (dysR (upd (becR (dysR (upd (becR (dysR (upd (becR (dysR (upd (becR (dysR (upd (becR (dysR (upd (becR (dysR (upd (becR (dysR (upd (becR (g 1) (g 0)) (pI p 4) (nI 9)) m) (g 0)) (pI p 4) (nI 8)) m) (g 0)) (pI p 4) (nI 7)) m) (g 0)) (pI p 4) (nI 6)) m) (g 0)) (pI p 4) (nI 5)) m) (g 0)) (pI p 4) (nI 4)) m) (g 0)) (pI p 4) (nI 3)) m) (g 0)) (pI p 4) (nI 2)) m) (g 0)) (pI p 4) (nI 1)) m) (g 0)) (pI p 4) (nI 0)) m)) (bx_uu _ _ _ _) ?_
                                        refine x_aload_n C d_Fo_mostBags_25 1 rfl rfl ?_
                                        refine gf_Fo_trial C k_110 d_Fo_mostBags_26 ?_
                                        refine gf_Tu_people C (by omega) k_82 d_Fo_mostBags_29 ?_
                                        refine x_iload_n C d_Fo_mostBags_32 2 rfl rfl ?_
                                        refine al_pp C (by omega) p rfl (by omega) d_Fo_mostBags_33 ?_
                                        refine gf_Pe_met C (by omega) (by omega) (v := dysR (upd (g 0) (pI p 4) (nI 0)) m (pI p 5)) (Eq.trans (congrFun (va_up_self _ _ _) _) ((bec_days (by simp only [pI]; omega)).at hps (by decide))) k_50 d_Fo_mostBags_34 ?_
                                        refine x_aload_n C d_Fo_mostBags_37 1 rfl rfl ?_
                                        refine gf_Fo_now C k_109 d_Fo_mostBags_38 ?_
                                        refine gf_Tu_people C (by omega) k_82 d_Fo_mostBags_41 ?_
                                        refine x_iload_n C d_Fo_mostBags_44 2 rfl rfl ?_
                                        refine al_pp C (by omega) p rfl (by omega) d_Fo_mostBags_45 ?_
                                        refine gf_Pe_met C (by omega) (by omega) (v := g 0 (pI p 5)) (congrFun (va_up_ne _ _ (by omega)) _) k_50 d_Fo_mostBags_46 ?_
                                        refine x_icmp_le C d_Fo_mostBags_49 54 (by decide) (fun c_20 => ?_) (fun c_20 => ?_)
                                        · have nc_20 := Int32.not_lt.mpr c_20
                                          refine x_iinc C d_Fo_mostBags_54 0 rfl (v := (-1)) (by decide) (by decide) (lv' := [(3, .int ((-1))), (0, .ref (Z.2.1 (1))), (1, .int (nI p)), (2, .int (nI m))]) rfl ?_
                                          refine x_goto C d_Fo_mostBags_57 6 (by decide) ?_
                                          refine x_iload_n C d_Fo_mostBags_6 0 rfl rfl ?_
                                          refine x_iflt C d_Fo_mostBags_7 60 (by decide) (fun c_21 => ?_) (fun c_21 => ?_)
                                          · have nc_21 := Int32.not_le.mpr c_21
                                            refine x_iconst C d_Fo_mostBags_60 (v := -1) (by decide) ?_
                                            exact x_iretK C (by simp [fdn, *]; try rfl) ⟨_, rfl⟩ d_Fo_mostBags_61
                                          · exact absurd c_21 (by decide)
                                        · have nc_20 := Int32.not_le.mp c_20
                                          refine x_iload_n C d_Fo_mostBags_52 0 rfl rfl ?_
                                          exact x_iretK C (by simp [fdn, *]; try rfl) ⟨_, rfl⟩ d_Fo_mostBags_53
                                    · have nc_18 := Int32.not_le.mp c_18
                                      refine x_iload_n C d_Fo_mostBags_52 0 rfl rfl ?_
                                      exact x_iretK C (by simp [fdn, *]; try rfl) ⟨_, rfl⟩ d_Fo_mostBags_53
                                · have nc_16 := Int32.not_le.mp c_16
                                  refine x_iload_n C d_Fo_mostBags_52 0 rfl rfl ?_
                                  exact x_iretK C (by simp [fdn, *]; try rfl) ⟨_, rfl⟩ d_Fo_mostBags_53
                            · have nc_14 := Int32.not_le.mp c_14
                              refine x_iload_n C d_Fo_mostBags_52 0 rfl rfl ?_
                              exact x_iretK C (by simp [fdn, *]; try rfl) ⟨_, rfl⟩ d_Fo_mostBags_53
                        · have nc_12 := Int32.not_le.mp c_12
                          refine x_iload_n C d_Fo_mostBags_52 0 rfl rfl ?_
                          exact x_iretK C (by simp [fdn, *]; try rfl) ⟨_, rfl⟩ d_Fo_mostBags_53
                    · have nc_10 := Int32.not_le.mp c_10
                      refine x_iload_n C d_Fo_mostBags_52 0 rfl rfl ?_
                      exact x_iretK C (by simp [fdn, *]; try rfl) ⟨_, rfl⟩ d_Fo_mostBags_53
                · have nc_8 := Int32.not_le.mp c_8
                  refine x_iload_n C d_Fo_mostBags_52 0 rfl rfl ?_
                  exact x_iretK C (by simp [fdn, *]; try rfl) ⟨_, rfl⟩ d_Fo_mostBags_53
            · have nc_6 := Int32.not_le.mp c_6
              refine x_iload_n C d_Fo_mostBags_52 0 rfl rfl ?_
              exact x_iretK C (by simp [fdn, *]; try rfl) ⟨_, rfl⟩ d_Fo_mostBags_53
        · have nc_4 := Int32.not_le.mp c_4
          refine x_iload_n C d_Fo_mostBags_52 0 rfl rfl ?_
          exact x_iretK C (by simp [fdn, *]; try rfl) ⟨_, rfl⟩ d_Fo_mostBags_53
    · have nc_2 := Int32.not_le.mp c_2
      refine x_iload_n C d_Fo_mostBags_52 0 rfl rfl ?_
      exact x_iretK C (by simp [fdn, *]; try rfl) ⟨_, rfl⟩ d_Fo_mostBags_53
