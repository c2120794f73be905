def itL (x : Int32) : Nat → Int32
  | 0 => x
  | i + 1 => itL x i &&& (itL x i - 1)
def bN (x : Nat) : Nat := (bc (nI x)).toNatClampNeg
theorem itL_z : ∀ x, x < 256 → itL (nI x) (bN x) = 0 := by decide +kernel
theorem itL_n : ∀ x, x < 256 → ∀ i, i < 9 → i < bN x → ¬ itL (nI x) i = 0 := by decide +kernel
theorem bN_le : ∀ x, x < 256 → bN x ≤ 8 := by decide +kernel
theorem bN_bc : ∀ x, x < 256 → bc (nI x) = nI (bN x) := by decide +kernel
/-- whom to leave out, from the greatest set on -/
def lvB (Q : Nat → Bool) (M : Nat) : Nat → Option Nat
  | 0 => none
  | j + 1 => match lvB Q M j with
    | none => if Q (M - 1 - j) = true then some (M - 1 - j) else none
    | some b => if bN (M - 1 - j) ≤ bN b ∧ Q (M - 1 - j) = true then some (M - 1 - j) else some b
theorem lvB_lt {Q : Nat → Bool} {M j b : Nat} (hj : j ≤ M) (h : lvB Q M j = some b) : b < M := by
  induction j generalizing b with
  | zero => cases h
  | succ j ih =>
    unfold lvB at h
    cases hm : lvB Q M j with
    | none =>
      rw [hm] at h
      dsimp only at h
      split at h
      · cases h; omega
      · cases h
    | some c =>
      have := ih (by omega) hm
      rw [hm] at h
      dsimp only at h
      split at h
      · cases h; omega
      · cases h; omega
theorem lvB_0 {Q : Nat → Bool} {M j : Nat} (h : lvB Q M j = none) (hq : Q (M - 1 - j) = true) : lvB Q M (j + 1) = some (M - 1 - j) := by unfold lvB; rw [h]; exact if_pos hq
theorem lvB_1 {Q : Nat → Bool} {M j : Nat} (h : lvB Q M j = none) (hq : ¬ Q (M - 1 - j) = true) : lvB Q M (j + 1) = none := by unfold lvB; rw [h]; exact if_neg hq
theorem lvB_2 {Q : Nat → Bool} {M j b : Nat} (h : lvB Q M j = some b) (hb : bN (M - 1 - j) ≤ bN b) (hq : Q (M - 1 - j) = true) : lvB Q M (j + 1) = some (M - 1 - j) := by unfold lvB; rw [h]; exact if_pos ⟨hb, hq⟩
theorem lvB_3 {Q : Nat → Bool} {M j b : Nat} (h : lvB Q M j = some b) (hb : bN b < bN (M - 1 - j)) : lvB Q M (j + 1) = some b := by unfold lvB; rw [h]; exact if_neg (fun z => absurd z.1 (by omega))
theorem lvB_4 {Q : Nat → Bool} {M j b : Nat} (h : lvB Q M j = some b) (hq : ¬ Q (M - 1 - j) = true) : lvB Q M (j + 1) = some b := by unfold lvB; rw [h]; exact if_neg (fun z => hq z.2)
def dsV (M j : Nat) : Int32 := if j < M then nI (M - 1 - j) else -1
theorem dsV_t {M j : Nat} (h : j < M) : dsV M j = nI (M - 1 - j) := if_pos h
theorem dsV_f {M j : Nat} (h : ¬ j < M) : dsV M j = -1 := if_neg h
theorem dsV_s {M j : Nat} (h : j < M) (hM : M < 2 ^ 31) : nI (M - 1 - j) + -1 = dsV M (j + 1) := by
  by_cases h2 : j + 1 < M
  · rw [dsV_t h2, show M - 1 - j = (M - 1 - (j + 1)) + 1 by omega]
    exact pk_m1 _
  · rw [dsV_f h2, show M - 1 - j = 0 by omega]
    decide
theorem oI_neg {o : Option Nat} (h : o = none) : oI o < 0 := by subst h; decide
def gatM (nu r : Nat → Int32) (k : Nat) : Nat → Bool
  | 0 => true
  | i + 1 => gatM nu r k i && (decide (nu i = -1) || decide (nu i = dysM r (i + 1) k))
theorem gatM_f {nu r : Nat → Int32} {k i m : Nat} (hi : i < m) (h : ¬ nu i = -1) (h2 : ¬ nu i = dysM r (i + 1) k) : gatM nu r k m = false := by
  induction m with
  | zero => omega
  | succ m ih =>
    unfold gatM
    by_cases e : i = m
    · subst e; simp [h, h2]
    · rw [ih (by omega), Bool.false_and]
theorem gatM_s {nu r : Nat → Int32} {k i : Nat} (h1 : gatM nu r k i = true) (h : nu i = -1 ∨ nu i = dysM r (i + 1) k) : gatM nu r k (i + 1) = true := by
  unfold gatM
  rw [h1]
  rcases h with h | h
  · rw [h]; simp
  · rw [← h]; simp
def nuM (r : Nat → Int32) (s : Nat) : Nat → Int32 := fun i => r (40 * s + i)
theorem outN_hi {s : Int32} {r : Nat → Int32} {i j : Nat} (hi : i ≤ 8) (hj : 68 ≤ j) : outN s r i j = r j := by
  induction i with
  | zero => rfl
  | succ i ih =>
    unfold outN
    split
    · exact (upd_hi (by omega) (by omega) hj).trans (ih (by omega))
    · exact ih (by omega)
def mabM (r : Nat → Int32) (p : Nat) (c : Int32) : Nat → Bool
  | 0 => false
  | i + 1 => mabM r p c i || (!decide (i = p) && mtA (r (pI p 1)) c (r (pI i 1)) (r (pI i 2)))
def ctmM (r : Nat → Int32) (p n : Nat) : Nat → Int32
  | 0 => 0
  | c + 1 => if mabM r p (nI c) n = true then ctmM r p n c + 1 else ctmM r p n c
theorem dy_upd {r : Nat → Int32} {k : Nat} {v : Int32} (h : k ≠ 0) : dy (upd r k v) = dy r := by unfold dy; rw [pk_un (fun e => h e.symm)]
def drdM (r : Nat → Int32) : Nat → Int32 := dayM (drnR r)
def drsM (r : Nat → Int32) : Nat → Nat → Int32
  | 0 => r
  | k + 1 => drdM (drsM r k)
theorem okR_drsM {r : Nat → Int32} (h : okR r) (k : Nat) : okR (drsM r k) := by
  induction k with
  | zero => exact h
  | succ k ih => exact okR_dayM (okR_drn ih)

set_option maxRecDepth 100000 in
set_option maxHeartbeats 600000 in
theorem c_Mo_bits (Z : ZT) (x : Nat) (hx : x < 256) (g : St)  : CT yM Z y_Mo_bits b_Mo_bits 3 (some (.int)) 0 0 [.int (nI x)] (g) (QcI yM Z (nI (bN x)) (g)) := by
  refine CT.mk "TunnelPeaceModel" (by decide) rfl (Nat.le_of_ble_eq_true rfl) (fun X C => ?_)
  refine x_lv [0] (lv' := [(0, .int (nI x))]) rfl ?_
  have hb8 := bN_le x hx
  refine x_iconst C d_Mo_bits_0 (v := 0) (by decide) ?_
  refine x_topi (show (0 : Int32) = nI 0 by decide) ?_
  refine x_istore_n C d_Mo_bits_1 rfl (by decide) (lv' := [(1, .int (nI 0)), (0, .int (nI x))]) rfl ?_
  refine x_iload_n C d_Mo_bits_2 1 rfl rfl ?_
  refine x_istore_n C d_Mo_bits_3 rfl (by decide) (lv' := [(2, .int (nI x)), (1, .int (nI 0)), (0, .int (nI x))]) rfl ?_
  have LP_4 : ∀ (f_ i : Nat), i ≤ bN x → (bN x) - i < f_ → WX X 3 yM Z (QX X yM Z (QcI yM Z (nI (bN x)) (g))) (g) 4 [(2, .int (itL (nI x) (i))), (1, .int (nI i)), (0, .int (nI x))] [] := by
    intro f_
    induction f_ with
    | zero => intro i h1_ h2_; exact absurd h2_ (Nat.not_lt_zero _)
    | succ f_ ih_4 =>
      intro i hi_4 hf_4
      refine x_iload_n C d_Mo_bits_4 0 rfl rfl ?_
      refine x_ifeq C d_Mo_bits_5 20 (by decide) (fun c_1 => ?_) (fun c_1 => ?_)
      · have hib : i = bN x := by rcases Nat.lt_or_ge i (bN x) with z | z; exact absurd (by assumption : itL (nI x) i = 0) (itL_n x hx i (by omega) z); omega
        refine x_iload_n C d_Mo_bits_20 1 rfl rfl ?_
        exact x_iret C (by rw [hib]) rfl d_Mo_bits_21
      · have hib : i < bN x := by rcases Nat.lt_or_ge i (bN x) with z | z; exact z; exact absurd (by rw [show i = bN x by omega]; exact itL_z x hx) (by assumption : ¬ itL (nI x) i = 0)
        refine x_iinc C d_Mo_bits_8 1 rfl (v := nI (i + 1)) (nI_1 _) (by decide) (lv' := [(1, .int (nI (i + 1))), (2, .int (itL (nI x) (i))), (0, .int (nI x))]) rfl ?_
        refine x_iload_n C d_Mo_bits_11 1 rfl rfl ?_
        refine x_iload_n C d_Mo_bits_12 1 rfl rfl ?_
        refine x_iconst C d_Mo_bits_13 (v := 1) (by decide) ?_
        refine x_isub C d_Mo_bits_14 ?_
        refine x_iand C d_Mo_bits_15 ?_
        refine x_istore_n C d_Mo_bits_16 rfl (by decide) (lv' := [(2, .int ((itL (nI x) (i)) &&& ((itL (nI x) (i)) - 1))), (1, .int (nI (i + 1))), (0, .int (nI x))]) rfl ?_
        refine x_goto C d_Mo_bits_17 4 (by decide) ?_
        refine x_lve (lv' := [(2, .int (itL (nI x) (i + 1))), (1, .int (nI (i + 1))), (0, .int (nI x))]) rfl ?_
        exact ih_4 (i + 1) (by omega) (by omega)
  refine x_lve (lv' := [(2, .int (itL (nI x) (0))), (1, .int (nI 0)), (0, .int (nI x))]) rfl ?_
  exact LP_4 (bN x + 1) 0 (Nat.zero_le _) (by omega)

set_option maxRecDepth 100000 in
set_option maxHeartbeats 600000 in
theorem c_Mo_nobodyMeets (Z : ZT) (s : Int32) (m : Nat) (hm : m < 2 ^ 31) (g : St)  (r : Nat → Int32) (hr : g 0 = r) (hk : okR r) : CT yM Z y_Mo_nobodyMeets b_Mo_nobodyMeets 5 (some (.boolean)) 6 134 [.ref (Z.2.1 (0)), .int (s), .int (nI m)] (g) (QkI yM Z (bI (sumN (dysM (outN s r (sz r)) m) (sz (dysM (outN s r (sz r)) m)) = sumN r (sz r))) (fun u => ∃ ρ : Nat → Int32, u = va_up g 2 ρ)) := by
  refine CT.mk "TunnelPeaceModel" (by decide) rfl (Nat.le_of_ble_eq_true rfl) (fun X C => ?_)
  refine x_lv [0, 1, 2] (lv' := [(0, .ref (Z.2.1 (0))), (1, .int (s)), (2, .int (nI m))]) rfl ?_
  subst hr
  have hk0 := hk
  obtain ⟨⟨n, hn8, hn⟩, dd, hdd, hd⟩ := hk
  have hsz := sz_of hn hn8
  refine x_aload_n C d_Mo_nobodyMeets_0 0 rfl rfl ?_
  refine x_callVi C (c_Mo_metInAll Z (g) _ rfl hk0) mi_Mo_metInAll k_993 (show 0 < 12 by omega) (m_0 Z _) rfl (As := []) ⟨Nat.le_of_ble_eq_true rfl, Nat.le_of_ble_eq_true rfl⟩ rfl rfl (Nat.le_of_ble_eq_true rfl) d_Mo_nobodyMeets_1 ?_
  refine x_istore_n C d_Mo_nobodyMeets_4 rfl (by decide) (lv' := [(3, .int (sumN (g 0) (sz (g 0)))), (0, .ref (Z.2.1 (0))), (1, .int (s)), (2, .int (nI m))]) rfl ?_
  refine x_aload_n C d_Mo_nobodyMeets_5 1 rfl rfl ?_
  refine gf_Mo_now C k_791 d_Mo_nobodyMeets_6 ?_
  refine x_aload_n C d_Mo_nobodyMeets_9 1 rfl rfl ?_
  refine gf_Mo_aside C k_793 d_Mo_nobodyMeets_10 ?_
  refine x_callSv C (c_Mo_copyRow_02 Z (g) _ _ rfl rfl) mi_Mo_copyRow k_1021 (As := [.ref (Z.2.1 (1)), .ref (Z.2.1 (3))]) ⟨Nat.le_of_ble_eq_true rfl, Nat.le_of_ble_eq_true rfl⟩ rfl rfl (Nat.le_of_ble_eq_true rfl) d_Mo_nobodyMeets_13 ?_
  refine x_iconst C d_Mo_nobodyMeets_16 (v := 0) (by decide) ?_
  refine x_topi (show (0 : Int32) = nI 0 by decide) ?_
  refine x_istore C d_Mo_nobodyMeets_17 (by decide) (lv' := [(4, .int (nI 0)), (3, .int (sumN (g 0) (sz (g 0)))), (0, .ref (Z.2.1 (0))), (1, .int (s)), (2, .int (nI m))]) rfl ?_
  have LP_19 : ∀ (f_ i : Nat), i ≤ n → n - i < f_ → WX X 5 yM Z (QX X yM Z (QkI yM Z (bI (sumN (dysM (outN s (g 0) (sz (g 0))) m) (sz (dysM (outN s (g 0) (sz (g 0))) m)) = sumN (g 0) (sz (g 0)))) (fun u => ∃ ρ : Nat → Int32, u = va_up g 2 ρ))) (va_up (va_up g 2 (c68 (g 0) (g 2))) 0 (outN s (g 0) (i))) 19 [(4, .int (nI i)), (3, .int (sumN (g 0) n)), (0, .ref (Z.2.1 (0))), (1, .int (s)), (2, .int (nI m))] [] := by
    intro f_
    induction f_ with
    | zero => intro i h1_ h2_; exact absurd h2_ (Nat.not_lt_zero _)
    | succ f_ ih_19 =>
      intro i hi_19 hf_19
      refine x_iload C d_Mo_nobodyMeets_19 0 rfl ?_
      refine x_aload_n C d_Mo_nobodyMeets_21 2 rfl rfl ?_
      refine gf_Mo_now C k_791 d_Mo_nobodyMeets_22 ?_
      refine x_iconst C d_Mo_nobodyMeets_25 (v := 1) (by decide) ?_
      refine al_m_now C 1 (v := nI n) (by decide) (by first | omega | (simp only [pI]; omega)) (Eq.trans (Eq.trans (congrFun (va_up_self _ _ _) _) (outN_hd (by decide))) hn) d_Mo_nobodyMeets_26 ?_
      refine x_icmp_ge C d_Mo_nobodyMeets_27 58 (by decide) (fun c_1 => ?_) (fun c_1 => ?_)
      · have nc_1 := Int32.not_lt.mpr c_1
        have mc_1 : n ≤ i := (nI_leI (by omega) (by omega)).mp (show nI n ≤ nI i from c_1)
        have e_i : n = i := by omega
        subst e_i
        refine x_aload_n C d_Mo_nobodyMeets_58 2 rfl rfl ?_
        refine x_iload_n C d_Mo_nobodyMeets_59 4 rfl rfl ?_
        refine x_callVv C (c_Mo_daysGo Z m (by omega) (va_up (va_up g 2 (c68 (g 0) (g 2))) 0 (outN s (g 0) (n))) _ (va_up_self _ _ _) (okR_out hk0)) mi_Mo_daysGo k_961 (show 0 < 12 by omega) (m_0 Z _) rfl (As := [.int (nI m)]) ⟨Nat.le_of_ble_eq_true rfl, Nat.le_of_ble_eq_true rfl⟩ rfl rfl (Nat.le_of_ble_eq_true rfl) d_Mo_nobodyMeets_60 ?_
        refine x_eqg (g' := va_up (va_up g 2 (c68 (g 0) (g 2))) 0 (dysM (outN s (g 0) (n)) m)) (bx_uu _ _ _ _) ?_
        refine x_aload_n C d_Mo_nobodyMeets_63 2 rfl rfl ?_
        refine x_callVi C (c_Mo_metInAll Z (va_up (va_up g 2 (c68 (g 0) (g 2))) 0 (dysM (outN s (g 0) (n)) m)) _ (va_up_self _ _ _) (okR_dysM (okR_out hk0) _)) mi_Mo_metInAll k_993 (show 0 < 12 by omega) (m_0 Z _) rfl (As := []) ⟨Nat.le_of_ble_eq_true rfl, Nat.le_of_ble_eq_true rfl⟩ rfl rfl (Nat.le_of_ble_eq_true rfl) d_Mo_nobodyMeets_64 ?_
        refine x_iload_n C d_Mo_nobodyMeets_67 1 rfl rfl ?_
        refine x_icmp_ne C d_Mo_nobodyMeets_68 75 (by decide) (fun c_2 => ?_) (fun c_2 => ?_)
        · have nc_2 := Ne.symm c_2
          refine x_iconst C d_Mo_nobodyMeets_75 (v := 0) (by decide) ?_
          refine x_topi (show (0 : Int32) = nI 0 by decide) ?_
          refine x_istore C d_Mo_nobodyMeets_76 (by decide) (lv' := [(4, .int (nI 0)), (3, .int (sumN (g 0) n)), (0, .ref (Z.2.1 (0))), (1, .int (s)), (2, .int (nI m))]) rfl ?_
          refine x_aload_n C d_Mo_nobodyMeets_78 2 rfl rfl ?_
          refine gf_Mo_aside C k_793 d_Mo_nobodyMeets_79 ?_
          refine x_aload_n C d_Mo_nobodyMeets_82 2 rfl rfl ?_
          refine gf_Mo_now C k_791 d_Mo_nobodyMeets_83 ?_
          refine x_callSv C (c_Mo_copyRow_20 Z (va_up (va_up g 2 (c68 (g 0) (g 2))) 0 (dysM (outN s (g 0) (n)) m)) _ _ (Eq.trans (va_up_ne _ _ (by omega)) (va_up_self _ _ _)) (va_up_self _ _ _)) mi_Mo_copyRow k_1021 (As := [.ref (Z.2.1 (3)), .ref (Z.2.1 (1))]) ⟨Nat.le_of_ble_eq_true rfl, Nat.le_of_ble_eq_true rfl⟩ rfl rfl (Nat.le_of_ble_eq_true rfl) d_Mo_nobodyMeets_86 ?_
          refine x_eqg (g' := va_up (va_up g 2 (c68 (g 0) (g 2))) 0 (c68 (c68 (g 0) (g 2)) (dysM (outN s (g 0) (n)) m))) (bx_uu _ _ _ _) ?_
          refine x_iload C d_Mo_nobodyMeets_89 0 rfl ?_
          exact x_zretK C (by decide) (bI_f (by rw [hsz]; assumption)).symm ⟨_, by rw [back_id (fun j hj => (dysM_hi (okR_out hk0) hj).trans (outN_hi hn8 hj))]; exact va_idn (by decide)⟩ d_Mo_nobodyMeets_91
        · refine x_iconst C d_Mo_nobodyMeets_71 (v := 1) (by decide) ?_
          refine x_goto C d_Mo_nobodyMeets_72 76 (by decide) ?_
          refine x_topi (show (1 : Int32) = nI 1 by decide) ?_
          refine x_istore C d_Mo_nobodyMeets_76 (by decide) (lv' := [(4, .int (nI 1)), (3, .int (sumN (g 0) n)), (0, .ref (Z.2.1 (0))), (1, .int (s)), (2, .int (nI m))]) rfl ?_
          refine x_aload_n C d_Mo_nobodyMeets_78 2 rfl rfl ?_
          refine gf_Mo_aside C k_793 d_Mo_nobodyMeets_79 ?_
          refine x_aload_n C d_Mo_nobodyMeets_82 2 rfl rfl ?_
          refine gf_Mo_now C k_791 d_Mo_nobodyMeets_83 ?_
          refine x_callSv C (c_Mo_copyRow_20 Z (va_up (va_up g 2 (c68 (g 0) (g 2))) 0 (dysM (outN s (g 0) (n)) m)) _ _ (Eq.trans (va_up_ne _ _ (by omega)) (va_up_self _ _ _)) (va_up_self _ _ _)) mi_Mo_copyRow k_1021 (As := [.ref (Z.2.1 (3)), .ref (Z.2.1 (1))]) ⟨Nat.le_of_ble_eq_true rfl, Nat.le_of_ble_eq_true rfl⟩ rfl rfl (Nat.le_of_ble_eq_true rfl) d_Mo_nobodyMeets_86 ?_
          refine x_eqg (g' := va_up (va_up g 2 (c68 (g 0) (g 2))) 0 (c68 (c68 (g 0) (g 2)) (dysM (outN s (g 0) (n)) m))) (bx_uu _ _ _ _) ?_
          refine x_iload C d_Mo_nobodyMeets_89 0 rfl ?_
          exact x_zretK C (by decide) (bI_t (by rw [hsz]; assumption)).symm ⟨_, by rw [back_id (fun j hj => (dysM_hi (okR_out hk0) hj).trans (outN_hi hn8 hj))]; exact va_idn (by decide)⟩ d_Mo_nobodyMeets_91
      · have nc_1 := Int32.not_le.mp c_1
        have mc_1 : ¬ n ≤ i := fun z_ => (show ¬ nI n ≤ nI i from c_1) ((nI_leI (by omega) (by omega)).mpr z_)
        refine x_iload_n C d_Mo_nobodyMeets_30 3 rfl rfl ?_
        refine x_iload C d_Mo_nobodyMeets_31 0 rfl ?_
        refine x_ishr C d_Mo_nobodyMeets_33 ?_
        refine x_iconst C d_Mo_nobodyMeets_34 (v := 1) (by decide) ?_
        refine x_iand C d_Mo_nobodyMeets_35 ?_
        refine x_iconst C d_Mo_nobodyMeets_36 (v := 1) (by decide) ?_
        refine x_icmp_ne C d_Mo_nobodyMeets_37 52 (by decide) (fun c_3 => ?_) (fun c_3 => ?_)
        · have nc_3 := Ne.symm c_3
          refine x_iinc C d_Mo_nobodyMeets_52 0 rfl (v := nI (i + 1)) (nI_1 _) (by decide) (lv' := [(4, .int (nI (i + 1))), (3, .int (sumN (g 0) n)), (0, .ref (Z.2.1 (0))), (1, .int (s)), (2, .int (nI m))]) rfl ?_
          refine x_goto C d_Mo_nobodyMeets_55 19 (by decide) ?_
          refine x_eqg (g' := va_up (va_up g 2 (c68 (g 0) (g 2))) 0 (outN s (g 0) (i + 1))) (by simp [outN, *]) ?_
          exact ih_19 (i + 1) (by omega) (by omega)
        · refine x_aload_n C d_Mo_nobodyMeets_40 2 rfl rfl ?_
          refine gf_Mo_now C k_791 d_Mo_nobodyMeets_41 ?_
          refine x_iload C d_Mo_nobodyMeets_44 0 rfl ?_
          refine x_iconst C d_Mo_nobodyMeets_46 (v := 3) (by decide) ?_
          refine x_callSi C (c_Mo_personAt Z i 3 (va_up (va_up g 2 (c68 (g 0) (g 2))) 0 (outN s (g 0) (i)))) mi_Mo_personAt k_897 (As := [.int (nI i), .int (3)]) ⟨Nat.le_of_ble_eq_true rfl, Nat.le_of_ble_eq_true rfl⟩ rfl rfl (Nat.le_of_ble_eq_true rfl) d_Mo_nobodyMeets_47 ?_
          refine x_iconst C d_Mo_nobodyMeets_50 (v := 0) (by decide) ?_
          refine as_m_now C (pI i 3) (v := 0) rfl (by first | omega | (simp only [pI]; omega)) (G := va_up (va_up g 2 (c68 (g 0) (g 2))) 0 (upd (outN s (g 0) (i)) (pI i 3) 0)) up_va d_Mo_nobodyMeets_51 ?_
          refine x_iinc C d_Mo_nobodyMeets_52 0 rfl (v := nI (i + 1)) (nI_1 _) (by decide) (lv' := [(4, .int (nI (i + 1))), (3, .int (sumN (g 0) n)), (0, .ref (Z.2.1 (0))), (1, .int (s)), (2, .int (nI m))]) rfl ?_
          refine x_goto C d_Mo_nobodyMeets_55 19 (by decide) ?_
          refine x_eqg (g' := va_up (va_up g 2 (c68 (g 0) (g 2))) 0 (outN s (g 0) (i + 1))) (by simp [outN, *]) ?_
          exact ih_19 (i + 1) (by omega) (by omega)
  refine x_lve (lv' := [(4, .int (nI 0)), (3, .int (sumN (g 0) n)), (0, .ref (Z.2.1 (0))), (1, .int (s)), (2, .int (nI m))]) (by rw [hsz]) ?_
  refine x_eqg (g' := va_up (va_up g 2 (c68 (g 0) (g 2))) 0 (outN s (g 0) (0))) (va_idn (by decide)).symm ?_
  exact LP_19 (n + 1) 0 (Nat.zero_le _) (by omega)

theorem lo_three (Q : Nat → Bool) {M j : Nat} (hj : j ≤ M) : (j < M ∧ lvB Q M j = none) ∨ (j < M ∧ ∃ b, b < M ∧ lvB Q M j = some b) ∨ M ≤ j := by
  rcases Nat.lt_or_ge j M with h | h
  · cases hl : lvB Q M j with
    | none => exact Or.inl ⟨h, rfl⟩
    | some b => exact Or.inr (Or.inl ⟨h, b, lvB_lt hj hl, rfl⟩)
  · exact Or.inr (Or.inr h)

set_option maxRecDepth 100000 in
set_option maxHeartbeats 600000 in
theorem c_Mo_leaveOut (Z : ZT) (m : Int32) (g : St)  (hk : okR (g 0)) : CT yM Z y_Mo_leaveOut b_Mo_leaveOut 4 (some (.int)) 7 158 [.ref (Z.2.1 (0)), .int (m)] (g) (QkI yM Z (if ¬ (0 ≤ m ∧ m ≤ 20) then (-1000001) else if oI (lvB (fun s_ => decide (sumN (dysM (outN (nI s_) (g 0) (sz (g 0))) m.toNatClampNeg) (sz (dysM (outN (nI s_) (g 0) (sz (g 0))) m.toNatClampNeg)) = sumN (g 0) (sz (g 0)))) (2 ^ sz (g 0)) (2 ^ sz (g 0))) < 0 then (-1000004) else oI (lvB (fun s_ => decide (sumN (dysM (outN (nI s_) (g 0) (sz (g 0))) m.toNatClampNeg) (sz (dysM (outN (nI s_) (g 0) (sz (g 0))) m.toNatClampNeg)) = sumN (g 0) (sz (g 0)))) (2 ^ sz (g 0)) (2 ^ sz (g 0)))) (fun u => ∃ ρ : Nat → Int32, u = va_up (if ¬ (0 ≤ m ∧ m ≤ 20) then va_up g 4 (mfnR (g 4) 0) else if oI (lvB (fun s_ => decide (sumN (dysM (outN (nI s_) (g 0) (sz (g 0))) m.toNatClampNeg) (sz (dysM (outN (nI s_) (g 0) (sz (g 0))) m.toNatClampNeg)) = sumN (g 0) (sz (g 0)))) (2 ^ sz (g 0)) (2 ^ sz (g 0))) < 0 then va_up g 4 (mfnR (g 4) 3) else g) 2 ρ)) := by
  refine CT.mk "TunnelPeaceModel" (by decide) rfl (Nat.le_of_ble_eq_true rfl) (fun X C => ?_)
  refine x_lv [0, 1] (lv' := [(0, .ref (Z.2.1 (0))), (1, .int (m))]) rfl ?_
  have hk0 := hk
  obtain ⟨⟨n, hn8, hn⟩, dd, hdd, hd⟩ := hk
  obtain ⟨M, hM, hM2⟩ : ∃ M, 2 ^ n = M ∧ M ≤ 256 := ⟨_, rfl, pow_8 hn8⟩
  have hM1 : 1 ≤ M := by rw [← hM]; exact Nat.one_le_two_pow
  have hMz : 2 ^ sz (g 0) = M := by rw [sz_of hn hn8]; exact hM
  refine x_iload_n C d_Mo_leaveOut_0 1 rfl rfl ?_
  refine x_iconst C d_Mo_leaveOut_1 (v := 0) (by decide) ?_
  refine x_bipush C d_Mo_leaveOut_2 (v := 20) (by decide) ?_
  refine x_callSi C (c_Mo_within Z m 0 20 (g)) mi_Mo_within k_859 (As := [.int (m), .int (0), .int (20)]) ⟨Nat.le_of_ble_eq_true rfl, Nat.le_of_ble_eq_true rfl⟩ rfl rfl (Nat.le_of_ble_eq_true rfl) d_Mo_leaveOut_4 ?_
  refine x_ifneB C d_Mo_leaveOut_7 17 (by decide) (fun c_1 => ?_) (fun c_1 => ?_)
  · obtain ⟨mq, hmq, rfl⟩ := in_le (n := 20) c_1 (by decide)
    have hcm : (nI mq).toNatClampNeg = mq := nI_clamp (by omega)
    refine x_iconst C d_Mo_leaveOut_17 (v := -1) (by decide) ?_
    refine x_istore_n C d_Mo_leaveOut_18 rfl (by decide) (lv' := [(2, .int ((-1))), (0, .ref (Z.2.1 (0))), (1, .int (nI mq))]) rfl ?_
    refine x_iconst C d_Mo_leaveOut_19 (v := 1) (by decide) ?_
    refine x_aload_n C d_Mo_leaveOut_20 1 rfl rfl ?_
    refine gf_Mo_now C k_791 d_Mo_leaveOut_21 ?_
    refine x_iconst C d_Mo_leaveOut_24 (v := 1) (by decide) ?_
    refine al_m_now C 1 (v := nI n) (by decide) (by first | omega | (simp only [pI]; omega)) hn d_Mo_leaveOut_25 ?_
    refine x_ishl C d_Mo_leaveOut_26 ?_
    refine x_topi (x' := nI M) (by rw [← hM]; exact shl_n hn8) ?_
    refine x_iconst C d_Mo_leaveOut_27 (v := 1) (by decide) ?_
    refine x_isub C d_Mo_leaveOut_28 ?_
    refine x_topi (x' := nI (M - 1 - 0)) (show nI M - nI 1 = nI (M - 1) from pk_sub hM1) ?_
    refine x_istore_n C d_Mo_leaveOut_29 rfl (by decide) (lv' := [(3, .int (nI (M - 1 - 0))), (2, .int ((-1))), (0, .ref (Z.2.1 (0))), (1, .int (nI mq))]) rfl ?_
    have LP_30 : ∀ (f_ j : Nat) (ρ : Nat → Int32), j ≤ M → M - j < f_ → WX X 4 yM Z (QX X yM Z (QkI yM Z (if ¬ (0 ≤ (nI mq) ∧ (nI mq) ≤ 20) then (-1000001) else if oI (lvB (fun s_ => decide (sumN (dysM (outN (nI s_) (g 0) (sz (g 0))) (nI mq).toNatClampNeg) (sz (dysM (outN (nI s_) (g 0) (sz (g 0))) (nI mq).toNatClampNeg)) = sumN (g 0) (sz (g 0)))) (2 ^ sz (g 0)) (2 ^ sz (g 0))) < 0 then (-1000004) else oI (lvB (fun s_ => decide (sumN (dysM (outN (nI s_) (g 0) (sz (g 0))) (nI mq).toNatClampNeg) (sz (dysM (outN (nI s_) (g 0) (sz (g 0))) (nI mq).toNatClampNeg)) = sumN (g 0) (sz (g 0)))) (2 ^ sz (g 0)) (2 ^ sz (g 0)))) (fun u => ∃ ρ : Nat → Int32, u = va_up (if ¬ (0 ≤ (nI mq) ∧ (nI mq) ≤ 20) then va_up g 4 (mfnR (g 4) 0) else if oI (lvB (fun s_ => decide (sumN (dysM (outN (nI s_) (g 0) (sz (g 0))) (nI mq).toNatClampNeg) (sz (dysM (outN (nI s_) (g 0) (sz (g 0))) (nI mq).toNatClampNeg)) = sumN (g 0) (sz (g 0)))) (2 ^ sz (g 0)) (2 ^ sz (g 0))) < 0 then va_up g 4 (mfnR (g 4) 3) else g) 2 ρ))) (va_up g 2 ρ) 30 [(3, .int (dsV M (j))), (2, .int (oI (lvB (fun s_ => decide (sumN (dysM (outN (nI s_) (g 0) (sz (g 0))) mq) (sz (dysM (outN (nI s_) (g 0) (sz (g 0))) mq)) = sumN (g 0) (sz (g 0)))) M (j)))), (0, .ref (Z.2.1 (0))), (1, .int (nI mq))] [] := by
      intro f_
      induction f_ with
      | zero => intro j _ h1_ h2_; exact absurd h2_ (Nat.not_lt_zero _)
      | succ f_ ih_30 =>
        intro j ρ hi_30 hf_30
        have hj_30 := hi_30
        rcases lo_three (fun s_ => decide (sumN (dysM (outN (nI s_) (g 0) (sz (g 0))) mq) (sz (dysM (outN (nI s_) (g 0) (sz (g 0))) mq)) = sumN (g 0) (sz (g 0)))) hj_30 with ⟨hjM, hlv⟩ | ⟨hjM, b, hbM, hlv⟩ | hjM
        · obtain ⟨s, hs⟩ : ∃ s, s = M - 1 - j := ⟨_, rfl⟩
          refine x_lve (lv' := [(3, .int (nI s)), (2, .int ((-1))), (0, .ref (Z.2.1 (0))), (1, .int (nI mq))]) (by rw [dsV_t hjM, ← hs, hlv]; rfl) ?_
          refine x_iload_n C d_Mo_leaveOut_30 0 rfl rfl ?_
          refine x_iflt C d_Mo_leaveOut_31 70 (by decide) (fun c_2 => ?_) (fun c_2 => ?_)
          · exact absurd c_2 (nI_pos (by omega))
          · have nc_2 := Int32.not_lt.mp c_2
            refine x_iload_n C d_Mo_leaveOut_34 1 rfl rfl ?_
            refine x_iflt C d_Mo_leaveOut_35 49 (by decide) (fun c_3 => ?_) (fun c_3 => ?_)
            · have nc_3 := Int32.not_le.mpr c_3
              refine x_aload_n C d_Mo_leaveOut_49 2 rfl rfl ?_
              refine x_iload_n C d_Mo_leaveOut_50 0 rfl rfl ?_
              refine x_iload_n C d_Mo_leaveOut_51 3 rfl rfl ?_
              refine x_callVki C (c_Mo_nobodyMeets Z (nI s) mq (by omega) (va_up g 2 ρ) _ (va_up_ne _ _ (by omega)) hk0) mi_Mo_nobodyMeets k_1091 (show 0 < 12 by omega) (m_0 Z _) rfl (As := [.int (nI s), .int (nI mq)]) ⟨Nat.le_of_ble_eq_true rfl, Nat.le_of_ble_eq_true rfl⟩ rfl rfl (Nat.le_of_ble_eq_true rfl) d_Mo_leaveOut_52 (fun u_ hu_ => ?_)
              obtain ⟨ρ_4, rfl⟩ := hu_
              refine x_eqg (g' := va_up g 2 ρ_4) (bx_uu _ _ _ _) ?_
              refine x_ifeqB C d_Mo_leaveOut_55 62 (by decide) (fun c_5 => ?_) (fun c_5 => ?_)
              · refine x_iload_n C d_Mo_leaveOut_62 1 rfl rfl ?_
                refine x_istore_n C d_Mo_leaveOut_63 rfl (by decide) (lv' := [(2, .int ((-1))), (3, .int (nI s)), (0, .ref (Z.2.1 (0))), (1, .int (nI mq))]) rfl ?_
                refine x_iinc C d_Mo_leaveOut_64 1 rfl (v := (nI s) + (-1)) rfl (by decide) (lv' := [(3, .int ((nI s) + (-1))), (2, .int ((-1))), (0, .ref (Z.2.1 (0))), (1, .int (nI mq))]) rfl ?_
                refine x_goto C d_Mo_leaveOut_67 30 (by decide) ?_
                refine x_lve (lv' := [(3, .int (dsV M (j + 1))), (2, .int (oI (lvB (fun s_ => decide (sumN (dysM (outN (nI s_) (g 0) (sz (g 0))) mq) (sz (dysM (outN (nI s_) (g 0) (sz (g 0))) mq)) = sumN (g 0) (sz (g 0)))) M (j + 1)))), (0, .ref (Z.2.1 (0))), (1, .int (nI mq))]) (by subst hs; rw [dsV_s hjM (by omega)]; first | (rw [lvB_0 hlv (by simp [*])]; done) | (rw [lvB_0 hlv (by simp [*])]; rfl) | (rw [lvB_1 hlv (by simp [*])]; done) | (rw [lvB_1 hlv (by simp [*])]; rfl) | (rw [lvB_2 hlv (by omega) (by simp [*])]; done) | (rw [lvB_2 hlv (by omega) (by simp [*])]; rfl) | (rw [lvB_3 hlv (by omega)]; done) | (rw [lvB_3 hlv (by omega)]; rfl) | (rw [lvB_4 hlv (by simp [*])]; done) | (rw [lvB_4 hlv (by simp [*])]; rfl)) ?_
                exact ih_30 (j + 1) ρ_4 (by omega) (by omega)
              · refine x_iload_n C d_Mo_leaveOut_58 0 rfl rfl ?_
                refine x_goto C d_Mo_leaveOut_59 63 (by decide) ?_
                refine x_istore_n C d_Mo_leaveOut_63 rfl (by decide) (lv' := [(2, .int (nI s)), (3, .int (nI s)), (0, .ref (Z.2.1 (0))), (1, .int (nI mq))]) rfl ?_
                refine x_iinc C d_Mo_leaveOut_64 1 rfl (v := (nI s) + (-1)) rfl (by decide) (lv' := [(3, .int ((nI s) + (-1))), (2, .int (nI s)), (0, .ref (Z.2.1 (0))), (1, .int (nI mq))]) rfl ?_
                refine x_goto C d_Mo_leaveOut_67 30 (by decide) ?_
                refine x_lve (lv' := [(3, .int (dsV M (j + 1))), (2, .int (oI (lvB (fun s_ => decide (sumN (dysM (outN (nI s_) (g 0) (sz (g 0))) mq) (sz (dysM (outN (nI s_) (g 0) (sz (g 0))) mq)) = sumN (g 0) (sz (g 0)))) M (j + 1)))), (0, .ref (Z.2.1 (0))), (1, .int (nI mq))]) (by subst hs; rw [dsV_s hjM (by omega)]; first | (rw [lvB_0 hlv (by simp [*])]; done) | (rw [lvB_0 hlv (by simp [*])]; rfl) | (rw [lvB_1 hlv (by simp [*])]; done) | (rw [lvB_1 hlv (by simp [*])]; rfl) | (rw [lvB_2 hlv (by omega) (by simp [*])]; done) | (rw [lvB_2 hlv (by omega) (by simp [*])]; rfl) | (rw [lvB_3 hlv (by omega)]; done) | (rw [lvB_3 hlv (by omega)]; rfl) | (rw [lvB_4 hlv (by simp [*])]; done) | (rw [lvB_4 hlv (by simp [*])]; rfl)) ?_
                exact ih_30 (j + 1) ρ_4 (by omega) (by omega)
            · exact absurd c_3 (by decide)
        · obtain ⟨s, hs⟩ : ∃ s, s = M - 1 - j := ⟨_, rfl⟩
          refine x_lve (lv' := [(3, .int (nI s)), (2, .int (nI b)), (0, .ref (Z.2.1 (0))), (1, .int (nI mq))]) (by rw [dsV_t hjM, ← hs, hlv]; rfl) ?_
          refine x_iload_n C d_Mo_leaveOut_30 0 rfl rfl ?_
          refine x_iflt C d_Mo_leaveOut_31 70 (by decide) (fun c_6 => ?_) (fun c_6 => ?_)
          · exact absurd c_6 (nI_pos (by omega))
          · have nc_6 := Int32.not_lt.mp c_6
            refine x_iload_n C d_Mo_leaveOut_34 1 rfl rfl ?_
            refine x_iflt C d_Mo_leaveOut_35 49 (by decide) (fun c_7 => ?_) (fun c_7 => ?_)
            · exact absurd c_7 (nI_pos (by omega))
            · have nc_7 := Int32.not_lt.mp c_7
              refine x_iload_n C d_Mo_leaveOut_38 0 rfl rfl ?_
              refine x_callSi C (c_Mo_bits Z s (by omega) (va_up g 2 ρ)) mi_Mo_bits k_1088 (As := [.int (nI s)]) ⟨Nat.le_of_ble_eq_true rfl, Nat.le_of_ble_eq_true rfl⟩ rfl rfl (Nat.le_of_ble_eq_true rfl) d_Mo_leaveOut_39 ?_
              refine x_iload_n C d_Mo_leaveOut_42 1 rfl rfl ?_
              refine x_callSi C (c_Mo_bits Z b (by omega) (va_up g 2 ρ)) mi_Mo_bits k_1088 (As := [.int (nI b)]) ⟨Nat.le_of_ble_eq_true rfl, Nat.le_of_ble_eq_true rfl⟩ rfl rfl (Nat.le_of_ble_eq_true rfl) d_Mo_leaveOut_43 ?_
              have hbs := bN_le s (by omega)
              have hbb := bN_le b (by omega)
              refine x_icmp_gt C d_Mo_leaveOut_46 62 (by decide) (fun c_8 => ?_) (fun c_8 => ?_)
              · have nc_8 := Int32.not_le.mpr c_8
                have mc_8 : bN b < bN s := (nI_ltI (by omega) (by omega)).mp (show nI (bN b) < nI (bN s) from c_8)
                refine x_iload_n C d_Mo_leaveOut_62 1 rfl rfl ?_
                refine x_istore_n C d_Mo_leaveOut_63 rfl (by decide) (lv' := [(2, .int (nI b)), (3, .int (nI s)), (0, .ref (Z.2.1 (0))), (1, .int (nI mq))]) rfl ?_
                refine x_iinc C d_Mo_leaveOut_64 1 rfl (v := (nI s) + (-1)) rfl (by decide) (lv' := [(3, .int ((nI s) + (-1))), (2, .int (nI b)), (0, .ref (Z.2.1 (0))), (1, .int (nI mq))]) rfl ?_
                refine x_goto C d_Mo_leaveOut_67 30 (by decide) ?_
                refine x_lve (lv' := [(3, .int (dsV M (j + 1))), (2, .int (oI (lvB (fun s_ => decide (sumN (dysM (outN (nI s_) (g 0) (sz (g 0))) mq) (sz (dysM (outN (nI s_) (g 0) (sz (g 0))) mq)) = sumN (g 0) (sz (g 0)))) M (j + 1)))), (0, .ref (Z.2.1 (0))), (1, .int (nI mq))]) (by subst hs; rw [dsV_s hjM (by omega)]; first | (rw [lvB_0 hlv (by simp [*])]; done) | (rw [lvB_0 hlv (by simp [*])]; rfl) | (rw [lvB_1 hlv (by simp [*])]; done) | (rw [lvB_1 hlv (by simp [*])]; rfl) | (rw [lvB_2 hlv (by omega) (by simp [*])]; done) | (rw [lvB_2 hlv (by omega) (by simp [*])]; rfl) | (rw [lvB_3 hlv (by omega)]; done) | (rw [lvB_3 hlv (by omega)]; rfl) | (rw [lvB_4 hlv (by simp [*])]; done) | (rw [lvB_4 hlv (by simp [*])]; rfl)) ?_
                exact ih_30 (j + 1) ρ (by omega) (by omega)
              · have nc_8 := Int32.not_lt.mp c_8
                have mc_8 : ¬ bN b < bN s := fun z_ => (show ¬ nI (bN b) < nI (bN s) from c_8) ((nI_ltI (by omega) (by omega)).mpr z_)
                refine x_aload_n C d_Mo_leaveOut_49 2 rfl rfl ?_
                refine x_iload_n C d_Mo_leaveOut_50 0 rfl rfl ?_
                refine x_iload_n C d_Mo_leaveOut_51 3 rfl rfl ?_
                refine x_callVki C (c_Mo_nobodyMeets Z (nI s) mq (by omega) (va_up g 2 ρ) _ (va_up_ne _ _ (by omega)) hk0) mi_Mo_nobodyMeets k_1091 (show 0 < 12 by omega) (m_0 Z _) rfl (As := [.int (nI s), .int (nI mq)]) ⟨Nat.le_of_ble_eq_true rfl, Nat.le_of_ble_eq_true rfl⟩ rfl rfl (Nat.le_of_ble_eq_true rfl) d_Mo_leaveOut_52 (fun u_ hu_ => ?_)
                obtain ⟨ρ_9, rfl⟩ := hu_
                refine x_eqg (g' := va_up g 2 ρ_9) (bx_uu _ _ _ _) ?_
                refine x_ifeqB C d_Mo_leaveOut_55 62 (by decide) (fun c_10 => ?_) (fun c_10 => ?_)
                · refine x_iload_n C d_Mo_leaveOut_62 1 rfl rfl ?_
                  refine x_istore_n C d_Mo_leaveOut_63 rfl (by decide) (lv' := [(2, .int (nI b)), (3, .int (nI s)), (0, .ref (Z.2.1 (0))), (1, .int (nI mq))]) rfl ?_
                  refine x_iinc C d_Mo_leaveOut_64 1 rfl (v := (nI s) + (-1)) rfl (by decide) (lv' := [(3, .int ((nI s) + (-1))), (2, .int (nI b)), (0, .ref (Z.2.1 (0))), (1, .int (nI mq))]) rfl ?_
                  refine x_goto C d_Mo_leaveOut_67 30 (by decide) ?_
                  refine x_lve (lv' := [(3, .int (dsV M (j + 1))), (2, .int (oI (lvB (fun s_ => decide (sumN (dysM (outN (nI s_) (g 0) (sz (g 0))) mq) (sz (dysM (outN (nI s_) (g 0) (sz (g 0))) mq)) = sumN (g 0) (sz (g 0)))) M (j + 1)))), (0, .ref (Z.2.1 (0))), (1, .int (nI mq))]) (by subst hs; rw [dsV_s hjM (by omega)]; first | (rw [lvB_0 hlv (by simp [*])]; done) | (rw [lvB_0 hlv (by simp [*])]; rfl) | (rw [lvB_1 hlv (by simp [*])]; done) | (rw [lvB_1 hlv (by simp [*])]; rfl) | (rw [lvB_2 hlv (by omega) (by simp [*])]; done) | (rw [lvB_2 hlv (by omega) (by simp [*])]; rfl) | (rw [lvB_3 hlv (by omega)]; done) | (rw [lvB_3 hlv (by omega)]; rfl) | (rw [lvB_4 hlv (by simp [*])]; done) | (rw [lvB_4 hlv (by simp [*])]; rfl)) ?_
                  exact ih_30 (j + 1) ρ_9 (by omega) (by omega)
                · refine x_iload_n C d_Mo_leaveOut_58 0 rfl rfl ?_
                  refine x_goto C d_Mo_leaveOut_59 63 (by decide) ?_
                  refine x_istore_n C d_Mo_leaveOut_63 rfl (by decide) (lv' := [(2, .int (nI s)), (3, .int (nI s)), (0, .ref (Z.2.1 (0))), (1, .int (nI mq))]) rfl ?_
                  refine x_iinc C d_Mo_leaveOut_64 1 rfl (v := (nI s) + (-1)) rfl (by decide) (lv' := [(3, .int ((nI s) + (-1))), (2, .int (nI s)), (0, .ref (Z.2.1 (0))), (1, .int (nI mq))]) rfl ?_
                  refine x_goto C d_Mo_leaveOut_67 30 (by decide) ?_
                  refine x_lve (lv' := [(3, .int (dsV M (j + 1))), (2, .int (oI (lvB (fun s_ => decide (sumN (dysM (outN (nI s_) (g 0) (sz (g 0))) mq) (sz (dysM (outN (nI s_) (g 0) (sz (g 0))) mq)) = sumN (g 0) (sz (g 0)))) M (j + 1)))), (0, .ref (Z.2.1 (0))), (1, .int (nI mq))]) (by subst hs; rw [dsV_s hjM (by omega)]; first | (rw [lvB_0 hlv (by simp [*])]; done) | (rw [lvB_0 hlv (by simp [*])]; rfl) | (rw [lvB_1 hlv (by simp [*])]; done) | (rw [lvB_1 hlv (by simp [*])]; rfl) | (rw [lvB_2 hlv (by omega) (by simp [*])]; done) | (rw [lvB_2 hlv (by omega) (by simp [*])]; rfl) | (rw [lvB_3 hlv (by omega)]; done) | (rw [lvB_3 hlv (by omega)]; rfl) | (rw [lvB_4 hlv (by simp [*])]; done) | (rw [lvB_4 hlv (by simp [*])]; rfl)) ?_
                  exact ih_30 (j + 1) ρ_9 (by omega) (by omega)
        · have ejM : M = j := by omega
          subst ejM
          refine x_lve (lv' := [(3, .int ((-1))), (2, .int (oI (lvB (fun s_ => decide (sumN (dysM (outN (nI s_) (g 0) (sz (g 0))) mq) (sz (dysM (outN (nI s_) (g 0) (sz (g 0))) mq)) = sumN (g 0) (sz (g 0)))) M M))), (0, .ref (Z.2.1 (0))), (1, .int (nI mq))]) (by rw [dsV_f (Nat.lt_irrefl _)]) ?_
          refine x_iload_n C d_Mo_leaveOut_30 0 rfl rfl ?_
          refine x_iflt C d_Mo_leaveOut_31 70 (by decide) (fun c_11 => ?_) (fun c_11 => ?_)
          · have nc_11 := Int32.not_le.mpr c_11
            refine x_aload_n C d_Mo_leaveOut_70 2 rfl rfl ?_
            refine x_iload_n C d_Mo_leaveOut_71 1 rfl rfl ?_
            refine x_topi (x' := oI (lvB (fun s_ => decide (sumN (dysM (outN (nI s_) (g 0) (sz (g 0))) mq) (sz (dysM (outN (nI s_) (g 0) (sz (g 0))) mq)) = sumN (g 0) (sz (g 0)))) (2 ^ sz (g 0)) (2 ^ sz (g 0)))) (by rw [hMz]) ?_
            by_cases c_12 : (oI (lvB (fun s_ => decide (sumN (dysM (outN (nI s_) (g 0) (sz (g 0))) mq) (sz (dysM (outN (nI s_) (g 0) (sz (g 0))) mq)) = sumN (g 0) (sz (g 0)))) (2 ^ sz (g 0)) (2 ^ sz (g 0)))) < 0
            · skip
              refine x_callVi C (c_Mo_orNone_t Z (oI (lvB (fun s_ => decide (sumN (dysM (outN (nI s_) (g 0) (sz (g 0))) mq) (sz (dysM (outN (nI s_) (g 0) (sz (g 0))) mq)) = sumN (g 0) (sz (g 0)))) (2 ^ sz (g 0)) (2 ^ sz (g 0)))) (by assumption) (va_up g 2 ρ) _ (va_up_ne _ _ (by omega))) mi_Mo_orNone k_1044 (show 0 < 12 by omega) (m_0 Z _) rfl (As := [.int (oI (lvB (fun s_ => decide (sumN (dysM (outN (nI s_) (g 0) (sz (g 0))) mq) (sz (dysM (outN (nI s_) (g 0) (sz (g 0))) mq)) = sumN (g 0) (sz (g 0)))) (2 ^ sz (g 0)) (2 ^ sz (g 0))))]) ⟨Nat.le_of_ble_eq_true rfl, Nat.le_of_ble_eq_true rfl⟩ rfl rfl (Nat.le_of_ble_eq_true rfl) d_Mo_leaveOut_72 ?_
              exact x_iretK C (by first | with_reducible rfl | (simp only [hcm]; rw [if_neg (not_not_intro (by assumption)), if_pos (by assumption)]) | (simp only [hcm]; rw [if_neg (not_not_intro (by assumption)), if_neg (by assumption)]) | (simp [*]; done)) (kfinM (G' := va_up g 4 (mfnR (g 4) 3)) (by first | with_reducible rfl | (simp only [hcm]; rw [if_neg (not_not_intro (by assumption)), if_pos (by assumption)]) | (simp only [hcm]; rw [if_neg (not_not_intro (by assumption)), if_neg (by assumption)]) | (simp [*]; done)) (va_com (by omega))) d_Mo_leaveOut_75
            · skip
              refine x_callVi C (c_Mo_orNone_f Z (oI (lvB (fun s_ => decide (sumN (dysM (outN (nI s_) (g 0) (sz (g 0))) mq) (sz (dysM (outN (nI s_) (g 0) (sz (g 0))) mq)) = sumN (g 0) (sz (g 0)))) (2 ^ sz (g 0)) (2 ^ sz (g 0)))) (by assumption) (va_up g 2 ρ)) mi_Mo_orNone k_1044 (show 0 < 12 by omega) (m_0 Z _) rfl (As := [.int (oI (lvB (fun s_ => decide (sumN (dysM (outN (nI s_) (g 0) (sz (g 0))) mq) (sz (dysM (outN (nI s_) (g 0) (sz (g 0))) mq)) = sumN (g 0) (sz (g 0)))) (2 ^ sz (g 0)) (2 ^ sz (g 0))))]) ⟨Nat.le_of_ble_eq_true rfl, Nat.le_of_ble_eq_true rfl⟩ rfl rfl (Nat.le_of_ble_eq_true rfl) d_Mo_leaveOut_72 ?_
              exact x_iretK C (by first | with_reducible rfl | (simp only [hcm]; rw [if_neg (not_not_intro (by assumption)), if_pos (by assumption)]) | (simp only [hcm]; rw [if_neg (not_not_intro (by assumption)), if_neg (by assumption)]) | (simp [*]; done)) (kfinM (G' := g) (by first | with_reducible rfl | (simp only [hcm]; rw [if_neg (not_not_intro (by assumption)), if_pos (by assumption)]) | (simp only [hcm]; rw [if_neg (not_not_intro (by assumption)), if_neg (by assumption)]) | (simp [*]; done)) rfl) d_Mo_leaveOut_75
          · exact absurd c_11 (by decide)
    refine x_lve (lv' := [(3, .int (dsV M (0))), (2, .int (oI (lvB (fun s_ => decide (sumN (dysM (outN (nI s_) (g 0) (sz (g 0))) mq) (sz (dysM (outN (nI s_) (g 0) (sz (g 0))) mq)) = sumN (g 0) (sz (g 0)))) M (0)))), (0, .ref (Z.2.1 (0))), (1, .int (nI mq))]) (by rw [dsV_t (by omega)]; rfl) ?_
    refine x_eqg (g' := va_up g 2 (g 2)) (va_id g 2).symm ?_
    exact LP_30 (M + 1) 0 (g 2) (Nat.zero_le _) (by omega)
  · refine x_aload_n C d_Mo_leaveOut_10 0 rfl rfl ?_
    refine x_ldc C d_Mo_leaveOut_11 k_866 ?_
    refine x_callVi C (c_Mo_finding_0 Z (g) _ rfl) mi_Mo_finding k_867 (show 0 < 12 by omega) (m_0 Z _) rfl (As := [.int ((-1000001))]) ⟨Nat.le_of_ble_eq_true rfl, Nat.le_of_ble_eq_true rfl⟩ rfl rfl (Nat.le_of_ble_eq_true rfl) d_Mo_leaveOut_13 ?_
    exact x_iretK C (by first | with_reducible rfl | (simp only [hcm]; rw [if_neg (not_not_intro (by assumption)), if_pos (by assumption)]) | (simp only [hcm]; rw [if_neg (not_not_intro (by assumption)), if_neg (by assumption)]) | (simp [*]; done)) (kfinM (G' := va_up g 4 (mfnR (g 4) 0)) (by first | with_reducible rfl | (simp only [hcm]; rw [if_neg (not_not_intro (by assumption)), if_pos (by assumption)]) | (simp only [hcm]; rw [if_neg (not_not_intro (by assumption)), if_neg (by assumption)]) | (simp [*]; done)) (va_idn (by omega)).symm) d_Mo_leaveOut_16
