/-! the reference's own words -/
theorem bI_c {p q : Prop} [Decidable p] [Decidable q] (h : p ↔ q) : bI p = bI q := by
  unfold bI
  by_cases hp : p
  · rw [if_pos hp, if_pos (h.mp hp)]
  · rw [if_neg hp, if_neg (fun z => hp (h.mpr z))]
theorem pr_iff {x : Int32} {n : Nat} (hn : n ≤ 8) : (0 ≤ x ∧ x ≤ nI n - 1) ↔ (0 ≤ x ∧ x < nI n) := by
  have hh : (nI n - 1).toInt = (n : Int) - 1 := by
    have := pk_sub_toInt (a := n) (b := 1) (by omega) (by omega)
    exact this
  constructor
  · intro h
    refine ⟨h.1, ?_⟩
    have h2 := h.2
    rw [fa_leI, hh] at h2
    rw [Int32.lt_iff_toInt_lt, nI_toInt (by omega)]
    omega
  · intro h
    refine ⟨h.1, ?_⟩
    have h2 := h.2
    rw [Int32.lt_iff_toInt_lt, nI_toInt (by omega)] at h2
    rw [fa_leI, hh]
    omega
def mfnR (r : Nat → Int32) (w : Nat) : Nat → Int32 := upd (upd r (w + 1) (r (w + 1) + 1)) 0 (r 0 + 1)
def c68 (a b : Nat → Int32) : Nat → Int32 := fun j => if j < 68 then a j else b j
def cpM (a b : Nat → Int32) : Nat → Nat → Int32
  | 0 => b
  | i + 1 => upd (cpM a b i) i (a i)
theorem cpM_at {a b : Nat → Int32} {i j : Nat} : cpM a b i j = if j < i then a j else b j := by
  induction i with
  | zero => rw [if_neg (by omega)]; rfl
  | succ i ih =>
    show upd (cpM a b i) i (a i) j = _
    by_cases h : j = i
    · subst h; rw [pk_us, if_pos (by omega)]
    · rw [pk_un h, ih]
      by_cases h2 : j < i
      · rw [if_pos h2, if_pos (by omega)]
      · rw [if_neg h2, if_neg (by omega)]
theorem cpM_68 {a b : Nat → Int32} : cpM a b 68 = c68 a b := by funext j; rw [cpM_at]; rfl
def wlkM (r : Nat → Int32) (i : Nat) (pl : Int32) : Int32 := mvd (r (pI i 2)) (if 0 < r (pI i 3) then (if crs (r (pI i 0)) (r (pI i 5)) (r 3) = true then pl else if r (pI i 2) ≤ 7 then mn 7 pl else mx 8 pl) else lft (r (pI i 1))) (stp (r (pI i 0)) (r (pI i 4)) (r 0))
def wkM (pl : Int32) (r : Nat → Int32) : Nat → Nat → Int32
  | 0 => r
  | i + 1 => upd (wkM pl r i) (pI i 2) (wlkM (wkM pl r i) i pl)
theorem wkM_hd {pl : Int32} {r : Nat → Int32} {i n : Nat} (h : n < 20) : wkM pl r i n = r n := by
  induction i with
  | zero => rfl
  | succ i ih => exact (upd_hd h).trans ih
def enM (r : Nat → Int32) : Nat → Nat → Int32
  | 0 => r
  | i + 1 => endR (enM r i) i (enM r i 0)
theorem enM_hd {r : Nat → Int32} {i n : Nat} (h : n < 20) : enM r i n = r n := by
  induction i with
  | zero => rfl
  | succ i ih => exact (endR_hd h).trans ih
def dayM (r : Nat → Int32) : Nat → Int32 := upd (enM (g5 (mtO (sz r) (wkM (r (4 + dy r % 6)) r (sz r)) (sz r))) (sz r)) 0 (mn 99999 (r 0 + 1))
theorem dayM_1 {r : Nat → Int32} {n : Nat} (h : 0 < n) (h3 : n < 3) : dayM r n = r n := by
  unfold dayM
  rw [pk_un (by omega), enM_hd (by omega), g5_hd h3, mtO_hd h3, wkM_hd (by omega)]
theorem dayM_0 {r : Nat → Int32} {d : Nat} (h : r 0 = nI d) (hd : d ≤ 99999) : dayM r 0 = nI (min 99999 (d + 1)) := by
  unfold dayM
  rw [pk_us, h, mn_day hd]
theorem okR_dayM {r : Nat → Int32} (h : okR r) : okR (dayM r) := by
  obtain ⟨⟨n, hn, h1⟩, d, hd, h0⟩ := h
  exact ⟨⟨n, hn, (dayM_1 (by omega) (by omega)).trans h1⟩, min 99999 (d + 1), Nat.min_le_left _ _, dayM_0 h0 hd⟩
def dysM (r : Nat → Int32) : Nat → Nat → Int32
  | 0 => r
  | k + 1 => dayM (dysM r k)
theorem okR_dysM {r : Nat → Int32} (h : okR r) (k : Nat) : okR (dysM r k) := by
  induction k with
  | zero => exact h
  | succ k ih => exact okR_dayM ih
/-! nothing is written beyond the row -/
theorem upd_hi {r : Nat → Int32} {i a j : Nat} {v : Int32} (hi : i < 8) (ha : a < 6) (hj : 68 ≤ j) : upd r (pI i a) v j = r j := pk_un (by simp only [pI]; omega)
theorem wkM_hi {pl : Int32} {r : Nat → Int32} {i j : Nat} (hi : i ≤ 8) (hj : 68 ≤ j) : wkM pl r i j = r j := by
  induction i with
  | zero => rfl
  | succ i ih => exact (upd_hi (by omega) (by omega) hj).trans (ih (by omega))
theorem mt1_hi {r : Nat → Int32} {a b j : Nat} (ha : a < 8) (hb : b < 8) (hj : 68 ≤ j) : mt1 r a b j = r j := by
  unfold mt1
  split
  · rw [pk_un (by omega)]
    unfold cmtR
    rw [upd_hi hb (by omega) hj, upd_hi ha (by omega) hj]
  · rfl
theorem mtI_hi {r : Nat → Int32} {a k j : Nat} (h : a + 1 + k ≤ 8) (hj : 68 ≤ j) : mtI a r k j = r j := by
  induction k with
  | zero => rfl
  | succ k ih => exact (mt1_hi (by omega) (by omega) hj).trans (ih (by omega))
theorem mtO_hi {m : Nat} {r : Nat → Int32} {a j : Nat} (hm : m ≤ 8) (ha : a ≤ m) (hj : 68 ≤ j) : mtO m r a j = r j := by
  induction a with
  | zero => rfl
  | succ a ih => exact (mtI_hi (by omega) hj).trans (ih (by omega))
theorem g5_hi {r : Nat → Int32} {j : Nat} (hj : 68 ≤ j) : g5 r j = r j := by
  unfold g5
  split
  · exact pk_un (by omega)
  · rfl
theorem endR_hi {r : Nat → Int32} {i j : Nat} {d : Int32} (hi : i < 8) (hj : 68 ≤ j) : endR r i d j = r j := by
  unfold endR
  split
  · rw [upd_hi hi (by omega) hj, upd_hi hi (by omega) hj]
  · rw [upd_hi hi (by omega) hj]
theorem enM_hi {r : Nat → Int32} {i j : Nat} (hi : i ≤ 8) (hj : 68 ≤ j) : enM r i j = r j := by
  induction i with
  | zero => rfl
  | succ i ih => exact (endR_hi (by omega) hj).trans (ih (by omega))
theorem okR_sz {r : Nat → Int32} (h : okR r) : sz r ≤ 8 := by
  obtain ⟨⟨n, hn, h1⟩, -⟩ := h
  rw [sz_of h1 hn]; exact hn
theorem dayM_hi {r : Nat → Int32} {j : Nat} (h : okR r) (hj : 68 ≤ j) : dayM r j = r j := by
  have hs := okR_sz h
  unfold dayM
  rw [pk_un (by omega), enM_hi hs hj, g5_hi hj, mtO_hi hs (Nat.le_refl _) hj, wkM_hi hs hj]
theorem dysM_hi {r : Nat → Int32} {k j : Nat} (h : okR r) (hj : 68 ≤ j) : dysM r k j = r j := by
  induction k with
  | zero => rfl
  | succ k ih => exact (dayM_hi (okR_dysM h k) hj).trans ih
/-- what was put aside comes back -/
theorem back_id {r ρ q : Nat → Int32} (h : ∀ j, 68 ≤ j → q j = r j) : c68 (c68 r ρ) q = r := by
  funext j
  unfold c68
  by_cases hj : j < 68
  · rw [if_pos hj, if_pos hj]
  · rw [if_neg hj, h j (by omega)]
theorem upd_id {r : Nat → Int32} {k : Nat} : upd r k (r k) = r := by
  funext j
  by_cases h : j = k
  · subst h; rw [pk_us]
  · rw [pk_un h]
