/-! the reference's reader -/
def mrw (r : Nat → Int32) (bg en so va wr im pt : Int32) : Nat → Int32 := fun k => if k = 7 then bg else if k = 8 then en else if k = 9 then so else if k = 10 then va else if k = 11 then wr else if k = 14 then im else if k = 15 then pt else r k
theorem mrw_7 {r : Nat → Int32} {a b c d e f h x : Int32} : upd (mrw r a b c d e f h) 7 x = mrw r x b c d e f h := by
  funext k; unfold mrw upd; by_cases h : k = 7 <;> simp [h]
theorem mrw_8 {r : Nat → Int32} {a b c d e f h x : Int32} : upd (mrw r a b c d e f h) 8 x = mrw r a x c d e f h := by
  funext k; unfold mrw upd; by_cases h : k = 8 <;> simp [h]
theorem mrw_9 {r : Nat → Int32} {a b c d e f h x : Int32} : upd (mrw r a b c d e f h) 9 x = mrw r a b x d e f h := by
  funext k; unfold mrw upd; by_cases h : k = 9 <;> simp [h]
theorem mrw_10 {r : Nat → Int32} {a b c d e f h x : Int32} : upd (mrw r a b c d e f h) 10 x = mrw r a b c x e f h := by
  funext k; unfold mrw upd; by_cases h : k = 10 <;> simp [h]
theorem mrw_11 {r : Nat → Int32} {a b c d e f h x : Int32} : upd (mrw r a b c d e f h) 11 x = mrw r a b c d x f h := by
  funext k; unfold mrw upd; by_cases h : k = 11 <;> simp [h]
theorem mrw_14 {r : Nat → Int32} {a b c d e f h x : Int32} : upd (mrw r a b c d e f h) 14 x = mrw r a b c d e x h := by
  funext k; unfold mrw upd; by_cases h : k = 14 <;> simp [h]
theorem mrw_15 {r : Nat → Int32} {a b c d e f h x : Int32} : upd (mrw r a b c d e f h) 15 x = mrw r a b c d e f x := by
  funext k; unfold mrw upd; by_cases h : k = 15 <;> simp [h]
theorem mrw_id {g : St} : g = va_up g 3 (mrw (g 3) (g 3 7) (g 3 8) (g 3 9) (g 3 10) (g 3 11) (g 3 14) (g 3 15)) := by
  have : mrw (g 3) (g 3 7) (g 3 8) (g 3 9) (g 3 10) (g 3 11) (g 3 14) (g 3 15) = g 3 := by
    funext k; unfold mrw
    repeat' split
    all_goals (first | rfl | (simp only [*]))
  rw [this, va_id]
def bAt (b : Nat → Int32) (L k : Nat) : Int32 := if k < L then b k else -1
def lxS (b r : Nat → Int32) (L e : Nat) (w c n : Int32) : Nat → Int32 := mrw r (nI (skp b L e)) (nI (tnd b L e)) (nI (min 3 (tok b L e))) (nI (tnm b L e)) w c n
def wI (x : Bool) : Int32 := if x = true then 1 else 0
theorem wI_01 (x : Bool) : wI x = 0 ∨ wI x = 1 := by cases x <;> simp [wI]
theorem bAt_32 {b : Nat → Int32} {L k : Nat} : bAt b L k = 32 ↔ k < L ∧ b k = 32 := by
  unfold bAt
  by_cases h : k < L
  · rw [if_pos h]; simp [h]
  · rw [if_neg h]; simp [h]
theorem bAt_neg {b : Nat → Int32} {L k : Nat} (hB : ∀ k, k < L → ¬ b k < 0) : 0 ≤ bAt b L k ↔ k < L := by
  unfold bAt
  by_cases h : k < L
  · rw [if_pos h]; exact ⟨fun _ => h, fun _ => Int32.not_lt.mp (hB k h)⟩
  · rw [if_neg h]; exact ⟨fun z => absurd z (by decide), fun z => absurd z h⟩
theorem tkN_1 {x : Int32} : tkN x = 1 ↔ (97 ≤ x ∧ x ≤ 122) := by
  unfold tkN
  by_cases h : 97 ≤ x ∧ x ≤ 122
  · rw [if_pos h]; simp [h]
  · rw [if_neg h]
    constructor
    · intro z; exfalso; revert z; repeat' split
      all_goals omega
    · intro z; exact absurd z h
theorem tkN_2 {x : Int32} : tkN x = 2 ↔ (48 ≤ x ∧ x ≤ 57) := by
  unfold tkN
  by_cases h : 97 ≤ x ∧ x ≤ 122
  · rw [if_pos h]
    constructor
    · intro z; omega
    · intro z
      exact absurd (Int32.le_trans h.1 z.2) (by decide)
  · rw [if_neg h]
    by_cases h2 : 48 ≤ x ∧ x ≤ 57
    · rw [if_pos h2]; simp [h2]
    · rw [if_neg h2]
      constructor
      · intro z; exfalso; revert z; split
        all_goals omega
      · intro z; exact absurd z h2
theorem tkN_3 {x : Int32} : tkN x = 3 ↔ x = 59 := by
  constructor
  · intro h
    unfold tkN at h
    by_cases h1 : 97 ≤ x ∧ x ≤ 122
    · rw [if_pos h1] at h; omega
    · rw [if_neg h1] at h
      by_cases h2 : 48 ≤ x ∧ x ≤ 57
      · rw [if_pos h2] at h; omega
      · rw [if_neg h2] at h
        by_cases h3 : x = 59
        · exact h3
        · rw [if_neg h3] at h; omega
  · intro h; subst h; decide
theorem bAt_1 {b : Nat → Int32} {L k : Nat} : (97 ≤ bAt b L k ∧ bAt b L k ≤ 122) ↔ (k < L ∧ tkN (b k) = 1) := by
  rw [tkN_1]
  unfold bAt
  by_cases h : k < L
  · rw [if_pos h]; exact ⟨fun z => ⟨h, z⟩, fun z => z.2⟩
  · rw [if_neg h]; exact ⟨fun z => absurd z.1 (by decide), fun z => absurd z.1 h⟩
theorem bAt_2 {b : Nat → Int32} {L k : Nat} : (48 ≤ bAt b L k ∧ bAt b L k ≤ 57) ↔ (k < L ∧ tkN (b k) = 2) := by
  rw [tkN_2]
  unfold bAt
  by_cases h : k < L
  · rw [if_pos h]; exact ⟨fun z => ⟨h, z⟩, fun z => z.2⟩
  · rw [if_neg h]; exact ⟨fun z => absurd z.1 (by decide), fun z => absurd z.1 h⟩
theorem num_sM {b : Nat → Int32} {L j i : Nat} (h : j + i < L ∧ tkN (b (j + i)) = 2) : mn 10000 (10 * nI (nmP b j i) + bAt b L (j + i) - 48) = nI (nmP b j (i + 1)) := by
  rw [Int32.mul_comm, show bAt b L (j + i) = b (j + i) from if_pos h.1]
  exact num_st h.2
/-- two texts are no one's word at once -/
theorem tx_ne : ∀ i, i < 13 → ∀ j, j < 13 → txLen.getD i 0 = txLen.getD j 0 → (∀ k, k < 8 → k < txLen.getD i 0 → tch i k = tch j k) → i = j := by decide +kernel
theorem isW_one {b : Nat → Int32} {L e i j : Nat} (hi : i < 13) (hj : j < 13) (h : isW b L i e = true) (h2 : isW b L j e = true) : i = j := by
  have a := isW_i.mp h
  have c := isW_i.mp h2
  have hl : txLen.getD i 0 = txLen.getD j 0 := a.2.1.symm.trans c.2.1
  exact tx_ne i hi j hj hl (fun k _ hk => (wrd_at hk a.2.2).symm.trans (wrd_at (hl ▸ hk) c.2.2))
/-- the kind's word as the reference looks for it: the last -/
def kdN (b : Nat → Int32) (L e : Nat) : Nat → Int32
  | 0 => -1
  | j + 1 => if isW b L (mTx j) e = true then nI j else kdN b L e j
theorem mTx_inj : ∀ i, i < 7 → ∀ j, j < 7 → mTx i = mTx j → i = j := by decide
theorem kdF_none {b : Nat → Int32} {L e : Nat} : ∀ n, n ≤ 7 → kdF b L e n = 7 → ∀ j, 7 - n ≤ j → j < 7 → ¬ isW b L (mTx j) e = true := by
  intro n
  induction n with
  | zero => intro _ _ j h1 h2; omega
  | succ n ih =>
    intro hn h j h1 h2
    unfold kdF at h
    by_cases hc : isW b L (mTx (6 - n)) e = true
    · rw [if_pos hc] at h; omega
    · rw [if_neg hc] at h
      by_cases hj : j = 6 - n
      · rw [hj]; exact hc
      · exact ih (by omega) h j (by omega) h2
theorem kd_none {b : Nat → Int32} {L e : Nat} (h : kd b L e = 7) {j : Nat} (hj : j < 7) : ¬ isW b L (mTx j) e = true := kdF_none 7 (Nat.le_refl _) h j (by omega) hj
theorem kdN_n {b : Nat → Int32} {L e : Nat} (h : kd b L e = 7) : ∀ n, n ≤ 7 → kdN b L e n = -1 := by
  intro n
  induction n with
  | zero => intro _; rfl
  | succ n ih => intro hn; unfold kdN; rw [if_neg (kd_none h (by omega))]; exact ih (by omega)
theorem kdN_y {b : Nat → Int32} {L e : Nat} (h : ¬ kd b L e = 7) : ∀ n, n ≤ 7 → kd b L e < n → kdN b L e n = nI (kd b L e) := by
  have hw := kd_7.2 h
  have h7 := kd_7 (b := b) (L := L) (e := e)
  intro n
  induction n with
  | zero => intro _ h2; omega
  | succ n ih =>
    intro hn h2
    unfold kdN
    by_cases hc : isW b L (mTx n) e = true
    · rw [if_pos hc, mTx_inj n (by omega) _ (by omega) (isW_one (mTx_lt n (by omega)) (mTx_lt _ (by omega)) hc hw)]
    · rw [if_neg hc]
      refine ih (by omega) ?_
      by_cases hk : kd b L e = n
      · rw [hk] at hw; exact absurd hw hc
      · omega
theorem kdN_7 {b : Nat → Int32} {L e : Nat} : kdN b L e 7 = if kd b L e = 7 then -1 else nI (kd b L e) := by
  have h7 := kd_7 (b := b) (L := L) (e := e)
  by_cases h : kd b L e = 7
  · rw [if_pos h]; exact kdN_n h 7 (Nat.le_refl _)
  · rw [if_neg h]; exact kdN_y h 7 (Nat.le_refl _) (by omega)
theorem mTx_n : ∀ i, i < 7 → mTx i ≠ 0 ∧ mTx i ≠ 1 := by decide
theorem kd_no {b : Nat → Int32} {L e i : Nat} (h : ¬ kd b L e = 7) (hi : i < 2) : ¬ isW b L i e = true := by
  intro z
  have h7 := kd_7 (b := b) (L := L) (e := e)
  have := isW_one (mTx_lt _ (by omega)) (by omega) (h7.2 h) z
  have h2 := mTx_n (kd b L e) (by omega)
  rcases (show i = 0 ∨ i = 1 by omega) with rfl | rfl
  · exact h2.1 this
  · exact h2.2 this
/-- an item's six numbers -/
def add6 (ρ : Nat → Int32) (c : Nat) (a1 a2 a3 a4 a5 a6 : Int32) : Nat → Int32 := upd (upd (upd (upd (upd (upd ρ (6 * c) a1) (6 * c + 1) a2) (6 * c + 2) a3) (6 * c + 3) a4) (6 * c + 4) a5) (6 * c + 5) a6
theorem add6_lo {ρ : Nat → Int32} {c k : Nat} {a1 a2 a3 a4 a5 a6 : Int32} (h : k < 6 * c) : add6 ρ c a1 a2 a3 a4 a5 a6 k = ρ k := by
  unfold add6
  rw [pk_un (by omega), pk_un (by omega), pk_un (by omega), pk_un (by omega), pk_un (by omega), pk_un (by omega)]
theorem add6_0 {ρ : Nat → Int32} {c : Nat} {a1 a2 a3 a4 a5 a6 : Int32} : add6 ρ c a1 a2 a3 a4 a5 a6 (6 * c) = a1 := by
  unfold add6
  rw [pk_un (by omega), pk_un (by omega), pk_un (by omega), pk_un (by omega), pk_un (by omega), pk_us]
theorem add6_1 {ρ : Nat → Int32} {c : Nat} {a1 a2 a3 a4 a5 a6 : Int32} : add6 ρ c a1 a2 a3 a4 a5 a6 (6 * c + 1) = a2 := by
  unfold add6
  rw [pk_un (by omega), pk_un (by omega), pk_un (by omega), pk_un (by omega), pk_us]
theorem add6_2 {ρ : Nat → Int32} {c : Nat} {a1 a2 a3 a4 a5 a6 : Int32} : add6 ρ c a1 a2 a3 a4 a5 a6 (6 * c + 2) = a3 := by
  unfold add6
  rw [pk_un (by omega), pk_un (by omega), pk_un (by omega), pk_us]
theorem add6_3 {ρ : Nat → Int32} {c : Nat} {a1 a2 a3 a4 a5 a6 : Int32} : add6 ρ c a1 a2 a3 a4 a5 a6 (6 * c + 3) = a4 := by
  unfold add6
  rw [pk_un (by omega), pk_un (by omega), pk_us]
theorem add6_4 {ρ : Nat → Int32} {c : Nat} {a1 a2 a3 a4 a5 a6 : Int32} : add6 ρ c a1 a2 a3 a4 a5 a6 (6 * c + 4) = a5 := by
  unfold add6
  rw [pk_un (by omega), pk_us]
theorem add6_5 {ρ : Nat → Int32} {c : Nat} {a1 a2 a3 a4 a5 a6 : Int32} : add6 ρ c a1 a2 a3 a4 a5 a6 (6 * c + 5) = a6 := pk_us
def sdP (b : Nat → Int32) (L n e : Nat) : Int32 := nI (tnm b L (mS b L (n < 8) (e, false)).1)
def perI (b : Nat → Int32) (L n e c : Nat) (ρ : Nat → Int32) : Nat → Int32 := add6 ρ c (nI (kd b L e)) (sdP b L n e) (oV b L 9 (lft (sdP b L n e)) (pS1 b L n e)) (oV b L 10 30 (pS2 b L n e)) (oV b L 11 0 (pS3 b L n e)) (oV b L 12 0 (pS4 b L n e))
def itI (b : Nat → Int32) (L n e c : Nat) (ρ : Nat → Int32) : Nat → Int32 := if ¬ kd b L e = 7 then perI b L n e c ρ else if isW b L 0 e = true then add6 ρ c 10 (nI (tnm b L (tnd b L e))) (nI (tnm b L (nS b L 5 (tnd b L e, false)).1)) 0 0 0 else if isW b L 1 e = true then add6 ρ c 11 (nI (tnm b L (tnd b L e))) 0 0 0 0 else ρ
def itC (b : Nat → Int32) (L e c : Nat) : Nat := if ¬ kd b L e = 7 then c + 1 else if isW b L 0 e = true then c + 1 else if isW b L 1 e = true then c + 1 else c
def itP (b : Nat → Int32) (L e n : Nat) : Nat := if ¬ kd b L e = 7 then n + 1 else n
theorem itI_lo {b : Nat → Int32} {L n e c k : Nat} {ρ : Nat → Int32} (h : k < 6 * c) : itI b L n e c ρ k = ρ k := by
  unfold itI perI
  repeat' split
  · exact add6_lo h
  · exact add6_lo h
  · exact add6_lo h
  · rfl
def itm (b : Nat → Int32) (L : Nat) (R ρ : Nat → Int32) : Nat → Nat → Int32
  | 0 => ρ
  | i + 1 => itI b L (sz (itn b L R i).1) (itn b L R i).2 i (itm b L R ρ i)
theorem itm_lo {b : Nat → Int32} {L k i : Nat} {R ρ : Nat → Int32} : ∀ {m : Nat}, i < m → k < 6 * (i + 1) → itm b L R ρ m k = itm b L R ρ (i + 1) k := by
  intro m
  induction m with
  | zero => intro h; omega
  | succ m ih =>
    intro h hk
    by_cases hm : i = m
    · rw [hm]
    · rw [itm, itI_lo (by omega)]; exact ih (by omega) hk
