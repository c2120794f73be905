/-! how a text is cut into tokens, over bytes b of which there are L: skp the first that is no blank, tok the token's kind, tnd where it ends, tnm its number -/
def skp (b : Nat → Int32) (L e : Nat) : Nat := if e < L ∧ b e = 32 then skp b L (e + 1) else e
termination_by L - e
def tkN (x : Int32) : Nat := if 97 ≤ x ∧ x ≤ 122 then 1 else if 48 ≤ x ∧ x ≤ 57 then 2 else if x = 59 then 3 else 4
def ext (b : Nat → Int32) (L k e : Nat) : Nat := if e < L ∧ tkN (b e) = k then ext b L k (e + 1) else e
termination_by L - e
def dig (x : Int32) : Nat := x.toNatClampNeg - 48
def nmV (b : Nat → Int32) (L e v : Nat) : Nat := if e < L ∧ tkN (b e) = 2 then nmV b L (e + 1) (min 10000 (10 * v + dig (b e))) else v
termination_by L - e
def tok (b : Nat → Int32) (L e : Nat) : Nat := if skp b L e < L then tkN (b (skp b L e)) else 0
def tnd (b : Nat → Int32) (L e : Nat) : Nat := if tok b L e = 0 then skp b L e else if tok b L e = 1 ∨ tok b L e = 2 then ext b L (tok b L e) (skp b L e) else skp b L e + 1
def tnm (b : Nat → Int32) (L e : Nat) : Nat := if tok b L e = 2 then nmV b L (skp b L e) 0 else 0
theorem skp_t {b : Nat → Int32} {L e : Nat} (h : e < L) (h2 : b e = 32) : skp b L e = skp b L (e + 1) := by rw [skp, if_pos ⟨h, h2⟩]
theorem skp_f {b : Nat → Int32} {L e : Nat} (h : ¬ (e < L ∧ b e = 32)) : skp b L e = e := by rw [skp, if_neg h]
theorem ext_t {b : Nat → Int32} {L k e : Nat} (h : e < L) (h2 : tkN (b e) = k) : ext b L k e = ext b L k (e + 1) := by rw [ext, if_pos ⟨h, h2⟩]
theorem ext_f {b : Nat → Int32} {L k e : Nat} (h : ¬ (e < L ∧ tkN (b e) = k)) : ext b L k e = e := by rw [ext, if_neg h]
theorem nmV_t {b : Nat → Int32} {L e v : Nat} (h : e < L) (h2 : tkN (b e) = 2) : nmV b L e v = nmV b L (e + 1) (min 10000 (10 * v + dig (b e))) := by rw [nmV, if_pos ⟨h, h2⟩]
theorem nmV_f {b : Nat → Int32} {L e v : Nat} (h : ¬ (e < L ∧ tkN (b e) = 2)) : nmV b L e v = v := by rw [nmV, if_neg h]
theorem skp_b (b : Nat → Int32) (L : Nat) : ∀ (f e : Nat), L - e < f → e ≤ skp b L e ∧ (e ≤ L → skp b L e ≤ L) := by
  intro f
  induction f with
  | zero => intro e h; omega
  | succ f ih =>
    intro e h
    by_cases hc : e < L ∧ b e = 32
    · rw [skp_t hc.1 hc.2]
      have := ih (e + 1) (by omega)
      omega
    · rw [skp_f hc]; omega
theorem skp_ge {b : Nat → Int32} {L e : Nat} : e ≤ skp b L e := (skp_b b L _ e (Nat.lt_succ_self _)).1
theorem skp_le {b : Nat → Int32} {L e : Nat} (h : e ≤ L) : skp b L e ≤ L := (skp_b b L _ e (Nat.lt_succ_self _)).2 h
theorem ext_b (b : Nat → Int32) (L k : Nat) : ∀ (f e : Nat), L - e < f → e ≤ ext b L k e ∧ (e ≤ L → ext b L k e ≤ L) := by
  intro f
  induction f with
  | zero => intro e h; omega
  | succ f ih =>
    intro e h
    by_cases hc : e < L ∧ tkN (b e) = k
    · rw [ext_t hc.1 hc.2]
      have := ih (e + 1) (by omega)
      omega
    · rw [ext_f hc]; omega
theorem ext_ge {b : Nat → Int32} {L k e : Nat} : e ≤ ext b L k e := (ext_b b L k _ e (Nat.lt_succ_self _)).1
theorem ext_le {b : Nat → Int32} {L k e : Nat} (h : e ≤ L) : ext b L k e ≤ L := (ext_b b L k _ e (Nat.lt_succ_self _)).2 h
theorem nmV_b (b : Nat → Int32) (L : Nat) : ∀ (f e v : Nat), L - e < f → v ≤ 10000 → nmV b L e v ≤ 10000 := by
  intro f
  induction f with
  | zero => intro e v h; omega
  | succ f ih =>
    intro e v h hv
    by_cases hc : e < L ∧ tkN (b e) = 2
    · rw [nmV_t hc.1 hc.2]
      exact ih (e + 1) _ (by omega) (Nat.min_le_left _ _)
    · rw [nmV_f hc]; exact hv
theorem tnm_le {b : Nat → Int32} {L e : Nat} : tnm b L e ≤ 10000 := by
  unfold tnm
  split
  · exact nmV_b b L _ _ _ (Nat.lt_succ_self _) (by omega)
  · omega
theorem tkN_4 (x : Int32) : 1 ≤ tkN x ∧ tkN x ≤ 4 := by
  unfold tkN
  repeat' split
  all_goals omega
theorem tok_4 {b : Nat → Int32} {L e : Nat} : tok b L e ≤ 4 := by
  unfold tok
  split
  · exact (tkN_4 _).2
  · omega
theorem tok_lt {b : Nat → Int32} {L e : Nat} (h : tok b L e ≠ 0) : skp b L e < L := by
  unfold tok at h
  by_cases hc : skp b L e < L
  · exact hc
  · rw [if_neg hc] at h; exact absurd rfl h
theorem tok_eq {b : Nat → Int32} {L e : Nat} (h : skp b L e < L) : tok b L e = tkN (b (skp b L e)) := if_pos h
theorem tnd_ge {b : Nat → Int32} {L e : Nat} : skp b L e ≤ tnd b L e := by
  unfold tnd
  repeat' split
  · omega
  · exact ext_ge
  · omega
theorem tnd_le {b : Nat → Int32} {L e : Nat} (h : e ≤ L) : tnd b L e ≤ L := by
  unfold tnd
  by_cases h0 : tok b L e = 0
  · rw [if_pos h0]; exact skp_le h
  · rw [if_neg h0]
    have := tok_lt h0
    by_cases h1 : tok b L e = 1 ∨ tok b L e = 2
    · rw [if_pos h1]; exact ext_le (skp_le h)
    · rw [if_neg h1]; omega
theorem tnd_gt {b : Nat → Int32} {L e : Nat} (h : tok b L e ≠ 0) : e < tnd b L e := by
  have h1 := tok_lt h
  have h2 := skp_ge (b := b) (L := L) (e := e)
  unfold tnd
  rw [if_neg h]
  split
  · rw [ext_t h1 (tok_eq h1).symm]
    have := ext_ge (b := b) (L := L) (k := tok b L e) (e := skp b L e + 1)
    omega
  · omega
/-- the row of a tape that stands behind e -/
def lexR (b : Nat → Int32) (r : Nat → Int32) (L e : Nat) : Nat → Int32 := fun k => if k = 2 then nI (tok b L e) else if k = 3 then nI (skp b L e) else if k = 4 then nI (tnd b L e) else if k = 5 then nI (tnm b L e) else r k
theorem lexR_r {b r : Nat → Int32} {L e e2 : Nat} : lexR b (lexR b r L e) L e2 = lexR b r L e2 := by
  funext k
  unfold lexR
  repeat' split
  all_goals rfl
theorem lexR_0 {b r : Nat → Int32} {L e : Nat} : lexR b r L e 0 = r 0 := rfl
theorem lexR_u0 {b r : Nat → Int32} {L e : Nat} {v : Int32} : upd (lexR b r L e) 0 v = lexR b (upd r 0 v) L e := by
  funext k
  unfold lexR upd
  by_cases h : k = 0
  · subst h; rfl
  · simp [h]
/-- a word: text i -/
def wrd (b : Nat → Int32) (j i : Nat) : Nat → Bool
  | 0 => true
  | k + 1 => wrd b j i k && decide (b (j + k) = tch i k)
def isW (b : Nat → Int32) (L i e : Nat) : Bool := decide (tok b L e = 1 ∧ tnd b L e - skp b L e = txLen.getD i 0 ∧ wrd b (skp b L e) i (txLen.getD i 0) = true)
theorem isW_i {b : Nat → Int32} {L i e : Nat} : isW b L i e = true ↔ tok b L e = 1 ∧ tnd b L e - skp b L e = txLen.getD i 0 ∧ wrd b (skp b L e) i (txLen.getD i 0) = true := decide_eq_true_iff
theorem wrd_at {b : Nat → Int32} {j i : Nat} : ∀ {n k : Nat}, k < n → wrd b j i n = true → b (j + k) = tch i k := by
  intro n
  induction n with
  | zero => intro k h; omega
  | succ n ih =>
    intro k h hw
    simp only [wrd, Bool.and_eq_true, decide_eq_true_eq] at hw
    by_cases hk : k = n
    · subst hk; exact hw.2
    · exact ih (by omega) hw.1
theorem wrd_no {b : Nat → Int32} {j i n k : Nat} (hk : k < n) (h : ¬ b (j + k) = tch i k) : ¬ wrd b j i n = true := fun z => h (wrd_at hk z)
theorem isW_lt {b : Nat → Int32} {L i e : Nat} (h : isW b L i e = true) : e < tnd b L e := tnd_gt (by rw [(isW_i.mp h).1]; omega)
/-- the steps of a reader: behind which place, and whether it is wrong -/
abbrev SS : Type := Nat × Bool
def mS (b : Nat → Int32) (L : Nat) (x : Prop) [Decidable x] (s : SS) : SS := if s.2 = false ∧ x then (tnd b L s.1, false) else (s.1, true)
def nOk (b : Nat → Int32) (L hi e : Nat) : Bool := decide (tok b L e = 2 ∧ tnm b L e ≤ hi)
theorem nOk_i {b : Nat → Int32} {L hi e : Nat} : nOk b L hi e = true ↔ tok b L e = 2 ∧ tnm b L e ≤ hi := decide_eq_true_iff
def nS (b : Nat → Int32) (L hi : Nat) (s : SS) : SS := mS b L (nOk b L hi s.1 = true) s
def oS (b : Nat → Int32) (L i hi : Nat) (s : SS) : SS := if s.2 = false ∧ isW b L i s.1 = true then nS b L hi (tnd b L s.1, false) else s
def oV (b : Nat → Int32) (L i : Nat) (d : Int32) (s : SS) : Int32 := if s.2 = false ∧ isW b L i s.1 = true then nI (tnm b L (tnd b L s.1)) else d
def oR (b : Nat → Int32) (L i hi p f : Nat) (s : SS) (r : Nat → Int32) : Nat → Int32 := if s.2 = false ∧ isW b L i s.1 = true ∧ nOk b L hi (tnd b L s.1) = true then upd r (pI p f) (nI (tnm b L (tnd b L s.1))) else r
def kdF (b : Nat → Int32) (L e : Nat) : Nat → Nat
  | 0 => 7
  | k + 1 => if isW b L (mTx (6 - k)) e = true then 6 - k else kdF b L e k
def kd (b : Nat → Int32) (L e : Nat) : Nat := kdF b L e 7
/-- an item behind e where there are n people -/
def pS1 (b : Nat → Int32) (L n e : Nat) : SS := nS b L 1 (mS b L (n < 8) (e, false))
def pS2 (b : Nat → Int32) (L n e : Nat) : SS := oS b L 9 15 (pS1 b L n e)
def pS3 (b : Nat → Int32) (L n e : Nat) : SS := oS b L 10 99 (pS2 b L n e)
def pS4 (b : Nat → Int32) (L n e : Nat) : SS := oS b L 11 9 (pS3 b L n e)
def pS5 (b : Nat → Int32) (L n e : Nat) : SS := oS b L 12 9999 (pS4 b L n e)
def itS (b : Nat → Int32) (L n e : Nat) : SS := if isW b L 0 e = true then nS b L 15 (nS b L 5 (tnd b L e, false)) else if isW b L 1 e = true then nS b L 99 (tnd b L e, false) else if kd b L e = 7 then (e, true) else pS5 b L n e
def sdN (b : Nat → Int32) (L e : Nat) : Int32 := nI (tnm b L (tnd b L e))
def perR (b : Nat → Int32) (L : Nat) (r : Nat → Int32) (e : Nat) : Nat → Int32 := oR b L 12 9999 (sz r) 5 (pS4 b L (sz r) e) (oR b L 11 9 (sz r) 4 (pS3 b L (sz r) e) (oR b L 10 99 (sz r) 3 (pS2 b L (sz r) e) (oR b L 9 15 (sz r) 2 (pS1 b L (sz r) e) (addR r (nI (kd b L e)) (sdN b L e)))))
def itR (b : Nat → Int32) (L : Nat) (r : Nat → Int32) (e : Nat) : Nat → Int32 := if isW b L 0 e = true then upd r (4 + tnm b L (tnd b L e)) (nI (tnm b L (tnd b L (tnd b L e)))) else if isW b L 1 e = true then upd r 3 (nI (tnm b L (tnd b L e))) else perR b L r e
/-- what the class has in its row behind an item, good or not -/
def perQ (b : Nat → Int32) (L : Nat) (r : Nat → Int32) (e : Nat) : Nat → Int32 := if kd b L e = 7 ∨ (pS1 b L (sz r) e).2 = true then r else perR b L r e
def itQ (b : Nat → Int32) (L : Nat) (r : Nat → Int32) (e : Nat) : Nat → Int32 := if isW b L 0 e = true then (if (nS b L 15 (nS b L 5 (tnd b L e, false))).2 = true then r else upd r (4 + tnm b L (tnd b L e)) (nI (tnm b L (tnd b L (tnd b L e))))) else if isW b L 1 e = true then (if (nS b L 99 (tnd b L e, false)).2 = true then r else upd r 3 (nI (tnm b L (tnd b L e)))) else perQ b L r e
/-- a text from e on, c items read: what it answers, the row, where it ends -/
def txA (b : Nat → Int32) (L : Nat) : Nat → Nat → (Nat → Int32) → Nat → Int32
  | 0, _, _, _ => 0
  | f + 1, c, r, e => if (itS b L (sz r) e).2 = true then -1 - nI (skp b L (itS b L (sz r) e).1) else if tok b L (itS b L (sz r) e).1 = 3 then txA b L f (c + 1) (itQ b L r e) (tnd b L (itS b L (sz r) e).1) else if tok b L (itS b L (sz r) e).1 = 0 then nI (c + 1) else -1 - nI (skp b L (itS b L (sz r) e).1)
def txR (b : Nat → Int32) (L : Nat) : Nat → (Nat → Int32) → Nat → (Nat → Int32)
  | 0, r, _ => r
  | f + 1, r, e => if (itS b L (sz r) e).2 = true then itQ b L r e else if tok b L (itS b L (sz r) e).1 = 3 then txR b L f (itQ b L r e) (tnd b L (itS b L (sz r) e).1) else itQ b L r e
def txE (b : Nat → Int32) (L : Nat) : Nat → (Nat → Int32) → Nat → Nat
  | 0, _, e => e
  | f + 1, r, e => if (itS b L (sz r) e).2 = true then (itS b L (sz r) e).1 else if tok b L (itS b L (sz r) e).1 = 3 then txE b L f (itQ b L r e) (tnd b L (itS b L (sz r) e).1) else (itS b L (sz r) e).1
def itn (b : Nat → Int32) (L : Nat) (r : Nat → Int32) : Nat → (Nat → Int32) × Nat
  | 0 => (r, 0)
  | i + 1 => (itQ b L (itn b L r i).1 (itn b L r i).2, tnd b L (itS b L (sz (itn b L r i).1) (itn b L r i).2).1)
theorem mS_le {b : Nat → Int32} {L : Nat} {x : Prop} [Decidable x] {s : SS} (h : s.1 ≤ L) : (mS b L x s).1 ≤ L := by
  unfold mS
  split
  · exact tnd_le h
  · exact h
theorem nS_le {b : Nat → Int32} {L hi : Nat} {s : SS} (h : s.1 ≤ L) : (nS b L hi s).1 ≤ L := mS_le h
theorem oS_le {b : Nat → Int32} {L i hi : Nat} {s : SS} (h : s.1 ≤ L) : (oS b L i hi s).1 ≤ L := by
  unfold oS
  split
  · exact nS_le (tnd_le h)
  · exact h
theorem pS_le {b : Nat → Int32} {L n e : Nat} (h : e ≤ L) : (pS1 b L n e).1 ≤ L ∧ (pS2 b L n e).1 ≤ L ∧ (pS3 b L n e).1 ≤ L ∧ (pS4 b L n e).1 ≤ L ∧ (pS5 b L n e).1 ≤ L := by
  have h1 : (pS1 b L n e).1 ≤ L := nS_le (mS_le h)
  exact ⟨h1, oS_le h1, oS_le (oS_le h1), oS_le (oS_le (oS_le h1)), oS_le (oS_le (oS_le (oS_le h1)))⟩
theorem itS_le {b : Nat → Int32} {L n e : Nat} (h : e ≤ L) : (itS b L n e).1 ≤ L := by
  unfold itS
  repeat' split
  · exact nS_le (nS_le (tnd_le h))
  · exact nS_le (tnd_le h)
  · exact h
  · exact (pS_le h).2.2.2.2
theorem mS_w {b : Nat → Int32} {L : Nat} {x : Prop} [Decidable x] {s : SS} (h : (mS b L x s).2 = false) : s.2 = false ∧ x ∧ (mS b L x s).1 = tnd b L s.1 := by
  unfold mS at h ⊢
  by_cases hc : s.2 = false ∧ x
  · rw [if_pos hc]; exact ⟨hc.1, hc.2, rfl⟩
  · rw [if_neg hc] at h; cases h
theorem nS_w {b : Nat → Int32} {L hi : Nat} {s : SS} (h : (nS b L hi s).2 = false) : s.2 = false ∧ nOk b L hi s.1 = true ∧ (nS b L hi s).1 = tnd b L s.1 ∧ s.1 < (nS b L hi s).1 := by
  obtain ⟨h1, h2, h3⟩ := mS_w h
  exact ⟨h1, h2, h3, by unfold nS; rw [h3]; exact tnd_gt (by rw [(nOk_i.mp h2).1]; omega)⟩
theorem oS_w {b : Nat → Int32} {L i hi : Nat} {s : SS} (h : (oS b L i hi s).2 = false) : s.2 = false ∧ s.1 ≤ (oS b L i hi s).1 := by
  unfold oS at h ⊢
  by_cases hc : s.2 = false ∧ isW b L i s.1 = true
  · rw [if_pos hc] at h ⊢
    have h3 := (nS_w h).2.2.2
    exact ⟨hc.1, Nat.le_of_lt (Nat.lt_trans (isW_lt hc.2) h3)⟩
  · rw [if_neg hc] at h ⊢; exact ⟨h, Nat.le_refl _⟩
theorem kd_7 {b : Nat → Int32} {L e : Nat} : kd b L e ≤ 7 ∧ (kd b L e ≠ 7 → isW b L (mTx (kd b L e)) e = true) := by
  have : ∀ n, n ≤ 7 → kdF b L e n ≤ 7 ∧ (kdF b L e n ≠ 7 → isW b L (mTx (kdF b L e n)) e = true) := by
    intro n
    induction n with
    | zero => intro _; exact ⟨Nat.le_refl _, fun h => absurd rfl h⟩
    | succ n ih =>
      intro hn
      unfold kdF
      by_cases hc : isW b L (mTx (6 - n)) e = true
      · rw [if_pos hc]; exact ⟨by omega, fun _ => hc⟩
      · rw [if_neg hc]; exact ih (by omega)
  exact this 7 (Nat.le_refl _)
theorem itS_w {b : Nat → Int32} {L n e : Nat} (h : (itS b L n e).2 = false) : e < (itS b L n e).1 := by
  unfold itS at h ⊢
  by_cases h0 : isW b L 0 e = true
  · rw [if_pos h0] at h ⊢
    have h1 := nS_w h
    have h2 := nS_w h1.1
    have := isW_lt h0
    have h3 := h2.2.2.2
    have h4 := h1.2.2.2
    exact Nat.lt_trans this (Nat.lt_trans h3 h4)
  · rw [if_neg h0] at h ⊢
    by_cases h1 : isW b L 1 e = true
    · rw [if_pos h1] at h ⊢
      exact Nat.lt_trans (isW_lt h1) (nS_w h).2.2.2
    · rw [if_neg h1] at h ⊢
      by_cases h2 : kd b L e = 7
      · rw [if_pos h2] at h; cases h
      · rw [if_neg h2] at h ⊢
        have a5 := oS_w (s := pS4 b L n e) h
        have a4 := oS_w (s := pS3 b L n e) a5.1
        have a3 := oS_w (s := pS2 b L n e) a4.1
        have a2 := oS_w (s := pS1 b L n e) a3.1
        have a1 := nS_w (s := mS b L (n < 8) (e, false)) a2.1
        have a0 := mS_w (s := (e, false)) a1.1
        have hw := isW_lt (kd_7.2 h2)
        have e0 : (mS b L (n < 8) (e, false)).1 = tnd b L e := a0.2.2
        have l1 : tnd b L e < (pS1 b L n e).1 := by rw [← e0]; exact a1.2.2.2
        exact Nat.lt_of_lt_of_le (Nat.lt_trans hw l1) (Nat.le_trans a2.2 (Nat.le_trans a3.2 (Nat.le_trans a4.2 a5.2)))
theorem kd_hit {b : Nat → Int32} {L e k : Nat} (hk : k < 7) (hy : kdF b L e (7 - k) = kd b L e) (h : isW b L (mTx k) e = true) : kd b L e = k := by
  rw [← hy, show 7 - k = (6 - k) + 1 by omega, kdF, show 6 - (6 - k) = k by omega, if_pos h]
theorem kd_mis {b : Nat → Int32} {L e k : Nat} (hk : k < 7) (hy : kdF b L e (7 - k) = kd b L e) (h : ¬ isW b L (mTx k) e = true) : kdF b L e (7 - (k + 1)) = kd b L e := by
  rw [← hy, show 7 - k = (6 - k) + 1 by omega, kdF, show 6 - (6 - k) = k by omega, if_neg h]
  congr 1
  omega
theorem mTx_lt : ∀ k, k < 7 → mTx k < 13 := by decide
theorem okR_u {r : Nat → Int32} {k : Nat} {v : Int32} (hk : okR r) (h : 2 ≤ k) : okR (upd r k v) := by
  unfold okR at *
  rw [pk_un (by omega), pk_un (by omega)]
  exact hk
theorem oR_ok {b : Nat → Int32} {L i hi p f : Nat} {s : SS} {r : Nat → Int32} (hk : okR r) : okR (oR b L i hi p f s r) := by
  unfold oR
  split
  · exact okR_u hk (by simp only [pI]; omega)
  · exact hk
theorem addR_ok {r : Nat → Int32} {k s : Int32} (hk : okR r) (h : sz r < 8) : okR (addR r k s) := by
  unfold okR addR
  refine ⟨⟨sz r + 1, by omega, pk_us⟩, ?_⟩
  rw [pk_un (by decide), bgnR_hd (by decide)]
  exact hk.2
theorem perQ_ok {b : Nat → Int32} {L e : Nat} {r : Nat → Int32} (hk : okR r) : okR (perQ b L r e) := by
  unfold perQ
  split
  · exact hk
  · rename_i h
    unfold perR
    refine oR_ok (oR_ok (oR_ok (oR_ok (addR_ok hk ?_))))
    have h2 : (pS1 b L (sz r) e).2 = false := by
      cases hx : (pS1 b L (sz r) e).2 with
      | false => rfl
      | true => exact absurd (Or.inr hx) h
    exact (mS_w (nS_w h2).1).2.1
theorem itQ_ok {b : Nat → Int32} {L e : Nat} {r : Nat → Int32} (hk : okR r) : okR (itQ b L r e) := by
  unfold itQ
  repeat' split
  · exact hk
  · exact okR_u hk (by omega)
  · exact hk
  · exact okR_u hk (by omega)
  · exact perQ_ok hk
