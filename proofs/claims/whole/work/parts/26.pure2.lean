/-! rows that are alike as far as there are people -/
def eqv (n : Nat) (r r' : Nat → Int32) : Prop := ∀ k, k < 20 + 6 * n → r k = r' k
theorem eqv.rfl' {n : Nat} {r : Nat → Int32} : eqv n r r := fun _ _ => rfl
theorem eqv.symm {n : Nat} {r r' : Nat → Int32} (h : eqv n r r') : eqv n r' r := fun k hk => (h k hk).symm
theorem eqv.trans {n : Nat} {r r' r'' : Nat → Int32} (h : eqv n r r') (h' : eqv n r' r'') : eqv n r r'' := fun k hk => (h k hk).trans (h' k hk)
theorem eqv.updE {n : Nat} {r r' : Nat → Int32} (h : eqv n r r') (k : Nat) (v : Int32) : eqv n (upd r k v) (upd r' k v) := fun j hj => by
  by_cases e : j = k
  · subst e; rw [pk_us, pk_us]
  · rw [pk_un e, pk_un e]; exact h j hj
theorem eqv.hd {n : Nat} {r r' : Nat → Int32} (h : eqv n r r') {k : Nat} (hk : k < 20) : r k = r' k := h k (by omega)
theorem eqv.at {n : Nat} {r r' : Nat → Int32} (h : eqv n r r') {i f : Nat} (hi : i < n) (hf : f < 6) : r (pI i f) = r' (pI i f) := h _ (by simp only [pI]; omega)
theorem eqv.szE {n : Nat} {r r' : Nat → Int32} (h : eqv n r r') : sz r = sz r' := by unfold sz; rw [h.hd (by omega)]
theorem eqv.dyE {n : Nat} {r r' : Nat → Int32} (h : eqv n r r') : dy r = dy r' := by unfold dy; rw [h.hd (by omega)]
theorem wlkC_e {n i : Nat} {r r' : Nat → Int32} {pl d q : Int32} (h : eqv n r r') (hi : i < n) : wlkC r i pl d q = wlkC r' i pl d q := by
  unfold wlkC
  rw [h.at hi (f := 0) (by omega), h.at hi (f := 1) (by omega), h.at hi (f := 2) (by omega), h.at hi (f := 3) (by omega), h.at hi (f := 4) (by omega), h.at hi (f := 5) (by omega)]
theorem wkN_e {n i : Nat} {r r' : Nat → Int32} {pl d q : Int32} (h : eqv n r r') (hi : i ≤ n) : eqv n (wkN pl d q r i) (wkN pl d q r' i) := by
  induction i with
  | zero => exact h
  | succ i ih =>
    have h1 := ih (by omega)
    unfold wkN
    rw [wlkC_e h1 (by omega)]
    exact h1.updE _ _
theorem cmtR_e {n i : Nat} {r r' : Nat → Int32} (h : eqv n r r') (hi : i < n) : eqv n (cmtR r i) (cmtR r' i) := by
  unfold cmtR
  rw [h.at hi (f := 5) (by omega)]
  exact h.updE _ _
theorem mt1_e {n a b : Nat} {r r' : Nat → Int32} (h : eqv n r r') (ha : a < n) (hb : b < n) : eqv n (mt1 r a b) (mt1 r' a b) := by
  have h2 := cmtR_e (cmtR_e h ha) hb
  unfold mt1
  rw [h.at ha (f := 1) (by omega), h.at ha (f := 2) (by omega), h.at hb (f := 1) (by omega), h.at hb (f := 2) (by omega), h2.hd (k := 3) (by omega), h2.at ha (f := 0) (by omega), h2.at hb (f := 0) (by omega)]
  split
  · exact h2.updE _ _
  · exact h
theorem mtI_e {n a k : Nat} {r r' : Nat → Int32} (h : eqv n r r') (hk : a + 1 + k ≤ n) : eqv n (mtI a r k) (mtI a r' k) := by
  induction k with
  | zero => exact h
  | succ k ih => exact mt1_e (ih (by omega)) (by omega) (by omega)
theorem mtO_e {n a : Nat} {r r' : Nat → Int32} (h : eqv n r r') (ha : a ≤ n) : eqv n (mtO n r a) (mtO n r' a) := by
  induction a with
  | zero => exact h
  | succ a ih => exact mtI_e (ih (by omega)) (by omega)
theorem g5_e {n : Nat} {r r' : Nat → Int32} (h : eqv n r r') : eqv n (g5 r) (g5 r') := by
  unfold g5
  rw [h.hd (k := 3) (by omega)]
  split
  · exact h.updE _ _
  · exact h
theorem endR_e {n i : Nat} {r r' : Nat → Int32} {d : Int32} (h : eqv n r r') (hi : i < n) : eqv n (endR r i d) (endR r' i d) := by
  unfold endR
  rw [h.at hi (f := 0) (by omega), h.at hi (f := 1) (by omega), h.at hi (f := 2) (by omega), h.at hi (f := 3) (by omega)]
  split
  · exact (h.updE _ _).updE _ _
  · exact h.updE _ _
theorem enN_e {n i : Nat} {r r' : Nat → Int32} {d : Int32} (h : eqv n r r') (hi : i ≤ n) : eqv n (enN d r i) (enN d r' i) := by
  induction i with
  | zero => exact h
  | succ i ih => exact endR_e (ih (by omega)) (by omega)
theorem dayR_e {n : Nat} {r r' : Nat → Int32} (h : eqv n r r') (hn : sz r = n) : eqv n (dayR r) (dayR r') := by
  have h1 := h.szE
  have h2 := h.dyE
  unfold dayR
  rw [← h1, ← h2, hn, h.hd (k := 0) (by omega), h.hd (k := 3) (by omega), h.hd (k := 4 + dy r % 6) (by omega)]
  exact (enN_e (g5_e (mtO_e (wkN_e h (Nat.le_refl n)) (Nat.le_refl n))) (Nat.le_refl n)).updE _ _
theorem dayR_sz {r : Nat → Int32} : sz (dayR r) = sz r := by unfold sz; rw [dayR_1 (by omega) (by omega)]
theorem dysR_sz {r : Nat → Int32} {k : Nat} : sz (dysR r k) = sz r := by
  induction k with
  | zero => rfl
  | succ k ih => exact dayR_sz.trans ih
theorem dysR_e {n k : Nat} {r r' : Nat → Int32} (h : eqv n r r') (hn : sz r = n) : eqv n (dysR r k) (dysR r' k) := by
  induction k with
  | zero => exact h
  | succ k ih => exact dayR_e ih (dysR_sz.trans hn)
theorem bcmR_at {r r' : Nat → Int32} {i j f : Nat} (hf : f < 6) : bcmR r r' i (pI j f) = if j = i then r' (pI j f) else r (pI j f) := by
  unfold bcmR
  by_cases h : j = i
  · subst h
    rw [if_pos rfl]
    rcases (show f = 0 ∨ f = 1 ∨ f = 2 ∨ f = 3 ∨ f = 4 ∨ f = 5 by omega) with rfl | rfl | rfl | rfl | rfl | rfl <;> simp [upd_at, pI_eq]
  · rw [if_neg h]
    rw [pk_un (by simp only [pI]; omega), pk_un (by simp only [pI]; omega), pk_un (by simp only [pI]; omega), pk_un (by simp only [pI]; omega), pk_un (by simp only [pI]; omega), pk_un (by simp only [pI]; omega)]
theorem bcmN_at {r r' : Nat → Int32} {m j f : Nat} (hf : f < 6) : bcmN r r' m (pI j f) = if j < m then r' (pI j f) else r (pI j f) := by
  induction m with
  | zero => rw [if_neg (by omega)]; rfl
  | succ m ih =>
    show bcmR (bcmN r r' m) r' m (pI j f) = _
    rw [bcmR_at hf, ih]
    by_cases h : j = m
    · rw [if_pos h, if_pos (by omega)]
    · rw [if_neg h]
      by_cases h2 : j < m
      · rw [if_pos h2, if_pos (by omega)]
      · rw [if_neg h2, if_neg (by omega)]
theorem becR_e {r r' : Nat → Int32} : eqv (sz r') (becR r r') r' := by
  intro k hk
  unfold becR
  by_cases h20 : k < 20
  · rw [bcmN_hd h20]
    unfold cpS cpL
    by_cases h10 : 10 ≤ k
    · rw [if_pos (by omega)]
    · rw [if_neg (by omega)]
      by_cases h4 : 4 ≤ k
      · rw [if_pos (by omega)]
      · rw [if_neg (by omega)]
        rcases (show k = 0 ∨ k = 1 ∨ k = 2 ∨ k = 3 by omega) with rfl | rfl | rfl | rfl <;> simp [upd_at]
  · obtain ⟨i, f, hf, rfl⟩ : ∃ i f, f < 6 ∧ k = pI i f := ⟨(k - 20) / 6, (k - 20) % 6, by omega, by simp only [pI]; omega⟩
    rw [bcmN_at hf, if_pos (by simp only [pI] at hk; omega)]
theorem sumN_e {n i : Nat} {r r' : Nat → Int32} (h : eqv n r r') (hi : i ≤ n) : sumN r i = sumN r' i := by
  induction i with
  | zero => rfl
  | succ i ih => unfold sumN; rw [ih (by omega), h.at (by omega) (f := 5) (by omega)]
theorem patN_e {n i : Nat} {c : Int32} {r r' : Nat → Int32} (h : eqv n r r') (hi : i ≤ n) : patN c r i = patN c r' i := by
  induction i with
  | zero => rfl
  | succ i ih => unfold patN; rw [ih (by omega), h.at (by omega) (f := 2) (by omega)]
theorem abrN_e {n i : Nat} {r r' : Nat → Int32} (h : eqv n r r') (hi : i ≤ n) : abrN r i = abrN r' i := by
  induction i with
  | zero => rfl
  | succ i ih => unfold abrN; rw [ih (by omega), h.at (by omega) (f := 1) (by omega), h.at (by omega) (f := 2) (by omega)]
theorem seaN_e {n i : Nat} {r r' : Nat → Int32} (h : eqv n r r') (hi : i ≤ n) : seaN r i = seaN r' i := by
  induction i with
  | zero => rfl
  | succ i ih => unfold seaN; rw [ih (by omega), h.at (by omega) (f := 3) (by omega)]
theorem celN_e {n i : Nat} {r r' : Nat → Int32} (h : eqv n r r') (hi : i ≤ n) : celN r i = celN r' i := by
  induction i with
  | zero => rfl
  | succ i ih => unfold celN; rw [ih (by omega), h.at (by omega) (f := 2) (by omega)]
theorem prI_e {n a k : Nat} {s : Int32} {r r' : Nat → Int32} (h : eqv n r r') (hk : a + 1 + k ≤ n) : prI a r s k = prI a r' s k := by
  induction k with
  | zero => rfl
  | succ k ih => unfold prI; rw [ih (by omega), h.at (i := a) (by omega) (f := 1) (by omega), h.at (i := a) (by omega) (f := 2) (by omega), h.at (i := a + 1 + k) (by omega) (f := 1) (by omega), h.at (i := a + 1 + k) (by omega) (f := 2) (by omega)]
theorem prO_e {n a : Nat} {r r' : Nat → Int32} (h : eqv n r r') (ha : a ≤ n) : prO n r a = prO n r' a := by
  induction a with
  | zero => rfl
  | succ a ih => unfold prO; rw [ih (by omega), prI_e h (by omega)]
theorem mosN_e {n i : Nat} {r r' : Nat → Int32} (h : eqv n r r') (hi : i ≤ n) : mosN r i = mosN r' i := by
  induction i with
  | zero => rfl
  | succ i ih =>
    unfold mosN
    rw [← ih (by omega)]
    cases hm : mosN r i with
    | none => rfl
    | some b =>
      have := mosN_lt hm
      dsimp only
      rw [h.at (i := b) (by omega) (f := 5) (by omega), h.at (i := i) (by omega) (f := 5) (by omega)]
theorem mabN_e {n p i : Nat} {c : Int32} {r r' : Nat → Int32} (h : eqv n r r') (hp : p < n) (hi : i ≤ n) : mabN r p c i = mabN r' p c i := by
  induction i with
  | zero => rfl
  | succ i ih => unfold mabN; rw [ih (by omega), h.at hp (f := 1) (by omega), h.at (i := i) (by omega) (f := 1) (by omega), h.at (i := i) (by omega) (f := 2) (by omega)]
theorem ctmN_e {n p c : Nat} {r r' : Nat → Int32} (h : eqv n r r') (hp : p < n) : ctmN r p n c = ctmN r' p n c := by
  induction c with
  | zero => rfl
  | succ c ih => unfold ctmN; rw [ih, mabN_e h hp (Nat.le_refl n)]
theorem spoN_e {n i : Nat} {r r' : Nat → Int32} (h : eqv n r r') (hi : i ≤ 10) : spoN r i = spoN r' i := by
  induction i with
  | zero => rfl
  | succ i ih => unfold spoN; rw [ih (by omega), h.hd (k := 10 + i) (by omega)]
theorem outN_e {n i : Nat} {s : Int32} {r r' : Nat → Int32} (h : eqv n r r') (hi : i ≤ n) : eqv n (outN s r i) (outN s r' i) := by
  induction i with
  | zero => exact h
  | succ i ih =>
    unfold outN
    split
    · exact (ih (by omega)).updE _ _
    · exact ih (by omega)
theorem outN_sz {s : Int32} {r : Nat → Int32} {i : Nat} : sz (outN s r i) = sz r := by unfold sz; rw [outN_hd (by omega)]
theorem tld_e {n p f : Nat} {r r' : Nat → Int32} (h : eqv n r r') (hp : p < n) : tld r p f = tld r' p f := by
  unfold tld
  rw [h.hd (k := 0) (by omega), h.hd (k := 3) (by omega), h.at hp (f := 0) (by omega), h.at hp (f := 4) (by omega), h.at hp (f := 5) (by omega)]
  by_cases hf : f < 6
  · rw [if_pos hf, if_pos hf, h.at hp hf]
  · rw [if_neg hf, if_neg hf]
theorem okR_e {n : Nat} {r r' : Nat → Int32} (h : eqv n r r') (hk : okR r) : okR r' := by
  unfold okR
  rw [← h.hd (k := 1) (by omega), ← h.hd (k := 0) (by omega)]
  exact hk
theorem okR_bec {r r' : Nat → Int32} (hk : okR r') : okR (becR r r') := okR_e becR_e.symm hk
theorem becR_sz {r r' : Nat → Int32} : sz (becR r r') = sz r' := becR_e.szE
theorem okR_upd {r : Nat → Int32} {k : Nat} {v : Int32} (hk : okR r) (h2 : 2 ≤ k) : okR (upd r k v) := by
  unfold okR
  rw [pk_un (by omega), pk_un (by omega)]
  exact hk
theorem okR_updP {r : Nat → Int32} {i f : Nat} {v : Int32} (hk : okR r) : okR (upd r (pI i f) v) := okR_upd hk (by simp only [pI]; omega)
theorem sz_upd {r : Nat → Int32} {k : Nat} {v : Int32} (h : k ≠ 1) : sz (upd r k v) = sz r := by unfold sz; rw [pk_un (fun e => h e.symm)]
theorem sz_updP {r : Nat → Int32} {i f : Nat} {v : Int32} : sz (upd r (pI i f) v) = sz r := sz_upd (by simp only [pI]; omega)
/-- days of a trial that was made like r, then changed at one place -/
theorem bec_days {r ρ : Nat → Int32} {k m : Nat} {v : Int32} (h1 : k ≠ 1) : eqv (sz r) (dysR (upd (becR ρ r) k v) m) (dysR (upd r k v) m) := dysR_e (becR_e.updE k v) (by rw [sz_upd h1]; exact becR_sz)
theorem bec_days0 {r ρ : Nat → Int32} {m : Nat} : eqv (sz r) (dysR (becR ρ r) m) (dysR r m) := dysR_e becR_e becR_sz
