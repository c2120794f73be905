/-! searches -/
theorem bst_e {V V' : Nat → Int32} {n : Nat} (h : ∀ c, c < n → V c = V' c) : bst V n = bst V' n := by
  induction n with
  | zero => rfl
  | succ n ih =>
    unfold bst
    rw [ih (fun c hc => h c (by omega)), h n (by omega)]
theorem fdn_e {P P' : Nat → Bool} {n : Nat} (h : ∀ c, c < n → P c = P' c) : fdn P n = fdn P' n := by
  induction n with
  | zero => rfl
  | succ n ih =>
    unfold fdn
    rw [ih (fun c hc => h c (by omega)), h n (by omega)]
theorem vatN_e {P P' : Nat → Bool} {n : Nat} (h : ∀ c, c < n → P c = P' c) : vatN P n = vatN P' n := by
  induction n with
  | zero => rfl
  | succ n ih =>
    unfold vatN
    rw [ih (fun c hc => h c (by omega)), h n (by omega)]
theorem fdo_none {P : Nat → Bool} : ∀ {k i : Nat}, fdo P k i = none → ∀ j, i ≤ j → j < i + k → P j = false := by
  intro k
  induction k with
  | zero => intro i _ j h1 h2; omega
  | succ k ih =>
    intro i h j h1 h2
    unfold fdo at h
    by_cases hp : P i = true
    · rw [if_pos hp] at h; cases h
    · rw [if_neg hp] at h
      by_cases e : j = i
      · subst e; exact Bool.not_eq_true _ ▸ hp
      · exact ih h j (by omega) (by omega)
theorem fdo_some {P : Nat → Bool} : ∀ {k i b : Nat}, fdo P k i = some b → i ≤ b ∧ b < i + k ∧ P b = true ∧ ∀ j, i ≤ j → j < b → P j = false := by
  intro k
  induction k with
  | zero => intro i b h; cases h
  | succ k ih =>
    intro i b h
    unfold fdo at h
    by_cases hp : P i = true
    · rw [if_pos hp] at h
      have e : i = b := Option.some.inj h
      subst e
      exact ⟨Nat.le_refl _, by omega, hp, fun j h1 h2 => by omega⟩
    · rw [if_neg hp] at h
      obtain ⟨h1, h2, h3, h4⟩ := ih h
      refine ⟨by omega, by omega, h3, fun j h5 h6 => ?_⟩
      by_cases e : j = i
      · subst e; exact Bool.not_eq_true _ ▸ hp
      · exact h4 j (by omega) h6
theorem fdo_none_of {P : Nat → Bool} : ∀ {k i : Nat}, (∀ j, i ≤ j → j < i + k → P j = false) → fdo P k i = none := by
  intro k
  induction k with
  | zero => intro i _; rfl
  | succ k ih =>
    intro i h
    unfold fdo
    rw [if_neg (by rw [h i (by omega) (by omega)]; decide)]
    exact ih (fun j h1 h2 => h j (by omega) (by omega))
theorem fdo_some_of {P : Nat → Bool} {b : Nat} : ∀ {k i : Nat}, i ≤ b → b < i + k → P b = true → (∀ j, i ≤ j → j < b → P j = false) → fdo P k i = some b := by
  intro k
  induction k with
  | zero => intro i h1 h2; omega
  | succ k ih =>
    intro i h1 h2 h3 h4
    unfold fdo
    by_cases e : i = b
    · subst e; rw [if_pos h3]
    · rw [if_neg (by rw [h4 i (by omega) (by omega)]; decide)]
      exact ih (by omega) (by omega) h3 (fun j h5 h6 => h4 j (by omega) h6)
theorem fdo_ext {P : Nat → Bool} {N N' : Nat} (hN : N ≤ N') (h : ∀ c, N ≤ c → c ≤ N' → P c = P N) : fdo P (N + 1) 0 = fdo P (N' + 1) 0 := by
  cases hf : fdo P (N + 1) 0 with
  | some b =>
    obtain ⟨h1, h2, h3, h4⟩ := fdo_some hf
    exact (fdo_some_of h1 (by omega) h3 h4).symm
  | none =>
    have h1 := fdo_none hf
    refine (fdo_none_of (fun j h2 h3 => ?_)).symm
    by_cases e : j ≤ N
    · exact h1 j h2 (by omega)
    · rw [h j (by omega) (by omega)]
      exact h1 N (by omega) (by omega)
/-! a season that lasts is as good as any: rows that differ at one place -/
def ag (s : Nat) (r r' : Nat → Int32) : Prop := ∀ k, k ≠ s → r k = r' k
theorem ag.updE {s : Nat} {r r' : Nat → Int32} (h : ag s r r') (k : Nat) (v : Int32) : ag s (upd r k v) (upd r' k v) := fun j hj => by
  by_cases e : j = k
  · subst e; rw [pk_us, pk_us]
  · rw [pk_un e, pk_un e]; exact h j hj
theorem ag.upd2 {s : Nat} {r r' : Nat → Int32} (h : ag s r r') (v v' : Int32) : ag s (upd r s v) (upd r' s v') := fun j hj => by
  rw [pk_un hj, pk_un hj]; exact h j hj
theorem ag.szE {p : Nat} {r r' : Nat → Int32} (h : ag (pI p 3) r r') : sz r = sz r' := by unfold sz; rw [h 1 (by simp only [pI]; omega)]
theorem ag.at {p : Nat} {r r' : Nat → Int32} (h : ag (pI p 3) r r') {i f : Nat} (hf : f < 6) (h3 : f ≠ 3) : r (pI i f) = r' (pI i f) := h _ (by simp only [pI]; omega)
theorem ag.hd {p : Nat} {r r' : Nat → Int32} (h : ag (pI p 3) r r') {k : Nat} (hk : k < 20) : r k = r' k := h k (by simp only [pI]; omega)
theorem ag_wlk {p i : Nat} {r r' : Nat → Int32} {pl d q : Int32} (h : ag (pI p 3) r r') (h0 : ¬ r (pI p 3) = 0) (h0' : ¬ r' (pI p 3) = 0) : wlkC r i pl d q = wlkC r' i pl d q := by
  unfold wlkC
  rw [h.at (f := 0) (by omega) (by omega), h.at (f := 1) (by omega) (by omega), h.at (f := 2) (by omega) (by omega), h.at (f := 4) (by omega) (by omega), h.at (f := 5) (by omega) (by omega)]
  by_cases e : i = p
  · subst e; rw [if_neg h0, if_neg h0']
  · rw [h (pI i 3) (by simp only [pI]; omega)]
theorem wkN_o {pl d q : Int32} {r : Nat → Int32} {i k : Nat} (h : ∀ j, k ≠ pI j 2) : wkN pl d q r i k = r k := by
  induction i with
  | zero => rfl
  | succ i ih => exact (pk_un (h i)).trans ih
theorem ag_wk {p : Nat} {r r' : Nat → Int32} {pl d q : Int32} (h : ag (pI p 3) r r') (h0 : ¬ r (pI p 3) = 0) (h0' : ¬ r' (pI p 3) = 0) : ∀ i, ag (pI p 3) (wkN pl d q r i) (wkN pl d q r' i) := by
  intro i
  induction i with
  | zero => exact h
  | succ i ih =>
    unfold wkN
    rw [ag_wlk ih (by rw [wkN_o (fun j => by simp only [pI]; omega)]; exact h0) (by rw [wkN_o (fun j => by simp only [pI]; omega)]; exact h0')]
    exact ih.updE _ _
theorem ag_cmt {p i : Nat} {r r' : Nat → Int32} (h : ag (pI p 3) r r') : ag (pI p 3) (cmtR r i) (cmtR r' i) := by
  unfold cmtR
  rw [h.at (f := 5) (by omega) (by omega)]
  exact h.updE _ _
theorem ag_mt1 {p a b : Nat} {r r' : Nat → Int32} (h : ag (pI p 3) r r') : ag (pI p 3) (mt1 r a b) (mt1 r' a b) := by
  have h2 := ag_cmt (i := b) (ag_cmt (i := a) h)
  unfold mt1
  rw [h.at (i := a) (f := 1) (by omega) (by omega), h.at (i := a) (f := 2) (by omega) (by omega), h.at (i := b) (f := 1) (by omega) (by omega), h.at (i := b) (f := 2) (by omega) (by omega), h2.hd (k := 3) (by omega), h2.at (i := a) (f := 0) (by omega) (by omega), h2.at (i := b) (f := 0) (by omega) (by omega)]
  split
  · exact h2.updE _ _
  · exact h
theorem ag_mtI {p a : Nat} {r r' : Nat → Int32} (h : ag (pI p 3) r r') : ∀ k, ag (pI p 3) (mtI a r k) (mtI a r' k) := by
  intro k
  induction k with
  | zero => exact h
  | succ k ih => exact ag_mt1 ih
theorem ag_mtO {p m : Nat} {r r' : Nat → Int32} (h : ag (pI p 3) r r') : ∀ a, ag (pI p 3) (mtO m r a) (mtO m r' a) := by
  intro a
  induction a with
  | zero => exact h
  | succ a ih => exact ag_mtI ih _
theorem ag_g5 {p : Nat} {r r' : Nat → Int32} (h : ag (pI p 3) r r') : ag (pI p 3) (g5 r) (g5 r') := by
  unfold g5
  rw [h.hd (k := 3) (by omega)]
  split
  · exact h.updE _ _
  · exact h
theorem ag_end {p i : Nat} {r r' : Nat → Int32} {d : Int32} (h : ag (pI p 3) r r') : ag (pI p 3) (endR r i d) (endR r' i d) := by
  unfold endR
  rw [h.at (f := 0) (by omega) (by omega), h.at (f := 1) (by omega) (by omega), h.at (f := 2) (by omega) (by omega)]
  by_cases e : i = p
  · subst e
    split
    · exact (h.updE _ _).upd2 _ _
    · exact h.upd2 _ _
  · rw [h (pI i 3) (by simp only [pI]; omega)]
    split
    · exact (h.updE _ _).updE _ _
    · exact h.updE _ _
theorem ag_en {p : Nat} {r r' : Nat → Int32} {d : Int32} (h : ag (pI p 3) r r') : ∀ i, ag (pI p 3) (enN d r i) (enN d r' i) := by
  intro i
  induction i with
  | zero => exact h
  | succ i ih => exact ag_end ih
theorem ag_day {p : Nat} {r r' : Nat → Int32} (h : ag (pI p 3) r r') (h0 : ¬ r (pI p 3) = 0) (h0' : ¬ r' (pI p 3) = 0) : ag (pI p 3) (dayR r) (dayR r') := by
  have hdy : dy r = dy r' := by unfold dy; rw [h.hd (by omega)]
  unfold dayR
  rw [← h.szE, ← hdy, ← h.hd (k := 0) (by omega), ← h.hd (k := 3) (by omega), ← h.hd (k := 4 + dy r % 6) (by omega)]
  exact (ag_en (ag_g5 (ag_mtO (ag_wk h h0 h0' _) _)) _).updE _ _
/-! what a day does to one place of a person -/
theorem mt1_o {r : Nat → Int32} {a b k : Nat} (h3 : k ≠ 3) (h : ∀ j, k ≠ pI j 5) : mt1 r a b k = r k := by
  unfold mt1
  split
  · rw [pk_un h3]
    unfold cmtR
    rw [pk_un (h b), pk_un (h a)]
  · rfl
theorem mtI_o {r : Nat → Int32} {a k n : Nat} (h3 : k ≠ 3) (h : ∀ j, k ≠ pI j 5) : mtI a r n k = r k := by
  induction n with
  | zero => rfl
  | succ n ih => exact (mt1_o h3 h).trans ih
theorem mtO_o {r : Nat → Int32} {a k m : Nat} (h3 : k ≠ 3) (h : ∀ j, k ≠ pI j 5) : mtO m r a k = r k := by
  induction a with
  | zero => rfl
  | succ a ih => exact (mtI_o h3 h).trans ih
theorem g5_o {r : Nat → Int32} {k : Nat} (h3 : k ≠ 3) : g5 r k = r k := by
  unfold g5
  split
  · exact pk_un h3
  · rfl
theorem endR_o {r : Nat → Int32} {i k : Nat} {d : Int32} (h : k ≠ pI i 3) (h2 : k ≠ pI i 4) : endR r i d k = r k := by
  unfold endR
  split
  · rw [pk_un h, pk_un h2]
  · rw [pk_un h]
theorem endR_3 {r : Nat → Int32} {i : Nat} {d : Int32} : endR r i d (pI i 3) = mx 0 (r (pI i 3) - trs (r (pI i 0)) d) := by
  unfold endR
  split
  · exact pk_us
  · exact pk_us
theorem enN_3 {r : Nat → Int32} {p : Nat} {d : Int32} : ∀ {i : Nat}, enN d r i (pI p 0) = r (pI p 0) ∧ enN d r i (pI p 3) = if p < i then mx 0 (r (pI p 3) - trs (r (pI p 0)) d) else r (pI p 3) := by
  intro i
  induction i with
  | zero => exact ⟨rfl, by rw [if_neg (by omega)]; rfl⟩
  | succ i ih =>
    have e0 : enN d r (i + 1) (pI p 0) = enN d r i (pI p 0) := endR_o (by simp only [pI]; omega) (by simp only [pI]; omega)
    refine ⟨e0.trans ih.1, ?_⟩
    show endR (enN d r i) i d (pI p 3) = _
    by_cases e : p = i
    · subst e
      rw [endR_3, ih.1, ih.2, if_neg (by omega), if_pos (by omega)]
    · rw [endR_o (by simp only [pI]; omega) (by simp only [pI]; omega), ih.2]
      by_cases h : p < i
      · rw [if_pos h, if_pos (by omega)]
      · rw [if_neg h, if_neg (by omega)]
theorem dayR_3 {r : Nat → Int32} {p : Nat} (hp : p < sz r) : dayR r (pI p 3) = mx 0 (r (pI p 3) - trs (r (pI p 0)) (r 0)) := by
  unfold dayR
  rw [pk_un (by simp only [pI]; omega), enN_3.2, if_pos hp, g5_o (by simp only [pI]; omega), g5_o (by simp only [pI]; omega), mtO_o (by simp only [pI]; omega) (fun j => by simp only [pI]; omega), mtO_o (by simp only [pI]; omega) (fun j => by simp only [pI]; omega), wkN_o (fun j => by simp only [pI]; omega), wkN_o (fun j => by simp only [pI]; omega)]
theorem mx_sub : ∀ a, a < 100 → ∀ t, t < 3 → mx 0 (nI a - nI t) = nI (a - t) := by decide +kernel
theorem day_3 {r : Nat → Int32} {p a : Nat} (h : inv r) (hp : p < sz r) (ha : r (pI p 3) = nI a) (h9 : a ≤ 99) : ∃ a', dayR r (pI p 3) = nI a' ∧ a ≤ a' + 2 ∧ a' ≤ 99 := by
  obtain ⟨t, ht, et⟩ := trs_rg (h.p hp).k h.d
  refine ⟨a - t, ?_, by omega, by omega⟩
  rw [dayR_3 hp, et, ha, mx_sub a (by omega) t (by omega)]
theorem ag_dys {p m a b : Nat} {r r' : Nat → Int32} (hr : inv r) (hr' : inv r') (h : ag (pI p 3) r r') (hp : p < sz r) (ha : r (pI p 3) = nI a) (hb : r' (pI p 3) = nI b) (ha9 : a ≤ 99) (hb9 : b ≤ 99) (ha2 : 2 * m ≤ a) (hb2 : 2 * m ≤ b) : ∀ k, k ≤ m → ag (pI p 3) (dysR r k) (dysR r' k) ∧ ∃ a' b', dysR r k (pI p 3) = nI a' ∧ dysR r' k (pI p 3) = nI b' ∧ a' ≤ 99 ∧ b' ≤ 99 ∧ 2 * (m - k) ≤ a' ∧ 2 * (m - k) ≤ b' := by
  intro k
  induction k with
  | zero => intro _; exact ⟨h, a, b, ha, hb, ha9, hb9, ha2, hb2⟩
  | succ k ih =>
    intro hk
    obtain ⟨hg, a', b', ea, eb, ha', hb', h1, h2⟩ := ih (by omega)
    have i1 := (dys_inv hr k).2
    have i2 := (dys_inv hr' k).2
    have hp1 : p < sz (dysR r k) := by rw [dysR_sz]; exact hp
    have hp2 : p < sz (dysR r' k) := by rw [← hg.szE]; exact hp1
    have n1 : ¬ dysR r k (pI p 3) = 0 := by rw [ea]; exact nI_ne0 (by omega) (by omega)
    have n2 : ¬ dysR r' k (pI p 3) = 0 := by rw [eb]; exact nI_ne0 (by omega) (by omega)
    obtain ⟨a2, e1, l1, u1⟩ := day_3 i1 hp1 ea ha'
    obtain ⟨b2, e2, l2, u2⟩ := day_3 i2 hp2 eb hb'
    exact ⟨ag_day hg n1 n2, a2, b2, e1, e2, u1, u2, by omega, by omega⟩
theorem sea_any {p m c c' : Nat} {r : Nat → Int32} (hr : inv r) (hp : p < sz r) (hc : 2 * m ≤ c) (hc9 : c ≤ 99) (hc' : 2 * m ≤ c') (hc9' : c' ≤ 99) : dysR (upd r (pI p 3) (nI c)) m (pI p 5) = dysR (upd r (pI p 3) (nI c')) m (pI p 5) := by
  have h1 : inv (upd r (pI p 3) (nI c)) := inv_updP hr (by omega) ⟨c, hc9, rfl⟩
  have h2 : inv (upd r (pI p 3) (nI c')) := inv_updP hr (by omega) ⟨c', hc9', rfl⟩
  have hg : ag (pI p 3) (upd r (pI p 3) (nI c)) (upd r (pI p 3) (nI c')) := fun k hk => by rw [pk_un hk, pk_un hk]
  exact ((ag_dys h1 h2 hg (by rw [sz_updP]; exact hp) pk_us pk_us hc9 hc9' hc hc' m (Nat.le_refl m)).1).at (by omega) (by omega)
/-! meetings never become fewer -/
def cN (x : Int32) : Nat := x.toNatClampNeg
def mle (n : Nat) (r r' : Nat → Int32) : Prop := ∀ i, i < n → cN (r (pI i 5)) ≤ cN (r' (pI i 5))
theorem mle.rf {n : Nat} {r : Nat → Int32} : mle n r r := fun _ _ => Nat.le_refl _
theorem mle.tr {n : Nat} {r r' r'' : Nat → Int32} (h : mle n r r') (h' : mle n r' r'') : mle n r r'' := fun i hi => Nat.le_trans (h i hi) (h' i hi)
theorem mle.of {n : Nat} {r r' : Nat → Int32} (h : ∀ i, r' (pI i 5) = r (pI i 5)) : mle n r r' := fun i _ => by rw [h i]; exact Nat.le_refl _
theorem mle_cmt {n : Nat} {r : Nat → Int32} {i : Nat} (h : inv r) (hi : i < sz r) : mle n r (cmtR r i) := fun j _ => by
  unfold cmtR
  by_cases e : pI j 5 = pI i 5
  · rw [e, pk_us]
    obtain ⟨m, hm, em⟩ := (h.p hi).m
    rw [em, mn_met hm]
    unfold cN
    rw [nI_clamp (by omega), nI_clamp (by omega)]
    omega
  · rw [pk_un e]; exact Nat.le_refl _
theorem mle_mt1 {n : Nat} {r : Nat → Int32} {a b : Nat} (h : inv r) (ha : a < sz r) (hb : b < sz r) : mle n r (mt1 r a b) := by
  unfold mt1
  split
  · have h1 := cmt_inv h ha
    refine ((mle_cmt h ha).tr (mle_cmt h1 (by rw [cmtR_sz]; exact hb))).tr (mle.of (fun i => ?_))
    exact pk_un (by simp only [pI]; omega)
  · exact mle.rf
theorem mle_mtI {n : Nat} {r : Nat → Int32} {a : Nat} (h : inv r) : ∀ k, a + 1 + k ≤ sz r → mle n r (mtI a r k) := by
  intro k
  induction k with
  | zero => intro _; exact mle.rf
  | succ k ih => intro hk; exact (ih (by omega)).tr (mle_mt1 (mtI_inv h k (by omega)) (by rw [mtI_sz]; omega) (by rw [mtI_sz]; omega))
theorem mle_mtO {n : Nat} {r : Nat → Int32} (h : inv r) : ∀ a, a ≤ sz r → mle n r (mtO (sz r) r a) := by
  intro a
  induction a with
  | zero => intro _; exact mle.rf
  | succ a ih => intro ha; exact (ih (by omega)).tr (mle_mtI (mtO_inv h a (by omega)) _ (by rw [mtO_sz]; omega))
theorem enN_o {d : Int32} {r : Nat → Int32} {i k : Nat} (h : ∀ j, k ≠ pI j 3) (h2 : ∀ j, k ≠ pI j 4) : enN d r i k = r k := by
  induction i with
  | zero => rfl
  | succ i ih => exact (endR_o (h i) (h2 i)).trans ih
theorem mle_day {n : Nat} {r : Nat → Int32} (h : inv r) : mle n r (dayR r) := by
  have hpl := h.l (j := dy r % 6) (by omega)
  obtain ⟨e1, i1⟩ := wk_inv h hpl (sz r) (Nat.le_refl _)
  have m1 : mle n r (wkM (r (4 + dy r % 6)) r (sz r)) := mle.of (fun i => by rw [← e1, wkN_o (fun j => by simp only [pI]; omega)])
  have m2 := mle_mtO (n := n) i1 (sz r) (by rw [wkM_sz]; exact Nat.le_refl _)
  rw [wkM_sz] at m2
  refine (m1.tr m2).tr (mle.of (fun i => ?_))
  unfold dayR
  rw [pk_un (by simp only [pI]; omega), enN_o (fun j => by simp only [pI]; omega) (fun j => by simp only [pI]; omega), g5_o (by simp only [pI]; omega), e1]
theorem mle_dys {n : Nat} {r : Nat → Int32} (h : inv r) : ∀ k, mle n r (dysR r k) := by
  intro k
  induction k with
  | zero => exact mle.rf
  | succ k ih => exact ih.tr (mle_day (dys_inv h k).2)
def smN (r : Nat → Int32) : Nat → Nat
  | 0 => 0
  | i + 1 => smN r i + cN (r (pI i 5))
theorem sum_n {r : Nat → Int32} (h : inv r) : ∀ n, n ≤ sz r → sumN r n = nI (smN r n) ∧ smN r n ≤ 9999 * n := by
  intro n
  induction n with
  | zero => intro _; exact ⟨rfl, Nat.le_refl _⟩
  | succ n ih =>
    intro hn
    obtain ⟨e, hl⟩ := ih (by omega)
    obtain ⟨m, hm, em⟩ := (h.p (i := n) (by omega)).m
    have ec : cN (r (pI n 5)) = m := by rw [em]; exact nI_clamp (by omega)
    refine ⟨?_, ?_⟩
    · show sumN r n + r (pI n 5) = nI (smN r n + cN (r (pI n 5)))
      rw [e, ec, em, nI_add]
    · show smN r n + cN (r (pI n 5)) ≤ _
      rw [ec]; omega
theorem smN_le {r r' : Nat → Int32} {n : Nat} (h : mle n r r') : ∀ k, k ≤ n → smN r k ≤ smN r' k := by
  intro k
  induction k with
  | zero => intro _; exact Nat.le_refl _
  | succ k ih => intro hk; exact Nat.add_le_add (ih (by omega)) (h k (by omega))
theorem out_inv {s : Int32} {r : Nat → Int32} (h : inv r) : ∀ i, inv (outN s r i) := by
  intro i
  induction i with
  | zero => exact h
  | succ i ih =>
    unfold outN
    split
    · exact inv_updP ih (by omega) ⟨0, by omega, rfl⟩
    · exact ih
theorem outN_5 {s : Int32} {r : Nat → Int32} {i j : Nat} : outN s r i (pI j 5) = r (pI j 5) := by
  induction i with
  | zero => rfl
  | succ i ih =>
    unfold outN
    split
    · rw [pk_un (by simp only [pI]; omega)]; exact ih
    · exact ih
theorem smN_c {r r' : Nat → Int32} (h : ∀ i, r (pI i 5) = r' (pI i 5)) : ∀ k, smN r k = smN r' k := by
  intro k
  induction k with
  | zero => rfl
  | succ k ih => show smN r k + cN (r (pI k 5)) = smN r' k + cN (r' (pI k 5)); rw [ih, h k]
theorem kap_eq {r : Nat → Int32} (h : inv r) (s : Int32) (m : Nat) : kapN (fun i => sumN (dysR (outN s r (sz r)) i) (sz r)) (sumN r (sz r)) m = decide (sumN (dysR (outN s r (sz r)) m) (sz r) = sumN r (sz r)) := by
  have ho := out_inv (s := s) h (sz r)
  have hn := h.n
  have hsz : ∀ k, sz (dysR (outN s r (sz r)) k) = sz r := fun k => by rw [dysR_sz, outN_sz]
  have hS : ∀ k, sumN (dysR (outN s r (sz r)) k) (sz r) = nI (smN (dysR (outN s r (sz r)) k) (sz r)) ∧ smN (dysR (outN s r (sz r)) k) (sz r) ≤ 9999 * sz r := fun k => sum_n (dys_inv ho k).2 (sz r) (by rw [hsz]; exact Nat.le_refl _)
  have h0 := sum_n h (sz r) (Nat.le_refl _)
  have e0 : smN (outN s r (sz r)) (sz r) = smN r (sz r) := smN_c (fun i => outN_5) _
  have hlow : ∀ k, smN r (sz r) ≤ smN (dysR (outN s r (sz r)) k) (sz r) := fun k => by
    rw [← e0]; exact smN_le (mle_dys ho k) _ (Nat.le_refl _)
  have hmon : ∀ k, smN (dysR (outN s r (sz r)) k) (sz r) ≤ smN (dysR (outN s r (sz r)) (k + 1)) (sz r) := fun k => smN_le (mle_day (dys_inv ho k).2) _ (Nat.le_refl _)
  have hiff : ∀ k, (sumN (dysR (outN s r (sz r)) k) (sz r) = sumN r (sz r)) ↔ smN (dysR (outN s r (sz r)) k) (sz r) = smN r (sz r) := fun k => by
    have hl := (hS k).2
    have hl0 := h0.2
    rw [(hS k).1, h0.1, nI_eq (by omega) (by omega)]
  induction m with
  | zero =>
    have : sumN (dysR (outN s r (sz r)) 0) (sz r) = sumN r (sz r) := (hiff 0).mpr e0
    rw [decide_eq_true this]
    rfl
  | succ m ih =>
    show (kapN _ _ m && decide (sumN (dysR (outN s r (sz r)) (m + 1)) (sz r) = sumN r (sz r))) = _
    rw [ih]
    by_cases hc : sumN (dysR (outN s r (sz r)) (m + 1)) (sz r) = sumN r (sz r)
    · have h1 := (hiff (m + 1)).mp hc
      have h2 := hmon m
      have h3 := hlow m
      rw [decide_eq_true hc, decide_eq_true ((hiff m).mpr (by omega)), Bool.and_true]
    · rw [decide_eq_false hc, Bool.and_false]
/-! the fewest to leave out -/
theorem lvB_spec {Q : Nat → Bool} {M : Nat} : ∀ j, j ≤ M → (lvB Q M j = none → ∀ s, M - j ≤ s → s < M → Q s = false) ∧ (∀ b, lvB Q M j = some b → M - j ≤ b ∧ b < M ∧ Q b = true ∧ ∀ s, M - j ≤ s → s < M → Q s = true → bN b < bN s ∨ (bN b = bN s ∧ b ≤ s)) := by
  intro j
  induction j with
  | zero => intro _; exact ⟨fun _ s h1 h2 => by omega, fun b h => by cases h⟩
  | succ j ih =>
    intro hj
    obtain ⟨h1, h2⟩ := ih (by omega)
    cases hl : lvB Q M j with
    | none =>
      have hn := h1 hl
      by_cases hq : Q (M - 1 - j) = true
      · have e := lvB_0 hl hq
        refine ⟨fun z => (by rw [e] at z; cases z), fun b hb => ?_⟩
        have eb : M - 1 - j = b := by rw [e] at hb; exact Option.some.inj hb
        subst eb
        refine ⟨by omega, by omega, hq, fun s s1 s2 s3 => ?_⟩
        by_cases es : s = M - 1 - j
        · subst es; exact Or.inr ⟨rfl, Nat.le_refl _⟩
        · rw [hn s (by omega) s2] at s3; cases s3
      · have e := lvB_1 hl hq
        refine ⟨fun _ s s1 s2 => ?_, fun b hb => (by rw [e] at hb; cases hb)⟩
        by_cases es : s = M - 1 - j
        · subst es; exact Bool.not_eq_true _ ▸ hq
        · exact hn s (by omega) s2
    | some b =>
      obtain ⟨b1, b2, b3, b4⟩ := h2 b hl
      by_cases hq : Q (M - 1 - j) = true
      · by_cases hb : bN (M - 1 - j) ≤ bN b
        · have e := lvB_2 hl hb hq
          refine ⟨fun z => (by rw [e] at z; cases z), fun c hc => ?_⟩
          have ec : M - 1 - j = c := by rw [e] at hc; exact Option.some.inj hc
          subst ec
          refine ⟨by omega, by omega, hq, fun s s1 s2 s3 => ?_⟩
          by_cases es : s = M - 1 - j
          · subst es; exact Or.inr ⟨rfl, Nat.le_refl _⟩
          · have := b4 s (by omega) s2 s3
            omega
        · have e := lvB_3 hl (by omega : bN b < bN (M - 1 - j))
          refine ⟨fun z => (by rw [e] at z; cases z), fun c hc => ?_⟩
          have ec : b = c := by rw [e] at hc; exact Option.some.inj hc
          subst ec
          refine ⟨by omega, b2, b3, fun s s1 s2 s3 => ?_⟩
          by_cases es : s = M - 1 - j
          · subst es; exact Or.inl (by omega)
          · exact b4 s (by omega) s2 s3
      · have e := lvB_4 hl hq
        refine ⟨fun z => (by rw [e] at z; cases z), fun c hc => ?_⟩
        have ec : b = c := by rw [e] at hc; exact Option.some.inj hc
        subst ec
        refine ⟨by omega, b2, b3, fun s s1 s2 s3 => ?_⟩
        by_cases es : s = M - 1 - j
        · subst es; exact absurd s3 hq
        · exact b4 s (by omega) s2 s3
theorem fO_none {P : Nat → Nat → Bool} {M : Nat} : ∀ {k m : Nat}, fO P M k m = none → ∀ a, m ≤ a → a < m + k → ∀ s, s < M → P a s = false := by
  intro k
  induction k with
  | zero => intro m _ a h1 h2; omega
  | succ k ih =>
    intro m h a h1 h2 s hs
    unfold fO at h
    cases hf : fdo (P m) M 0 with
    | some b => rw [hf] at h; cases h
    | none =>
      rw [hf] at h
      by_cases e : a = m
      · subst e; exact fdo_none hf s (by omega) (by omega)
      · exact ih h a (by omega) (by omega) s hs
theorem fO_some {P : Nat → Nat → Bool} {M : Nat} : ∀ {k m b : Nat}, fO P M k m = some b → b < M ∧ ∃ a, m ≤ a ∧ a < m + k ∧ P a b = true ∧ (∀ s, s < b → P a s = false) ∧ ∀ c, m ≤ c → c < a → ∀ s, s < M → P c s = false := by
  intro k
  induction k with
  | zero => intro m b h; cases h
  | succ k ih =>
    intro m b h
    unfold fO at h
    cases hf : fdo (P m) M 0 with
    | some c =>
      rw [hf] at h
      have e : c = b := Option.some.inj h
      subst e
      obtain ⟨h1, h2, h3, h4⟩ := fdo_some hf
      exact ⟨by omega, m, Nat.le_refl _, by omega, h3, fun s hs => h4 s (by omega) hs, fun c h5 h6 => by omega⟩
    | none =>
      rw [hf] at h
      obtain ⟨hb, a, a1, a2, a3, a4, a5⟩ := ih h
      refine ⟨hb, a, by omega, by omega, a3, a4, fun c c1 c2 s hs => ?_⟩
      by_cases e : c = m
      · subst e; exact fdo_none hf s (by omega) (by omega)
      · exact a5 c (by omega) c2 s hs
theorem bN_n : ∀ n, n < 9 → ∀ s, s < 2 ^ n → bN s ≤ n := by decide +kernel
theorem lo_eq {Q : Nat → Bool} {n : Nat} (hn : n ≤ 8) : fO (fun a s => decide (bc (nI s) = nI a) && Q s) (2 ^ n) (n + 1) 0 = lvB Q (2 ^ n) (2 ^ n) := by
  have h256 := pow_8 hn
  have hP : ∀ a s, s < 2 ^ n → a ≤ 8 → ((decide (bc (nI s) = nI a) && Q s) = true ↔ bN s = a ∧ Q s = true) := fun a s hs ha => by
    have hb := bN_le s (by omega)
    rw [bN_bc s (by omega), Bool.and_eq_true, decide_eq_true_eq, nI_eq (by omega) (by omega)]
  obtain ⟨l1, l2⟩ := lvB_spec (Q := Q) (2 ^ n) (Nat.le_refl _)
  cases hl : lvB Q (2 ^ n) (2 ^ n) with
  | none =>
    have hq := l1 hl
    cases hf : fO (fun a s => decide (bc (nI s) = nI a) && Q s) (2 ^ n) (n + 1) 0 with
    | none => rfl
    | some b =>
      obtain ⟨hb, a, a1, a2, a3, -, -⟩ := fO_some hf
      have := ((hP a b hb (by omega)).mp a3).2
      rw [hq b (by omega) hb] at this
      cases this
  | some c =>
    obtain ⟨c1, c2, c3, c4⟩ := l2 c hl
    have hcn := bN_n n (by omega) c c2
    cases hf : fO (fun a s => decide (bc (nI s) = nI a) && Q s) (2 ^ n) (n + 1) 0 with
    | none =>
      have := fO_none hf (bN c) (by omega) (by omega) c c2
      rw [(hP (bN c) c c2 (by omega)).mpr ⟨rfl, c3⟩] at this
      cases this
    | some b =>
      obtain ⟨hb, a, a1, a2, a3, a4, a5⟩ := fO_some hf
      obtain ⟨ea, hqb⟩ := (hP a b hb (by omega)).mp a3
      have h1 := c4 b (by omega) hb hqb
      have h2 : ¬ bN c < a := fun z => by
        have := a5 (bN c) (by omega) z c c2
        rw [(hP (bN c) c c2 (by omega)).mpr ⟨rfl, c3⟩] at this
        cases this
      have h3 : bN c = a := by omega
      have h4 : ¬ c < b := fun z => by
        have := a4 c z
        rw [(hP a c c2 (by omega)).mpr ⟨h3, c3⟩] at this
        cases this
      have : b = c := by omega
      rw [this]
/-! as told; whom one would meet; who is abroad -/
theorem gat_eq {nu nu' r : Nat → Int32} {p : Nat} (h : inv r) : ∀ L, (∀ i, i < L → nu i = nu' i) → gatN nu r p L = gatM nu' r (pI p 2) L := by
  intro L
  induction L with
  | zero => intro _; rfl
  | succ L ih =>
    intro hn
    show (gatN nu r p L && _) = gatM nu' r (pI p 2) (L + 1)
    rw [ih (fun i hi => hn i (by omega)), hn L (by omega), ← dysM_R h]
    rfl
theorem mtA_self {s h c : Int32} : mtA s h s c = false := by
  unfold mtA
  simp
theorem mab_eq {r : Nat → Int32} {p : Nat} {c : Int32} : ∀ n, mabN r p c n = mabM r p c n := by
  intro n
  induction n with
  | zero => rfl
  | succ n ih =>
    show (mabN r p c n || _) = (mabM r p c n || _)
    rw [ih]
    by_cases e : n = p
    · subst e; rw [mtA_self]; simp
    · rw [decide_eq_false e]; simp
theorem ctm_eq {r : Nat → Int32} {p n : Nat} : ∀ c, ctmN r p n c = ctmM r p n c := by
  intro c
  induction c with
  | zero => rfl
  | succ c ih => unfold ctmN ctmM; rw [ih, mab_eq]
theorem abr_all : ∀ s, s < 2 → ∀ c, c < 16 → (abr (nI s) (nI c) = true ↔ ¬ (if nI c ≤ 7 then (0 : Int32) else 1) = nI s) := by decide +kernel
theorem abr_eq {r : Nat → Int32} (h : inv r) : ∀ n, n ≤ sz r → abrN r n = strN r n := by
  intro n
  induction n with
  | zero => intro _; rfl
  | succ n ih =>
    intro hn
    have hp := h.p (i := n) (by omega)
    obtain ⟨s, hs, es⟩ := hp.s
    obtain ⟨c, hc, ec⟩ := hp.c
    have ha := abr_all s (by omega) c (by omega)
    unfold abrN strN
    rw [ih (by omega), es, ec]
    by_cases hb : abr (nI s) (nI c) = true
    · rw [if_pos hb, if_neg (ha.mp hb)]
    · rw [if_neg hb, if_pos (Decidable.byContradiction (fun z => hb (ha.mpr z)))]
theorem now_eq {r : Nat → Int32} (h : inv r) (w : Int32) : nowV r w = nowM r w := by
  unfold nowV nowM
  rw [abr_eq h (sz r) (Nat.le_refl _)]
theorem nowV_e {r r' : Nat → Int32} (h : eqv (sz r') r r') (w : Int32) : nowV r w = nowV r' w := by
  unfold nowV
  rw [h.szE, h.hd (k := 0) (by omega), h.hd (k := 3) (by omega), sumN_e h (Nat.le_refl _), abrN_e h (Nat.le_refl _), seaN_e h (Nat.le_refl _), celN_e h (Nat.le_refl _), prO_e h (Nat.le_refl _), mosN_e h (Nat.le_refl _)]
