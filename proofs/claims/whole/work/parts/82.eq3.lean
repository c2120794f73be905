/-! a text is read alike over signed and over unsigned bytes -/
def byE (x y : Int32) : Prop := (x = y ∧ ¬ x < 0) ∨ (x < 0 ∧ 128 ≤ y)
theorem byE_c {x y c : Int32} (h : byE x y) (h0 : ¬ c < 0) (h1 : c < 128) : x = c ↔ y = c := by
  rcases h with ⟨rfl, -⟩ | ⟨h2, h3⟩
  · exact Iff.rfl
  · constructor
    · intro z; subst z; exact absurd h2 h0
    · intro z; subst z
      exact (Int32.lt_irrefl (Int32.lt_of_lt_of_le h1 h3)).elim
theorem byE_n {x y : Int32} (h : byE x y) : ¬ y < 0 := by
  rcases h with ⟨rfl, h⟩ | ⟨h2, h3⟩
  · exact h
  · intro z
    exact absurd (Int32.lt_of_le_of_lt h3 z) (by decide)
theorem byE_t {x y : Int32} (h : byE x y) : tkN x = tkN y := by
  rcases h with ⟨rfl, -⟩ | ⟨h2, h3⟩
  · rfl
  · unfold tkN
    rw [if_neg (fun z => absurd (Int32.lt_of_le_of_lt z.1 h2) (by decide)), if_neg (fun z => absurd (Int32.lt_of_le_of_lt z.1 h2) (by decide)), if_neg (fun z => by subst z; exact absurd h2 (by decide))]
    rw [if_neg (fun z => absurd (Int32.le_trans h3 z.2) (by decide)), if_neg (fun z => absurd (Int32.le_trans h3 z.2) (by decide)), if_neg (fun z => by subst z; exact absurd h3 (by decide))]
theorem byE_d {x y : Int32} (h : byE x y) (ht : tkN x = 2) : x = y := by
  rcases h with ⟨rfl, -⟩ | ⟨h2, h3⟩
  · rfl
  · exact absurd (Int32.lt_of_le_of_lt (tkN_2.mp ht).1 h2) (by decide)
theorem skp_c {b b' : Nat → Int32} {L : Nat} (hb : ∀ k, k < L → byE (b k) (b' k)) : ∀ f e, L - e < f → skp b L e = skp b' L e := by
  intro f
  induction f with
  | zero => intro e h; omega
  | succ f ih =>
    intro e h
    by_cases hc : e < L ∧ b e = 32
    · rw [skp_t hc.1 hc.2, skp_t hc.1 ((byE_c (hb e hc.1) (by decide) (by decide)).mp hc.2)]
      exact ih (e + 1) (by omega)
    · rw [skp_f hc, skp_f (fun z => hc ⟨z.1, (byE_c (hb e z.1) (by decide) (by decide)).mpr z.2⟩)]
theorem ext_c {b b' : Nat → Int32} {L k : Nat} (hb : ∀ k, k < L → byE (b k) (b' k)) : ∀ f e, L - e < f → ext b L k e = ext b' L k e := by
  intro f
  induction f with
  | zero => intro e h; omega
  | succ f ih =>
    intro e h
    by_cases hc : e < L ∧ tkN (b e) = k
    · rw [ext_t hc.1 hc.2, ext_t hc.1 ((byE_t (hb e hc.1)).symm.trans hc.2)]
      exact ih (e + 1) (by omega)
    · rw [ext_f hc, ext_f (fun z => hc ⟨z.1, (byE_t (hb e z.1)).trans z.2⟩)]
theorem nmV_c {b b' : Nat → Int32} {L : Nat} (hb : ∀ k, k < L → byE (b k) (b' k)) : ∀ f e v, L - e < f → nmV b L e v = nmV b' L e v := by
  intro f
  induction f with
  | zero => intro e v h; omega
  | succ f ih =>
    intro e v h
    by_cases hc : e < L ∧ tkN (b e) = 2
    · rw [nmV_t hc.1 hc.2, nmV_t hc.1 ((byE_t (hb e hc.1)).symm.trans hc.2), byE_d (hb e hc.1) hc.2]
      exact ih (e + 1) _ (by omega)
    · rw [nmV_f hc, nmV_f (fun z => hc ⟨z.1, (byE_t (hb e z.1)).trans z.2⟩)]
def lxE (b b' : Nat → Int32) (L : Nat) : Prop := skp b L = skp b' L ∧ tok b L = tok b' L ∧ tnd b L = tnd b' L ∧ tnm b L = tnm b' L ∧ ∀ i, i < 13 → isW b L i = isW b' L i
theorem tch_lo : ∀ i, i < 13 → ∀ k, k < 8 → ¬ tch i k < 0 ∧ tch i k < 128 := by decide +kernel
theorem wrd_c {b b' : Nat → Int32} {L i j : Nat} (hb : ∀ k, k < L → byE (b k) (b' k)) (hi : i < 13) : ∀ n, n ≤ 8 → j + n ≤ L → wrd b j i n = wrd b' j i n := by
  intro n
  induction n with
  | zero => intro _ _; rfl
  | succ n ih =>
    intro h8 hL
    have ht := tch_lo i hi n (by omega)
    have hc := byE_c (hb (j + n) (by omega)) ht.1 ht.2
    show (wrd b j i n && decide (b (j + n) = tch i n)) = (wrd b' j i n && decide (b' (j + n) = tch i n))
    rw [ih (by omega) (by omega), decide_eq_decide.mpr hc]
theorem tnd_le2 {b : Nat → Int32} {L e : Nat} (h : tok b L e ≠ 0) : tnd b L e ≤ L := by
  have h1 := tok_lt h
  unfold tnd
  rw [if_neg h]
  split
  · exact ext_le (by omega)
  · omega
theorem lx_of {b b' : Nat → Int32} {L : Nat} (hb : ∀ k, k < L → byE (b k) (b' k)) : lxE b b' L := by
  have h1 : skp b L = skp b' L := funext (fun e => skp_c hb _ e (Nat.lt_succ_self _))
  have h2 : tok b L = tok b' L := by
    funext e
    unfold tok
    rw [h1]
    by_cases hc : skp b' L e < L
    · rw [if_pos hc, if_pos hc, byE_t (hb _ hc)]
    · rw [if_neg hc, if_neg hc]
  have hx : ∀ k, ext b L k = ext b' L k := fun k => funext (fun e => ext_c hb _ e (Nat.lt_succ_self _))
  have h3 : tnd b L = tnd b' L := by
    funext e
    unfold tnd
    rw [h1, h2, hx]
  have h4 : tnm b L = tnm b' L := by
    funext e
    unfold tnm
    rw [h1, h2, nmV_c hb _ _ _ (Nat.lt_succ_self _)]
  refine ⟨h1, h2, h3, h4, fun i hi => ?_⟩
  funext e
  unfold isW
  rw [h1, h2, h3]
  apply decide_eq_decide.mpr
  constructor
  · intro ⟨a1, a2, a3⟩
    refine ⟨a1, a2, ?_⟩
    have l1 : tnd b' L e ≤ L := tnd_le2 (by rw [a1]; omega)
    have l2 := tnd_ge (b := b') (L := L) (e := e)
    have l3 := tx_small i hi
    rw [← wrd_c hb hi _ (by omega) (by omega)]; exact a3
  · intro ⟨a1, a2, a3⟩
    refine ⟨a1, a2, ?_⟩
    have l1 : tnd b' L e ≤ L := tnd_le2 (by rw [a1]; omega)
    have l2 := tnd_ge (b := b') (L := L) (e := e)
    have l3 := tx_small i hi
    rw [wrd_c hb hi _ (by omega) (by omega)]; exact a3
section LX
variable {b b' : Nat → Int32} {L : Nat}
theorem mS_c (X : lxE b b' L) {x : Prop} {dx : Decidable x} {s : SS} : mS b L x s = mS b' L x s := by
  unfold mS
  rw [X.2.2.1]
theorem nOk_c (X : lxE b b' L) {hi e : Nat} : nOk b L hi e = nOk b' L hi e := by
  unfold nOk
  rw [X.2.1, X.2.2.2.1]
theorem nS_c (X : lxE b b' L) {hi : Nat} {s : SS} : nS b L hi s = nS b' L hi s := by
  unfold nS
  rw [nOk_c X]
  exact mS_c X
theorem oS_c (X : lxE b b' L) {i hi : Nat} (h : i < 13) {s : SS} : oS b L i hi s = oS b' L i hi s := by
  unfold oS
  rw [X.2.2.2.2 i h, X.2.2.1, nS_c X]
theorem oR_c (X : lxE b b' L) {i hi p f : Nat} (h : i < 13) {s : SS} {r : Nat → Int32} : oR b L i hi p f s r = oR b' L i hi p f s r := by
  unfold oR
  rw [X.2.2.2.2 i h, X.2.2.1, X.2.2.2.1, nOk_c X]
theorem kdF_c (X : lxE b b' L) {e : Nat} : ∀ n, kdF b L e n = kdF b' L e n := by
  intro n
  induction n with
  | zero => rfl
  | succ n ih =>
    unfold kdF
    rw [X.2.2.2.2 (mTx (6 - n)) (mTx_lt _ (by omega)), ih]
theorem kd_c (X : lxE b b' L) {e : Nat} : kd b L e = kd b' L e := kdF_c X 7
theorem pS1_c (X : lxE b b' L) {n e : Nat} : pS1 b L n e = pS1 b' L n e := by
  unfold pS1
  rw [mS_c X, nS_c X]
theorem pS2_c (X : lxE b b' L) {n e : Nat} : pS2 b L n e = pS2 b' L n e := by
  unfold pS2
  rw [pS1_c X, oS_c X (by omega)]
theorem pS3_c (X : lxE b b' L) {n e : Nat} : pS3 b L n e = pS3 b' L n e := by
  unfold pS3
  rw [pS2_c X, oS_c X (by omega)]
theorem pS4_c (X : lxE b b' L) {n e : Nat} : pS4 b L n e = pS4 b' L n e := by
  unfold pS4
  rw [pS3_c X, oS_c X (by omega)]
theorem pS5_c (X : lxE b b' L) {n e : Nat} : pS5 b L n e = pS5 b' L n e := by
  unfold pS5
  rw [pS4_c X, oS_c X (by omega)]
theorem itS_c (X : lxE b b' L) {n e : Nat} : itS b L n e = itS b' L n e := by
  unfold itS
  rw [X.2.2.2.2 0 (by omega), X.2.2.2.2 1 (by omega), X.2.2.1, kd_c X, pS5_c X, nS_c X, nS_c X, nS_c X]
theorem perR_c (X : lxE b b' L) {r : Nat → Int32} {e : Nat} : perR b L r e = perR b' L r e := by
  unfold perR sdN
  rw [pS1_c X, pS2_c X, pS3_c X, pS4_c X, kd_c X, X.2.2.1, X.2.2.2.1, oR_c X (by omega), oR_c X (by omega), oR_c X (by omega), oR_c X (by omega)]
theorem perQ_c (X : lxE b b' L) {r : Nat → Int32} {e : Nat} : perQ b L r e = perQ b' L r e := by
  unfold perQ
  rw [kd_c X, pS1_c X, perR_c X]
theorem itQ_c (X : lxE b b' L) {r : Nat → Int32} {e : Nat} : itQ b L r e = itQ b' L r e := by
  unfold itQ
  rw [X.2.2.2.2 0 (by omega), X.2.2.2.2 1 (by omega), X.2.2.1, X.2.2.2.1, perQ_c X, nS_c X, nS_c X, nS_c X]
theorem txA_c (X : lxE b b' L) : ∀ f c r e, txA b L f c r e = txA b' L f c r e := by
  intro f
  induction f with
  | zero => intro c r e; rfl
  | succ f ih =>
    intro c r e
    unfold txA
    rw [itS_c X, itQ_c X, X.1, X.2.1, X.2.2.1, ih]
theorem txR_c (X : lxE b b' L) : ∀ f r e, txR b L f r e = txR b' L f r e := by
  intro f
  induction f with
  | zero => intro r e; rfl
  | succ f ih =>
    intro r e
    unfold txR
    rw [itS_c X, itQ_c X, X.2.1, X.2.2.1, ih]
end LX
/-! rows alike stay alike; what holds of a row goes on to hold -/
theorem addR_sz {r : Nat → Int32} {k s : Int32} (h : sz r < 8) : sz (addR r k s) = sz r + 1 := sz_of pk_us (by omega)
theorem bgnR_e {n : Nat} {r r' : Nat → Int32} {k s : Int32} (h : eqv n r r') : eqv (n + 1) (bgnR r n k s) (bgnR r' n k s) := by
  intro j hj
  unfold bgnR
  by_cases h5 : j = pI n 5
  · subst h5; rw [pk_us, pk_us]
  · rw [pk_un h5, pk_un h5]
    by_cases h4 : j = pI n 4
    · subst h4; rw [pk_us, pk_us]
    · rw [pk_un h4, pk_un h4]
      by_cases h3 : j = pI n 3
      · subst h3; rw [pk_us, pk_us]
      · rw [pk_un h3, pk_un h3]
        by_cases h2 : j = pI n 2
        · subst h2; rw [pk_us, pk_us]
        · rw [pk_un h2, pk_un h2]
          by_cases h1 : j = pI n 1
          · subst h1; rw [pk_us, pk_us]
          · rw [pk_un h1, pk_un h1]
            by_cases h0 : j = pI n 0
            · subst h0; rw [pk_us, pk_us]
            · rw [pk_un h0, pk_un h0]
              simp only [pI] at h0 h1 h2 h3 h4 h5
              exact h j (by omega)
theorem addR_e {r r' : Nat → Int32} {k s : Int32} (h : eqv (sz r) r r') : eqv (sz r + 1) (addR r k s) (addR r' k s) := by
  unfold addR
  rw [← h.szE]
  exact (bgnR_e h).updE _ _
theorem oR_e {b : Nat → Int32} {L i hi p f n : Nat} {s : SS} {r r' : Nat → Int32} (h : eqv n r r') : eqv n (oR b L i hi p f s r) (oR b L i hi p f s r') := by
  unfold oR
  split
  · exact h.updE _ _
  · exact h
theorem perR_e {b : Nat → Int32} {L e : Nat} {r r' : Nat → Int32} (h : eqv (sz r) r r') : eqv (sz r + 1) (perR b L r e) (perR b L r' e) := by
  unfold perR
  rw [← h.szE]
  exact oR_e (oR_e (oR_e (oR_e (addR_e h))))
theorem perR_sz {b : Nat → Int32} {L e : Nat} {r : Nat → Int32} (h : sz r < 8) : sz (perR b L r e) = sz r + 1 := by
  unfold perR
  rw [sz_oR, sz_oR, sz_oR, sz_oR, addR_sz h]
theorem perQ_e {b : Nat → Int32} {L e : Nat} {r r' : Nat → Int32} (h : eqv (sz r) r r') : eqv (sz (perQ b L r e)) (perQ b L r e) (perQ b L r' e) := by
  unfold perQ
  rw [← h.szE]
  by_cases hc : kd b L e = 7 ∨ (pS1 b L (sz r) e).2 = true
  · rw [if_pos hc, if_pos hc]; exact h
  · rw [if_neg hc, if_neg hc]
    have h2 : (pS1 b L (sz r) e).2 = false := by
      cases hx : (pS1 b L (sz r) e).2 with
      | false => rfl
      | true => exact absurd (Or.inr hx) hc
    rw [perR_sz (mS_w (nS_w h2).1).2.1]
    exact perR_e h
theorem itQ_e {b : Nat → Int32} {L e : Nat} {r r' : Nat → Int32} (h : eqv (sz r) r r') : eqv (sz (itQ b L r e)) (itQ b L r e) (itQ b L r' e) := by
  unfold itQ
  by_cases h0 : isW b L 0 e = true
  · rw [if_pos h0, if_pos h0]
    split
    · exact h
    · rw [sz_upd (by omega)]; exact h.updE _ _
  · rw [if_neg h0, if_neg h0]
    by_cases h1 : isW b L 1 e = true
    · rw [if_pos h1, if_pos h1]
      split
      · exact h
      · rw [sz_upd (by omega)]; exact h.updE _ _
    · rw [if_neg h1, if_neg h1]; exact perQ_e h
theorem txA_e {b : Nat → Int32} {L : Nat} : ∀ {f c e : Nat} {r r' : Nat → Int32}, eqv (sz r) r r' → txA b L f c r e = txA b L f c r' e := by
  intro f
  induction f with
  | zero => intro c e r r' h; rfl
  | succ f ih =>
    intro c e r r' h
    unfold txA
    rw [← h.szE, ih (itQ_e h)]
theorem txR_e {b : Nat → Int32} {L : Nat} : ∀ {f e : Nat} {r r' : Nat → Int32}, eqv (sz r) r r' → eqv (sz (txR b L f r e)) (txR b L f r e) (txR b L f r' e) := by
  intro f
  induction f with
  | zero => intro e r r' h; exact h
  | succ f ih =>
    intro e r r' h
    unfold txR
    rw [← h.szE]
    split
    · exact itQ_e h
    · split
      · exact ih (itQ_e h)
      · exact itQ_e h
theorem add_inv {r : Nat → Int32} {k s : Int32} (h : inv r) (h8 : sz r < 8) (hk : rg 6 k) (hs : rg 1 s) : inv (addR r k s) := by
  have e1 := addR_sz (k := k) (s := s) h8
  have hh : ∀ n, n < 20 → n ≠ 1 → addR r k s n = r n := fun n h1 h2 => by
    unfold addR
    rw [pk_un h2, bgnR_hd h1]
  refine ⟨addR_ok h.1 h8, ?_, fun j hj => ?_, fun j hj => ?_, fun i hi f hf => ?_⟩
  · rw [hh 3 (by omega) (by omega)]; exact h.g
  · rw [hh (4 + j) (by omega) (by omega)]; exact h.l hj
  · rw [hh (10 + j) (by omega) (by omega), e1]
    rcases h.2.2.2.1 j hj with z | ⟨q, hq, z⟩
    · exact Or.inl z
    · exact Or.inr ⟨q, by omega, z⟩
  · rw [e1] at hi
    unfold addR bgnR
    rw [pk_un (by simp only [pI]; omega)]
    by_cases e : i = sz r
    · subst e
      have hl := lft_rg hs
      rcases (show f = 0 ∨ f = 1 ∨ f = 2 ∨ f = 3 ∨ f = 4 ∨ f = 5 by omega) with rfl | rfl | rfl | rfl | rfl | rfl
      · simp only [upd_at, pI_eq]; exact hk
      · simp only [upd_at, pI_eq]; exact hs
      · simp only [upd_at, pI_eq]; exact hl
      · simp only [upd_at, pI_eq]; exact ⟨30, by decide, rfl⟩
      · simp only [upd_at, pI_eq]; exact ⟨0, by decide, rfl⟩
      · simp only [upd_at, pI_eq]; exact ⟨0, by decide, rfl⟩
    · rw [pk_un (by simp only [pI]; omega), pk_un (by simp only [pI]; omega), pk_un (by simp only [pI]; omega), pk_un (by simp only [pI]; omega), pk_un (by simp only [pI]; omega), pk_un (by simp only [pI]; omega)]
      exact h.p (i := i) (by omega) f hf
theorem oR_inv {b : Nat → Int32} {L i hi p f : Nat} {s : SS} {r : Nat → Int32} (h : inv r) (hf : f < 6) (hm : mF f = hi) : inv (oR b L i hi p f s r) := by
  unfold oR
  split
  · rename_i hc
    exact inv_updP h hf ⟨_, by rw [hm]; exact (nOk_i.mp hc.2.2).2, rfl⟩
  · exact h
theorem perQ_inv {b : Nat → Int32} {L e : Nat} {r : Nat → Int32} (h : inv r) : inv (perQ b L r e) := by
  unfold perQ
  by_cases hc : kd b L e = 7 ∨ (pS1 b L (sz r) e).2 = true
  · rw [if_pos hc]; exact h
  · rw [if_neg hc]
    have h2 : (pS1 b L (sz r) e).2 = false := by
      cases hx : (pS1 b L (sz r) e).2 with
      | false => rfl
      | true => exact absurd (Or.inr hx) hc
    have a1 := nS_w h2
    have a0 := mS_w a1.1
    have hk : kd b L e ≠ 7 := fun z => hc (Or.inl z)
    have hk7 := (kd_7 (b := b) (L := L) (e := e)).1
    have hn := (nOk_i.mp a1.2.1).2
    rw [a0.2.2] at hn
    unfold perR
    exact oR_inv (oR_inv (oR_inv (oR_inv (add_inv h a0.2.1 ⟨_, by omega, rfl⟩ ⟨_, hn, rfl⟩) (by omega) rfl) (by omega) rfl) (by omega) rfl) (by omega) rfl
theorem itQ_inv {b : Nat → Int32} {L e : Nat} {r : Nat → Int32} (h : inv r) : inv (itQ b L r e) := by
  unfold itQ
  split
  · split
    · exact h
    · rename_i hc
      have h2 : (nS b L 15 (nS b L 5 (tnd b L e, false))).2 = false := Bool.not_eq_true _ ▸ hc
      have a1 := nS_w h2
      have a0 := nS_w a1.1
      have n1 := (nOk_i.mp a1.2.1).2
      have n0 := (nOk_i.mp a0.2.1).2
      rw [a0.2.2.1] at n1
      exact inv_updL h (Nat.lt_succ_of_le n0) ⟨_, n1, rfl⟩
  · split
    · split
      · exact h
      · rename_i hc
        have h2 : (nS b L 99 (tnd b L e, false)).2 = false := Bool.not_eq_true _ ▸ hc
        exact inv_upd3 h ⟨_, (nOk_i.mp (nS_w h2).2.1).2, rfl⟩
    · exact perQ_inv h
theorem txR_inv {b : Nat → Int32} {L : Nat} : ∀ {f e : Nat} {r : Nat → Int32}, inv r → inv (txR b L f r e) := by
  intro f
  induction f with
  | zero => intro e r h; exact h
  | succ f ih =>
    intro e r h
    unfold txR
    split
    · exact itQ_inv h
    · split
      · exact ih (itQ_inv h)
      · exact itQ_inv h
