/-! ranges; what holds of a row at every time; the reference's day is the class's -/
def rg (n : Nat) (x : Int32) : Prop := ∃ k, k ≤ n ∧ x = nI k
def mF (f : Nat) : Nat := ([6, 1, 15, 99, 9, 9999] : List Nat).getD f 0
def inP (r : Nat → Int32) (i : Nat) : Prop := ∀ f, f < 6 → rg (mF f) (r (pI i f))
def inv (r : Nat → Int32) : Prop := okR r ∧ rg 99 (r 3) ∧ (∀ j, j < 6 → rg 15 (r (4 + j))) ∧ (∀ j, j < 10 → r (10 + j) = -1 ∨ ∃ q, q < sz r ∧ r (10 + j) = nI q) ∧ ∀ i, i < sz r → inP r i
theorem rg_in {M x : Int32} {n : Nat} (h : 0 ≤ x ∧ x ≤ M) (hM : M.toInt = n) : rg n x := in_le h hM
theorem rg_b {n : Nat} {x : Int32} (h : rg n x) (hn : n < 2 ^ 31) : 0 ≤ x ∧ x ≤ nI n := by
  obtain ⟨k, hk, rfl⟩ := h
  exact ⟨nI_pos' (by omega), nI_le hk hn⟩
theorem inP.k {r : Nat → Int32} {i : Nat} (h : inP r i) : rg 6 (r (pI i 0)) := h 0 (by omega)
theorem inP.s {r : Nat → Int32} {i : Nat} (h : inP r i) : rg 1 (r (pI i 1)) := h 1 (by omega)
theorem inP.c {r : Nat → Int32} {i : Nat} (h : inP r i) : rg 15 (r (pI i 2)) := h 2 (by omega)
theorem inP.z {r : Nat → Int32} {i : Nat} (h : inP r i) : rg 99 (r (pI i 3)) := h 3 (by omega)
theorem inP.b {r : Nat → Int32} {i : Nat} (h : inP r i) : rg 9 (r (pI i 4)) := h 4 (by omega)
theorem inP.m {r : Nat → Int32} {i : Nat} (h : inP r i) : rg 9999 (r (pI i 5)) := h 5 (by omega)
theorem inv.ok {r : Nat → Int32} (h : inv r) : okR r := h.1
theorem inv.g {r : Nat → Int32} (h : inv r) : rg 99 (r 3) := h.2.1
theorem inv.l {r : Nat → Int32} (h : inv r) {j : Nat} (hj : j < 6) : rg 15 (r (4 + j)) := h.2.2.1 j hj
theorem inv.p {r : Nat → Int32} (h : inv r) {i : Nat} (hi : i < sz r) : inP r i := h.2.2.2.2 i hi
theorem inv.d {r : Nat → Int32} (h : inv r) : rg 99999 (r 0) := h.1.2
theorem inv.n {r : Nat → Int32} (h : inv r) : sz r ≤ 8 := okR_sz h.1
theorem inv.r1 {r : Nat → Int32} (h : inv r) : r 1 = nI (sz r) := by
  obtain ⟨⟨n, hn, h1⟩, -⟩ := h.1
  rw [sz_of h1 hn]; exact h1
theorem inv_updP {r : Nat → Int32} {i f : Nat} {v : Int32} (h : inv r) (hf : f < 6) (hv : rg (mF f) v) : inv (upd r (pI i f) v) := by
  obtain ⟨h1, h2, h3, h4, h5⟩ := h
  refine ⟨okR_updP h1, ?_, fun j hj => ?_, fun j hj => ?_, fun i' hi' f' hf' => ?_⟩
  · rw [upd_hd (by omega)]; exact h2
  · rw [upd_hd (by omega)]; exact h3 j hj
  · rw [upd_hd (by omega), sz_updP]; exact h4 j hj
  · rw [sz_updP] at hi'
    by_cases e : pI i' f' = pI i f
    · have hff : f' = f := by simp only [pI] at e; omega
      subst hff
      rw [e, pk_us]; exact hv
    · rw [pk_un e]; exact h5 i' hi' f' hf'
theorem inv_upd3 {r : Nat → Int32} {v : Int32} (h : inv r) (hv : rg 99 v) : inv (upd r 3 v) := by
  obtain ⟨h1, h2, h3, h4, h5⟩ := h
  refine ⟨okR_upd h1 (by omega), by rw [pk_us]; exact hv, fun j hj => by rw [pk_un (by omega)]; exact h3 j hj, fun j hj => by rw [pk_un (by omega), sz_upd (by omega)]; exact h4 j hj, fun i hi f hf => ?_⟩
  rw [sz_upd (by omega)] at hi
  rw [pk_un (by simp only [pI]; omega)]; exact h5 i hi f hf
theorem inv_upd2 {r : Nat → Int32} {v : Int32} (h : inv r) : inv (upd r 2 v) := by
  obtain ⟨h1, h2, h3, h4, h5⟩ := h
  refine ⟨okR_upd h1 (by omega), by rw [pk_un (by omega)]; exact h2, fun j hj => by rw [pk_un (by omega)]; exact h3 j hj, fun j hj => by rw [pk_un (by omega), sz_upd (by omega)]; exact h4 j hj, fun i hi f hf => ?_⟩
  rw [sz_upd (by omega)] at hi
  rw [pk_un (by simp only [pI]; omega)]; exact h5 i hi f hf
theorem inv_updL {r : Nat → Int32} {k : Nat} {v : Int32} (h : inv r) (hk : k < 6) (hv : rg 15 v) : inv (upd r (4 + k) v) := by
  obtain ⟨h1, h2, h3, h4, h5⟩ := h
  refine ⟨okR_upd h1 (by omega), by rw [pk_un (by omega)]; exact h2, fun j hj => ?_, fun j hj => by rw [pk_un (by omega), sz_upd (by omega)]; exact h4 j hj, fun i hi f hf => ?_⟩
  · by_cases e : 4 + j = 4 + k
    · rw [e, pk_us]; exact hv
    · rw [pk_un e]; exact h3 j hj
  · rw [sz_upd (by omega)] at hi
    rw [pk_un (by simp only [pI]; omega)]; exact h5 i hi f hf
theorem inv_updS {r : Nat → Int32} {k : Nat} {v : Int32} (h : inv r) (hk : k < 10) (hv : v = -1 ∨ ∃ q, q < sz r ∧ v = nI q) : inv (upd r (10 + k) v) := by
  obtain ⟨h1, h2, h3, h4, h5⟩ := h
  refine ⟨okR_upd h1 (by omega), by rw [pk_un (by omega)]; exact h2, fun j hj => by rw [pk_un (by omega)]; exact h3 j hj, fun j hj => ?_, fun i hi f hf => ?_⟩
  · rw [sz_upd (by omega)]
    by_cases e : 10 + j = 10 + k
    · rw [e, pk_us]; exact hv
    · rw [pk_un e]; exact h4 j hj
  · rw [sz_upd (by omega)] at hi
    rw [pk_un (by simp only [pI]; omega)]; exact h5 i hi f hf
theorem inv_upd0 {r : Nat → Int32} {v : Int32} (h : inv r) (hv : rg 99999 v) : inv (upd r 0 v) := by
  obtain ⟨h1, h2, h3, h4, h5⟩ := h
  refine ⟨⟨by rw [pk_un (by omega)]; exact h1.1, by rw [pk_us]; exact hv⟩, by rw [pk_un (by omega)]; exact h2, fun j hj => by rw [pk_un (by omega)]; exact h3 j hj, fun j hj => by rw [pk_un (by omega), sz_upd (by omega)]; exact h4 j hj, fun i hi f hf => ?_⟩
  rw [sz_upd (by omega)] at hi
  rw [pk_un (by simp only [pI]; omega)]; exact h5 i hi f hf
theorem inv_e {r r' : Nat → Int32} (h : eqv (sz r) r r') (hi : inv r) : inv r' := by
  obtain ⟨h1, h2, h3, h4, h5⟩ := hi
  refine ⟨okR_e h h1, by rw [← h.hd (by omega)]; exact h2, fun j hj => by rw [← h.hd (by omega)]; exact h3 j hj, fun j hj => by rw [← h.hd (by omega), ← h.szE]; exact h4 j hj, fun i hi f hf => ?_⟩
  rw [← h.szE] at hi
  rw [← h.at hi hf]
  exact h5 i hi f hf
/-! numbers, by trying them all -/
theorem mvd_all : ∀ f, f < 16 → ∀ t, t < 16 → ∀ s, s < 6 → 0 ≤ mvd (nI f) (nI t) (nI s) ∧ mvd (nI f) (nI t) (nI s) ≤ 15 := by decide +kernel
theorem stA_all : ∀ f, f < 16 → ∀ t, t < 16 → ∀ s, s < 6 → stA (nI f) (mvd (nI f) (nI t) (nI s)) = mvd (nI f) (if nI f ≤ 7 then mn 7 (nI t) else mx 8 (nI t)) (nI s) := by decide +kernel
theorem clip_all : ∀ f, f < 16 → ∀ t, t < 16 → 0 ≤ (if nI f ≤ 7 then mn 7 (nI t) else mx 8 (nI t)) ∧ (if nI f ≤ 7 then mn 7 (nI t) else mx 8 (nI t)) ≤ 15 := by decide +kernel
def stp2 (k b x : Int32) : Int32 := if k = 1 then mx 1 (wkr b - 1) else if k = 6 then mx 1 (wkr b - 1) + 2 else if k = 2 then wkr b + 1 else if k = 3 then mx 1 ((wkr b + 1) / 2) else if k = 4 then mx 1 ((wkr b + 1) / 2) else if k = 5 then x else wkr b
theorem stp2_all : ∀ k, k < 7 → ∀ b, b < 10 → ∀ x, x < 2 → 0 ≤ stp2 (nI k) (nI b) (nI x) ∧ stp2 (nI k) (nI b) (nI x) ≤ 5 := by decide +kernel
def trs2 (k x : Int32) : Int32 := if k = 6 then (if x = 0 then 2 else 1) else if k = 2 then 2 else if k = 3 then 2 else if k = 4 then 2 else if k = 5 then 0 else 1
theorem trs2_all : ∀ k, k < 7 → ∀ x, x < 3 → 0 ≤ trs2 (nI k) (nI x) ∧ trs2 (nI k) (nI x) ≤ 2 := by decide +kernel
theorem clm_all : ∀ k, k < 7 → 0 ≤ clm (nI k) ∧ clm (nI k) ≤ 10 := by decide +kernel
theorem gun_all : ∀ q, q < 100 → ∀ a, a < 11 → ∀ b, b < 11 → 0 ≤ mx 0 (nI q - nI a - nI b) ∧ mx 0 (nI q - nI a - nI b) ≤ 99 := by decide +kernel
theorem g5_all : ∀ q, q < 100 → 0 ≤ mn 99 (nI q + 5) ∧ mn 99 (nI q + 5) ≤ 99 := by decide +kernel
theorem sea_all : ∀ q, q < 100 → ∀ t, t < 3 → 0 ≤ mx 0 (nI q - nI t) ∧ mx 0 (nI q - nI t) ≤ 99 := by decide +kernel
theorem bag_all : ∀ q, q < 10 → 0 ≤ mn 9 (nI q + 1) ∧ mn 9 (nI q + 1) ≤ 9 := by decide +kernel
theorem lft_all : ∀ s, s < 2 → 0 ≤ lft (nI s) ∧ lft (nI s) ≤ 15 := by decide +kernel
theorem mvd_rg {f t s : Int32} (hf : rg 15 f) (ht : rg 15 t) (hs : rg 5 s) : rg 15 (mvd f t s) := by
  obtain ⟨a, ha, rfl⟩ := hf
  obtain ⟨b, hb, rfl⟩ := ht
  obtain ⟨c, hc, rfl⟩ := hs
  exact rg_in (mvd_all a (by omega) b (by omega) c (by omega)) rfl
theorem clip_rg {f t : Int32} (hf : rg 15 f) (ht : rg 15 t) : rg 15 (if f ≤ 7 then mn 7 t else mx 8 t) := by
  obtain ⟨a, ha, rfl⟩ := hf
  obtain ⟨b, hb, rfl⟩ := ht
  exact rg_in (clip_all a (by omega) b (by omega)) rfl
theorem stA_eq {f t s : Int32} (hf : rg 15 f) (ht : rg 15 t) (hs : rg 5 s) : stA f (mvd f t s) = mvd f (if f ≤ 7 then mn 7 t else mx 8 t) s := by
  obtain ⟨a, ha, rfl⟩ := hf
  obtain ⟨b, hb, rfl⟩ := ht
  obtain ⟨c, hc, rfl⟩ := hs
  exact stA_all a (by omega) b (by omega) c (by omega)
theorem stp_rg {k b d : Int32} (hk : rg 6 k) (hb : rg 9 b) (hd : rg 99999 d) : rg 5 (stp k b d) := by
  obtain ⟨a, ha, rfl⟩ := hk
  obtain ⟨c, hc, rfl⟩ := hb
  obtain ⟨e, he, rfl⟩ := hd
  have h1 : stp (nI a) (nI c) (nI e) = stp2 (nI a) (nI c) (nI e - nI e / nI 2 * nI 2) := rfl
  rw [h1, pk_rem (by omega) (by omega) (by omega)]
  exact rg_in (stp2_all a (by omega) c (by omega) (e % 2) (by omega)) rfl
theorem trs_rg {k d : Int32} (hk : rg 6 k) (hd : rg 99999 d) : rg 2 (trs k d) := by
  obtain ⟨a, ha, rfl⟩ := hk
  obtain ⟨e, he, rfl⟩ := hd
  have h1 : trs (nI a) (nI e) = trs2 (nI a) (nI e - nI e / nI 3 * nI 3) := rfl
  rw [h1, pk_rem (by omega) (by omega) (by omega)]
  exact rg_in (trs2_all a (by omega) (e % 3) (by omega)) rfl
theorem clm_rg {k : Int32} (hk : rg 6 k) : rg 10 (clm k) := by
  obtain ⟨a, ha, rfl⟩ := hk
  exact rg_in (clm_all a (by omega)) rfl
theorem lft_rg {s : Int32} (hs : rg 1 s) : rg 15 (lft s) := by
  obtain ⟨a, ha, rfl⟩ := hs
  exact rg_in (lft_all a (by omega)) rfl
theorem gun_rg {q a b : Int32} (hq : rg 99 q) (ha : rg 10 a) (hb : rg 10 b) : rg 99 (mx 0 (q - a - b)) := by
  obtain ⟨x, hx, rfl⟩ := hq
  obtain ⟨y, hy, rfl⟩ := ha
  obtain ⟨z, hz, rfl⟩ := hb
  exact rg_in (gun_all x (by omega) y (by omega) z (by omega)) rfl
theorem sea_rg {q t : Int32} (hq : rg 99 q) (ht : rg 2 t) : rg 99 (mx 0 (q - t)) := by
  obtain ⟨x, hx, rfl⟩ := hq
  obtain ⟨y, hy, rfl⟩ := ht
  exact rg_in (sea_all x (by omega) y (by omega)) rfl
theorem mn_met {m : Nat} (h : m ≤ 9999) : mn 9999 (nI m + 1) = nI (min 9999 (m + 1)) := by
  unfold mn
  rw [nI_1, show (9999 : Int32) = nI 9999 from rfl]
  by_cases hd : m + 1 < 9999
  · rw [if_pos (nI_lt hd (by decide))]
    congr 1
    omega
  · rw [if_neg (nI_nlt (by omega) (by omega))]
    congr 1
    omega
theorem met_rg {m : Int32} (h : rg 9999 m) : rg 9999 (mn 9999 (m + 1)) := by
  obtain ⟨x, hx, rfl⟩ := h
  exact ⟨min 9999 (x + 1), by omega, mn_met hx⟩
/-! a day -/
theorem wlk_eq {r : Nat → Int32} {i : Nat} {pl : Int32} (h : inP r i) (hpl : rg 15 pl) (hd : rg 99999 (r 0)) : wlkC r i pl (r 0) (r 3) = wlkM r i pl := by
  have hs := stp_rg h.k h.b hd
  unfold wlkC wlkM
  obtain ⟨z, hz, ez⟩ := h.z
  rw [ez]
  by_cases h0 : z = 0
  · subst h0
    rw [if_pos nI_0, if_neg (by decide)]
  · rw [if_neg (nI_ne0 (by omega) (by omega)), if_pos (show 0 < nI z from nI_lt (a := 0) (by omega) (by omega))]
    by_cases hc : crs (r (pI i 0)) (r (pI i 5)) (r 3) = true
    · rw [if_pos hc, if_pos hc]
    · rw [if_neg hc, if_neg hc]
      exact stA_eq h.c hpl hs
theorem wlk_rg {r : Nat → Int32} {i : Nat} {pl : Int32} (h : inP r i) (hpl : rg 15 pl) (hd : rg 99999 (r 0)) : rg 15 (wlkM r i pl) := by
  have hs := stp_rg h.k h.b hd
  unfold wlkM
  refine mvd_rg h.c ?_ hs
  split
  · split
    · exact hpl
    · exact clip_rg h.c hpl
  · exact lft_rg h.s
theorem wkM_sz {pl : Int32} {r : Nat → Int32} {i : Nat} : sz (wkM pl r i) = sz r := by unfold sz; rw [wkM_hd (by omega)]
theorem wk_inv {pl : Int32} {r : Nat → Int32} (h : inv r) (hpl : rg 15 pl) : ∀ i, i ≤ sz r → wkN pl (r 0) (r 3) r i = wkM pl r i ∧ inv (wkM pl r i) := by
  intro i
  induction i with
  | zero => intro _; exact ⟨rfl, h⟩
  | succ i ih =>
    intro hi
    obtain ⟨e, hv⟩ := ih (by omega)
    have hp := hv.p (i := i) (by rw [wkM_sz]; omega)
    have e0 : wkM pl r i 0 = r 0 := wkM_hd (by omega)
    have e3 : wkM pl r i 3 = r 3 := wkM_hd (by omega)
    refine ⟨?_, inv_updP hv (by omega) (wlk_rg hp hpl hv.d)⟩
    show upd (wkN pl (r 0) (r 3) r i) (pI i 2) (wlkC (wkN pl (r 0) (r 3) r i) i pl (r 0) (r 3)) = upd (wkM pl r i) (pI i 2) (wlkM (wkM pl r i) i pl)
    rw [e, ← wlk_eq hp hpl hv.d, e0, e3]
theorem cmt_inv {r : Nat → Int32} {i : Nat} (h : inv r) (hi : i < sz r) : inv (cmtR r i) := inv_updP h (by omega) (met_rg (h.p hi).m)
theorem cmtR_sz {r : Nat → Int32} {i : Nat} : sz (cmtR r i) = sz r := sz_updP
theorem mt1_sz {r : Nat → Int32} {a b : Nat} : sz (mt1 r a b) = sz r := by unfold sz; rw [mt1_hd (by omega)]
theorem mtI_sz {r : Nat → Int32} {a k : Nat} : sz (mtI a r k) = sz r := by unfold sz; rw [mtI_hd (by omega)]
theorem mtO_sz {r : Nat → Int32} {m a : Nat} : sz (mtO m r a) = sz r := by unfold sz; rw [mtO_hd (by omega)]
theorem mt1_inv {r : Nat → Int32} {a b : Nat} (h : inv r) (ha : a < sz r) (hb : b < sz r) : inv (mt1 r a b) := by
  unfold mt1
  split
  · have h1 := cmt_inv h ha
    have h2 := cmt_inv (i := b) h1 (by rw [cmtR_sz]; exact hb)
    have ha2 := h2.p (i := a) (by rw [cmtR_sz, cmtR_sz]; exact ha)
    have hb2 := h2.p (i := b) (by rw [cmtR_sz, cmtR_sz]; exact hb)
    exact inv_upd3 h2 (gun_rg h2.g (clm_rg ha2.k) (clm_rg hb2.k))
  · exact h
theorem mtI_inv {r : Nat → Int32} {a : Nat} (h : inv r) : ∀ k, a + 1 + k ≤ sz r → inv (mtI a r k) := by
  intro k
  induction k with
  | zero => intro _; exact h
  | succ k ih => intro hk; exact mt1_inv (ih (by omega)) (by rw [mtI_sz]; omega) (by rw [mtI_sz]; omega)
theorem mtO_inv {r : Nat → Int32} (h : inv r) : ∀ a, a ≤ sz r → inv (mtO (sz r) r a) := by
  intro a
  induction a with
  | zero => intro _; exact h
  | succ a ih => intro ha; exact mtI_inv (ih (by omega)) _ (by rw [mtO_sz]; omega)
theorem g5_inv {r : Nat → Int32} (h : inv r) : inv (g5 r) := by
  unfold g5
  split
  · refine inv_upd3 h ?_
    obtain ⟨q, hq, e⟩ := h.g
    rw [e]
    exact rg_in (g5_all q (by omega)) rfl
  · exact h
theorem g5_sz {r : Nat → Int32} : sz (g5 r) = sz r := by unfold sz; rw [g5_hd (by omega)]
theorem endR_sz {r : Nat → Int32} {i : Nat} {d : Int32} : sz (endR r i d) = sz r := by unfold sz; rw [endR_hd (by omega)]
theorem enM_sz {r : Nat → Int32} {i : Nat} : sz (enM r i) = sz r := by unfold sz; rw [enM_hd (by omega)]
theorem end_inv {r : Nat → Int32} {i : Nat} {d : Int32} (h : inv r) (hi : i < sz r) (hd : rg 99999 d) : inv (endR r i d) := by
  have hp := h.p hi
  have hz : rg (mF 3) (mx 0 (r (pI i 3) - trs (r (pI i 0)) d)) := sea_rg hp.z (trs_rg hp.k hd)
  unfold endR
  split
  · exact inv_updP (inv_updP h (by omega) ⟨0, by omega, rfl⟩) (by omega) hz
  · exact inv_updP h (by omega) hz
theorem en_inv {r : Nat → Int32} (h : inv r) : ∀ i, i ≤ sz r → enN (r 0) r i = enM r i ∧ inv (enM r i) := by
  intro i
  induction i with
  | zero => intro _; exact ⟨rfl, h⟩
  | succ i ih =>
    intro hi
    obtain ⟨e, hv⟩ := ih (by omega)
    refine ⟨?_, end_inv hv (by rw [enM_sz]; omega) hv.d⟩
    show endR (enN (r 0) r i) i (r 0) = endR (enM r i) i (enM r i 0)
    rw [e, enM_hd (by omega)]
theorem day_inv {r : Nat → Int32} (h : inv r) : dayR r = dayM r ∧ inv (dayR r) := by
  have hpl := h.l (j := dy r % 6) (by omega)
  obtain ⟨e1, i1⟩ := wk_inv h hpl (sz r) (Nat.le_refl _)
  have i2 := mtO_inv i1 (sz r) (by rw [wkM_sz]; exact Nat.le_refl _)
  rw [wkM_sz] at i2
  have i3 := g5_inv i2
  have s3 : sz (g5 (mtO (sz r) (wkM (r (4 + dy r % 6)) r (sz r)) (sz r))) = sz r := by rw [g5_sz, mtO_sz, wkM_sz]
  have z3 : g5 (mtO (sz r) (wkM (r (4 + dy r % 6)) r (sz r)) (sz r)) 0 = r 0 := by rw [g5_hd (by omega), mtO_hd (by omega), wkM_hd (by omega)]
  obtain ⟨e4, i4⟩ := en_inv i3 (sz r) (by rw [s3]; exact Nat.le_refl _)
  rw [z3] at e4
  have e : dayR r = dayM r := by
    unfold dayR dayM
    rw [e1, e4]
  refine ⟨e, ?_⟩
  rw [e]
  unfold dayM
  refine inv_upd0 i4 ?_
  obtain ⟨d, hd, ed⟩ := h.d
  rw [ed, mn_day hd]
  exact ⟨_, Nat.min_le_left _ _, rfl⟩
theorem dys_inv {r : Nat → Int32} (h : inv r) : ∀ k, dysM r k = dysR r k ∧ inv (dysR r k) := by
  intro k
  induction k with
  | zero => exact ⟨rfl, h⟩
  | succ k ih =>
    obtain ⟨e, hv⟩ := ih
    have hd := day_inv hv
    refine ⟨?_, hd.2⟩
    show dayM (dysM r k) = dayR (dysR r k)
    rw [e, hd.1]
theorem dysM_R {r : Nat → Int32} (h : inv r) (k : Nat) : dysM r k = dysR r k := (dys_inv h k).1
/-! drawn days -/
theorem ush8_n (z : Int32) : ∃ n, n < 2 ^ 24 ∧ ush8 z = nI n := by
  have h := pk_ushr z 8 8 (by decide)
  refine ⟨z.toBitVec.toNat / 2 ^ 8, ?_, ?_⟩
  · have := z.toBitVec.isLt
    omega
  · apply Int32.toBitVec_inj.1
    apply BitVec.eq_of_toNat_eq
    unfold ush8
    rw [h, pk_tn (by have := z.toBitVec.isLt; omega)]
theorem rm16_rg (z : Int32) : rg 15 (rm16 (ush8 z)) := by
  obtain ⟨n, hn, e⟩ := ush8_n z
  unfold rm16
  rw [e, show (16 : Int32) = nI 16 from rfl, pk_rem (by omega) (by omega) (by omega)]
  exact ⟨n % 16, by omega, rfl⟩
theorem rm8_rg (z : Int32) : rg 7 (rm8 (ush8 z)) := by
  obtain ⟨n, hn, e⟩ := ush8_n z
  unfold rm8
  rw [e, show (8 : Int32) = nI 8 from rfl, pk_rem (by omega) (by omega) (by omega)]
  exact ⟨n % 8, by omega, rfl⟩
theorem drn_inv {r : Nat → Int32} (h : inv r) : inv (drnR r) := by
  unfold drnR
  have h1 := inv_upd2 (v := drw (drw (r 2))) (inv_updL (k := dy r % 6) (v := rm16 (ush8 (drw (r 2)))) (inv_upd2 (v := drw (r 2)) h) (by omega) (rm16_rg _))
  have hs : sz (upd (upd (upd r 2 (drw (r 2))) (4 + dy r % 6) (rm16 (ush8 (drw (r 2))))) 2 (drw (drw (r 2)))) = sz r := by rw [sz_upd (by omega), sz_upd (by omega), sz_upd (by omega)]
  unfold bagR
  split
  · rename_i hc
    rw [h1.r1] at hc
    obtain ⟨p, hp, e⟩ := in_of hc (by have := h1.n; omega)
    rw [e, nI_clamp (by have := h1.n; omega)]
    refine inv_updP h1 (by omega) ?_
    obtain ⟨q, hq, eq⟩ := (h1.p hp).b
    rw [eq]
    exact rg_in (bag_all q (by omega)) rfl
  · exact h1
theorem drs_inv {r : Nat → Int32} (h : inv r) : ∀ k, drsM r k = drsR r k ∧ inv (drsR r k) := by
  intro k
  induction k with
  | zero => exact ⟨rfl, h⟩
  | succ k ih =>
    obtain ⟨e, hv⟩ := ih
    have hd := day_inv (drn_inv hv)
    refine ⟨?_, hd.2⟩
    show dayM (drnR (drsM r k)) = dayR (drnR (drsR r k))
    rw [e, hd.1]
theorem bagR_e {n : Nat} {r r' : Nat → Int32} {p : Int32} (h : eqv n r r') (hn : r 1 = nI n) (h8 : n ≤ 8) : eqv n (bagR r p) (bagR r' p) := by
  unfold bagR
  rw [← h.hd (k := 1) (by omega)]
  by_cases hc : 0 ≤ p ∧ p < r 1
  · rw [if_pos hc, if_pos hc]
    rw [hn] at hc
    obtain ⟨q, hq, e⟩ := in_of hc (by omega)
    rw [e, nI_clamp (by omega), h.at hq (f := 4) (by omega)]
    exact h.updE _ _
  · rw [if_neg hc, if_neg hc]; exact h
theorem drnR_e {n : Nat} {r r' : Nat → Int32} (h : eqv n r r') (hn : r 1 = nI n) (h8 : n ≤ 8) : eqv n (drnR r) (drnR r') := by
  unfold drnR
  rw [← h.dyE, ← h.hd (k := 2) (by omega)]
  exact bagR_e (((h.updE _ _).updE _ _).updE _ _) (by rw [pk_un (by omega), pk_un (by omega), pk_un (by omega)]; exact hn) h8
theorem drnR_sz {r : Nat → Int32} : sz (drnR r) = sz r := by unfold sz; rw [drnR_01 (by omega)]
theorem drsR_1 {r : Nat → Int32} {k : Nat} : drsR r k 1 = r 1 := by
  induction k with
  | zero => rfl
  | succ k ih => exact (dayR_1 (by omega) (by omega)).trans ((drnR_01 (by omega)).trans ih)
theorem drsR_e {n k : Nat} {r r' : Nat → Int32} (h : eqv n r r') (hn : r 1 = nI n) (h8 : n ≤ 8) : eqv n (drsR r k) (drsR r' k) := by
  induction k with
  | zero => exact h
  | succ k ih =>
    have h1 : drsR r k 1 = nI n := drsR_1.trans hn
    exact dayR_e (drnR_e ih h1 h8) (sz_of ((drnR_01 (by omega)).trans h1) h8)
