/-! the class's state and the reference's -/
def relN (r r' : Nat → Int32) : Prop := inv r' ∧ eqv (sz r') r r'
def relF (f f' : Nat → Int32) : Prop := (∀ w, w < 7 → f w = f' (w + 1)) ∧ f' 0 = fsN f 7
def relT (t b m b' : Nat → Int32) : Prop := ∃ L, L ≤ 120 ∧ t 0 = nI L ∧ m 6 = nI L ∧ ∀ k, k < L → byE (b k) (b' k)
def relS (g h : St) : Prop := ∀ s, s < 4 → g (8 + s) 0 = h 8 s ∧ (∃ L, L ≤ 40 ∧ g (8 + s) 1 = nI L ∧ h 9 s = nI L) ∧ ∀ k, k < 40 → g (12 + s) k = h 10 (40 * s + k)
def Rel (g h : St) : Prop := relN (g 0) (h 0) ∧ (g 3 3 = h 3 3 ∧ (¬ g 3 3 = 0 → relN (g 2) (h 1))) ∧ relF (g 16) (h 4) ∧ relT (g 5) (g 6) (h 3) (h 5) ∧ relS g h
theorem iteE {α : Type} {c c' : Prop} [Decidable c] [Decidable c'] {a b a' b' : α} (hc : c ↔ c') (h1 : c → a = a') (h2 : ¬ c → b = b') : (if c then a else b) = (if c' then a' else b') := by
  by_cases h : c
  · rw [if_pos h, if_pos (hc.mp h)]; exact h1 h
  · rw [if_neg h, if_neg (fun z => h (hc.mpr z))]; exact h2 h
theorem iteR {c c' : Prop} [Decidable c] [Decidable c'] {a b a' b' : St} (hc : c ↔ c') (h1 : c → Rel a a') (h2 : ¬ c → Rel b b') : Rel (if c then a else b) (if c' then a' else b') := by
  by_cases h : c
  · rw [if_pos h, if_pos (hc.mp h)]; exact h1 h
  · rw [if_neg h, if_neg (fun z => h (hc.mpr z))]; exact h2 h
theorem relS_l {g h : St} {a : Nat} {A : Nat → Int32} (R : relS g h) (ha : a < 8 ∨ 15 < a) : relS (va_up g a A) h := fun s hs => by
  rw [va_up_ne _ _ (show 8 + s ≠ a by omega), va_up_ne _ _ (show 12 + s ≠ a by omega)]
  exact R s hs
theorem relS_r {g h : St} {a : Nat} {A : Nat → Int32} (R : relS g h) (ha : a < 8 ∨ 10 < a) : relS g (va_up h a A) := fun s hs => by
  rw [va_up_ne _ _ (show 8 ≠ a by omega), va_up_ne _ _ (show 9 ≠ a by omega), va_up_ne _ _ (show 10 ≠ a by omega)]
  exact R s hs
theorem rel_tr {g h : St} {ρ σ : Nat → Int32} (R : Rel g h) : Rel (va_up g 1 ρ) (va_up h 2 σ) := ⟨R.1, R.2.1, R.2.2.1, R.2.2.2.1, relS_l (relS_r R.2.2.2.2 (by omega)) (by omega)⟩
theorem rel_n {g h : St} {r r' : Nat → Int32} (R : Rel g h) (hN : relN r r') : Rel (va_up g 0 r) (va_up h 0 r') := ⟨hN, R.2.1, R.2.2.1, R.2.2.2.1, relS_l (relS_r R.2.2.2.2 (by omega)) (by omega)⟩
theorem fs_upd {f : Nat → Int32} {w : Nat} : ∀ n, fsN (upd f w (f w + 1)) n = if w < n then fsN f n + 1 else fsN f n := by
  intro n
  induction n with
  | zero => rw [if_neg (by omega)]; rfl
  | succ n ih =>
    show fsN (upd f w (f w + 1)) n + upd f w (f w + 1) n = if w < n + 1 then fsN f n + f n + 1 else fsN f n + f n
    rw [ih]
    by_cases e : w = n
    · subst e
      rw [pk_us, if_neg (by omega), if_pos (by omega), Int32.add_assoc]
    · rw [pk_un (fun z => e z.symm)]
      by_cases h : w < n
      · rw [if_pos h, if_pos (by omega), Int32.add_assoc, Int32.add_comm 1, ← Int32.add_assoc]
      · rw [if_neg h, if_neg (by omega)]
theorem relF_f {f f' : Nat → Int32} {w : Nat} (h : relF f f') (hw : w < 7) : relF (fndR f w) (mfnR f' w) := by
  refine ⟨fun v hv => ?_, ?_⟩
  · unfold fndR mfnR
    rw [pk_un (show v + 1 ≠ 0 by omega)]
    by_cases e : v = w
    · subst e; rw [pk_us, pk_us, h.1 v hv]
    · rw [pk_un e, pk_un (show v + 1 ≠ w + 1 by omega)]; exact h.1 v hv
  · unfold mfnR fndR
    rw [pk_us, fs_upd 7, if_pos hw, h.2]
theorem rel_f {g h : St} (w : Nat) (hw : w < 7) (R : Rel g h) : Rel (va_up g 16 (fndR (g 16) w)) (va_up h 4 (mfnR (h 4) w)) := ⟨R.1, R.2.1, relF_f R.2.2.1 hw, R.2.2.2.1, relS_l (relS_r R.2.2.2.2 (by omega)) (by omega)⟩
theorem fin2 {G H : St} (R : Rel G H) : ∀ u w, (∃ ρ : Nat → Int32, u = va_up G 1 ρ) → (∃ ρ : Nat → Int32, w = va_up H 2 ρ) → Rel u w := by
  intro u w hu hw
  obtain ⟨ρ, rfl⟩ := hu
  obtain ⟨σ, rfl⟩ := hw
  exact rel_tr R
theorem relN.upd {r r' : Nat → Int32} {k : Nat} {v : Int32} (h : relN r r') (hi : inv (upd r' k v)) (hk : k ≠ 1) : relN (upd r k v) (upd r' k v) := ⟨hi, by rw [sz_upd hk]; exact h.2.updE _ _⟩
theorem relN.sz' {r r' : Nat → Int32} (h : relN r r') : sz r = sz r' := h.2.szE
theorem relN.ok {r r' : Nat → Int32} (h : relN r r') : okR r := okR_e h.2.symm h.1.1
theorem relN.iv {r r' : Nat → Int32} (h : relN r r') : inv r := inv_e h.2.symm h.1
theorem relN.dys {r r' : Nat → Int32} (h : relN r r') (k : Nat) : relN (dysR r k) (dysM r' k) := by
  have hd := dys_inv h.1 k
  rw [hd.1]
  exact ⟨hd.2, by rw [dysR_sz]; exact dysR_e h.2 h.sz'⟩
theorem relN.drs {r r' : Nat → Int32} (h : relN r r') (k : Nat) : relN (drsR r k) (drsM r' k) := by
  have hd := drs_inv h.1 k
  have h1 : r 1 = nI (sz r') := (h.2.hd (by omega)).trans h.1.r1
  have hs : sz (drsR r' k) = sz r' := by unfold sz; rw [drsR_1]
  rw [hd.1]
  exact ⟨hd.2, by rw [hs]; exact drsR_e h.2 h1 h.1.n⟩
theorem relN.add {r r' : Nat → Int32} {k s : Int32} (h : relN r r') (h8 : sz r' < 8) (hk : rg 6 k) (hs : rg 1 s) : relN (addR r k s) (addR r' k s) := by
  refine ⟨add_inv h.1 h8 hk hs, ?_⟩
  rw [addR_sz h8, ← h.sz']
  exact addR_e (by rw [h.sz']; exact h.2)
theorem per_lt {r : Nat → Int32} {p : Int32} (h : inv r) (hp : 0 ≤ p ∧ p < r 1) : ∃ q, q < sz r ∧ q < 8 ∧ p.toNatClampNeg = q ∧ p = nI q := by
  rw [h.r1] at hp
  have hn := h.n
  obtain ⟨q, hq, e⟩ := in_of hp (by omega)
  exact ⟨q, hq, by omega, by rw [e]; exact nI_clamp (by omega), e⟩
theorem cl_le {x M : Int32} {n : Nat} (h : 0 ≤ x ∧ x ≤ M) (hM : M.toInt = n) (hn : n < 2 ^ 31) : ∃ j, j ≤ n ∧ x.toNatClampNeg = j ∧ x = nI j := by
  obtain ⟨j, hj, e⟩ := in_le h hM
  exact ⟨j, hj, by rw [e]; exact nI_clamp (by omega), e⟩
theorem full_iff {n : Nat} (hn : n ≤ 8) : 8 ≤ nI n ↔ nI n = 8 := by
  constructor
  · intro h
    have : n = 8 := by have := full_t h (by omega); omega
    subst this; rfl
  · intro h
    have : n = 8 := (nI_eq (a := n) (b := 8) (by omega) (by omega)).mp h
    subst this; decide
theorem n1_iff {m : Int32} (k : Nat) (hk : k < 2 ^ 30) : (0 ≤ m - 1 ∧ m - 1 ≤ nI k) ↔ (1 ≤ m ∧ m ≤ nI (k + 1)) := by
  constructor
  · intro h
    obtain ⟨j, h1, h2, rfl⟩ := in_n1 h (nI_toInt (by omega))
    exact ⟨nI_le (a := 1) h1 (by omega), nI_le h2 (by omega)⟩
  · intro h
    obtain ⟨j, ⟨h1, h2⟩, rfl⟩ := in_1le h (nI_toInt (by omega))
    have e : nI j - 1 = nI (j - 1) := pk_sub (b := 1) h1
    rw [e]
    exact ⟨nI_pos' (by omega), nI_le (by omega) (by omega)⟩
theorem left_iff {a j : Nat} (ha : a ≤ 99999) (hj : j ≤ 99999) : ¬ nI j ≤ 99999 - nI a ↔ 99999 < nI a + nI j := by
  rw [show (99999 : Int32) = nI 99999 from rfl, pk_sub ha, nI_add, nI_leI (by omega) (by omega), nI_ltI (by omega) (by omega)]
  omega
def mFr (j : Nat) : Int32 := mOf j
theorem mOf_mF : ∀ j, j < 6 → (mOf j).toInt = mF j := by decide +kernel
theorem chg_iff {w v : Int32} : ((0 ≤ w ∧ w ≤ 5) ∧ (0 ≤ v ∧ v ≤ mOf w.toNatClampNeg)) ↔ ((w = 0 ∧ 0 ≤ v ∧ v ≤ 6) ∨ (w = 1 ∧ 0 ≤ v ∧ v ≤ 1) ∨ (w = 2 ∧ 0 ≤ v ∧ v ≤ 15) ∨ (w = 3 ∧ 0 ≤ v ∧ v ≤ 99) ∨ (w = 4 ∧ 0 ≤ v ∧ v ≤ 9) ∨ (w = 5 ∧ 0 ≤ v ∧ v ≤ 9999)) := by
  constructor
  · intro ⟨hw, hv⟩
    obtain ⟨j, hj, ej, e⟩ := cl_le hw (n := 5) rfl (by omega)
    rw [ej] at hv
    subst e
    rcases (show j = 0 ∨ j = 1 ∨ j = 2 ∨ j = 3 ∨ j = 4 ∨ j = 5 by omega) with rfl | rfl | rfl | rfl | rfl | rfl
    · exact Or.inl ⟨rfl, hv⟩
    · exact Or.inr (Or.inl ⟨rfl, hv⟩)
    · exact Or.inr (Or.inr (Or.inl ⟨rfl, hv⟩))
    · exact Or.inr (Or.inr (Or.inr (Or.inl ⟨rfl, hv⟩)))
    · exact Or.inr (Or.inr (Or.inr (Or.inr (Or.inl ⟨rfl, hv⟩))))
    · exact Or.inr (Or.inr (Or.inr (Or.inr (Or.inr ⟨rfl, hv⟩))))
  · intro h
    rcases h with ⟨rfl, h⟩ | ⟨rfl, h⟩ | ⟨rfl, h⟩ | ⟨rfl, h⟩ | ⟨rfl, h⟩ | ⟨rfl, h⟩
    · exact ⟨by decide, h⟩
    · exact ⟨by decide, h⟩
    · exact ⟨by decide, h⟩
    · exact ⟨by decide, h⟩
    · exact ⟨by decide, h⟩
    · exact ⟨by decide, h⟩
theorem fore_iff {w : Int32} : (w = 2 ∨ w = 3 ∨ w = 5 ∨ w = 7) ↔ ((2 ≤ w ∧ w ≤ 3) ∨ w = 5 ∨ w = 7) := by
  constructor
  · intro h
    rcases h with rfl | rfl | h
    · exact Or.inl (by decide)
    · exact Or.inl (by decide)
    · exact Or.inr h
  · intro h
    rcases h with ⟨h1, h2⟩ | h
    · obtain ⟨j, hj, ej, e⟩ := cl_le (x := w) (M := 3) ⟨Int32.le_trans (by decide) h1, h2⟩ (n := 3) rfl (by omega)
      subst e
      rcases (show j = 0 ∨ j = 1 ∨ j = 2 ∨ j = 3 by omega) with rfl | rfl | rfl | rfl
      · exact absurd h1 (by decide)
      · exact absurd h1 (by decide)
      · exact Or.inl rfl
      · exact Or.inr (Or.inl rfl)
    · exact Or.inr (Or.inr h)
theorem kapN_e {V V' : Nat → Int32} {a : Int32} (h : ∀ i, V i = V' i) (m : Nat) : kapN V a m = kapN V' a m := by
  rw [show V = V' from funext h]
theorem lo_rel {r r' : Nat → Int32} (h : relN r r') (m : Nat) : fO (fun a_ s_ => decide (bc (nI s_) = nI a_) && kapN (fun i_ => sumN (dysR (outN (nI s_) r (sz r)) i_) (sz r)) (sumN r (sz r)) m) (2 ^ sz r) (sz r + 1) 0 = lvB (fun s_ => decide (sumN (dysM (outN (nI s_) r' (sz r')) m) (sz (dysM (outN (nI s_) r' (sz r')) m)) = sumN r' (sz r'))) (2 ^ sz r') (2 ^ sz r') := by
  have e1 : (fun a_ s_ => decide (bc (nI s_) = nI a_) && kapN (fun i_ => sumN (dysR (outN (nI s_) r (sz r)) i_) (sz r)) (sumN r (sz r)) m) = (fun a_ s_ => decide (bc (nI s_) = nI a_) && (fun s_ => decide (sumN (dysM (outN (nI s_) r' (sz r')) m) (sz (dysM (outN (nI s_) r' (sz r')) m)) = sumN r' (sz r'))) s_) := by
    funext a_ s_
    congr 1
    have ho := out_inv (s := nI s_) h.1 (sz r')
    show _ = decide (sumN (dysM (outN (nI s_) r' (sz r')) m) (sz (dysM (outN (nI s_) r' (sz r')) m)) = sumN r' (sz r'))
    rw [dysM_R ho, dysR_sz, outN_sz, ← kap_eq h.1, h.sz', sumN_e h.2 (Nat.le_refl _)]
    refine kapN_e (fun i => ?_) m
    exact sumN_e (dysR_e (outN_e h.2 (Nat.le_refl _)) (by rw [outN_sz]; exact h.sz')) (Nat.le_refl _)
  rw [e1, h.sz', lo_eq h.1.n]
theorem app_at {b : Int32} {L m : Nat} {r : Nat → Int32} : ∀ j k, appN b L m r j k = if L ≤ k ∧ k < L + j then by8 b (m - 1 - (k - L)) else r k := by
  intro j k
  induction j with
  | zero => rw [if_neg (by omega)]; rfl
  | succ j ih =>
    show upd (appN b L m r j) (L + j) (by8 b (m - 1 - j)) k = _
    by_cases e : k = L + j
    · subst e; rw [pk_us, if_pos (by omega), show L + j - L = j by omega]
    · rw [pk_un e, ih]
      by_cases h : L ≤ k ∧ k < L + j
      · rw [if_pos h, if_pos (by omega)]
      · rw [if_neg h, if_neg (by omega)]
theorem apM_at {b : Int32} {L m : Nat} {r : Nat → Int32} : ∀ j k, appM b L m r j k = if L ≤ k ∧ k < L + j then by8M b (m - 1 - (k - L)) else r k := by
  intro j k
  induction j with
  | zero => rw [if_neg (by omega)]; rfl
  | succ j ih =>
    show upd (appM b L m r j) (L + j) (by8M b (m - 1 - j)) k = _
    by_cases e : k = L + j
    · subst e; rw [pk_us, if_pos (by omega), show L + j - L = j by omega]
    · rw [pk_un e, ih]
      by_cases h : L ≤ k ∧ k < L + j
      · rw [if_pos h, if_pos (by omega)]
      · rw [if_neg h, if_neg (by omega)]
theorem byE_x (x : Int32) : byE (x.toInt8.toInt32.toInt8.toInt32) (x &&& 255) := by
  have h1 : x.toInt8.toInt32.toInt8.toInt32 = x.toInt8.toInt32 := by simp
  have hy : x &&& 255 = nI (x.toBitVec.toNat % 2 ^ 8) := pk_and x 8 (by decide)
  have hx : (x.toInt8.toInt32).toInt = x.toInt.bmod 256 := by
    rw [Int8.toInt_toInt32, Int32.toInt_toInt8]
  have ht : x.toInt = (x.toBitVec.toNat : Int).bmod (2 ^ 32) := BitVec.toInt_eq_toNat_bmod _
  have hz : (x.toInt8.toInt32).toInt = (x.toBitVec.toNat : Int).bmod 256 := by
    rw [hx, ht]
    exact Int.bmod_bmod_of_dvd (by decide)
  rw [h1, hy]
  have hb : (x.toBitVec.toNat : Int).bmod 256 = if x.toBitVec.toNat % 256 < 128 then ((x.toBitVec.toNat % 256 : Nat) : Int) else ((x.toBitVec.toNat % 256 : Nat) : Int) - 256 := by
    unfold Int.bmod
    by_cases hc : x.toBitVec.toNat % 256 < 128
    · rw [if_pos hc, if_pos (by omega)]; omega
    · rw [if_neg hc, if_neg (by omega)]; omega
  have hlt : x.toBitVec.toNat % 2 ^ 8 < 2 ^ 31 := by omega
  by_cases hc : x.toBitVec.toNat % 256 < 128
  · refine Or.inl ⟨?_, ?_⟩
    · apply Int32.toInt_inj.mp
      rw [hz, hb, if_pos hc, nI_toInt hlt]
    · rw [Int32.lt_iff_toInt_lt, hz, hb, if_pos hc]
      show ¬ _ < (0 : Int)
      omega
  · refine Or.inr ⟨?_, ?_⟩
    · rw [Int32.lt_iff_toInt_lt, hz, hb, if_neg hc]
      show _ < (0 : Int)
      omega
    · exact nI_le (a := 128) (by omega) hlt
theorem zer_at {r : Nat → Int32} : ∀ n k, zerN r n k = if k < n then 0 else r k := by
  intro n k
  induction n with
  | zero => rw [if_neg (by omega)]; rfl
  | succ n ih =>
    show upd (zerN r n) n 0 k = _
    by_cases e : k = n
    · subst e; rw [pk_us, if_pos (by omega)]
    · rw [pk_un e, ih]
      by_cases h : k < n
      · rw [if_pos h, if_pos (by omega)]
      · rw [if_neg h, if_neg (by omega)]
theorem zeM_at {r : Nat → Int32} {s : Nat} : ∀ n k, zerM r s n k = if 40 * s ≤ k ∧ k < 40 * s + n then 0 else r k := by
  intro n k
  induction n with
  | zero => rw [if_neg (by omega)]; rfl
  | succ n ih =>
    show upd (zerM r s n) (40 * s + n) 0 k = _
    by_cases e : k = 40 * s + n
    · subst e; rw [pk_us, if_pos (by omega)]
    · rw [pk_un e, ih]
      by_cases h : 40 * s ≤ k ∧ k < 40 * s + n
      · rw [if_pos h, if_pos (by omega)]
      · rw [if_neg h, if_neg (by omega)]
theorem gvF_e {nu nu' : Nat → Int32} : ∀ k i, (∀ j, i ≤ j → j < i + k → nu j = nu' j) → gvF nu k i = gvF nu' k i := by
  intro k
  induction k with
  | zero => intro i _; rfl
  | succ k ih =>
    intro i h
    unfold gvF
    rw [h i (by omega) (by omega), ih (i + 1) (fun j h1 h2 => h j (by omega) (by omega))]
theorem gvF_b {nu : Nat → Int32} : ∀ k i, gvF nu k i ≤ i + k ∧ ∀ j, i ≤ j → j < gvF nu k i → 0 ≤ nu j ∧ nu j ≤ 99 := by
  intro k
  induction k with
  | zero => intro i; exact ⟨Nat.le_refl _, fun j h1 h2 => by have : j < i := h2; omega⟩
  | succ k ih =>
    intro i
    unfold gvF
    by_cases h : 0 ≤ nu i ∧ nu i ≤ 99
    · rw [if_pos h]
      obtain ⟨h1, h2⟩ := ih (i + 1)
      refine ⟨by omega, fun j h3 h4 => ?_⟩
      by_cases e : j = i
      · subst e; exact h
      · exact h2 j (by omega) h4
    · rw [if_neg h]; exact ⟨by omega, fun j h1 h2 => by omega⟩
theorem gvN_sz {nu r : Nat → Int32} {i : Nat} : sz (gvN nu r i) = sz r := by unfold sz; rw [gvN_hd (by omega)]
theorem gvN_inv {nu r : Nat → Int32} (h : inv r) : ∀ i, (∀ j, j < i → 0 ≤ nu j ∧ nu j ≤ 99) → inv (gvN nu r i) := by
  intro i
  induction i with
  | zero => intro _; exact h
  | succ i ih => intro hn; exact inv_updP (ih (fun j hj => hn j (by omega))) (by omega) (rg_in (hn i (by omega)) rfl)
theorem gvN_e {n : Nat} {nu nu' r r' : Nat → Int32} (h : eqv n r r') : ∀ i, (∀ j, j < i → nu j = nu' j) → eqv n (gvN nu r i) (gvN nu' r' i) := by
  intro i
  induction i with
  | zero => intro _; exact h
  | succ i ih =>
    intro hn
    unfold gvN
    rw [hn i (by omega)]
    exact (ih (fun j hj => hn j (by omega))).updE _ _
theorem c68_e {r ρ : Nat → Int32} {n : Nat} (hn : n ≤ 8) : eqv n (c68 r ρ) r := fun k hk => c68_hd (by omega)
theorem relN.bec {r r' ρ σ : Nat → Int32} (h : relN r r') : relN (becR ρ r) (c68 r' σ) := by
  have hc : eqv (sz r') r' (c68 r' σ) := (c68_e h.1.n).symm
  have hs : sz (c68 r' σ) = sz r' := hc.szE.symm
  refine ⟨inv_e hc h.1, ?_⟩
  rw [hs]
  have h1 : eqv (sz r') (becR ρ r) r := by have := becR_e (r := ρ) (r' := r); rw [h.sz'] at this; exact this
  exact (h1.trans h.2).trans hc
