/-! the class's cells: 0 TunnelPeace, 1 Forecast, 2 Tape, 3 its bytes, 4 the sheets' row, 5..8 Sheets, 9..12 their numbers, 13 findings, 14+12t.. Tunnel t: itself, list, spots, people, persons -/
def cSec (k : Nat) : Nat := if k < 14 then 3 + k else (k - 14) / 12
def tIdx (j : Nat) : Nat := if j = 0 then 0 else if j = 1 then 3 else if j = 2 then 2 else if j = 3 then 1 else 100 + j
def qIdx (q j : Nat) : Nat := if q = 0 then tIdx j else if q = 1 then 4 + j else if q = 2 then 10 + j else if q = 3 then 200 + j else 20 + 6 * (q - 4) + j
def cIdx (k j : Nat) : Nat := if k < 14 then j else qIdx ((k - 14) % 12) j
def qE (Z : ZT) (k q : Nat) (r : Nat → Int32) : va_E :=
  if q = 0 then .inr (4, [.int (r 0), .int (r 1), .int (r 2), .int (r 3), .ref (Z.2.1 (k + 1)), .ref (Z.2.1 (k + 3)), .ref (Z.2.1 (k + 2))])
  else if q = 1 then .inl (Z.2.2.1 0, 6, .inl (tr 6 r))
  else if q = 2 then .inl (Z.2.2.1 0, 10, .inl (tr 10 r))
  else if q = 3 then .inl (Z.2.2.1 2, 8, .inr (.inr (.inr (.inr (fun i => if i < 8 then some (Z.2.1 (k + 1 + i)) else none)))))
  else .inr (1, [.int (r 0), .int (r 1), .int (r 2), .int (r 3), .int (r 4), .int (r 5)])
def cE (Z : ZT) (k : Nat) (r : Nat → Int32) : va_E :=
  if k = 0 then .inr (5, [.ref (Z.2.1 14), .ref (Z.2.1 26), .ref (Z.2.1 38), .int (r 3), .ref (Z.2.1 1), .ref (Z.2.1 2), .ref (Z.2.1 4), .ref (Z.2.1 13)])
  else if k = 1 then .inr (0, [.ref (Z.2.1 14), .ref (Z.2.1 26)])
  else if k = 2 then .inr (3, [.int (r 0), .ref (Z.2.1 3), .int (r 2), .int (r 3), .int (r 4), .int (r 5)])
  else if k = 3 then .inl (Z.2.2.1 1, 120, .inl (tr 120 r))
  else if k = 4 then .inl (Z.2.2.1 3, 4, .inr (.inr (.inr (.inr (fun i => if i < 4 then some (Z.2.1 (5 + i)) else none)))))
  else if k < 9 then .inr (2, [.int (r 0), .int (r 1), .ref (Z.2.1 (k + 4))])
  else if k < 13 then .inl (Z.2.2.1 0, 40, .inl (tr 40 r))
  else if k < 14 then .inl (Z.2.2.1 0, 7, .inl (tr 7 r))
  else qE Z k ((k - 14) % 12) r
def yC : YT := (50, cE, cSec, cIdx)
theorem e_TP (Z : ZT) (r : Nat → Int32) : cE Z 0 r = .inr (5, [.ref (Z.2.1 14), .ref (Z.2.1 26), .ref (Z.2.1 38), .int (r 3), .ref (Z.2.1 1), .ref (Z.2.1 2), .ref (Z.2.1 4), .ref (Z.2.1 13)]) := rfl
theorem e_Fo (Z : ZT) (r : Nat → Int32) : cE Z 1 r = .inr (0, [.ref (Z.2.1 14), .ref (Z.2.1 26)]) := rfl
theorem e_Ta (Z : ZT) (r : Nat → Int32) : cE Z 2 r = .inr (3, [.int (r 0), .ref (Z.2.1 3), .int (r 2), .int (r 3), .int (r 4), .int (r 5)]) := rfl
theorem e_by (Z : ZT) (r : Nat → Int32) : cE Z 3 r = .inl (Z.2.2.1 1, 120, .inl (tr 120 r)) := rfl
theorem e_ss (Z : ZT) (r : Nat → Int32) : cE Z 4 r = .inl (Z.2.2.1 3, 4, .inr (.inr (.inr (.inr (fun i => if i < 4 then some (Z.2.1 (5 + i)) else none))))) := rfl
theorem e_Sh (Z : ZT) {s : Nat} (hs : s < 4) (r : Nat → Int32) : cE Z (5 + s) r = .inr (2, [.int (r 0), .int (r 1), .ref (Z.2.1 (9 + s))]) := by
  rcases (show s = 0 ∨ s = 1 ∨ s = 2 ∨ s = 3 by omega) with rfl | rfl | rfl | rfl <;> rfl
theorem e_nu (Z : ZT) {s : Nat} (hs : s < 4) (r : Nat → Int32) : cE Z (9 + s) r = .inl (Z.2.2.1 0, 40, .inl (tr 40 r)) := by
  rcases (show s = 0 ∨ s = 1 ∨ s = 2 ∨ s = 3 by omega) with rfl | rfl | rfl | rfl <;> rfl
theorem e_fi (Z : ZT) (r : Nat → Int32) : cE Z 13 r = .inl (Z.2.2.1 0, 7, .inl (tr 7 r)) := rfl
theorem e_q (Z : ZT) {k : Nat} (hk : 14 ≤ k) (r : Nat → Int32) : cE Z k r = qE Z k ((k - 14) % 12) r := by
  unfold cE
  rw [if_neg (by omega), if_neg (by omega), if_neg (by omega), if_neg (by omega), if_neg (by omega), if_neg (by omega), if_neg (by omega), if_neg (by omega)]
theorem e_Tu (Z : ZT) (t : Nat) (r : Nat → Int32) : cE Z (14 + 12 * t) r = .inr (4, [.int (r 0), .int (r 1), .int (r 2), .int (r 3), .ref (Z.2.1 (15 + 12 * t)), .ref (Z.2.1 (17 + 12 * t)), .ref (Z.2.1 (16 + 12 * t))]) := by
  rw [e_q Z (by omega), show (14 + 12 * t - 14) % 12 = 0 by omega, show 15 + 12 * t = 14 + 12 * t + 1 by omega, show 17 + 12 * t = 14 + 12 * t + 3 by omega, show 16 + 12 * t = 14 + 12 * t + 2 by omega]
  rfl
theorem e_li (Z : ZT) (t : Nat) (r : Nat → Int32) : cE Z (15 + 12 * t) r = .inl (Z.2.2.1 0, 6, .inl (tr 6 r)) := by
  rw [e_q Z (by omega), show (15 + 12 * t - 14) % 12 = 1 by omega]
  rfl
theorem e_sp (Z : ZT) (t : Nat) (r : Nat → Int32) : cE Z (16 + 12 * t) r = .inl (Z.2.2.1 0, 10, .inl (tr 10 r)) := by
  rw [e_q Z (by omega), show (16 + 12 * t - 14) % 12 = 2 by omega]
  rfl
theorem e_pp (Z : ZT) (t : Nat) (r : Nat → Int32) : cE Z (17 + 12 * t) r = .inl (Z.2.2.1 2, 8, .inr (.inr (.inr (.inr (fun i => if i < 8 then some (Z.2.1 (18 + 12 * t + i)) else none))))) := by
  rw [e_q Z (by omega), show (17 + 12 * t - 14) % 12 = 3 by omega, show 18 + 12 * t = 17 + 12 * t + 1 by omega]
  rfl
theorem e_Pe (Z : ZT) (t : Nat) {i : Nat} (hi : i < 8) (r : Nat → Int32) : cE Z (18 + 12 * t + i) r = .inr (1, [.int (r 0), .int (r 1), .int (r 2), .int (r 3), .int (r 4), .int (r 5)]) := by
  rw [e_q Z (by omega), show (18 + 12 * t + i - 14) % 12 = 4 + i by omega]
  unfold qE
  rw [if_neg (by omega), if_neg (by omega), if_neg (by omega), if_neg (by omega)]
theorem sec_lo {k : Nat} (h : k < 14) : cSec k = 3 + k := if_pos h
theorem idx_lo {k : Nat} (h : k < 14) (j : Nat) : cIdx k j = j := if_pos h
theorem sec_hi {t q : Nat} (h : q < 12) : cSec (14 + 12 * t + q) = t := by unfold cSec; rw [if_neg (by omega)]; omega
theorem idx_hi {t q : Nat} (h : q < 12) (j : Nat) : cIdx (14 + 12 * t + q) j = qIdx q j := by unfold cIdx; rw [if_neg (by omega), show (14 + 12 * t + q - 14) % 12 = q by omega]
theorem sec_Tu (t : Nat) : cSec (14 + 12 * t) = t := sec_hi (q := 0) (by omega)
theorem idx_Tu (t j : Nat) : cIdx (14 + 12 * t) j = tIdx j := idx_hi (q := 0) (by omega) j
theorem sec_li (t : Nat) : cSec (15 + 12 * t) = t := by rw [show 15 + 12 * t = 14 + 12 * t + 1 by omega]; exact sec_hi (by omega)
theorem idx_li (t j : Nat) : cIdx (15 + 12 * t) j = 4 + j := by rw [show 15 + 12 * t = 14 + 12 * t + 1 by omega, idx_hi (by omega)]; rfl
theorem sec_sp (t : Nat) : cSec (16 + 12 * t) = t := by rw [show 16 + 12 * t = 14 + 12 * t + 2 by omega]; exact sec_hi (by omega)
theorem idx_sp (t j : Nat) : cIdx (16 + 12 * t) j = 10 + j := by rw [show 16 + 12 * t = 14 + 12 * t + 2 by omega, idx_hi (by omega)]; rfl
theorem sec_Pe (t : Nat) {i : Nat} (hi : i < 8) : cSec (18 + 12 * t + i) = t := by rw [show 18 + 12 * t + i = 14 + 12 * t + (4 + i) by omega]; exact sec_hi (by omega)
theorem idx_Pe (t : Nat) {i : Nat} (hi : i < 8) (j : Nat) : cIdx (18 + 12 * t + i) j = 20 + 6 * i + j := by
  rw [show 18 + 12 * t + i = 14 + 12 * t + (4 + i) by omega, idx_hi (by omega)]
  unfold qIdx
  rw [if_neg (by omega), if_neg (by omega), if_neg (by omega), if_neg (by omega), show 4 + i - 4 = i by omega]
def qLen (q : Nat) : Nat := if q = 0 then 4 else if q = 1 then 6 else if q = 2 then 10 else if q = 3 then 0 else 6
theorem tr_congr {n : Nat} {f h : Nat → Int32} (e : ∀ j, j < n → f j = h j) : tr n f = tr n h := by
  funext j
  by_cases hj : j < n
  · simp [tr, hj, e j hj]
  · simp [tr, hj]
theorem qE_congr {Z : ZT} {k q : Nat} {r r' : Nat → Int32} (h : ∀ j, j < qLen q → r j = r' j) : qE Z k q r = qE Z k q r' := by
  unfold qE
  unfold qLen at h
  by_cases h0 : q = 0
  · rw [if_pos h0] at h
    rw [if_pos h0, if_pos h0, h 0 (by omega), h 1 (by omega), h 2 (by omega), h 3 (by omega)]
  · rw [if_neg h0] at h
    rw [if_neg h0, if_neg h0]
    by_cases h1 : q = 1
    · rw [if_pos h1] at h
      rw [if_pos h1, if_pos h1, tr_congr h]
    · rw [if_neg h1] at h
      rw [if_neg h1, if_neg h1]
      by_cases h2 : q = 2
      · rw [if_pos h2] at h
        rw [if_pos h2, if_pos h2, tr_congr h]
      · rw [if_neg h2] at h
        rw [if_neg h2, if_neg h2]
        by_cases h3 : q = 3
        · rw [if_pos h3, if_pos h3]
        · rw [if_neg h3] at h
          rw [if_neg h3, if_neg h3, h 0 (by omega), h 1 (by omega), h 2 (by omega), h 3 (by omega), h 4 (by omega), h 5 (by omega)]
theorem tIdx_inj {a b : Nat} (h : tIdx a = tIdx b) : a = b := by
  unfold tIdx at h
  repeat' split at h
  all_goals omega
theorem tIdx_lt {a : Nat} (h : a < 4) : tIdx a < 4 := by
  unfold tIdx
  repeat' split
  all_goals omega
theorem qIdx_inj {q a b : Nat} (h : qIdx q a = qIdx q b) : a = b := by
  unfold qIdx at h
  by_cases h0 : q = 0
  · rw [if_pos h0, if_pos h0] at h; exact tIdx_inj h
  · rw [if_neg h0, if_neg h0] at h
    repeat' split at h
    all_goals omega
theorem qIdx_ne {q q' j j' : Nat} (hq : q < 12) (hq' : q' < 12) (hne : q' ≠ q) (hj : j < qLen q) (hj' : j' < qLen q') : qIdx q' j' ≠ qIdx q j := by
  unfold qLen at hj hj'
  unfold qIdx
  by_cases h0 : q = 0
  · subst h0
    rw [if_pos rfl] at hj
    rw [if_pos rfl]
    have := tIdx_lt hj
    repeat' split
    all_goals (repeat' split at hj')
    all_goals omega
  · rw [if_neg h0] at hj
    rw [if_neg h0]
    by_cases h1 : q' = 0
    · rw [if_pos h1] at hj'
      rw [if_pos h1]
      have := tIdx_lt hj'
      repeat' split
      all_goals (repeat' split at hj)
      all_goals omega
    · rw [if_neg h1] at hj'
      rw [if_neg h1]
      repeat' split
      all_goals (repeat' split at hj)
      all_goals (repeat' split at hj')
      all_goals omega
theorem up_other {g : St} {t t' n : Nat} {v : Int32} (h : t' ≠ t) : up g t n v t' = g t' := va_up_ne _ _ h
theorem up_self {g : St} {t n : Nat} {v : Int32} : up g t n v t = upd (g t) n v := va_up_self _ _ _
theorem sOk_lo {k j : Nat} (hk : k < 14) : sOk yC k j := by
  intro Z g v k' hk'
  show cE Z k' (sr yC (up g (cSec k) (cIdx k j) v) k') = if k' = k then cE Z k (upd (sr yC g k) j v) else cE Z k' (sr yC g k')
  rw [sec_lo hk, idx_lo hk]
  by_cases h : k' = k
  · subst h
    rw [if_pos rfl]
    congr 1
    funext i
    show up g (3 + k') j v (cSec k') (cIdx k' i) = upd (fun i => g (cSec k') (cIdx k' i)) j v i
    rw [sec_lo hk, up_self]
    simp only [upd, idx_lo hk]
  · rw [if_neg h]
    congr 1
    funext i
    show up g (3 + k) j v (cSec k') (cIdx k' i) = g (cSec k') (cIdx k' i)
    rw [up_other]
    by_cases h14 : k' < 14
    · rw [sec_lo h14]; omega
    · have hk50 : k' < 50 := hk'
      unfold cSec; rw [if_neg h14]; omega
theorem sOk_hi {t q j : Nat} (ht : t < 3) (hq : q < 12) (hj : j < qLen q) : sOk yC (14 + 12 * t + q) j := by
  intro Z g v k' hk'
  show cE Z k' (sr yC (up g (cSec (14 + 12 * t + q)) (cIdx (14 + 12 * t + q) j) v) k') = if k' = 14 + 12 * t + q then cE Z (14 + 12 * t + q) (upd (sr yC g (14 + 12 * t + q)) j v) else cE Z k' (sr yC g k')
  rw [sec_hi hq, idx_hi hq]
  by_cases h : k' = 14 + 12 * t + q
  · subst h
    rw [if_pos rfl]
    congr 1
    funext i
    show up g t (qIdx q j) v (cSec (14 + 12 * t + q)) (cIdx (14 + 12 * t + q) i) = upd (fun i => g (cSec (14 + 12 * t + q)) (cIdx (14 + 12 * t + q) i)) j v i
    rw [sec_hi hq, up_self, idx_hi hq]
    simp only [upd, idx_hi hq]
    by_cases hi : i = j
    · subst hi; rw [if_pos rfl, if_pos rfl]
    · rw [if_neg hi, if_neg (fun e => hi (qIdx_inj e))]
  · rw [if_neg h]
    by_cases h14 : k' < 14
    · congr 1
      funext i
      show up g t (qIdx q j) v (cSec k') (cIdx k' i) = g (cSec k') (cIdx k' i)
      rw [up_other]
      rw [sec_lo h14]; omega
    · rw [e_q Z (by omega), e_q Z (by omega)]
      apply qE_congr
      intro i hi
      show up g t (qIdx q j) v (cSec k') (cIdx k' i) = g (cSec k') (cIdx k' i)
      by_cases hs : cSec k' = t
      · rw [hs, up_self]
        have hs2 : (k' - 14) / 12 = t := by unfold cSec at hs; rwa [if_neg h14] at hs
        have hne : cIdx k' i ≠ qIdx q j := by
          unfold cIdx
          rw [if_neg h14]
          exact qIdx_ne hq (by omega) (by omega) hj hi
        simp only [upd, if_neg hne]
      · rw [up_other hs]
theorem ok_Tu {t j : Nat} (ht : t < 3) (hj : j < 4) : sOk yC (14 + 12 * t) j := sOk_hi (q := 0) ht (by omega) hj
theorem ok_li {t j : Nat} (ht : t < 3) (hj : j < 6) : sOk yC (15 + 12 * t) j := by rw [show 15 + 12 * t = 14 + 12 * t + 1 by omega]; exact sOk_hi (q := 1) ht (by omega) hj
theorem ok_sp {t j : Nat} (ht : t < 3) (hj : j < 10) : sOk yC (16 + 12 * t) j := by rw [show 16 + 12 * t = 14 + 12 * t + 2 by omega]; exact sOk_hi (q := 2) ht (by omega) hj
theorem ok_Pe {t i j : Nat} (ht : t < 3) (hi : i < 8) (hj : j < 6) : sOk yC (18 + 12 * t + i) j := by
  rw [show 18 + 12 * t + i = 14 + 12 * t + (4 + i) by omega]
  refine sOk_hi (q := 4 + i) ht (by omega) ?_
  unfold qLen
  rw [if_neg (by omega), if_neg (by omega), if_neg (by omega), if_neg (by omega)]
  exact hj
/-! the reference's cells: 0 itself, 1 now, 2 kept, 3 aside, 4 found, 5 tape, 6 kindNames, 7 items, 8 widths, 9 sizes, 10 numbers, 11 moved -/
def mSec (k : Nat) : Nat := if k = 0 then 3 else if k < 4 then k - 1 else k
def mLen (k : Nat) : Nat := if k < 4 then 68 else if k = 4 then 8 else if k = 5 then 120 else if k = 7 then 720 else if k < 10 then 4 else if k = 10 then 160 else 40
def mTx (i : Nat) : Nat := ([8, 2, 3, 4, 5, 6, 7] : List Nat).getD i 0
def mE (Z : ZT) (k : Nat) (r : Nat → Int32) : va_E :=
  if k = 0 then .inr (6, [.ref (Z.2.1 1), .ref (Z.2.1 2), .ref (Z.2.1 3), .int (r 3), .ref (Z.2.1 4), .ref (Z.2.1 5), .int (r 6), .int (r 7), .int (r 8), .int (r 9), .int (r 10), .int (r 11), .ref (Z.2.1 6), .ref (Z.2.1 7), .int (r 14), .int (r 15), .ref (Z.2.1 8), .ref (Z.2.1 9), .ref (Z.2.1 10), .ref (Z.2.1 11)])
  else if k = 6 then .inl (Z.2.2.1 4, 7, .inr (.inr (.inr (.inr (fun i => if i < 7 then some (Z.2.2.2.2.1 (mTx i)) else none)))))
  else .inl (Z.2.2.1 0, mLen k, .inl (tr (mLen k) r))
def yM : YT := (12, mE, mSec, fun _ j => j)
theorem m_0 (Z : ZT) (r : Nat → Int32) : mE Z 0 r = .inr (6, [.ref (Z.2.1 1), .ref (Z.2.1 2), .ref (Z.2.1 3), .int (r 3), .ref (Z.2.1 4), .ref (Z.2.1 5), .int (r 6), .int (r 7), .int (r 8), .int (r 9), .int (r 10), .int (r 11), .ref (Z.2.1 6), .ref (Z.2.1 7), .int (r 14), .int (r 15), .ref (Z.2.1 8), .ref (Z.2.1 9), .ref (Z.2.1 10), .ref (Z.2.1 11)]) := rfl
theorem m_6 (Z : ZT) (r : Nat → Int32) : mE Z 6 r = .inl (Z.2.2.1 4, 7, .inr (.inr (.inr (.inr (fun i => if i < 7 then some (Z.2.2.2.2.1 (mTx i)) else none))))) := rfl
theorem m_a (Z : ZT) {k : Nat} (h0 : k ≠ 0) (h6 : k ≠ 6) (r : Nat → Int32) : mE Z k r = .inl (Z.2.2.1 0, mLen k, .inl (tr (mLen k) r)) := by
  unfold mE
  rw [if_neg h0, if_neg h6]
theorem mSec_inj {a b : Nat} (h : mSec a = mSec b) : a = b := by
  unfold mSec at h
  repeat' split at h
  all_goals omega
theorem sOkM (k j : Nat) : sOk yM k j := by
  intro Z g v k' hk'
  show mE Z k' (sr yM (up g (mSec k) j v) k') = if k' = k then mE Z k (upd (sr yM g k) j v) else mE Z k' (sr yM g k')
  by_cases h : k' = k
  · subst h
    rw [if_pos rfl]
    congr 1
    funext i
    show up g (mSec k') j v (mSec k') i = upd (fun i => g (mSec k') i) j v i
    rw [up_self]
  · rw [if_neg h]
    congr 1
    funext i
    show up g (mSec k) j v (mSec k') i = g (mSec k') i
    rw [up_other (fun e => h (mSec_inj e))]
