/-! System.arraycopy over rows of ints -/
section Acopy
variable {X : XT} {Y : YT} {Z : ZT} {Q : State → Prop} {g G : St} {pc : Nat} {lv : List (Nat × Value)} {st : List Value} {cc : ByteArray} {own : String} {ret : Option FieldType} {F L nL index : Nat}
theorem x_acopy (C : CX X nL Y Z cc own ret F L) (hw : Cond.methodLink own index arraycopyName ∈ TT) (hd : decode cc pc = .ok (.invokestatic index, 3)) {k0 k1 n0 n1 : Nat} (hk0 : k0 < Y.1) (hk1 : k1 < Y.1) (hE0 : Y.2.1 Z k0 (sr Y g k0) = .inl (Z.2.2.1 0, n0, .inl (tr n0 (sr Y g k0)))) (hE1 : Y.2.1 Z k1 (sr Y g k1) = .inl (Z.2.2.1 0, n1, .inl (tr n1 (sr Y g k1)))) {sp dp n : Int32} (i j m : Nat) (hsp : sp = nI i) (hdp : dp = nI j) (hn : n = nI m) (h4 : i + m ≤ n0) (h5 : j + m ≤ n1) (hb0 : n0 < 2 ^ 31) (hb1 : n1 < 2 ^ 31) (hF : 1 ≤ F) (hL : (st.map fun v => v.category).sum + (nativeFrameWords "java/lang/System" "arraycopy" 5 + 11) ≤ L)
    (hG : (sw Y Z g).set k1 (Z.2.1 k1, .inl (Z.2.2.1 0, n1, .inl (va_cpy (tr n0 (sr Y g k0)) (tr n1 (sr Y g k1)) i j m))) = sw Y Z G) (kk : WX X nL Y Z Q G (pc + 3) lv st) : WX X nL Y Z Q g pc lv (.int n :: .int dp :: .ref (Z.2.1 k1) :: .int sp :: .ref (Z.2.1 k0) :: st) := by
  subst hsp; subst hdp; subst hn
  obtain ⟨p, l, e, R, s, m', args, below, meth, c⟩ := X
  intro H locs ls hP hS hl
  obtain ⟨hx, hb, hml, hown, hts, -, -, hFr, hLo, hK, hI, hEn⟩ := C
  have ci : (nI i).toNatClampNeg = i := nI_clamp (by omega)
  have cj : (nI j).toNatClampNeg = j := nI_clamp (by omega)
  have cm : (nI m).toNatClampNeg = m := nI_clamp (by omega)
  refine va_copyi hx hb (hml.trans hl.1.symm) hown (hts _ hw) (hts _ k_386) (hts _ k_385) (hts _ k_9) hK hP (sD hI g) hS k0 k1 0 0 (by rw [sw_at hk0, hE0]) (by rw [sw_at hk1, hE1]) rfl rfl rfl (nI_pos (by omega)) (nI_pos (by omega)) (nI_pos (by omega)) (by rw [ci, cm]; exact h4) (by rw [cj, cm]; exact h5) (fun _ _ => rfl) (Nat.le_trans hF hFr) (Nat.le_trans hL hLo) hd (fun H1 locs1 hP1 _ hS1 => ?_)
  rw [ci, cj, cm, hG] at hP1
  exact kk H1 locs1 ls hP1 hS1 hl
end Acopy
/-- a row of a tunnel is written in a part of it only -/
theorem cE_same {Z : ZT} {g : St} {R : Nat → Int32} {t k : Nat} (ht : t < 3) (hk : k < 50) (hq : 14 ≤ k → (k - 14) / 12 = t → ∀ j, j < qLen ((k - 14) % 12) → R (qIdx ((k - 14) % 12) j) = g t (qIdx ((k - 14) % 12) j)) : cE Z k (sr yC (va_up g t R) k) = cE Z k (sr yC g k) := by
  by_cases h14 : k < 14
  · congr 1
    funext i
    show va_up g t R (cSec k) (cIdx k i) = g (cSec k) (cIdx k i)
    rw [va_up_ne]
    rw [sec_lo h14]; omega
  · rw [e_q Z (by omega), e_q Z (by omega)]
    apply qE_congr
    intro i hi
    show va_up g t R (cSec k) (cIdx k i) = g (cSec k) (cIdx k i)
    by_cases hs : cSec k = t
    · have hs2 : (k - 14) / 12 = t := by unfold cSec at hs; rwa [if_neg h14] at hs
      rw [hs, va_up_self]
      unfold cIdx
      rw [if_neg h14]
      exact hq (by omega) hs2 i hi
    · rw [va_up_ne _ _ hs]
def cpL (r r' : Nat → Int32) : Nat → Int32 := fun j => if 4 ≤ j ∧ j < 10 then r' j else r j
def cpS (r r' : Nat → Int32) : Nat → Int32 := fun j => if 10 ≤ j ∧ j < 20 then r' j else r j
theorem cpL_hd {r r' : Nat → Int32} {n : Nat} (h : n < 4) : cpL r r' n = r n := if_neg (by omega)
theorem cpS_hd {r r' : Nat → Int32} {n : Nat} (h : n < 10) : cpS r r' n = r n := if_neg (by omega)
theorem qIdx_L {q j : Nat} (hq : q ≠ 1) (hj : j < qLen q) : ¬ (4 ≤ qIdx q j ∧ qIdx q j < 10) := by
  unfold qLen at hj
  unfold qIdx
  by_cases h0 : q = 0
  · rw [if_pos h0] at hj ⊢
    have := tIdx_lt hj
    omega
  · rw [if_neg h0] at hj ⊢
    repeat' split
    all_goals (repeat' split at hj)
    all_goals omega
theorem qIdx_S {q j : Nat} (hq : q ≠ 2) (hj : j < qLen q) : ¬ (10 ≤ qIdx q j ∧ qIdx q j < 20) := by
  unfold qLen at hj
  unfold qIdx
  by_cases h0 : q = 0
  · rw [if_pos h0] at hj ⊢
    have := tIdx_lt hj
    omega
  · rw [if_neg h0] at hj ⊢
    repeat' split
    all_goals (repeat' split at hj)
    all_goals omega
theorem sw_L {Z : ZT} {g : St} {t t2 : Nat} (ht : t < 3) (ht2 : t2 < 3) : (sw yC Z g).set (15 + 12 * t) (Z.2.1 (15 + 12 * t), .inl (Z.2.2.1 0, 6, .inl (va_cpy (tr 6 (sr yC g (15 + 12 * t2))) (tr 6 (sr yC g (15 + 12 * t))) 0 0 6))) = sw yC Z (va_up g t (cpL (g t) (g t2))) := by
  apply List.ext_getElem?
  intro i
  by_cases hi : i < 50
  · rw [sw_at (Y := yC) hi]
    by_cases h : i = 15 + 12 * t
    · subst h
      rw [List.getElem?_set_self (by simp [sw]; exact hi)]
      show _ = some (Z.2.1 _, cE Z (15 + 12 * t) _)
      rw [e_li]
      congr 6
      funext j
      unfold va_cpy tr
      by_cases hj : j < 6
      · rw [if_pos (by omega), if_pos (by omega), if_pos hj]
        show g (cSec (15 + 12 * t2)) (cIdx (15 + 12 * t2) (0 + (j - 0))) = va_up g t (cpL (g t) (g t2)) (cSec (15 + 12 * t)) (cIdx (15 + 12 * t) j)
        rw [sec_li, idx_li, sec_li, idx_li, va_up_self, cpL, if_pos (by omega)]
        congr 1
        omega
      · rw [if_neg (by omega), if_neg hj, if_neg hj]
    · rw [List.getElem?_set_ne (fun e => h e.symm), sw_at (Y := yC) hi]
      congr 2
      refine (cE_same ht hi (fun h14 hs j hj => ?_)).symm
      exact if_neg (qIdx_L (by omega) hj)
  · rw [List.getElem?_eq_none (by simp [sw]; show 50 ≤ i; omega), List.getElem?_eq_none (by simp [sw]; show 50 ≤ i; omega)]
theorem sw_S {Z : ZT} {g : St} {t t2 : Nat} (ht : t < 3) (ht2 : t2 < 3) : (sw yC Z g).set (16 + 12 * t) (Z.2.1 (16 + 12 * t), .inl (Z.2.2.1 0, 10, .inl (va_cpy (tr 10 (sr yC g (16 + 12 * t2))) (tr 10 (sr yC g (16 + 12 * t))) 0 0 10))) = sw yC Z (va_up g t (cpS (g t) (g t2))) := by
  apply List.ext_getElem?
  intro i
  by_cases hi : i < 50
  · rw [sw_at (Y := yC) hi]
    by_cases h : i = 16 + 12 * t
    · subst h
      rw [List.getElem?_set_self (by simp [sw]; exact hi)]
      show _ = some (Z.2.1 _, cE Z (16 + 12 * t) _)
      rw [e_sp]
      congr 6
      funext j
      unfold va_cpy tr
      by_cases hj : j < 10
      · rw [if_pos (by omega), if_pos (by omega), if_pos hj]
        show g (cSec (16 + 12 * t2)) (cIdx (16 + 12 * t2) (0 + (j - 0))) = va_up g t (cpS (g t) (g t2)) (cSec (16 + 12 * t)) (cIdx (16 + 12 * t) j)
        rw [sec_sp, idx_sp, sec_sp, idx_sp, va_up_self, cpS, if_pos (by omega)]
        congr 1
        omega
      · rw [if_neg (by omega), if_neg hj, if_neg hj]
    · rw [List.getElem?_set_ne (fun e => h e.symm), sw_at (Y := yC) hi]
      congr 2
      refine (cE_same ht hi (fun h14 hs j hj => ?_)).symm
      exact if_neg (qIdx_S (by omega) hj)
  · rw [List.getElem?_eq_none (by simp [sw]; show 50 ≤ i; omega), List.getElem?_eq_none (by simp [sw]; show 50 ≤ i; omega)]
theorem sw_N {Z : ZT} {g : St} {a b i j m : Nat} (ha : a < 4) (hb : b < 4) (hi4 : i + m ≤ 40) (hj4 : j + m ≤ 40) : (sw yC Z g).set (9 + b) (Z.2.1 (9 + b), .inl (Z.2.2.1 0, 40, .inl (va_cpy (tr 40 (sr yC g (9 + a))) (tr 40 (sr yC g (9 + b))) i j m))) = sw yC Z (va_up g (12 + b) (va_cpy (g (12 + a)) (g (12 + b)) i j m)) := by
  apply List.ext_getElem?
  intro q
  by_cases hq : q < 50
  · rw [sw_at (Y := yC) hq]
    by_cases h : q = 9 + b
    · subst h
      rw [List.getElem?_set_self (by simp [sw]; exact hq)]
      show _ = some (Z.2.1 _, cE Z (9 + b) _)
      rw [e_nu Z hb]
      congr 6
      funext y
      have s1 : ∀ z, sr yC g (9 + a) z = g (12 + a) z := fun z => by
        show g (cSec (9 + a)) (cIdx (9 + a) z) = _
        rw [sec_lo (by omega), idx_lo (by omega), show 3 + (9 + a) = 12 + a by omega]
      have s2 : ∀ z, sr yC g (9 + b) z = g (12 + b) z := fun z => by
        show g (cSec (9 + b)) (cIdx (9 + b) z) = _
        rw [sec_lo (by omega), idx_lo (by omega), show 3 + (9 + b) = 12 + b by omega]
      have s3 : sr yC (va_up g (12 + b) (va_cpy (g (12 + a)) (g (12 + b)) i j m)) (9 + b) y = va_cpy (g (12 + a)) (g (12 + b)) i j m y := by
        show va_up g (12 + b) _ (cSec (9 + b)) (cIdx (9 + b) y) = _
        rw [sec_lo (by omega), idx_lo (by omega), show 3 + (9 + b) = 12 + b by omega, va_up_self]
      have tr_o : ∀ {f : Nat → Int32} {z : Nat}, ¬ z < 40 → tr 40 f z = 0 := fun h => if_neg h
      by_cases hy : y < 40
      · rw [tr_at hy, s3]
        unfold va_cpy
        by_cases hin : j ≤ y ∧ y < j + m
        · rw [if_pos hin, if_pos hin, tr_at (by omega), s1]
        · rw [if_neg hin, if_neg hin, tr_at hy, s2]
      · rw [tr_o hy]
        unfold va_cpy
        rw [if_neg (by omega), tr_o hy]
    · rw [List.getElem?_set_ne (fun e => h e.symm), sw_at (Y := yC) hq]
      congr 2
      show cE Z q _ = cE Z q _
      congr 1
      funext z
      show g (cSec q) (cIdx q z) = va_up g (12 + b) _ (cSec q) (cIdx q z)
      rw [va_up_ne]
      by_cases h14 : q < 14
      · rw [sec_lo h14]; omega
      · unfold cSec; rw [if_neg h14]; omega
  · rw [List.getElem?_eq_none (by simp [sw]; show 50 ≤ q; omega), List.getElem?_eq_none (by simp [sw]; show 50 ≤ q; omega)]
def bcmN (r : Nat → Int32) (r' : Nat → Int32) : Nat → Nat → Int32
  | 0 => r
  | i + 1 => bcmR (bcmN r r' i) r' i
theorem bcmR_hd {r r' : Nat → Int32} {i n : Nat} (h : n < 20) : bcmR r r' i n = r n := by
  unfold bcmR
  rw [upd_hd h, upd_hd h, upd_hd h, upd_hd h, upd_hd h, upd_hd h]
theorem bcmN_hd {r r' : Nat → Int32} {i n : Nat} (h : n < 20) : bcmN r r' i n = r n := by
  induction i with
  | zero => rfl
  | succ i ih => exact (bcmR_hd h).trans ih
def becR (r r' : Nat → Int32) : Nat → Int32 := bcmN (cpS (cpL (upd (upd (upd (upd r 0 (r' 0)) 3 (r' 3)) 2 (r' 2)) 1 (r' 1)) r') r') r' (sz r')

theorem mosN_lt {r : Nat → Int32} {i b : Nat} (h : mosN r i = some b) : b < i := by
  induction i generalizing b with
  | zero => cases h
  | succ i ih =>
    unfold mosN at h
    cases hm : mosN r i with
    | none => rw [hm] at h; cases h; omega
    | some c =>
      rw [hm] at h
      have := ih hm
      dsimp only at h
      split at h
      · cases h; omega
      · cases h; omega
theorem mabN_t {r : Nat → Int32} {p i n : Nat} {c : Int32} (hi : i < n) (h : mtA (r (pI p 1)) c (r (pI i 1)) (r (pI i 2)) = true) : mabN r p c n = true := by
  induction n with
  | zero => omega
  | succ n ih =>
    unfold mabN
    by_cases hin : i = n
    · subst hin; rw [h, Bool.or_true]
    · rw [ih (by omega), Bool.true_or]
theorem mabN_s {r : Nat → Int32} {p i : Nat} {c : Int32} (h1 : mabN r p c i = false) (h : ¬ mtA (r (pI p 1)) c (r (pI i 1)) (r (pI i 2)) = true) : mabN r p c (i + 1) = false := by
  unfold mabN
  rw [h1, Bool.false_or]
  exact Bool.eq_false_iff.mpr h
def rm16 (z : Int32) : Int32 := z - z / 16 * 16
def rm8 (z : Int32) : Int32 := z - z / 8 * 8
/-- a bag more for one that is there -/
def bagR (r : Nat → Int32) (p : Int32) : Nat → Int32 := if 0 ≤ p ∧ p < r 1 then upd r (pI p.toNatClampNeg 4) (mn 9 (r (pI p.toNatClampNeg 4) + 1)) else r
def drnR (r : Nat → Int32) : Nat → Int32 := bagR (upd (upd (upd r 2 (drw (r 2))) (4 + dy r % 6) (rm16 (ush8 (drw (r 2))))) 2 (drw (drw (r 2)))) (rm8 (ush8 (drw (drw (r 2)))))
def drdR (r : Nat → Int32) : Nat → Int32 := dayR (drnR r)
theorem bagR_hd {r : Nat → Int32} {p : Int32} {n : Nat} (h : n < 20) : bagR r p n = r n := by
  unfold bagR
  split
  · exact upd_hd h
  · rfl
theorem drnR_01 {r : Nat → Int32} {n : Nat} (h : n < 2) : drnR r n = r n := by
  unfold drnR
  rw [bagR_hd (by omega), pk_un (by omega), pk_un (by omega), pk_un (by omega)]
theorem okR_drn {r : Nat → Int32} (h : okR r) : okR (drnR r) := by
  obtain ⟨⟨n, hn, h1⟩, d, hd, h0⟩ := h
  exact ⟨⟨n, hn, (drnR_01 (by omega)).trans h1⟩, d, hd, (drnR_01 (by omega)).trans h0⟩
theorem okR_drd {r : Nat → Int32} (h : okR r) : okR (drdR r) := okR_day (okR_drn h)
