/-! rows: 0 day, 1 how many, 2 z, 3 guns, 4.. the list, 10.. the spots, 20.. the people -/
theorem x_lve {X : XT} {Y : YT} {Z : ZT} {Q : State → Prop} {g : St} {pc nL : Nat} {lv lv' : List (Nat × Value)} {st : List Value} (h : lv = lv') (k : WX X nL Y Z Q g pc lv' st) : WX X nL Y Z Q g pc lv st := h ▸ k
def sz (r : Nat → Int32) : Nat := (r 1).toNatClampNeg
def dy (r : Nat → Int32) : Nat := (r 0).toNatClampNeg
def okR (r : Nat → Int32) : Prop := (∃ n, n ≤ 8 ∧ r 1 = nI n) ∧ ∃ d, d ≤ 99999 ∧ r 0 = nI d
theorem sz_of {r : Nat → Int32} {n : Nat} (h : r 1 = nI n) (hn : n ≤ 8) : sz r = n := by unfold sz; rw [h, nI_clamp (by omega)]
theorem dy_of {r : Nat → Int32} {n : Nat} (h : r 0 = nI n) (hn : n ≤ 99999) : dy r = n := by unfold dy; rw [h, nI_clamp (by omega)]
def wkN (pl d q : Int32) (r : Nat → Int32) : Nat → Nat → Int32
  | 0 => r
  | i + 1 => upd (wkN pl d q r i) (pI i 2) (wlkC (wkN pl d q r i) i pl d q)
theorem upd_hd {r : Nat → Int32} {i a n : Nat} {v : Int32} (h : n < 20) : upd r (pI i a) v n = r n := pk_un (by simp only [pI]; omega)
theorem wkN_hd {pl d q : Int32} {r : Nat → Int32} {i n : Nat} (h : n < 20) : wkN pl d q r i n = r n := by
  induction i with
  | zero => rfl
  | succ i ih => exact (upd_hd h).trans ih
def mt1 (r : Nat → Int32) (a b : Nat) : Nat → Int32 := if mtA (r (pI a 1)) (r (pI a 2)) (r (pI b 1)) (r (pI b 2)) = true then upd (cmtR (cmtR r a) b) 3 (mx 0 (cmtR (cmtR r a) b 3 - clm (cmtR (cmtR r a) b (pI a 0)) - clm (cmtR (cmtR r a) b (pI b 0)))) else r
theorem cmtR_hd {r : Nat → Int32} {i n : Nat} (h : n < 20) : cmtR r i n = r n := upd_hd h
theorem mt1_hd {r : Nat → Int32} {a b n : Nat} (h : n < 3) : mt1 r a b n = r n := by
  unfold mt1
  split
  · rw [pk_un (by omega), cmtR_hd (by omega), cmtR_hd (by omega)]
  · rfl
def mtI (a : Nat) (r : Nat → Int32) : Nat → Nat → Int32
  | 0 => r
  | k + 1 => mt1 (mtI a r k) a (a + 1 + k)
theorem mtI_hd {r : Nat → Int32} {a k n : Nat} (h : n < 3) : mtI a r k n = r n := by
  induction k with
  | zero => rfl
  | succ k ih => exact (mt1_hd h).trans ih
def mtO (m : Nat) (r : Nat → Int32) : Nat → Nat → Int32
  | 0 => r
  | a + 1 => mtI a (mtO m r a) (m - (a + 1))
theorem mtO_hd {r : Nat → Int32} {m a n : Nat} (h : n < 3) : mtO m r a n = r n := by
  induction a with
  | zero => rfl
  | succ a ih => exact (mtI_hd h).trans ih
def g5 (r : Nat → Int32) : Nat → Int32 := if 0 < r 3 then upd r 3 (mn 99 (r 3 + 5)) else r
theorem g5_hd {r : Nat → Int32} {n : Nat} (h : n < 3) : g5 r n = r n := by
  unfold g5
  split
  · exact pk_un (by omega)
  · rfl
def enN (d : Int32) (r : Nat → Int32) : Nat → Nat → Int32
  | 0 => r
  | i + 1 => endR (enN d r i) i d
theorem endR_hd {r : Nat → Int32} {i n : Nat} {d : Int32} (h : n < 20) : endR r i d n = r n := by
  unfold endR
  split
  · rw [upd_hd h, upd_hd h]
  · rw [upd_hd h]
theorem enN_hd {d : Int32} {r : Nat → Int32} {i n : Nat} (h : n < 20) : enN d r i n = r n := by
  induction i with
  | zero => rfl
  | succ i ih => exact (endR_hd h).trans ih
def dayR (r : Nat → Int32) : Nat → Int32 := upd (enN (r 0) (g5 (mtO (sz r) (wkN (r (4 + dy r % 6)) (r 0) (r 3) r (sz r)) (sz r))) (sz r)) 0 (mn 99999 (r 0 + 1))
def dysR (r : Nat → Int32) : Nat → Nat → Int32
  | 0 => r
  | k + 1 => dayR (dysR r k)
theorem dayR_1 {r : Nat → Int32} {n : Nat} (h : 0 < n) (h3 : n < 3) : dayR r n = r n := by
  unfold dayR
  rw [pk_un (by omega), enN_hd (by omega), g5_hd h3, mtO_hd h3, wkN_hd (by omega)]
theorem mn_day {d : Nat} (h : d ≤ 99999) : mn 99999 (nI d + 1) = nI (min 99999 (d + 1)) := by
  unfold mn
  rw [nI_1, show (99999 : Int32) = nI 99999 from rfl]
  by_cases hd : d + 1 < 99999
  · rw [if_pos (nI_lt hd (by decide))]
    congr 1
    omega
  · rw [if_neg (nI_nlt (by omega) (by omega))]
    congr 1
    omega
theorem dayR_0 {r : Nat → Int32} {d : Nat} (h : r 0 = nI d) (hd : d ≤ 99999) : dayR r 0 = nI (min 99999 (d + 1)) := by
  unfold dayR
  rw [pk_us, h, mn_day hd]
theorem okR_day {r : Nat → Int32} (h : okR r) : okR (dayR r) := by
  obtain ⟨⟨n, hn, h1⟩, d, hd, h0⟩ := h
  exact ⟨⟨n, hn, (dayR_1 (by omega) (by omega)).trans h1⟩, min 99999 (d + 1), Nat.min_le_left _ _, dayR_0 h0 hd⟩
theorem okR_dys {r : Nat → Int32} (h : okR r) (k : Nat) : okR (dysR r k) := by
  induction k with
  | zero => exact h
  | succ k ih => exact okR_day ih
def sumN (r : Nat → Int32) : Nat → Int32
  | 0 => 0
  | i + 1 => sumN r i + r (pI i 5)
def bit (i : Nat) : Int32 := 1 <<< (nI i &&& 31)
def patN (c : Int32) (r : Nat → Int32) : Nat → Int32
  | 0 => 0
  | i + 1 => if r (pI i 2) = c then patN c r i ||| bit i else patN c r i
def abrN (r : Nat → Int32) : Nat → Int32
  | 0 => 0
  | i + 1 => if abr (r (pI i 1)) (r (pI i 2)) = true then abrN r i ||| bit i else abrN r i
def seaN (r : Nat → Int32) : Nat → Int32
  | 0 => 0
  | i + 1 => if 0 < r (pI i 3) then seaN r i ||| bit i else seaN r i
def celN (r : Nat → Int32) : Nat → Int32
  | 0 => 0
  | i + 1 => celN r i ||| (1 <<< (r (pI i 2) &&& 31))
def prI (a : Nat) (r : Nat → Int32) (s : Int32) : Nat → Int32
  | 0 => s
  | k + 1 => if mtA (r (pI a 1)) (r (pI a 2)) (r (pI (a + 1 + k) 1)) (r (pI (a + 1 + k) 2)) = true then prI a r s k + 1 else prI a r s k
def prO (m : Nat) (r : Nat → Int32) : Nat → Int32
  | 0 => 0
  | a + 1 => prI a r (prO m r a) (m - (a + 1))
def spoN (r : Nat → Int32) : Nat → Int32
  | 0 => 0
  | i + 1 => if 0 ≤ r (10 + i) then spoN r i + 1 else spoN r i
def outN (s : Int32) (r : Nat → Int32) : Nat → Nat → Int32
  | 0 => r
  | i + 1 => if (s >>> (nI i &&& 31)) &&& 1 = 1 then upd (outN s r i) (pI i 3) 0 else outN s r i
theorem outN_hd {s : Int32} {r : Nat → Int32} {i n : Nat} (h : n < 20) : outN s r i n = r n := by
  induction i with
  | zero => rfl
  | succ i ih =>
    unfold outN
    split
    · exact (upd_hd h).trans ih
    · exact ih
/-- who met most: the place, if there is one -/
def mosN (r : Nat → Int32) : Nat → Option Nat
  | 0 => none
  | i + 1 => match mosN r i with
    | none => some i
    | some b => if r (pI b 5) < r (pI i 5) then some i else some b
def oI (o : Option Nat) : Int32 := match o with
  | none => -1
  | some b => nI b
def mabN (r : Nat → Int32) (p : Nat) (c : Int32) : Nat → Bool
  | 0 => false
  | i + 1 => mabN r p c i || mtA (r (pI p 1)) c (r (pI i 1)) (r (pI i 2))
def ctmN (r : Nat → Int32) (p n : Nat) : Nat → Int32
  | 0 => 0
  | c + 1 => if mabN r p (nI c) n = true then ctmN r p n c + 1 else ctmN r p n c
def tld (r : Nat → Int32) (p f : Nat) : Int32 := if f < 6 then r (pI p f) else if f = 6 then stp (r (pI p 0)) (r (pI p 4)) (r 0) else if f = 7 then bI (crs (r (pI p 0)) (r (pI p 5)) (r 3) = true) else if f = 8 then clm (r (pI p 0)) else trs (r (pI p 0)) (r 0)
def drw (z : Int32) : Int32 := z * 1103515245 + 12345
def ush8 (z : Int32) : Int32 := (z.toUInt32 >>> ((8 : Int32).toUInt32 &&& Int32.toUInt32 31)).toInt32
def addR (r : Nat → Int32) (k s : Int32) : Nat → Int32 := upd (bgnR r (sz r) k s) 1 (nI (sz r + 1))
theorem bgnR_hd {r : Nat → Int32} {i n : Nat} {k s : Int32} (h : n < 20) : bgnR r i k s n = r n := by
  unfold bgnR
  rw [upd_hd h, upd_hd h, upd_hd h, upd_hd h, upd_hd h, upd_hd h]
