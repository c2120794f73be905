/-! what one of the people does, by its numbers: kind, side, cell, season, bags, met are places 0 to 5 -/
def wkr (b : Int32) : Int32 := mx 1 (3 - b)
def stp (k b d : Int32) : Int32 := if k = 1 then mx 1 (wkr b - 1) else if k = 6 then mx 1 (wkr b - 1) + 2 else if k = 2 then wkr b + 1 else if k = 3 then mx 1 ((wkr b + 1) / 2) else if k = 4 then mx 1 ((wkr b + 1) / 2) else if k = 5 then d - d / 2 * 2 else wkr b
def crs (k m q : Int32) : Bool := if k = 6 then decide (5 ≤ m) else if k = 2 then decide (q = 0) else if k = 3 then decide (q ≤ 20) else if k = 4 then decide (q ≤ 20) || decide (m - m / 2 * 2 = 1) else decide (k = 5)
def clm (k : Int32) : Int32 := if k = 1 then 2 else if k = 6 then 6 else if k = 2 then 0 else if k = 3 then 5 else if k = 4 then 10 else if k = 5 then 10 else 1
def trs (k d : Int32) : Int32 := if k = 6 then (if d - d / 3 * 3 = 0 then 2 else 1) else if k = 2 then 2 else if k = 3 then 2 else if k = 4 then 2 else if k = 5 then 0 else 1
def lft (s : Int32) : Int32 := if s = 0 then 0 else 15
def abr (s c : Int32) : Bool := if s = 0 then decide (7 < c) else decide (c < 8)
def mvd (f tg st : Int32) : Int32 := if f < tg then mn tg (f + st) else mx tg (f - st)
def stA (f c : Int32) : Int32 := if f ≤ 7 then mn c 7 else mx c 8
def wlkC (r : Nat → Int32) (i : Nat) (pl d q : Int32) : Int32 :=
  if r (pI i 3) = 0 then mvd (r (pI i 2)) (lft (r (pI i 1))) (stp (r (pI i 0)) (r (pI i 4)) d)
  else if crs (r (pI i 0)) (r (pI i 5)) q = true then mvd (r (pI i 2)) pl (stp (r (pI i 0)) (r (pI i 4)) d)
  else stA (r (pI i 2)) (mvd (r (pI i 2)) pl (stp (r (pI i 0)) (r (pI i 4)) d))
def mtA (s1 h s2 c2 : Int32) : Bool := !decide (s1 = s2) && (decide (h = c2) || (decide (h = 7) && decide (c2 = 8)) || (decide (h = 8) && decide (c2 = 7)))
def bgnR (r : Nat → Int32) (i : Nat) (k s : Int32) : Nat → Int32 := upd (upd (upd (upd (upd (upd r (pI i 0) k) (pI i 1) s) (pI i 2) (lft s)) (pI i 3) 30) (pI i 4) 0) (pI i 5) 0
def bcmR (r r' : Nat → Int32) (i : Nat) : Nat → Int32 := upd (upd (upd (upd (upd (upd r (pI i 0) (r' (pI i 0))) (pI i 1) (r' (pI i 1))) (pI i 2) (r' (pI i 2))) (pI i 3) (r' (pI i 3))) (pI i 4) (r' (pI i 4))) (pI i 5) (r' (pI i 5))
def cmtR (r : Nat → Int32) (i : Nat) : Nat → Int32 := upd r (pI i 5) (mn 9999 (r (pI i 5) + 1))
def endR (r : Nat → Int32) (i : Nat) (d : Int32) : Nat → Int32 :=
  if r (pI i 2) = lft (r (pI i 1)) then upd (upd r (pI i 4) 0) (pI i 3) (mx 0 (r (pI i 3) - trs (r (pI i 0)) d)) else upd r (pI i 3) (mx 0 (r (pI i 3) - trs (r (pI i 0)) d))
def isU (k w : Int32) : Bool := decide (w = k) || decide (w = 0) || (decide (k = 3) && decide (w = 2)) || (decide (k = 4) && (decide (w = 3) || decide (w = 2))) || (decide (k = 6) && decide (w = 1))
theorem upd_upd {r : Nat → Int32} {n : Nat} {v w : Int32} : upd (upd r n v) n w = upd r n w := by
  funext j
  by_cases h : j = n
  · simp [upd, h]
  · simp [upd, h]
theorem upd_at {r : Nat → Int32} {n j : Nat} {v : Int32} : upd r n v j = if j = n then v else r j := rfl
theorem pI_eq {i a b : Nat} : pI i a = pI i b ↔ a = b := by simp only [pI]; omega
theorem pI_hd {i a n : Nat} (h : n < 20) : (n = pI i a) = False := by simp only [pI]; exact eq_false (by omega)
theorem pI_hd' {i a n : Nat} (h : n < 20) : (pI i a = n) = False := by simp only [pI]; exact eq_false (by omega)
