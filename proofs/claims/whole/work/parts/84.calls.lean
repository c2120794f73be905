/-! the forty calls -/
theorem q_guns {g h : St} (R : Rel g h) (v : Int32) : ((if (0 ≤ v ∧ v ≤ 99) then g 0 3 else (-1000001)) : Int32) = (if (0 ≤ v ∧ v ≤ 99) then h 0 3 else (-1000001)) ∧ ∀ u0 w0, (fun u => ∃ ρ : Nat → Int32, u = va_up (if (0 ≤ v ∧ v ≤ 99) then va_up g 0 (upd (g 0) 3 v) else va_up g 16 (fndR (g 16) 0)) 1 ρ) u0 → (fun u => ∃ ρ : Nat → Int32, u = va_up (if (0 ≤ v ∧ v ≤ 99) then va_up h 0 (upd (h 0) 3 v) else va_up h 4 (mfnR (h 4) 0)) 2 ρ) w0 → Rel u0 w0 := by
  have e3 : g 0 3 = h 0 3 := R.1.2.hd (by omega)
  refine ⟨iteE Iff.rfl (fun _ => e3) (fun _ => rfl), fin2 (iteR Iff.rfl (fun c => ?_) (fun _ => rel_f 0 (by omega) R))⟩
  exact rel_n R (R.1.upd (inv_upd3 R.1.1 (rg_in c rfl)) (by omega))
theorem q_place {g h : St} (R : Rel g h) (i c : Int32) : ((if (0 ≤ i ∧ i ≤ 5) ∧ (0 ≤ c ∧ c ≤ 15) then g 0 (4 + i.toNatClampNeg) else (-1000001)) : Int32) = (if (0 ≤ i ∧ i ≤ 5) ∧ (0 ≤ c ∧ c ≤ 15) then h 0 (4 + i.toNatClampNeg) else (-1000001)) ∧ ∀ u0 w0, (fun u => ∃ ρ : Nat → Int32, u = va_up (if (0 ≤ i ∧ i ≤ 5) ∧ (0 ≤ c ∧ c ≤ 15) then va_up g 0 (upd (g 0) (4 + i.toNatClampNeg) c) else va_up g 16 (fndR (g 16) 0)) 1 ρ) u0 → (fun u => ∃ ρ : Nat → Int32, u = va_up (if (0 ≤ i ∧ i ≤ 5) ∧ (0 ≤ c ∧ c ≤ 15) then va_up h 0 (upd (h 0) (4 + i.toNatClampNeg) c) else va_up h 4 (mfnR (h 4) 0)) 2 ρ) w0 → Rel u0 w0 := by
  refine ⟨iteE Iff.rfl (fun c => ?_) (fun _ => rfl), fin2 (iteR Iff.rfl (fun c => ?_) (fun _ => rel_f 0 (by omega) R))⟩
  · obtain ⟨j, hj, ej, -⟩ := cl_le c.1 (n := 5) rfl (by omega)
    rw [ej]; exact R.1.2.hd (by omega)
  · obtain ⟨j, hj, ej, -⟩ := cl_le c.1 (n := 5) rfl (by omega)
    rw [ej]
    exact rel_n R (R.1.upd (inv_updL R.1.1 (by omega) (rg_in c.2 rfl)) (by omega))
theorem q_listed {g h : St} (R : Rel g h) (i : Int32) : ((if (0 ≤ i ∧ i ≤ 5) then g 0 (4 + i.toNatClampNeg) else (-1000001)) : Int32) = (if (0 ≤ i ∧ i ≤ 5) then h 0 (4 + i.toNatClampNeg) else (-1000001)) ∧ ∀ u0 w0, (fun u => ∃ ρ : Nat → Int32, u = va_up (if (0 ≤ i ∧ i ≤ 5) then g else va_up g 16 (fndR (g 16) 0)) 1 ρ) u0 → (fun u => ∃ ρ : Nat → Int32, u = va_up (if (0 ≤ i ∧ i ≤ 5) then h else va_up h 4 (mfnR (h 4) 0)) 2 ρ) w0 → Rel u0 w0 := by
  refine ⟨iteE Iff.rfl (fun c => ?_) (fun _ => rfl), fin2 (iteR Iff.rfl (fun c => R) (fun _ => rel_f 0 (by omega) R))⟩
  obtain ⟨j, hj, ej, -⟩ := cl_le c (n := 5) rfl (by omega)
  rw [ej]; exact R.1.2.hd (by omega)
theorem q_person {g h : St} (R : Rel g h) (k s : Int32) : ((if ¬ ((0 ≤ k ∧ k ≤ 6) ∧ (0 ≤ s ∧ s ≤ 1)) then (-1000001) else if 8 ≤ g 0 1 then (-1000002) else nI (sz (g 0))) : Int32) = (if ¬ ((0 ≤ k ∧ k ≤ 6) ∧ (0 ≤ s ∧ s ≤ 1)) then (-1000001) else if h 0 1 = 8 then (-1000002) else nI (sz (h 0))) ∧ ∀ u0 w0, (fun u => ∃ ρ : Nat → Int32, u = va_up (if ¬ ((0 ≤ k ∧ k ≤ 6) ∧ (0 ≤ s ∧ s ≤ 1)) then va_up g 16 (fndR (g 16) 0) else if 8 ≤ g 0 1 then va_up g 16 (fndR (g 16) 1) else va_up g 0 (addR (g 0) k s)) 1 ρ) u0 → (fun u => ∃ ρ : Nat → Int32, u = va_up (if ¬ ((0 ≤ k ∧ k ≤ 6) ∧ (0 ≤ s ∧ s ≤ 1)) then va_up h 4 (mfnR (h 4) 0) else if h 0 1 = 8 then va_up h 4 (mfnR (h 4) 1) else va_up h 0 (addR (h 0) k s)) 2 ρ) w0 → Rel u0 w0 := by
  have e1 : g 0 1 = h 0 1 := R.1.2.hd (by omega)
  have r1 := R.1.1.r1
  have hn := R.1.1.n
  have hc : 8 ≤ g 0 1 ↔ h 0 1 = 8 := by rw [e1, r1]; exact full_iff hn
  refine ⟨iteE Iff.rfl (fun _ => rfl) (fun _ => iteE hc (fun _ => rfl) (fun _ => by rw [R.1.sz'])), fin2 (iteR Iff.rfl (fun _ => rel_f 0 (by omega) R) (fun c => iteR hc (fun _ => rel_f 1 (by omega) R) (fun c2 => ?_)))⟩
  have c := Decidable.of_not_not c
  have h8 : sz (h 0) < 8 := full_f (by rw [e1, r1] at c2; exact c2) (by omega)
  exact rel_n R (R.1.add h8 (rg_in c.1 rfl) (rg_in c.2 rfl))
theorem q_of {g h : St} (R : Rel g h) (p w : Int32) : ((if (0 ≤ p ∧ p < g 0 1) ∧ (0 ≤ w ∧ w ≤ 9) then tld (g 0) p.toNatClampNeg w.toNatClampNeg else (-1000001)) : Int32) = (if (0 ≤ p ∧ p < h 0 1) ∧ (0 ≤ w ∧ w ≤ 9) then tld (h 0) p.toNatClampNeg w.toNatClampNeg else (-1000001)) ∧ ∀ u0 w0, (fun u => ∃ ρ : Nat → Int32, u = va_up (if (0 ≤ p ∧ p < g 0 1) ∧ (0 ≤ w ∧ w ≤ 9) then g else va_up g 16 (fndR (g 16) 0)) 1 ρ) u0 → (fun u => ∃ ρ : Nat → Int32, u = va_up (if (0 ≤ p ∧ p < h 0 1) ∧ (0 ≤ w ∧ w ≤ 9) then h else va_up h 4 (mfnR (h 4) 0)) 2 ρ) w0 → Rel u0 w0 := by
  have e1 : g 0 1 = h 0 1 := R.1.2.hd (by omega)
  rw [e1]
  refine ⟨iteE Iff.rfl (fun c => ?_) (fun _ => rfl), fin2 (iteR Iff.rfl (fun c => R) (fun _ => rel_f 0 (by omega) R))⟩
  obtain ⟨q, hq, -, eq, -⟩ := per_lt R.1.1 c.1
  rw [eq]; exact tld_e R.1.2 hq
theorem q_change {g h : St} (R : Rel g h) (p w v : Int32) : ((if (0 ≤ p ∧ p < g 0 1) ∧ (0 ≤ w ∧ w ≤ 5) ∧ (0 ≤ v ∧ v ≤ mOf w.toNatClampNeg) then tld (g 0) p.toNatClampNeg w.toNatClampNeg else (-1000001)) : Int32) = (if (0 ≤ p ∧ p < h 0 1) ∧ ((w = 0 ∧ 0 ≤ v ∧ v ≤ 6) ∨ (w = 1 ∧ 0 ≤ v ∧ v ≤ 1) ∨ (w = 2 ∧ 0 ≤ v ∧ v ≤ 15) ∨ (w = 3 ∧ 0 ≤ v ∧ v ≤ 99) ∨ (w = 4 ∧ 0 ≤ v ∧ v ≤ 9) ∨ (w = 5 ∧ 0 ≤ v ∧ v ≤ 9999)) then h 0 (pI p.toNatClampNeg w.toNatClampNeg) else (-1000001)) ∧ ∀ u0 w0, (fun u => ∃ ρ : Nat → Int32, u = va_up (if (0 ≤ p ∧ p < g 0 1) ∧ (0 ≤ w ∧ w ≤ 5) ∧ (0 ≤ v ∧ v ≤ mOf w.toNatClampNeg) then va_up g 0 (upd (g 0) (pI p.toNatClampNeg w.toNatClampNeg) v) else va_up g 16 (fndR (g 16) 0)) 1 ρ) u0 → (fun u => ∃ ρ : Nat → Int32, u = va_up (if (0 ≤ p ∧ p < h 0 1) ∧ ((w = 0 ∧ 0 ≤ v ∧ v ≤ 6) ∨ (w = 1 ∧ 0 ≤ v ∧ v ≤ 1) ∨ (w = 2 ∧ 0 ≤ v ∧ v ≤ 15) ∨ (w = 3 ∧ 0 ≤ v ∧ v ≤ 99) ∨ (w = 4 ∧ 0 ≤ v ∧ v ≤ 9) ∨ (w = 5 ∧ 0 ≤ v ∧ v ≤ 9999)) then va_up h 0 (upd (h 0) (pI p.toNatClampNeg w.toNatClampNeg) v) else va_up h 4 (mfnR (h 4) 0)) 2 ρ) w0 → Rel u0 w0 := by
  have e1 : g 0 1 = h 0 1 := R.1.2.hd (by omega)
  rw [e1]
  have hc : ((0 ≤ p ∧ p < h 0 1) ∧ (0 ≤ w ∧ w ≤ 5) ∧ (0 ≤ v ∧ v ≤ mOf w.toNatClampNeg)) ↔ ((0 ≤ p ∧ p < h 0 1) ∧ ((w = 0 ∧ 0 ≤ v ∧ v ≤ 6) ∨ (w = 1 ∧ 0 ≤ v ∧ v ≤ 1) ∨ (w = 2 ∧ 0 ≤ v ∧ v ≤ 15) ∨ (w = 3 ∧ 0 ≤ v ∧ v ≤ 99) ∨ (w = 4 ∧ 0 ≤ v ∧ v ≤ 9) ∨ (w = 5 ∧ 0 ≤ v ∧ v ≤ 9999))) := and_congr Iff.rfl chg_iff
  refine ⟨iteE hc (fun c => ?_) (fun _ => rfl), fin2 (iteR hc (fun c => ?_) (fun _ => rel_f 0 (by omega) R))⟩
  · obtain ⟨q, hq, -, eq, -⟩ := per_lt R.1.1 c.1
    obtain ⟨j, hj, ej, -⟩ := cl_le c.2.1 (n := 5) rfl (by omega)
    rw [eq, ej]
    unfold tld
    rw [if_pos (by omega)]
    exact R.1.2.at hq (by omega)
  · obtain ⟨q, hq, -, eq, -⟩ := per_lt R.1.1 c.1
    obtain ⟨j, hj, ej, -⟩ := cl_le c.2.1 (n := 5) rfl (by omega)
    have hv := c.2.2
    rw [ej] at hv
    rw [eq, ej]
    exact rel_n R (R.1.upd (inv_updP R.1.1 (by omega) (rg_in hv (mOf_mF j (by omega)))) (by simp only [pI]; omega))
theorem q_who {g h : St} (R : Rel g h) (c : Int32) : ((if (0 ≤ c ∧ c ≤ 15) then patN c (g 0) (sz (g 0)) else (-1000001)) : Int32) = (if (0 ≤ c ∧ c ≤ 15) then patN c (h 0) (sz (h 0)) else (-1000001)) ∧ ∀ u0 w0, (fun u => ∃ ρ : Nat → Int32, u = va_up (if (0 ≤ c ∧ c ≤ 15) then g else va_up g 16 (fndR (g 16) 0)) 1 ρ) u0 → (fun u => ∃ ρ : Nat → Int32, u = va_up (if (0 ≤ c ∧ c ≤ 15) then h else va_up h 4 (mfnR (h 4) 0)) 2 ρ) w0 → Rel u0 w0 := by
  refine ⟨iteE Iff.rfl (fun c => ?_) (fun _ => rfl), fin2 (iteR Iff.rfl (fun c => R) (fun _ => rel_f 0 (by omega) R))⟩
  rw [R.1.sz']; exact patN_e R.1.2 (Nat.le_refl _)
theorem q_two {g h : St} (R : Rel g h) (a b : Int32) : ((if (0 ≤ a ∧ a < g 0 1) ∧ (0 ≤ b ∧ b < g 0 1) ∧ ¬ a = b then bI (mtA (g 0 (pI a.toNatClampNeg 1)) (g 0 (pI a.toNatClampNeg 2)) (g 0 (pI b.toNatClampNeg 1)) (g 0 (pI b.toNatClampNeg 2)) = true) else (-1000001)) : Int32) = (if (0 ≤ a ∧ a < h 0 1) ∧ (0 ≤ b ∧ b < h 0 1) ∧ ¬ a = b then bI (mtA (h 0 (pI a.toNatClampNeg 1)) (h 0 (pI a.toNatClampNeg 2)) (h 0 (pI b.toNatClampNeg 1)) (h 0 (pI b.toNatClampNeg 2)) = true) else (-1000001)) ∧ ∀ u0 w0, (fun u => ∃ ρ : Nat → Int32, u = va_up (if (0 ≤ a ∧ a < g 0 1) ∧ (0 ≤ b ∧ b < g 0 1) ∧ ¬ a = b then g else va_up g 16 (fndR (g 16) 0)) 1 ρ) u0 → (fun u => ∃ ρ : Nat → Int32, u = va_up (if (0 ≤ a ∧ a < h 0 1) ∧ (0 ≤ b ∧ b < h 0 1) ∧ ¬ a = b then h else va_up h 4 (mfnR (h 4) 0)) 2 ρ) w0 → Rel u0 w0 := by
  have e1 : g 0 1 = h 0 1 := R.1.2.hd (by omega)
  rw [e1]
  refine ⟨iteE Iff.rfl (fun c => ?_) (fun _ => rfl), fin2 (iteR Iff.rfl (fun c => R) (fun _ => rel_f 0 (by omega) R))⟩
  obtain ⟨q, hq, -, eq, -⟩ := per_lt R.1.1 c.1
  obtain ⟨q2, hq2, -, eq2, -⟩ := per_lt R.1.1 c.2.1
  rw [eq, eq2, R.1.2.at hq (f := 1) (by omega), R.1.2.at hq (f := 2) (by omega), R.1.2.at hq2 (f := 1) (by omega), R.1.2.at hq2 (f := 2) (by omega)]
theorem q_go {g h : St} (R : Rel g h) (m : Int32) : ((if ¬ (0 ≤ (m - 1) ∧ (m - 1) ≤ 59) then (-1000001) else if ¬ m ≤ 99999 - g 0 0 then (-1000005) else dysR (g 0) m.toNatClampNeg 3) : Int32) = (if ¬ (1 ≤ m ∧ m ≤ 60) then (-1000001) else if 99999 < h 0 0 + m then (-1000005) else dysM (h 0) m.toNatClampNeg 3) ∧ ∀ u0 w0, (fun u => ∃ ρ : Nat → Int32, u = va_up (if ¬ (0 ≤ (m - 1) ∧ (m - 1) ≤ 59) then va_up g 16 (fndR (g 16) 0) else if ¬ m ≤ 99999 - g 0 0 then va_up g 16 (fndR (g 16) 4) else va_up g 0 (dysR (g 0) m.toNatClampNeg)) 1 ρ) u0 → (fun u => ∃ ρ : Nat → Int32, u = va_up (if ¬ (1 ≤ m ∧ m ≤ 60) then va_up h 4 (mfnR (h 4) 0) else if 99999 < h 0 0 + m then va_up h 4 (mfnR (h 4) 4) else va_up h 0 (dysM (h 0) m.toNatClampNeg)) 2 ρ) w0 → Rel u0 w0 := by
  have e0 : g 0 0 = h 0 0 := R.1.2.hd (by omega)
  rw [e0]
  have hc : ¬ (0 ≤ (m - 1) ∧ (m - 1) ≤ 59) ↔ ¬ (1 ≤ m ∧ m ≤ 60) := not_congr (n1_iff 59 (by omega))
  have hl : ¬ ¬ (0 ≤ (m - 1) ∧ (m - 1) ≤ 59) → (¬ m ≤ 99999 - h 0 0 ↔ 99999 < h 0 0 + m) := fun c => by
    obtain ⟨d, hd, ed⟩ := R.1.1.d
    obtain ⟨j, h1, h2, ej⟩ := in_n1 (Decidable.of_not_not c) (m := 59) rfl
    rw [ed, ej]
    exact left_iff hd (by omega)
  refine ⟨iteE hc (fun _ => rfl) (fun c => iteE (hl c) (fun _ => rfl) (fun _ => (R.1.dys _).2.hd (by omega))), fin2 (iteR hc (fun _ => rel_f 0 (by omega) R) (fun c => iteR (hl c) (fun _ => rel_f 4 (by omega) R) (fun _ => rel_n R (R.1.dys _))))⟩
theorem q_now {g h : St} (R : Rel g h) (w : Int32) : ((if w = 0 ∨ w = 1 ∨ w = 2 ∨ w = 3 ∨ w = 4 ∨ w = 5 ∨ w = 6 ∨ w = 7 then nowV (g 0) w else (-1000001)) : Int32) = (if w = 0 ∨ w = 1 ∨ w = 2 ∨ w = 3 ∨ w = 4 ∨ w = 5 ∨ w = 6 ∨ w = 7 then nowM (h 0) w else (-1000001)) ∧ ∀ u0 w0, (fun u => ∃ ρ : Nat → Int32, u = va_up (if w = 0 ∨ w = 1 ∨ w = 2 ∨ w = 3 ∨ w = 4 ∨ w = 5 ∨ w = 6 ∨ w = 7 then g else va_up g 16 (fndR (g 16) 0)) 1 ρ) u0 → (fun u => ∃ ρ : Nat → Int32, u = va_up (if w = 0 ∨ w = 1 ∨ w = 2 ∨ w = 3 ∨ w = 4 ∨ w = 5 ∨ w = 6 ∨ w = 7 then h else va_up h 4 (mfnR (h 4) 0)) 2 ρ) w0 → Rel u0 w0 := by
  refine ⟨iteE Iff.rfl (fun c => ?_) (fun _ => rfl), fin2 (iteR Iff.rfl (fun c => R) (fun _ => rel_f 0 (by omega) R))⟩
  rw [nowV_e R.1.2, now_eq R.1.1]
theorem q_ahead {g h : St} (R : Rel g h) (p w m : Int32) : ((if (0 ≤ p ∧ p < g 0 1) ∧ (w = 2 ∨ w = 3 ∨ w = 5 ∨ w = 7) ∧ (0 ≤ m ∧ m ≤ 100) then tld (dysR (g 0) m.toNatClampNeg) p.toNatClampNeg w.toNatClampNeg else (-1000001)) : Int32) = (if (0 ≤ p ∧ p < h 0 1) ∧ ((2 ≤ w ∧ w ≤ 3) ∨ w = 5 ∨ w = 7) ∧ (0 ≤ m ∧ m ≤ 100) then tld (dysM (h 0) m.toNatClampNeg) p.toNatClampNeg w.toNatClampNeg else (-1000001)) ∧ ∀ u0 w0, (fun u => ∃ ρ : Nat → Int32, u = va_up (if (0 ≤ p ∧ p < g 0 1) ∧ (w = 2 ∨ w = 3 ∨ w = 5 ∨ w = 7) ∧ (0 ≤ m ∧ m ≤ 100) then g else va_up g 16 (fndR (g 16) 0)) 1 ρ) u0 → (fun u => ∃ ρ : Nat → Int32, u = va_up (if (0 ≤ p ∧ p < h 0 1) ∧ ((2 ≤ w ∧ w ≤ 3) ∨ w = 5 ∨ w = 7) ∧ (0 ≤ m ∧ m ≤ 100) then h else va_up h 4 (mfnR (h 4) 0)) 2 ρ) w0 → Rel u0 w0 := by
  have e1 : g 0 1 = h 0 1 := R.1.2.hd (by omega)
  rw [e1]
  have hc : ((0 ≤ p ∧ p < h 0 1) ∧ (w = 2 ∨ w = 3 ∨ w = 5 ∨ w = 7) ∧ (0 ≤ m ∧ m ≤ 100)) ↔ ((0 ≤ p ∧ p < h 0 1) ∧ ((2 ≤ w ∧ w ≤ 3) ∨ w = 5 ∨ w = 7) ∧ (0 ≤ m ∧ m ≤ 100)) := and_congr Iff.rfl (and_congr fore_iff Iff.rfl)
  refine ⟨iteE hc (fun c => ?_) (fun _ => rfl), fin2 (iteR hc (fun c => R) (fun _ => rel_f 0 (by omega) R))⟩
  obtain ⟨q, hq, -, eq, -⟩ := per_lt R.1.1 c.1
  rw [eq]
  have hs : sz (dysM (h 0) m.toNatClampNeg) = sz (h 0) := by rw [dysM_R R.1.1, dysR_sz]
  exact tld_e (R.1.dys _).2 (by rw [hs]; exact hq)
theorem q_noise {g h : St} (R : Rel g h) (m : Int32) : ((if (0 ≤ m ∧ m ≤ 100) then dysR (g 0) m.toNatClampNeg 3 else (-1000001)) : Int32) = (if (0 ≤ m ∧ m ≤ 100) then dysM (h 0) m.toNatClampNeg 3 else (-1000001)) ∧ ∀ u0 w0, (fun u => ∃ ρ : Nat → Int32, u = va_up (if (0 ≤ m ∧ m ≤ 100) then g else va_up g 16 (fndR (g 16) 0)) 1 ρ) u0 → (fun u => ∃ ρ : Nat → Int32, u = va_up (if (0 ≤ m ∧ m ≤ 100) then h else va_up h 4 (mfnR (h 4) 0)) 2 ρ) w0 → Rel u0 w0 := by
  refine ⟨iteE Iff.rfl (fun c => (R.1.dys _).2.hd (by omega)) (fun _ => rfl), fin2 (iteR Iff.rfl (fun c => R) (fun _ => rel_f 0 (by omega) R))⟩
theorem q_stills {g h : St} (R : Rel g h) (v : Int32) : ((if ¬ (0 ≤ v ∧ v ≤ 99) then (-1000001) else if oI (fdo (fun i_ => decide (dysR (g 0) i_ 3 ≤ v)) 201 0) < 0 then (-1000004) else oI (fdo (fun i_ => decide (dysR (g 0) i_ 3 ≤ v)) 201 0)) : Int32) = (if ¬ (0 ≤ v ∧ v ≤ 99) then (-1000001) else if oI (fdo (fun i_ => decide (0 ≤ dysM (h 0) i_ 3) && decide (dysM (h 0) i_ 3 ≤ v)) 201 0) < 0 then (-1000004) else oI (fdo (fun i_ => decide (0 ≤ dysM (h 0) i_ 3) && decide (dysM (h 0) i_ 3 ≤ v)) 201 0)) ∧ ∀ u0 w0, (fun u => ∃ ρ : Nat → Int32, u = va_up (if ¬ (0 ≤ v ∧ v ≤ 99) then va_up g 16 (fndR (g 16) 0) else if oI (fdo (fun i_ => decide (dysR (g 0) i_ 3 ≤ v)) 201 0) < 0 then va_up g 16 (fndR (g 16) 3) else g) 1 ρ) u0 → (fun u => ∃ ρ : Nat → Int32, u = va_up (if ¬ (0 ≤ v ∧ v ≤ 99) then va_up h 4 (mfnR (h 4) 0) else if oI (fdo (fun i_ => decide (0 ≤ dysM (h 0) i_ 3) && decide (dysM (h 0) i_ 3 ≤ v)) 201 0) < 0 then va_up h 4 (mfnR (h 4) 3) else h) 2 ρ) w0 → Rel u0 w0 := by
  have hf : fdo (fun i_ => decide (dysR (g 0) i_ 3 ≤ v)) 201 0 = fdo (fun i_ => decide (0 ≤ dysM (h 0) i_ 3) && decide (dysM (h 0) i_ 3 ≤ v)) 201 0 := fdo_e (fun j _ _ => by
    have hd := R.1.dys j
    show decide (dysR (g 0) j 3 ≤ v) = (decide (0 ≤ dysM (h 0) j 3) && decide (dysM (h 0) j 3 ≤ v))
    rw [hd.2.hd (k := 3) (by omega), decide_eq_true (rg_b hd.1.g (by omega)).1, Bool.true_and])
  rw [hf]
  exact ⟨iteE Iff.rfl (fun _ => rfl) (fun _ => rfl), fin2 (iteR Iff.rfl (fun _ => rel_f 0 (by omega) R) (fun _ => iteR Iff.rfl (fun _ => rel_f 3 (by omega) R) (fun _ => R)))⟩
theorem q_meets {g h : St} (R : Rel g h) (p v : Int32) : ((if ¬ ((0 ≤ p ∧ p < g 0 1) ∧ (0 ≤ v ∧ v ≤ 9999)) then (-1000001) else if oI (fdo (fun i_ => decide (v ≤ dysR (g 0) i_ (pI p.toNatClampNeg 5))) 201 0) < 0 then (-1000004) else oI (fdo (fun i_ => decide (v ≤ dysR (g 0) i_ (pI p.toNatClampNeg 5))) 201 0)) : Int32) = (if ¬ ((0 ≤ p ∧ p < h 0 1) ∧ (0 ≤ v ∧ v ≤ 9999)) then (-1000001) else if oI (fdo (fun i_ => decide (v ≤ dysM (h 0) i_ (pI p.toNatClampNeg 5)) && decide (dysM (h 0) i_ (pI p.toNatClampNeg 5) ≤ 9999)) 201 0) < 0 then (-1000004) else oI (fdo (fun i_ => decide (v ≤ dysM (h 0) i_ (pI p.toNatClampNeg 5)) && decide (dysM (h 0) i_ (pI p.toNatClampNeg 5) ≤ 9999)) 201 0)) ∧ ∀ u0 w0, (fun u => ∃ ρ : Nat → Int32, u = va_up (if ¬ ((0 ≤ p ∧ p < g 0 1) ∧ (0 ≤ v ∧ v ≤ 9999)) then va_up g 16 (fndR (g 16) 0) else if oI (fdo (fun i_ => decide (v ≤ dysR (g 0) i_ (pI p.toNatClampNeg 5))) 201 0) < 0 then va_up g 16 (fndR (g 16) 3) else g) 1 ρ) u0 → (fun u => ∃ ρ : Nat → Int32, u = va_up (if ¬ ((0 ≤ p ∧ p < h 0 1) ∧ (0 ≤ v ∧ v ≤ 9999)) then va_up h 4 (mfnR (h 4) 0) else if oI (fdo (fun i_ => decide (v ≤ dysM (h 0) i_ (pI p.toNatClampNeg 5)) && decide (dysM (h 0) i_ (pI p.toNatClampNeg 5) ≤ 9999)) 201 0) < 0 then va_up h 4 (mfnR (h 4) 3) else h) 2 ρ) w0 → Rel u0 w0 := by
  have e1 : g 0 1 = h 0 1 := R.1.2.hd (by omega)
  rw [e1]
  have hf : (0 ≤ p ∧ p < h 0 1) ∧ (0 ≤ v ∧ v ≤ 9999) → fdo (fun i_ => decide (v ≤ dysR (g 0) i_ (pI p.toNatClampNeg 5))) 201 0 = fdo (fun i_ => decide (v ≤ dysM (h 0) i_ (pI p.toNatClampNeg 5)) && decide (dysM (h 0) i_ (pI p.toNatClampNeg 5) ≤ 9999)) 201 0 := fun c => by
    obtain ⟨q, hq, -, eq, -⟩ := per_lt R.1.1 c.1
    rw [eq]
    refine fdo_e (fun j _ _ => ?_)
    have hd := R.1.dys j
    have hs : sz (dysM (h 0) j) = sz (h 0) := by rw [dysM_R R.1.1, dysR_sz]
    have hq2 : q < sz (dysM (h 0) j) := by rw [hs]; exact hq
    show decide (v ≤ dysR (g 0) j (pI q 5)) = (decide (v ≤ dysM (h 0) j (pI q 5)) && decide (dysM (h 0) j (pI q 5) ≤ 9999))
    have h9 : dysM (h 0) j (pI q 5) ≤ 9999 := (rg_b (hd.1.p hq2).m (by omega)).2
    rw [hd.2.at hq2 (f := 5) (by omega), decide_eq_true h9, Bool.and_true]
  refine ⟨iteE Iff.rfl (fun _ => rfl) (fun c => ?_), fin2 (iteR Iff.rfl (fun _ => rel_f 0 (by omega) R) (fun c => ?_))⟩
  · rw [hf (Decidable.of_not_not c)]
  · rw [hf (Decidable.of_not_not c)]
    exact iteR Iff.rfl (fun _ => rel_f 3 (by omega) R) (fun _ => R)
theorem q_lapses {g h : St} (R : Rel g h) : ((if oI (fdo (fun i_ => decide (seaN (dysR (g 0) i_) (sz (g 0)) = 0)) 201 0) < 0 then (-1000004) else oI (fdo (fun i_ => decide (seaN (dysR (g 0) i_) (sz (g 0)) = 0)) 201 0)) : Int32) = (if oI (fdo (fun i_ => decide (seaN (dysM (h 0) i_) (sz (dysM (h 0) i_)) = 0)) 201 0) < 0 then (-1000004) else oI (fdo (fun i_ => decide (seaN (dysM (h 0) i_) (sz (dysM (h 0) i_)) = 0)) 201 0)) ∧ ∀ u0 w0, (fun u => ∃ ρ : Nat → Int32, u = va_up (if oI (fdo (fun i_ => decide (seaN (dysR (g 0) i_) (sz (g 0)) = 0)) 201 0) < 0 then va_up g 16 (fndR (g 16) 3) else g) 1 ρ) u0 → (fun u => ∃ ρ : Nat → Int32, u = va_up (if oI (fdo (fun i_ => decide (seaN (dysM (h 0) i_) (sz (dysM (h 0) i_)) = 0)) 201 0) < 0 then va_up h 4 (mfnR (h 4) 3) else h) 2 ρ) w0 → Rel u0 w0 := by
  have hf : fdo (fun i_ => decide (seaN (dysR (g 0) i_) (sz (g 0)) = 0)) 201 0 = fdo (fun i_ => decide (seaN (dysM (h 0) i_) (sz (dysM (h 0) i_)) = 0)) 201 0 := fdo_e (fun j _ _ => by
    have hd := R.1.dys j
    have hs : sz (dysM (h 0) j) = sz (h 0) := by rw [dysM_R R.1.1, dysR_sz]
    show decide (seaN (dysR (g 0) j) (sz (g 0)) = 0) = decide (seaN (dysM (h 0) j) (sz (dysM (h 0) j)) = 0)
    rw [R.1.sz', ← hs, seaN_e hd.2 (Nat.le_refl _)])
  rw [hf]
  exact ⟨rfl, fin2 (iteR Iff.rfl (fun _ => rel_f 3 (by omega) R) (fun _ => R))⟩
theorem q_placeFor {g h : St} (R : Rel g h) (i m : Int32) : ((if (0 ≤ i ∧ i ≤ 5) ∧ (0 ≤ m ∧ m ≤ 40) then (bst (fun c_ => dysR (upd (g 0) (4 + i.toNatClampNeg) (nI c_)) m.toNatClampNeg 3) 16).1 else (-1000001)) : Int32) = (if (0 ≤ i ∧ i ≤ 5) ∧ (0 ≤ m ∧ m ≤ 40) then (bst (fun c_ => dysM (upd (h 0) (4 + i.toNatClampNeg) (nI c_)) m.toNatClampNeg 3) 16).1 else (-1000001)) ∧ ∀ u0 w0, (fun u => ∃ ρ : Nat → Int32, u = va_up (if (0 ≤ i ∧ i ≤ 5) ∧ (0 ≤ m ∧ m ≤ 40) then g else va_up g 16 (fndR (g 16) 0)) 1 ρ) u0 → (fun u => ∃ ρ : Nat → Int32, u = va_up (if (0 ≤ i ∧ i ≤ 5) ∧ (0 ≤ m ∧ m ≤ 40) then h else va_up h 4 (mfnR (h 4) 0)) 2 ρ) w0 → Rel u0 w0 := by
  refine ⟨iteE Iff.rfl (fun c => ?_) (fun _ => rfl), fin2 (iteR Iff.rfl (fun c => R) (fun _ => rel_f 0 (by omega) R))⟩
  obtain ⟨j, hj, ej, -⟩ := cl_le c.1 (n := 5) rfl (by omega)
  rw [ej]
  refine congrArg Prod.fst (bst_e (fun x hx => ?_))
  have hN : relN (upd (g 0) (4 + j) (nI x)) (upd (h 0) (4 + j) (nI x)) := R.1.upd (inv_updL R.1.1 (by omega) ⟨x, by omega, rfl⟩) (by omega)
  exact (hN.dys _).2.hd (by omega)
theorem q_kindFor {g h : St} (R : Rel g h) (p m : Int32) : ((if (0 ≤ p ∧ p < g 0 1) ∧ (0 ≤ m ∧ m ≤ 40) then (bst (fun c_ => dysR (upd (g 0) (pI p.toNatClampNeg 0) (nI c_)) m.toNatClampNeg 3) 7).1 else (-1000001)) : Int32) = (if (0 ≤ p ∧ p < h 0 1) ∧ (0 ≤ m ∧ m ≤ 40) then (bst (fun c_ => dysM (upd (h 0) (pI p.toNatClampNeg 0) (nI c_)) m.toNatClampNeg 3) 7).1 else (-1000001)) ∧ ∀ u0 w0, (fun u => ∃ ρ : Nat → Int32, u = va_up (if (0 ≤ p ∧ p < g 0 1) ∧ (0 ≤ m ∧ m ≤ 40) then g else va_up g 16 (fndR (g 16) 0)) 1 ρ) u0 → (fun u => ∃ ρ : Nat → Int32, u = va_up (if (0 ≤ p ∧ p < h 0 1) ∧ (0 ≤ m ∧ m ≤ 40) then h else va_up h 4 (mfnR (h 4) 0)) 2 ρ) w0 → Rel u0 w0 := by
  have e1 : g 0 1 = h 0 1 := R.1.2.hd (by omega)
  rw [e1]
  refine ⟨iteE Iff.rfl (fun c => ?_) (fun _ => rfl), fin2 (iteR Iff.rfl (fun c => R) (fun _ => rel_f 0 (by omega) R))⟩
  obtain ⟨q, hq, -, eq, -⟩ := per_lt R.1.1 c.1
  rw [eq]
  refine congrArg Prod.fst (bst_e (fun x hx => ?_))
  have hN : relN (upd (g 0) (pI q 0) (nI x)) (upd (h 0) (pI q 0) (nI x)) := R.1.upd (inv_updP R.1.1 (by omega) ⟨x, show x ≤ 6 by omega, rfl⟩) (by simp only [pI]; omega)
  exact (hN.dys _).2.hd (by omega)
theorem q_seasonFor {g h : St} (R : Rel g h) (p v m : Int32) : ((if ¬ ((0 ≤ p ∧ p < g 0 1) ∧ (0 ≤ v ∧ v ≤ 9999) ∧ (0 ≤ m ∧ m ≤ 40)) then (-1000001) else if oI (fdo (fun c_ => decide (v ≤ dysR (upd (g 0) (pI p.toNatClampNeg 3) (nI c_)) m.toNatClampNeg (pI p.toNatClampNeg 5))) (min 99 (2 * m.toNatClampNeg) + 1) 0) < 0 then (-1000004) else oI (fdo (fun c_ => decide (v ≤ dysR (upd (g 0) (pI p.toNatClampNeg 3) (nI c_)) m.toNatClampNeg (pI p.toNatClampNeg 5))) (min 99 (2 * m.toNatClampNeg) + 1) 0)) : Int32) = (if ¬ ((0 ≤ p ∧ p < h 0 1) ∧ (0 ≤ v ∧ v ≤ 9999) ∧ (0 ≤ m ∧ m ≤ 40)) then (-1000001) else if oI (fdo (fun c_ => decide (v ≤ dysM (upd (h 0) (pI p.toNatClampNeg 3) (nI c_)) m.toNatClampNeg (pI p.toNatClampNeg 5))) 100 0) < 0 then (-1000004) else oI (fdo (fun c_ => decide (v ≤ dysM (upd (h 0) (pI p.toNatClampNeg 3) (nI c_)) m.toNatClampNeg (pI p.toNatClampNeg 5))) 100 0)) ∧ ∀ u0 w0, (fun u => ∃ ρ : Nat → Int32, u = va_up (if ¬ ((0 ≤ p ∧ p < g 0 1) ∧ (0 ≤ v ∧ v ≤ 9999) ∧ (0 ≤ m ∧ m ≤ 40)) then va_up g 16 (fndR (g 16) 0) else if oI (fdo (fun c_ => decide (v ≤ dysR (upd (g 0) (pI p.toNatClampNeg 3) (nI c_)) m.toNatClampNeg (pI p.toNatClampNeg 5))) (min 99 (2 * m.toNatClampNeg) + 1) 0) < 0 then va_up g 16 (fndR (g 16) 3) else g) 1 ρ) u0 → (fun u => ∃ ρ : Nat → Int32, u = va_up (if ¬ ((0 ≤ p ∧ p < h 0 1) ∧ (0 ≤ v ∧ v ≤ 9999) ∧ (0 ≤ m ∧ m ≤ 40)) then va_up h 4 (mfnR (h 4) 0) else if oI (fdo (fun c_ => decide (v ≤ dysM (upd (h 0) (pI p.toNatClampNeg 3) (nI c_)) m.toNatClampNeg (pI p.toNatClampNeg 5))) 100 0) < 0 then va_up h 4 (mfnR (h 4) 3) else h) 2 ρ) w0 → Rel u0 w0 := by
  have e1 : g 0 1 = h 0 1 := R.1.2.hd (by omega)
  rw [e1]
  have hf : (0 ≤ p ∧ p < h 0 1) ∧ (0 ≤ v ∧ v ≤ 9999) ∧ (0 ≤ m ∧ m ≤ 40) → fdo (fun c_ => decide (v ≤ dysR (upd (g 0) (pI p.toNatClampNeg 3) (nI c_)) m.toNatClampNeg (pI p.toNatClampNeg 5))) (min 99 (2 * m.toNatClampNeg) + 1) 0 = fdo (fun c_ => decide (v ≤ dysM (upd (h 0) (pI p.toNatClampNeg 3) (nI c_)) m.toNatClampNeg (pI p.toNatClampNeg 5))) 100 0 := fun c => by
    obtain ⟨q, hq, -, eq, -⟩ := per_lt R.1.1 c.1
    obtain ⟨j, hj, ej, -⟩ := cl_le c.2.2 (n := 40) rfl (by omega)
    rw [eq, ej, show min 99 (2 * j) = 2 * j by omega]
    have h1 : fdo (fun c_ => decide (v ≤ dysR (upd (g 0) (pI q 3) (nI c_)) j (pI q 5))) (2 * j + 1) 0 = fdo (fun c_ => decide (v ≤ dysR (upd (h 0) (pI q 3) (nI c_)) j (pI q 5))) (2 * j + 1) 0 := fdo_e (fun x _ _ => by
      show decide (v ≤ dysR (upd (g 0) (pI q 3) (nI x)) j (pI q 5)) = decide (v ≤ dysR (upd (h 0) (pI q 3) (nI x)) j (pI q 5))
      rw [(dysR_e (k := j) (R.1.2.updE (pI q 3) (nI x)) (by rw [sz_updP]; exact R.1.sz')).at hq (f := 5) (by omega)])
    have h2 : fdo (fun c_ => decide (v ≤ dysR (upd (h 0) (pI q 3) (nI c_)) j (pI q 5))) (2 * j + 1) 0 = fdo (fun c_ => decide (v ≤ dysR (upd (h 0) (pI q 3) (nI c_)) j (pI q 5))) (99 + 1) 0 := fdo_ext (by omega) (fun x h3 h4 => by
      show decide (v ≤ dysR (upd (h 0) (pI q 3) (nI x)) j (pI q 5)) = decide (v ≤ dysR (upd (h 0) (pI q 3) (nI (2 * j))) j (pI q 5))
      rw [sea_any (c := x) (c' := 2 * j) R.1.1 hq h3 h4 (Nat.le_refl _) (by omega)])
    have h5 : fdo (fun c_ => decide (v ≤ dysR (upd (h 0) (pI q 3) (nI c_)) j (pI q 5))) (99 + 1) 0 = fdo (fun c_ => decide (v ≤ dysM (upd (h 0) (pI q 3) (nI c_)) j (pI q 5))) 100 0 := fdo_e (fun x _ hx => by
      show decide (v ≤ dysR (upd (h 0) (pI q 3) (nI x)) j (pI q 5)) = decide (v ≤ dysM (upd (h 0) (pI q 3) (nI x)) j (pI q 5))
      rw [dysM_R (inv_updP (i := q) (f := 3) R.1.1 (by omega) ⟨x, show x ≤ 99 by omega, rfl⟩)])
    exact h1.trans (h2.trans h5)
  refine ⟨iteE Iff.rfl (fun _ => rfl) (fun c => ?_), fin2 (iteR Iff.rfl (fun _ => rel_f 0 (by omega) R) (fun c => ?_))⟩
  · rw [hf (Decidable.of_not_not c)]
  · rw [hf (Decidable.of_not_not c)]
    exact iteR Iff.rfl (fun _ => rel_f 3 (by omega) R) (fun _ => R)
theorem q_bagsFor {g h : St} (R : Rel g h) (p m : Int32) : ((if ¬ ((0 ≤ p ∧ p < g 0 1) ∧ (0 ≤ m ∧ m ≤ 40)) then (-1000001) else if fdn (fun b_ => decide (g 0 (pI p.toNatClampNeg 5) < dysR (upd (g 0) (pI p.toNatClampNeg 4) (nI b_)) m.toNatClampNeg (pI p.toNatClampNeg 5))) 10 < 0 then (-1000004) else fdn (fun b_ => decide (g 0 (pI p.toNatClampNeg 5) < dysR (upd (g 0) (pI p.toNatClampNeg 4) (nI b_)) m.toNatClampNeg (pI p.toNatClampNeg 5))) 10) : Int32) = (if ¬ ((0 ≤ p ∧ p < h 0 1) ∧ (0 ≤ m ∧ m ≤ 40)) then (-1000001) else if fdn (fun c_ => decide (h 0 (pI p.toNatClampNeg 5) + 1 ≤ dysM (upd (h 0) (pI p.toNatClampNeg 4) (nI c_)) m.toNatClampNeg (pI p.toNatClampNeg 5))) 10 < 0 then (-1000004) else fdn (fun c_ => decide (h 0 (pI p.toNatClampNeg 5) + 1 ≤ dysM (upd (h 0) (pI p.toNatClampNeg 4) (nI c_)) m.toNatClampNeg (pI p.toNatClampNeg 5))) 10) ∧ ∀ u0 w0, (fun u => ∃ ρ : Nat → Int32, u = va_up (if ¬ ((0 ≤ p ∧ p < g 0 1) ∧ (0 ≤ m ∧ m ≤ 40)) then va_up g 16 (fndR (g 16) 0) else if fdn (fun b_ => decide (g 0 (pI p.toNatClampNeg 5) < dysR (upd (g 0) (pI p.toNatClampNeg 4) (nI b_)) m.toNatClampNeg (pI p.toNatClampNeg 5))) 10 < 0 then va_up g 16 (fndR (g 16) 3) else g) 1 ρ) u0 → (fun u => ∃ ρ : Nat → Int32, u = va_up (if ¬ ((0 ≤ p ∧ p < h 0 1) ∧ (0 ≤ m ∧ m ≤ 40)) then va_up h 4 (mfnR (h 4) 0) else if fdn (fun c_ => decide (h 0 (pI p.toNatClampNeg 5) + 1 ≤ dysM (upd (h 0) (pI p.toNatClampNeg 4) (nI c_)) m.toNatClampNeg (pI p.toNatClampNeg 5))) 10 < 0 then va_up h 4 (mfnR (h 4) 3) else h) 2 ρ) w0 → Rel u0 w0 := by
  have e1 : g 0 1 = h 0 1 := R.1.2.hd (by omega)
  rw [e1]
  have hf : (0 ≤ p ∧ p < h 0 1) ∧ (0 ≤ m ∧ m ≤ 40) → fdn (fun b_ => decide (g 0 (pI p.toNatClampNeg 5) < dysR (upd (g 0) (pI p.toNatClampNeg 4) (nI b_)) m.toNatClampNeg (pI p.toNatClampNeg 5))) 10 = fdn (fun c_ => decide (h 0 (pI p.toNatClampNeg 5) + 1 ≤ dysM (upd (h 0) (pI p.toNatClampNeg 4) (nI c_)) m.toNatClampNeg (pI p.toNatClampNeg 5))) 10 := fun c => by
    obtain ⟨q, hq, -, eq, -⟩ := per_lt R.1.1 c.1
    rw [eq]
    refine fdn_e (fun x hx => ?_)
    have hN : relN (upd (g 0) (pI q 4) (nI x)) (upd (h 0) (pI q 4) (nI x)) := R.1.upd (inv_updP R.1.1 (by omega) ⟨x, show x ≤ 9 by omega, rfl⟩) (by simp only [pI]; omega)
    have hd := hN.dys m.toNatClampNeg
    have hs : sz (dysM (upd (h 0) (pI q 4) (nI x)) m.toNatClampNeg) = sz (h 0) := by rw [dysM_R hN.1, dysR_sz, sz_updP]
    have hq2 : q < sz (dysM (upd (h 0) (pI q 4) (nI x)) m.toNatClampNeg) := by rw [hs]; exact hq
    obtain ⟨a, ha, ea⟩ := (R.1.1.p hq).m
    obtain ⟨b, hb, eb⟩ := (hd.1.p hq2).m
    show decide (g 0 (pI q 5) < dysR (upd (g 0) (pI q 4) (nI x)) m.toNatClampNeg (pI q 5)) = decide (h 0 (pI q 5) + 1 ≤ dysM (upd (h 0) (pI q 4) (nI x)) m.toNatClampNeg (pI q 5))
    rw [R.1.2.at hq (f := 5) (by omega), hd.2.at hq2 (f := 5) (by omega), ea, eb, nI_1]
    apply decide_eq_decide.mpr
    rw [nI_ltI (by omega) (by omega), nI_leI (by omega) (by omega)]
    omega
  refine ⟨iteE Iff.rfl (fun _ => rfl) (fun c => ?_), fin2 (iteR Iff.rfl (fun _ => rel_f 0 (by omega) R) (fun c => ?_))⟩
  · rw [hf (Decidable.of_not_not c)]
  · rw [hf (Decidable.of_not_not c)]
    exact iteR Iff.rfl (fun _ => rel_f 3 (by omega) R) (fun _ => R)
theorem q_leaveOut {g h : St} (R : Rel g h) (m : Int32) : ((if ¬ (0 ≤ m ∧ m ≤ 20) then (-1000001) else if oI (fO (fun a_ s_ => decide (bc (nI s_) = nI a_) && kapN (fun i_ => sumN (dysR (outN (nI s_) (g 0) (sz (g 0))) i_) (sz (g 0))) (sumN (g 0) (sz (g 0))) m.toNatClampNeg) (2 ^ sz (g 0)) (sz (g 0) + 1) 0) < 0 then (-1000004) else oI (fO (fun a_ s_ => decide (bc (nI s_) = nI a_) && kapN (fun i_ => sumN (dysR (outN (nI s_) (g 0) (sz (g 0))) i_) (sz (g 0))) (sumN (g 0) (sz (g 0))) m.toNatClampNeg) (2 ^ sz (g 0)) (sz (g 0) + 1) 0)) : Int32) = (if ¬ (0 ≤ m ∧ m ≤ 20) then (-1000001) else if oI (lvB (fun s_ => decide (sumN (dysM (outN (nI s_) (h 0) (sz (h 0))) m.toNatClampNeg) (sz (dysM (outN (nI s_) (h 0) (sz (h 0))) m.toNatClampNeg)) = sumN (h 0) (sz (h 0)))) (2 ^ sz (h 0)) (2 ^ sz (h 0))) < 0 then (-1000004) else oI (lvB (fun s_ => decide (sumN (dysM (outN (nI s_) (h 0) (sz (h 0))) m.toNatClampNeg) (sz (dysM (outN (nI s_) (h 0) (sz (h 0))) m.toNatClampNeg)) = sumN (h 0) (sz (h 0)))) (2 ^ sz (h 0)) (2 ^ sz (h 0)))) ∧ ∀ u0 w0, (fun u => ∃ ρ : Nat → Int32, u = va_up (if ¬ (0 ≤ m ∧ m ≤ 20) then va_up g 16 (fndR (g 16) 0) else if oI (fO (fun a_ s_ => decide (bc (nI s_) = nI a_) && kapN (fun i_ => sumN (dysR (outN (nI s_) (g 0) (sz (g 0))) i_) (sz (g 0))) (sumN (g 0) (sz (g 0))) m.toNatClampNeg) (2 ^ sz (g 0)) (sz (g 0) + 1) 0) < 0 then va_up g 16 (fndR (g 16) 3) else g) 1 ρ) u0 → (fun u => ∃ ρ : Nat → Int32, u = va_up (if ¬ (0 ≤ m ∧ m ≤ 20) then va_up h 4 (mfnR (h 4) 0) else if oI (lvB (fun s_ => decide (sumN (dysM (outN (nI s_) (h 0) (sz (h 0))) m.toNatClampNeg) (sz (dysM (outN (nI s_) (h 0) (sz (h 0))) m.toNatClampNeg)) = sumN (h 0) (sz (h 0)))) (2 ^ sz (h 0)) (2 ^ sz (h 0))) < 0 then va_up h 4 (mfnR (h 4) 3) else h) 2 ρ) w0 → Rel u0 w0 := by
  rw [lo_rel R.1 m.toNatClampNeg]
  exact ⟨iteE Iff.rfl (fun _ => rfl) (fun _ => rfl), fin2 (iteR Iff.rfl (fun _ => rel_f 0 (by omega) R) (fun _ => iteR Iff.rfl (fun _ => rel_f 3 (by omega) R) (fun _ => R)))⟩
theorem q_fits {g h : St} (R : Rel g h) (s p : Int32) : ((if ¬ (0 ≤ s ∧ s ≤ 3) then (-1000001) else if g (8 + s.toNatClampNeg) 0 = 0 then (-1000006) else if ¬ (0 ≤ p ∧ p < g 0 1) then (-1000001) else vatN (fun v_ => gatN (g (12 + s.toNatClampNeg)) (upd (g 0) (pI p.toNatClampNeg 2) (nI v_)) p.toNatClampNeg (g (8 + s.toNatClampNeg) 1).toNatClampNeg) 16) : Int32) = (if ¬ (0 ≤ s ∧ s ≤ 3) then (-1000001) else if h 8 s.toNatClampNeg = 0 then (-1000006) else if ¬ (0 ≤ p ∧ p < h 0 1) then (-1000001) else vatN (fun v_ => gatM (nuM (h 10) s.toNatClampNeg) (upd (h 0) (pI p.toNatClampNeg 2) (nI v_)) (pI p.toNatClampNeg 2) (h 9 s.toNatClampNeg).toNatClampNeg) 16) ∧ ∀ u0 w0, (fun u => ∃ ρ : Nat → Int32, u = va_up (if ¬ (0 ≤ s ∧ s ≤ 3) then va_up g 16 (fndR (g 16) 0) else if g (8 + s.toNatClampNeg) 0 = 0 then va_up g 16 (fndR (g 16) 5) else if ¬ (0 ≤ p ∧ p < g 0 1) then va_up g 16 (fndR (g 16) 0) else g) 1 ρ) u0 → (fun u => ∃ ρ : Nat → Int32, u = va_up (if ¬ (0 ≤ s ∧ s ≤ 3) then va_up h 4 (mfnR (h 4) 0) else if h 8 s.toNatClampNeg = 0 then va_up h 4 (mfnR (h 4) 5) else if ¬ (0 ≤ p ∧ p < h 0 1) then va_up h 4 (mfnR (h 4) 0) else h) 2 ρ) w0 → Rel u0 w0 := by
  have e1 : g 0 1 = h 0 1 := R.1.2.hd (by omega)
  rw [e1]
  have hs : ¬ ¬ (0 ≤ s ∧ s ≤ 3) → ∃ j, j < 4 ∧ s.toNatClampNeg = j := fun c => by
    obtain ⟨j, hj, ej, -⟩ := cl_le (Decidable.of_not_not c) (n := 3) rfl (by omega)
    exact ⟨j, by omega, ej⟩
  have h0 : ¬ ¬ (0 ≤ s ∧ s ≤ 3) → (g (8 + s.toNatClampNeg) 0 = 0 ↔ h 8 s.toNatClampNeg = 0) := fun c => by
    obtain ⟨j, hj, ej⟩ := hs c
    rw [ej, (R.2.2.2.2 j hj).1]
  refine ⟨iteE Iff.rfl (fun _ => rfl) (fun c => iteE (h0 c) (fun _ => rfl) (fun _ => iteE Iff.rfl (fun _ => rfl) (fun c2 => ?_))), fin2 (iteR Iff.rfl (fun _ => rel_f 0 (by omega) R) (fun c => iteR (h0 c) (fun _ => rel_f 5 (by omega) R) (fun _ => iteR Iff.rfl (fun _ => rel_f 0 (by omega) R) (fun _ => R))))⟩
  obtain ⟨j, hj, ej⟩ := hs c
  obtain ⟨q, hq, -, eq, -⟩ := per_lt R.1.1 (Decidable.of_not_not c2)
  obtain ⟨-, ⟨L, hL, eL, eL2⟩, hn⟩ := R.2.2.2.2 j hj
  rw [ej, eq, eL, eL2, nI_clamp (by omega)]
  refine vatN_e (fun x hx => ?_)
  have hN : relN (upd (g 0) (pI q 2) (nI x)) (upd (h 0) (pI q 2) (nI x)) := R.1.upd (inv_updP R.1.1 (by omega) ⟨x, show x ≤ 15 by omega, rfl⟩) (by simp only [pI]; omega)
  have hs2 : sz (upd (h 0) (pI q 2) (nI x)) = sz (h 0) := sz_updP
  show gatN (g (12 + j)) (upd (g 0) (pI q 2) (nI x)) q L = gatM (nuM (h 10) j) (upd (h 0) (pI q 2) (nI x)) (pI q 2) L
  rw [gatN_e hN.2 hN.sz' (by rw [hs2]; exact hq)]
  exact gat_eq hN.1 L (fun i hi => hn i (by omega))
theorem q_kinds {g h : St} (R : Rel g h) (s p : Int32) : ((if ¬ (0 ≤ s ∧ s ≤ 3) then (-1000001) else if g (8 + s.toNatClampNeg) 0 = 0 then (-1000006) else if ¬ (0 ≤ p ∧ p < g 0 1) then (-1000001) else vatN (fun v_ => gatN (g (12 + s.toNatClampNeg)) (upd (g 0) (pI p.toNatClampNeg 0) (nI v_)) p.toNatClampNeg (g (8 + s.toNatClampNeg) 1).toNatClampNeg) 7) : Int32) = (if ¬ (0 ≤ s ∧ s ≤ 3) then (-1000001) else if h 8 s.toNatClampNeg = 0 then (-1000006) else if ¬ (0 ≤ p ∧ p < h 0 1) then (-1000001) else vatN (fun v_ => gatM (nuM (h 10) s.toNatClampNeg) (upd (h 0) (pI p.toNatClampNeg 0) (nI v_)) (pI p.toNatClampNeg 2) (h 9 s.toNatClampNeg).toNatClampNeg) 7) ∧ ∀ u0 w0, (fun u => ∃ ρ : Nat → Int32, u = va_up (if ¬ (0 ≤ s ∧ s ≤ 3) then va_up g 16 (fndR (g 16) 0) else if g (8 + s.toNatClampNeg) 0 = 0 then va_up g 16 (fndR (g 16) 5) else if ¬ (0 ≤ p ∧ p < g 0 1) then va_up g 16 (fndR (g 16) 0) else g) 1 ρ) u0 → (fun u => ∃ ρ : Nat → Int32, u = va_up (if ¬ (0 ≤ s ∧ s ≤ 3) then va_up h 4 (mfnR (h 4) 0) else if h 8 s.toNatClampNeg = 0 then va_up h 4 (mfnR (h 4) 5) else if ¬ (0 ≤ p ∧ p < h 0 1) then va_up h 4 (mfnR (h 4) 0) else h) 2 ρ) w0 → Rel u0 w0 := by
  have e1 : g 0 1 = h 0 1 := R.1.2.hd (by omega)
  rw [e1]
  have hs : ¬ ¬ (0 ≤ s ∧ s ≤ 3) → ∃ j, j < 4 ∧ s.toNatClampNeg = j := fun c => by
    obtain ⟨j, hj, ej, -⟩ := cl_le (Decidable.of_not_not c) (n := 3) rfl (by omega)
    exact ⟨j, by omega, ej⟩
  have h0 : ¬ ¬ (0 ≤ s ∧ s ≤ 3) → (g (8 + s.toNatClampNeg) 0 = 0 ↔ h 8 s.toNatClampNeg = 0) := fun c => by
    obtain ⟨j, hj, ej⟩ := hs c
    rw [ej, (R.2.2.2.2 j hj).1]
  refine ⟨iteE Iff.rfl (fun _ => rfl) (fun c => iteE (h0 c) (fun _ => rfl) (fun _ => iteE Iff.rfl (fun _ => rfl) (fun c2 => ?_))), fin2 (iteR Iff.rfl (fun _ => rel_f 0 (by omega) R) (fun c => iteR (h0 c) (fun _ => rel_f 5 (by omega) R) (fun _ => iteR Iff.rfl (fun _ => rel_f 0 (by omega) R) (fun _ => R))))⟩
  obtain ⟨j, hj, ej⟩ := hs c
  obtain ⟨q, hq, -, eq, -⟩ := per_lt R.1.1 (Decidable.of_not_not c2)
  obtain ⟨-, ⟨L, hL, eL, eL2⟩, hn⟩ := R.2.2.2.2 j hj
  rw [ej, eq, eL, eL2, nI_clamp (by omega)]
  refine vatN_e (fun x hx => ?_)
  have hN : relN (upd (g 0) (pI q 0) (nI x)) (upd (h 0) (pI q 0) (nI x)) := R.1.upd (inv_updP R.1.1 (by omega) ⟨x, show x ≤ 6 by omega, rfl⟩) (by simp only [pI]; omega)
  have hs2 : sz (upd (h 0) (pI q 0) (nI x)) = sz (h 0) := sz_updP
  show gatN (g (12 + j)) (upd (g 0) (pI q 0) (nI x)) q L = gatM (nuM (h 10) j) (upd (h 0) (pI q 0) (nI x)) (pI q 2) L
  rw [gatN_e hN.2 hN.sz' (by rw [hs2]; exact hq)]
  exact gat_eq hN.1 L (fun i hi => hn i (by omega))
theorem q_stroll {g h : St} (R : Rel g h) (m : Int32) : ((if ¬ (0 ≤ (m - 1) ∧ (m - 1) ≤ 19) then (-1000001) else if ¬ m ≤ 99999 - g 0 0 then (-1000005) else drsR (g 0) m.toNatClampNeg 3) : Int32) = (if ¬ (1 ≤ m ∧ m ≤ 20) then (-1000001) else if 99999 < h 0 0 + m then (-1000005) else drsM (h 0) m.toNatClampNeg 3) ∧ ∀ u0 w0, (fun u => ∃ ρ : Nat → Int32, u = va_up (if ¬ (0 ≤ (m - 1) ∧ (m - 1) ≤ 19) then va_up g 16 (fndR (g 16) 0) else if ¬ m ≤ 99999 - g 0 0 then va_up g 16 (fndR (g 16) 4) else va_up g 0 (drsR (g 0) m.toNatClampNeg)) 1 ρ) u0 → (fun u => ∃ ρ : Nat → Int32, u = va_up (if ¬ (1 ≤ m ∧ m ≤ 20) then va_up h 4 (mfnR (h 4) 0) else if 99999 < h 0 0 + m then va_up h 4 (mfnR (h 4) 4) else va_up h 0 (drsM (h 0) m.toNatClampNeg)) 2 ρ) w0 → Rel u0 w0 := by
  have e0 : g 0 0 = h 0 0 := R.1.2.hd (by omega)
  rw [e0]
  have hc : ¬ (0 ≤ (m - 1) ∧ (m - 1) ≤ 19) ↔ ¬ (1 ≤ m ∧ m ≤ 20) := not_congr (n1_iff 19 (by omega))
  have hl : ¬ ¬ (0 ≤ (m - 1) ∧ (m - 1) ≤ 19) → (¬ m ≤ 99999 - h 0 0 ↔ 99999 < h 0 0 + m) := fun c => by
    obtain ⟨d, hd, ed⟩ := R.1.1.d
    obtain ⟨j, h1, h2, ej⟩ := in_n1 (Decidable.of_not_not c) (m := 19) rfl
    rw [ed, ej]
    exact left_iff hd (by omega)
  refine ⟨iteE hc (fun _ => rfl) (fun c => iteE (hl c) (fun _ => rfl) (fun _ => (R.1.drs _).2.hd (by omega))), fin2 (iteR hc (fun _ => rel_f 0 (by omega) R) (fun c => iteR (hl c) (fun _ => rel_f 4 (by omega) R) (fun _ => rel_n R (R.1.drs _))))⟩
theorem q_odds {g h : St} (R : Rel g h) (p m w : Int32) : (if (0 ≤ p ∧ p < g 0 1) ∧ (0 ≤ m ∧ m ≤ 15) ∧ (0 ≤ w ∧ w ≤ 1) then pwN (((if w = 0 then ctmN (g 0) p.toNatClampNeg (sz (g 0)) 16 else 16) / nI (Nat.gcd (ctmN (g 0) p.toNatClampNeg (sz (g 0)) 16).toNatClampNeg 16)).toInt64) m.toNatClampNeg else (-1000001 : Int32).toInt64) = (if (0 ≤ p ∧ p < h 0 1) ∧ (0 ≤ m ∧ m ≤ 15) ∧ (0 ≤ w ∧ w ≤ 1) then pwN (((if w = 0 then ctmM (h 0) p.toNatClampNeg (sz (h 0)) 16 else 16) / nI (Nat.gcd (ctmM (h 0) p.toNatClampNeg (sz (h 0)) 16).toNatClampNeg 16)).toInt64) m.toNatClampNeg else (-1000001 : Int32).toInt64) ∧ Rel (if (0 ≤ p ∧ p < g 0 1) ∧ (0 ≤ m ∧ m ≤ 15) ∧ (0 ≤ w ∧ w ≤ 1) then g else va_up g 16 (fndR (g 16) 0)) (if (0 ≤ p ∧ p < h 0 1) ∧ (0 ≤ m ∧ m ≤ 15) ∧ (0 ≤ w ∧ w ≤ 1) then h else va_up h 4 (mfnR (h 4) 0)) := by
  have e1 : g 0 1 = h 0 1 := R.1.2.hd (by omega)
  rw [e1]
  refine ⟨iteE Iff.rfl (fun c => ?_) (fun _ => rfl), iteR Iff.rfl (fun c => R) (fun _ => rel_f 0 (by omega) R)⟩
  obtain ⟨q, hq, -, eq, -⟩ := per_lt R.1.1 c.1
  rw [eq, R.1.sz', ctmN_e R.1.2 hq, ctm_eq]
theorem q_seed {g h : St} (R : Rel g h) (v : Int32) : ((g 0 2) : Int32) = (h 0 2) ∧ ∀ u0 w0, (fun u => ∃ ρ : Nat → Int32, u = va_up (va_up g 0 (upd (g 0) 2 v)) 1 ρ) u0 → (fun u => ∃ ρ : Nat → Int32, u = va_up (va_up h 0 (upd (h 0) 2 v)) 2 ρ) w0 → Rel u0 w0 := by
  exact ⟨R.1.2.hd (by omega), fin2 (rel_n R (R.1.upd (inv_upd2 R.1.1) (by omega)))⟩
theorem q_feed {g h : St} (R : Rel g h) (b m : Int32) : ((if ¬ (0 ≤ (m - 1) ∧ (m - 1) ≤ 3) then (-1000001) else if ¬ m ≤ 120 - g 5 0 then (-1000002) else nI ((g 5 0).toNatClampNeg + m.toNatClampNeg)) : Int32) = (if ¬ (1 ≤ m ∧ m ≤ 4) then (-1000001) else if 120 < h 3 6 + m then (-1000002) else h 3 6 + m) ∧ ∀ u0 w0, (fun u => ∃ ρ : Nat → Int32, u = va_up (if ¬ (0 ≤ (m - 1) ∧ (m - 1) ≤ 3) then va_up g 16 (fndR (g 16) 0) else if ¬ m ≤ 120 - g 5 0 then va_up g 16 (fndR (g 16) 1) else va_up (va_up g 6 (appN b (g 5 0).toNatClampNeg m.toNatClampNeg (g 6) m.toNatClampNeg)) 5 (upd (g 5) 0 (nI ((g 5 0).toNatClampNeg + m.toNatClampNeg)))) 1 ρ) u0 → (fun u => ∃ ρ : Nat → Int32, u = va_up (if ¬ (1 ≤ m ∧ m ≤ 4) then va_up h 4 (mfnR (h 4) 0) else if 120 < h 3 6 + m then va_up h 4 (mfnR (h 4) 1) else va_up (va_up h 5 (appM b (h 3 6).toNatClampNeg m.toNatClampNeg (h 5) m.toNatClampNeg)) 3 (upd (h 3) 6 (h 3 6 + m))) 2 ρ) w0 → Rel u0 w0 := by
  obtain ⟨L, hL, e5, e6, hb⟩ := R.2.2.2.1
  have hc : ¬ (0 ≤ (m - 1) ∧ (m - 1) ≤ 3) ↔ ¬ (1 ≤ m ∧ m ≤ 4) := not_congr (n1_iff 3 (by omega))
  have hj : ¬ ¬ (0 ≤ (m - 1) ∧ (m - 1) ≤ 3) → ∃ j, 1 ≤ j ∧ j ≤ 4 ∧ m = nI j := fun c => by
    obtain ⟨j, h1, h2, ej⟩ := in_n1 (Decidable.of_not_not c) (m := 3) rfl
    exact ⟨j, h1, by omega, ej⟩
  have hl : ¬ ¬ (0 ≤ (m - 1) ∧ (m - 1) ≤ 3) → (¬ m ≤ 120 - nI L ↔ 120 < nI L + m) := fun c => by
    obtain ⟨j, h1, h2, ej⟩ := hj c
    rw [ej, show (120 : Int32) = nI 120 from rfl, pk_sub hL, nI_add, nI_leI (by omega) (by omega), nI_ltI (by omega) (by omega)]
    omega
  rw [e5, e6]
  refine ⟨iteE hc (fun _ => rfl) (fun c => iteE (hl c) (fun _ => rfl) (fun _ => ?_)), fin2 (iteR hc (fun _ => rel_f 0 (by omega) R) (fun c => iteR (hl c) (fun _ => rel_f 1 (by omega) R) (fun c2 => ?_)))⟩
  · obtain ⟨j, h1, h2, ej⟩ := hj c
    rw [ej, nI_clamp (by omega), nI_clamp (by omega), nI_add]
  · obtain ⟨j, h1, h2, ej⟩ := hj c
    rw [ej] at c2 ⊢
    have hLj := tp_le2 hL h2 (Decidable.of_not_not c2)
    rw [nI_clamp (by omega), nI_clamp (by omega), nI_add]
    refine ⟨R.1, R.2.1, R.2.2.1, ⟨L + j, hLj, rfl, rfl, fun k hk => ?_⟩, relS_l (relS_l (relS_r (relS_r R.2.2.2.2 (by omega)) (by omega)) (by omega)) (by omega)⟩
    show byE (appN b L j (g 6) j k) (appM b L j (h 5) j k)
    rw [app_at, apM_at]
    by_cases h : L ≤ k ∧ k < L + j
    · rw [if_pos h, if_pos h]; exact byE_x _
    · rw [if_neg h, if_neg h]; exact hb k (by omega)
theorem q_wipe {g h : St} (R : Rel g h) : ((g 5 0) : Int32) = (h 3 6) ∧ ∀ u0 w0, (fun u => ∃ ρ : Nat → Int32, u = va_up (va_up g 5 (upd (g 5) 0 0)) 1 ρ) u0 → (fun u => ∃ ρ : Nat → Int32, u = va_up (va_up h 3 (upd (h 3) 6 0)) 2 ρ) w0 → Rel u0 w0 := by
  obtain ⟨L, hL, e5, e6, hb⟩ := R.2.2.2.1
  refine ⟨e5.trans e6.symm, fin2 ⟨R.1, R.2.1, R.2.2.1, ⟨0, by omega, rfl, rfl, fun k hk => by omega⟩, relS_l (relS_r R.2.2.2.2 (by omega)) (by omega)⟩⟩
theorem q_text {g h : St} (R : Rel g h) (L : Nat) (h5 : g 5 0 = nI L) (hL : L ≤ 120) : (txA (g 6) L 61 0 (becR (g 1) (g 0)) 0) = (txA (h 5) L 61 0 (h 0) 0) ∧ ∀ u0 w0, (fun u => ∃ ρ τ : Nat → Int32, τ 0 = 0 ∧ u = va_up (va_up (va_up g 0 (if txA (g 6) L 61 0 (becR (g 1) (g 0)) 0 < 0 then g 0 else becR (g 0) (txR (g 6) L 61 (becR (g 1) (g 0)) 0))) 1 ρ) 5 τ) u0 → (fun u => ∃ τ σ : Nat → Int32, τ 3 = h 3 3 ∧ τ 6 = 0 ∧ u = va_up (va_up (va_up h 0 (if txA (h 5) L 61 0 (h 0) 0 < 0 then h 0 else txR (h 5) L 61 (h 0) 0)) 7 σ) 3 τ) w0 → Rel u0 w0 := by
  obtain ⟨L2, hL2, e5, e6, hb⟩ := R.2.2.2.1
  have hLL : L2 = L := (nI_eq (by omega) (by omega)).mp (e5.symm.trans h5)
  subst hLL
  have X := lx_of hb
  have hq : eqv (sz (becR (g 1) (g 0))) (becR (g 1) (g 0)) (h 0) := by
    have h1 := becR_e (r := g 1) (r' := g 0)
    rw [becR_sz]
    exact h1.trans (by rw [R.1.sz']; exact R.1.2)
  have eA : txA (g 6) L2 61 0 (becR (g 1) (g 0)) 0 = txA (h 5) L2 61 0 (h 0) 0 := by rw [txA_c X, txA_e hq]
  refine ⟨eA, ?_⟩
  rw [eA]
  intro u w hu hw
  obtain ⟨ρ, τ, t0, rfl⟩ := hu
  obtain ⟨τ', σ, t3, t6, rfl⟩ := hw
  refine ⟨?_, ⟨?_, ?_⟩, R.2.2.1, ⟨0, by omega, t0, t6, fun k hk => by omega⟩, relS_l (relS_l (relS_l (relS_r (relS_r (relS_r R.2.2.2.2 (by omega)) (by omega)) (by omega)) (by omega)) (by omega)) (by omega)⟩
  · show relN (if txA (h 5) L2 61 0 (h 0) 0 < 0 then g 0 else becR (g 0) (txR (g 6) L2 61 (becR (g 1) (g 0)) 0)) (if txA (h 5) L2 61 0 (h 0) 0 < 0 then h 0 else txR (h 5) L2 61 (h 0) 0)
    by_cases hc : txA (h 5) L2 61 0 (h 0) 0 < 0
    · rw [if_pos hc, if_pos hc]; exact R.1
    · rw [if_neg hc, if_neg hc, txR_c X]
      refine ⟨txR_inv R.1.1, ?_⟩
      have h2 := txR_e (b := h 5) (L := L2) (f := 61) (e := 0) hq
      have h3 := becR_e (r := g 0) (r' := txR (h 5) L2 61 (becR (g 1) (g 0)) 0)
      rw [← h2.szE]
      exact h3.trans h2
  · show g 3 3 = τ' 3
    rw [t3]; exact R.2.1.1
  · exact R.2.1.2
theorem q_hold {g h : St} (R : Rel g h) (s p : Int32) : ((if (0 ≤ s ∧ s ≤ 9) ∧ (p = -1 ∨ (0 ≤ p ∧ p < g 0 1)) then 1 else (-1000001)) : Int32) = (if (0 ≤ s ∧ s ≤ 9) ∧ (p = -1 ∨ (0 ≤ p ∧ p < h 0 1)) then 1 else (-1000001)) ∧ ∀ u0 w0, (fun u => ∃ ρ : Nat → Int32, u = va_up (if (0 ≤ s ∧ s ≤ 9) ∧ (p = -1 ∨ (0 ≤ p ∧ p < g 0 1)) then va_up g 0 (upd (g 0) (10 + s.toNatClampNeg) p) else va_up g 16 (fndR (g 16) 0)) 1 ρ) u0 → (fun u => ∃ ρ : Nat → Int32, u = va_up (if (0 ≤ s ∧ s ≤ 9) ∧ (p = -1 ∨ (0 ≤ p ∧ p < h 0 1)) then va_up h 0 (upd (h 0) (10 + s.toNatClampNeg) p) else va_up h 4 (mfnR (h 4) 0)) 2 ρ) w0 → Rel u0 w0 := by
  have e1 : g 0 1 = h 0 1 := R.1.2.hd (by omega)
  rw [e1]
  refine ⟨iteE Iff.rfl (fun _ => rfl) (fun _ => rfl), fin2 (iteR Iff.rfl (fun c => ?_) (fun _ => rel_f 0 (by omega) R))⟩
  obtain ⟨j, hj, ej, -⟩ := cl_le c.1 (n := 9) rfl (by omega)
  rw [ej]
  refine rel_n R (R.1.upd (inv_updS R.1.1 (by omega) ?_) (by omega))
  rcases c.2 with z | z
  · exact Or.inl z
  · obtain ⟨q, hq, -, -, e⟩ := per_lt R.1.1 z
    exact Or.inr ⟨q, hq, e⟩
theorem q_as {g h : St} (R : Rel g h) (s k : Int32) : ((if ¬ ((0 ≤ s ∧ s ≤ 9) ∧ (0 ≤ k ∧ k ≤ 6)) then (-1000001) else if ¬ (0 ≤ g 0 (10 + s.toNatClampNeg) ∧ g 0 (10 + s.toNatClampNeg) < g 0 1) then (-1000006) else if isU (g 0 (pI (g 0 (10 + s.toNatClampNeg)).toNatClampNeg 0)) k = true then g 0 (10 + s.toNatClampNeg) else (-1000003)) : Int32) = (if ¬ ((0 ≤ s ∧ s ≤ 9) ∧ (0 ≤ k ∧ k ≤ 6)) then (-1000001) else if h 0 (10 + s.toNatClampNeg) < 0 then (-1000006) else if isU (h 0 (pI (h 0 (10 + s.toNatClampNeg)).toNatClampNeg 0)) k = true then h 0 (10 + s.toNatClampNeg) else (-1000003)) ∧ ∀ u0 w0, (fun u => ∃ ρ : Nat → Int32, u = va_up (if ¬ ((0 ≤ s ∧ s ≤ 9) ∧ (0 ≤ k ∧ k ≤ 6)) then va_up g 16 (fndR (g 16) 0) else if ¬ (0 ≤ g 0 (10 + s.toNatClampNeg) ∧ g 0 (10 + s.toNatClampNeg) < g 0 1) then va_up g 16 (fndR (g 16) 5) else if isU (g 0 (pI (g 0 (10 + s.toNatClampNeg)).toNatClampNeg 0)) k = true then g else va_up g 16 (fndR (g 16) 2)) 1 ρ) u0 → (fun u => ∃ ρ : Nat → Int32, u = va_up (if ¬ ((0 ≤ s ∧ s ≤ 9) ∧ (0 ≤ k ∧ k ≤ 6)) then va_up h 4 (mfnR (h 4) 0) else if h 0 (10 + s.toNatClampNeg) < 0 then va_up h 4 (mfnR (h 4) 5) else if isU (h 0 (pI (h 0 (10 + s.toNatClampNeg)).toNatClampNeg 0)) k = true then h else va_up h 4 (mfnR (h 4) 2)) 2 ρ) w0 → Rel u0 w0 := by
  have e1 : g 0 1 = h 0 1 := R.1.2.hd (by omega)
  have hn := R.1.1.n
  have hsp : ¬ ¬ ((0 ≤ s ∧ s ≤ 9) ∧ (0 ≤ k ∧ k ≤ 6)) → g 0 (10 + s.toNatClampNeg) = h 0 (10 + s.toNatClampNeg) ∧ (h 0 (10 + s.toNatClampNeg) = -1 ∨ ∃ q, q < sz (h 0) ∧ h 0 (10 + s.toNatClampNeg) = nI q) := fun c => by
    obtain ⟨j, hj, ej, -⟩ := cl_le (Decidable.of_not_not c).1 (n := 9) rfl (by omega)
    rw [ej]
    exact ⟨R.1.2.hd (by omega), R.1.1.2.2.2.1 j (by omega)⟩
  have hc : ¬ ¬ ((0 ≤ s ∧ s ≤ 9) ∧ (0 ≤ k ∧ k ≤ 6)) → (¬ (0 ≤ g 0 (10 + s.toNatClampNeg) ∧ g 0 (10 + s.toNatClampNeg) < g 0 1) ↔ h 0 (10 + s.toNatClampNeg) < 0) := fun c => by
    obtain ⟨ea, hb⟩ := hsp c
    rw [ea, e1, R.1.1.r1]
    rcases hb with z | ⟨q, hq, z⟩
    · rw [z]
      exact ⟨fun _ => by decide, fun _ y => absurd y.1 (by decide)⟩
    · rw [z]
      exact ⟨fun y => absurd ⟨nI_pos' (by omega), nI_lt hq (by omega)⟩ y, fun y => absurd y (nI_pos (by omega))⟩
  have hk : ¬ ¬ ((0 ≤ s ∧ s ≤ 9) ∧ (0 ≤ k ∧ k ≤ 6)) → ¬ ¬ (0 ≤ g 0 (10 + s.toNatClampNeg) ∧ g 0 (10 + s.toNatClampNeg) < g 0 1) → (isU (g 0 (pI (g 0 (10 + s.toNatClampNeg)).toNatClampNeg 0)) k = true ↔ isU (h 0 (pI (h 0 (10 + s.toNatClampNeg)).toNatClampNeg 0)) k = true) := fun c c2 => by
    obtain ⟨ea, hb⟩ := hsp c
    rcases hb with z | ⟨q, hq, z⟩
    · have := (Decidable.of_not_not c2).1
      rw [ea, z] at this
      exact absurd this (by decide)
    · rw [ea, z, nI_clamp (by omega), R.1.2.at hq (f := 0) (by omega)]
  refine ⟨iteE Iff.rfl (fun _ => rfl) (fun c => iteE (hc c) (fun _ => rfl) (fun c2 => iteE (hk c c2) (fun _ => (hsp c).1) (fun _ => rfl))), fin2 (iteR Iff.rfl (fun _ => rel_f 0 (by omega) R) (fun c => iteR (hc c) (fun _ => rel_f 5 (by omega) R) (fun c2 => iteR (hk c c2) (fun _ => R) (fun _ => rel_f 2 (by omega) R))))⟩
theorem q_sheet {g h : St} (R : Rel g h) (s b m : Int32) : ((if ¬ ((0 ≤ s ∧ s ≤ 3) ∧ (b = 0 ∨ b = 8 ∨ b = 16 ∨ b = 32)) then (-1000001) else if m < 0 then (-1000007) else if 40 < m then (-1000001) else if b = 0 then 0 else m) : Int32) = (if ¬ ((0 ≤ s ∧ s ≤ 3) ∧ (b = 0 ∨ b = 8 ∨ b = 16 ∨ b = 32)) then (-1000001) else if m < 0 then (-1000007) else if 40 < m then (-1000001) else if b = 0 then 0 else m) ∧ ∀ u0 w0, (fun u => ∃ ρ : Nat → Int32, u = va_up (if ¬ ((0 ≤ s ∧ s ≤ 3) ∧ (b = 0 ∨ b = 8 ∨ b = 16 ∨ b = 32)) then va_up g 16 (fndR (g 16) 0) else if m < 0 then va_up g 16 (fndR (g 16) 6) else if 40 < m then va_up g 16 (fndR (g 16) 0) else va_up (va_up g (8 + s.toNatClampNeg) (upd (upd (g (8 + s.toNatClampNeg)) 0 b) 1 (if b = 0 then 0 else m))) (12 + s.toNatClampNeg) (zerN (g (12 + s.toNatClampNeg)) 40)) 1 ρ) u0 → (fun u => ∃ ρ : Nat → Int32, u = va_up (if ¬ ((0 ≤ s ∧ s ≤ 3) ∧ (b = 0 ∨ b = 8 ∨ b = 16 ∨ b = 32)) then va_up h 4 (mfnR (h 4) 0) else if m < 0 then va_up h 4 (mfnR (h 4) 6) else if 40 < m then va_up h 4 (mfnR (h 4) 0) else va_up (va_up (va_up h 8 (upd (h 8) s.toNatClampNeg b)) 9 (upd (h 9) s.toNatClampNeg (if b = 0 then 0 else m))) 10 (zerM (h 10) s.toNatClampNeg 40)) 2 ρ) w0 → Rel u0 w0 := by
  refine ⟨iteE Iff.rfl (fun _ => rfl) (fun _ => rfl), fin2 (iteR Iff.rfl (fun _ => rel_f 0 (by omega) R) (fun c => iteR Iff.rfl (fun _ => rel_f 6 (by omega) R) (fun c2 => iteR Iff.rfl (fun _ => rel_f 0 (by omega) R) (fun c3 => ?_))))⟩
  obtain ⟨j, hj, ej, -⟩ := cl_le (Decidable.of_not_not c).1 (n := 3) rfl (by omega)
  obtain ⟨n, hn, en⟩ := in_le (x := m) (M := 40) ⟨Int32.not_lt.mp c2, Int32.not_lt.mp c3⟩ (n := 40) rfl
  rw [ej]
  have hv : ∃ L, L ≤ 40 ∧ (if b = 0 then 0 else m) = nI L := by
    by_cases hb : b = 0
    · rw [if_pos hb]; exact ⟨0, by omega, rfl⟩
    · rw [if_neg hb]; exact ⟨n, hn, en⟩
  obtain ⟨L, hL, eL⟩ := hv
  rw [eL]
  refine ⟨?_, ?_, ?_, ?_, fun t ht => ?_⟩
  · rw [va_up_ne _ _ (show 0 ≠ 12 + j by omega), va_up_ne _ _ (show 0 ≠ 8 + j by omega)]; exact R.1
  · rw [va_up_ne _ _ (show 3 ≠ 12 + j by omega), va_up_ne _ _ (show 3 ≠ 8 + j by omega), va_up_ne _ _ (show 2 ≠ 12 + j by omega), va_up_ne _ _ (show 2 ≠ 8 + j by omega)]; exact R.2.1
  · rw [va_up_ne _ _ (show 16 ≠ 12 + j by omega), va_up_ne _ _ (show 16 ≠ 8 + j by omega)]; exact R.2.2.1
  · rw [va_up_ne _ _ (show 5 ≠ 12 + j by omega), va_up_ne _ _ (show 5 ≠ 8 + j by omega), va_up_ne _ _ (show 6 ≠ 12 + j by omega), va_up_ne _ _ (show 6 ≠ 8 + j by omega)]; exact R.2.2.2.1
  · obtain ⟨h1, h2, h3⟩ := R.2.2.2.2 t ht
    rw [va_up_ne _ _ (show 8 + t ≠ 12 + j by omega)]
    by_cases e : t = j
    · subst e
      rw [va_up_self, va_up_self]
      refine ⟨?_, ⟨L, hL, ?_, ?_⟩, fun k hk => ?_⟩
      · show upd (upd (g (8 + t)) 0 b) 1 (nI L) 0 = upd (h 8) t b t
        rw [pk_us]; rfl
      · exact pk_us
      · show upd (h 9) t (nI L) t = nI L
        exact pk_us
      · show zerN (g (12 + t)) 40 k = zerM (h 10) t 40 (40 * t + k)
        rw [zer_at, zeM_at, if_pos hk, if_pos (by omega)]
    · rw [va_up_ne _ _ (show 8 + t ≠ 8 + j by omega), va_up_ne _ _ (show 12 + t ≠ 12 + j by omega), va_up_ne _ _ (show 12 + t ≠ 8 + j by omega)]
      obtain ⟨L2, hL2, e1, e2⟩ := h2
      refine ⟨?_, ⟨L2, hL2, e1, ?_⟩, fun k hk => ?_⟩
      · show g (8 + t) 0 = upd (h 8) j b t
        rw [pk_un e]; exact h1
      · show upd (h 9) j (nI L) t = nI L2
        rw [pk_un e]; exact e2
      · show g (12 + t) k = zerM (h 10) j 40 (40 * t + k)
        rw [zeM_at, if_neg (by omega)]; exact h3 k hk
theorem q_write {g h : St} (R : Rel g h) (s i v : Int32) : ((if ¬ (0 ≤ s ∧ s ≤ 3) then (-1000001) else if g (8 + s.toNatClampNeg) 0 = 0 then (-1000006) else if ¬ (0 ≤ i ∧ i ≤ g (8 + s.toNatClampNeg) 1 - 1) then (-1000001) else 1) : Int32) = (if ¬ (0 ≤ s ∧ s ≤ 3) then (-1000001) else if h 8 s.toNatClampNeg = 0 then (-1000006) else if ¬ (0 ≤ i ∧ i ≤ h 9 s.toNatClampNeg - 1) then (-1000001) else 1) ∧ ∀ u0 w0, (fun u => ∃ ρ : Nat → Int32, u = va_up (if ¬ (0 ≤ s ∧ s ≤ 3) then va_up g 16 (fndR (g 16) 0) else if g (8 + s.toNatClampNeg) 0 = 0 then va_up g 16 (fndR (g 16) 5) else if ¬ (0 ≤ i ∧ i ≤ g (8 + s.toNatClampNeg) 1 - 1) then va_up g 16 (fndR (g 16) 0) else va_up g (12 + s.toNatClampNeg) (upd (g (12 + s.toNatClampNeg)) i.toNatClampNeg (cutv (g (8 + s.toNatClampNeg) 0) v))) 1 ρ) u0 → (fun u => ∃ ρ : Nat → Int32, u = va_up (if ¬ (0 ≤ s ∧ s ≤ 3) then va_up h 4 (mfnR (h 4) 0) else if h 8 s.toNatClampNeg = 0 then va_up h 4 (mfnR (h 4) 5) else if ¬ (0 ≤ i ∧ i ≤ h 9 s.toNatClampNeg - 1) then va_up h 4 (mfnR (h 4) 0) else va_up h 10 (upd (h 10) (40 * s.toNatClampNeg + i.toNatClampNeg) (cutv (h 8 s.toNatClampNeg) v))) 2 ρ) w0 → Rel u0 w0 := by
  have hs : ¬ ¬ (0 ≤ s ∧ s ≤ 3) → ∃ j, j < 4 ∧ s.toNatClampNeg = j := fun c => by
    obtain ⟨j, hj, ej, -⟩ := cl_le (Decidable.of_not_not c) (n := 3) rfl (by omega)
    exact ⟨j, by omega, ej⟩
  have h0 : ¬ ¬ (0 ≤ s ∧ s ≤ 3) → (g (8 + s.toNatClampNeg) 0 = 0 ↔ h 8 s.toNatClampNeg = 0) := fun c => by
    obtain ⟨j, hj, ej⟩ := hs c
    rw [ej, (R.2.2.2.2 j hj).1]
  have hi : ¬ ¬ (0 ≤ s ∧ s ≤ 3) → (¬ (0 ≤ i ∧ i ≤ g (8 + s.toNatClampNeg) 1 - 1) ↔ ¬ (0 ≤ i ∧ i ≤ h 9 s.toNatClampNeg - 1)) := fun c => by
    obtain ⟨j, hj, ej⟩ := hs c
    obtain ⟨-, ⟨L, hL, eL, eL2⟩, -⟩ := R.2.2.2.2 j hj
    rw [ej, eL, eL2]
  refine ⟨iteE Iff.rfl (fun _ => rfl) (fun c => iteE (h0 c) (fun _ => rfl) (fun _ => iteE (hi c) (fun _ => rfl) (fun _ => rfl))), fin2 (iteR Iff.rfl (fun _ => rel_f 0 (by omega) R) (fun c => iteR (h0 c) (fun _ => rel_f 5 (by omega) R) (fun _ => iteR (hi c) (fun _ => rel_f 0 (by omega) R) (fun c2 => ?_))))⟩
  obtain ⟨j, hj, ej⟩ := hs c
  obtain ⟨e8, ⟨L, hL, eL, eL2⟩, hn⟩ := R.2.2.2.2 j hj
  rw [ej] at c2 ⊢
  rw [eL] at c2
  obtain ⟨x, hx, ex⟩ := in_lt1 (Decidable.of_not_not c2) hL
  rw [ex, nI_clamp (by omega), e8]
  refine ⟨?_, ?_, ?_, ?_, fun t ht => ?_⟩
  · rw [va_up_ne _ _ (show 0 ≠ 12 + j by omega)]; exact R.1
  · rw [va_up_ne _ _ (show 3 ≠ 12 + j by omega), va_up_ne _ _ (show 2 ≠ 12 + j by omega)]; exact R.2.1
  · rw [va_up_ne _ _ (show 16 ≠ 12 + j by omega)]; exact R.2.2.1
  · rw [va_up_ne _ _ (show 5 ≠ 12 + j by omega), va_up_ne _ _ (show 6 ≠ 12 + j by omega)]; exact R.2.2.2.1
  · obtain ⟨h1, h2, h3⟩ := R.2.2.2.2 t ht
    rw [va_up_ne _ _ (show 8 + t ≠ 12 + j by omega)]
    refine ⟨h1, h2, fun k hk => ?_⟩
    show va_up g (12 + j) _ (12 + t) k = upd (h 10) (40 * j + x) _ (40 * t + k)
    by_cases e : t = j
    · subst e
      rw [va_up_self]
      by_cases ek : k = x
      · subst ek; rw [pk_us, pk_us]
      · rw [pk_un ek, pk_un (by omega)]; exact h3 k hk
    · rw [va_up_ne _ _ (show 12 + t ≠ 12 + j by omega), pk_un (by omega)]; exact h3 k hk
theorem q_copy {g h : St} (R : Rel g h) (s f t e m : Int32) : ((if ¬ ((0 ≤ s ∧ s ≤ 3) ∧ (0 ≤ t ∧ t ≤ 3)) then (-1000001) else if g (8 + s.toNatClampNeg) 0 = 0 ∨ g (8 + t.toNatClampNeg) 0 = 0 then (-1000006) else if ¬ g (8 + s.toNatClampNeg) 0 = g (8 + t.toNatClampNeg) 0 then (-1000003) else if ¬ ((0 ≤ f ∧ 0 ≤ m ∧ f ≤ g (8 + s.toNatClampNeg) 1 ∧ m ≤ g (8 + s.toNatClampNeg) 1 - f) ∧ (0 ≤ e ∧ 0 ≤ m ∧ e ≤ g (8 + t.toNatClampNeg) 1 ∧ m ≤ g (8 + t.toNatClampNeg) 1 - e)) then (-1000001) else m) : Int32) = (if ¬ ((0 ≤ s ∧ s ≤ 3) ∧ (0 ≤ t ∧ t ≤ 3)) then (-1000001) else if h 8 s.toNatClampNeg = 0 ∨ h 8 t.toNatClampNeg = 0 then (-1000006) else if ¬ h 8 s.toNatClampNeg = h 8 t.toNatClampNeg then (-1000003) else if ¬ ((0 ≤ f ∧ 0 ≤ m ∧ f ≤ h 9 s.toNatClampNeg ∧ m ≤ h 9 s.toNatClampNeg - f) ∧ (0 ≤ e ∧ 0 ≤ m ∧ e ≤ h 9 t.toNatClampNeg ∧ m ≤ h 9 t.toNatClampNeg - e)) then (-1000001) else m) ∧ ∀ u0 w0, (fun u => ∃ ρ : Nat → Int32, u = va_up (if ¬ ((0 ≤ s ∧ s ≤ 3) ∧ (0 ≤ t ∧ t ≤ 3)) then va_up g 16 (fndR (g 16) 0) else if g (8 + s.toNatClampNeg) 0 = 0 ∨ g (8 + t.toNatClampNeg) 0 = 0 then va_up g 16 (fndR (g 16) 5) else if ¬ g (8 + s.toNatClampNeg) 0 = g (8 + t.toNatClampNeg) 0 then va_up g 16 (fndR (g 16) 2) else if ¬ ((0 ≤ f ∧ 0 ≤ m ∧ f ≤ g (8 + s.toNatClampNeg) 1 ∧ m ≤ g (8 + s.toNatClampNeg) 1 - f) ∧ (0 ≤ e ∧ 0 ≤ m ∧ e ≤ g (8 + t.toNatClampNeg) 1 ∧ m ≤ g (8 + t.toNatClampNeg) 1 - e)) then va_up g 16 (fndR (g 16) 0) else va_up g (12 + t.toNatClampNeg) (va_cpy (g (12 + s.toNatClampNeg)) (g (12 + t.toNatClampNeg)) f.toNatClampNeg e.toNatClampNeg m.toNatClampNeg)) 1 ρ) u0 → (fun u => ∃ σ : Nat → Int32, u = va_up (if ¬ ((0 ≤ s ∧ s ≤ 3) ∧ (0 ≤ t ∧ t ≤ 3)) then va_up h 4 (mfnR (h 4) 0) else if h 8 s.toNatClampNeg = 0 ∨ h 8 t.toNatClampNeg = 0 then va_up h 4 (mfnR (h 4) 5) else if ¬ h 8 s.toNatClampNeg = h 8 t.toNatClampNeg then va_up h 4 (mfnR (h 4) 2) else if ¬ ((0 ≤ f ∧ 0 ≤ m ∧ f ≤ h 9 s.toNatClampNeg ∧ m ≤ h 9 s.toNatClampNeg - f) ∧ (0 ≤ e ∧ 0 ≤ m ∧ e ≤ h 9 t.toNatClampNeg ∧ m ≤ h 9 t.toNatClampNeg - e)) then va_up h 4 (mfnR (h 4) 0) else va_up h 10 (va_cpy (h 10) (h 10) (40 * s.toNatClampNeg + f.toNatClampNeg) (40 * t.toNatClampNeg + e.toNatClampNeg) m.toNatClampNeg)) 11 σ) w0 → Rel u0 w0 := by
  have fin3 : ∀ {G H : St}, Rel G H → ∀ u w, (∃ ρ : Nat → Int32, u = va_up G 1 ρ) → (∃ ρ : Nat → Int32, w = va_up H 11 ρ) → Rel u w := by
    intro G H R u w hu hw
    obtain ⟨ρ, rfl⟩ := hu
    obtain ⟨σ, rfl⟩ := hw
    exact ⟨R.1, R.2.1, R.2.2.1, R.2.2.2.1, relS_l (relS_r R.2.2.2.2 (by omega)) (by omega)⟩
  have hs : ¬ ¬ ((0 ≤ s ∧ s ≤ 3) ∧ (0 ≤ t ∧ t ≤ 3)) → ∃ j, j < 4 ∧ s.toNatClampNeg = j ∧ ∃ k, k < 4 ∧ t.toNatClampNeg = k := fun c => by
    obtain ⟨j, hj, ej, -⟩ := cl_le (Decidable.of_not_not c).1 (n := 3) rfl (by omega)
    obtain ⟨k, hk, ek, -⟩ := cl_le (Decidable.of_not_not c).2 (n := 3) rfl (by omega)
    exact ⟨j, by omega, ej, k, by omega, ek⟩
  have h0 : ¬ ¬ ((0 ≤ s ∧ s ≤ 3) ∧ (0 ≤ t ∧ t ≤ 3)) → ((g (8 + s.toNatClampNeg) 0 = 0 ∨ g (8 + t.toNatClampNeg) 0 = 0) ↔ (h 8 s.toNatClampNeg = 0 ∨ h 8 t.toNatClampNeg = 0)) := fun c => by
    obtain ⟨j, hj, ej, k, hk, ek⟩ := hs c
    rw [ej, ek, (R.2.2.2.2 j hj).1, (R.2.2.2.2 k hk).1]
  have h1 : ¬ ¬ ((0 ≤ s ∧ s ≤ 3) ∧ (0 ≤ t ∧ t ≤ 3)) → (¬ g (8 + s.toNatClampNeg) 0 = g (8 + t.toNatClampNeg) 0 ↔ ¬ h 8 s.toNatClampNeg = h 8 t.toNatClampNeg) := fun c => by
    obtain ⟨j, hj, ej, k, hk, ek⟩ := hs c
    rw [ej, ek, (R.2.2.2.2 j hj).1, (R.2.2.2.2 k hk).1]
  have h2 : ¬ ¬ ((0 ≤ s ∧ s ≤ 3) ∧ (0 ≤ t ∧ t ≤ 3)) → (¬ ((0 ≤ f ∧ 0 ≤ m ∧ f ≤ g (8 + s.toNatClampNeg) 1 ∧ m ≤ g (8 + s.toNatClampNeg) 1 - f) ∧ (0 ≤ e ∧ 0 ≤ m ∧ e ≤ g (8 + t.toNatClampNeg) 1 ∧ m ≤ g (8 + t.toNatClampNeg) 1 - e)) ↔ ¬ ((0 ≤ f ∧ 0 ≤ m ∧ f ≤ h 9 s.toNatClampNeg ∧ m ≤ h 9 s.toNatClampNeg - f) ∧ (0 ≤ e ∧ 0 ≤ m ∧ e ≤ h 9 t.toNatClampNeg ∧ m ≤ h 9 t.toNatClampNeg - e))) := fun c => by
    obtain ⟨j, hj, ej, k, hk, ek⟩ := hs c
    obtain ⟨-, ⟨L, hL, eL, eL2⟩, -⟩ := R.2.2.2.2 j hj
    obtain ⟨-, ⟨L3, hL3, eL3, eL4⟩, -⟩ := R.2.2.2.2 k hk
    rw [ej, ek, eL, eL2, eL3, eL4]
  refine ⟨iteE Iff.rfl (fun _ => rfl) (fun c => iteE (h0 c) (fun _ => rfl) (fun _ => iteE (h1 c) (fun _ => rfl) (fun _ => iteE (h2 c) (fun _ => rfl) (fun _ => rfl)))), fin3 (iteR Iff.rfl (fun _ => rel_f 0 (by omega) R) (fun c => iteR (h0 c) (fun _ => rel_f 5 (by omega) R) (fun _ => iteR (h1 c) (fun _ => rel_f 2 (by omega) R) (fun _ => iteR (h2 c) (fun _ => rel_f 0 (by omega) R) (fun c4 => ?_)))))⟩
  obtain ⟨a, ha, ea, b, hb, eb⟩ := hs c
  rw [ea, eb] at c4 ⊢
  obtain ⟨-, ⟨La, hLa, eLa, -⟩, hna⟩ := R.2.2.2.2 a ha
  obtain ⟨-, ⟨Lb, hLb, eLb, -⟩, hnb⟩ := R.2.2.2.2 b hb
  rw [eLa, eLb] at c4
  have c4 := Decidable.of_not_not c4
  obtain ⟨f1, m1, ef, em, hfm⟩ := rng c4.1 hLa
  obtain ⟨e1, m2, ee, em2, hem⟩ := rng c4.2 hLb
  have hm12 : m1 = m2 := (nI_eq (by omega) (by omega)).mp (em.symm.trans em2)
  subst hm12
  rw [ef, em, ee, nI_clamp (by omega), nI_clamp (by omega), nI_clamp (by omega)]
  refine ⟨?_, ?_, ?_, ?_, fun t ht => ?_⟩
  · rw [va_up_ne _ _ (show 0 ≠ 12 + b by omega)]; exact R.1
  · rw [va_up_ne _ _ (show 3 ≠ 12 + b by omega), va_up_ne _ _ (show 2 ≠ 12 + b by omega)]; exact R.2.1
  · rw [va_up_ne _ _ (show 16 ≠ 12 + b by omega)]; exact R.2.2.1
  · rw [va_up_ne _ _ (show 5 ≠ 12 + b by omega), va_up_ne _ _ (show 6 ≠ 12 + b by omega)]; exact R.2.2.2.1
  · obtain ⟨p1, p2, p3⟩ := R.2.2.2.2 t ht
    rw [va_up_ne _ _ (show 8 + t ≠ 12 + b by omega)]
    refine ⟨p1, p2, fun k hk => ?_⟩
    show va_up g (12 + b) _ (12 + t) k = va_cpy (h 10) (h 10) (40 * a + f1) (40 * b + e1) m1 (40 * t + k)
    by_cases et : t = b
    · subst et
      rw [va_up_self]
      by_cases hin : e1 ≤ k ∧ k < e1 + m1
      · rw [pk_cpy_in hin.1 hin.2, pk_cpy_in (by omega) (by omega), hna _ (by omega)]
        congr 1
        omega
      · rw [pk_cpy_out (by omega), pk_cpy_out (by omega)]; exact p3 k hk
    · rw [va_up_ne _ _ (show 12 + t ≠ 12 + b by omega), pk_cpy_out (by omega)]; exact p3 k hk
theorem q_load {g h : St} (R : Rel g h) (s : Int32) : ((if ¬ (0 ≤ s ∧ s ≤ 3) then (-1000001) else if g (8 + s.toNatClampNeg) 0 = 0 then (-1000006) else nI (gvF (g (12 + s.toNatClampNeg)) (min (g (8 + s.toNatClampNeg) 1).toNatClampNeg (sz (g 0))) 0)) : Int32) = (if ¬ (0 ≤ s ∧ s ≤ 3) then (-1000001) else if h 8 s.toNatClampNeg = 0 then (-1000006) else nI (gvF (nuM (h 10) s.toNatClampNeg) (min (h 9 s.toNatClampNeg).toNatClampNeg (sz (h 0))) 0)) ∧ ∀ u0 w0, (fun u => ∃ ρ : Nat → Int32, u = va_up (if ¬ (0 ≤ s ∧ s ≤ 3) then va_up g 16 (fndR (g 16) 0) else if g (8 + s.toNatClampNeg) 0 = 0 then va_up g 16 (fndR (g 16) 5) else va_up g 0 (gvN (g (12 + s.toNatClampNeg)) (g 0) (gvF (g (12 + s.toNatClampNeg)) (min (g (8 + s.toNatClampNeg) 1).toNatClampNeg (sz (g 0))) 0))) 1 ρ) u0 → (fun u => ∃ ρ : Nat → Int32, u = va_up (if ¬ (0 ≤ s ∧ s ≤ 3) then va_up h 4 (mfnR (h 4) 0) else if h 8 s.toNatClampNeg = 0 then va_up h 4 (mfnR (h 4) 5) else va_up h 0 (gvN (nuM (h 10) s.toNatClampNeg) (h 0) (gvF (nuM (h 10) s.toNatClampNeg) (min (h 9 s.toNatClampNeg).toNatClampNeg (sz (h 0))) 0))) 2 ρ) w0 → Rel u0 w0 := by
  have hs : ¬ ¬ (0 ≤ s ∧ s ≤ 3) → ∃ j, j < 4 ∧ s.toNatClampNeg = j := fun c => by
    obtain ⟨j, hj, ej, -⟩ := cl_le (Decidable.of_not_not c) (n := 3) rfl (by omega)
    exact ⟨j, by omega, ej⟩
  have h0 : ¬ ¬ (0 ≤ s ∧ s ≤ 3) → (g (8 + s.toNatClampNeg) 0 = 0 ↔ h 8 s.toNatClampNeg = 0) := fun c => by
    obtain ⟨j, hj, ej⟩ := hs c
    rw [ej, (R.2.2.2.2 j hj).1]
  have hsz := R.1.1.n
  have hg : ¬ ¬ (0 ≤ s ∧ s ≤ 3) → ∃ N, N ≤ sz (h 0) ∧ gvF (g (12 + s.toNatClampNeg)) (min (g (8 + s.toNatClampNeg) 1).toNatClampNeg (sz (g 0))) 0 = N ∧ gvF (nuM (h 10) s.toNatClampNeg) (min (h 9 s.toNatClampNeg).toNatClampNeg (sz (h 0))) 0 = N ∧ (∀ j, j < N → 0 ≤ nuM (h 10) s.toNatClampNeg j ∧ nuM (h 10) s.toNatClampNeg j ≤ 99) ∧ ∀ j, j < N → g (12 + s.toNatClampNeg) j = nuM (h 10) s.toNatClampNeg j := fun c => by
    obtain ⟨j, hj, ej⟩ := hs c
    obtain ⟨-, ⟨L, hL, eL, eL2⟩, hn⟩ := R.2.2.2.2 j hj
    rw [ej, eL, eL2, nI_clamp (by omega), R.1.sz']
    have hb := gvF_b (nu := nuM (h 10) j) (min L (sz (h 0))) 0
    refine ⟨gvF (nuM (h 10) j) (min L (sz (h 0))) 0, by omega, gvF_e (nu' := nuM (h 10) j) _ 0 (fun i _ h2 => hn i (by omega)), rfl, fun i hi => hb.2 i (by omega) hi, fun i hi => hn i (by omega)⟩
  refine ⟨iteE Iff.rfl (fun _ => rfl) (fun c => iteE (h0 c) (fun _ => rfl) (fun _ => ?_)), fin2 (iteR Iff.rfl (fun _ => rel_f 0 (by omega) R) (fun c => iteR (h0 c) (fun _ => rel_f 5 (by omega) R) (fun _ => ?_)))⟩
  · obtain ⟨N, -, e1, e2, -, -⟩ := hg c
    rw [e1, e2]
  · obtain ⟨N, hN, e1, e2, hb, hn⟩ := hg c
    rw [e1, e2]
    exact rel_n R ⟨gvN_inv R.1.1 N hb, by rw [gvN_sz]; exact gvN_e R.1.2 N hn⟩
theorem q_judge {g h : St} (R : Rel g h) (s : Int32) : ((if ¬ (0 ≤ s ∧ s ≤ 3) then (-1000001) else if g (8 + s.toNatClampNeg) 0 = 0 then (-1000006) else oI (fdo (fun i_ => !(decide (i_ < sz (g 0)) && decide (g 0 (pI i_ 2) = g (12 + s.toNatClampNeg) i_))) (g (8 + s.toNatClampNeg) 1).toNatClampNeg 0) + 1) : Int32) = (if ¬ (0 ≤ s ∧ s ≤ 3) then (-1000001) else if h 8 s.toNatClampNeg = 0 then (-1000006) else oI (fdo (fun i_ => !(decide (i_ < sz (h 0)) && decide (h 0 (pI i_ 2) = nuM (h 10) s.toNatClampNeg i_))) (h 9 s.toNatClampNeg).toNatClampNeg 0) + 1) ∧ ∀ u0 w0, (fun u => ∃ ρ : Nat → Int32, u = va_up (if ¬ (0 ≤ s ∧ s ≤ 3) then va_up g 16 (fndR (g 16) 0) else if g (8 + s.toNatClampNeg) 0 = 0 then va_up g 16 (fndR (g 16) 5) else g) 1 ρ) u0 → (fun u => ∃ ρ : Nat → Int32, u = va_up (if ¬ (0 ≤ s ∧ s ≤ 3) then va_up h 4 (mfnR (h 4) 0) else if h 8 s.toNatClampNeg = 0 then va_up h 4 (mfnR (h 4) 5) else h) 2 ρ) w0 → Rel u0 w0 := by
  have hs : ¬ ¬ (0 ≤ s ∧ s ≤ 3) → ∃ j, j < 4 ∧ s.toNatClampNeg = j := fun c => by
    obtain ⟨j, hj, ej, -⟩ := cl_le (Decidable.of_not_not c) (n := 3) rfl (by omega)
    exact ⟨j, by omega, ej⟩
  have h0 : ¬ ¬ (0 ≤ s ∧ s ≤ 3) → (g (8 + s.toNatClampNeg) 0 = 0 ↔ h 8 s.toNatClampNeg = 0) := fun c => by
    obtain ⟨j, hj, ej⟩ := hs c
    rw [ej, (R.2.2.2.2 j hj).1]
  have hsz := R.1.1.n
  refine ⟨iteE Iff.rfl (fun _ => rfl) (fun c => iteE (h0 c) (fun _ => rfl) (fun _ => ?_)), fin2 (iteR Iff.rfl (fun _ => rel_f 0 (by omega) R) (fun c => iteR (h0 c) (fun _ => rel_f 5 (by omega) R) (fun _ => R)))⟩
  obtain ⟨j, hj, ej⟩ := hs c
  obtain ⟨-, ⟨L, hL, eL, eL2⟩, hn⟩ := R.2.2.2.2 j hj
  rw [ej, eL, eL2, nI_clamp (by omega), R.1.sz']
  have hf : fdo (fun i_ => !(decide (i_ < sz (h 0)) && decide (g 0 (pI i_ 2) = g (12 + j) i_))) L 0 = fdo (fun i_ => !(decide (i_ < sz (h 0)) && decide (h 0 (pI i_ 2) = nuM (h 10) j i_))) L 0 := fdo_e (fun i _ hi => by
    show (!(decide (i < sz (h 0)) && decide (g 0 (pI i 2) = g (12 + j) i))) = (!(decide (i < sz (h 0)) && decide (h 0 (pI i 2) = h 10 (40 * j + i))))
    rw [hn i (by omega)]
    by_cases hc : i < sz (h 0)
    · rw [R.1.2.at hc (f := 2) (by omega)]
    · rw [decide_eq_false hc, Bool.false_and, Bool.false_and])
  rw [hf]
theorem q_image {g h : St} (R : Rel g h) : ((1) : Int32) = (1) ∧ ∀ u0 w0, (fun u => ∃ ρ : Nat → Int32, u = va_up (va_up (va_up g 2 (becR (g 2) (g 0))) 3 (upd (g 3) 3 1)) 1 ρ) u0 → (fun u => ∃ ρ : Nat → Int32, u = va_up (va_up (va_up h 1 (c68 (h 0) (h 1))) 3 (upd (h 3) 3 1)) 2 ρ) w0 → Rel u0 w0 := by
  refine ⟨rfl, fin2 ⟨R.1, ⟨rfl, fun _ => R.1.bec⟩, R.2.2.1, ?_, relS_l (relS_l (relS_r (relS_r R.2.2.2.2 (by omega)) (by omega)) (by omega)) (by omega)⟩⟩
  exact R.2.2.2.1
theorem q_undo {g h : St} (R : Rel g h) : ((if g 3 3 = 0 then (-1000004) else g 2 0) : Int32) = (if h 3 3 = 0 then (-1000004) else h 1 0) ∧ ∀ u0 w0, (fun u => ∃ ρ : Nat → Int32, u = va_up (if g 3 3 = 0 then va_up g 16 (fndR (g 16) 3) else va_up g 0 (becR (g 0) (g 2))) 1 ρ) u0 → (fun u => ∃ ρ : Nat → Int32, u = va_up (if h 3 3 = 0 then va_up h 4 (mfnR (h 4) 3) else va_up h 0 (c68 (h 1) (h 0))) 2 ρ) w0 → Rel u0 w0 := by
  have e := R.2.1.1
  have hc : g 3 3 = 0 ↔ h 3 3 = 0 := by rw [e]
  refine ⟨iteE hc (fun _ => rfl) (fun c => (R.2.1.2 c).2.hd (by omega)), fin2 (iteR hc (fun _ => rel_f 3 (by omega) R) (fun c => rel_n R (R.2.1.2 c).bec))⟩
theorem q_tear {g h : St} (R : Rel g h) : ((if g 3 3 = 0 then 0 else 1) : Int32) = (if h 3 3 = 0 then 0 else 1) ∧ ∀ u0 w0, (fun u => ∃ ρ : Nat → Int32, u = va_up (va_up g 3 (upd (g 3) 3 0)) 1 ρ) u0 → (fun u => ∃ ρ : Nat → Int32, u = va_up (va_up h 3 (upd (h 3) 3 0)) 2 ρ) w0 → Rel u0 w0 := by
  have e := R.2.1.1
  have hc : g 3 3 = 0 ↔ h 3 3 = 0 := by rw [e]
  exact ⟨iteE hc (fun _ => rfl) (fun _ => rfl), fin2 ⟨R.1, ⟨rfl, fun z => absurd rfl z⟩, R.2.2.1, R.2.2.2.1, relS_l (relS_r R.2.2.2.2 (by omega)) (by omega)⟩⟩
theorem q_count {g h : St} (R : Rel g h) (w : Int32) : ((if w = 0 then g 0 0 else if w = 1 then g 0 1 else if w = 2 then g 0 3 else if w = 3 then sumN (g 0) (sz (g 0)) else if w = 4 then bc (seaN (g 0) (sz (g 0))) else if w = 5 then g 5 0 else if w = 6 then g 0 2 else if w = 7 then spoN (g 0) 10 else (-1000001)) : Int32) = (if w = 0 then h 0 0 else if w = 1 then h 0 1 else if w = 2 then h 0 3 else if w = 3 then sumN (h 0) (sz (h 0)) else if w = 4 then bc (seaN (h 0) (sz (h 0))) else if w = 5 then h 3 6 else if w = 6 then h 0 2 else if w = 7 then spoN (h 0) 10 else (-1000001)) ∧ ∀ u0 w0, (fun u => ∃ ρ : Nat → Int32, u = va_up (if w = 0 then g else if w = 1 then g else if w = 2 then g else if w = 3 then g else if w = 4 then g else if w = 5 then g else if w = 6 then g else if w = 7 then g else va_up g 16 (fndR (g 16) 0)) 1 ρ) u0 → (fun u => ∃ ρ : Nat → Int32, u = va_up (if w = 0 then h else if w = 1 then h else if w = 2 then h else if w = 3 then h else if w = 4 then h else if w = 5 then h else if w = 6 then h else if w = 7 then h else va_up h 4 (mfnR (h 4) 0)) 2 ρ) w0 → Rel u0 w0 := by
  obtain ⟨L, hL, e5, e6, hb⟩ := R.2.2.2.1
  rw [R.1.2.hd (k := 0) (by omega), R.1.2.hd (k := 1) (by omega), R.1.2.hd (k := 2) (by omega), R.1.2.hd (k := 3) (by omega), R.1.sz', sumN_e R.1.2 (Nat.le_refl _), seaN_e R.1.2 (Nat.le_refl _), spoN_e R.1.2 (Nat.le_refl _), e5, e6]
  exact ⟨rfl, fin2 (iteR Iff.rfl (fun _ => R) (fun _ => iteR Iff.rfl (fun _ => R) (fun _ => iteR Iff.rfl (fun _ => R) (fun _ => iteR Iff.rfl (fun _ => R) (fun _ => iteR Iff.rfl (fun _ => R) (fun _ => iteR Iff.rfl (fun _ => R) (fun _ => iteR Iff.rfl (fun _ => R) (fun _ => iteR Iff.rfl (fun _ => R) (fun _ => rel_f 0 (by omega) R)))))))))⟩
theorem q_status {g h : St} (R : Rel g h) (w : Int32) : ((if w = -1 then fsN (g 16) 7 else if (0 ≤ w ∧ w ≤ 6) then g 16 w.toNatClampNeg else (-1000001)) : Int32) = (if -1 ≤ w ∧ w ≤ 6 then h 4 (w + 1).toNatClampNeg else (-1000001)) ∧ ∀ u0 w0, (fun u => ∃ ρ : Nat → Int32, u = va_up (if w = -1 then g else if (0 ≤ w ∧ w ≤ 6) then g else va_up g 16 (fndR (g 16) 0)) 1 ρ) u0 → (fun u => ∃ ρ : Nat → Int32, u = va_up (if -1 ≤ w ∧ w ≤ 6 then h else va_up h 4 (mfnR (h 4) 0)) 2 ρ) w0 → Rel u0 w0 := by
  by_cases h1 : w = -1
  · subst h1
    rw [if_pos rfl, if_pos rfl, if_pos (by decide), if_pos (by decide)]
    exact ⟨R.2.2.1.2.symm, fin2 R⟩
  · rw [if_neg h1, if_neg h1]
    have hc : (0 ≤ w ∧ w ≤ 6) ↔ (-1 ≤ w ∧ w ≤ 6) := by
      refine ⟨fun z => ⟨Int32.le_trans (by decide) z.1, z.2⟩, fun z => ⟨?_, z.2⟩⟩
      have a := z.1
      rw [fa_leI] at a ⊢
      have b : ¬ w.toInt = -1 := fun y => h1 (Int32.toInt_inj.mp y)
      have c1 : (-1 : Int32).toInt = -1 := rfl
      have c0 : (0 : Int32).toInt = 0 := rfl
      rw [c1] at a
      rw [c0]
      omega
    refine ⟨iteE hc (fun c => ?_) (fun _ => rfl), fin2 (iteR hc (fun c => R) (fun _ => rel_f 0 (by omega) R))⟩
    obtain ⟨j, hj, ej, e⟩ := cl_le c (n := 6) rfl (by omega)
    rw [e, nI_1, nI_clamp (by omega), nI_clamp (by omega)]
    exact R.2.2.1.1 j (by omega)
