/-! the start: what the Statement gives -/
def nrw : List Cond := flatC (Jvm.Cond.and given_1 narrow_1)
def tmS (i : Nat) : Term := match txRef[i]? with
  | some q => .string q.1 q.2.1
  | none => .arg 0
def sB : List Nat := [42, 51, 59, 71, 82, 93, 104, 113, 122, 132, 138, 148, 156]
def sQ : List Nat := [173, 186, 198, 210, 222, 232, 242, 249, 260, 269, 277, 287, 296]
def sR : List Nat := [586, 647, 664, 665, 666, 667, 668, 669, 670, 672, 679, 680, 681, 784, 785, 786, 787, 788, 789, 790, 1182, 1187, 1188, 1189, 1194, 1195]
theorem n_ex : ∀ i, i < 13 → nrw[sB.getD i 0]? = some (Cond.exactly (tmS i) "java/lang/String") := by decide +kernel
theorem n_co : ∀ i, i < 13 → nrw[sB.getD i 0 + 1]? = some (Cond.eq (.field (tmS i) "java/lang/String" "coder" "B") (.int 0)) := by decide +kernel
theorem n_ar : ∀ i, i < 13 → nrw[sB.getD i 0 + 2]? = some (Cond.arrayOf (.field (tmS i) "java/lang/String" "value" "[B") .byte) := by decide +kernel
theorem n_le : ∀ i, i < 13 → nrw[sB.getD i 0 + 3]? = some (Cond.eq (.length (.field (tmS i) "java/lang/String" "value" "[B")) (.int (Int32.ofNat (txLen.getD i 0)))) := by decide +kernel
theorem n_el : ∀ i, i < 13 → ∀ j, j < 8 → j < txLen.getD i 0 → nrw[sB.getD i 0 + 4 + j]? = some (Cond.eq (.elem (.field (tmS i) "java/lang/String" "value" "[B") (.int (Int32.ofNat j))) (.int ((txByt.getD i []).getD j 0))) := by decide +kernel
def txI (i : Nat) : Nat := match txRef[i]? with
  | some q => q.2.2.2
  | none => 0
theorem n_eqS : ∀ i, i < 13 → nrw[sQ.getD i 0]? = some (Cond.eq (tmS (txI (13 + i))) (tmS (13 + i))) := by decide +kernel
theorem n_txI : ∀ i, i < 26 → txI i < 13 ∧ (i < 13 → txI i = i) := by decide +kernel
theorem n_sr : ∀ i, i < 26 → ∀ q, txRef[i]? = some q → tables_1[sR.getD i 0]? = some (Cond.stringRef q.1 q.2.1 q.2.2.1) := by
  have h : ∀ i, i < 26 → tables_1[sR.getD i 0]? = (txRef[i]?).map (fun q => Cond.stringRef q.1 q.2.1 q.2.2.1) := by decide +kernel
  intro i hi q hq
  rw [h i hi, hq]; rfl
theorem tS_of {args : Array Value} {s : State} {A : Nat → Prop} (hs : ∀ c ∈ nrw, c.before args s = true) (hA : ∀ a : Nat, a < s.heap.size → ¬ A a) : ∃ adK adV : Nat → Nat, tS adK adV A s s.heap ∧ ∀ i : Nat, i < 13 → (tmS i).eval args s none [] s = some (.ref (adK i)) := by
  have h0 : ∀ i : Nat, ∃ q : Nat × Nat, i < 13 → (tmS i).eval args s none [] s = some (.ref q.1) ∧ va_O "java/lang/String" q.1 A s s.heap ∧ va_OF "java/lang/String" "coder" "B" (.int 0) q.1 A s s.heap ∧ va_OF "java/lang/String" "value" "[B" (.ref q.2) q.1 A s s.heap ∧ va_T .byte q.2 (txLen.getD i 0) (fun j => .int ((txByt.getD i []).getD j 0)) A s s.heap := by
    intro i
    by_cases hi : i < 13
    · have hl := tx_small i hi
      obtain ⟨a, c, cA, kA, q1, q2, q3, q4, q5, q6, -⟩ := Cond.exactly_spec (args := args) (first := s) (o := none) (s := s) (idx := []) (t := tmS i) (cls := "java/lang/String") (hs _ (List.mem_of_getElem? (n_ex i hi)))
      obtain ⟨t, ht, hT⟩ := va_Tof (f := fun j => .int ((txByt.getD i []).getD j 0)) (A := A) (show txLen.getD i 0 < 2 ^ 31 by omega) (hs _ (List.mem_of_getElem? (n_ar i hi))) (va_eqt (hs _ (List.mem_of_getElem? (n_le i hi)))) (fun j hj => va_eqt (hs _ (List.mem_of_getElem? (n_el i hi j (by omega) hj)))) hA
      exact ⟨(a, t), fun _ => ⟨q1, ⟨cA, q3, q5, by rw [q6]; exact q2, hA a (Array.getElem?_eq_some_iff.mp q3).1⟩, vk_OFof q1 (va_eqt (hs _ (List.mem_of_getElem? (n_co i hi)))) hA, vk_OFof q1 ht hA, hT⟩⟩
    · exact ⟨(0, 0), fun h => absurd h hi⟩
  obtain ⟨ad, had⟩ := Classical.axiomOfChoice h0
  exact ⟨fun i => (ad i).1, fun i => (ad i).2, fun i hi => (had i hi).2, fun i hi => (had i hi).1⟩
theorem n_mo : ∀ j, j < 6 → nrw[7 + j]? = some (Cond.eq (.elem (.static "TunnelPeace" "MOST_OF" "[I") (.int (Int32.ofNat j))) (.int (([6, 1, 15, 99, 9, 9999] : List Int32).getD j 0))) := by decide +kernel
theorem n_ka : ∀ j, j < 7 → nrw[21 + j]? = some (Cond.eq (.elem (.static "TunnelPeace" "KIND_ABOVE" "[I") (.int (Int32.ofNat j))) (.int (([-1, 0, 0, 2, 3, 0, 1] : List Int32).getD j 0))) := by decide +kernel
theorem arr_of {s : State} {ty : FieldType} {c : ClassId} {k : Class} {comp : ClassId} (h1 : s.vm.classes[c]? = some k) (h2 : k.kind = .array comp ty) : ArrOfT s c ty := fun N z => ⟨(fun k h => by cases h), k, h1, comp, h2⟩
theorem env_of {s : State} {b : Nat} (hts : ∀ w ∈ lw_tbl, w.before #[Value.ref b] s = true) (hgv : (Jvm.Cond.and given_1 narrow_1).before #[Value.ref b] s = true) : ∃ Z : ZT, va_K Z.1 cls (tys Z) s ∧ EnvF (fun q : Nat => s.heap.size ≤ q) Z s s.heap ∧ AO3 s := by
  have hs : ∀ c ∈ nrw, c.before #[Value.ref b] s = true := flat_of_before _ hgv
  have ht : ∀ {w : Cond} (i : Nat), tables_1[i]? = some w → w.before #[Value.ref b] s = true := fun i h => hts _ (List.mem_append_right _ (List.mem_of_getElem? h))
  have hn : ∀ {w : Cond} (i : Nat), nrw[i]? = some w → w.before #[Value.ref b] s = true := fun i h => hs _ (List.mem_of_getElem? h)
  have hT : ∀ w ∈ TT, w.before #[Value.ref b] s = true := fun w h => hts w (tt_sub h)
  have hA : ∀ a : Nat, a < s.heap.size → ¬ (fun q : Nat => s.heap.size ≤ q) a := fun a h => Nat.not_le.mpr h
  obtain ⟨c0, i0, hK0⟩ := u_known (C := "TunnelPeace$Forecast") (T := T_Fo) (N := 2) (n := 2) hT in_Fo (ht 104 (by decide +kernel))
  obtain ⟨c1, i1, hK1⟩ := u_known (C := "TunnelPeace$Person") (T := T_Pe) (N := 6) (n := 6) hT in_Pe (ht 31 (by decide +kernel))
  obtain ⟨c2, i2, hK2⟩ := u_known (C := "TunnelPeace$Sheet") (T := T_Sh) (N := 3) (n := 3) hT in_Sh (ht 145 (by decide +kernel))
  obtain ⟨c3, i3, hK3⟩ := u_known (C := "TunnelPeace$Tape") (T := T_Ta) (N := 6) (n := 6) hT in_Ta (ht 117 (by decide +kernel))
  obtain ⟨c4, i4, hK4⟩ := u_known (C := "TunnelPeace$Tunnel") (T := T_Tu) (N := 7) (n := 7) hT in_Tu (ht 24 (by decide +kernel))
  obtain ⟨c5, i5, hK5⟩ := u_known (C := "TunnelPeace") (T := T_TP) (N := 8) (n := 8) hT in_TP (ht 16 (by decide +kernel))
  obtain ⟨c6, i6, hK6⟩ := u_known (C := "TunnelPeaceModel") (T := T_Mo) (N := 20) (n := 20) hT in_Mo (ht 777 (by decide +kernel))
  obtain ⟨a0, k0, p0, f0, g0, e0⟩ := Cond.arrayClass_spec (ht (w := Cond.arrayClass .int) 65 (by decide +kernel))
  obtain ⟨a1, k1, p1, f1, g1, e1⟩ := Cond.arrayClass_spec (ht (w := Cond.arrayClass .byte) 142 (by decide +kernel))
  have o2 : (Cond.arrayOver (.object "TunnelPeace$Person")).before #[Value.ref b] s = true := ht 30 (by decide +kernel)
  have o3 : (Cond.arrayOver (.object "TunnelPeace$Sheet")).before #[Value.ref b] s = true := ht 144 (by decide +kernel)
  have o4 : (Cond.arrayOver (.object "java/lang/String")).before #[Value.ref b] s = true := ht 783 (by decide +kernel)
  obtain ⟨p2, a2, k2, b2, -, g2, e2, f2⟩ := Cond.arrayOver_spec o2
  obtain ⟨p3, a3, k3, b3, -, g3, e3, f3⟩ := Cond.arrayOver_spec o3
  obtain ⟨p4, a4, k4, b4, -, g4, e4, f4⟩ := Cond.arrayOver_spec o4
  obtain ⟨adK, adV, hS, hev⟩ := tS_of (A := fun q : Nat => s.heap.size ≤ q) hs hA
  obtain ⟨t0, ev0, hT0⟩ := va_Tof (tm := .static "TunnelPeace" "MOST_OF" "[I") (ty := .int) (N := 6) (f := eMost) (A := fun q : Nat => s.heap.size ≤ q) (by decide) (hn 5 (by decide +kernel)) (va_eqt (hn 6 (by decide +kernel))) (fun j hj => va_eqt (hn _ (n_mo j hj))) hA
  obtain ⟨t1, ev1, hT1⟩ := va_Tof (tm := .static "TunnelPeace" "KIND_ABOVE" "[I") (ty := .int) (N := 7) (f := eAbove) (A := fun q : Nat => s.heap.size ≤ q) (by decide) (hn 19 (by decide +kernel)) (va_eqt (hn 20 (by decide +kernel))) (fun j hj => va_eqt (hn _ (n_ka j hj))) hA
  refine ⟨((fun k => ([c0, c1, c2, c3, c4, c5, c6] : List ClassId).getD k c0, fun k => ([i0, i1, i2, i3, i4, i5, i6] : List (Nat → Nat)).getD k i0), (fun _ => 0), (fun k => ([a0, a1, a2, a3, a4] : List ClassId).getD k a0), (fun k => if k = 0 then t0 else t1), adK, adV), ⟨fun c q hq => ?_, fun k q hq => ?_⟩, ⟨?_, hT0, ?_, hT1, ?_, ?_, ?_, ?_, hS, fun q hq => ?_⟩, va_AO.of o2, va_AO.of o3, va_AO.of o4⟩
  · match c, hq with
    | 0, hq => cases hq; exact hK0
    | 1, hq => cases hq; exact hK1
    | 2, hq => cases hq; exact hK2
    | 3, hq => cases hq; exact hK3
    | 4, hq => cases hq; exact hK4
    | 5, hq => cases hq; exact hK5
    | 6, hq => cases hq; exact hK6
    | c + 7, hq => simp [cls] at hq
  · match k, hq with
    | 0, hq => cases hq; exact ⟨arr_of g0 e0, f0⟩
    | 1, hq => cases hq; exact ⟨arr_of g1 e1, f1⟩
    | 2, hq => cases hq; exact ⟨arr_of g2 e2, k2, p2, g2, e2, b2, f2⟩
    | 3, hq => cases hq; exact ⟨arr_of g3 e3, k3, p3, g3, e3, b3, f3⟩
    | 4, hq => cases hq; exact ⟨arr_of g4 e4, k4, p4, g4, e4, b4, f4⟩
    | k + 5, hq => simp [tys] at hq
  · exact va_Zof (ht 267 (by decide +kernel)) (ht 1 (by decide +kernel)) ev0 hA
  · exact va_Zof (ht 700 (by decide +kernel)) (ht 1 (by decide +kernel)) ev1 hA
  · exact va_Zof (ht 600 (by decide +kernel)) (ht 11 (by decide +kernel)) (va_eqi (hn 13 (by decide +kernel))) hA
  · exact va_Zqof (ht 616 (by decide +kernel)) (ht 13 (by decide +kernel)) (hn 14 (by decide +kernel)) hA
  · exact List.forall_mem_cons.mpr ⟨va_Nw.of rfl (ht 332 (by decide +kernel)), List.forall_mem_cons.mpr ⟨va_Nw.of rfl (ht 456 (by decide +kernel)), List.forall_mem_cons.mpr ⟨va_Nw.of rfl (ht 532 (by decide +kernel)), List.forall_mem_cons.mpr ⟨va_Nw.of rfl (ht 677 (by decide +kernel)), List.forall_mem_cons.mpr ⟨va_Nw.of rfl (ht 699 (by decide +kernel)), List.forall_mem_cons.mpr ⟨va_Nw.of rfl (ht 737 (by decide +kernel)), fun _ h => absurd h List.not_mem_nil⟩⟩⟩⟩⟩⟩
  · exact List.forall_mem_cons.mpr ⟨va_Nw.of rfl (ht 32 (by decide +kernel)), List.forall_mem_cons.mpr ⟨va_Nw.of rfl (ht 118 (by decide +kernel)), List.forall_mem_cons.mpr ⟨va_Nw.of rfl (ht 146 (by decide +kernel)), List.forall_mem_cons.mpr ⟨va_Nw.of rfl (ht 698 (by decide +kernel)), List.forall_mem_cons.mpr ⟨va_Nw.of rfl (ht 738 (by decide +kernel)), fun _ h => absurd h List.not_mem_nil⟩⟩⟩⟩⟩
  · obtain ⟨i, hi⟩ := List.mem_iff_getElem?.mp hq
    have h26 : i < 26 := by
      have := (List.getElem?_eq_some_iff.mp hi).1
      exact this
    have e1 : tmS i = .string q.1 q.2.1 := by unfold tmS; rw [hi]
    have e2 : txI i = q.2.2.2 := by unfold txI; rw [hi]
    obtain ⟨x1, x2⟩ := n_txI i h26
    refine vk_R.of (ht _ (n_sr i h26 q hi)) ?_
    rw [← e1]
    show (tmS i).eval _ s none [] s = some (.ref (adK q.2.2.2))
    rw [← e2]
    by_cases h13 : i < 13
    · rw [x2 h13]; exact hev i h13
    · obtain ⟨j, rfl⟩ : ∃ j, i = 13 + j := ⟨i - 13, by omega⟩
      exact va_eqR (hn _ (n_eqS j (by omega))) (hev _ x1)
