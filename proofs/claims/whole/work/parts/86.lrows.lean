/-! the law's own rows: script, switch, calls on one of two systems -/
def SX (X : XT) (A : Nat → Prop) (b L : Nat) (xs : Nat → Int32) : Prop :=
  match X with
  | (_, _, _, _, s, _, _, _, _, _) => va_X b L xs s s.heap ∧ b < s.heap.size ∧ ¬ A b
theorem va_sw {A : Nat → Prop} {w0 w1 wr : va_W} (hD : va_D A (w0 ++ wr)) (h1 : ∀ (k : Nat) (q : Nat × va_E), w1[k]? = some q → ∃ e, w0[k]? = some (q.1, e)) : va_D A (wr ++ w1) := by
  have key : ∀ (k : Nat) (q : Nat × va_E), (wr ++ w1)[k]? = some q → ∃ j e, (w0 ++ wr)[j]? = some (q.1, e) ∧ (if k < wr.length then j = w0.length + k else j = k - wr.length ∧ j < w0.length) := by
    intro k q hk
    by_cases hl : k < wr.length
    · rw [List.getElem?_append_left hl] at hk
      refine ⟨w0.length + k, q.2, ?_, by rw [if_pos hl]⟩
      rw [List.getElem?_append_right (by omega), Nat.add_sub_cancel_left]
      exact hk
    · rw [List.getElem?_append_right (by omega)] at hk
      obtain ⟨e, he⟩ := h1 _ _ hk
      have hlt := (List.getElem?_eq_some_iff.mp he).1
      refine ⟨k - wr.length, e, ?_, by rw [if_neg hl]; exact ⟨rfl, hlt⟩⟩
      rw [List.getElem?_append_left hlt]
      exact he
  refine ⟨fun i j p q hi hj e => ?_, fun k q hk => ?_⟩
  · obtain ⟨i', e1, a1, b1⟩ := key i p hi
    obtain ⟨j', e2, a2, b2⟩ := key j q hj
    have hij := hD.1 i' j' _ _ a1 a2 e
    subst hij
    by_cases hil : i < wr.length
    · rw [if_pos hil] at b1
      by_cases hjl : j < wr.length
      · rw [if_pos hjl] at b2; omega
      · rw [if_neg hjl] at b2; omega
    · rw [if_neg hil] at b1
      by_cases hjl : j < wr.length
      · rw [if_pos hjl] at b2; omega
      · rw [if_neg hjl] at b2; omega
  · obtain ⟨j, e, a, -⟩ := key k q hk
    exact hD.2 j (q.1, e) a
section LRows
variable {X : XT} {Z : ZT} {A : Nat → Prop} {Q : State → Prop} {ws ws' wr : va_W} {kc ks pc : Nat} {lv lv' : List (Nat × Value)} {st st0 : List Value} {cc cc' : ByteArray} {own : String} {F L NC NS nL index F' L' maxL' n b SL : Nat} {xs : Nat → Int32} {y : MethodName} {As : List Value} {ret' : Option FieldType} {Y : YT} {u : Nat → Nat} {g : St} {K : St → Prop}
theorem n_isub (C : CN X nL Z A cc own F L NC NS) {x y : Int32} (hd : decode cc pc = .ok (.isub, 1))  (k : WN X nL Z A Q ws kc ks (pc + 1) lv (.int (x - y) :: st)) : WN X nL Z A Q ws kc ks pc lv (.int y :: .int x :: st) := by
  obtain ⟨p, l, e, R, s, m, args, below, meth, c⟩ := X
  exact fun H locs ls hP hD hS hl => lv_isub C.1 C.2.1 hd (k H locs ls hP hD hS hl)
theorem n_iand (C : CN X nL Z A cc own F L NC NS) {x y : Int32} (hd : decode cc pc = .ok (.iand, 1))  (k : WN X nL Z A Q ws kc ks (pc + 1) lv (.int (x &&& y) :: st)) : WN X nL Z A Q ws kc ks pc lv (.int y :: .int x :: st) := by
  obtain ⟨p, l, e, R, s, m, args, below, meth, c⟩ := X
  exact fun H locs ls hP hD hS hl => lv_iand C.1 C.2.1 hd (k H locs ls hP hD hS hl)
theorem n_icmp_gt (C : CN X nL Z A cc own F L NC NS) {off : Int} {x y : Int32} (hd : decode cc pc = .ok (.if_icmp .gt off, 3)) (tgt : Nat) (ht : (pc : Int) + off = (tgt : Int)) (kt : y < x → WN X nL Z A Q ws kc ks tgt lv st) (kf : ¬ y < x → WN X nL Z A Q ws kc ks (pc + 3) lv st) : WN X nL Z A Q ws kc ks pc lv (.int y :: .int x :: st) := by
  obtain ⟨p, l, e, R, s, m, args, below, meth, c⟩ := X
  exact fun H locs ls hP hD hS hl => lv_icmp_gt C.1 C.2.1 hd ht (fun h => kt h H locs ls hP hD hS hl) (fun h => kf h H locs ls hP hD hS hl)
theorem n_icmp_eq (C : CN X nL Z A cc own F L NC NS) {off : Int} {x y : Int32} (hd : decode cc pc = .ok (.if_icmp .eq off, 3)) (tgt : Nat) (ht : (pc : Int) + off = (tgt : Int)) (kt : x = y → WN X nL Z A Q ws kc ks tgt lv st) (kf : ¬ x = y → WN X nL Z A Q ws kc ks (pc + 3) lv st) : WN X nL Z A Q ws kc ks pc lv (.int y :: .int x :: st) := by
  obtain ⟨p, l, e, R, s, m, args, below, meth, c⟩ := X
  exact fun H locs ls hP hD hS hl => lv_icmp_eq C.1 C.2.1 hd ht (fun h => kt h H locs ls hP hD hS hl) (fun h => kf h H locs ls hP hD hS hl)
theorem n_ifeq (C : CN X nL Z A cc own F L NC NS) {off : Int} {x : Int32} (hd : decode cc pc = .ok (.ifCond .eq off, 3)) (tgt : Nat) (ht : (pc : Int) + off = (tgt : Int)) (kt : x = 0 → WN X nL Z A Q ws kc ks tgt lv st) (kf : ¬ x = 0 → WN X nL Z A Q ws kc ks (pc + 3) lv st) : WN X nL Z A Q ws kc ks pc lv (.int x :: st) := by
  obtain ⟨p, l, e, R, s, m, args, below, meth, c⟩ := X
  exact fun H locs ls hP hD hS hl => lv_if_eq C.1 C.2.1 hd ht (fun h => kt h H locs ls hP hD hS hl) (fun h => kf h H locs ls hP hD hS hl)
theorem n_lcmp (C : CN X nL Z A cc own F L NC NS) {x y : Int64} (hd : decode cc pc = .ok (.lcmp, 1)) (k : WN X nL Z A Q ws kc ks (pc + 1) lv (.int (lg_cmp x y) :: st)) : WN X nL Z A Q ws kc ks pc lv (.long y :: .long x :: st) := by
  obtain ⟨p, l, e, R, s, m, args, below, meth, c⟩ := X
  exact fun H locs ls hP hD hS hl => W.lcmp C.1 C.2.1 hd (k H locs ls hP hD hS hl)
theorem n_tabIn (C : CN X nL Z A cc own F L NC NS) {dflt lo hi : Int} {offs : Array Int} {len : Nat} {x : Int32} {off : Int} (tgt : Nat) (hd : decode cc pc = .ok (.tableswitch dflt lo hi offs, len)) (h1 : ¬ x.toInt < lo) (h2 : ¬ hi < x.toInt) (ho : offs[(x.toInt - lo).toNat]? = some off) (ht : (pc : Int) + off = (tgt : Int)) (k : WN X nL Z A Q ws kc ks tgt lv st) : WN X nL Z A Q ws kc ks pc lv (.int x :: st) := by
  obtain ⟨p, l, e, R, s, m, args, below, meth, c⟩ := X
  exact fun H locs ls hP hD hS hl => lv_tableIn C.1 C.2.1 hd h1 h2 ho ht (k H locs ls hP hD hS hl)
theorem n_tabOut (C : CN X nL Z A cc own F L NC NS) {dflt lo hi : Int} {offs : Array Int} {len : Nat} {x : Int32} (tgt : Nat) (hd : decode cc pc = .ok (.tableswitch dflt lo hi offs, len)) (h : x.toInt < lo ∨ hi < x.toInt) (ht : (pc : Int) + dflt = (tgt : Int)) (k : WN X nL Z A Q ws kc ks tgt lv st) : WN X nL Z A Q ws kc ks pc lv (.int x :: st) := by
  obtain ⟨p, l, e, R, s, m, args, below, meth, c⟩ := X
  exact fun H locs ls hP hD hS hl => lv_tableOut C.1 C.2.1 hd h ht (k H locs ls hP hD hS hl)
theorem n_slen (C : CN X nL Z A cc own F L NC NS) (S : SX X A b SL xs) (hd : decode cc pc = .ok (.arraylength, 1)) (k : WN X nL Z A Q ws kc ks (pc + 1) lv (.int (nI SL) :: st)) : WN X nL Z A Q ws kc ks pc lv (.ref b :: st) := by
  obtain ⟨p, l, e, R, s, m, args, below, meth, c⟩ := X
  exact fun H locs ls hP hD hS hl => va_slen C.1 C.2.1 S.1 S.2.1 S.2.2 hS hd (k H locs ls hP hD hS hl)
theorem n_sld (C : CN X nL Z A cc own F L NC NS) (S : SX X A b SL xs) (hL : SL ≤ 3072) {i : Int32} (j : Nat) (hi : i = nI j) (hj : j < SL) (hd : decode cc pc = .ok (.iaload, 1)) (k : WN X nL Z A Q ws kc ks (pc + 1) lv (.int (xs j) :: st)) : WN X nL Z A Q ws kc ks pc lv (.int i :: .ref b :: st) := by
  subst hi
  obtain ⟨p, l, e, R, s, m, args, below, meth, c⟩ := X
  refine fun H locs ls hP hD hS hl => va_sld C.1 C.2.1 S.1 S.2.1 S.2.2 hS (vp_in_nI hj (by omega)) hd ?_
  rw [nI_clamp (by omega)]
  exact k H locs ls hP hD hS hl
/-- script[i + k] -/
theorem n_arg (C : CN X nL Z A cc own F L NC NS) (S : SX X A b SL xs) (hL : SL ≤ 3072) {i : Nat} {k : Int} (j : Nat) (hk : Int32.ofInt k = nI j) (hj : i + j < SL) (h0 : lv[0]? = some (0, .ref b)) (h3 : lv[3]? = some (3, .int (nI i))) (hd0 : decode cc pc = .ok (.aload_n 0, 1)) (hd1 : decode cc (pc + 1) = .ok (.iload_n 3, 1)) (hd2 : decode cc (pc + 2) = .ok (.iconst k, 1)) (hd3 : decode cc (pc + 3) = .ok (.iadd, 1)) (hd4 : decode cc (pc + 4) = .ok (.iaload, 1)) (kk : WN X nL Z A Q ws kc ks (pc + 5) lv (.int (xs (i + j)) :: st)) : WN X nL Z A Q ws kc ks pc lv st := by
  refine n_aload_n C hd0 0 rfl h0 ?_
  refine n_iload_n C hd1 3 rfl h3 ?_
  refine n_iconst C hd2 hk ?_
  refine n_iadd C hd3 ?_
  exact n_sld C S hL (i + j) (nI_add i j) hj hd4 kk
theorem l_callI (C : CN X nL Z A cc own F L NC NS) (h1 : kc ≤ NC) (h2 : ks ≤ NS) {r : Int32} (hM : CT Y (zU Z u) y cc' maxL' ret' F' L' (.ref (u 0) :: As) g (QkI Y (zU Z u) r K)) (hi : MI y cc' maxL' ret' n) (hw : Cond.methodLink own index y ∈ TT) (hY : 0 < Y.1) {ci : Nat} {fs : List Value} (hE : Y.2.1 (zU Z u) 0 (sr Y g 0) = .inr (ci, fs)) {T : u_T} {N : Nat} (hc : cls[ci]? = some (y.cls, T, N)) (hR : F' + 1 ≤ F ∧ 8 + (maxL' + 11) + L' ≤ L) (hn : As.length = n) (hst : As.reverse ++ .ref (u 0) :: st = st0) (hcat : (st.map fun v => v.category).sum ≤ 8) (hd : decode cc pc = .ok (.invokevirtual index, 3)) (kk : ∀ g', K g' → WN X nL Z A Q (wr ++ sw Y (zU Z u) g') kc ks (pc + 3) lv (.int r :: st)) : WN X nL Z A Q (sw Y (zU Z u) g ++ wr) kc ks pc lv st0 := by
  subst hst
  obtain ⟨p, l, e, R, s, m, args, below, meth, c⟩ := X
  intro H locs ls hP hD hS hl
  obtain ⟨hx, hb, hml, hown, hts, -, hFr, hLo, hNC, hNS, hK, hA, hEn, -⟩ := C
  have hlen : (sw Y (zU Z u) g).length = Y.1 := by simp [sw]
  have hin : ∀ k, k < Y.1 → (sw Y (zU Z u) g ++ wr)[k]? = some (u k, Y.2.1 (zU Z u) k (sr Y g k)) := fun k hk => by
    rw [List.getElem?_append_left (by rw [hlen]; exact hk)]; exact sw_at hk
  have hPc : va_P Z.1 cls (sw Y (zU Z u) g) H := fun k q hk => hP k q (by rw [List.getElem?_append_left (List.getElem?_eq_some_iff.mp hk).1]; exact hk)
  have hI : sI Y (zU Z u) := fun i j hi hj e => hD.1 i j _ _ (hin i hi) (hin j hj) e
  have hF : ∀ q, sA Y (zU Z u) q → A q := fun q h => by
    obtain ⟨k, hk, rfl⟩ := h
    exact hD.2 k _ (hin k hk)
  refine va_calli (va_runV (As := As) (rest := st) ⟨hx, hb, hml, hown, hts⟩ (hM l) ⟨callB_of n hts (code_in hi.2.2.2.1) rfl rfl rfl (hts _ hi.2.2.1) (hts _ hw) hi.2.2.2.2 ⟨Nat.le_trans hR.1 hFr, Nat.le_trans hR.2 hLo⟩, hts _ hi.1, hts _ hi.2.1⟩ ⟨SysAt.blind, va_recv hK hPc hc (by rw [sw_at hY, hE]; rfl), fun U hU hW => ⟨rfl, by rw [hU]; exact hPc, va_K.moved hW.alike hK, hI, by rw [hU]; exact ((hEn.kept hS.2.1).narrow hF).warm hW⟩⟩ rfl hn hl.1 rfl (lv_room hcat) hd ⟨Nat.le_trans h1 hNC, Nat.le_trans h2 hNS⟩) hS (fun q _ h => hF q h) hF (fun r1 g1 t H1 locs1 ht hvm hq hB _ hk1 hS1 => ?_)
  obtain ⟨rfl, hq⟩ := hq
  have hB : va_P Z.1 cls (sw Y (zU Z u) g1) t.heap := hB
  rw [ht] at hB
  have hPr : va_P Z.1 cls wr H1 := fun k q hk => by
    have hk2 : (sw Y (zU Z u) g ++ wr)[Y.1 + k]? = some q := by
      rw [List.getElem?_append_right (by rw [hlen]; omega), hlen, Nat.add_sub_cancel_left]; exact hk
    have ha := hP _ q hk2
    refine ha.kept (hk1 q.1 ha.lt (fun h => ?_))
    obtain ⟨j, hj, e⟩ := h
    have := hD.1 (Y.1 + k) j q _ hk2 (hin j hj) e
    omega
  refine kk g1 hq H1 locs1 ls (hPr.app hB) (va_sw hD (fun k q hk => ?_)) hS1 hl
  obtain ⟨hk1, rfl⟩ := sw_of hk
  exact ⟨_, sw_at hk1⟩
theorem l_callL (C : CN X nL Z A cc own F L NC NS) (h1 : kc ≤ NC) (h2 : ks ≤ NS) {r : Int64} {g' : St} (hM : CT Y (zU Z u) y cc' maxL' ret' F' L' (.ref (u 0) :: As) g (QcL Y (zU Z u) r g')) (hi : MI y cc' maxL' ret' n) (hw : Cond.methodLink own index y ∈ TT) (hY : 0 < Y.1) {ci : Nat} {fs : List Value} (hE : Y.2.1 (zU Z u) 0 (sr Y g 0) = .inr (ci, fs)) {T : u_T} {N : Nat} (hc : cls[ci]? = some (y.cls, T, N)) (hR : F' + 1 ≤ F ∧ 8 + (maxL' + 11) + L' ≤ L) (hn : As.length = n) (hst : As.reverse ++ .ref (u 0) :: st = st0) (hcat : (st.map fun v => v.category).sum ≤ 8) (hd : decode cc pc = .ok (.invokevirtual index, 3)) (kk : WN X nL Z A Q (wr ++ sw Y (zU Z u) g') kc ks (pc + 3) lv (.long r :: st)) : WN X nL Z A Q (sw Y (zU Z u) g ++ wr) kc ks pc lv st0 := by
  subst hst
  obtain ⟨p, l, e, R, s, m, args, below, meth, c⟩ := X
  intro H locs ls hP hD hS hl
  obtain ⟨hx, hb, hml, hown, hts, -, hFr, hLo, hNC, hNS, hK, hA, hEn, -⟩ := C
  have hlen : (sw Y (zU Z u) g).length = Y.1 := by simp [sw]
  have hin : ∀ k, k < Y.1 → (sw Y (zU Z u) g ++ wr)[k]? = some (u k, Y.2.1 (zU Z u) k (sr Y g k)) := fun k hk => by
    rw [List.getElem?_append_left (by rw [hlen]; exact hk)]; exact sw_at hk
  have hPc : va_P Z.1 cls (sw Y (zU Z u) g) H := fun k q hk => hP k q (by rw [List.getElem?_append_left (List.getElem?_eq_some_iff.mp hk).1]; exact hk)
  have hI : sI Y (zU Z u) := fun i j hi hj e => hD.1 i j _ _ (hin i hi) (hin j hj) e
  have hF : ∀ q, sA Y (zU Z u) q → A q := fun q h => by
    obtain ⟨k, hk, rfl⟩ := h
    exact hD.2 k _ (hin k hk)
  refine va_calll (va_runV (As := As) (rest := st) ⟨hx, hb, hml, hown, hts⟩ (hM l) ⟨callB_of n hts (code_in hi.2.2.2.1) rfl rfl rfl (hts _ hi.2.2.1) (hts _ hw) hi.2.2.2.2 ⟨Nat.le_trans hR.1 hFr, Nat.le_trans hR.2 hLo⟩, hts _ hi.1, hts _ hi.2.1⟩ ⟨SysAt.blind, va_recv hK hPc hc (by rw [sw_at hY, hE]; rfl), fun U hU hW => ⟨rfl, by rw [hU]; exact hPc, va_K.moved hW.alike hK, hI, by rw [hU]; exact ((hEn.kept hS.2.1).narrow hF).warm hW⟩⟩ rfl hn hl.1 rfl (lv_room hcat) hd ⟨Nat.le_trans h1 hNC, Nat.le_trans h2 hNS⟩) hS (fun q _ h => hF q h) hF (fun r1 g1 t H1 locs1 ht hvm hq hB _ hk1 hS1 => ?_)
  obtain ⟨rfl, rfl⟩ := hq
  have hB : va_P Z.1 cls (sw Y (zU Z u) g1) t.heap := hB
  rw [ht] at hB
  have hPr : va_P Z.1 cls wr H1 := fun k q hk => by
    have hk2 : (sw Y (zU Z u) g ++ wr)[Y.1 + k]? = some q := by
      rw [List.getElem?_append_right (by rw [hlen]; omega), hlen, Nat.add_sub_cancel_left]; exact hk
    have ha := hP _ q hk2
    refine ha.kept (hk1 q.1 ha.lt (fun h => ?_))
    obtain ⟨j, hj, e⟩ := h
    have := hD.1 (Y.1 + k) j q _ hk2 (hin j hj) e
    omega
  refine kk H1 locs1 ls (hPr.app hB) (va_sw hD (fun k q hk => ?_)) hS1 hl
  obtain ⟨hk1, rfl⟩ := sw_of hk
  exact ⟨_, sw_at hk1⟩
end LRows
