/-! THE CLAIM OUT OF ONE WALK OF THE LAW'S BODY. Your part is whole_start (and what it stands on); all else here is the same for every law, but numbers. -/
def R_law : String := "TunnelPeaceLaw"
def lw_P (b : Addr) (xs : List Int32) (args : Array Value) (s : State) : Prop := args = #[.ref b] ∧ s.IntsAt b xs ∧ xs.length ≤ 3072 ∧ (Jvm.Cond.and given_1 narrow_1).before args s = true
def lw_Q (_ : Array Value) (s : State) (o : Outcome) (t : State) : Prop := o = .returned (some (.int 1)) ∧ Framed s o t [] 600000 7302250
def lw_Z (below : List Frame) (a : Array Value) (s : State) : State → Prop := fun t => ∃ o, t.status = .running ∧ Ended t below o ∧ lw_Q a s o t
/-- the law's own end, with 1 on the stack, nothing written that was there before, its room as the claim has it -/
theorem lw_ret {p : Program} {l : Launch} {e : Env} {s : State} {m : MethodId} {below : List Frame} {meth : Method} {c : Code} {b : Nat} (hx : p.tables.exec = Jvm.exec) (hb : c.code = code) (hr : meth.sig.returnType = ret) (hlocks : meth.locks = false) {pc : Nat} {H : Heap} {ls : Array Slot} (hdg : decode code pc = .ok (.ireturn, 1)) : W p l e room_1 s m #[Value.ref b] below meth c H [] 600000 7302250 (lw_Z below #[Value.ref b] s) (F0 m pc ls [.int 1]) := by
  intro T hT X
  obtain ⟨fs, hret, hrun, hended, hW, hframe⟩ := X.leave (v := some (.int 1)) (hlocks := hlocks) (fun h => by rw [hr] at h; cases h)
  have hmeth' : T.vm.method? m = some meth := X.method'
  refine ⟨T.setFrames fs, ?_, .returned (some (.int 1)), hrun, hended, rfl, ⟨_, rfl⟩, hW, hframe⟩
  jvm_step X.here [X.here.top, hx, hb, hdg, hmeth', hr, ret, narrow_b1]
  (try refine ⟨rfl, ?_⟩); (try refine ⟨rfl, ?_⟩)
  first | (intro acts; rw [hret _ acts rfl rfl rfl]) | rw [hret _ _ rfl rfl rfl]
  exact Steps.refl _
/-- what holds at the law's entry: the machine, the code, the tables' words (any of lw_tbl by 'hts w (by decide +kernel)'), the script of L ints xs at the cell b, what the Statement gives of the start (any of its parts by flat_of_before) -/
def lw_At (p : Program) (s : State) (m : MethodId) (meth : Method) (c : Code) (b L : Nat) (xs : Nat → Int32) : Prop :=
  p.tables.exec = Jvm.exec ∧ c.code = code ∧ meth.sig.returnType = ret ∧ c.maxLocals = 4 ∧ s.vm.findClass R_law = some m.cls ∧ (∀ w ∈ lw_tbl, w.before #[Value.ref b] s = true) ∧ va_X b L xs s s.heap ∧ b < s.heap.size ∧ meth.locks = false ∧ (Jvm.Cond.and given_1 narrow_1).before #[Value.ref b] s = true
theorem tI_inv : inv tI := by
  have hs : sz tI = 0 := by decide +kernel
  refine ⟨⟨⟨0, by omega, rfl⟩, 0, by omega, rfl⟩, ⟨50, by omega, rfl⟩, fun j hj => ?_, fun j hj => Or.inl ?_, fun i hi => ?_⟩
  · rcases (show j = 0 ∨ j = 1 ∨ j = 2 ∨ j = 3 ∨ j = 4 ∨ j = 5 by omega) with rfl | rfl | rfl | rfl | rfl | rfl <;> exact ⟨7, by omega, rfl⟩
  · unfold tI
    rw [if_neg (by omega), if_neg (by omega), if_neg (by omega), if_pos (by omega)]
  · rw [hs] at hi; omega
theorem rel_I : Rel gI hI := by
  have z : ∀ s j, 3 ≤ s → gI s j = 0 := fun s j h => if_neg (by omega)
  have zh : ∀ s j, 1 ≤ s → hI s j = 0 := fun s j h => if_neg (by omega)
  refine ⟨⟨?_, fun k _ => rfl⟩, ⟨rfl, fun h => absurd rfl h⟩, ⟨fun w _ => rfl, by decide +kernel⟩, ⟨0, by omega, rfl, rfl, fun k hk => by omega⟩, fun s hs => ⟨?_, ⟨0, by omega, ?_, rfl⟩, fun k _ => ?_⟩⟩
  · exact tI_inv
  · rw [z _ _ (by omega), zh _ _ (by omega)]
  · rw [z _ _ (by omega)]; rfl
  · rw [z _ _ (by omega), zh _ _ (by omega)]
theorem left6 {L i : Nat} (hL : L ≤ 3072) (hi : i ≤ 4000) (h : ¬ nI L - 6 < nI i) : i + 6 ≤ L := by
  have e : (nI L - nI 6).toInt = (L : Int) - 6 := pk_sub_toInt (by omega) (by omega)
  have h2 : ¬ (nI L - nI 6).toInt < (nI i).toInt := fun z => h (Int32.lt_iff_toInt_lt.mpr z)
  rw [e, nI_toInt (by omega)] at h2
  omega
set_option maxRecDepth 100000 in
set_option maxHeartbeats 4000000 in
theorem law_step {p : Program} {l : Launch} {e : Env} {s : State} {m : MethodId} {below : List Frame} {meth : Method} {c : Code} {b SL : Nat} {xs : Nat → Int32} {Z : ZT} {uc um : Nat → Nat} {kc ks i : Nat} {g h : St} (h1 : kc ≤ 600000) (h2 : ks ≤ 7302250) (hr : meth.sig.returnType = ret) (LL : LC (p, l, e, room_1, s, m, #[Value.ref b], below, meth, c) (fun q : Nat => s.heap.size ≤ q) Z b SL xs) (hi4 : i ≤ 4000) (R : Rel g h) (ih : i + 6 ≤ SL → ∀ g' h', Rel g' h' → WN (p, l, e, room_1, s, m, #[Value.ref b], below, meth, c) 4 Z (fun q : Nat => s.heap.size ≤ q) (lw_Z below #[Value.ref b] s) (sw yC (zU Z uc) g' ++ sw yM (zU Z um) h') kc ks 18 [(0, .ref b), (1, .ref (uc 0)), (2, .ref (um 0)), (3, .int (nI (i + 6)))] []) : WN (p, l, e, room_1, s, m, #[Value.ref b], below, meth, c) 4 Z (fun q : Nat => s.heap.size ≤ q) (lw_Z below #[Value.ref b] s) (sw yC (zU Z uc) g ++ sw yM (zU Z um) h) kc ks 18 [(0, .ref b), (1, .ref (uc 0)), (2, .ref (um 0)), (3, .int (nI i))] [] := by
  obtain ⟨C, S, hL⟩ := id LL
  refine n_iload_n C d_law_18 3 rfl rfl ?_
  refine n_aload_n C d_law_19 0 rfl rfl ?_
  refine n_slen C S d_law_20 ?_
  refine n_bipush C d_law_21 (v := 6) (by decide) ?_
  refine n_isub C d_law_23 ?_
  refine n_icmp_gt C d_law_24 1365 (by decide) (fun _ => ?_) (fun hc => ?_)
  · intro H locs ls hP hD hS hl
    refine lv_iconst (v := 1) C.1 C.2.1 d_law_1365 (by decide) ?_
    refine va_forget (fun q hq => hS.2.2 q hq) ?_
    refine W.widen (k := 600000) (n := 7302250) h1 h2 ?_
    exact lw_ret C.1 C.2.1 hr C.2.2.2.2.2.1 d_law_1366
  · have hi : i + 6 ≤ SL := left6 hL hi4 hc
    have kk : ∀ g' h', Rel g' h' → WN (p, l, e, room_1, s, m, #[Value.ref b], below, meth, c) 4 Z (fun q : Nat => s.heap.size ≤ q) (lw_Z below #[Value.ref b] s) (sw yC (zU Z uc) g' ++ sw yM (zU Z um) h') kc ks 1359 [(0, .ref b), (1, .ref (uc 0)), (2, .ref (um 0)), (3, .int (nI i))] [] := fun g' h' R' => by
      refine n_iinc C d_law_1359 3 rfl (v := nI (i + 6)) (by rw [show Int32.ofInt 6 = nI 6 by decide]; exact nI_add i 6) (by decide) (lv' := [(3, .int (nI (i + 6))), (0, .ref b), (1, .ref (uc 0)), (2, .ref (um 0))]) rfl ?_
      refine n_goto C d_law_1362 18 (by decide) ?_
      refine n_lv [1, 2, 3, 0] (lv' := [(0, .ref b), (1, .ref (uc 0)), (2, .ref (um 0)), (3, .int (nI (i + 6)))]) rfl ?_
      exact ih hi g' h' R'
    refine n_aload_n C d_law_27 0 rfl rfl ?_
    refine n_iload_n C d_law_28 3 rfl rfl ?_
    refine n_sld C S hL i rfl (by omega) d_law_29 ?_
    refine n_bipush C d_law_30 (v := 63) (by decide) ?_
    refine n_iand C d_law_32 ?_
    obtain ⟨j, hj, ej⟩ := pk_andE (xs i) (m := 63) 6 (by decide)
    refine n_topi ej ?_
    by_cases h40 : j < 40
    · rcases (show j = 0 ∨ j = 1 ∨ j = 2 ∨ j = 3 ∨ j = 4 ∨ j = 5 ∨ j = 6 ∨ j = 7 ∨ j = 8 ∨ j = 9 ∨ j = 10 ∨ j = 11 ∨ j = 12 ∨ j = 13 ∨ j = 14 ∨ j = 15 ∨ j = 16 ∨ j = 17 ∨ j = 18 ∨ j = 19 ∨ j = 20 ∨ j = 21 ∨ j = 22 ∨ j = 23 ∨ j = 24 ∨ j = 25 ∨ j = 26 ∨ j = 27 ∨ j = 28 ∨ j = 29 ∨ j = 30 ∨ j = 31 ∨ j = 32 ∨ j = 33 ∨ j = 34 ∨ j = 35 ∨ j = 36 ∨ j = 37 ∨ j = 38 ∨ j = 39 by omega) with rfl | rfl | rfl | rfl | rfl | rfl | rfl | rfl | rfl | rfl | rfl | rfl | rfl | rfl | rfl | rfl | rfl | rfl | rfl | rfl | rfl | rfl | rfl | rfl | rfl | rfl | rfl | rfl | rfl | rfl | rfl | rfl | rfl | rfl | rfl | rfl | rfl | rfl | rfl | rfl
      · exact n_tabIn C 208 d_law_33 (by decide) (by decide) (off := 175) (by decide +kernel) (by decide) (lc_0 LL h1 h2 hi R kk)
      · exact n_tabIn C 231 d_law_33 (by decide) (by decide) (off := 198) (by decide +kernel) (by decide) (lc_1 LL h1 h2 hi R kk)
      · exact n_tabIn C 264 d_law_33 (by decide) (by decide) (off := 231) (by decide +kernel) (by decide) (lc_2 LL h1 h2 hi R kk)
      · exact n_tabIn C 287 d_law_33 (by decide) (by decide) (off := 254) (by decide +kernel) (by decide) (lc_3 LL h1 h2 hi R kk)
      · exact n_tabIn C 320 d_law_33 (by decide) (by decide) (off := 287) (by decide +kernel) (by decide) (lc_4 LL h1 h2 hi R kk)
      · exact n_tabIn C 353 d_law_33 (by decide) (by decide) (off := 320) (by decide +kernel) (by decide) (lc_5 LL h1 h2 hi R kk)
      · exact n_tabIn C 396 d_law_33 (by decide) (by decide) (off := 363) (by decide +kernel) (by decide) (lc_6 LL h1 h2 hi R kk)
      · exact n_tabIn C 419 d_law_33 (by decide) (by decide) (off := 386) (by decide +kernel) (by decide) (lc_7 LL h1 h2 hi R kk)
      · exact n_tabIn C 452 d_law_33 (by decide) (by decide) (off := 419) (by decide +kernel) (by decide) (lc_8 LL h1 h2 hi R kk)
      · exact n_tabIn C 475 d_law_33 (by decide) (by decide) (off := 442) (by decide +kernel) (by decide) (lc_9 LL h1 h2 hi R kk)
      · exact n_tabIn C 498 d_law_33 (by decide) (by decide) (off := 465) (by decide +kernel) (by decide) (lc_10 LL h1 h2 hi R kk)
      · exact n_tabIn C 541 d_law_33 (by decide) (by decide) (off := 508) (by decide +kernel) (by decide) (lc_11 LL h1 h2 hi R kk)
      · exact n_tabIn C 564 d_law_33 (by decide) (by decide) (off := 531) (by decide +kernel) (by decide) (lc_12 LL h1 h2 hi R kk)
      · exact n_tabIn C 587 d_law_33 (by decide) (by decide) (off := 554) (by decide +kernel) (by decide) (lc_13 LL h1 h2 hi R kk)
      · exact n_tabIn C 620 d_law_33 (by decide) (by decide) (off := 587) (by decide +kernel) (by decide) (lc_14 LL h1 h2 hi R kk)
      · exact n_tabIn C 633 d_law_33 (by decide) (by decide) (off := 600) (by decide +kernel) (by decide) (lc_15 LL h1 h2 hi R kk)
      · exact n_tabIn C 666 d_law_33 (by decide) (by decide) (off := 633) (by decide +kernel) (by decide) (lc_16 LL h1 h2 hi R kk)
      · exact n_tabIn C 699 d_law_33 (by decide) (by decide) (off := 666) (by decide +kernel) (by decide) (lc_17 LL h1 h2 hi R kk)
      · exact n_tabIn C 742 d_law_33 (by decide) (by decide) (off := 709) (by decide +kernel) (by decide) (lc_18 LL h1 h2 hi R kk)
      · exact n_tabIn C 775 d_law_33 (by decide) (by decide) (off := 742) (by decide +kernel) (by decide) (lc_19 LL h1 h2 hi R kk)
      · exact n_tabIn C 798 d_law_33 (by decide) (by decide) (off := 765) (by decide +kernel) (by decide) (lc_20 LL h1 h2 hi R kk)
      · exact n_tabIn C 831 d_law_33 (by decide) (by decide) (off := 798) (by decide +kernel) (by decide) (lc_21 LL h1 h2 hi R kk)
      · exact n_tabIn C 864 d_law_33 (by decide) (by decide) (off := 831) (by decide +kernel) (by decide) (lc_22 LL h1 h2 hi R kk)
      · exact n_tabIn C 887 d_law_33 (by decide) (by decide) (off := 854) (by decide +kernel) (by decide) (lc_23 LL h1 h2 hi R kk)
      · exact n_tabIn C 931 d_law_33 (by decide) (by decide) (off := 898) (by decide +kernel) (by decide) (lc_24 LL h1 h2 hi R kk)
      · exact n_tabIn C 954 d_law_33 (by decide) (by decide) (off := 921) (by decide +kernel) (by decide) (lc_25 LL h1 h2 hi R kk)
      · exact n_tabIn C 987 d_law_33 (by decide) (by decide) (off := 954) (by decide +kernel) (by decide) (lc_26 LL h1 h2 hi R kk)
      · exact n_tabIn C 1000 d_law_33 (by decide) (by decide) (off := 967) (by decide +kernel) (by decide) (lc_27 LL h1 h2 hi R kk)
      · exact n_tabIn C 1013 d_law_33 (by decide) (by decide) (off := 980) (by decide +kernel) (by decide) (lc_28 LL h1 h2 hi R kk)
      · exact n_tabIn C 1046 d_law_33 (by decide) (by decide) (off := 1013) (by decide +kernel) (by decide) (lc_29 LL h1 h2 hi R kk)
      · exact n_tabIn C 1079 d_law_33 (by decide) (by decide) (off := 1046) (by decide +kernel) (by decide) (lc_30 LL h1 h2 hi R kk)
      · exact n_tabIn C 1122 d_law_33 (by decide) (by decide) (off := 1089) (by decide +kernel) (by decide) (lc_31 LL h1 h2 hi R kk)
      · exact n_tabIn C 1165 d_law_33 (by decide) (by decide) (off := 1132) (by decide +kernel) (by decide) (lc_32 LL h1 h2 hi R kk)
      · exact n_tabIn C 1228 d_law_33 (by decide) (by decide) (off := 1195) (by decide +kernel) (by decide) (lc_33 LL h1 h2 hi R kk)
      · exact n_tabIn C 1251 d_law_33 (by decide) (by decide) (off := 1218) (by decide +kernel) (by decide) (lc_34 LL h1 h2 hi R kk)
      · exact n_tabIn C 1274 d_law_33 (by decide) (by decide) (off := 1241) (by decide +kernel) (by decide) (lc_35 LL h1 h2 hi R kk)
      · exact n_tabIn C 1287 d_law_33 (by decide) (by decide) (off := 1254) (by decide +kernel) (by decide) (lc_36 LL h1 h2 hi R kk)
      · exact n_tabIn C 1300 d_law_33 (by decide) (by decide) (off := 1267) (by decide +kernel) (by decide) (lc_37 LL h1 h2 hi R kk)
      · exact n_tabIn C 1313 d_law_33 (by decide) (by decide) (off := 1280) (by decide +kernel) (by decide) (lc_38 LL h1 h2 hi R kk)
      · exact n_tabIn C 1336 d_law_33 (by decide) (by decide) (off := 1303) (by decide +kernel) (by decide) (lc_39 LL h1 h2 hi R kk)
    · refine n_tabOut C 1359 d_law_33 (Or.inr ?_) (by decide) (kk g h R)
      rw [nI_toInt (by omega)]
      omega
set_option maxRecDepth 100000 in
theorem law_loop {p : Program} {l : Launch} {e : Env} {s : State} {m : MethodId} {below : List Frame} {meth : Method} {c : Code} {b SL : Nat} {xs : Nat → Int32} {Z : ZT} {uc um : Nat → Nat} {kc ks : Nat} (h1 : kc ≤ 600000) (h2 : ks ≤ 7302250) (hr : meth.sig.returnType = ret) (LL : LC (p, l, e, room_1, s, m, #[Value.ref b], below, meth, c) (fun q : Nat => s.heap.size ≤ q) Z b SL xs) : ∀ (n i : Nat) (g h : St), SL ≤ i + n → i ≤ SL → Rel g h → WN (p, l, e, room_1, s, m, #[Value.ref b], below, meth, c) 4 Z (fun q : Nat => s.heap.size ≤ q) (lw_Z below #[Value.ref b] s) (sw yC (zU Z uc) g ++ sw yM (zU Z um) h) kc ks 18 [(0, .ref b), (1, .ref (uc 0)), (2, .ref (um 0)), (3, .int (nI i))] [] := by
  intro n
  induction n with
  | zero =>
    intro i g h hn hi R
    have hL := LL.2.2
    exact law_step h1 h2 hr LL (by omega) R (fun h6 => absurd h6 (by omega))
  | succ n ih =>
    intro i g h hn hi R
    have hL := LL.2.2
    exact law_step h1 h2 hr LL (by omega) R (fun h6 g' h' R' => ih (i + 6) g' h' (by omega) h6 R')
theorem fmap_of {ws w' : va_W} {is : List Nat} (hs : is.map (fun i => ws[i]?) = w'.map some) : is.filterMap (fun i => ws[i]?) = w' := by
  have h1 := congrArg (fun z => z.filterMap id) hs
  simpa [List.filterMap_map] using h1
theorem map_app_l {w : va_W} {x : Nat × va_E} : (List.range w.length).map (fun i => (w ++ [x])[i]?) = w.map some := by
  apply List.ext_getElem?
  intro k
  by_cases hk : k < w.length
  · rw [List.getElem?_map, List.getElem?_range hk, List.getElem?_map]
    show some ((w ++ [x])[k]?) = Option.map some w[k]?
    rw [List.getElem?_append_left hk, List.getElem?_eq_getElem hk]
    rfl
  · rw [List.getElem?_eq_none (by simp; omega), List.getElem?_eq_none (by simp; omega)]
set_option maxRecDepth 100000 in
set_option maxHeartbeats 4000000 in
theorem whole_start {p : Program} {e : Env} {s : State} {m : MethodId} {below : List Frame} {meth : Method} {c : Code} (l : Launch) (hflags : l.flags = flags0) {b L : Nat} {xs : Nat → Int32} (hL : L ≤ 3072) (C0 : lw_At p s m meth c b L xs) : W p l e room_1 s m #[Value.ref b] below meth c s.heap [] 0 0 (lw_Z below #[Value.ref b] s) (entryFrame m ([Value.ref b] : List Value).toArray 4) := by
  obtain ⟨hx, hb, hr, hml, hown, hts, hX, hbl, hlocks, hgv⟩ := C0
  obtain ⟨Z, hK, hE, hO⟩ := env_of hts hgv
  have C : CN (p, l, e, room_1, s, m, #[Value.ref b], below, meth, c) 4 Z (fun q : Nat => s.heap.size ≤ q) code "TunnelPeaceLaw" 12 444 600000 7302250 := ⟨hx, hb, hml, hown, fun w hw => hts w (tt_sub hw), hlocks, Nat.le_of_ble_eq_true rfl, Nat.le_of_ble_eq_true rfl, Nat.le_of_ble_eq_true rfl, Nat.le_of_ble_eq_true rfl, hK, fun q h => h, hE, hO⟩
  have S : SX (p, l, e, room_1, s, m, #[Value.ref b], below, meth, c) (fun q : Nat => s.heap.size ≤ q) b L xs := ⟨hX, hbl, Nat.not_le.mpr hbl⟩
  have main : WN (p, l, e, room_1, s, m, #[Value.ref b], below, meth, c) 4 Z (fun q : Nat => s.heap.size ≤ q) (lw_Z below #[Value.ref b] s) [] 0 0 0 (lv_args 0 [.ref b]) [] := by
    refine n_lv [0] (lv' := [(0, .ref b)]) rfl ?_
    refine n_new C 5 (fs := [.null, .null, .null, .int 0, .null, .null, .null, .null]) in_TP ty_TP tyok_TP k_15 k_16 k_1 rfl (fun j hj => by rcases (show j = 0 ∨ j = 1 ∨ j = 2 ∨ j = 3 ∨ j = 4 ∨ j = 5 ∨ j = 6 ∨ j = 7 by omega) with rfl | rfl | rfl | rfl | rfl | rfl | rfl | rfl <;> rfl) (Nat.le_of_ble_eq_true rfl) (Nat.le_of_ble_eq_true rfl) d_law_0 (fun q1 => ?_)
    refine n_dup C d_law_3 rfl ?_
    refine n_init C (c_TP_init Z q1) mi_TP_init k_17 (As := []) ⟨Nat.le_of_ble_eq_true rfl, Nat.le_of_ble_eq_true rfl⟩ rfl rfl (Nat.le_of_ble_eq_true rfl) d_law_4 [0] [] (wr := []) rfl rfl (by decide) (by decide) (by decide) rfl (Nat.le_of_ble_eq_true rfl) (Nat.le_of_ble_eq_true rfl) (fun u1 => ?_)
    obtain ⟨uc, huc, euc⟩ : ∃ w : Nat → Nat, w = va_up u1 0 q1 ∧ w 0 = q1 := ⟨_, rfl, rfl⟩
    rw [← huc]
    clear huc
    subst euc
    refine n_ws (ws' := sw yC (zU Z uc) gI) rfl ?_
    refine n_astore_n C d_law_7 rfl (by decide) (lv' := [(1, .ref (uc 0)), (0, .ref b)]) rfl ?_
    refine n_new C 6 (fs := [.null, .null, .null, .int 0, .null, .null, .int 0, .int 0, .int 0, .int 0, .int 0, .int 0, .null, .null, .int 0, .int 0, .null, .null, .null, .null]) in_Mo ty_Mo tyok_Mo k_776 k_777 k_7 rfl (fun j hj => by rcases (show j = 0 ∨ j = 1 ∨ j = 2 ∨ j = 3 ∨ j = 4 ∨ j = 5 ∨ j = 6 ∨ j = 7 ∨ j = 8 ∨ j = 9 ∨ j = 10 ∨ j = 11 ∨ j = 12 ∨ j = 13 ∨ j = 14 ∨ j = 15 ∨ j = 16 ∨ j = 17 ∨ j = 18 ∨ j = 19 by omega) with rfl | rfl | rfl | rfl | rfl | rfl | rfl | rfl | rfl | rfl | rfl | rfl | rfl | rfl | rfl | rfl | rfl | rfl | rfl | rfl <;> rfl) (Nat.le_of_ble_eq_true rfl) (Nat.le_of_ble_eq_true rfl) d_law_8 (fun q2 => ?_)
    refine n_dup C d_law_11 rfl ?_
    have hl : (sw yC (zU Z uc) gI).length = 50 := by simp [sw]; rfl
    have hC : ([50] : List Nat).map (fun i => (sw yC (zU Z uc) gI ++ [(q2, (.inr (6, [.null, .null, .null, .int 0, .null, .null, .int 0, .int 0, .int 0, .int 0, .int 0, .int 0, .null, .null, .int 0, .int 0, .null, .null, .null, .null]) : va_E))])[i]?) = ([(q2, (.inr (6, [.null, .null, .null, .int 0, .null, .null, .int 0, .int 0, .int 0, .int 0, .int 0, .int 0, .null, .null, .int 0, .int 0, .null, .null, .null, .null]) : va_E))] : va_W).map some := by
      show [(sw yC (zU Z uc) gI ++ [(q2, (.inr (6, [.null, .null, .null, .int 0, .null, .null, .int 0, .int 0, .int 0, .int 0, .int 0, .int 0, .null, .null, .int 0, .int 0, .null, .null, .null, .null]) : va_E))])[50]?] = _
      rw [List.getElem?_append_right (by rw [hl]; omega), hl]
      rfl
    refine n_init C (c_Mo_init Z q2) mi_Mo_init k_778 (As := []) ⟨Nat.le_of_ble_eq_true rfl, Nat.le_of_ble_eq_true rfl⟩ rfl rfl (Nat.le_of_ble_eq_true rfl) d_law_12 [50] (List.range 50) (wr := sw yC (zU Z uc) gI) hC (by rw [← hl]; exact map_app_l) (by decide) (by decide +kernel) (by decide +kernel) (fmap_of hC) (Nat.le_of_ble_eq_true rfl) (Nat.le_of_ble_eq_true rfl) (fun u2 => ?_)
    obtain ⟨um, hum, eum⟩ : ∃ w : Nat → Nat, w = va_up u2 0 q2 ∧ w 0 = q2 := ⟨_, rfl, rfl⟩
    rw [← hum]
    clear hum
    clear hC
    subst eum
    refine n_astore_n C d_law_15 rfl (by decide) (lv' := [(2, .ref (um 0)), (1, .ref (uc 0)), (0, .ref b)]) rfl ?_
    refine n_iconst C d_law_16 (v := 0) (by decide) ?_
    refine n_istore_n C d_law_17 rfl (by decide) (lv' := [(3, .int 0), (2, .ref (um 0)), (1, .ref (uc 0)), (0, .ref b)]) rfl ?_
    refine n_lv [3, 2, 1, 0] (lv' := [(0, .ref b), (1, .ref (uc 0)), (2, .ref (um 0)), (3, .int (nI 0))]) rfl ?_
    exact law_loop (Nat.le_of_ble_eq_true rfl) (Nat.le_of_ble_eq_true rfl) hr ⟨C, S, hL⟩ L 0 gI hI (by omega) (by omega) rel_I
  rw [lg_entry_eq]
  exact main s.heap [] _ (fun k q h => by simp at h) ⟨fun i j p q h => by simp at h, fun k q h => by simp at h⟩ va_S.rf (lv_entry [.ref b] (Nat.le_of_ble_eq_true rfl))
