/-! the law's cases -/
def LC (X : XT) (A : Nat → Prop) (Z : ZT) (b SL : Nat) (xs : Nat → Int32) : Prop := CN X 4 Z A code "TunnelPeaceLaw" 12 444 600000 7302250 ∧ SX X A b SL xs ∧ SL ≤ 3072
theorem rel_kd {r r' : Nat → Int32} (h : relN r r') : ∀ i, i < sz r → ∃ k, k < 7 ∧ r (pI i 0) = nI k := fun i hi => by
  obtain ⟨k, hk, e⟩ := (h.iv.p hi).k
  exact ⟨k, by omega, e⟩
theorem inv_kd {r : Nat → Int32} (h : inv r) : ∀ i, i < sz r → ∃ k, k < 7 ∧ r (pI i 0) = nI k := fun i hi => by
  obtain ⟨k, hk, e⟩ := (h.p hi).k
  exact ⟨k, by omega, e⟩
theorem rel_sC {g h : St} (R : Rel g h) : ∀ s, s < 4 → ∃ L, L ≤ 40 ∧ g (8 + s) 1 = nI L := fun s hs => by
  obtain ⟨-, ⟨L, hL, e, -⟩, -⟩ := R.2.2.2.2 s hs
  exact ⟨L, hL, e⟩
theorem rel_sM {g h : St} (R : Rel g h) : ∀ s, s < 4 → ∃ L, L ≤ 40 ∧ h 9 s = nI L := fun s hs => by
  obtain ⟨-, ⟨L, hL, -, e⟩, -⟩ := R.2.2.2.2 s hs
  exact ⟨L, hL, e⟩
theorem rel_tC {g h : St} (R : Rel g h) : ∃ L, L ≤ 120 ∧ g 5 0 = nI L := by
  obtain ⟨L, hL, e, -, -⟩ := R.2.2.2.1
  exact ⟨L, hL, e⟩
theorem rel_tM {g h : St} (R : Rel g h) : ∃ L, L ≤ 120 ∧ h 3 6 = nI L := by
  obtain ⟨L, hL, -, e, -⟩ := R.2.2.2.1
  exact ⟨L, hL, e⟩
theorem lg_same (x : Int64) : lg_cmp x x = 0 := by
  unfold lg_cmp
  rw [if_neg (Int64.lt_irrefl (a := x)), if_pos rfl]
set_option maxRecDepth 100000 in
theorem lc_0 {X : XT} {A : Nat → Prop} {Z : ZT} {b SL : Nat} {xs : Nat → Int32} {Q : State → Prop} {uc um : Nat → Nat} {g h : St} {kc ks i : Nat} (LL : LC X A Z b SL xs) (h1 : kc ≤ 600000) (h2 : ks ≤ 7302250) (hi : i + 6 ≤ SL) (R : Rel g h) (kk : ∀ g' h', Rel g' h' → WN X 4 Z A Q (sw yC (zU Z uc) g' ++ sw yM (zU Z um) h') kc ks 1359 [(0, .ref b), (1, .ref (uc 0)), (2, .ref (um 0)), (3, .int (nI i))] []) : WN X 4 Z A Q (sw yC (zU Z uc) g ++ sw yM (zU Z um) h) kc ks 208 [(0, .ref b), (1, .ref (uc 0)), (2, .ref (um 0)), (3, .int (nI i))] [] := by
  obtain ⟨C, S, hL⟩ := LL
  have q := q_guns R (xs (i + 1))
  refine n_aload_n C d_law_208 1 rfl rfl ?_
  refine n_arg C S hL 1 (by decide) (by omega) rfl rfl d_law_209 d_law_210 d_law_211 d_law_212 d_law_213 ?_
  refine l_callI C h1 h2 (u := uc) (As := [.int (xs (i + 1))]) (c_TP_guns (zU Z uc) (xs (i + 1)) g R.1.ok ) mi_TP_guns k_190 (by decide) (e_TP _ _) rfl ⟨Nat.le_of_ble_eq_true rfl, Nat.le_of_ble_eq_true rfl⟩ rfl rfl (Nat.le_of_ble_eq_true rfl) d_law_214 (fun g1 hg1 => ?_)
  refine n_aload_n C d_law_217 2 rfl rfl ?_
  refine n_arg C S hL 1 (by decide) (by omega) rfl rfl d_law_218 d_law_219 d_law_220 d_law_221 d_law_222 ?_
  refine l_callI C h1 h2 (u := um) (As := [.int (xs (i + 1))]) (c_Mo_guns (zU Z um) (xs (i + 1)) h R.1.1.1 ) mi_Mo_guns k_852 (by decide) (m_0 _ _) rfl ⟨Nat.le_of_ble_eq_true rfl, Nat.le_of_ble_eq_true rfl⟩ rfl rfl (Nat.le_of_ble_eq_true rfl) d_law_223 (fun h1 hh1 => ?_)
  exact n_icmp_eq C d_law_226 1359 (by decide) (fun _ => kk _ _ (q.2 _ _ hg1 hh1)) (fun z => absurd q.1 z)
set_option maxRecDepth 100000 in
theorem lc_1 {X : XT} {A : Nat → Prop} {Z : ZT} {b SL : Nat} {xs : Nat → Int32} {Q : State → Prop} {uc um : Nat → Nat} {g h : St} {kc ks i : Nat} (LL : LC X A Z b SL xs) (h1 : kc ≤ 600000) (h2 : ks ≤ 7302250) (hi : i + 6 ≤ SL) (R : Rel g h) (kk : ∀ g' h', Rel g' h' → WN X 4 Z A Q (sw yC (zU Z uc) g' ++ sw yM (zU Z um) h') kc ks 1359 [(0, .ref b), (1, .ref (uc 0)), (2, .ref (um 0)), (3, .int (nI i))] []) : WN X 4 Z A Q (sw yC (zU Z uc) g ++ sw yM (zU Z um) h) kc ks 231 [(0, .ref b), (1, .ref (uc 0)), (2, .ref (um 0)), (3, .int (nI i))] [] := by
  obtain ⟨C, S, hL⟩ := LL
  have q := q_place R (xs (i + 1)) (xs (i + 2))
  refine n_aload_n C d_law_231 1 rfl rfl ?_
  refine n_arg C S hL 1 (by decide) (by omega) rfl rfl d_law_232 d_law_233 d_law_234 d_law_235 d_law_236 ?_
  refine n_arg C S hL 2 (by decide) (by omega) rfl rfl d_law_237 d_law_238 d_law_239 d_law_240 d_law_241 ?_
  refine l_callI C h1 h2 (u := uc) (As := [.int (xs (i + 1)), .int (xs (i + 2))]) (c_TP_place (zU Z uc) (xs (i + 1)) (xs (i + 2)) g R.1.ok ) mi_TP_place k_202 (by decide) (e_TP _ _) rfl ⟨Nat.le_of_ble_eq_true rfl, Nat.le_of_ble_eq_true rfl⟩ rfl rfl (Nat.le_of_ble_eq_true rfl) d_law_242 (fun g1 hg1 => ?_)
  refine n_aload_n C d_law_245 2 rfl rfl ?_
  refine n_arg C S hL 1 (by decide) (by omega) rfl rfl d_law_246 d_law_247 d_law_248 d_law_249 d_law_250 ?_
  refine n_arg C S hL 2 (by decide) (by omega) rfl rfl d_law_251 d_law_252 d_law_253 d_law_254 d_law_255 ?_
  refine l_callI C h1 h2 (u := um) (As := [.int (xs (i + 1)), .int (xs (i + 2))]) (c_Mo_place (zU Z um) (xs (i + 1)) (xs (i + 2)) h R.1.1.1 ) mi_Mo_place k_871 (by decide) (m_0 _ _) rfl ⟨Nat.le_of_ble_eq_true rfl, Nat.le_of_ble_eq_true rfl⟩ rfl rfl (Nat.le_of_ble_eq_true rfl) d_law_256 (fun h1 hh1 => ?_)
  exact n_icmp_eq C d_law_259 1359 (by decide) (fun _ => kk _ _ (q.2 _ _ hg1 hh1)) (fun z => absurd q.1 z)
set_option maxRecDepth 100000 in
theorem lc_2 {X : XT} {A : Nat → Prop} {Z : ZT} {b SL : Nat} {xs : Nat → Int32} {Q : State → Prop} {uc um : Nat → Nat} {g h : St} {kc ks i : Nat} (LL : LC X A Z b SL xs) (h1 : kc ≤ 600000) (h2 : ks ≤ 7302250) (hi : i + 6 ≤ SL) (R : Rel g h) (kk : ∀ g' h', Rel g' h' → WN X 4 Z A Q (sw yC (zU Z uc) g' ++ sw yM (zU Z um) h') kc ks 1359 [(0, .ref b), (1, .ref (uc 0)), (2, .ref (um 0)), (3, .int (nI i))] []) : WN X 4 Z A Q (sw yC (zU Z uc) g ++ sw yM (zU Z um) h) kc ks 264 [(0, .ref b), (1, .ref (uc 0)), (2, .ref (um 0)), (3, .int (nI i))] [] := by
  obtain ⟨C, S, hL⟩ := LL
  have q := q_listed R (xs (i + 1))
  refine n_aload_n C d_law_264 1 rfl rfl ?_
  refine n_arg C S hL 1 (by decide) (by omega) rfl rfl d_law_265 d_law_266 d_law_267 d_law_268 d_law_269 ?_
  refine l_callI C h1 h2 (u := uc) (As := [.int (xs (i + 1))]) (c_TP_listed (zU Z uc) (xs (i + 1)) g R.1.ok ) mi_TP_listed k_206 (by decide) (e_TP _ _) rfl ⟨Nat.le_of_ble_eq_true rfl, Nat.le_of_ble_eq_true rfl⟩ rfl rfl (Nat.le_of_ble_eq_true rfl) d_law_270 (fun g1 hg1 => ?_)
  refine n_aload_n C d_law_273 2 rfl rfl ?_
  refine n_arg C S hL 1 (by decide) (by omega) rfl rfl d_law_274 d_law_275 d_law_276 d_law_277 d_law_278 ?_
  refine l_callI C h1 h2 (u := um) (As := [.int (xs (i + 1))]) (c_Mo_listed (zU Z um) (xs (i + 1)) h R.1.1.1 ) mi_Mo_listed k_881 (by decide) (m_0 _ _) rfl ⟨Nat.le_of_ble_eq_true rfl, Nat.le_of_ble_eq_true rfl⟩ rfl rfl (Nat.le_of_ble_eq_true rfl) d_law_279 (fun h1 hh1 => ?_)
  exact n_icmp_eq C d_law_282 1359 (by decide) (fun _ => kk _ _ (q.2 _ _ hg1 hh1)) (fun z => absurd q.1 z)
set_option maxRecDepth 100000 in
theorem lc_3 {X : XT} {A : Nat → Prop} {Z : ZT} {b SL : Nat} {xs : Nat → Int32} {Q : State → Prop} {uc um : Nat → Nat} {g h : St} {kc ks i : Nat} (LL : LC X A Z b SL xs) (h1 : kc ≤ 600000) (h2 : ks ≤ 7302250) (hi : i + 6 ≤ SL) (R : Rel g h) (kk : ∀ g' h', Rel g' h' → WN X 4 Z A Q (sw yC (zU Z uc) g' ++ sw yM (zU Z um) h') kc ks 1359 [(0, .ref b), (1, .ref (uc 0)), (2, .ref (um 0)), (3, .int (nI i))] []) : WN X 4 Z A Q (sw yC (zU Z uc) g ++ sw yM (zU Z um) h) kc ks 287 [(0, .ref b), (1, .ref (uc 0)), (2, .ref (um 0)), (3, .int (nI i))] [] := by
  obtain ⟨C, S, hL⟩ := LL
  have q := q_person R (xs (i + 1)) (xs (i + 2))
  refine n_aload_n C d_law_287 1 rfl rfl ?_
  refine n_arg C S hL 1 (by decide) (by omega) rfl rfl d_law_288 d_law_289 d_law_290 d_law_291 d_law_292 ?_
  refine n_arg C S hL 2 (by decide) (by omega) rfl rfl d_law_293 d_law_294 d_law_295 d_law_296 d_law_297 ?_
  refine l_callI C h1 h2 (u := uc) (As := [.int (xs (i + 1)), .int (xs (i + 2))]) (c_TP_person (zU Z uc) (xs (i + 1)) (xs (i + 2)) g R.1.ok ) mi_TP_person k_210 (by decide) (e_TP _ _) rfl ⟨Nat.le_of_ble_eq_true rfl, Nat.le_of_ble_eq_true rfl⟩ rfl rfl (Nat.le_of_ble_eq_true rfl) d_law_298 (fun g1 hg1 => ?_)
  refine n_aload_n C d_law_301 2 rfl rfl ?_
  refine n_arg C S hL 1 (by decide) (by omega) rfl rfl d_law_302 d_law_303 d_law_304 d_law_305 d_law_306 ?_
  refine n_arg C S hL 2 (by decide) (by omega) rfl rfl d_law_307 d_law_308 d_law_309 d_law_310 d_law_311 ?_
  refine l_callI C h1 h2 (u := um) (As := [.int (xs (i + 1)), .int (xs (i + 2))]) (c_Mo_person (zU Z um) (xs (i + 1)) (xs (i + 2)) h R.1.1.1 ) mi_Mo_person k_885 (by decide) (m_0 _ _) rfl ⟨Nat.le_of_ble_eq_true rfl, Nat.le_of_ble_eq_true rfl⟩ rfl rfl (Nat.le_of_ble_eq_true rfl) d_law_312 (fun h1 hh1 => ?_)
  exact n_icmp_eq C d_law_315 1359 (by decide) (fun _ => kk _ _ (q.2 _ _ hg1 hh1)) (fun z => absurd q.1 z)
set_option maxRecDepth 100000 in
theorem lc_4 {X : XT} {A : Nat → Prop} {Z : ZT} {b SL : Nat} {xs : Nat → Int32} {Q : State → Prop} {uc um : Nat → Nat} {g h : St} {kc ks i : Nat} (LL : LC X A Z b SL xs) (h1 : kc ≤ 600000) (h2 : ks ≤ 7302250) (hi : i + 6 ≤ SL) (R : Rel g h) (kk : ∀ g' h', Rel g' h' → WN X 4 Z A Q (sw yC (zU Z uc) g' ++ sw yM (zU Z um) h') kc ks 1359 [(0, .ref b), (1, .ref (uc 0)), (2, .ref (um 0)), (3, .int (nI i))] []) : WN X 4 Z A Q (sw yC (zU Z uc) g ++ sw yM (zU Z um) h) kc ks 320 [(0, .ref b), (1, .ref (uc 0)), (2, .ref (um 0)), (3, .int (nI i))] [] := by
  obtain ⟨C, S, hL⟩ := LL
  have q := q_of R (xs (i + 1)) (xs (i + 2))
  refine n_aload_n C d_law_320 1 rfl rfl ?_
  refine n_arg C S hL 1 (by decide) (by omega) rfl rfl d_law_321 d_law_322 d_law_323 d_law_324 d_law_325 ?_
  refine n_arg C S hL 2 (by decide) (by omega) rfl rfl d_law_326 d_law_327 d_law_328 d_law_329 d_law_330 ?_
  refine l_callI C h1 h2 (u := uc) (As := [.int (xs (i + 1)), .int (xs (i + 2))]) (c_TP_of (zU Z uc) (xs (i + 1)) (xs (i + 2)) g R.1.ok ) mi_TP_of k_231 (by decide) (e_TP _ _) rfl ⟨Nat.le_of_ble_eq_true rfl, Nat.le_of_ble_eq_true rfl⟩ rfl rfl (Nat.le_of_ble_eq_true rfl) d_law_331 (fun g1 hg1 => ?_)
  refine n_aload_n C d_law_334 2 rfl rfl ?_
  refine n_arg C S hL 1 (by decide) (by omega) rfl rfl d_law_335 d_law_336 d_law_337 d_law_338 d_law_339 ?_
  refine n_arg C S hL 2 (by decide) (by omega) rfl rfl d_law_340 d_law_341 d_law_342 d_law_343 d_law_344 ?_
  refine l_callI C h1 h2 (u := um) (As := [.int (xs (i + 1)), .int (xs (i + 2))]) (c_Mo_of (zU Z um) (xs (i + 1)) (xs (i + 2)) h R.1.1.1 ) mi_Mo_of k_903 (by decide) (m_0 _ _) rfl ⟨Nat.le_of_ble_eq_true rfl, Nat.le_of_ble_eq_true rfl⟩ rfl rfl (Nat.le_of_ble_eq_true rfl) d_law_345 (fun h1 hh1 => ?_)
  exact n_icmp_eq C d_law_348 1359 (by decide) (fun _ => kk _ _ (q.2 _ _ hg1 hh1)) (fun z => absurd q.1 z)
set_option maxRecDepth 100000 in
theorem lc_5 {X : XT} {A : Nat → Prop} {Z : ZT} {b SL : Nat} {xs : Nat → Int32} {Q : State → Prop} {uc um : Nat → Nat} {g h : St} {kc ks i : Nat} (LL : LC X A Z b SL xs) (h1 : kc ≤ 600000) (h2 : ks ≤ 7302250) (hi : i + 6 ≤ SL) (R : Rel g h) (kk : ∀ g' h', Rel g' h' → WN X 4 Z A Q (sw yC (zU Z uc) g' ++ sw yM (zU Z um) h') kc ks 1359 [(0, .ref b), (1, .ref (uc 0)), (2, .ref (um 0)), (3, .int (nI i))] []) : WN X 4 Z A Q (sw yC (zU Z uc) g ++ sw yM (zU Z um) h) kc ks 353 [(0, .ref b), (1, .ref (uc 0)), (2, .ref (um 0)), (3, .int (nI i))] [] := by
  obtain ⟨C, S, hL⟩ := LL
  have q := q_change R (xs (i + 1)) (xs (i + 2)) (xs (i + 3))
  refine n_aload_n C d_law_353 1 rfl rfl ?_
  refine n_arg C S hL 1 (by decide) (by omega) rfl rfl d_law_354 d_law_355 d_law_356 d_law_357 d_law_358 ?_
  refine n_arg C S hL 2 (by decide) (by omega) rfl rfl d_law_359 d_law_360 d_law_361 d_law_362 d_law_363 ?_
  refine n_arg C S hL 3 (by decide) (by omega) rfl rfl d_law_364 d_law_365 d_law_366 d_law_367 d_law_368 ?_
  refine l_callI C h1 h2 (u := uc) (As := [.int (xs (i + 1)), .int (xs (i + 2)), .int (xs (i + 3))]) (c_TP_change (zU Z uc) (xs (i + 1)) (xs (i + 2)) (xs (i + 3)) g R.1.ok ) mi_TP_change k_262 (by decide) (e_TP _ _) rfl ⟨Nat.le_of_ble_eq_true rfl, Nat.le_of_ble_eq_true rfl⟩ rfl rfl (Nat.le_of_ble_eq_true rfl) d_law_369 (fun g1 hg1 => ?_)
  refine n_aload_n C d_law_372 2 rfl rfl ?_
  refine n_arg C S hL 1 (by decide) (by omega) rfl rfl d_law_373 d_law_374 d_law_375 d_law_376 d_law_377 ?_
  refine n_arg C S hL 2 (by decide) (by omega) rfl rfl d_law_378 d_law_379 d_law_380 d_law_381 d_law_382 ?_
  refine n_arg C S hL 3 (by decide) (by omega) rfl rfl d_law_383 d_law_384 d_law_385 d_law_386 d_law_387 ?_
  refine l_callI C h1 h2 (u := um) (As := [.int (xs (i + 1)), .int (xs (i + 2)), .int (xs (i + 3))]) (c_Mo_change (zU Z um) (xs (i + 1)) (xs (i + 2)) (xs (i + 3)) h R.1.1.1 ) mi_Mo_change k_936 (by decide) (m_0 _ _) rfl ⟨Nat.le_of_ble_eq_true rfl, Nat.le_of_ble_eq_true rfl⟩ rfl rfl (Nat.le_of_ble_eq_true rfl) d_law_388 (fun h1 hh1 => ?_)
  exact n_icmp_eq C d_law_391 1359 (by decide) (fun _ => kk _ _ (q.2 _ _ hg1 hh1)) (fun z => absurd q.1 z)
set_option maxRecDepth 100000 in
theorem lc_6 {X : XT} {A : Nat → Prop} {Z : ZT} {b SL : Nat} {xs : Nat → Int32} {Q : State → Prop} {uc um : Nat → Nat} {g h : St} {kc ks i : Nat} (LL : LC X A Z b SL xs) (h1 : kc ≤ 600000) (h2 : ks ≤ 7302250) (hi : i + 6 ≤ SL) (R : Rel g h) (kk : ∀ g' h', Rel g' h' → WN X 4 Z A Q (sw yC (zU Z uc) g' ++ sw yM (zU Z um) h') kc ks 1359 [(0, .ref b), (1, .ref (uc 0)), (2, .ref (um 0)), (3, .int (nI i))] []) : WN X 4 Z A Q (sw yC (zU Z uc) g ++ sw yM (zU Z um) h) kc ks 396 [(0, .ref b), (1, .ref (uc 0)), (2, .ref (um 0)), (3, .int (nI i))] [] := by
  obtain ⟨C, S, hL⟩ := LL
  have q := q_who R (xs (i + 1))
  refine n_aload_n C d_law_396 1 rfl rfl ?_
  refine n_arg C S hL 1 (by decide) (by omega) rfl rfl d_law_397 d_law_398 d_law_399 d_law_400 d_law_401 ?_
  refine l_callI C h1 h2 (u := uc) (As := [.int (xs (i + 1))]) (c_TP_who (zU Z uc) (xs (i + 1)) g R.1.ok ) mi_TP_who k_272 (by decide) (e_TP _ _) rfl ⟨Nat.le_of_ble_eq_true rfl, Nat.le_of_ble_eq_true rfl⟩ rfl rfl (Nat.le_of_ble_eq_true rfl) d_law_402 (fun g1 hg1 => ?_)
  refine n_aload_n C d_law_405 2 rfl rfl ?_
  refine n_arg C S hL 1 (by decide) (by omega) rfl rfl d_law_406 d_law_407 d_law_408 d_law_409 d_law_410 ?_
  refine l_callI C h1 h2 (u := um) (As := [.int (xs (i + 1))]) (c_Mo_who (zU Z um) (xs (i + 1)) h R.1.1.1 ) mi_Mo_who k_943 (by decide) (m_0 _ _) rfl ⟨Nat.le_of_ble_eq_true rfl, Nat.le_of_ble_eq_true rfl⟩ rfl rfl (Nat.le_of_ble_eq_true rfl) d_law_411 (fun h1 hh1 => ?_)
  exact n_icmp_eq C d_law_414 1359 (by decide) (fun _ => kk _ _ (q.2 _ _ hg1 hh1)) (fun z => absurd q.1 z)
set_option maxRecDepth 100000 in
theorem lc_7 {X : XT} {A : Nat → Prop} {Z : ZT} {b SL : Nat} {xs : Nat → Int32} {Q : State → Prop} {uc um : Nat → Nat} {g h : St} {kc ks i : Nat} (LL : LC X A Z b SL xs) (h1 : kc ≤ 600000) (h2 : ks ≤ 7302250) (hi : i + 6 ≤ SL) (R : Rel g h) (kk : ∀ g' h', Rel g' h' → WN X 4 Z A Q (sw yC (zU Z uc) g' ++ sw yM (zU Z um) h') kc ks 1359 [(0, .ref b), (1, .ref (uc 0)), (2, .ref (um 0)), (3, .int (nI i))] []) : WN X 4 Z A Q (sw yC (zU Z uc) g ++ sw yM (zU Z um) h) kc ks 419 [(0, .ref b), (1, .ref (uc 0)), (2, .ref (um 0)), (3, .int (nI i))] [] := by
  obtain ⟨C, S, hL⟩ := LL
  have q := q_two R (xs (i + 1)) (xs (i + 2))
  refine n_aload_n C d_law_419 1 rfl rfl ?_
  refine n_arg C S hL 1 (by decide) (by omega) rfl rfl d_law_420 d_law_421 d_law_422 d_law_423 d_law_424 ?_
  refine n_arg C S hL 2 (by decide) (by omega) rfl rfl d_law_425 d_law_426 d_law_427 d_law_428 d_law_429 ?_
  refine l_callI C h1 h2 (u := uc) (As := [.int (xs (i + 1)), .int (xs (i + 2))]) (c_TP_two (zU Z uc) (xs (i + 1)) (xs (i + 2)) g R.1.ok ) mi_TP_two k_280 (by decide) (e_TP _ _) rfl ⟨Nat.le_of_ble_eq_true rfl, Nat.le_of_ble_eq_true rfl⟩ rfl rfl (Nat.le_of_ble_eq_true rfl) d_law_430 (fun g1 hg1 => ?_)
  refine n_aload_n C d_law_433 2 rfl rfl ?_
  refine n_arg C S hL 1 (by decide) (by omega) rfl rfl d_law_434 d_law_435 d_law_436 d_law_437 d_law_438 ?_
  refine n_arg C S hL 2 (by decide) (by omega) rfl rfl d_law_439 d_law_440 d_law_441 d_law_442 d_law_443 ?_
  refine l_callI C h1 h2 (u := um) (As := [.int (xs (i + 1)), .int (xs (i + 2))]) (c_Mo_two (zU Z um) (xs (i + 1)) (xs (i + 2)) h R.1.1.1 ) mi_Mo_two k_947 (by decide) (m_0 _ _) rfl ⟨Nat.le_of_ble_eq_true rfl, Nat.le_of_ble_eq_true rfl⟩ rfl rfl (Nat.le_of_ble_eq_true rfl) d_law_444 (fun h1 hh1 => ?_)
  exact n_icmp_eq C d_law_447 1359 (by decide) (fun _ => kk _ _ (q.2 _ _ hg1 hh1)) (fun z => absurd q.1 z)
set_option maxRecDepth 100000 in
theorem lc_8 {X : XT} {A : Nat → Prop} {Z : ZT} {b SL : Nat} {xs : Nat → Int32} {Q : State → Prop} {uc um : Nat → Nat} {g h : St} {kc ks i : Nat} (LL : LC X A Z b SL xs) (h1 : kc ≤ 600000) (h2 : ks ≤ 7302250) (hi : i + 6 ≤ SL) (R : Rel g h) (kk : ∀ g' h', Rel g' h' → WN X 4 Z A Q (sw yC (zU Z uc) g' ++ sw yM (zU Z um) h') kc ks 1359 [(0, .ref b), (1, .ref (uc 0)), (2, .ref (um 0)), (3, .int (nI i))] []) : WN X 4 Z A Q (sw yC (zU Z uc) g ++ sw yM (zU Z um) h) kc ks 452 [(0, .ref b), (1, .ref (uc 0)), (2, .ref (um 0)), (3, .int (nI i))] [] := by
  obtain ⟨C, S, hL⟩ := LL
  have q := q_go R (xs (i + 1))
  refine n_aload_n C d_law_452 1 rfl rfl ?_
  refine n_arg C S hL 1 (by decide) (by omega) rfl rfl d_law_453 d_law_454 d_law_455 d_law_456 d_law_457 ?_
  refine l_callI C h1 h2 (u := uc) (As := [.int (xs (i + 1))]) (c_TP_go (zU Z uc) (xs (i + 1)) g R.1.ok ) mi_TP_go k_292 (by decide) (e_TP _ _) rfl ⟨Nat.le_of_ble_eq_true rfl, Nat.le_of_ble_eq_true rfl⟩ rfl rfl (Nat.le_of_ble_eq_true rfl) d_law_458 (fun g1 hg1 => ?_)
  refine n_aload_n C d_law_461 2 rfl rfl ?_
  refine n_arg C S hL 1 (by decide) (by omega) rfl rfl d_law_462 d_law_463 d_law_464 d_law_465 d_law_466 ?_
  refine l_callI C h1 h2 (u := um) (As := [.int (xs (i + 1))]) (c_Mo_go (zU Z um) (xs (i + 1)) h R.1.1.1 ) mi_Mo_go k_955 (by decide) (m_0 _ _) rfl ⟨Nat.le_of_ble_eq_true rfl, Nat.le_of_ble_eq_true rfl⟩ rfl rfl (Nat.le_of_ble_eq_true rfl) d_law_467 (fun h1 hh1 => ?_)
  exact n_icmp_eq C d_law_470 1359 (by decide) (fun _ => kk _ _ (q.2 _ _ hg1 hh1)) (fun z => absurd q.1 z)
set_option maxRecDepth 100000 in
theorem lc_9 {X : XT} {A : Nat → Prop} {Z : ZT} {b SL : Nat} {xs : Nat → Int32} {Q : State → Prop} {uc um : Nat → Nat} {g h : St} {kc ks i : Nat} (LL : LC X A Z b SL xs) (h1 : kc ≤ 600000) (h2 : ks ≤ 7302250) (hi : i + 6 ≤ SL) (R : Rel g h) (kk : ∀ g' h', Rel g' h' → WN X 4 Z A Q (sw yC (zU Z uc) g' ++ sw yM (zU Z um) h') kc ks 1359 [(0, .ref b), (1, .ref (uc 0)), (2, .ref (um 0)), (3, .int (nI i))] []) : WN X 4 Z A Q (sw yC (zU Z uc) g ++ sw yM (zU Z um) h) kc ks 475 [(0, .ref b), (1, .ref (uc 0)), (2, .ref (um 0)), (3, .int (nI i))] [] := by
  obtain ⟨C, S, hL⟩ := LL
  have q := q_now R (xs (i + 1))
  refine n_aload_n C d_law_475 1 rfl rfl ?_
  refine n_arg C S hL 1 (by decide) (by omega) rfl rfl d_law_476 d_law_477 d_law_478 d_law_479 d_law_480 ?_
  refine l_callI C h1 h2 (u := uc) (As := [.int (xs (i + 1))]) (c_TP_now (zU Z uc) (xs (i + 1)) g R.1.ok ) mi_TP_now k_340 (by decide) (e_TP _ _) rfl ⟨Nat.le_of_ble_eq_true rfl, Nat.le_of_ble_eq_true rfl⟩ rfl rfl (Nat.le_of_ble_eq_true rfl) d_law_481 (fun g1 hg1 => ?_)
  refine n_aload_n C d_law_484 2 rfl rfl ?_
  refine n_arg C S hL 1 (by decide) (by omega) rfl rfl d_law_485 d_law_486 d_law_487 d_law_488 d_law_489 ?_
  refine l_callI C h1 h2 (u := um) (As := [.int (xs (i + 1))]) (c_Mo_now (zU Z um) (xs (i + 1)) h R.1.1.1 ) mi_Mo_now k_989 (by decide) (m_0 _ _) rfl ⟨Nat.le_of_ble_eq_true rfl, Nat.le_of_ble_eq_true rfl⟩ rfl rfl (Nat.le_of_ble_eq_true rfl) d_law_490 (fun h1 hh1 => ?_)
  exact n_icmp_eq C d_law_493 1359 (by decide) (fun _ => kk _ _ (q.2 _ _ hg1 hh1)) (fun z => absurd q.1 z)
set_option maxRecDepth 100000 in
theorem lc_10 {X : XT} {A : Nat → Prop} {Z : ZT} {b SL : Nat} {xs : Nat → Int32} {Q : State → Prop} {uc um : Nat → Nat} {g h : St} {kc ks i : Nat} (LL : LC X A Z b SL xs) (h1 : kc ≤ 600000) (h2 : ks ≤ 7302250) (hi : i + 6 ≤ SL) (R : Rel g h) (kk : ∀ g' h', Rel g' h' → WN X 4 Z A Q (sw yC (zU Z uc) g' ++ sw yM (zU Z um) h') kc ks 1359 [(0, .ref b), (1, .ref (uc 0)), (2, .ref (um 0)), (3, .int (nI i))] []) : WN X 4 Z A Q (sw yC (zU Z uc) g ++ sw yM (zU Z um) h) kc ks 498 [(0, .ref b), (1, .ref (uc 0)), (2, .ref (um 0)), (3, .int (nI i))] [] := by
  obtain ⟨C, S, hL⟩ := LL
  have q := q_ahead R (xs (i + 1)) (xs (i + 2)) (xs (i + 3))
  refine n_aload_n C d_law_498 1 rfl rfl ?_
  refine n_arg C S hL 1 (by decide) (by omega) rfl rfl d_law_499 d_law_500 d_law_501 d_law_502 d_law_503 ?_
  refine n_arg C S hL 2 (by decide) (by omega) rfl rfl d_law_504 d_law_505 d_law_506 d_law_507 d_law_508 ?_
  refine n_arg C S hL 3 (by decide) (by omega) rfl rfl d_law_509 d_law_510 d_law_511 d_law_512 d_law_513 ?_
  refine l_callI C h1 h2 (u := uc) (As := [.int (xs (i + 1)), .int (xs (i + 2)), .int (xs (i + 3))]) (c_TP_ahead (zU Z uc) (xs (i + 1)) (xs (i + 2)) (xs (i + 3)) g R.1.ok ) mi_TP_ahead k_372 (by decide) (e_TP _ _) rfl ⟨Nat.le_of_ble_eq_true rfl, Nat.le_of_ble_eq_true rfl⟩ rfl rfl (Nat.le_of_ble_eq_true rfl) d_law_514 (fun g1 hg1 => ?_)
  refine n_aload_n C d_law_517 2 rfl rfl ?_
  refine n_arg C S hL 1 (by decide) (by omega) rfl rfl d_law_518 d_law_519 d_law_520 d_law_521 d_law_522 ?_
  refine n_arg C S hL 2 (by decide) (by omega) rfl rfl d_law_523 d_law_524 d_law_525 d_law_526 d_law_527 ?_
  refine n_arg C S hL 3 (by decide) (by omega) rfl rfl d_law_528 d_law_529 d_law_530 d_law_531 d_law_532 ?_
  refine l_callI C h1 h2 (u := um) (As := [.int (xs (i + 1)), .int (xs (i + 2)), .int (xs (i + 3))]) (c_Mo_ahead (zU Z um) (xs (i + 1)) (xs (i + 2)) (xs (i + 3)) h R.1.1.1 ) mi_Mo_ahead k_1017 (by decide) (m_0 _ _) rfl ⟨Nat.le_of_ble_eq_true rfl, Nat.le_of_ble_eq_true rfl⟩ rfl rfl (Nat.le_of_ble_eq_true rfl) d_law_533 (fun h1 hh1 => ?_)
  exact n_icmp_eq C d_law_536 1359 (by decide) (fun _ => kk _ _ (q.2 _ _ hg1 hh1)) (fun z => absurd q.1 z)
set_option maxRecDepth 100000 in
theorem lc_11 {X : XT} {A : Nat → Prop} {Z : ZT} {b SL : Nat} {xs : Nat → Int32} {Q : State → Prop} {uc um : Nat → Nat} {g h : St} {kc ks i : Nat} (LL : LC X A Z b SL xs) (h1 : kc ≤ 600000) (h2 : ks ≤ 7302250) (hi : i + 6 ≤ SL) (R : Rel g h) (kk : ∀ g' h', Rel g' h' → WN X 4 Z A Q (sw yC (zU Z uc) g' ++ sw yM (zU Z um) h') kc ks 1359 [(0, .ref b), (1, .ref (uc 0)), (2, .ref (um 0)), (3, .int (nI i))] []) : WN X 4 Z A Q (sw yC (zU Z uc) g ++ sw yM (zU Z um) h) kc ks 541 [(0, .ref b), (1, .ref (uc 0)), (2, .ref (um 0)), (3, .int (nI i))] [] := by
  obtain ⟨C, S, hL⟩ := LL
  have q := q_noise R (xs (i + 1))
  refine n_aload_n C d_law_541 1 rfl rfl ?_
  refine n_arg C S hL 1 (by decide) (by omega) rfl rfl d_law_542 d_law_543 d_law_544 d_law_545 d_law_546 ?_
  refine l_callI C h1 h2 (u := uc) (As := [.int (xs (i + 1))]) (c_TP_noise (zU Z uc) (xs (i + 1)) g R.1.ok ) mi_TP_noise k_392 (by decide) (e_TP _ _) rfl ⟨Nat.le_of_ble_eq_true rfl, Nat.le_of_ble_eq_true rfl⟩ rfl rfl (Nat.le_of_ble_eq_true rfl) d_law_547 (fun g1 hg1 => ?_)
  refine n_aload_n C d_law_550 2 rfl rfl ?_
  refine n_arg C S hL 1 (by decide) (by omega) rfl rfl d_law_551 d_law_552 d_law_553 d_law_554 d_law_555 ?_
  refine l_callI C h1 h2 (u := um) (As := [.int (xs (i + 1))]) (c_Mo_noise (zU Z um) (xs (i + 1)) h R.1.1.1 ) mi_Mo_noise k_1028 (by decide) (m_0 _ _) rfl ⟨Nat.le_of_ble_eq_true rfl, Nat.le_of_ble_eq_true rfl⟩ rfl rfl (Nat.le_of_ble_eq_true rfl) d_law_556 (fun h1 hh1 => ?_)
  exact n_icmp_eq C d_law_559 1359 (by decide) (fun _ => kk _ _ (q.2 _ _ hg1 hh1)) (fun z => absurd q.1 z)
set_option maxRecDepth 100000 in
theorem lc_12 {X : XT} {A : Nat → Prop} {Z : ZT} {b SL : Nat} {xs : Nat → Int32} {Q : State → Prop} {uc um : Nat → Nat} {g h : St} {kc ks i : Nat} (LL : LC X A Z b SL xs) (h1 : kc ≤ 600000) (h2 : ks ≤ 7302250) (hi : i + 6 ≤ SL) (R : Rel g h) (kk : ∀ g' h', Rel g' h' → WN X 4 Z A Q (sw yC (zU Z uc) g' ++ sw yM (zU Z um) h') kc ks 1359 [(0, .ref b), (1, .ref (uc 0)), (2, .ref (um 0)), (3, .int (nI i))] []) : WN X 4 Z A Q (sw yC (zU Z uc) g ++ sw yM (zU Z um) h) kc ks 564 [(0, .ref b), (1, .ref (uc 0)), (2, .ref (um 0)), (3, .int (nI i))] [] := by
  obtain ⟨C, S, hL⟩ := LL
  have q := q_stills R (xs (i + 1))
  refine n_aload_n C d_law_564 1 rfl rfl ?_
  refine n_arg C S hL 1 (by decide) (by omega) rfl rfl d_law_565 d_law_566 d_law_567 d_law_568 d_law_569 ?_
  refine l_callI C h1 h2 (u := uc) (As := [.int (xs (i + 1))]) (c_TP_stills (zU Z uc) (xs (i + 1)) g R.1.ok ) mi_TP_stills k_396 (by decide) (e_TP _ _) rfl ⟨Nat.le_of_ble_eq_true rfl, Nat.le_of_ble_eq_true rfl⟩ rfl rfl (Nat.le_of_ble_eq_true rfl) d_law_570 (fun g1 hg1 => ?_)
  refine n_aload_n C d_law_573 2 rfl rfl ?_
  refine n_arg C S hL 1 (by decide) (by omega) rfl rfl d_law_574 d_law_575 d_law_576 d_law_577 d_law_578 ?_
  refine l_callI C h1 h2 (u := um) (As := [.int (xs (i + 1))]) (c_Mo_stills (zU Z um) (xs (i + 1)) h R.1.1.1 ) mi_Mo_stills k_1036 (by decide) (m_0 _ _) rfl ⟨Nat.le_of_ble_eq_true rfl, Nat.le_of_ble_eq_true rfl⟩ rfl rfl (Nat.le_of_ble_eq_true rfl) d_law_579 (fun h1 hh1 => ?_)
  exact n_icmp_eq C d_law_582 1359 (by decide) (fun _ => kk _ _ (q.2 _ _ hg1 hh1)) (fun z => absurd q.1 z)
set_option maxRecDepth 100000 in
theorem lc_13 {X : XT} {A : Nat → Prop} {Z : ZT} {b SL : Nat} {xs : Nat → Int32} {Q : State → Prop} {uc um : Nat → Nat} {g h : St} {kc ks i : Nat} (LL : LC X A Z b SL xs) (h1 : kc ≤ 600000) (h2 : ks ≤ 7302250) (hi : i + 6 ≤ SL) (R : Rel g h) (kk : ∀ g' h', Rel g' h' → WN X 4 Z A Q (sw yC (zU Z uc) g' ++ sw yM (zU Z um) h') kc ks 1359 [(0, .ref b), (1, .ref (uc 0)), (2, .ref (um 0)), (3, .int (nI i))] []) : WN X 4 Z A Q (sw yC (zU Z uc) g ++ sw yM (zU Z um) h) kc ks 587 [(0, .ref b), (1, .ref (uc 0)), (2, .ref (um 0)), (3, .int (nI i))] [] := by
  obtain ⟨C, S, hL⟩ := LL
  have q := q_meets R (xs (i + 1)) (xs (i + 2))
  refine n_aload_n C d_law_587 1 rfl rfl ?_
  refine n_arg C S hL 1 (by decide) (by omega) rfl rfl d_law_588 d_law_589 d_law_590 d_law_591 d_law_592 ?_
  refine n_arg C S hL 2 (by decide) (by omega) rfl rfl d_law_593 d_law_594 d_law_595 d_law_596 d_law_597 ?_
  refine l_callI C h1 h2 (u := uc) (As := [.int (xs (i + 1)), .int (xs (i + 2))]) (c_TP_meets (zU Z uc) (xs (i + 1)) (xs (i + 2)) g R.1.ok ) mi_TP_meets k_410 (by decide) (e_TP _ _) rfl ⟨Nat.le_of_ble_eq_true rfl, Nat.le_of_ble_eq_true rfl⟩ rfl rfl (Nat.le_of_ble_eq_true rfl) d_law_598 (fun g1 hg1 => ?_)
  refine n_aload_n C d_law_601 2 rfl rfl ?_
  refine n_arg C S hL 1 (by decide) (by omega) rfl rfl d_law_602 d_law_603 d_law_604 d_law_605 d_law_606 ?_
  refine n_arg C S hL 2 (by decide) (by omega) rfl rfl d_law_607 d_law_608 d_law_609 d_law_610 d_law_611 ?_
  refine l_callI C h1 h2 (u := um) (As := [.int (xs (i + 1)), .int (xs (i + 2))]) (c_Mo_meets (zU Z um) (xs (i + 1)) (xs (i + 2)) h R.1.1.1 ) mi_Mo_meets k_1049 (by decide) (m_0 _ _) rfl ⟨Nat.le_of_ble_eq_true rfl, Nat.le_of_ble_eq_true rfl⟩ rfl rfl (Nat.le_of_ble_eq_true rfl) d_law_612 (fun h1 hh1 => ?_)
  exact n_icmp_eq C d_law_615 1359 (by decide) (fun _ => kk _ _ (q.2 _ _ hg1 hh1)) (fun z => absurd q.1 z)
set_option maxRecDepth 100000 in
theorem lc_14 {X : XT} {A : Nat → Prop} {Z : ZT} {b SL : Nat} {xs : Nat → Int32} {Q : State → Prop} {uc um : Nat → Nat} {g h : St} {kc ks i : Nat} (LL : LC X A Z b SL xs) (h1 : kc ≤ 600000) (h2 : ks ≤ 7302250) (hi : i + 6 ≤ SL) (R : Rel g h) (kk : ∀ g' h', Rel g' h' → WN X 4 Z A Q (sw yC (zU Z uc) g' ++ sw yM (zU Z um) h') kc ks 1359 [(0, .ref b), (1, .ref (uc 0)), (2, .ref (um 0)), (3, .int (nI i))] []) : WN X 4 Z A Q (sw yC (zU Z uc) g ++ sw yM (zU Z um) h) kc ks 620 [(0, .ref b), (1, .ref (uc 0)), (2, .ref (um 0)), (3, .int (nI i))] [] := by
  obtain ⟨C, S, hL⟩ := LL
  have q := q_lapses R 
  refine n_aload_n C d_law_620 1 rfl rfl ?_
  refine l_callI C h1 h2 (u := uc) (As := []) (c_TP_lapses (zU Z uc)  g R.1.ok ) mi_TP_lapses k_418 (by decide) (e_TP _ _) rfl ⟨Nat.le_of_ble_eq_true rfl, Nat.le_of_ble_eq_true rfl⟩ rfl rfl (Nat.le_of_ble_eq_true rfl) d_law_621 (fun g1 hg1 => ?_)
  refine n_aload_n C d_law_624 2 rfl rfl ?_
  refine l_callI C h1 h2 (u := um) (As := []) (c_Mo_lapses (zU Z um)  h R.1.1.1 ) mi_Mo_lapses k_1053 (by decide) (m_0 _ _) rfl ⟨Nat.le_of_ble_eq_true rfl, Nat.le_of_ble_eq_true rfl⟩ rfl rfl (Nat.le_of_ble_eq_true rfl) d_law_625 (fun h1 hh1 => ?_)
  exact n_icmp_eq C d_law_628 1359 (by decide) (fun _ => kk _ _ (q.2 _ _ hg1 hh1)) (fun z => absurd q.1 z)
set_option maxRecDepth 100000 in
theorem lc_15 {X : XT} {A : Nat → Prop} {Z : ZT} {b SL : Nat} {xs : Nat → Int32} {Q : State → Prop} {uc um : Nat → Nat} {g h : St} {kc ks i : Nat} (LL : LC X A Z b SL xs) (h1 : kc ≤ 600000) (h2 : ks ≤ 7302250) (hi : i + 6 ≤ SL) (R : Rel g h) (kk : ∀ g' h', Rel g' h' → WN X 4 Z A Q (sw yC (zU Z uc) g' ++ sw yM (zU Z um) h') kc ks 1359 [(0, .ref b), (1, .ref (uc 0)), (2, .ref (um 0)), (3, .int (nI i))] []) : WN X 4 Z A Q (sw yC (zU Z uc) g ++ sw yM (zU Z um) h) kc ks 633 [(0, .ref b), (1, .ref (uc 0)), (2, .ref (um 0)), (3, .int (nI i))] [] := by
  obtain ⟨C, S, hL⟩ := LL
  have q := q_placeFor R (xs (i + 1)) (xs (i + 2))
  refine n_aload_n C d_law_633 1 rfl rfl ?_
  refine n_arg C S hL 1 (by decide) (by omega) rfl rfl d_law_634 d_law_635 d_law_636 d_law_637 d_law_638 ?_
  refine n_arg C S hL 2 (by decide) (by omega) rfl rfl d_law_639 d_law_640 d_law_641 d_law_642 d_law_643 ?_
  refine l_callI C h1 h2 (u := uc) (As := [.int (xs (i + 1)), .int (xs (i + 2))]) (c_TP_placeFor (zU Z uc) (xs (i + 1)) (xs (i + 2)) g R.1.ok ) mi_TP_placeFor k_427 (by decide) (e_TP _ _) rfl ⟨Nat.le_of_ble_eq_true rfl, Nat.le_of_ble_eq_true rfl⟩ rfl rfl (Nat.le_of_ble_eq_true rfl) d_law_644 (fun g1 hg1 => ?_)
  refine n_aload_n C d_law_647 2 rfl rfl ?_
  refine n_arg C S hL 1 (by decide) (by omega) rfl rfl d_law_648 d_law_649 d_law_650 d_law_651 d_law_652 ?_
  refine n_arg C S hL 2 (by decide) (by omega) rfl rfl d_law_653 d_law_654 d_law_655 d_law_656 d_law_657 ?_
  refine l_callI C h1 h2 (u := um) (As := [.int (xs (i + 1)), .int (xs (i + 2))]) (c_Mo_placeFor (zU Z um) (xs (i + 1)) (xs (i + 2)) h R.1.1.1 ) mi_Mo_placeFor k_1057 (by decide) (m_0 _ _) rfl ⟨Nat.le_of_ble_eq_true rfl, Nat.le_of_ble_eq_true rfl⟩ rfl rfl (Nat.le_of_ble_eq_true rfl) d_law_658 (fun h1 hh1 => ?_)
  exact n_icmp_eq C d_law_661 1359 (by decide) (fun _ => kk _ _ (q.2 _ _ hg1 hh1)) (fun z => absurd q.1 z)
set_option maxRecDepth 100000 in
theorem lc_16 {X : XT} {A : Nat → Prop} {Z : ZT} {b SL : Nat} {xs : Nat → Int32} {Q : State → Prop} {uc um : Nat → Nat} {g h : St} {kc ks i : Nat} (LL : LC X A Z b SL xs) (h1 : kc ≤ 600000) (h2 : ks ≤ 7302250) (hi : i + 6 ≤ SL) (R : Rel g h) (kk : ∀ g' h', Rel g' h' → WN X 4 Z A Q (sw yC (zU Z uc) g' ++ sw yM (zU Z um) h') kc ks 1359 [(0, .ref b), (1, .ref (uc 0)), (2, .ref (um 0)), (3, .int (nI i))] []) : WN X 4 Z A Q (sw yC (zU Z uc) g ++ sw yM (zU Z um) h) kc ks 666 [(0, .ref b), (1, .ref (uc 0)), (2, .ref (um 0)), (3, .int (nI i))] [] := by
  obtain ⟨C, S, hL⟩ := LL
  have q := q_kindFor R (xs (i + 1)) (xs (i + 2))
  refine n_aload_n C d_law_666 1 rfl rfl ?_
  refine n_arg C S hL 1 (by decide) (by omega) rfl rfl d_law_667 d_law_668 d_law_669 d_law_670 d_law_671 ?_
  refine n_arg C S hL 2 (by decide) (by omega) rfl rfl d_law_672 d_law_673 d_law_674 d_law_675 d_law_676 ?_
  refine l_callI C h1 h2 (u := uc) (As := [.int (xs (i + 1)), .int (xs (i + 2))]) (c_TP_kindFor (zU Z uc) (xs (i + 1)) (xs (i + 2)) g R.1.ok ) mi_TP_kindFor k_435 (by decide) (e_TP _ _) rfl ⟨Nat.le_of_ble_eq_true rfl, Nat.le_of_ble_eq_true rfl⟩ rfl rfl (Nat.le_of_ble_eq_true rfl) d_law_677 (fun g1 hg1 => ?_)
  refine n_aload_n C d_law_680 2 rfl rfl ?_
  refine n_arg C S hL 1 (by decide) (by omega) rfl rfl d_law_681 d_law_682 d_law_683 d_law_684 d_law_685 ?_
  refine n_arg C S hL 2 (by decide) (by omega) rfl rfl d_law_686 d_law_687 d_law_688 d_law_689 d_law_690 ?_
  refine l_callI C h1 h2 (u := um) (As := [.int (xs (i + 1)), .int (xs (i + 2))]) (c_Mo_kindFor (zU Z um) (xs (i + 1)) (xs (i + 2)) h R.1.1.1 ) mi_Mo_kindFor k_1068 (by decide) (m_0 _ _) rfl ⟨Nat.le_of_ble_eq_true rfl, Nat.le_of_ble_eq_true rfl⟩ rfl rfl (Nat.le_of_ble_eq_true rfl) d_law_691 (fun h1 hh1 => ?_)
  exact n_icmp_eq C d_law_694 1359 (by decide) (fun _ => kk _ _ (q.2 _ _ hg1 hh1)) (fun z => absurd q.1 z)
set_option maxRecDepth 100000 in
theorem lc_17 {X : XT} {A : Nat → Prop} {Z : ZT} {b SL : Nat} {xs : Nat → Int32} {Q : State → Prop} {uc um : Nat → Nat} {g h : St} {kc ks i : Nat} (LL : LC X A Z b SL xs) (h1 : kc ≤ 600000) (h2 : ks ≤ 7302250) (hi : i + 6 ≤ SL) (R : Rel g h) (kk : ∀ g' h', Rel g' h' → WN X 4 Z A Q (sw yC (zU Z uc) g' ++ sw yM (zU Z um) h') kc ks 1359 [(0, .ref b), (1, .ref (uc 0)), (2, .ref (um 0)), (3, .int (nI i))] []) : WN X 4 Z A Q (sw yC (zU Z uc) g ++ sw yM (zU Z um) h) kc ks 699 [(0, .ref b), (1, .ref (uc 0)), (2, .ref (um 0)), (3, .int (nI i))] [] := by
  obtain ⟨C, S, hL⟩ := LL
  have q := q_seasonFor R (xs (i + 1)) (xs (i + 2)) (xs (i + 3))
  refine n_aload_n C d_law_699 1 rfl rfl ?_
  refine n_arg C S hL 1 (by decide) (by omega) rfl rfl d_law_700 d_law_701 d_law_702 d_law_703 d_law_704 ?_
  refine n_arg C S hL 2 (by decide) (by omega) rfl rfl d_law_705 d_law_706 d_law_707 d_law_708 d_law_709 ?_
  refine n_arg C S hL 3 (by decide) (by omega) rfl rfl d_law_710 d_law_711 d_law_712 d_law_713 d_law_714 ?_
  refine l_callI C h1 h2 (u := uc) (As := [.int (xs (i + 1)), .int (xs (i + 2)), .int (xs (i + 3))]) (c_TP_seasonFor (zU Z uc) (xs (i + 1)) (xs (i + 2)) (xs (i + 3)) g R.1.ok ) mi_TP_seasonFor k_448 (by decide) (e_TP _ _) rfl ⟨Nat.le_of_ble_eq_true rfl, Nat.le_of_ble_eq_true rfl⟩ rfl rfl (Nat.le_of_ble_eq_true rfl) d_law_715 (fun g1 hg1 => ?_)
  refine n_aload_n C d_law_718 2 rfl rfl ?_
  refine n_arg C S hL 1 (by decide) (by omega) rfl rfl d_law_719 d_law_720 d_law_721 d_law_722 d_law_723 ?_
  refine n_arg C S hL 2 (by decide) (by omega) rfl rfl d_law_724 d_law_725 d_law_726 d_law_727 d_law_728 ?_
  refine n_arg C S hL 3 (by decide) (by omega) rfl rfl d_law_729 d_law_730 d_law_731 d_law_732 d_law_733 ?_
  refine l_callI C h1 h2 (u := um) (As := [.int (xs (i + 1)), .int (xs (i + 2)), .int (xs (i + 3))]) (c_Mo_seasonFor (zU Z um) (xs (i + 1)) (xs (i + 2)) (xs (i + 3)) h R.1.1.1 ) mi_Mo_seasonFor k_1072 (by decide) (m_0 _ _) rfl ⟨Nat.le_of_ble_eq_true rfl, Nat.le_of_ble_eq_true rfl⟩ rfl rfl (Nat.le_of_ble_eq_true rfl) d_law_734 (fun h1 hh1 => ?_)
  exact n_icmp_eq C d_law_737 1359 (by decide) (fun _ => kk _ _ (q.2 _ _ hg1 hh1)) (fun z => absurd q.1 z)
set_option maxRecDepth 100000 in
theorem lc_18 {X : XT} {A : Nat → Prop} {Z : ZT} {b SL : Nat} {xs : Nat → Int32} {Q : State → Prop} {uc um : Nat → Nat} {g h : St} {kc ks i : Nat} (LL : LC X A Z b SL xs) (h1 : kc ≤ 600000) (h2 : ks ≤ 7302250) (hi : i + 6 ≤ SL) (R : Rel g h) (kk : ∀ g' h', Rel g' h' → WN X 4 Z A Q (sw yC (zU Z uc) g' ++ sw yM (zU Z um) h') kc ks 1359 [(0, .ref b), (1, .ref (uc 0)), (2, .ref (um 0)), (3, .int (nI i))] []) : WN X 4 Z A Q (sw yC (zU Z uc) g ++ sw yM (zU Z um) h) kc ks 742 [(0, .ref b), (1, .ref (uc 0)), (2, .ref (um 0)), (3, .int (nI i))] [] := by
  obtain ⟨C, S, hL⟩ := LL
  have q := q_bagsFor R (xs (i + 1)) (xs (i + 2))
  refine n_aload_n C d_law_742 1 rfl rfl ?_
  refine n_arg C S hL 1 (by decide) (by omega) rfl rfl d_law_743 d_law_744 d_law_745 d_law_746 d_law_747 ?_
  refine n_arg C S hL 2 (by decide) (by omega) rfl rfl d_law_748 d_law_749 d_law_750 d_law_751 d_law_752 ?_
  refine l_callI C h1 h2 (u := uc) (As := [.int (xs (i + 1)), .int (xs (i + 2))]) (c_TP_bagsFor (zU Z uc) (xs (i + 1)) (xs (i + 2)) g R.1.ok ) mi_TP_bagsFor k_458 (by decide) (e_TP _ _) rfl ⟨Nat.le_of_ble_eq_true rfl, Nat.le_of_ble_eq_true rfl⟩ rfl rfl (Nat.le_of_ble_eq_true rfl) d_law_753 (fun g1 hg1 => ?_)
  refine n_aload_n C d_law_756 2 rfl rfl ?_
  refine n_arg C S hL 1 (by decide) (by omega) rfl rfl d_law_757 d_law_758 d_law_759 d_law_760 d_law_761 ?_
  refine n_arg C S hL 2 (by decide) (by omega) rfl rfl d_law_762 d_law_763 d_law_764 d_law_765 d_law_766 ?_
  refine l_callI C h1 h2 (u := um) (As := [.int (xs (i + 1)), .int (xs (i + 2))]) (c_Mo_bagsFor (zU Z um) (xs (i + 1)) (xs (i + 2)) h R.1.1.1 ) mi_Mo_bagsFor k_1080 (by decide) (m_0 _ _) rfl ⟨Nat.le_of_ble_eq_true rfl, Nat.le_of_ble_eq_true rfl⟩ rfl rfl (Nat.le_of_ble_eq_true rfl) d_law_767 (fun h1 hh1 => ?_)
  exact n_icmp_eq C d_law_770 1359 (by decide) (fun _ => kk _ _ (q.2 _ _ hg1 hh1)) (fun z => absurd q.1 z)
set_option maxRecDepth 100000 in
theorem lc_19 {X : XT} {A : Nat → Prop} {Z : ZT} {b SL : Nat} {xs : Nat → Int32} {Q : State → Prop} {uc um : Nat → Nat} {g h : St} {kc ks i : Nat} (LL : LC X A Z b SL xs) (h1 : kc ≤ 600000) (h2 : ks ≤ 7302250) (hi : i + 6 ≤ SL) (R : Rel g h) (kk : ∀ g' h', Rel g' h' → WN X 4 Z A Q (sw yC (zU Z uc) g' ++ sw yM (zU Z um) h') kc ks 1359 [(0, .ref b), (1, .ref (uc 0)), (2, .ref (um 0)), (3, .int (nI i))] []) : WN X 4 Z A Q (sw yC (zU Z uc) g ++ sw yM (zU Z um) h) kc ks 775 [(0, .ref b), (1, .ref (uc 0)), (2, .ref (um 0)), (3, .int (nI i))] [] := by
  obtain ⟨C, S, hL⟩ := LL
  have q := q_leaveOut R (xs (i + 1))
  refine n_aload_n C d_law_775 1 rfl rfl ?_
  refine n_arg C S hL 1 (by decide) (by omega) rfl rfl d_law_776 d_law_777 d_law_778 d_law_779 d_law_780 ?_
  refine l_callI C h1 h2 (u := uc) (As := [.int (xs (i + 1))]) (c_TP_leaveOut (zU Z uc) (xs (i + 1)) g R.1.ok ) mi_TP_leaveOut k_466 (by decide) (e_TP _ _) rfl ⟨Nat.le_of_ble_eq_true rfl, Nat.le_of_ble_eq_true rfl⟩ rfl rfl (Nat.le_of_ble_eq_true rfl) d_law_781 (fun g1 hg1 => ?_)
  refine n_aload_n C d_law_784 2 rfl rfl ?_
  refine n_arg C S hL 1 (by decide) (by omega) rfl rfl d_law_785 d_law_786 d_law_787 d_law_788 d_law_789 ?_
  refine l_callI C h1 h2 (u := um) (As := [.int (xs (i + 1))]) (c_Mo_leaveOut (zU Z um) (xs (i + 1)) h R.1.1.1 ) mi_Mo_leaveOut k_1084 (by decide) (m_0 _ _) rfl ⟨Nat.le_of_ble_eq_true rfl, Nat.le_of_ble_eq_true rfl⟩ rfl rfl (Nat.le_of_ble_eq_true rfl) d_law_790 (fun h1 hh1 => ?_)
  exact n_icmp_eq C d_law_793 1359 (by decide) (fun _ => kk _ _ (q.2 _ _ hg1 hh1)) (fun z => absurd q.1 z)
set_option maxRecDepth 100000 in
theorem lc_20 {X : XT} {A : Nat → Prop} {Z : ZT} {b SL : Nat} {xs : Nat → Int32} {Q : State → Prop} {uc um : Nat → Nat} {g h : St} {kc ks i : Nat} (LL : LC X A Z b SL xs) (h1 : kc ≤ 600000) (h2 : ks ≤ 7302250) (hi : i + 6 ≤ SL) (R : Rel g h) (kk : ∀ g' h', Rel g' h' → WN X 4 Z A Q (sw yC (zU Z uc) g' ++ sw yM (zU Z um) h') kc ks 1359 [(0, .ref b), (1, .ref (uc 0)), (2, .ref (um 0)), (3, .int (nI i))] []) : WN X 4 Z A Q (sw yC (zU Z uc) g ++ sw yM (zU Z um) h) kc ks 798 [(0, .ref b), (1, .ref (uc 0)), (2, .ref (um 0)), (3, .int (nI i))] [] := by
  obtain ⟨C, S, hL⟩ := LL
  have q := q_fits R (xs (i + 1)) (xs (i + 2))
  refine n_aload_n C d_law_798 1 rfl rfl ?_
  refine n_arg C S hL 1 (by decide) (by omega) rfl rfl d_law_799 d_law_800 d_law_801 d_law_802 d_law_803 ?_
  refine n_arg C S hL 2 (by decide) (by omega) rfl rfl d_law_804 d_law_805 d_law_806 d_law_807 d_law_808 ?_
  refine l_callI C h1 h2 (u := uc) (As := [.int (xs (i + 1)), .int (xs (i + 2))]) (c_TP_fits (zU Z uc) (xs (i + 1)) (xs (i + 2)) g R.1.ok (rel_sC R)) mi_TP_fits k_489 (by decide) (e_TP _ _) rfl ⟨Nat.le_of_ble_eq_true rfl, Nat.le_of_ble_eq_true rfl⟩ rfl rfl (Nat.le_of_ble_eq_true rfl) d_law_809 (fun g1 hg1 => ?_)
  refine n_aload_n C d_law_812 2 rfl rfl ?_
  refine n_arg C S hL 1 (by decide) (by omega) rfl rfl d_law_813 d_law_814 d_law_815 d_law_816 d_law_817 ?_
  refine n_arg C S hL 2 (by decide) (by omega) rfl rfl d_law_818 d_law_819 d_law_820 d_law_821 d_law_822 ?_
  refine l_callI C h1 h2 (u := um) (As := [.int (xs (i + 1)), .int (xs (i + 2))]) (c_Mo_fits (zU Z um) (xs (i + 1)) (xs (i + 2)) h R.1.1.1 (rel_sM R)) mi_Mo_fits k_1095 (by decide) (m_0 _ _) rfl ⟨Nat.le_of_ble_eq_true rfl, Nat.le_of_ble_eq_true rfl⟩ rfl rfl (Nat.le_of_ble_eq_true rfl) d_law_823 (fun h1 hh1 => ?_)
  exact n_icmp_eq C d_law_826 1359 (by decide) (fun _ => kk _ _ (q.2 _ _ hg1 hh1)) (fun z => absurd q.1 z)
set_option maxRecDepth 100000 in
theorem lc_21 {X : XT} {A : Nat → Prop} {Z : ZT} {b SL : Nat} {xs : Nat → Int32} {Q : State → Prop} {uc um : Nat → Nat} {g h : St} {kc ks i : Nat} (LL : LC X A Z b SL xs) (h1 : kc ≤ 600000) (h2 : ks ≤ 7302250) (hi : i + 6 ≤ SL) (R : Rel g h) (kk : ∀ g' h', Rel g' h' → WN X 4 Z A Q (sw yC (zU Z uc) g' ++ sw yM (zU Z um) h') kc ks 1359 [(0, .ref b), (1, .ref (uc 0)), (2, .ref (um 0)), (3, .int (nI i))] []) : WN X 4 Z A Q (sw yC (zU Z uc) g ++ sw yM (zU Z um) h) kc ks 831 [(0, .ref b), (1, .ref (uc 0)), (2, .ref (um 0)), (3, .int (nI i))] [] := by
  obtain ⟨C, S, hL⟩ := LL
  have q := q_kinds R (xs (i + 1)) (xs (i + 2))
  refine n_aload_n C d_law_831 1 rfl rfl ?_
  refine n_arg C S hL 1 (by decide) (by omega) rfl rfl d_law_832 d_law_833 d_law_834 d_law_835 d_law_836 ?_
  refine n_arg C S hL 2 (by decide) (by omega) rfl rfl d_law_837 d_law_838 d_law_839 d_law_840 d_law_841 ?_
  refine l_callI C h1 h2 (u := uc) (As := [.int (xs (i + 1)), .int (xs (i + 2))]) (c_TP_kinds (zU Z uc) (xs (i + 1)) (xs (i + 2)) g R.1.ok (rel_sC R)) mi_TP_kinds k_514 (by decide) (e_TP _ _) rfl ⟨Nat.le_of_ble_eq_true rfl, Nat.le_of_ble_eq_true rfl⟩ rfl rfl (Nat.le_of_ble_eq_true rfl) d_law_842 (fun g1 hg1 => ?_)
  refine n_aload_n C d_law_845 2 rfl rfl ?_
  refine n_arg C S hL 1 (by decide) (by omega) rfl rfl d_law_846 d_law_847 d_law_848 d_law_849 d_law_850 ?_
  refine n_arg C S hL 2 (by decide) (by omega) rfl rfl d_law_851 d_law_852 d_law_853 d_law_854 d_law_855 ?_
  refine l_callI C h1 h2 (u := um) (As := [.int (xs (i + 1)), .int (xs (i + 2))]) (c_Mo_kinds (zU Z um) (xs (i + 1)) (xs (i + 2)) h R.1.1.1 (rel_sM R)) mi_Mo_kinds k_1115 (by decide) (m_0 _ _) rfl ⟨Nat.le_of_ble_eq_true rfl, Nat.le_of_ble_eq_true rfl⟩ rfl rfl (Nat.le_of_ble_eq_true rfl) d_law_856 (fun h1 hh1 => ?_)
  exact n_icmp_eq C d_law_859 1359 (by decide) (fun _ => kk _ _ (q.2 _ _ hg1 hh1)) (fun z => absurd q.1 z)
set_option maxRecDepth 100000 in
theorem lc_22 {X : XT} {A : Nat → Prop} {Z : ZT} {b SL : Nat} {xs : Nat → Int32} {Q : State → Prop} {uc um : Nat → Nat} {g h : St} {kc ks i : Nat} (LL : LC X A Z b SL xs) (h1 : kc ≤ 600000) (h2 : ks ≤ 7302250) (hi : i + 6 ≤ SL) (R : Rel g h) (kk : ∀ g' h', Rel g' h' → WN X 4 Z A Q (sw yC (zU Z uc) g' ++ sw yM (zU Z um) h') kc ks 1359 [(0, .ref b), (1, .ref (uc 0)), (2, .ref (um 0)), (3, .int (nI i))] []) : WN X 4 Z A Q (sw yC (zU Z uc) g ++ sw yM (zU Z um) h) kc ks 864 [(0, .ref b), (1, .ref (uc 0)), (2, .ref (um 0)), (3, .int (nI i))] [] := by
  obtain ⟨C, S, hL⟩ := LL
  have q := q_stroll R (xs (i + 1))
  refine n_aload_n C d_law_864 1 rfl rfl ?_
  refine n_arg C S hL 1 (by decide) (by omega) rfl rfl d_law_865 d_law_866 d_law_867 d_law_868 d_law_869 ?_
  refine l_callI C h1 h2 (u := uc) (As := [.int (xs (i + 1))]) (c_TP_stroll (zU Z uc) (xs (i + 1)) g R.1.ok ) mi_TP_stroll k_518 (by decide) (e_TP _ _) rfl ⟨Nat.le_of_ble_eq_true rfl, Nat.le_of_ble_eq_true rfl⟩ rfl rfl (Nat.le_of_ble_eq_true rfl) d_law_870 (fun g1 hg1 => ?_)
  refine n_aload_n C d_law_873 2 rfl rfl ?_
  refine n_arg C S hL 1 (by decide) (by omega) rfl rfl d_law_874 d_law_875 d_law_876 d_law_877 d_law_878 ?_
  refine l_callI C h1 h2 (u := um) (As := [.int (xs (i + 1))]) (c_Mo_stroll (zU Z um) (xs (i + 1)) h R.1.1.1 ) mi_Mo_stroll k_1119 (by decide) (m_0 _ _) rfl ⟨Nat.le_of_ble_eq_true rfl, Nat.le_of_ble_eq_true rfl⟩ rfl rfl (Nat.le_of_ble_eq_true rfl) d_law_879 (fun h1 hh1 => ?_)
  exact n_icmp_eq C d_law_882 1359 (by decide) (fun _ => kk _ _ (q.2 _ _ hg1 hh1)) (fun z => absurd q.1 z)
set_option maxRecDepth 100000 in
theorem lc_23 {X : XT} {A : Nat → Prop} {Z : ZT} {b SL : Nat} {xs : Nat → Int32} {Q : State → Prop} {uc um : Nat → Nat} {g h : St} {kc ks i : Nat} (LL : LC X A Z b SL xs) (h1 : kc ≤ 600000) (h2 : ks ≤ 7302250) (hi : i + 6 ≤ SL) (R : Rel g h) (kk : ∀ g' h', Rel g' h' → WN X 4 Z A Q (sw yC (zU Z uc) g' ++ sw yM (zU Z um) h') kc ks 1359 [(0, .ref b), (1, .ref (uc 0)), (2, .ref (um 0)), (3, .int (nI i))] []) : WN X 4 Z A Q (sw yC (zU Z uc) g ++ sw yM (zU Z um) h) kc ks 887 [(0, .ref b), (1, .ref (uc 0)), (2, .ref (um 0)), (3, .int (nI i))] [] := by
  obtain ⟨C, S, hL⟩ := LL
  have q := q_odds R (xs (i + 1)) (xs (i + 2)) (xs (i + 3))
  refine n_aload_n C d_law_887 1 rfl rfl ?_
  refine n_arg C S hL 1 (by decide) (by omega) rfl rfl d_law_888 d_law_889 d_law_890 d_law_891 d_law_892 ?_
  refine n_arg C S hL 2 (by decide) (by omega) rfl rfl d_law_893 d_law_894 d_law_895 d_law_896 d_law_897 ?_
  refine n_arg C S hL 3 (by decide) (by omega) rfl rfl d_law_898 d_law_899 d_law_900 d_law_901 d_law_902 ?_
  refine l_callL C h1 h2 (u := uc) (As := [.int (xs (i + 1)), .int (xs (i + 2)), .int (xs (i + 3))]) (c_TP_odds (zU Z uc) (xs (i + 1)) (xs (i + 2)) (xs (i + 3)) g R.1.ok ) mi_TP_odds k_533 (by decide) (e_TP _ _) rfl ⟨Nat.le_of_ble_eq_true rfl, Nat.le_of_ble_eq_true rfl⟩ rfl rfl (Nat.le_of_ble_eq_true rfl) d_law_903 ?_
  refine n_aload_n C d_law_906 2 rfl rfl ?_
  refine n_arg C S hL 1 (by decide) (by omega) rfl rfl d_law_907 d_law_908 d_law_909 d_law_910 d_law_911 ?_
  refine n_arg C S hL 2 (by decide) (by omega) rfl rfl d_law_912 d_law_913 d_law_914 d_law_915 d_law_916 ?_
  refine n_arg C S hL 3 (by decide) (by omega) rfl rfl d_law_917 d_law_918 d_law_919 d_law_920 d_law_921 ?_
  refine l_callL C h1 h2 (u := um) (As := [.int (xs (i + 1)), .int (xs (i + 2)), .int (xs (i + 3))]) (c_Mo_odds (zU Z um) (xs (i + 1)) (xs (i + 2)) (xs (i + 3)) h R.1.1.1 ) mi_Mo_odds k_1128 (by decide) (m_0 _ _) rfl ⟨Nat.le_of_ble_eq_true rfl, Nat.le_of_ble_eq_true rfl⟩ rfl rfl (Nat.le_of_ble_eq_true rfl) d_law_922 ?_
  refine n_lcmp C d_law_925 ?_
  refine n_ifeq C d_law_926 1359 (by decide) (fun _ => kk _ _ q.2) (fun z => absurd (by rw [q.1]; exact lg_same _) z)
set_option maxRecDepth 100000 in
theorem lc_24 {X : XT} {A : Nat → Prop} {Z : ZT} {b SL : Nat} {xs : Nat → Int32} {Q : State → Prop} {uc um : Nat → Nat} {g h : St} {kc ks i : Nat} (LL : LC X A Z b SL xs) (h1 : kc ≤ 600000) (h2 : ks ≤ 7302250) (hi : i + 6 ≤ SL) (R : Rel g h) (kk : ∀ g' h', Rel g' h' → WN X 4 Z A Q (sw yC (zU Z uc) g' ++ sw yM (zU Z um) h') kc ks 1359 [(0, .ref b), (1, .ref (uc 0)), (2, .ref (um 0)), (3, .int (nI i))] []) : WN X 4 Z A Q (sw yC (zU Z uc) g ++ sw yM (zU Z um) h) kc ks 931 [(0, .ref b), (1, .ref (uc 0)), (2, .ref (um 0)), (3, .int (nI i))] [] := by
  obtain ⟨C, S, hL⟩ := LL
  have q := q_seed R (xs (i + 1))
  refine n_aload_n C d_law_931 1 rfl rfl ?_
  refine n_arg C S hL 1 (by decide) (by omega) rfl rfl d_law_932 d_law_933 d_law_934 d_law_935 d_law_936 ?_
  refine l_callI C h1 h2 (u := uc) (As := [.int (xs (i + 1))]) (c_TP_seed (zU Z uc) (xs (i + 1)) g R.1.ok ) mi_TP_seed k_553 (by decide) (e_TP _ _) rfl ⟨Nat.le_of_ble_eq_true rfl, Nat.le_of_ble_eq_true rfl⟩ rfl rfl (Nat.le_of_ble_eq_true rfl) d_law_937 (fun g1 hg1 => ?_)
  refine n_aload_n C d_law_940 2 rfl rfl ?_
  refine n_arg C S hL 1 (by decide) (by omega) rfl rfl d_law_941 d_law_942 d_law_943 d_law_944 d_law_945 ?_
  refine l_callI C h1 h2 (u := um) (As := [.int (xs (i + 1))]) (c_Mo_seed (zU Z um) (xs (i + 1)) h R.1.1.1 ) mi_Mo_seed k_1136 (by decide) (m_0 _ _) rfl ⟨Nat.le_of_ble_eq_true rfl, Nat.le_of_ble_eq_true rfl⟩ rfl rfl (Nat.le_of_ble_eq_true rfl) d_law_946 (fun h1 hh1 => ?_)
  exact n_icmp_eq C d_law_949 1359 (by decide) (fun _ => kk _ _ (q.2 _ _ hg1 hh1)) (fun z => absurd q.1 z)
set_option maxRecDepth 100000 in
theorem lc_25 {X : XT} {A : Nat → Prop} {Z : ZT} {b SL : Nat} {xs : Nat → Int32} {Q : State → Prop} {uc um : Nat → Nat} {g h : St} {kc ks i : Nat} (LL : LC X A Z b SL xs) (h1 : kc ≤ 600000) (h2 : ks ≤ 7302250) (hi : i + 6 ≤ SL) (R : Rel g h) (kk : ∀ g' h', Rel g' h' → WN X 4 Z A Q (sw yC (zU Z uc) g' ++ sw yM (zU Z um) h') kc ks 1359 [(0, .ref b), (1, .ref (uc 0)), (2, .ref (um 0)), (3, .int (nI i))] []) : WN X 4 Z A Q (sw yC (zU Z uc) g ++ sw yM (zU Z um) h) kc ks 954 [(0, .ref b), (1, .ref (uc 0)), (2, .ref (um 0)), (3, .int (nI i))] [] := by
  obtain ⟨C, S, hL⟩ := LL
  have q := q_feed R (xs (i + 1)) (xs (i + 2))
  refine n_aload_n C d_law_954 1 rfl rfl ?_
  refine n_arg C S hL 1 (by decide) (by omega) rfl rfl d_law_955 d_law_956 d_law_957 d_law_958 d_law_959 ?_
  refine n_arg C S hL 2 (by decide) (by omega) rfl rfl d_law_960 d_law_961 d_law_962 d_law_963 d_law_964 ?_
  refine l_callI C h1 h2 (u := uc) (As := [.int (xs (i + 1)), .int (xs (i + 2))]) (c_TP_feed (zU Z uc) (xs (i + 1)) (xs (i + 2)) g R.1.ok (rel_tC R)) mi_TP_feed k_557 (by decide) (e_TP _ _) rfl ⟨Nat.le_of_ble_eq_true rfl, Nat.le_of_ble_eq_true rfl⟩ rfl rfl (Nat.le_of_ble_eq_true rfl) d_law_965 (fun g1 hg1 => ?_)
  refine n_aload_n C d_law_968 2 rfl rfl ?_
  refine n_arg C S hL 1 (by decide) (by omega) rfl rfl d_law_969 d_law_970 d_law_971 d_law_972 d_law_973 ?_
  refine n_arg C S hL 2 (by decide) (by omega) rfl rfl d_law_974 d_law_975 d_law_976 d_law_977 d_law_978 ?_
  refine l_callI C h1 h2 (u := um) (As := [.int (xs (i + 1)), .int (xs (i + 2))]) (c_Mo_feed (zU Z um) (xs (i + 1)) (xs (i + 2)) h R.1.1.1 (rel_tM R)) mi_Mo_feed k_1140 (by decide) (m_0 _ _) rfl ⟨Nat.le_of_ble_eq_true rfl, Nat.le_of_ble_eq_true rfl⟩ rfl rfl (Nat.le_of_ble_eq_true rfl) d_law_979 (fun h1 hh1 => ?_)
  exact n_icmp_eq C d_law_982 1359 (by decide) (fun _ => kk _ _ (q.2 _ _ hg1 hh1)) (fun z => absurd q.1 z)
set_option maxRecDepth 100000 in
theorem lc_26 {X : XT} {A : Nat → Prop} {Z : ZT} {b SL : Nat} {xs : Nat → Int32} {Q : State → Prop} {uc um : Nat → Nat} {g h : St} {kc ks i : Nat} (LL : LC X A Z b SL xs) (h1 : kc ≤ 600000) (h2 : ks ≤ 7302250) (hi : i + 6 ≤ SL) (R : Rel g h) (kk : ∀ g' h', Rel g' h' → WN X 4 Z A Q (sw yC (zU Z uc) g' ++ sw yM (zU Z um) h') kc ks 1359 [(0, .ref b), (1, .ref (uc 0)), (2, .ref (um 0)), (3, .int (nI i))] []) : WN X 4 Z A Q (sw yC (zU Z uc) g ++ sw yM (zU Z um) h) kc ks 987 [(0, .ref b), (1, .ref (uc 0)), (2, .ref (um 0)), (3, .int (nI i))] [] := by
  obtain ⟨C, S, hL⟩ := LL
  have q := q_wipe R 
  refine n_aload_n C d_law_987 1 rfl rfl ?_
  refine l_callI C h1 h2 (u := uc) (As := []) (c_TP_wipe (zU Z uc)  g R.1.ok ) mi_TP_wipe k_565 (by decide) (e_TP _ _) rfl ⟨Nat.le_of_ble_eq_true rfl, Nat.le_of_ble_eq_true rfl⟩ rfl rfl (Nat.le_of_ble_eq_true rfl) d_law_988 (fun g1 hg1 => ?_)
  refine n_aload_n C d_law_991 2 rfl rfl ?_
  refine l_callI C h1 h2 (u := um) (As := []) (c_Mo_wipe (zU Z um)  h R.1.1.1 ) mi_Mo_wipe k_1144 (by decide) (m_0 _ _) rfl ⟨Nat.le_of_ble_eq_true rfl, Nat.le_of_ble_eq_true rfl⟩ rfl rfl (Nat.le_of_ble_eq_true rfl) d_law_992 (fun h1 hh1 => ?_)
  exact n_icmp_eq C d_law_995 1359 (by decide) (fun _ => kk _ _ (q.2 _ _ hg1 hh1)) (fun z => absurd q.1 z)
set_option maxRecDepth 100000 in
theorem lc_27 {X : XT} {A : Nat → Prop} {Z : ZT} {b SL : Nat} {xs : Nat → Int32} {Q : State → Prop} {uc um : Nat → Nat} {g h : St} {kc ks i : Nat} (LL : LC X A Z b SL xs) (h1 : kc ≤ 600000) (h2 : ks ≤ 7302250) (hi : i + 6 ≤ SL) (R : Rel g h) (kk : ∀ g' h', Rel g' h' → WN X 4 Z A Q (sw yC (zU Z uc) g' ++ sw yM (zU Z um) h') kc ks 1359 [(0, .ref b), (1, .ref (uc 0)), (2, .ref (um 0)), (3, .int (nI i))] []) : WN X 4 Z A Q (sw yC (zU Z uc) g ++ sw yM (zU Z um) h) kc ks 1000 [(0, .ref b), (1, .ref (uc 0)), (2, .ref (um 0)), (3, .int (nI i))] [] := by
  obtain ⟨C, S, hL⟩ := LL
  obtain ⟨L2, hL2, e5, e6, hb5⟩ := id R.2.2.2.1
  have q := q_text R L2 e5 hL2
  refine n_aload_n C d_law_1000 1 rfl rfl ?_
  refine l_callI C h1 h2 (u := uc) (As := []) (c_TP_text (zU Z uc) L2 hL2 g R.1.ok e5 ) mi_TP_text k_569 (by decide) (e_TP _ _) rfl ⟨Nat.le_of_ble_eq_true rfl, Nat.le_of_ble_eq_true rfl⟩ rfl rfl (Nat.le_of_ble_eq_true rfl) d_law_1001 (fun g1 hg1 => ?_)
  refine n_aload_n C d_law_1004 2 rfl rfl ?_
  refine l_callI C h1 h2 (u := um) (As := []) (c_Mo_text (zU Z um) L2 hL2 h R.1.1.1 e6 (fun k hk => byE_n (hb5 k hk))) mi_Mo_text k_1148 (by decide) (m_0 _ _) rfl ⟨Nat.le_of_ble_eq_true rfl, Nat.le_of_ble_eq_true rfl⟩ rfl rfl (Nat.le_of_ble_eq_true rfl) d_law_1005 (fun h1 hh1 => ?_)
  exact n_icmp_eq C d_law_1008 1359 (by decide) (fun _ => kk _ _ (q.2 _ _ hg1 hh1)) (fun z => absurd q.1 z)
set_option maxRecDepth 100000 in
theorem lc_28 {X : XT} {A : Nat → Prop} {Z : ZT} {b SL : Nat} {xs : Nat → Int32} {Q : State → Prop} {uc um : Nat → Nat} {g h : St} {kc ks i : Nat} (LL : LC X A Z b SL xs) (h1 : kc ≤ 600000) (h2 : ks ≤ 7302250) (hi : i + 6 ≤ SL) (R : Rel g h) (kk : ∀ g' h', Rel g' h' → WN X 4 Z A Q (sw yC (zU Z uc) g' ++ sw yM (zU Z um) h') kc ks 1359 [(0, .ref b), (1, .ref (uc 0)), (2, .ref (um 0)), (3, .int (nI i))] []) : WN X 4 Z A Q (sw yC (zU Z uc) g ++ sw yM (zU Z um) h) kc ks 1013 [(0, .ref b), (1, .ref (uc 0)), (2, .ref (um 0)), (3, .int (nI i))] [] := by
  obtain ⟨C, S, hL⟩ := LL
  have q := q_hold R (xs (i + 1)) (xs (i + 2))
  refine n_aload_n C d_law_1013 1 rfl rfl ?_
  refine n_arg C S hL 1 (by decide) (by omega) rfl rfl d_law_1014 d_law_1015 d_law_1016 d_law_1017 d_law_1018 ?_
  refine n_arg C S hL 2 (by decide) (by omega) rfl rfl d_law_1019 d_law_1020 d_law_1021 d_law_1022 d_law_1023 ?_
  refine l_callI C h1 h2 (u := uc) (As := [.int (xs (i + 1)), .int (xs (i + 2))]) (c_TP_hold (zU Z uc) (xs (i + 1)) (xs (i + 2)) g R.1.ok ) mi_TP_hold k_686 (by decide) (e_TP _ _) rfl ⟨Nat.le_of_ble_eq_true rfl, Nat.le_of_ble_eq_true rfl⟩ rfl rfl (Nat.le_of_ble_eq_true rfl) d_law_1024 (fun g1 hg1 => ?_)
  refine n_aload_n C d_law_1027 2 rfl rfl ?_
  refine n_arg C S hL 1 (by decide) (by omega) rfl rfl d_law_1028 d_law_1029 d_law_1030 d_law_1031 d_law_1032 ?_
  refine n_arg C S hL 2 (by decide) (by omega) rfl rfl d_law_1033 d_law_1034 d_law_1035 d_law_1036 d_law_1037 ?_
  refine l_callI C h1 h2 (u := um) (As := [.int (xs (i + 1)), .int (xs (i + 2))]) (c_Mo_hold (zU Z um) (xs (i + 1)) (xs (i + 2)) h R.1.1.1 ) mi_Mo_hold k_1200 (by decide) (m_0 _ _) rfl ⟨Nat.le_of_ble_eq_true rfl, Nat.le_of_ble_eq_true rfl⟩ rfl rfl (Nat.le_of_ble_eq_true rfl) d_law_1038 (fun h1 hh1 => ?_)
  exact n_icmp_eq C d_law_1041 1359 (by decide) (fun _ => kk _ _ (q.2 _ _ hg1 hh1)) (fun z => absurd q.1 z)
set_option maxRecDepth 100000 in
theorem lc_29 {X : XT} {A : Nat → Prop} {Z : ZT} {b SL : Nat} {xs : Nat → Int32} {Q : State → Prop} {uc um : Nat → Nat} {g h : St} {kc ks i : Nat} (LL : LC X A Z b SL xs) (h1 : kc ≤ 600000) (h2 : ks ≤ 7302250) (hi : i + 6 ≤ SL) (R : Rel g h) (kk : ∀ g' h', Rel g' h' → WN X 4 Z A Q (sw yC (zU Z uc) g' ++ sw yM (zU Z um) h') kc ks 1359 [(0, .ref b), (1, .ref (uc 0)), (2, .ref (um 0)), (3, .int (nI i))] []) : WN X 4 Z A Q (sw yC (zU Z uc) g ++ sw yM (zU Z um) h) kc ks 1046 [(0, .ref b), (1, .ref (uc 0)), (2, .ref (um 0)), (3, .int (nI i))] [] := by
  obtain ⟨C, S, hL⟩ := LL
  have q := q_as R (xs (i + 1)) (xs (i + 2))
  refine n_aload_n C d_law_1046 1 rfl rfl ?_
  refine n_arg C S hL 1 (by decide) (by omega) rfl rfl d_law_1047 d_law_1048 d_law_1049 d_law_1050 d_law_1051 ?_
  refine n_arg C S hL 2 (by decide) (by omega) rfl rfl d_law_1052 d_law_1053 d_law_1054 d_law_1055 d_law_1056 ?_
  refine l_callI C h1 h2 (u := uc) (As := [.int (xs (i + 1)), .int (xs (i + 2))]) (c_TP_as (zU Z uc) (xs (i + 1)) (xs (i + 2)) g R.1.ok (rel_kd R.1)) mi_TP_as k_690 (by decide) (e_TP _ _) rfl ⟨Nat.le_of_ble_eq_true rfl, Nat.le_of_ble_eq_true rfl⟩ rfl rfl (Nat.le_of_ble_eq_true rfl) d_law_1057 (fun g1 hg1 => ?_)
  refine n_aload_n C d_law_1060 2 rfl rfl ?_
  refine n_arg C S hL 1 (by decide) (by omega) rfl rfl d_law_1061 d_law_1062 d_law_1063 d_law_1064 d_law_1065 ?_
  refine n_arg C S hL 2 (by decide) (by omega) rfl rfl d_law_1066 d_law_1067 d_law_1068 d_law_1069 d_law_1070 ?_
  refine l_callI C h1 h2 (u := um) (As := [.int (xs (i + 1)), .int (xs (i + 2))]) (c_Mo_as (zU Z um) (xs (i + 1)) (xs (i + 2)) h R.1.1.1 (inv_kd R.1.1) R.1.1.2.2.2.1) mi_Mo_as k_1207 (by decide) (m_0 _ _) rfl ⟨Nat.le_of_ble_eq_true rfl, Nat.le_of_ble_eq_true rfl⟩ rfl rfl (Nat.le_of_ble_eq_true rfl) d_law_1071 (fun h1 hh1 => ?_)
  exact n_icmp_eq C d_law_1074 1359 (by decide) (fun _ => kk _ _ (q.2 _ _ hg1 hh1)) (fun z => absurd q.1 z)
set_option maxRecDepth 100000 in
theorem lc_30 {X : XT} {A : Nat → Prop} {Z : ZT} {b SL : Nat} {xs : Nat → Int32} {Q : State → Prop} {uc um : Nat → Nat} {g h : St} {kc ks i : Nat} (LL : LC X A Z b SL xs) (h1 : kc ≤ 600000) (h2 : ks ≤ 7302250) (hi : i + 6 ≤ SL) (R : Rel g h) (kk : ∀ g' h', Rel g' h' → WN X 4 Z A Q (sw yC (zU Z uc) g' ++ sw yM (zU Z um) h') kc ks 1359 [(0, .ref b), (1, .ref (uc 0)), (2, .ref (um 0)), (3, .int (nI i))] []) : WN X 4 Z A Q (sw yC (zU Z uc) g ++ sw yM (zU Z um) h) kc ks 1079 [(0, .ref b), (1, .ref (uc 0)), (2, .ref (um 0)), (3, .int (nI i))] [] := by
  obtain ⟨C, S, hL⟩ := LL
  have q := q_sheet R (xs (i + 1)) (xs (i + 2)) (xs (i + 3))
  refine n_aload_n C d_law_1079 1 rfl rfl ?_
  refine n_arg C S hL 1 (by decide) (by omega) rfl rfl d_law_1080 d_law_1081 d_law_1082 d_law_1083 d_law_1084 ?_
  refine n_arg C S hL 2 (by decide) (by omega) rfl rfl d_law_1085 d_law_1086 d_law_1087 d_law_1088 d_law_1089 ?_
  refine n_arg C S hL 3 (by decide) (by omega) rfl rfl d_law_1090 d_law_1091 d_law_1092 d_law_1093 d_law_1094 ?_
  refine l_callI C h1 h2 (u := uc) (As := [.int (xs (i + 1)), .int (xs (i + 2)), .int (xs (i + 3))]) (c_TP_sheet (zU Z uc) (xs (i + 1)) (xs (i + 2)) (xs (i + 3)) g R.1.ok ) mi_TP_sheet k_702 (by decide) (e_TP _ _) rfl ⟨Nat.le_of_ble_eq_true rfl, Nat.le_of_ble_eq_true rfl⟩ rfl rfl (Nat.le_of_ble_eq_true rfl) d_law_1095 (fun g1 hg1 => ?_)
  refine n_aload_n C d_law_1098 2 rfl rfl ?_
  refine n_arg C S hL 1 (by decide) (by omega) rfl rfl d_law_1099 d_law_1100 d_law_1101 d_law_1102 d_law_1103 ?_
  refine n_arg C S hL 2 (by decide) (by omega) rfl rfl d_law_1104 d_law_1105 d_law_1106 d_law_1107 d_law_1108 ?_
  refine n_arg C S hL 3 (by decide) (by omega) rfl rfl d_law_1109 d_law_1110 d_law_1111 d_law_1112 d_law_1113 ?_
  refine l_callI C h1 h2 (u := um) (As := [.int (xs (i + 1)), .int (xs (i + 2)), .int (xs (i + 3))]) (c_Mo_sheet (zU Z um) (xs (i + 1)) (xs (i + 2)) (xs (i + 3)) h R.1.1.1 ) mi_Mo_sheet k_1218 (by decide) (m_0 _ _) rfl ⟨Nat.le_of_ble_eq_true rfl, Nat.le_of_ble_eq_true rfl⟩ rfl rfl (Nat.le_of_ble_eq_true rfl) d_law_1114 (fun h1 hh1 => ?_)
  exact n_icmp_eq C d_law_1117 1359 (by decide) (fun _ => kk _ _ (q.2 _ _ hg1 hh1)) (fun z => absurd q.1 z)
set_option maxRecDepth 100000 in
theorem lc_31 {X : XT} {A : Nat → Prop} {Z : ZT} {b SL : Nat} {xs : Nat → Int32} {Q : State → Prop} {uc um : Nat → Nat} {g h : St} {kc ks i : Nat} (LL : LC X A Z b SL xs) (h1 : kc ≤ 600000) (h2 : ks ≤ 7302250) (hi : i + 6 ≤ SL) (R : Rel g h) (kk : ∀ g' h', Rel g' h' → WN X 4 Z A Q (sw yC (zU Z uc) g' ++ sw yM (zU Z um) h') kc ks 1359 [(0, .ref b), (1, .ref (uc 0)), (2, .ref (um 0)), (3, .int (nI i))] []) : WN X 4 Z A Q (sw yC (zU Z uc) g ++ sw yM (zU Z um) h) kc ks 1122 [(0, .ref b), (1, .ref (uc 0)), (2, .ref (um 0)), (3, .int (nI i))] [] := by
  obtain ⟨C, S, hL⟩ := LL
  have q := q_write R (xs (i + 1)) (xs (i + 2)) (xs (i + 3))
  refine n_aload_n C d_law_1122 1 rfl rfl ?_
  refine n_arg C S hL 1 (by decide) (by omega) rfl rfl d_law_1123 d_law_1124 d_law_1125 d_law_1126 d_law_1127 ?_
  refine n_arg C S hL 2 (by decide) (by omega) rfl rfl d_law_1128 d_law_1129 d_law_1130 d_law_1131 d_law_1132 ?_
  refine n_arg C S hL 3 (by decide) (by omega) rfl rfl d_law_1133 d_law_1134 d_law_1135 d_law_1136 d_law_1137 ?_
  refine l_callI C h1 h2 (u := uc) (As := [.int (xs (i + 1)), .int (xs (i + 2)), .int (xs (i + 3))]) (c_TP_write (zU Z uc) (xs (i + 1)) (xs (i + 2)) (xs (i + 3)) g R.1.ok (rel_sC R)) mi_TP_write k_711 (by decide) (e_TP _ _) rfl ⟨Nat.le_of_ble_eq_true rfl, Nat.le_of_ble_eq_true rfl⟩ rfl rfl (Nat.le_of_ble_eq_true rfl) d_law_1138 (fun g1 hg1 => ?_)
  refine n_aload_n C d_law_1141 2 rfl rfl ?_
  refine n_arg C S hL 1 (by decide) (by omega) rfl rfl d_law_1142 d_law_1143 d_law_1144 d_law_1145 d_law_1146 ?_
  refine n_arg C S hL 2 (by decide) (by omega) rfl rfl d_law_1147 d_law_1148 d_law_1149 d_law_1150 d_law_1151 ?_
  refine n_arg C S hL 3 (by decide) (by omega) rfl rfl d_law_1152 d_law_1153 d_law_1154 d_law_1155 d_law_1156 ?_
  refine l_callI C h1 h2 (u := um) (As := [.int (xs (i + 1)), .int (xs (i + 2)), .int (xs (i + 3))]) (c_Mo_write (zU Z um) (xs (i + 1)) (xs (i + 2)) (xs (i + 3)) h R.1.1.1 (rel_sM R)) mi_Mo_write k_1223 (by decide) (m_0 _ _) rfl ⟨Nat.le_of_ble_eq_true rfl, Nat.le_of_ble_eq_true rfl⟩ rfl rfl (Nat.le_of_ble_eq_true rfl) d_law_1157 (fun h1 hh1 => ?_)
  exact n_icmp_eq C d_law_1160 1359 (by decide) (fun _ => kk _ _ (q.2 _ _ hg1 hh1)) (fun z => absurd q.1 z)
set_option maxRecDepth 100000 in
theorem lc_32 {X : XT} {A : Nat → Prop} {Z : ZT} {b SL : Nat} {xs : Nat → Int32} {Q : State → Prop} {uc um : Nat → Nat} {g h : St} {kc ks i : Nat} (LL : LC X A Z b SL xs) (h1 : kc ≤ 600000) (h2 : ks ≤ 7302250) (hi : i + 6 ≤ SL) (R : Rel g h) (kk : ∀ g' h', Rel g' h' → WN X 4 Z A Q (sw yC (zU Z uc) g' ++ sw yM (zU Z um) h') kc ks 1359 [(0, .ref b), (1, .ref (uc 0)), (2, .ref (um 0)), (3, .int (nI i))] []) : WN X 4 Z A Q (sw yC (zU Z uc) g ++ sw yM (zU Z um) h) kc ks 1165 [(0, .ref b), (1, .ref (uc 0)), (2, .ref (um 0)), (3, .int (nI i))] [] := by
  obtain ⟨C, S, hL⟩ := LL
  have q := q_copy R (xs (i + 1)) (xs (i + 2)) (xs (i + 3)) (xs (i + 4)) (xs (i + 5))
  refine n_aload_n C d_law_1165 1 rfl rfl ?_
  refine n_arg C S hL 1 (by decide) (by omega) rfl rfl d_law_1166 d_law_1167 d_law_1168 d_law_1169 d_law_1170 ?_
  refine n_arg C S hL 2 (by decide) (by omega) rfl rfl d_law_1171 d_law_1172 d_law_1173 d_law_1174 d_law_1175 ?_
  refine n_arg C S hL 3 (by decide) (by omega) rfl rfl d_law_1176 d_law_1177 d_law_1178 d_law_1179 d_law_1180 ?_
  refine n_arg C S hL 4 (by decide) (by omega) rfl rfl d_law_1181 d_law_1182 d_law_1183 d_law_1184 d_law_1185 ?_
  refine n_arg C S hL 5 (by decide) (by omega) rfl rfl d_law_1186 d_law_1187 d_law_1188 d_law_1189 d_law_1190 ?_
  refine l_callI C h1 h2 (u := uc) (As := [.int (xs (i + 1)), .int (xs (i + 2)), .int (xs (i + 3)), .int (xs (i + 4)), .int (xs (i + 5))]) (c_TP_copy (zU Z uc) (xs (i + 1)) (xs (i + 2)) (xs (i + 3)) (xs (i + 4)) (xs (i + 5)) g R.1.ok (rel_sC R)) mi_TP_copy k_719 (by decide) (e_TP _ _) rfl ⟨Nat.le_of_ble_eq_true rfl, Nat.le_of_ble_eq_true rfl⟩ rfl rfl (Nat.le_of_ble_eq_true rfl) d_law_1191 (fun g1 hg1 => ?_)
  refine n_aload_n C d_law_1194 2 rfl rfl ?_
  refine n_arg C S hL 1 (by decide) (by omega) rfl rfl d_law_1195 d_law_1196 d_law_1197 d_law_1198 d_law_1199 ?_
  refine n_arg C S hL 2 (by decide) (by omega) rfl rfl d_law_1200 d_law_1201 d_law_1202 d_law_1203 d_law_1204 ?_
  refine n_arg C S hL 3 (by decide) (by omega) rfl rfl d_law_1205 d_law_1206 d_law_1207 d_law_1208 d_law_1209 ?_
  refine n_arg C S hL 4 (by decide) (by omega) rfl rfl d_law_1210 d_law_1211 d_law_1212 d_law_1213 d_law_1214 ?_
  refine n_arg C S hL 5 (by decide) (by omega) rfl rfl d_law_1215 d_law_1216 d_law_1217 d_law_1218 d_law_1219 ?_
  refine l_callI C h1 h2 (u := um) (As := [.int (xs (i + 1)), .int (xs (i + 2)), .int (xs (i + 3)), .int (xs (i + 4)), .int (xs (i + 5))]) (c_Mo_copy (zU Z um) (xs (i + 1)) (xs (i + 2)) (xs (i + 3)) (xs (i + 4)) (xs (i + 5)) h R.1.1.1 (rel_sM R)) mi_Mo_copy k_1230 (by decide) (m_0 _ _) rfl ⟨Nat.le_of_ble_eq_true rfl, Nat.le_of_ble_eq_true rfl⟩ rfl rfl (Nat.le_of_ble_eq_true rfl) d_law_1220 (fun h1 hh1 => ?_)
  exact n_icmp_eq C d_law_1223 1359 (by decide) (fun _ => kk _ _ (q.2 _ _ hg1 hh1)) (fun z => absurd q.1 z)
set_option maxRecDepth 100000 in
theorem lc_33 {X : XT} {A : Nat → Prop} {Z : ZT} {b SL : Nat} {xs : Nat → Int32} {Q : State → Prop} {uc um : Nat → Nat} {g h : St} {kc ks i : Nat} (LL : LC X A Z b SL xs) (h1 : kc ≤ 600000) (h2 : ks ≤ 7302250) (hi : i + 6 ≤ SL) (R : Rel g h) (kk : ∀ g' h', Rel g' h' → WN X 4 Z A Q (sw yC (zU Z uc) g' ++ sw yM (zU Z um) h') kc ks 1359 [(0, .ref b), (1, .ref (uc 0)), (2, .ref (um 0)), (3, .int (nI i))] []) : WN X 4 Z A Q (sw yC (zU Z uc) g ++ sw yM (zU Z um) h) kc ks 1228 [(0, .ref b), (1, .ref (uc 0)), (2, .ref (um 0)), (3, .int (nI i))] [] := by
  obtain ⟨C, S, hL⟩ := LL
  have q := q_load R (xs (i + 1))
  refine n_aload_n C d_law_1228 1 rfl rfl ?_
  refine n_arg C S hL 1 (by decide) (by omega) rfl rfl d_law_1229 d_law_1230 d_law_1231 d_law_1232 d_law_1233 ?_
  refine l_callI C h1 h2 (u := uc) (As := [.int (xs (i + 1))]) (c_TP_load (zU Z uc) (xs (i + 1)) g R.1.ok (rel_sC R)) mi_TP_load k_728 (by decide) (e_TP _ _) rfl ⟨Nat.le_of_ble_eq_true rfl, Nat.le_of_ble_eq_true rfl⟩ rfl rfl (Nat.le_of_ble_eq_true rfl) d_law_1234 (fun g1 hg1 => ?_)
  refine n_aload_n C d_law_1237 2 rfl rfl ?_
  refine n_arg C S hL 1 (by decide) (by omega) rfl rfl d_law_1238 d_law_1239 d_law_1240 d_law_1241 d_law_1242 ?_
  refine l_callI C h1 h2 (u := um) (As := [.int (xs (i + 1))]) (c_Mo_load (zU Z um) (xs (i + 1)) h R.1.1.1 (rel_sM R)) mi_Mo_load k_1234 (by decide) (m_0 _ _) rfl ⟨Nat.le_of_ble_eq_true rfl, Nat.le_of_ble_eq_true rfl⟩ rfl rfl (Nat.le_of_ble_eq_true rfl) d_law_1243 (fun h1 hh1 => ?_)
  exact n_icmp_eq C d_law_1246 1359 (by decide) (fun _ => kk _ _ (q.2 _ _ hg1 hh1)) (fun z => absurd q.1 z)
set_option maxRecDepth 100000 in
theorem lc_34 {X : XT} {A : Nat → Prop} {Z : ZT} {b SL : Nat} {xs : Nat → Int32} {Q : State → Prop} {uc um : Nat → Nat} {g h : St} {kc ks i : Nat} (LL : LC X A Z b SL xs) (h1 : kc ≤ 600000) (h2 : ks ≤ 7302250) (hi : i + 6 ≤ SL) (R : Rel g h) (kk : ∀ g' h', Rel g' h' → WN X 4 Z A Q (sw yC (zU Z uc) g' ++ sw yM (zU Z um) h') kc ks 1359 [(0, .ref b), (1, .ref (uc 0)), (2, .ref (um 0)), (3, .int (nI i))] []) : WN X 4 Z A Q (sw yC (zU Z uc) g ++ sw yM (zU Z um) h) kc ks 1251 [(0, .ref b), (1, .ref (uc 0)), (2, .ref (um 0)), (3, .int (nI i))] [] := by
  obtain ⟨C, S, hL⟩ := LL
  have q := q_judge R (xs (i + 1))
  refine n_aload_n C d_law_1251 1 rfl rfl ?_
  refine n_arg C S hL 1 (by decide) (by omega) rfl rfl d_law_1252 d_law_1253 d_law_1254 d_law_1255 d_law_1256 ?_
  refine l_callI C h1 h2 (u := uc) (As := [.int (xs (i + 1))]) (c_TP_judge (zU Z uc) (xs (i + 1)) g R.1.ok (rel_sC R)) mi_TP_judge k_739 (by decide) (e_TP _ _) rfl ⟨Nat.le_of_ble_eq_true rfl, Nat.le_of_ble_eq_true rfl⟩ rfl rfl (Nat.le_of_ble_eq_true rfl) d_law_1257 (fun g1 hg1 => ?_)
  refine n_aload_n C d_law_1260 2 rfl rfl ?_
  refine n_arg C S hL 1 (by decide) (by omega) rfl rfl d_law_1261 d_law_1262 d_law_1263 d_law_1264 d_law_1265 ?_
  refine l_callI C h1 h2 (u := um) (As := [.int (xs (i + 1))]) (c_Mo_judge (zU Z um) (xs (i + 1)) h R.1.1.1 (rel_sM R)) mi_Mo_judge k_1238 (by decide) (m_0 _ _) rfl ⟨Nat.le_of_ble_eq_true rfl, Nat.le_of_ble_eq_true rfl⟩ rfl rfl (Nat.le_of_ble_eq_true rfl) d_law_1266 (fun h1 hh1 => ?_)
  exact n_icmp_eq C d_law_1269 1359 (by decide) (fun _ => kk _ _ (q.2 _ _ hg1 hh1)) (fun z => absurd q.1 z)
set_option maxRecDepth 100000 in
theorem lc_35 {X : XT} {A : Nat → Prop} {Z : ZT} {b SL : Nat} {xs : Nat → Int32} {Q : State → Prop} {uc um : Nat → Nat} {g h : St} {kc ks i : Nat} (LL : LC X A Z b SL xs) (h1 : kc ≤ 600000) (h2 : ks ≤ 7302250) (hi : i + 6 ≤ SL) (R : Rel g h) (kk : ∀ g' h', Rel g' h' → WN X 4 Z A Q (sw yC (zU Z uc) g' ++ sw yM (zU Z um) h') kc ks 1359 [(0, .ref b), (1, .ref (uc 0)), (2, .ref (um 0)), (3, .int (nI i))] []) : WN X 4 Z A Q (sw yC (zU Z uc) g ++ sw yM (zU Z um) h) kc ks 1274 [(0, .ref b), (1, .ref (uc 0)), (2, .ref (um 0)), (3, .int (nI i))] [] := by
  obtain ⟨C, S, hL⟩ := LL
  have q := q_image R 
  refine n_aload_n C d_law_1274 1 rfl rfl ?_
  refine l_callI C h1 h2 (u := uc) (As := []) (c_TP_image (zU Z uc)  g R.1.ok ) mi_TP_image k_747 (by decide) (e_TP _ _) rfl ⟨Nat.le_of_ble_eq_true rfl, Nat.le_of_ble_eq_true rfl⟩ rfl rfl (Nat.le_of_ble_eq_true rfl) d_law_1275 (fun g1 hg1 => ?_)
  refine n_aload_n C d_law_1278 2 rfl rfl ?_
  refine l_callI C h1 h2 (u := um) (As := []) (c_Mo_image (zU Z um)  h R.1.1.1 ) mi_Mo_image k_1242 (by decide) (m_0 _ _) rfl ⟨Nat.le_of_ble_eq_true rfl, Nat.le_of_ble_eq_true rfl⟩ rfl rfl (Nat.le_of_ble_eq_true rfl) d_law_1279 (fun h1 hh1 => ?_)
  exact n_icmp_eq C d_law_1282 1359 (by decide) (fun _ => kk _ _ (q.2 _ _ hg1 hh1)) (fun z => absurd q.1 z)
set_option maxRecDepth 100000 in
theorem lc_36 {X : XT} {A : Nat → Prop} {Z : ZT} {b SL : Nat} {xs : Nat → Int32} {Q : State → Prop} {uc um : Nat → Nat} {g h : St} {kc ks i : Nat} (LL : LC X A Z b SL xs) (h1 : kc ≤ 600000) (h2 : ks ≤ 7302250) (hi : i + 6 ≤ SL) (R : Rel g h) (kk : ∀ g' h', Rel g' h' → WN X 4 Z A Q (sw yC (zU Z uc) g' ++ sw yM (zU Z um) h') kc ks 1359 [(0, .ref b), (1, .ref (uc 0)), (2, .ref (um 0)), (3, .int (nI i))] []) : WN X 4 Z A Q (sw yC (zU Z uc) g ++ sw yM (zU Z um) h) kc ks 1287 [(0, .ref b), (1, .ref (uc 0)), (2, .ref (um 0)), (3, .int (nI i))] [] := by
  obtain ⟨C, S, hL⟩ := LL
  have q := q_undo R 
  refine n_aload_n C d_law_1287 1 rfl rfl ?_
  refine l_callI C h1 h2 (u := uc) (As := []) (c_TP_undo (zU Z uc)  g R.1.ok (fun z => (R.2.1.2 z).ok)) mi_TP_undo k_751 (by decide) (e_TP _ _) rfl ⟨Nat.le_of_ble_eq_true rfl, Nat.le_of_ble_eq_true rfl⟩ rfl rfl (Nat.le_of_ble_eq_true rfl) d_law_1288 (fun g1 hg1 => ?_)
  refine n_aload_n C d_law_1291 2 rfl rfl ?_
  refine l_callI C h1 h2 (u := um) (As := []) (c_Mo_undo (zU Z um)  h R.1.1.1 ) mi_Mo_undo k_1246 (by decide) (m_0 _ _) rfl ⟨Nat.le_of_ble_eq_true rfl, Nat.le_of_ble_eq_true rfl⟩ rfl rfl (Nat.le_of_ble_eq_true rfl) d_law_1292 (fun h1 hh1 => ?_)
  exact n_icmp_eq C d_law_1295 1359 (by decide) (fun _ => kk _ _ (q.2 _ _ hg1 hh1)) (fun z => absurd q.1 z)
set_option maxRecDepth 100000 in
theorem lc_37 {X : XT} {A : Nat → Prop} {Z : ZT} {b SL : Nat} {xs : Nat → Int32} {Q : State → Prop} {uc um : Nat → Nat} {g h : St} {kc ks i : Nat} (LL : LC X A Z b SL xs) (h1 : kc ≤ 600000) (h2 : ks ≤ 7302250) (hi : i + 6 ≤ SL) (R : Rel g h) (kk : ∀ g' h', Rel g' h' → WN X 4 Z A Q (sw yC (zU Z uc) g' ++ sw yM (zU Z um) h') kc ks 1359 [(0, .ref b), (1, .ref (uc 0)), (2, .ref (um 0)), (3, .int (nI i))] []) : WN X 4 Z A Q (sw yC (zU Z uc) g ++ sw yM (zU Z um) h) kc ks 1300 [(0, .ref b), (1, .ref (uc 0)), (2, .ref (um 0)), (3, .int (nI i))] [] := by
  obtain ⟨C, S, hL⟩ := LL
  have q := q_tear R 
  refine n_aload_n C d_law_1300 1 rfl rfl ?_
  refine l_callI C h1 h2 (u := uc) (As := []) (c_TP_tear (zU Z uc)  g R.1.ok ) mi_TP_tear k_755 (by decide) (e_TP _ _) rfl ⟨Nat.le_of_ble_eq_true rfl, Nat.le_of_ble_eq_true rfl⟩ rfl rfl (Nat.le_of_ble_eq_true rfl) d_law_1301 (fun g1 hg1 => ?_)
  refine n_aload_n C d_law_1304 2 rfl rfl ?_
  refine l_callI C h1 h2 (u := um) (As := []) (c_Mo_tear (zU Z um)  h R.1.1.1 ) mi_Mo_tear k_1250 (by decide) (m_0 _ _) rfl ⟨Nat.le_of_ble_eq_true rfl, Nat.le_of_ble_eq_true rfl⟩ rfl rfl (Nat.le_of_ble_eq_true rfl) d_law_1305 (fun h1 hh1 => ?_)
  exact n_icmp_eq C d_law_1308 1359 (by decide) (fun _ => kk _ _ (q.2 _ _ hg1 hh1)) (fun z => absurd q.1 z)
set_option maxRecDepth 100000 in
theorem lc_38 {X : XT} {A : Nat → Prop} {Z : ZT} {b SL : Nat} {xs : Nat → Int32} {Q : State → Prop} {uc um : Nat → Nat} {g h : St} {kc ks i : Nat} (LL : LC X A Z b SL xs) (h1 : kc ≤ 600000) (h2 : ks ≤ 7302250) (hi : i + 6 ≤ SL) (R : Rel g h) (kk : ∀ g' h', Rel g' h' → WN X 4 Z A Q (sw yC (zU Z uc) g' ++ sw yM (zU Z um) h') kc ks 1359 [(0, .ref b), (1, .ref (uc 0)), (2, .ref (um 0)), (3, .int (nI i))] []) : WN X 4 Z A Q (sw yC (zU Z uc) g ++ sw yM (zU Z um) h) kc ks 1313 [(0, .ref b), (1, .ref (uc 0)), (2, .ref (um 0)), (3, .int (nI i))] [] := by
  obtain ⟨C, S, hL⟩ := LL
  have q := q_count R (xs (i + 1))
  refine n_aload_n C d_law_1313 1 rfl rfl ?_
  refine n_arg C S hL 1 (by decide) (by omega) rfl rfl d_law_1314 d_law_1315 d_law_1316 d_law_1317 d_law_1318 ?_
  refine l_callI C h1 h2 (u := uc) (As := [.int (xs (i + 1))]) (c_TP_count (zU Z uc) (xs (i + 1)) g R.1.ok ) mi_TP_count k_759 (by decide) (e_TP _ _) rfl ⟨Nat.le_of_ble_eq_true rfl, Nat.le_of_ble_eq_true rfl⟩ rfl rfl (Nat.le_of_ble_eq_true rfl) d_law_1319 (fun g1 hg1 => ?_)
  refine n_aload_n C d_law_1322 2 rfl rfl ?_
  refine n_arg C S hL 1 (by decide) (by omega) rfl rfl d_law_1323 d_law_1324 d_law_1325 d_law_1326 d_law_1327 ?_
  refine l_callI C h1 h2 (u := um) (As := [.int (xs (i + 1))]) (c_Mo_count (zU Z um) (xs (i + 1)) h R.1.1.1 ) mi_Mo_count k_1254 (by decide) (m_0 _ _) rfl ⟨Nat.le_of_ble_eq_true rfl, Nat.le_of_ble_eq_true rfl⟩ rfl rfl (Nat.le_of_ble_eq_true rfl) d_law_1328 (fun h1 hh1 => ?_)
  exact n_icmp_eq C d_law_1331 1359 (by decide) (fun _ => kk _ _ (q.2 _ _ hg1 hh1)) (fun z => absurd q.1 z)
set_option maxRecDepth 100000 in
theorem lc_39 {X : XT} {A : Nat → Prop} {Z : ZT} {b SL : Nat} {xs : Nat → Int32} {Q : State → Prop} {uc um : Nat → Nat} {g h : St} {kc ks i : Nat} (LL : LC X A Z b SL xs) (h1 : kc ≤ 600000) (h2 : ks ≤ 7302250) (hi : i + 6 ≤ SL) (R : Rel g h) (kk : ∀ g' h', Rel g' h' → WN X 4 Z A Q (sw yC (zU Z uc) g' ++ sw yM (zU Z um) h') kc ks 1359 [(0, .ref b), (1, .ref (uc 0)), (2, .ref (um 0)), (3, .int (nI i))] []) : WN X 4 Z A Q (sw yC (zU Z uc) g ++ sw yM (zU Z um) h) kc ks 1336 [(0, .ref b), (1, .ref (uc 0)), (2, .ref (um 0)), (3, .int (nI i))] [] := by
  obtain ⟨C, S, hL⟩ := LL
  have q := q_status R (xs (i + 1))
  refine n_aload_n C d_law_1336 1 rfl rfl ?_
  refine n_arg C S hL 1 (by decide) (by omega) rfl rfl d_law_1337 d_law_1338 d_law_1339 d_law_1340 d_law_1341 ?_
  refine l_callI C h1 h2 (u := uc) (As := [.int (xs (i + 1))]) (c_TP_status (zU Z uc) (xs (i + 1)) g R.1.ok ) mi_TP_status k_768 (by decide) (e_TP _ _) rfl ⟨Nat.le_of_ble_eq_true rfl, Nat.le_of_ble_eq_true rfl⟩ rfl rfl (Nat.le_of_ble_eq_true rfl) d_law_1342 (fun g1 hg1 => ?_)
  refine n_aload_n C d_law_1345 2 rfl rfl ?_
  refine n_arg C S hL 1 (by decide) (by omega) rfl rfl d_law_1346 d_law_1347 d_law_1348 d_law_1349 d_law_1350 ?_
  refine l_callI C h1 h2 (u := um) (As := [.int (xs (i + 1))]) (c_Mo_status (zU Z um) (xs (i + 1)) h R.1.1.1 ) mi_Mo_status k_1258 (by decide) (m_0 _ _) rfl ⟨Nat.le_of_ble_eq_true rfl, Nat.le_of_ble_eq_true rfl⟩ rfl rfl (Nat.le_of_ble_eq_true rfl) d_law_1351 (fun h1 hh1 => ?_)
  exact n_icmp_eq C d_law_1354 1359 (by decide) (fun _ => kk _ _ (q.2 _ _ hg1 hh1)) (fun z => absurd q.1 z)
