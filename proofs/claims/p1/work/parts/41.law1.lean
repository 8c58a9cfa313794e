set_option maxRecDepth 100000 in
set_option maxHeartbeats 4000000 in
theorem law_make_1b0 {p : Program} {e : Env} {s : State} {m : MethodId} {below : List Frame} {meth : Method} {c : Code} {l : Launch} (hfl : l.stackTraces = false) {b : Nat} {xs : Nat → Int32} {D : va_G} {cy : Nat → ClassId} {eda ca : Nat} {ia : Nat → Nat} (C0 : LawAt p s m meth c b xs D cy eda ca ia) {am : Nat → Nat} {ad : Nat → Nat} {rw_ : Nat → Nat → Option Nat} {w : va_W} (F : FrC cy ad rw_ w) {oa od : Nat} (hE : LawEnd p l e s m below meth c b (ad 0) (am 0) oa od) (h : ¬ (((c16 (xs 1)) = 108 ∨ (c16 (xs 1)) = 102 ∨ (c16 (xs 1)) = 104) ∧ (¬ (xs 2) < 0 ∧ ¬ 4 < (xs 2)) ∧ (¬ (xs 3) < 1 ∧ ¬ 5 < (xs 3)) ∧ (¬ (xs 5) < 0 ∧ ¬ 99 < (xs 5)) ∧ ¬ ((c16 (xs 1)) = 108 ∧ 0 < (xs 2)))) (ho : xs 4 = 0) : LGoal p l e s m below meth c b D cy am eda w (ad 0) oa od 272 := by
  obtain ⟨hx, hb, hml, hown, hts, hX, hbl, hK, hN, hT, hJS⟩ := id C0
  have hA : ∀ q : Nat, s.heap.size ≤ q → (fun q => s.heap.size ≤ q) q := fun _ h => h
  have hbA : ¬ (fun q => s.heap.size ≤ q) b := Nat.not_le.mpr hbl
  intro H locs ls hP hD hS hl
  refine lv_aload_n hx hb dL_law_272 rfl (lv_at hl 4 rfl) ?_
  refine lv_aload_n hx hb dL_law_273 rfl (lv_at hl 5 rfl) ?_
  refine lv_iload hx hb dL_law_274 (lv_at hl 0 rfl) ?_
  refine lv_iconst (v := 1) hx hb dL_law_276 (by decide) ?_
  refine lv_iadd hx hb dL_law_277 ?_
  refine lv_topi (fun y ey => ?_)
  obtain rfl : y = 1 := ey.trans (by decide)
  refine va_sld hx hb hX hbl hbA hS (by unfold vp_in; decide) dL_law_278 ?_
  refine lv_topi (fun y ey => ?_)
  obtain rfl : y = xs 1 := ey.trans (congrArg xs (by decide))
  refine lv_i2c (v := c16 (xs 1)) hx hb dL_law_279 rfl ?_
  refine lv_aload_n hx hb dL_law_280 rfl (lv_at hl 5 rfl) ?_
  refine lv_iload hx hb dL_law_281 (lv_at hl 0 rfl) ?_
  refine lv_iconst (v := 2) hx hb dL_law_283 (by decide) ?_
  refine lv_iadd hx hb dL_law_284 ?_
  refine lv_topi (fun y ey => ?_)
  obtain rfl : y = 2 := ey.trans (by decide)
  refine va_sld hx hb hX hbl hbA hS (by unfold vp_in; decide) dL_law_285 ?_
  refine lv_topi (fun y ey => ?_)
  obtain rfl : y = xs 2 := ey.trans (congrArg xs (by decide))
  refine lv_aload_n hx hb dL_law_286 rfl (lv_at hl 5 rfl) ?_
  refine lv_iload hx hb dL_law_287 (lv_at hl 0 rfl) ?_
  refine lv_iconst (v := 3) hx hb dL_law_289 (by decide) ?_
  refine lv_iadd hx hb dL_law_290 ?_
  refine lv_topi (fun y ey => ?_)
  obtain rfl : y = 3 := ey.trans (by decide)
  refine va_sld hx hb hX hbl hbA hS (by unfold vp_in; decide) dL_law_291 ?_
  refine lv_topi (fun y ey => ?_)
  obtain rfl : y = xs 3 := ey.trans (congrArg xs (by decide))
  refine lv_aload_n hx hb dL_law_292 rfl (lv_at hl 5 rfl) ?_
  refine lv_iload hx hb dL_law_293 (lv_at hl 0 rfl) ?_
  refine lv_iconst (v := 4) hx hb dL_law_295 (by decide) ?_
  refine lv_iadd hx hb dL_law_296 ?_
  refine lv_topi (fun y ey => ?_)
  obtain rfl : y = 4 := ey.trans (by decide)
  refine va_sld hx hb hX hbl hbA hS (by unfold vp_in; decide) dL_law_297 ?_
  refine lv_topi (fun y ey => ?_)
  obtain rfl : y = 0 := ey.trans ((congrArg xs (by decide)).trans ho)
  refine lv_if_eq (tgt := 305) hx hb dL_law_298 (by decide) (fun _ => ?_) (fun c => absurd (by decide) c)
  refine lv_iconst (v := 0) hx hb dL_law_305 (by decide) ?_
  refine lv_aload_n hx hb dL_law_306 rfl (lv_at hl 5 rfl) ?_
  refine lv_iload hx hb dL_law_307 (lv_at hl 0 rfl) ?_
  refine lv_iconst (v := 5) hx hb dL_law_309 (by decide) ?_
  refine lv_iadd hx hb dL_law_310 ?_
  refine lv_topi (fun y ey => ?_)
  obtain rfl : y = 5 := ey.trans (by decide)
  refine va_sld hx hb hX hbl hbA hS (by unfold vp_in; decide) dL_law_311 ?_
  refine lv_topi (fun y ey => ?_)
  obtain rfl : y = xs 5 := ey.trans (congrArg xs (by decide))
  refine lv_aload_n hx hb dL_law_312 rfl (lv_at hl 2 rfl) ?_
  refine mw_callS (wr := WM cy am eda 0) (wc := OCL cy oa :: w) (As := [.ref (ad 0), .int (c16 (xs 1)), .int (xs 2), .int (xs 3), .int 0, .int (xs 5), .ref oa]) (rest := []) ⟨hx, hb, hml, hown, hts⟩ (w_make_1 l D cy F hfl oa (fun _ => 0) _ (c16 (xs 1)) (xs 2) (xs 3) 0 (xs 5) h) (vx_cwSW 7 hts (goodLW gL_law_L_make) rfl rfl rfl (by decide +kernel) ⟨by decide, by decide⟩) hK hN hT (fun q hq => hS.2.1 q hq (Nat.not_le.mpr hq)) hP hD hS hA rfl hl.1 rfl (Nat.le_of_ble_eq_true rfl) dL_law_313 ⟨Nat.le_of_ble_eq_true rfl, Nat.le_of_ble_eq_true rfl⟩ (fun H locs hB hJ hS => ?_)
  obtain ⟨hP, hD⟩ := hJ [] (fun k q h => by simp at h) ⟨fun i j p q h => by simp at h, fun k q h => by simp at h⟩
  have hP : va_P D vwCl (WM cy am eda 0) H := hP
  have hD : va_D (fun q => s.heap.size ≤ q) (WM cy am eda 0) := hD
  refine lv_istore (lv' := [(6, .int 1), (5, .int 0), (4, .ref od), (3, .ref oa), (2, .ref (am 0)), (1, .ref (ad 0)), (0, .ref b)]) hx hb dL_law_316 hl (by decide) rfl (fun ls hl => ?_)
  refine lv_aload_n hx hb dL_law_318 rfl (lv_at hl 4 rfl) ?_
  refine lv_aload_n hx hb dL_law_319 rfl (lv_at hl 6 rfl) ?_
  refine lv_iload hx hb dL_law_320 (lv_at hl 1 rfl) ?_
  refine lv_iconst (v := 1) hx hb dL_law_322 (by decide) ?_
  refine lv_iadd hx hb dL_law_323 ?_
  refine lv_topi (fun y ey => ?_)
  obtain rfl : y = 1 := ey.trans (by decide)
  refine va_sld hx hb hX hbl hbA hS (by unfold vp_in; decide) dL_law_324 ?_
  refine lv_topi (fun y ey => ?_)
  obtain rfl : y = xs 1 := ey.trans (congrArg xs (by decide))
  refine lv_i2c (v := c16 (xs 1)) hx hb dL_law_325 rfl ?_
  refine lv_aload_n hx hb dL_law_326 rfl (lv_at hl 6 rfl) ?_
  refine lv_iload hx hb dL_law_327 (lv_at hl 1 rfl) ?_
  refine lv_iconst (v := 2) hx hb dL_law_329 (by decide) ?_
  refine lv_iadd hx hb dL_law_330 ?_
  refine lv_topi (fun y ey => ?_)
  obtain rfl : y = 2 := ey.trans (by decide)
  refine va_sld hx hb hX hbl hbA hS (by unfold vp_in; decide) dL_law_331 ?_
  refine lv_topi (fun y ey => ?_)
  obtain rfl : y = xs 2 := ey.trans (congrArg xs (by decide))
  refine lv_aload_n hx hb dL_law_332 rfl (lv_at hl 6 rfl) ?_
  refine lv_iload hx hb dL_law_333 (lv_at hl 1 rfl) ?_
  refine lv_iconst (v := 3) hx hb dL_law_335 (by decide) ?_
  refine lv_iadd hx hb dL_law_336 ?_
  refine lv_topi (fun y ey => ?_)
  obtain rfl : y = 3 := ey.trans (by decide)
  refine va_sld hx hb hX hbl hbA hS (by unfold vp_in; decide) dL_law_337 ?_
  refine lv_topi (fun y ey => ?_)
  obtain rfl : y = xs 3 := ey.trans (congrArg xs (by decide))
  refine lv_aload_n hx hb dL_law_338 rfl (lv_at hl 6 rfl) ?_
  refine lv_iload hx hb dL_law_339 (lv_at hl 1 rfl) ?_
  refine lv_iconst (v := 4) hx hb dL_law_341 (by decide) ?_
  refine lv_iadd hx hb dL_law_342 ?_
  refine lv_topi (fun y ey => ?_)
  obtain rfl : y = 4 := ey.trans (by decide)
  refine va_sld hx hb hX hbl hbA hS (by unfold vp_in; decide) dL_law_343 ?_
  refine lv_topi (fun y ey => ?_)
  obtain rfl : y = 0 := ey.trans ((congrArg xs (by decide)).trans ho)
  refine lv_if_eq (tgt := 351) hx hb dL_law_344 (by decide) (fun _ => ?_) (fun c => absurd (by decide) c)
  refine lv_iconst (v := 0) hx hb dL_law_351 (by decide) ?_
  refine lv_aload_n hx hb dL_law_352 rfl (lv_at hl 6 rfl) ?_
  refine lv_iload hx hb dL_law_353 (lv_at hl 1 rfl) ?_
  refine lv_iconst (v := 5) hx hb dL_law_355 (by decide) ?_
  refine lv_iadd hx hb dL_law_356 ?_
  refine lv_topi (fun y ey => ?_)
  obtain rfl : y = 5 := ey.trans (by decide)
  refine va_sld hx hb hX hbl hbA hS (by unfold vp_in; decide) dL_law_357 ?_
  refine lv_topi (fun y ey => ?_)
  obtain rfl : y = xs 5 := ey.trans (congrArg xs (by decide))
  refine mj_callV (wr := []) (wc := WM cy am eda 0) (As := [.int (c16 (xs 1)), .int (xs 2), .int (xs 3), .int 0, .int (xs 5)]) (rest := []) ⟨hx, hb, hml, hown, hts⟩ (a_make_1 l D cy _ (c16 (xs 1)) (xs 2) (xs 3) 0 (xs 5) h) (cwV 5 hts (goodL gL_law_X14_make) rfl rfl rfl (by decide +kernel) ⟨by decide, by decide⟩) hK hN hP hD hS hA hJS (ci := 19) (q0 := 0) rfl rfl rfl rfl hl.1 rfl (Nat.le_of_ble_eq_true rfl) dL_law_358 ⟨Nat.le_of_ble_eq_true rfl, Nat.le_of_ble_eq_true rfl⟩ (fun H locs hB hJ hS => ?_)
  obtain ⟨hP1, hD1⟩ := hB
  obtain ⟨hP, hD⟩ := hJ _ hP1 hD1
  have hP : va_P D vwCl [(am 0, .inr (19, [.int 1, .ref (am 1), .ref (am 4), .ref (am 5), .ref (am 6), .ref (am 7), .ref (am 8), .int 0, .ref (am 9), .int 0, .int (-1), .int 100, .ref (am 10), .long 0, .int 0, .int 0, .int 0, .int 0, .long 0]))] H := hP
  have hD : va_D (fun q => s.heap.size ≤ q) [(am 0, .inr (19, [.int 1, .ref (am 1), .ref (am 4), .ref (am 5), .ref (am 6), .ref (am 7), .ref (am 8), .int 0, .ref (am 9), .int 0, .int (-1), .int 100, .ref (am 10), .long 0, .int 0, .int 0, .int 0, .int 0, .long 0]))] := hD
  refine lv_istore (lv' := [(7, .int 0), (6, .int 1), (5, .int 0), (4, .ref od), (3, .ref oa), (2, .ref (am 0)), (1, .ref (ad 0)), (0, .ref b)]) hx hb dL_law_361 hl (by decide) rfl (fun ls hl => ?_)
  refine lv_aload_n hx hb dL_law_363 rfl (lv_at hl 5 rfl) ?_
  refine ro_callV (As := []) (rest := []) ⟨hx, hb, hml, hown, hts⟩ (c_thrown l D cy _ 0 (am 0) 1 [.ref (am 1), .ref (am 4), .ref (am 5), .ref (am 6), .ref (am 7), .ref (am 8), .int 0, .ref (am 9), .int 0, .int (-1), .int 100, .ref (am 10), .long 0, .int 0, .int 0, .int 0, .int 0, .long 0] rfl) (cwV 0 hts (goodL gL_law_X14_thrown) rfl rfl rfl (by decide +kernel) ⟨by decide, by decide⟩) hK hN hP hS (ci := 19) (q0 := 0) rfl rfl rfl rfl hl.1 rfl (Nat.le_of_ble_eq_true rfl) dL_law_364 ⟨Nat.le_of_ble_eq_true rfl, Nat.le_of_ble_eq_true rfl⟩ (fun H locs hP hS => ?_)
  refine lv_iload hx hb dL_law_367 (lv_at hl 1 rfl) ?_
  refine lv_icmp_eq (tgt := 374) hx hb dL_law_369 (by decide) (fun _ => ?_) (fun c => absurd (by decide) c)
  refine lv_iload hx hb dL_law_374 (lv_at hl 1 rfl) ?_
  refine lv_if_ne (tgt := 391) hx hb dL_law_376 (by decide) (fun _ => ?_) (fun c => absurd c (by decide))
  refine lv_goto (tgt := 3117) hx hb dL_law_391 (by decide) ?_
  refine W.widen (k := 1000) (n := 10000) (Nat.le_of_ble_eq_true rfl) (Nat.le_of_ble_eq_true rfl) ?_
  exact hE _ _ _ hS (lv_sub hl [2, 3, 4, 5, 6, 7] rfl)

set_option maxRecDepth 100000 in
set_option maxHeartbeats 4000000 in
theorem law_make_0b0 {p : Program} {e : Env} {s : State} {m : MethodId} {below : List Frame} {meth : Method} {c : Code} {l : Launch} (hfl : l.stackTraces = false) {b : Nat} {xs : Nat → Int32} {D : va_G} {cy : Nat → ClassId} {eda ca : Nat} {ia : Nat → Nat} (C0 : LawAt p s m meth c b xs D cy eda ca ia) {am : Nat → Nat} {ad : Nat → Nat} {rw_ : Nat → Nat → Option Nat} {w : va_W} (F : FrC cy ad rw_ w) {oa od : Nat} (hE : LawEnd p l e s m below meth c b (ad 0) (am 0) oa od) (h1 : ((c16 (xs 1)) = 108 ∨ (c16 (xs 1)) = 102 ∨ (c16 (xs 1)) = 104)) (h2 : ¬ (xs 2) < 0 ∧ ¬ 4 < (xs 2)) (h3 : ¬ (xs 3) < 1 ∧ ¬ 5 < (xs 3)) (h4 : ¬ (xs 5) < 0 ∧ ¬ 99 < (xs 5)) (h5 : ¬ ((c16 (xs 1)) = 108 ∧ 0 < (xs 2))) (ho : xs 4 = 0) : LGoal p l e s m below meth c b D cy am eda w (ad 0) oa od 272 := by
  obtain ⟨hx, hb, hml, hown, hts, hX, hbl, hK, hN, hT, hJS⟩ := id C0
  have hA : ∀ q : Nat, s.heap.size ≤ q → (fun q => s.heap.size ≤ q) q := fun _ h => h
  have hbA : ¬ (fun q => s.heap.size ≤ q) b := Nat.not_le.mpr hbl
  intro H locs ls hP hD hS hl
  refine lv_aload_n hx hb dL_law_272 rfl (lv_at hl 4 rfl) ?_
  refine lv_aload_n hx hb dL_law_273 rfl (lv_at hl 5 rfl) ?_
  refine lv_iload hx hb dL_law_274 (lv_at hl 0 rfl) ?_
  refine lv_iconst (v := 1) hx hb dL_law_276 (by decide) ?_
  refine lv_iadd hx hb dL_law_277 ?_
  refine lv_topi (fun y ey => ?_)
  obtain rfl : y = 1 := ey.trans (by decide)
  refine va_sld hx hb hX hbl hbA hS (by unfold vp_in; decide) dL_law_278 ?_
  refine lv_topi (fun y ey => ?_)
  obtain rfl : y = xs 1 := ey.trans (congrArg xs (by decide))
  refine lv_i2c (v := c16 (xs 1)) hx hb dL_law_279 rfl ?_
  refine lv_aload_n hx hb dL_law_280 rfl (lv_at hl 5 rfl) ?_
  refine lv_iload hx hb dL_law_281 (lv_at hl 0 rfl) ?_
  refine lv_iconst (v := 2) hx hb dL_law_283 (by decide) ?_
  refine lv_iadd hx hb dL_law_284 ?_
  refine lv_topi (fun y ey => ?_)
  obtain rfl : y = 2 := ey.trans (by decide)
  refine va_sld hx hb hX hbl hbA hS (by unfold vp_in; decide) dL_law_285 ?_
  refine lv_topi (fun y ey => ?_)
  obtain rfl : y = xs 2 := ey.trans (congrArg xs (by decide))
  refine lv_aload_n hx hb dL_law_286 rfl (lv_at hl 5 rfl) ?_
  refine lv_iload hx hb dL_law_287 (lv_at hl 0 rfl) ?_
  refine lv_iconst (v := 3) hx hb dL_law_289 (by decide) ?_
  refine lv_iadd hx hb dL_law_290 ?_
  refine lv_topi (fun y ey => ?_)
  obtain rfl : y = 3 := ey.trans (by decide)
  refine va_sld hx hb hX hbl hbA hS (by unfold vp_in; decide) dL_law_291 ?_
  refine lv_topi (fun y ey => ?_)
  obtain rfl : y = xs 3 := ey.trans (congrArg xs (by decide))
  refine lv_aload_n hx hb dL_law_292 rfl (lv_at hl 5 rfl) ?_
  refine lv_iload hx hb dL_law_293 (lv_at hl 0 rfl) ?_
  refine lv_iconst (v := 4) hx hb dL_law_295 (by decide) ?_
  refine lv_iadd hx hb dL_law_296 ?_
  refine lv_topi (fun y ey => ?_)
  obtain rfl : y = 4 := ey.trans (by decide)
  refine va_sld hx hb hX hbl hbA hS (by unfold vp_in; decide) dL_law_297 ?_
  refine lv_topi (fun y ey => ?_)
  obtain rfl : y = 0 := ey.trans ((congrArg xs (by decide)).trans ho)
  refine lv_if_eq (tgt := 305) hx hb dL_law_298 (by decide) (fun _ => ?_) (fun c => absurd (by decide) c)
  refine lv_iconst (v := 0) hx hb dL_law_305 (by decide) ?_
  refine lv_aload_n hx hb dL_law_306 rfl (lv_at hl 5 rfl) ?_
  refine lv_iload hx hb dL_law_307 (lv_at hl 0 rfl) ?_
  refine lv_iconst (v := 5) hx hb dL_law_309 (by decide) ?_
  refine lv_iadd hx hb dL_law_310 ?_
  refine lv_topi (fun y ey => ?_)
  obtain rfl : y = 5 := ey.trans (by decide)
  refine va_sld hx hb hX hbl hbA hS (by unfold vp_in; decide) dL_law_311 ?_
  refine lv_topi (fun y ey => ?_)
  obtain rfl : y = xs 5 := ey.trans (congrArg xs (by decide))
  refine lv_aload_n hx hb dL_law_312 rfl (lv_at hl 2 rfl) ?_
  refine mw_callS (wr := WM cy am eda 0) (wc := OCL cy oa :: w) (As := [.ref (ad 0), .int (c16 (xs 1)), .int (xs 2), .int (xs 3), .int 0, .int (xs 5), .ref oa]) (rest := []) ⟨hx, hb, hml, hown, hts⟩ (w_make_0 l D cy F oa (fun _ => 0) _ (c16 (xs 1)) (xs 2) (xs 3) 0 (xs 5) h1 h2 h3 h4 h5 (c16_n _) (c16_f _) (by decide) (by decide)) (vx_cwSW 7 hts (goodLW gL_law_L_make) rfl rfl rfl (by decide +kernel) ⟨by decide, by decide⟩) hK hN hT (fun q hq => hS.2.1 q hq (Nat.not_le.mpr hq)) hP hD hS hA rfl hl.1 rfl (Nat.le_of_ble_eq_true rfl) dL_law_313 ⟨Nat.le_of_ble_eq_true rfl, Nat.le_of_ble_eq_true rfl⟩ (fun H locs hB hJ hS => ?_)
  obtain ⟨hP, hD⟩ := hJ [(oa, .inl (cy 2, 1, .inr (.inl (vp_updL (fun _ => 0) 0 ((nI 1).toInt64)))))] hB (my_d1 (my_in1 (ko := 0) rfl))
  have hP := hP.sub (ws' := [(oa, .inl (cy 2, 1, .inr (.inl (vp_updL (fun _ => 0) 0 ((nI 1).toInt64)))))] ++ WM cy am eda 0) [14, 0, 1, 2, 3, 4, 5, 6, 7, 8, 9, 10, 11, 12, 13] rfl
  have hD := hD.sub (ws' := [(oa, .inl (cy 2, 1, .inr (.inl (vp_updL (fun _ => 0) 0 ((nI 1).toInt64)))))] ++ WM cy am eda 0) [14, 0, 1, 2, 3, 4, 5, 6, 7, 8, 9, 10, 11, 12, 13] (by decide) rfl
  refine lv_istore (lv' := [(6, .int 0), (5, .int 0), (4, .ref od), (3, .ref oa), (2, .ref (am 0)), (1, .ref (ad 0)), (0, .ref b)]) hx hb dL_law_316 hl (by decide) rfl (fun ls hl => ?_)
  refine lv_aload_n hx hb dL_law_318 rfl (lv_at hl 4 rfl) ?_
  refine lv_aload_n hx hb dL_law_319 rfl (lv_at hl 6 rfl) ?_
  refine lv_iload hx hb dL_law_320 (lv_at hl 1 rfl) ?_
  refine lv_iconst (v := 1) hx hb dL_law_322 (by decide) ?_
  refine lv_iadd hx hb dL_law_323 ?_
  refine lv_topi (fun y ey => ?_)
  obtain rfl : y = 1 := ey.trans (by decide)
  refine va_sld hx hb hX hbl hbA hS (by unfold vp_in; decide) dL_law_324 ?_
  refine lv_topi (fun y ey => ?_)
  obtain rfl : y = xs 1 := ey.trans (congrArg xs (by decide))
  refine lv_i2c (v := c16 (xs 1)) hx hb dL_law_325 rfl ?_
  refine lv_aload_n hx hb dL_law_326 rfl (lv_at hl 6 rfl) ?_
  refine lv_iload hx hb dL_law_327 (lv_at hl 1 rfl) ?_
  refine lv_iconst (v := 2) hx hb dL_law_329 (by decide) ?_
  refine lv_iadd hx hb dL_law_330 ?_
  refine lv_topi (fun y ey => ?_)
  obtain rfl : y = 2 := ey.trans (by decide)
  refine va_sld hx hb hX hbl hbA hS (by unfold vp_in; decide) dL_law_331 ?_
  refine lv_topi (fun y ey => ?_)
  obtain rfl : y = xs 2 := ey.trans (congrArg xs (by decide))
  refine lv_aload_n hx hb dL_law_332 rfl (lv_at hl 6 rfl) ?_
  refine lv_iload hx hb dL_law_333 (lv_at hl 1 rfl) ?_
  refine lv_iconst (v := 3) hx hb dL_law_335 (by decide) ?_
  refine lv_iadd hx hb dL_law_336 ?_
  refine lv_topi (fun y ey => ?_)
  obtain rfl : y = 3 := ey.trans (by decide)
  refine va_sld hx hb hX hbl hbA hS (by unfold vp_in; decide) dL_law_337 ?_
  refine lv_topi (fun y ey => ?_)
  obtain rfl : y = xs 3 := ey.trans (congrArg xs (by decide))
  refine lv_aload_n hx hb dL_law_338 rfl (lv_at hl 6 rfl) ?_
  refine lv_iload hx hb dL_law_339 (lv_at hl 1 rfl) ?_
  refine lv_iconst (v := 4) hx hb dL_law_341 (by decide) ?_
  refine lv_iadd hx hb dL_law_342 ?_
  refine lv_topi (fun y ey => ?_)
  obtain rfl : y = 4 := ey.trans (by decide)
  refine va_sld hx hb hX hbl hbA hS (by unfold vp_in; decide) dL_law_343 ?_
  refine lv_topi (fun y ey => ?_)
  obtain rfl : y = 0 := ey.trans ((congrArg xs (by decide)).trans ho)
  refine lv_if_eq (tgt := 351) hx hb dL_law_344 (by decide) (fun _ => ?_) (fun c => absurd (by decide) c)
  refine lv_iconst (v := 0) hx hb dL_law_351 (by decide) ?_
  refine lv_aload_n hx hb dL_law_352 rfl (lv_at hl 6 rfl) ?_
  refine lv_iload hx hb dL_law_353 (lv_at hl 1 rfl) ?_
  refine lv_iconst (v := 5) hx hb dL_law_355 (by decide) ?_
  refine lv_iadd hx hb dL_law_356 ?_
  refine lv_topi (fun y ey => ?_)
  obtain rfl : y = 5 := ey.trans (by decide)
  refine va_sld hx hb hX hbl hbA hS (by unfold vp_in; decide) dL_law_357 ?_
  refine lv_topi (fun y ey => ?_)
  obtain rfl : y = xs 5 := ey.trans (congrArg xs (by decide))
  refine mj_callV (wr := [(oa, .inl (cy 2, 1, .inr (.inl (vp_updL (fun _ => 0) 0 ((nI 1).toInt64)))))]) (wc := WM cy am eda 0) (As := [.int (c16 (xs 1)), .int (xs 2), .int (xs 3), .int 0, .int (xs 5)]) (rest := []) ⟨hx, hb, hml, hown, hts⟩ (a_make_0 l D cy _ (c16 (xs 1)) (xs 2) (xs 3) 0 (xs 5) h1 h2 h3 h4 h5 (c16_n _) (c16_f _) (by decide) (by decide)) (cwV 5 hts (goodL gL_law_X14_make) rfl rfl rfl (by decide +kernel) ⟨by decide, by decide⟩) hK hN hP hD hS hA hJS (ci := 19) (q0 := 0) rfl rfl rfl rfl hl.1 rfl (Nat.le_of_ble_eq_true rfl) dL_law_358 ⟨Nat.le_of_ble_eq_true rfl, Nat.le_of_ble_eq_true rfl⟩ (fun H locs hB hJ hS => ?_)
  obtain ⟨hP1, hD1⟩ := hB
  obtain ⟨hP, hD⟩ := hJ _ hP1 hD1
  have hP : va_P D vwCl [(oa, .inl (cy 2, 1, .inr (.inl (vp_updL (fun _ => 0) 0 ((nI 1).toInt64))))), (am 0, .inr (19, [.int 0, .ref (am 1), .ref (am 4), .ref (am 5), .ref (am 6), .ref (am 7), .ref (am 8), .int 0, .ref (am 9), .int 0, .int (-1), .int 100, .ref (am 10), .long 0, .int 0, .int 0, .int 0, .int 0, .long 0]))] H := hP
  have hD : va_D (fun q => s.heap.size ≤ q) [(oa, .inl (cy 2, 1, .inr (.inl (vp_updL (fun _ => 0) 0 ((nI 1).toInt64))))), (am 0, .inr (19, [.int 0, .ref (am 1), .ref (am 4), .ref (am 5), .ref (am 6), .ref (am 7), .ref (am 8), .int 0, .ref (am 9), .int 0, .int (-1), .int 100, .ref (am 10), .long 0, .int 0, .int 0, .int 0, .int 0, .long 0]))] := hD
  refine lv_istore (lv' := [(7, .int 1), (6, .int 0), (5, .int 0), (4, .ref od), (3, .ref oa), (2, .ref (am 0)), (1, .ref (ad 0)), (0, .ref b)]) hx hb dL_law_361 hl (by decide) rfl (fun ls hl => ?_)
  refine lv_aload_n hx hb dL_law_363 rfl (lv_at hl 5 rfl) ?_
  refine ro_callV (As := []) (rest := []) ⟨hx, hb, hml, hown, hts⟩ (c_thrown l D cy _ 1 (am 0) 0 [.ref (am 1), .ref (am 4), .ref (am 5), .ref (am 6), .ref (am 7), .ref (am 8), .int 0, .ref (am 9), .int 0, .int (-1), .int 100, .ref (am 10), .long 0, .int 0, .int 0, .int 0, .int 0, .long 0] rfl) (cwV 0 hts (goodL gL_law_X14_thrown) rfl rfl rfl (by decide +kernel) ⟨by decide, by decide⟩) hK hN hP hS (ci := 19) (q0 := 1) rfl rfl rfl rfl hl.1 rfl (Nat.le_of_ble_eq_true rfl) dL_law_364 ⟨Nat.le_of_ble_eq_true rfl, Nat.le_of_ble_eq_true rfl⟩ (fun H locs hP hS => ?_)
  refine lv_iload hx hb dL_law_367 (lv_at hl 1 rfl) ?_
  refine lv_icmp_eq (tgt := 374) hx hb dL_law_369 (by decide) (fun _ => ?_) (fun c => absurd (by decide) c)
  refine lv_iload hx hb dL_law_374 (lv_at hl 1 rfl) ?_
  refine lv_if_ne (tgt := 391) hx hb dL_law_376 (by decide) (fun c => absurd (by decide) c) (fun _ => ?_)
  refine lv_aload_n hx hb dL_law_379 rfl (lv_at hl 4 rfl) ?_
  refine lv_iconst (v := 0) hx hb dL_law_380 (by decide) ?_
  refine va_lald hx hb hK hP 0 2 rfl rfl (by unfold vp_in; decide) dL_law_381 ?_
  refine lv_topl (fun y ey => ?_)
  obtain rfl : y = (nI 1).toInt64 := ey.trans (my_rd0 _ _)
  refine lv_iload hx hb dL_law_382 (lv_at hl 0 rfl) ?_
  refine lv_i2l (v := 1) hx hb dL_law_384 (by decide) ?_
  refine W.lcmp hx hb dL_law_385 ?_
  refine lv_topi (fun y ey => ?_)
  obtain rfl : y = 0 := ey.trans (by decide)
  refine lv_if_eq (tgt := 391) hx hb dL_law_386 (by decide) (fun _ => ?_) (fun c => absurd (by decide) c)
  refine lv_goto (tgt := 3117) hx hb dL_law_391 (by decide) ?_
  refine W.widen (k := 1000) (n := 10000) (Nat.le_of_ble_eq_true rfl) (Nat.le_of_ble_eq_true rfl) ?_
  exact hE _ _ _ hS (lv_sub hl [2, 3, 4, 5, 6, 7] rfl)

set_option maxRecDepth 100000 in
set_option maxHeartbeats 4000000 in
theorem law_make_1b1 {p : Program} {e : Env} {s : State} {m : MethodId} {below : List Frame} {meth : Method} {c : Code} {l : Launch} (hfl : l.stackTraces = false) {b : Nat} {xs : Nat → Int32} {D : va_G} {cy : Nat → ClassId} {eda ca : Nat} {ia : Nat → Nat} (C0 : LawAt p s m meth c b xs D cy eda ca ia) {am : Nat → Nat} {ad : Nat → Nat} {rw_ : Nat → Nat → Option Nat} {w : va_W} (F : FrC cy ad rw_ w) {oa od : Nat} (hE : LawEnd p l e s m below meth c b (ad 0) (am 0) oa od) (h : ¬ (((c16 (xs 1)) = 108 ∨ (c16 (xs 1)) = 102 ∨ (c16 (xs 1)) = 104) ∧ (¬ (xs 2) < 0 ∧ ¬ 4 < (xs 2)) ∧ (¬ (xs 3) < 1 ∧ ¬ 5 < (xs 3)) ∧ (¬ (xs 5) < 0 ∧ ¬ 99 < (xs 5)) ∧ ¬ ((c16 (xs 1)) = 108 ∧ 0 < (xs 2)))) (ho : ¬ xs 4 = 0) : LGoal p l e s m below meth c b D cy am eda w (ad 0) oa od 272 := by
  obtain ⟨hx, hb, hml, hown, hts, hX, hbl, hK, hN, hT, hJS⟩ := id C0
  have hA : ∀ q : Nat, s.heap.size ≤ q → (fun q => s.heap.size ≤ q) q := fun _ h => h
  have hbA : ¬ (fun q => s.heap.size ≤ q) b := Nat.not_le.mpr hbl
  intro H locs ls hP hD hS hl
  refine lv_aload_n hx hb dL_law_272 rfl (lv_at hl 4 rfl) ?_
  refine lv_aload_n hx hb dL_law_273 rfl (lv_at hl 5 rfl) ?_
  refine lv_iload hx hb dL_law_274 (lv_at hl 0 rfl) ?_
  refine lv_iconst (v := 1) hx hb dL_law_276 (by decide) ?_
  refine lv_iadd hx hb dL_law_277 ?_
  refine lv_topi (fun y ey => ?_)
  obtain rfl : y = 1 := ey.trans (by decide)
  refine va_sld hx hb hX hbl hbA hS (by unfold vp_in; decide) dL_law_278 ?_
  refine lv_topi (fun y ey => ?_)
  obtain rfl : y = xs 1 := ey.trans (congrArg xs (by decide))
  refine lv_i2c (v := c16 (xs 1)) hx hb dL_law_279 rfl ?_
  refine lv_aload_n hx hb dL_law_280 rfl (lv_at hl 5 rfl) ?_
  refine lv_iload hx hb dL_law_281 (lv_at hl 0 rfl) ?_
  refine lv_iconst (v := 2) hx hb dL_law_283 (by decide) ?_
  refine lv_iadd hx hb dL_law_284 ?_
  refine lv_topi (fun y ey => ?_)
  obtain rfl : y = 2 := ey.trans (by decide)
  refine va_sld hx hb hX hbl hbA hS (by unfold vp_in; decide) dL_law_285 ?_
  refine lv_topi (fun y ey => ?_)
  obtain rfl : y = xs 2 := ey.trans (congrArg xs (by decide))
  refine lv_aload_n hx hb dL_law_286 rfl (lv_at hl 5 rfl) ?_
  refine lv_iload hx hb dL_law_287 (lv_at hl 0 rfl) ?_
  refine lv_iconst (v := 3) hx hb dL_law_289 (by decide) ?_
  refine lv_iadd hx hb dL_law_290 ?_
  refine lv_topi (fun y ey => ?_)
  obtain rfl : y = 3 := ey.trans (by decide)
  refine va_sld hx hb hX hbl hbA hS (by unfold vp_in; decide) dL_law_291 ?_
  refine lv_topi (fun y ey => ?_)
  obtain rfl : y = xs 3 := ey.trans (congrArg xs (by decide))
  refine lv_aload_n hx hb dL_law_292 rfl (lv_at hl 5 rfl) ?_
  refine lv_iload hx hb dL_law_293 (lv_at hl 0 rfl) ?_
  refine lv_iconst (v := 4) hx hb dL_law_295 (by decide) ?_
  refine lv_iadd hx hb dL_law_296 ?_
  refine lv_topi (fun y ey => ?_)
  obtain rfl : y = 4 := ey.trans (by decide)
  refine va_sld hx hb hX hbl hbA hS (by unfold vp_in; decide) dL_law_297 ?_
  refine lv_topi (fun y ey => ?_)
  obtain rfl : y = xs 4 := ey.trans (congrArg xs (by decide))
  refine lv_if_eq (tgt := 305) hx hb dL_law_298 (by decide) (fun c => absurd c ho) (fun _ => ?_)
  refine lv_iconst (v := 1) hx hb dL_law_301 (by decide) ?_
  refine lv_goto (tgt := 306) hx hb dL_law_302 (by decide) ?_
  refine lv_aload_n hx hb dL_law_306 rfl (lv_at hl 5 rfl) ?_
  refine lv_iload hx hb dL_law_307 (lv_at hl 0 rfl) ?_
  refine lv_iconst (v := 5) hx hb dL_law_309 (by decide) ?_
  refine lv_iadd hx hb dL_law_310 ?_
  refine lv_topi (fun y ey => ?_)
  obtain rfl : y = 5 := ey.trans (by decide)
  refine va_sld hx hb hX hbl hbA hS (by unfold vp_in; decide) dL_law_311 ?_
  refine lv_topi (fun y ey => ?_)
  obtain rfl : y = xs 5 := ey.trans (congrArg xs (by decide))
  refine lv_aload_n hx hb dL_law_312 rfl (lv_at hl 2 rfl) ?_
  refine mw_callS (wr := WM cy am eda 0) (wc := OCL cy oa :: w) (As := [.ref (ad 0), .int (c16 (xs 1)), .int (xs 2), .int (xs 3), .int 1, .int (xs 5), .ref oa]) (rest := []) ⟨hx, hb, hml, hown, hts⟩ (w_make_1 l D cy F hfl oa (fun _ => 0) _ (c16 (xs 1)) (xs 2) (xs 3) 1 (xs 5) h) (vx_cwSW 7 hts (goodLW gL_law_L_make) rfl rfl rfl (by decide +kernel) ⟨by decide, by decide⟩) hK hN hT (fun q hq => hS.2.1 q hq (Nat.not_le.mpr hq)) hP hD hS hA rfl hl.1 rfl (Nat.le_of_ble_eq_true rfl) dL_law_313 ⟨Nat.le_of_ble_eq_true rfl, Nat.le_of_ble_eq_true rfl⟩ (fun H locs hB hJ hS => ?_)
  obtain ⟨hP, hD⟩ := hJ [] (fun k q h => by simp at h) ⟨fun i j p q h => by simp at h, fun k q h => by simp at h⟩
  have hP : va_P D vwCl (WM cy am eda 0) H := hP
  have hD : va_D (fun q => s.heap.size ≤ q) (WM cy am eda 0) := hD
  refine lv_istore (lv' := [(6, .int 1), (5, .int 0), (4, .ref od), (3, .ref oa), (2, .ref (am 0)), (1, .ref (ad 0)), (0, .ref b)]) hx hb dL_law_316 hl (by decide) rfl (fun ls hl => ?_)
  refine lv_aload_n hx hb dL_law_318 rfl (lv_at hl 4 rfl) ?_
  refine lv_aload_n hx hb dL_law_319 rfl (lv_at hl 6 rfl) ?_
  refine lv_iload hx hb dL_law_320 (lv_at hl 1 rfl) ?_
  refine lv_iconst (v := 1) hx hb dL_law_322 (by decide) ?_
  refine lv_iadd hx hb dL_law_323 ?_
  refine lv_topi (fun y ey => ?_)
  obtain rfl : y = 1 := ey.trans (by decide)
  refine va_sld hx hb hX hbl hbA hS (by unfold vp_in; decide) dL_law_324 ?_
  refine lv_topi (fun y ey => ?_)
  obtain rfl : y = xs 1 := ey.trans (congrArg xs (by decide))
  refine lv_i2c (v := c16 (xs 1)) hx hb dL_law_325 rfl ?_
  refine lv_aload_n hx hb dL_law_326 rfl (lv_at hl 6 rfl) ?_
  refine lv_iload hx hb dL_law_327 (lv_at hl 1 rfl) ?_
  refine lv_iconst (v := 2) hx hb dL_law_329 (by decide) ?_
  refine lv_iadd hx hb dL_law_330 ?_
  refine lv_topi (fun y ey => ?_)
  obtain rfl : y = 2 := ey.trans (by decide)
  refine va_sld hx hb hX hbl hbA hS (by unfold vp_in; decide) dL_law_331 ?_
  refine lv_topi (fun y ey => ?_)
  obtain rfl : y = xs 2 := ey.trans (congrArg xs (by decide))
  refine lv_aload_n hx hb dL_law_332 rfl (lv_at hl 6 rfl) ?_
  refine lv_iload hx hb dL_law_333 (lv_at hl 1 rfl) ?_
  refine lv_iconst (v := 3) hx hb dL_law_335 (by decide) ?_
  refine lv_iadd hx hb dL_law_336 ?_
  refine lv_topi (fun y ey => ?_)
  obtain rfl : y = 3 := ey.trans (by decide)
  refine va_sld hx hb hX hbl hbA hS (by unfold vp_in; decide) dL_law_337 ?_
  refine lv_topi (fun y ey => ?_)
  obtain rfl : y = xs 3 := ey.trans (congrArg xs (by decide))
  refine lv_aload_n hx hb dL_law_338 rfl (lv_at hl 6 rfl) ?_
  refine lv_iload hx hb dL_law_339 (lv_at hl 1 rfl) ?_
  refine lv_iconst (v := 4) hx hb dL_law_341 (by decide) ?_
  refine lv_iadd hx hb dL_law_342 ?_
  refine lv_topi (fun y ey => ?_)
  obtain rfl : y = 4 := ey.trans (by decide)
  refine va_sld hx hb hX hbl hbA hS (by unfold vp_in; decide) dL_law_343 ?_
  refine lv_topi (fun y ey => ?_)
  obtain rfl : y = xs 4 := ey.trans (congrArg xs (by decide))
  refine lv_if_eq (tgt := 351) hx hb dL_law_344 (by decide) (fun c => absurd c ho) (fun _ => ?_)
  refine lv_iconst (v := 1) hx hb dL_law_347 (by decide) ?_
  refine lv_goto (tgt := 352) hx hb dL_law_348 (by decide) ?_
  refine lv_aload_n hx hb dL_law_352 rfl (lv_at hl 6 rfl) ?_
  refine lv_iload hx hb dL_law_353 (lv_at hl 1 rfl) ?_
  refine lv_iconst (v := 5) hx hb dL_law_355 (by decide) ?_
  refine lv_iadd hx hb dL_law_356 ?_
  refine lv_topi (fun y ey => ?_)
  obtain rfl : y = 5 := ey.trans (by decide)
  refine va_sld hx hb hX hbl hbA hS (by unfold vp_in; decide) dL_law_357 ?_
  refine lv_topi (fun y ey => ?_)
  obtain rfl : y = xs 5 := ey.trans (congrArg xs (by decide))
  refine mj_callV (wr := []) (wc := WM cy am eda 0) (As := [.int (c16 (xs 1)), .int (xs 2), .int (xs 3), .int 1, .int (xs 5)]) (rest := []) ⟨hx, hb, hml, hown, hts⟩ (a_make_1 l D cy _ (c16 (xs 1)) (xs 2) (xs 3) 1 (xs 5) h) (cwV 5 hts (goodL gL_law_X14_make) rfl rfl rfl (by decide +kernel) ⟨by decide, by decide⟩) hK hN hP hD hS hA hJS (ci := 19) (q0 := 0) rfl rfl rfl rfl hl.1 rfl (Nat.le_of_ble_eq_true rfl) dL_law_358 ⟨Nat.le_of_ble_eq_true rfl, Nat.le_of_ble_eq_true rfl⟩ (fun H locs hB hJ hS => ?_)
  obtain ⟨hP1, hD1⟩ := hB
  obtain ⟨hP, hD⟩ := hJ _ hP1 hD1
  have hP : va_P D vwCl [(am 0, .inr (19, [.int 1, .ref (am 1), .ref (am 4), .ref (am 5), .ref (am 6), .ref (am 7), .ref (am 8), .int 0, .ref (am 9), .int 0, .int (-1), .int 100, .ref (am 10), .long 0, .int 0, .int 0, .int 0, .int 0, .long 0]))] H := hP
  have hD : va_D (fun q => s.heap.size ≤ q) [(am 0, .inr (19, [.int 1, .ref (am 1), .ref (am 4), .ref (am 5), .ref (am 6), .ref (am 7), .ref (am 8), .int 0, .ref (am 9), .int 0, .int (-1), .int 100, .ref (am 10), .long 0, .int 0, .int 0, .int 0, .int 0, .long 0]))] := hD
  refine lv_istore (lv' := [(7, .int 0), (6, .int 1), (5, .int 0), (4, .ref od), (3, .ref oa), (2, .ref (am 0)), (1, .ref (ad 0)), (0, .ref b)]) hx hb dL_law_361 hl (by decide) rfl (fun ls hl => ?_)
  refine lv_aload_n hx hb dL_law_363 rfl (lv_at hl 5 rfl) ?_
  refine ro_callV (As := []) (rest := []) ⟨hx, hb, hml, hown, hts⟩ (c_thrown l D cy _ 0 (am 0) 1 [.ref (am 1), .ref (am 4), .ref (am 5), .ref (am 6), .ref (am 7), .ref (am 8), .int 0, .ref (am 9), .int 0, .int (-1), .int 100, .ref (am 10), .long 0, .int 0, .int 0, .int 0, .int 0, .long 0] rfl) (cwV 0 hts (goodL gL_law_X14_thrown) rfl rfl rfl (by decide +kernel) ⟨by decide, by decide⟩) hK hN hP hS (ci := 19) (q0 := 0) rfl rfl rfl rfl hl.1 rfl (Nat.le_of_ble_eq_true rfl) dL_law_364 ⟨Nat.le_of_ble_eq_true rfl, Nat.le_of_ble_eq_true rfl⟩ (fun H locs hP hS => ?_)
  refine lv_iload hx hb dL_law_367 (lv_at hl 1 rfl) ?_
  refine lv_icmp_eq (tgt := 374) hx hb dL_law_369 (by decide) (fun _ => ?_) (fun c => absurd (by decide) c)
  refine lv_iload hx hb dL_law_374 (lv_at hl 1 rfl) ?_
  refine lv_if_ne (tgt := 391) hx hb dL_law_376 (by decide) (fun _ => ?_) (fun c => absurd c (by decide))
  refine lv_goto (tgt := 3117) hx hb dL_law_391 (by decide) ?_
  refine W.widen (k := 1000) (n := 10000) (Nat.le_of_ble_eq_true rfl) (Nat.le_of_ble_eq_true rfl) ?_
  exact hE _ _ _ hS (lv_sub hl [2, 3, 4, 5, 6, 7] rfl)

set_option maxRecDepth 100000 in
set_option maxHeartbeats 4000000 in
theorem law_make_0b1 {p : Program} {e : Env} {s : State} {m : MethodId} {below : List Frame} {meth : Method} {c : Code} {l : Launch} (hfl : l.stackTraces = false) {b : Nat} {xs : Nat → Int32} {D : va_G} {cy : Nat → ClassId} {eda ca : Nat} {ia : Nat → Nat} (C0 : LawAt p s m meth c b xs D cy eda ca ia) {am : Nat → Nat} {ad : Nat → Nat} {rw_ : Nat → Nat → Option Nat} {w : va_W} (F : FrC cy ad rw_ w) {oa od : Nat} (hE : LawEnd p l e s m below meth c b (ad 0) (am 0) oa od) (h1 : ((c16 (xs 1)) = 108 ∨ (c16 (xs 1)) = 102 ∨ (c16 (xs 1)) = 104)) (h2 : ¬ (xs 2) < 0 ∧ ¬ 4 < (xs 2)) (h3 : ¬ (xs 3) < 1 ∧ ¬ 5 < (xs 3)) (h4 : ¬ (xs 5) < 0 ∧ ¬ 99 < (xs 5)) (h5 : ¬ ((c16 (xs 1)) = 108 ∧ 0 < (xs 2))) (ho : ¬ xs 4 = 0) : LGoal p l e s m below meth c b D cy am eda w (ad 0) oa od 272 := by
  obtain ⟨hx, hb, hml, hown, hts, hX, hbl, hK, hN, hT, hJS⟩ := id C0
  have hA : ∀ q : Nat, s.heap.size ≤ q → (fun q => s.heap.size ≤ q) q := fun _ h => h
  have hbA : ¬ (fun q => s.heap.size ≤ q) b := Nat.not_le.mpr hbl
  intro H locs ls hP hD hS hl
  refine lv_aload_n hx hb dL_law_272 rfl (lv_at hl 4 rfl) ?_
  refine lv_aload_n hx hb dL_law_273 rfl (lv_at hl 5 rfl) ?_
  refine lv_iload hx hb dL_law_274 (lv_at hl 0 rfl) ?_
  refine lv_iconst (v := 1) hx hb dL_law_276 (by decide) ?_
  refine lv_iadd hx hb dL_law_277 ?_
  refine lv_topi (fun y ey => ?_)
  obtain rfl : y = 1 := ey.trans (by decide)
  refine va_sld hx hb hX hbl hbA hS (by unfold vp_in; decide) dL_law_278 ?_
  refine lv_topi (fun y ey => ?_)
  obtain rfl : y = xs 1 := ey.trans (congrArg xs (by decide))
  refine lv_i2c (v := c16 (xs 1)) hx hb dL_law_279 rfl ?_
  refine lv_aload_n hx hb dL_law_280 rfl (lv_at hl 5 rfl) ?_
  refine lv_iload hx hb dL_law_281 (lv_at hl 0 rfl) ?_
  refine lv_iconst (v := 2) hx hb dL_law_283 (by decide) ?_
  refine lv_iadd hx hb dL_law_284 ?_
  refine lv_topi (fun y ey => ?_)
  obtain rfl : y = 2 := ey.trans (by decide)
  refine va_sld hx hb hX hbl hbA hS (by unfold vp_in; decide) dL_law_285 ?_
  refine lv_topi (fun y ey => ?_)
  obtain rfl : y = xs 2 := ey.trans (congrArg xs (by decide))
  refine lv_aload_n hx hb dL_law_286 rfl (lv_at hl 5 rfl) ?_
  refine lv_iload hx hb dL_law_287 (lv_at hl 0 rfl) ?_
  refine lv_iconst (v := 3) hx hb dL_law_289 (by decide) ?_
  refine lv_iadd hx hb dL_law_290 ?_
  refine lv_topi (fun y ey => ?_)
  obtain rfl : y = 3 := ey.trans (by decide)
  refine va_sld hx hb hX hbl hbA hS (by unfold vp_in; decide) dL_law_291 ?_
  refine lv_topi (fun y ey => ?_)
  obtain rfl : y = xs 3 := ey.trans (congrArg xs (by decide))
  refine lv_aload_n hx hb dL_law_292 rfl (lv_at hl 5 rfl) ?_
  refine lv_iload hx hb dL_law_293 (lv_at hl 0 rfl) ?_
  refine lv_iconst (v := 4) hx hb dL_law_295 (by decide) ?_
  refine lv_iadd hx hb dL_law_296 ?_
  refine lv_topi (fun y ey => ?_)
  obtain rfl : y = 4 := ey.trans (by decide)
  refine va_sld hx hb hX hbl hbA hS (by unfold vp_in; decide) dL_law_297 ?_
  refine lv_topi (fun y ey => ?_)
  obtain rfl : y = xs 4 := ey.trans (congrArg xs (by decide))
  refine lv_if_eq (tgt := 305) hx hb dL_law_298 (by decide) (fun c => absurd c ho) (fun _ => ?_)
  refine lv_iconst (v := 1) hx hb dL_law_301 (by decide) ?_
  refine lv_goto (tgt := 306) hx hb dL_law_302 (by decide) ?_
  refine lv_aload_n hx hb dL_law_306 rfl (lv_at hl 5 rfl) ?_
  refine lv_iload hx hb dL_law_307 (lv_at hl 0 rfl) ?_
  refine lv_iconst (v := 5) hx hb dL_law_309 (by decide) ?_
  refine lv_iadd hx hb dL_law_310 ?_
  refine lv_topi (fun y ey => ?_)
  obtain rfl : y = 5 := ey.trans (by decide)
  refine va_sld hx hb hX hbl hbA hS (by unfold vp_in; decide) dL_law_311 ?_
  refine lv_topi (fun y ey => ?_)
  obtain rfl : y = xs 5 := ey.trans (congrArg xs (by decide))
  refine lv_aload_n hx hb dL_law_312 rfl (lv_at hl 2 rfl) ?_
  refine mw_callS (wr := WM cy am eda 0) (wc := OCL cy oa :: w) (As := [.ref (ad 0), .int (c16 (xs 1)), .int (xs 2), .int (xs 3), .int 1, .int (xs 5), .ref oa]) (rest := []) ⟨hx, hb, hml, hown, hts⟩ (w_make_0 l D cy F oa (fun _ => 0) _ (c16 (xs 1)) (xs 2) (xs 3) 1 (xs 5) h1 h2 h3 h4 h5 (c16_n _) (c16_f _) (by decide) (by decide)) (vx_cwSW 7 hts (goodLW gL_law_L_make) rfl rfl rfl (by decide +kernel) ⟨by decide, by decide⟩) hK hN hT (fun q hq => hS.2.1 q hq (Nat.not_le.mpr hq)) hP hD hS hA rfl hl.1 rfl (Nat.le_of_ble_eq_true rfl) dL_law_313 ⟨Nat.le_of_ble_eq_true rfl, Nat.le_of_ble_eq_true rfl⟩ (fun H locs hB hJ hS => ?_)
  obtain ⟨hP, hD⟩ := hJ [(oa, .inl (cy 2, 1, .inr (.inl (vp_updL (fun _ => 0) 0 ((nI 1).toInt64)))))] hB (my_d1 (my_in1 (ko := 0) rfl))
  have hP := hP.sub (ws' := [(oa, .inl (cy 2, 1, .inr (.inl (vp_updL (fun _ => 0) 0 ((nI 1).toInt64)))))] ++ WM cy am eda 0) [14, 0, 1, 2, 3, 4, 5, 6, 7, 8, 9, 10, 11, 12, 13] rfl
  have hD := hD.sub (ws' := [(oa, .inl (cy 2, 1, .inr (.inl (vp_updL (fun _ => 0) 0 ((nI 1).toInt64)))))] ++ WM cy am eda 0) [14, 0, 1, 2, 3, 4, 5, 6, 7, 8, 9, 10, 11, 12, 13] (by decide) rfl
  refine lv_istore (lv' := [(6, .int 0), (5, .int 0), (4, .ref od), (3, .ref oa), (2, .ref (am 0)), (1, .ref (ad 0)), (0, .ref b)]) hx hb dL_law_316 hl (by decide) rfl (fun ls hl => ?_)
  refine lv_aload_n hx hb dL_law_318 rfl (lv_at hl 4 rfl) ?_
  refine lv_aload_n hx hb dL_law_319 rfl (lv_at hl 6 rfl) ?_
  refine lv_iload hx hb dL_law_320 (lv_at hl 1 rfl) ?_
  refine lv_iconst (v := 1) hx hb dL_law_322 (by decide) ?_
  refine lv_iadd hx hb dL_law_323 ?_
  refine lv_topi (fun y ey => ?_)
  obtain rfl : y = 1 := ey.trans (by decide)
  refine va_sld hx hb hX hbl hbA hS (by unfold vp_in; decide) dL_law_324 ?_
  refine lv_topi (fun y ey => ?_)
  obtain rfl : y = xs 1 := ey.trans (congrArg xs (by decide))
  refine lv_i2c (v := c16 (xs 1)) hx hb dL_law_325 rfl ?_
  refine lv_aload_n hx hb dL_law_326 rfl (lv_at hl 6 rfl) ?_
  refine lv_iload hx hb dL_law_327 (lv_at hl 1 rfl) ?_
  refine lv_iconst (v := 2) hx hb dL_law_329 (by decide) ?_
  refine lv_iadd hx hb dL_law_330 ?_
  refine lv_topi (fun y ey => ?_)
  obtain rfl : y = 2 := ey.trans (by decide)
  refine va_sld hx hb hX hbl hbA hS (by unfold vp_in; decide) dL_law_331 ?_
  refine lv_topi (fun y ey => ?_)
  obtain rfl : y = xs 2 := ey.trans (congrArg xs (by decide))
  refine lv_aload_n hx hb dL_law_332 rfl (lv_at hl 6 rfl) ?_
  refine lv_iload hx hb dL_law_333 (lv_at hl 1 rfl) ?_
  refine lv_iconst (v := 3) hx hb dL_law_335 (by decide) ?_
  refine lv_iadd hx hb dL_law_336 ?_
  refine lv_topi (fun y ey => ?_)
  obtain rfl : y = 3 := ey.trans (by decide)
  refine va_sld hx hb hX hbl hbA hS (by unfold vp_in; decide) dL_law_337 ?_
  refine lv_topi (fun y ey => ?_)
  obtain rfl : y = xs 3 := ey.trans (congrArg xs (by decide))
  refine lv_aload_n hx hb dL_law_338 rfl (lv_at hl 6 rfl) ?_
  refine lv_iload hx hb dL_law_339 (lv_at hl 1 rfl) ?_
  refine lv_iconst (v := 4) hx hb dL_law_341 (by decide) ?_
  refine lv_iadd hx hb dL_law_342 ?_
  refine lv_topi (fun y ey => ?_)
  obtain rfl : y = 4 := ey.trans (by decide)
  refine va_sld hx hb hX hbl hbA hS (by unfold vp_in; decide) dL_law_343 ?_
  refine lv_topi (fun y ey => ?_)
  obtain rfl : y = xs 4 := ey.trans (congrArg xs (by decide))
  refine lv_if_eq (tgt := 351) hx hb dL_law_344 (by decide) (fun c => absurd c ho) (fun _ => ?_)
  refine lv_iconst (v := 1) hx hb dL_law_347 (by decide) ?_
  refine lv_goto (tgt := 352) hx hb dL_law_348 (by decide) ?_
  refine lv_aload_n hx hb dL_law_352 rfl (lv_at hl 6 rfl) ?_
  refine lv_iload hx hb dL_law_353 (lv_at hl 1 rfl) ?_
  refine lv_iconst (v := 5) hx hb dL_law_355 (by decide) ?_
  refine lv_iadd hx hb dL_law_356 ?_
  refine lv_topi (fun y ey => ?_)
  obtain rfl : y = 5 := ey.trans (by decide)
  refine va_sld hx hb hX hbl hbA hS (by unfold vp_in; decide) dL_law_357 ?_
  refine lv_topi (fun y ey => ?_)
  obtain rfl : y = xs 5 := ey.trans (congrArg xs (by decide))
  refine mj_callV (wr := [(oa, .inl (cy 2, 1, .inr (.inl (vp_updL (fun _ => 0) 0 ((nI 1).toInt64)))))]) (wc := WM cy am eda 0) (As := [.int (c16 (xs 1)), .int (xs 2), .int (xs 3), .int 1, .int (xs 5)]) (rest := []) ⟨hx, hb, hml, hown, hts⟩ (a_make_0 l D cy _ (c16 (xs 1)) (xs 2) (xs 3) 1 (xs 5) h1 h2 h3 h4 h5 (c16_n _) (c16_f _) (by decide) (by decide)) (cwV 5 hts (goodL gL_law_X14_make) rfl rfl rfl (by decide +kernel) ⟨by decide, by decide⟩) hK hN hP hD hS hA hJS (ci := 19) (q0 := 0) rfl rfl rfl rfl hl.1 rfl (Nat.le_of_ble_eq_true rfl) dL_law_358 ⟨Nat.le_of_ble_eq_true rfl, Nat.le_of_ble_eq_true rfl⟩ (fun H locs hB hJ hS => ?_)
  obtain ⟨hP1, hD1⟩ := hB
  obtain ⟨hP, hD⟩ := hJ _ hP1 hD1
  have hP : va_P D vwCl [(oa, .inl (cy 2, 1, .inr (.inl (vp_updL (fun _ => 0) 0 ((nI 1).toInt64))))), (am 0, .inr (19, [.int 0, .ref (am 1), .ref (am 4), .ref (am 5), .ref (am 6), .ref (am 7), .ref (am 8), .int 0, .ref (am 9), .int 0, .int (-1), .int 100, .ref (am 10), .long 0, .int 0, .int 0, .int 0, .int 0, .long 0]))] H := hP
  have hD : va_D (fun q => s.heap.size ≤ q) [(oa, .inl (cy 2, 1, .inr (.inl (vp_updL (fun _ => 0) 0 ((nI 1).toInt64))))), (am 0, .inr (19, [.int 0, .ref (am 1), .ref (am 4), .ref (am 5), .ref (am 6), .ref (am 7), .ref (am 8), .int 0, .ref (am 9), .int 0, .int (-1), .int 100, .ref (am 10), .long 0, .int 0, .int 0, .int 0, .int 0, .long 0]))] := hD
  refine lv_istore (lv' := [(7, .int 1), (6, .int 0), (5, .int 0), (4, .ref od), (3, .ref oa), (2, .ref (am 0)), (1, .ref (ad 0)), (0, .ref b)]) hx hb dL_law_361 hl (by decide) rfl (fun ls hl => ?_)
  refine lv_aload_n hx hb dL_law_363 rfl (lv_at hl 5 rfl) ?_
  refine ro_callV (As := []) (rest := []) ⟨hx, hb, hml, hown, hts⟩ (c_thrown l D cy _ 1 (am 0) 0 [.ref (am 1), .ref (am 4), .ref (am 5), .ref (am 6), .ref (am 7), .ref (am 8), .int 0, .ref (am 9), .int 0, .int (-1), .int 100, .ref (am 10), .long 0, .int 0, .int 0, .int 0, .int 0, .long 0] rfl) (cwV 0 hts (goodL gL_law_X14_thrown) rfl rfl rfl (by decide +kernel) ⟨by decide, by decide⟩) hK hN hP hS (ci := 19) (q0 := 1) rfl rfl rfl rfl hl.1 rfl (Nat.le_of_ble_eq_true rfl) dL_law_364 ⟨Nat.le_of_ble_eq_true rfl, Nat.le_of_ble_eq_true rfl⟩ (fun H locs hP hS => ?_)
  refine lv_iload hx hb dL_law_367 (lv_at hl 1 rfl) ?_
  refine lv_icmp_eq (tgt := 374) hx hb dL_law_369 (by decide) (fun _ => ?_) (fun c => absurd (by decide) c)
  refine lv_iload hx hb dL_law_374 (lv_at hl 1 rfl) ?_
  refine lv_if_ne (tgt := 391) hx hb dL_law_376 (by decide) (fun c => absurd (by decide) c) (fun _ => ?_)
  refine lv_aload_n hx hb dL_law_379 rfl (lv_at hl 4 rfl) ?_
  refine lv_iconst (v := 0) hx hb dL_law_380 (by decide) ?_
  refine va_lald hx hb hK hP 0 2 rfl rfl (by unfold vp_in; decide) dL_law_381 ?_
  refine lv_topl (fun y ey => ?_)
  obtain rfl : y = (nI 1).toInt64 := ey.trans (my_rd0 _ _)
  refine lv_iload hx hb dL_law_382 (lv_at hl 0 rfl) ?_
  refine lv_i2l (v := 1) hx hb dL_law_384 (by decide) ?_
  refine W.lcmp hx hb dL_law_385 ?_
  refine lv_topi (fun y ey => ?_)
  obtain rfl : y = 0 := ey.trans (by decide)
  refine lv_if_eq (tgt := 391) hx hb dL_law_386 (by decide) (fun _ => ?_) (fun c => absurd (by decide) c)
  refine lv_goto (tgt := 3117) hx hb dL_law_391 (by decide) ?_
  refine W.widen (k := 1000) (n := 10000) (Nat.le_of_ble_eq_true rfl) (Nat.le_of_ble_eq_true rfl) ?_
  exact hE _ _ _ hS (lv_sub hl [2, 3, 4, 5, 6, 7] rfl)

set_option maxRecDepth 100000 in
set_option maxHeartbeats 4000000 in
theorem law_endpoint_1b0 {p : Program} {e : Env} {s : State} {m : MethodId} {below : List Frame} {meth : Method} {c : Code} {l : Launch} (hfl : l.stackTraces = false) {b : Nat} {xs : Nat → Int32} {D : va_G} {cy : Nat → ClassId} {eda ca : Nat} {ia : Nat → Nat} (C0 : LawAt p s m meth c b xs D cy eda ca ia) {am : Nat → Nat} {ad : Nat → Nat} {rw_ : Nat → Nat → Option Nat} {w : va_W} (F : FrC cy ad rw_ w) {oa od : Nat} (hE : LawEnd p l e s m below meth c b (ad 0) (am 0) oa od) (hd : ¬ xs 1 = 0) (ho : xs 3 = 0) : LGoal p l e s m below meth c b D cy am eda w (ad 0) oa od 394 := by
  obtain ⟨hx, hb, hml, hown, hts, hX, hbl, hK, hN, hT, hJS⟩ := id C0
  have hA : ∀ q : Nat, s.heap.size ≤ q → (fun q => s.heap.size ≤ q) q := fun _ h => h
  have hbA : ¬ (fun q => s.heap.size ≤ q) b := Nat.not_le.mpr hbl
  intro H locs ls hP hD hS hl
  refine lv_aload_n hx hb dL_law_394 rfl (lv_at hl 4 rfl) ?_
  refine lv_aload_n hx hb dL_law_395 rfl (lv_at hl 5 rfl) ?_
  refine lv_iload hx hb dL_law_396 (lv_at hl 0 rfl) ?_
  refine lv_iconst (v := 1) hx hb dL_law_398 (by decide) ?_
  refine lv_iadd hx hb dL_law_399 ?_
  refine lv_topi (fun y ey => ?_)
  obtain rfl : y = 1 := ey.trans (by decide)
  refine va_sld hx hb hX hbl hbA hS (by unfold vp_in; decide) dL_law_400 ?_
  refine lv_topi (fun y ey => ?_)
  obtain rfl : y = xs 1 := ey.trans (congrArg xs (by decide))
  refine lv_aload_n hx hb dL_law_401 rfl (lv_at hl 5 rfl) ?_
  refine lv_iload hx hb dL_law_402 (lv_at hl 0 rfl) ?_
  refine lv_iconst (v := 2) hx hb dL_law_404 (by decide) ?_
  refine lv_iadd hx hb dL_law_405 ?_
  refine lv_topi (fun y ey => ?_)
  obtain rfl : y = 2 := ey.trans (by decide)
  refine va_sld hx hb hX hbl hbA hS (by unfold vp_in; decide) dL_law_406 ?_
  refine lv_topi (fun y ey => ?_)
  obtain rfl : y = xs 2 := ey.trans (congrArg xs (by decide))
  refine lv_aload_n hx hb dL_law_407 rfl (lv_at hl 5 rfl) ?_
  refine lv_iload hx hb dL_law_408 (lv_at hl 0 rfl) ?_
  refine lv_iconst (v := 3) hx hb dL_law_410 (by decide) ?_
  refine lv_iadd hx hb dL_law_411 ?_
  refine lv_topi (fun y ey => ?_)
  obtain rfl : y = 3 := ey.trans (by decide)
  refine va_sld hx hb hX hbl hbA hS (by unfold vp_in; decide) dL_law_412 ?_
  refine lv_topi (fun y ey => ?_)
  obtain rfl : y = 0 := ey.trans ((congrArg xs (by decide)).trans ho)
  refine lv_if_eq (tgt := 420) hx hb dL_law_413 (by decide) (fun _ => ?_) (fun c => absurd (by decide) c)
  refine lv_iconst (v := 0) hx hb dL_law_420 (by decide) ?_
  refine lv_aload_n hx hb dL_law_421 rfl (lv_at hl 5 rfl) ?_
  refine lv_iload hx hb dL_law_422 (lv_at hl 0 rfl) ?_
  refine lv_iconst (v := 4) hx hb dL_law_424 (by decide) ?_
  refine lv_iadd hx hb dL_law_425 ?_
  refine lv_topi (fun y ey => ?_)
  obtain rfl : y = 4 := ey.trans (by decide)
  refine va_sld hx hb hX hbl hbA hS (by unfold vp_in; decide) dL_law_426 ?_
  refine lv_topi (fun y ey => ?_)
  obtain rfl : y = xs 4 := ey.trans (congrArg xs (by decide))
  refine lv_aload_n hx hb dL_law_427 rfl (lv_at hl 2 rfl) ?_
  refine mw_callS (wr := WM cy am eda 0) (wc := OCL cy oa :: w) (As := [.ref (ad 0), .int (xs 1), .int (xs 2), .int 0, .int (xs 4), .ref oa]) (rest := []) ⟨hx, hb, hml, hown, hts⟩ (w_endpoint_1 l D cy F hfl oa (fun _ => 0) _ (xs 1) (xs 2) 0 (xs 4) hd) (vx_cwSW 6 hts (goodLW gL_law_L_endpoint) rfl rfl rfl (by decide +kernel) ⟨by decide, by decide⟩) hK hN hT (fun q hq => hS.2.1 q hq (Nat.not_le.mpr hq)) hP hD hS hA rfl hl.1 rfl (Nat.le_of_ble_eq_true rfl) dL_law_428 ⟨Nat.le_of_ble_eq_true rfl, Nat.le_of_ble_eq_true rfl⟩ (fun H locs hB hJ hS => ?_)
  obtain ⟨hP, hD⟩ := hJ [] (fun k q h => by simp at h) ⟨fun i j p q h => by simp at h, fun k q h => by simp at h⟩
  have hP : va_P D vwCl (WM cy am eda 0) H := hP
  have hD : va_D (fun q => s.heap.size ≤ q) (WM cy am eda 0) := hD
  refine lv_istore (lv' := [(6, .int 1), (5, .int 0), (4, .ref od), (3, .ref oa), (2, .ref (am 0)), (1, .ref (ad 0)), (0, .ref b)]) hx hb dL_law_431 hl (by decide) rfl (fun ls hl => ?_)
  refine lv_aload_n hx hb dL_law_433 rfl (lv_at hl 4 rfl) ?_
  refine lv_aload_n hx hb dL_law_434 rfl (lv_at hl 6 rfl) ?_
  refine lv_iload hx hb dL_law_435 (lv_at hl 1 rfl) ?_
  refine lv_iconst (v := 1) hx hb dL_law_437 (by decide) ?_
  refine lv_iadd hx hb dL_law_438 ?_
  refine lv_topi (fun y ey => ?_)
  obtain rfl : y = 1 := ey.trans (by decide)
  refine va_sld hx hb hX hbl hbA hS (by unfold vp_in; decide) dL_law_439 ?_
  refine lv_topi (fun y ey => ?_)
  obtain rfl : y = xs 1 := ey.trans (congrArg xs (by decide))
  refine lv_aload_n hx hb dL_law_440 rfl (lv_at hl 6 rfl) ?_
  refine lv_iload hx hb dL_law_441 (lv_at hl 1 rfl) ?_
  refine lv_iconst (v := 2) hx hb dL_law_443 (by decide) ?_
  refine lv_iadd hx hb dL_law_444 ?_
  refine lv_topi (fun y ey => ?_)
  obtain rfl : y = 2 := ey.trans (by decide)
  refine va_sld hx hb hX hbl hbA hS (by unfold vp_in; decide) dL_law_445 ?_
  refine lv_topi (fun y ey => ?_)
  obtain rfl : y = xs 2 := ey.trans (congrArg xs (by decide))
  refine lv_aload_n hx hb dL_law_446 rfl (lv_at hl 6 rfl) ?_
  refine lv_iload hx hb dL_law_447 (lv_at hl 1 rfl) ?_
  refine lv_iconst (v := 3) hx hb dL_law_449 (by decide) ?_
  refine lv_iadd hx hb dL_law_450 ?_
  refine lv_topi (fun y ey => ?_)
  obtain rfl : y = 3 := ey.trans (by decide)
  refine va_sld hx hb hX hbl hbA hS (by unfold vp_in; decide) dL_law_451 ?_
  refine lv_topi (fun y ey => ?_)
  obtain rfl : y = 0 := ey.trans ((congrArg xs (by decide)).trans ho)
  refine lv_if_eq (tgt := 459) hx hb dL_law_452 (by decide) (fun _ => ?_) (fun c => absurd (by decide) c)
  refine lv_iconst (v := 0) hx hb dL_law_459 (by decide) ?_
  refine lv_aload_n hx hb dL_law_460 rfl (lv_at hl 6 rfl) ?_
  refine lv_iload hx hb dL_law_461 (lv_at hl 1 rfl) ?_
  refine lv_iconst (v := 4) hx hb dL_law_463 (by decide) ?_
  refine lv_iadd hx hb dL_law_464 ?_
  refine lv_topi (fun y ey => ?_)
  obtain rfl : y = 4 := ey.trans (by decide)
  refine va_sld hx hb hX hbl hbA hS (by unfold vp_in; decide) dL_law_465 ?_
  refine lv_topi (fun y ey => ?_)
  obtain rfl : y = xs 4 := ey.trans (congrArg xs (by decide))
  refine mj_callV (wr := []) (wc := WM cy am eda 0) (As := [.int (xs 1), .int (xs 2), .int 0, .int (xs 4)]) (rest := []) ⟨hx, hb, hml, hown, hts⟩ (a_endpoint_1 l D cy _ (xs 1) (xs 2) 0 (xs 4) hd) (cwV 4 hts (goodL gL_law_X14_endpoint) rfl rfl rfl (by decide +kernel) ⟨by decide, by decide⟩) hK hN hP hD hS hA hJS (ci := 19) (q0 := 0) rfl rfl rfl rfl hl.1 rfl (Nat.le_of_ble_eq_true rfl) dL_law_466 ⟨Nat.le_of_ble_eq_true rfl, Nat.le_of_ble_eq_true rfl⟩ (fun H locs hB hJ hS => ?_)
  obtain ⟨hP1, hD1⟩ := hB
  obtain ⟨hP, hD⟩ := hJ _ hP1 hD1
  have hP : va_P D vwCl [(am 0, .inr (19, [.int 1, .ref (am 1), .ref (am 4), .ref (am 5), .ref (am 6), .ref (am 7), .ref (am 8), .int 0, .ref (am 9), .int 0, .int (-1), .int 100, .ref (am 10), .long 0, .int 0, .int 0, .int 0, .int 0, .long 0]))] H := hP
  have hD : va_D (fun q => s.heap.size ≤ q) [(am 0, .inr (19, [.int 1, .ref (am 1), .ref (am 4), .ref (am 5), .ref (am 6), .ref (am 7), .ref (am 8), .int 0, .ref (am 9), .int 0, .int (-1), .int 100, .ref (am 10), .long 0, .int 0, .int 0, .int 0, .int 0, .long 0]))] := hD
  refine lv_istore (lv' := [(7, .int 0), (6, .int 1), (5, .int 0), (4, .ref od), (3, .ref oa), (2, .ref (am 0)), (1, .ref (ad 0)), (0, .ref b)]) hx hb dL_law_469 hl (by decide) rfl (fun ls hl => ?_)
  refine lv_aload_n hx hb dL_law_471 rfl (lv_at hl 5 rfl) ?_
  refine ro_callV (As := []) (rest := []) ⟨hx, hb, hml, hown, hts⟩ (c_thrown l D cy _ 0 (am 0) 1 [.ref (am 1), .ref (am 4), .ref (am 5), .ref (am 6), .ref (am 7), .ref (am 8), .int 0, .ref (am 9), .int 0, .int (-1), .int 100, .ref (am 10), .long 0, .int 0, .int 0, .int 0, .int 0, .long 0] rfl) (cwV 0 hts (goodL gL_law_X14_thrown) rfl rfl rfl (by decide +kernel) ⟨by decide, by decide⟩) hK hN hP hS (ci := 19) (q0 := 0) rfl rfl rfl rfl hl.1 rfl (Nat.le_of_ble_eq_true rfl) dL_law_472 ⟨Nat.le_of_ble_eq_true rfl, Nat.le_of_ble_eq_true rfl⟩ (fun H locs hP hS => ?_)
  refine lv_iload hx hb dL_law_475 (lv_at hl 1 rfl) ?_
  refine lv_icmp_eq (tgt := 482) hx hb dL_law_477 (by decide) (fun _ => ?_) (fun c => absurd (by decide) c)
  refine lv_iload hx hb dL_law_482 (lv_at hl 1 rfl) ?_
  refine lv_if_ne (tgt := 499) hx hb dL_law_484 (by decide) (fun _ => ?_) (fun c => absurd c (by decide))
  refine lv_goto (tgt := 3117) hx hb dL_law_499 (by decide) ?_
  refine W.widen (k := 1000) (n := 10000) (Nat.le_of_ble_eq_true rfl) (Nat.le_of_ble_eq_true rfl) ?_
  exact hE _ _ _ hS (lv_sub hl [2, 3, 4, 5, 6, 7] rfl)

set_option maxRecDepth 100000 in
set_option maxHeartbeats 4000000 in
theorem law_endpoint_2b0 {p : Program} {e : Env} {s : State} {m : MethodId} {below : List Frame} {meth : Method} {c : Code} {l : Launch} (hfl : l.stackTraces = false) {b : Nat} {xs : Nat → Int32} {D : va_G} {cy : Nat → ClassId} {eda ca : Nat} {ia : Nat → Nat} (C0 : LawAt p s m meth c b xs D cy eda ca ia) {am : Nat → Nat} {ad : Nat → Nat} {rw_ : Nat → Nat → Option Nat} {w : va_W} (F : FrC cy ad rw_ w) {oa od : Nat} (hE : LawEnd p l e s m below meth c b (ad 0) (am 0) oa od) (e1 : xs 1 = 0) (h : ¬ ((¬ xs 2 < 1 ∧ ¬ 3 < xs 2) ∧ (¬ xs 4 < 1 ∧ ¬ 8 < xs 4))) (ho : xs 3 = 0) : LGoal p l e s m below meth c b D cy am eda w (ad 0) oa od 394 := by
  obtain ⟨hx, hb, hml, hown, hts, hX, hbl, hK, hN, hT, hJS⟩ := id C0
  have hA : ∀ q : Nat, s.heap.size ≤ q → (fun q => s.heap.size ≤ q) q := fun _ h => h
  have hbA : ¬ (fun q => s.heap.size ≤ q) b := Nat.not_le.mpr hbl
  intro H locs ls hP hD hS hl
  refine lv_aload_n hx hb dL_law_394 rfl (lv_at hl 4 rfl) ?_
  refine lv_aload_n hx hb dL_law_395 rfl (lv_at hl 5 rfl) ?_
  refine lv_iload hx hb dL_law_396 (lv_at hl 0 rfl) ?_
  refine lv_iconst (v := 1) hx hb dL_law_398 (by decide) ?_
  refine lv_iadd hx hb dL_law_399 ?_
  refine lv_topi (fun y ey => ?_)
  obtain rfl : y = 1 := ey.trans (by decide)
  refine va_sld hx hb hX hbl hbA hS (by unfold vp_in; decide) dL_law_400 ?_
  refine lv_topi (fun y ey => ?_)
  obtain rfl : y = 0 := ey.trans ((congrArg xs (by decide)).trans e1)
  refine lv_aload_n hx hb dL_law_401 rfl (lv_at hl 5 rfl) ?_
  refine lv_iload hx hb dL_law_402 (lv_at hl 0 rfl) ?_
  refine lv_iconst (v := 2) hx hb dL_law_404 (by decide) ?_
  refine lv_iadd hx hb dL_law_405 ?_
  refine lv_topi (fun y ey => ?_)
  obtain rfl : y = 2 := ey.trans (by decide)
  refine va_sld hx hb hX hbl hbA hS (by unfold vp_in; decide) dL_law_406 ?_
  refine lv_topi (fun y ey => ?_)
  obtain rfl : y = xs 2 := ey.trans (congrArg xs (by decide))
  refine lv_aload_n hx hb dL_law_407 rfl (lv_at hl 5 rfl) ?_
  refine lv_iload hx hb dL_law_408 (lv_at hl 0 rfl) ?_
  refine lv_iconst (v := 3) hx hb dL_law_410 (by decide) ?_
  refine lv_iadd hx hb dL_law_411 ?_
  refine lv_topi (fun y ey => ?_)
  obtain rfl : y = 3 := ey.trans (by decide)
  refine va_sld hx hb hX hbl hbA hS (by unfold vp_in; decide) dL_law_412 ?_
  refine lv_topi (fun y ey => ?_)
  obtain rfl : y = 0 := ey.trans ((congrArg xs (by decide)).trans ho)
  refine lv_if_eq (tgt := 420) hx hb dL_law_413 (by decide) (fun _ => ?_) (fun c => absurd (by decide) c)
  refine lv_iconst (v := 0) hx hb dL_law_420 (by decide) ?_
  refine lv_aload_n hx hb dL_law_421 rfl (lv_at hl 5 rfl) ?_
  refine lv_iload hx hb dL_law_422 (lv_at hl 0 rfl) ?_
  refine lv_iconst (v := 4) hx hb dL_law_424 (by decide) ?_
  refine lv_iadd hx hb dL_law_425 ?_
  refine lv_topi (fun y ey => ?_)
  obtain rfl : y = 4 := ey.trans (by decide)
  refine va_sld hx hb hX hbl hbA hS (by unfold vp_in; decide) dL_law_426 ?_
  refine lv_topi (fun y ey => ?_)
  obtain rfl : y = xs 4 := ey.trans (congrArg xs (by decide))
  refine lv_aload_n hx hb dL_law_427 rfl (lv_at hl 2 rfl) ?_
  refine mw_callS (wr := WM cy am eda 0) (wc := OCL cy oa :: w) (As := [.ref (ad 0), .int 0, .int (xs 2), .int 0, .int (xs 4), .ref oa]) (rest := []) ⟨hx, hb, hml, hown, hts⟩ (w_endpoint_2 l D cy F hfl oa (fun _ => 0) _ (xs 2) 0 (xs 4) h) (vx_cwSW 6 hts (goodLW gL_law_L_endpoint) rfl rfl rfl (by decide +kernel) ⟨by decide, by decide⟩) hK hN hT (fun q hq => hS.2.1 q hq (Nat.not_le.mpr hq)) hP hD hS hA rfl hl.1 rfl (Nat.le_of_ble_eq_true rfl) dL_law_428 ⟨Nat.le_of_ble_eq_true rfl, Nat.le_of_ble_eq_true rfl⟩ (fun H locs hB hJ hS => ?_)
  obtain ⟨hP, hD⟩ := hJ [] (fun k q h => by simp at h) ⟨fun i j p q h => by simp at h, fun k q h => by simp at h⟩
  have hP : va_P D vwCl (WM cy am eda 0) H := hP
  have hD : va_D (fun q => s.heap.size ≤ q) (WM cy am eda 0) := hD
  refine lv_istore (lv' := [(6, .int 2), (5, .int 0), (4, .ref od), (3, .ref oa), (2, .ref (am 0)), (1, .ref (ad 0)), (0, .ref b)]) hx hb dL_law_431 hl (by decide) rfl (fun ls hl => ?_)
  refine lv_aload_n hx hb dL_law_433 rfl (lv_at hl 4 rfl) ?_
  refine lv_aload_n hx hb dL_law_434 rfl (lv_at hl 6 rfl) ?_
  refine lv_iload hx hb dL_law_435 (lv_at hl 1 rfl) ?_
  refine lv_iconst (v := 1) hx hb dL_law_437 (by decide) ?_
  refine lv_iadd hx hb dL_law_438 ?_
  refine lv_topi (fun y ey => ?_)
  obtain rfl : y = 1 := ey.trans (by decide)
  refine va_sld hx hb hX hbl hbA hS (by unfold vp_in; decide) dL_law_439 ?_
  refine lv_topi (fun y ey => ?_)
  obtain rfl : y = 0 := ey.trans ((congrArg xs (by decide)).trans e1)
  refine lv_aload_n hx hb dL_law_440 rfl (lv_at hl 6 rfl) ?_
  refine lv_iload hx hb dL_law_441 (lv_at hl 1 rfl) ?_
  refine lv_iconst (v := 2) hx hb dL_law_443 (by decide) ?_
  refine lv_iadd hx hb dL_law_444 ?_
  refine lv_topi (fun y ey => ?_)
  obtain rfl : y = 2 := ey.trans (by decide)
  refine va_sld hx hb hX hbl hbA hS (by unfold vp_in; decide) dL_law_445 ?_
  refine lv_topi (fun y ey => ?_)
  obtain rfl : y = xs 2 := ey.trans (congrArg xs (by decide))
  refine lv_aload_n hx hb dL_law_446 rfl (lv_at hl 6 rfl) ?_
  refine lv_iload hx hb dL_law_447 (lv_at hl 1 rfl) ?_
  refine lv_iconst (v := 3) hx hb dL_law_449 (by decide) ?_
  refine lv_iadd hx hb dL_law_450 ?_
  refine lv_topi (fun y ey => ?_)
  obtain rfl : y = 3 := ey.trans (by decide)
  refine va_sld hx hb hX hbl hbA hS (by unfold vp_in; decide) dL_law_451 ?_
  refine lv_topi (fun y ey => ?_)
  obtain rfl : y = 0 := ey.trans ((congrArg xs (by decide)).trans ho)
  refine lv_if_eq (tgt := 459) hx hb dL_law_452 (by decide) (fun _ => ?_) (fun c => absurd (by decide) c)
  refine lv_iconst (v := 0) hx hb dL_law_459 (by decide) ?_
  refine lv_aload_n hx hb dL_law_460 rfl (lv_at hl 6 rfl) ?_
  refine lv_iload hx hb dL_law_461 (lv_at hl 1 rfl) ?_
  refine lv_iconst (v := 4) hx hb dL_law_463 (by decide) ?_
  refine lv_iadd hx hb dL_law_464 ?_
  refine lv_topi (fun y ey => ?_)
  obtain rfl : y = 4 := ey.trans (by decide)
  refine va_sld hx hb hX hbl hbA hS (by unfold vp_in; decide) dL_law_465 ?_
  refine lv_topi (fun y ey => ?_)
  obtain rfl : y = xs 4 := ey.trans (congrArg xs (by decide))
  refine mj_callV (wr := []) (wc := WM cy am eda 0) (As := [.int 0, .int (xs 2), .int 0, .int (xs 4)]) (rest := []) ⟨hx, hb, hml, hown, hts⟩ (a_endpoint_2 l D cy _ (xs 2) 0 (xs 4) h) (cwV 4 hts (goodL gL_law_X14_endpoint) rfl rfl rfl (by decide +kernel) ⟨by decide, by decide⟩) hK hN hP hD hS hA hJS (ci := 19) (q0 := 0) rfl rfl rfl rfl hl.1 rfl (Nat.le_of_ble_eq_true rfl) dL_law_466 ⟨Nat.le_of_ble_eq_true rfl, Nat.le_of_ble_eq_true rfl⟩ (fun H locs hB hJ hS => ?_)
  obtain ⟨hP1, hD1⟩ := hB
  obtain ⟨hP, hD⟩ := hJ _ hP1 hD1
  have hP : va_P D vwCl [(am 0, .inr (19, [.int 2, .ref (am 1), .ref (am 4), .ref (am 5), .ref (am 6), .ref (am 7), .ref (am 8), .int 0, .ref (am 9), .int 0, .int (-1), .int 100, .ref (am 10), .long 0, .int 0, .int 0, .int 0, .int 0, .long 0]))] H := hP
  have hD : va_D (fun q => s.heap.size ≤ q) [(am 0, .inr (19, [.int 2, .ref (am 1), .ref (am 4), .ref (am 5), .ref (am 6), .ref (am 7), .ref (am 8), .int 0, .ref (am 9), .int 0, .int (-1), .int 100, .ref (am 10), .long 0, .int 0, .int 0, .int 0, .int 0, .long 0]))] := hD
  refine lv_istore (lv' := [(7, .int 0), (6, .int 2), (5, .int 0), (4, .ref od), (3, .ref oa), (2, .ref (am 0)), (1, .ref (ad 0)), (0, .ref b)]) hx hb dL_law_469 hl (by decide) rfl (fun ls hl => ?_)
  refine lv_aload_n hx hb dL_law_471 rfl (lv_at hl 5 rfl) ?_
  refine ro_callV (As := []) (rest := []) ⟨hx, hb, hml, hown, hts⟩ (c_thrown l D cy _ 0 (am 0) 2 [.ref (am 1), .ref (am 4), .ref (am 5), .ref (am 6), .ref (am 7), .ref (am 8), .int 0, .ref (am 9), .int 0, .int (-1), .int 100, .ref (am 10), .long 0, .int 0, .int 0, .int 0, .int 0, .long 0] rfl) (cwV 0 hts (goodL gL_law_X14_thrown) rfl rfl rfl (by decide +kernel) ⟨by decide, by decide⟩) hK hN hP hS (ci := 19) (q0 := 0) rfl rfl rfl rfl hl.1 rfl (Nat.le_of_ble_eq_true rfl) dL_law_472 ⟨Nat.le_of_ble_eq_true rfl, Nat.le_of_ble_eq_true rfl⟩ (fun H locs hP hS => ?_)
  refine lv_iload hx hb dL_law_475 (lv_at hl 1 rfl) ?_
  refine lv_icmp_eq (tgt := 482) hx hb dL_law_477 (by decide) (fun _ => ?_) (fun c => absurd (by decide) c)
  refine lv_iload hx hb dL_law_482 (lv_at hl 1 rfl) ?_
  refine lv_if_ne (tgt := 499) hx hb dL_law_484 (by decide) (fun _ => ?_) (fun c => absurd c (by decide))
  refine lv_goto (tgt := 3117) hx hb dL_law_499 (by decide) ?_
  refine W.widen (k := 1000) (n := 10000) (Nat.le_of_ble_eq_true rfl) (Nat.le_of_ble_eq_true rfl) ?_
  exact hE _ _ _ hS (lv_sub hl [2, 3, 4, 5, 6, 7] rfl)

set_option maxRecDepth 100000 in
set_option maxHeartbeats 4000000 in
theorem law_endpoint_3b0 {p : Program} {e : Env} {s : State} {m : MethodId} {below : List Frame} {meth : Method} {c : Code} {l : Launch} (hfl : l.stackTraces = false) {b : Nat} {xs : Nat → Int32} {D : va_G} {cy : Nat → ClassId} {eda ca : Nat} {ia : Nat → Nat} (C0 : LawAt p s m meth c b xs D cy eda ca ia) {am : Nat → Nat} {ad : Nat → Nat} {rw_ : Nat → Nat → Option Nat} {w : va_W} (F : FrC cy ad rw_ w) {oa od : Nat} (hE : LawEnd p l e s m below meth c b (ad 0) (am 0) oa od) (j : Nat) (hj : j < 3) (e1 : xs 1 = 0) (e2 : xs 2 = nI (j + 1)) (hz : ¬ xs 4 < 1 ∧ ¬ 8 < xs 4) (ho : xs 3 = 0) : LGoal p l e s m below meth c b D cy am eda w (ad 0) oa od 394 := by
  obtain ⟨hx, hb, hml, hown, hts, hX, hbl, hK, hN, hT, hJS⟩ := id C0
  have hA : ∀ q : Nat, s.heap.size ≤ q → (fun q => s.heap.size ≤ q) q := fun _ h => h
  have hbA : ¬ (fun q => s.heap.size ≤ q) b := Nat.not_le.mpr hbl
  intro H locs ls hP hD hS hl
  refine lv_aload_n hx hb dL_law_394 rfl (lv_at hl 4 rfl) ?_
  refine lv_aload_n hx hb dL_law_395 rfl (lv_at hl 5 rfl) ?_
  refine lv_iload hx hb dL_law_396 (lv_at hl 0 rfl) ?_
  refine lv_iconst (v := 1) hx hb dL_law_398 (by decide) ?_
  refine lv_iadd hx hb dL_law_399 ?_
  refine lv_topi (fun y ey => ?_)
  obtain rfl : y = 1 := ey.trans (by decide)
  refine va_sld hx hb hX hbl hbA hS (by unfold vp_in; decide) dL_law_400 ?_
  refine lv_topi (fun y ey => ?_)
  obtain rfl : y = 0 := ey.trans ((congrArg xs (by decide)).trans e1)
  refine lv_aload_n hx hb dL_law_401 rfl (lv_at hl 5 rfl) ?_
  refine lv_iload hx hb dL_law_402 (lv_at hl 0 rfl) ?_
  refine lv_iconst (v := 2) hx hb dL_law_404 (by decide) ?_
  refine lv_iadd hx hb dL_law_405 ?_
  refine lv_topi (fun y ey => ?_)
  obtain rfl : y = 2 := ey.trans (by decide)
  refine va_sld hx hb hX hbl hbA hS (by unfold vp_in; decide) dL_law_406 ?_
  refine lv_topi (fun y ey => ?_)
  obtain rfl : y = nI (j + 1) := ey.trans ((congrArg xs (by decide)).trans e2)
  refine lv_aload_n hx hb dL_law_407 rfl (lv_at hl 5 rfl) ?_
  refine lv_iload hx hb dL_law_408 (lv_at hl 0 rfl) ?_
  refine lv_iconst (v := 3) hx hb dL_law_410 (by decide) ?_
  refine lv_iadd hx hb dL_law_411 ?_
  refine lv_topi (fun y ey => ?_)
  obtain rfl : y = 3 := ey.trans (by decide)
  refine va_sld hx hb hX hbl hbA hS (by unfold vp_in; decide) dL_law_412 ?_
  refine lv_topi (fun y ey => ?_)
  obtain rfl : y = 0 := ey.trans ((congrArg xs (by decide)).trans ho)
  refine lv_if_eq (tgt := 420) hx hb dL_law_413 (by decide) (fun _ => ?_) (fun c => absurd (by decide) c)
  refine lv_iconst (v := 0) hx hb dL_law_420 (by decide) ?_
  refine lv_aload_n hx hb dL_law_421 rfl (lv_at hl 5 rfl) ?_
  refine lv_iload hx hb dL_law_422 (lv_at hl 0 rfl) ?_
  refine lv_iconst (v := 4) hx hb dL_law_424 (by decide) ?_
  refine lv_iadd hx hb dL_law_425 ?_
  refine lv_topi (fun y ey => ?_)
  obtain rfl : y = 4 := ey.trans (by decide)
  refine va_sld hx hb hX hbl hbA hS (by unfold vp_in; decide) dL_law_426 ?_
  refine lv_topi (fun y ey => ?_)
  obtain rfl : y = xs 4 := ey.trans (congrArg xs (by decide))
  refine lv_aload_n hx hb dL_law_427 rfl (lv_at hl 2 rfl) ?_
  refine mw_callS (wr := WM cy am eda 0) (wc := OCL cy oa :: w) (As := [.ref (ad 0), .int 0, .int (nI (j + 1)), .int 0, .int (xs 4), .ref oa]) (rest := []) ⟨hx, hb, hml, hown, hts⟩ (w_endpoint_3 l D cy F hfl oa (fun _ => 0) _ j 0 (xs 4) hj hz) (vx_cwSW 6 hts (goodLW gL_law_L_endpoint) rfl rfl rfl (by decide +kernel) ⟨by decide, by decide⟩) hK hN hT (fun q hq => hS.2.1 q hq (Nat.not_le.mpr hq)) hP hD hS hA rfl hl.1 rfl (Nat.le_of_ble_eq_true rfl) dL_law_428 ⟨Nat.le_of_ble_eq_true rfl, Nat.le_of_ble_eq_true rfl⟩ (fun H locs hB hJ hS => ?_)
  obtain ⟨hP, hD⟩ := hJ [] (fun k q h => by simp at h) ⟨fun i j p q h => by simp at h, fun k q h => by simp at h⟩
  have hP : va_P D vwCl (WM cy am eda 0) H := hP
  have hD : va_D (fun q => s.heap.size ≤ q) (WM cy am eda 0) := hD
  refine lv_istore (lv' := [(6, .int 3), (5, .int 0), (4, .ref od), (3, .ref oa), (2, .ref (am 0)), (1, .ref (ad 0)), (0, .ref b)]) hx hb dL_law_431 hl (by decide) rfl (fun ls hl => ?_)
  refine lv_aload_n hx hb dL_law_433 rfl (lv_at hl 4 rfl) ?_
  refine lv_aload_n hx hb dL_law_434 rfl (lv_at hl 6 rfl) ?_
  refine lv_iload hx hb dL_law_435 (lv_at hl 1 rfl) ?_
  refine lv_iconst (v := 1) hx hb dL_law_437 (by decide) ?_
  refine lv_iadd hx hb dL_law_438 ?_
  refine lv_topi (fun y ey => ?_)
  obtain rfl : y = 1 := ey.trans (by decide)
  refine va_sld hx hb hX hbl hbA hS (by unfold vp_in; decide) dL_law_439 ?_
  refine lv_topi (fun y ey => ?_)
  obtain rfl : y = 0 := ey.trans ((congrArg xs (by decide)).trans e1)
  refine lv_aload_n hx hb dL_law_440 rfl (lv_at hl 6 rfl) ?_
  refine lv_iload hx hb dL_law_441 (lv_at hl 1 rfl) ?_
  refine lv_iconst (v := 2) hx hb dL_law_443 (by decide) ?_
  refine lv_iadd hx hb dL_law_444 ?_
  refine lv_topi (fun y ey => ?_)
  obtain rfl : y = 2 := ey.trans (by decide)
  refine va_sld hx hb hX hbl hbA hS (by unfold vp_in; decide) dL_law_445 ?_
  refine lv_topi (fun y ey => ?_)
  obtain rfl : y = nI (j + 1) := ey.trans ((congrArg xs (by decide)).trans e2)
  refine lv_aload_n hx hb dL_law_446 rfl (lv_at hl 6 rfl) ?_
  refine lv_iload hx hb dL_law_447 (lv_at hl 1 rfl) ?_
  refine lv_iconst (v := 3) hx hb dL_law_449 (by decide) ?_
  refine lv_iadd hx hb dL_law_450 ?_
  refine lv_topi (fun y ey => ?_)
  obtain rfl : y = 3 := ey.trans (by decide)
  refine va_sld hx hb hX hbl hbA hS (by unfold vp_in; decide) dL_law_451 ?_
  refine lv_topi (fun y ey => ?_)
  obtain rfl : y = 0 := ey.trans ((congrArg xs (by decide)).trans ho)
  refine lv_if_eq (tgt := 459) hx hb dL_law_452 (by decide) (fun _ => ?_) (fun c => absurd (by decide) c)
  refine lv_iconst (v := 0) hx hb dL_law_459 (by decide) ?_
  refine lv_aload_n hx hb dL_law_460 rfl (lv_at hl 6 rfl) ?_
  refine lv_iload hx hb dL_law_461 (lv_at hl 1 rfl) ?_
  refine lv_iconst (v := 4) hx hb dL_law_463 (by decide) ?_
  refine lv_iadd hx hb dL_law_464 ?_
  refine lv_topi (fun y ey => ?_)
  obtain rfl : y = 4 := ey.trans (by decide)
  refine va_sld hx hb hX hbl hbA hS (by unfold vp_in; decide) dL_law_465 ?_
  refine lv_topi (fun y ey => ?_)
  obtain rfl : y = xs 4 := ey.trans (congrArg xs (by decide))
  refine mj_callV (wr := []) (wc := WM cy am eda 0) (As := [.int 0, .int (nI (j + 1)), .int 0, .int (xs 4)]) (rest := []) ⟨hx, hb, hml, hown, hts⟩ (a_endpoint_3 l D cy _ j 0 (xs 4) hj hz) (cwV 4 hts (goodL gL_law_X14_endpoint) rfl rfl rfl (by decide +kernel) ⟨by decide, by decide⟩) hK hN hP hD hS hA hJS (ci := 19) (q0 := 0) rfl rfl rfl rfl hl.1 rfl (Nat.le_of_ble_eq_true rfl) dL_law_466 ⟨Nat.le_of_ble_eq_true rfl, Nat.le_of_ble_eq_true rfl⟩ (fun H locs hB hJ hS => ?_)
  obtain ⟨hP1, hD1⟩ := hB
  obtain ⟨hP, hD⟩ := hJ _ hP1 hD1
  have hP : va_P D vwCl [(am 0, .inr (19, [.int 3, .ref (am 1), .ref (am 4), .ref (am 5), .ref (am 6), .ref (am 7), .ref (am 8), .int 0, .ref (am 9), .int 0, .int (-1), .int 100, .ref (am 10), .long 0, .int 0, .int 0, .int 0, .int 0, .long 0]))] H := hP
  have hD : va_D (fun q => s.heap.size ≤ q) [(am 0, .inr (19, [.int 3, .ref (am 1), .ref (am 4), .ref (am 5), .ref (am 6), .ref (am 7), .ref (am 8), .int 0, .ref (am 9), .int 0, .int (-1), .int 100, .ref (am 10), .long 0, .int 0, .int 0, .int 0, .int 0, .long 0]))] := hD
  refine lv_istore (lv' := [(7, .int 0), (6, .int 3), (5, .int 0), (4, .ref od), (3, .ref oa), (2, .ref (am 0)), (1, .ref (ad 0)), (0, .ref b)]) hx hb dL_law_469 hl (by decide) rfl (fun ls hl => ?_)
  refine lv_aload_n hx hb dL_law_471 rfl (lv_at hl 5 rfl) ?_
  refine ro_callV (As := []) (rest := []) ⟨hx, hb, hml, hown, hts⟩ (c_thrown l D cy _ 0 (am 0) 3 [.ref (am 1), .ref (am 4), .ref (am 5), .ref (am 6), .ref (am 7), .ref (am 8), .int 0, .ref (am 9), .int 0, .int (-1), .int 100, .ref (am 10), .long 0, .int 0, .int 0, .int 0, .int 0, .long 0] rfl) (cwV 0 hts (goodL gL_law_X14_thrown) rfl rfl rfl (by decide +kernel) ⟨by decide, by decide⟩) hK hN hP hS (ci := 19) (q0 := 0) rfl rfl rfl rfl hl.1 rfl (Nat.le_of_ble_eq_true rfl) dL_law_472 ⟨Nat.le_of_ble_eq_true rfl, Nat.le_of_ble_eq_true rfl⟩ (fun H locs hP hS => ?_)
  refine lv_iload hx hb dL_law_475 (lv_at hl 1 rfl) ?_
  refine lv_icmp_eq (tgt := 482) hx hb dL_law_477 (by decide) (fun _ => ?_) (fun c => absurd (by decide) c)
  refine lv_iload hx hb dL_law_482 (lv_at hl 1 rfl) ?_
  refine lv_if_ne (tgt := 499) hx hb dL_law_484 (by decide) (fun _ => ?_) (fun c => absurd c (by decide))
  refine lv_goto (tgt := 3117) hx hb dL_law_499 (by decide) ?_
  refine W.widen (k := 1000) (n := 10000) (Nat.le_of_ble_eq_true rfl) (Nat.le_of_ble_eq_true rfl) ?_
  exact hE _ _ _ hS (lv_sub hl [2, 3, 4, 5, 6, 7] rfl)

set_option maxRecDepth 100000 in
set_option maxHeartbeats 4000000 in
theorem law_endpoint_1b1 {p : Program} {e : Env} {s : State} {m : MethodId} {below : List Frame} {meth : Method} {c : Code} {l : Launch} (hfl : l.stackTraces = false) {b : Nat} {xs : Nat → Int32} {D : va_G} {cy : Nat → ClassId} {eda ca : Nat} {ia : Nat → Nat} (C0 : LawAt p s m meth c b xs D cy eda ca ia) {am : Nat → Nat} {ad : Nat → Nat} {rw_ : Nat → Nat → Option Nat} {w : va_W} (F : FrC cy ad rw_ w) {oa od : Nat} (hE : LawEnd p l e s m below meth c b (ad 0) (am 0) oa od) (hd : ¬ xs 1 = 0) (ho : ¬ xs 3 = 0) : LGoal p l e s m below meth c b D cy am eda w (ad 0) oa od 394 := by
  obtain ⟨hx, hb, hml, hown, hts, hX, hbl, hK, hN, hT, hJS⟩ := id C0
  have hA : ∀ q : Nat, s.heap.size ≤ q → (fun q => s.heap.size ≤ q) q := fun _ h => h
  have hbA : ¬ (fun q => s.heap.size ≤ q) b := Nat.not_le.mpr hbl
  intro H locs ls hP hD hS hl
  refine lv_aload_n hx hb dL_law_394 rfl (lv_at hl 4 rfl) ?_
  refine lv_aload_n hx hb dL_law_395 rfl (lv_at hl 5 rfl) ?_
  refine lv_iload hx hb dL_law_396 (lv_at hl 0 rfl) ?_
  refine lv_iconst (v := 1) hx hb dL_law_398 (by decide) ?_
  refine lv_iadd hx hb dL_law_399 ?_
  refine lv_topi (fun y ey => ?_)
  obtain rfl : y = 1 := ey.trans (by decide)
  refine va_sld hx hb hX hbl hbA hS (by unfold vp_in; decide) dL_law_400 ?_
  refine lv_topi (fun y ey => ?_)
  obtain rfl : y = xs 1 := ey.trans (congrArg xs (by decide))
  refine lv_aload_n hx hb dL_law_401 rfl (lv_at hl 5 rfl) ?_
  refine lv_iload hx hb dL_law_402 (lv_at hl 0 rfl) ?_
  refine lv_iconst (v := 2) hx hb dL_law_404 (by decide) ?_
  refine lv_iadd hx hb dL_law_405 ?_
  refine lv_topi (fun y ey => ?_)
  obtain rfl : y = 2 := ey.trans (by decide)
  refine va_sld hx hb hX hbl hbA hS (by unfold vp_in; decide) dL_law_406 ?_
  refine lv_topi (fun y ey => ?_)
  obtain rfl : y = xs 2 := ey.trans (congrArg xs (by decide))
  refine lv_aload_n hx hb dL_law_407 rfl (lv_at hl 5 rfl) ?_
  refine lv_iload hx hb dL_law_408 (lv_at hl 0 rfl) ?_
  refine lv_iconst (v := 3) hx hb dL_law_410 (by decide) ?_
  refine lv_iadd hx hb dL_law_411 ?_
  refine lv_topi (fun y ey => ?_)
  obtain rfl : y = 3 := ey.trans (by decide)
  refine va_sld hx hb hX hbl hbA hS (by unfold vp_in; decide) dL_law_412 ?_
  refine lv_topi (fun y ey => ?_)
  obtain rfl : y = xs 3 := ey.trans (congrArg xs (by decide))
  refine lv_if_eq (tgt := 420) hx hb dL_law_413 (by decide) (fun c => absurd c ho) (fun _ => ?_)
  refine lv_iconst (v := 1) hx hb dL_law_416 (by decide) ?_
  refine lv_goto (tgt := 421) hx hb dL_law_417 (by decide) ?_
  refine lv_aload_n hx hb dL_law_421 rfl (lv_at hl 5 rfl) ?_
  refine lv_iload hx hb dL_law_422 (lv_at hl 0 rfl) ?_
  refine lv_iconst (v := 4) hx hb dL_law_424 (by decide) ?_
  refine lv_iadd hx hb dL_law_425 ?_
  refine lv_topi (fun y ey => ?_)
  obtain rfl : y = 4 := ey.trans (by decide)
  refine va_sld hx hb hX hbl hbA hS (by unfold vp_in; decide) dL_law_426 ?_
  refine lv_topi (fun y ey => ?_)
  obtain rfl : y = xs 4 := ey.trans (congrArg xs (by decide))
  refine lv_aload_n hx hb dL_law_427 rfl (lv_at hl 2 rfl) ?_
  refine mw_callS (wr := WM cy am eda 0) (wc := OCL cy oa :: w) (As := [.ref (ad 0), .int (xs 1), .int (xs 2), .int 1, .int (xs 4), .ref oa]) (rest := []) ⟨hx, hb, hml, hown, hts⟩ (w_endpoint_1 l D cy F hfl oa (fun _ => 0) _ (xs 1) (xs 2) 1 (xs 4) hd) (vx_cwSW 6 hts (goodLW gL_law_L_endpoint) rfl rfl rfl (by decide +kernel) ⟨by decide, by decide⟩) hK hN hT (fun q hq => hS.2.1 q hq (Nat.not_le.mpr hq)) hP hD hS hA rfl hl.1 rfl (Nat.le_of_ble_eq_true rfl) dL_law_428 ⟨Nat.le_of_ble_eq_true rfl, Nat.le_of_ble_eq_true rfl⟩ (fun H locs hB hJ hS => ?_)
  obtain ⟨hP, hD⟩ := hJ [] (fun k q h => by simp at h) ⟨fun i j p q h => by simp at h, fun k q h => by simp at h⟩
  have hP : va_P D vwCl (WM cy am eda 0) H := hP
  have hD : va_D (fun q => s.heap.size ≤ q) (WM cy am eda 0) := hD
  refine lv_istore (lv' := [(6, .int 1), (5, .int 0), (4, .ref od), (3, .ref oa), (2, .ref (am 0)), (1, .ref (ad 0)), (0, .ref b)]) hx hb dL_law_431 hl (by decide) rfl (fun ls hl => ?_)
  refine lv_aload_n hx hb dL_law_433 rfl (lv_at hl 4 rfl) ?_
  refine lv_aload_n hx hb dL_law_434 rfl (lv_at hl 6 rfl) ?_
  refine lv_iload hx hb dL_law_435 (lv_at hl 1 rfl) ?_
  refine lv_iconst (v := 1) hx hb dL_law_437 (by decide) ?_
  refine lv_iadd hx hb dL_law_438 ?_
  refine lv_topi (fun y ey => ?_)
  obtain rfl : y = 1 := ey.trans (by decide)
  refine va_sld hx hb hX hbl hbA hS (by unfold vp_in; decide) dL_law_439 ?_
  refine lv_topi (fun y ey => ?_)
  obtain rfl : y = xs 1 := ey.trans (congrArg xs (by decide))
  refine lv_aload_n hx hb dL_law_440 rfl (lv_at hl 6 rfl) ?_
  refine lv_iload hx hb dL_law_441 (lv_at hl 1 rfl) ?_
  refine lv_iconst (v := 2) hx hb dL_law_443 (by decide) ?_
  refine lv_iadd hx hb dL_law_444 ?_
  refine lv_topi (fun y ey => ?_)
  obtain rfl : y = 2 := ey.trans (by decide)
  refine va_sld hx hb hX hbl hbA hS (by unfold vp_in; decide) dL_law_445 ?_
  refine lv_topi (fun y ey => ?_)
  obtain rfl : y = xs 2 := ey.trans (congrArg xs (by decide))
  refine lv_aload_n hx hb dL_law_446 rfl (lv_at hl 6 rfl) ?_
  refine lv_iload hx hb dL_law_447 (lv_at hl 1 rfl) ?_
  refine lv_iconst (v := 3) hx hb dL_law_449 (by decide) ?_
  refine lv_iadd hx hb dL_law_450 ?_
  refine lv_topi (fun y ey => ?_)
  obtain rfl : y = 3 := ey.trans (by decide)
  refine va_sld hx hb hX hbl hbA hS (by unfold vp_in; decide) dL_law_451 ?_
  refine lv_topi (fun y ey => ?_)
  obtain rfl : y = xs 3 := ey.trans (congrArg xs (by decide))
  refine lv_if_eq (tgt := 459) hx hb dL_law_452 (by decide) (fun c => absurd c ho) (fun _ => ?_)
  refine lv_iconst (v := 1) hx hb dL_law_455 (by decide) ?_
  refine lv_goto (tgt := 460) hx hb dL_law_456 (by decide) ?_
  refine lv_aload_n hx hb dL_law_460 rfl (lv_at hl 6 rfl) ?_
  refine lv_iload hx hb dL_law_461 (lv_at hl 1 rfl) ?_
  refine lv_iconst (v := 4) hx hb dL_law_463 (by decide) ?_
  refine lv_iadd hx hb dL_law_464 ?_
  refine lv_topi (fun y ey => ?_)
  obtain rfl : y = 4 := ey.trans (by decide)
  refine va_sld hx hb hX hbl hbA hS (by unfold vp_in; decide) dL_law_465 ?_
  refine lv_topi (fun y ey => ?_)
  obtain rfl : y = xs 4 := ey.trans (congrArg xs (by decide))
  refine mj_callV (wr := []) (wc := WM cy am eda 0) (As := [.int (xs 1), .int (xs 2), .int 1, .int (xs 4)]) (rest := []) ⟨hx, hb, hml, hown, hts⟩ (a_endpoint_1 l D cy _ (xs 1) (xs 2) 1 (xs 4) hd) (cwV 4 hts (goodL gL_law_X14_endpoint) rfl rfl rfl (by decide +kernel) ⟨by decide, by decide⟩) hK hN hP hD hS hA hJS (ci := 19) (q0 := 0) rfl rfl rfl rfl hl.1 rfl (Nat.le_of_ble_eq_true rfl) dL_law_466 ⟨Nat.le_of_ble_eq_true rfl, Nat.le_of_ble_eq_true rfl⟩ (fun H locs hB hJ hS => ?_)
  obtain ⟨hP1, hD1⟩ := hB
  obtain ⟨hP, hD⟩ := hJ _ hP1 hD1
  have hP : va_P D vwCl [(am 0, .inr (19, [.int 1, .ref (am 1), .ref (am 4), .ref (am 5), .ref (am 6), .ref (am 7), .ref (am 8), .int 0, .ref (am 9), .int 0, .int (-1), .int 100, .ref (am 10), .long 0, .int 0, .int 0, .int 0, .int 0, .long 0]))] H := hP
  have hD : va_D (fun q => s.heap.size ≤ q) [(am 0, .inr (19, [.int 1, .ref (am 1), .ref (am 4), .ref (am 5), .ref (am 6), .ref (am 7), .ref (am 8), .int 0, .ref (am 9), .int 0, .int (-1), .int 100, .ref (am 10), .long 0, .int 0, .int 0, .int 0, .int 0, .long 0]))] := hD
  refine lv_istore (lv' := [(7, .int 0), (6, .int 1), (5, .int 0), (4, .ref od), (3, .ref oa), (2, .ref (am 0)), (1, .ref (ad 0)), (0, .ref b)]) hx hb dL_law_469 hl (by decide) rfl (fun ls hl => ?_)
  refine lv_aload_n hx hb dL_law_471 rfl (lv_at hl 5 rfl) ?_
  refine ro_callV (As := []) (rest := []) ⟨hx, hb, hml, hown, hts⟩ (c_thrown l D cy _ 0 (am 0) 1 [.ref (am 1), .ref (am 4), .ref (am 5), .ref (am 6), .ref (am 7), .ref (am 8), .int 0, .ref (am 9), .int 0, .int (-1), .int 100, .ref (am 10), .long 0, .int 0, .int 0, .int 0, .int 0, .long 0] rfl) (cwV 0 hts (goodL gL_law_X14_thrown) rfl rfl rfl (by decide +kernel) ⟨by decide, by decide⟩) hK hN hP hS (ci := 19) (q0 := 0) rfl rfl rfl rfl hl.1 rfl (Nat.le_of_ble_eq_true rfl) dL_law_472 ⟨Nat.le_of_ble_eq_true rfl, Nat.le_of_ble_eq_true rfl⟩ (fun H locs hP hS => ?_)
  refine lv_iload hx hb dL_law_475 (lv_at hl 1 rfl) ?_
  refine lv_icmp_eq (tgt := 482) hx hb dL_law_477 (by decide) (fun _ => ?_) (fun c => absurd (by decide) c)
  refine lv_iload hx hb dL_law_482 (lv_at hl 1 rfl) ?_
  refine lv_if_ne (tgt := 499) hx hb dL_law_484 (by decide) (fun _ => ?_) (fun c => absurd c (by decide))
  refine lv_goto (tgt := 3117) hx hb dL_law_499 (by decide) ?_
  refine W.widen (k := 1000) (n := 10000) (Nat.le_of_ble_eq_true rfl) (Nat.le_of_ble_eq_true rfl) ?_
  exact hE _ _ _ hS (lv_sub hl [2, 3, 4, 5, 6, 7] rfl)

set_option maxRecDepth 100000 in
set_option maxHeartbeats 4000000 in
theorem law_endpoint_2b1 {p : Program} {e : Env} {s : State} {m : MethodId} {below : List Frame} {meth : Method} {c : Code} {l : Launch} (hfl : l.stackTraces = false) {b : Nat} {xs : Nat → Int32} {D : va_G} {cy : Nat → ClassId} {eda ca : Nat} {ia : Nat → Nat} (C0 : LawAt p s m meth c b xs D cy eda ca ia) {am : Nat → Nat} {ad : Nat → Nat} {rw_ : Nat → Nat → Option Nat} {w : va_W} (F : FrC cy ad rw_ w) {oa od : Nat} (hE : LawEnd p l e s m below meth c b (ad 0) (am 0) oa od) (e1 : xs 1 = 0) (h : ¬ ((¬ xs 2 < 1 ∧ ¬ 3 < xs 2) ∧ (¬ xs 4 < 1 ∧ ¬ 8 < xs 4))) (ho : ¬ xs 3 = 0) : LGoal p l e s m below meth c b D cy am eda w (ad 0) oa od 394 := by
  obtain ⟨hx, hb, hml, hown, hts, hX, hbl, hK, hN, hT, hJS⟩ := id C0
  have hA : ∀ q : Nat, s.heap.size ≤ q → (fun q => s.heap.size ≤ q) q := fun _ h => h
  have hbA : ¬ (fun q => s.heap.size ≤ q) b := Nat.not_le.mpr hbl
  intro H locs ls hP hD hS hl
  refine lv_aload_n hx hb dL_law_394 rfl (lv_at hl 4 rfl) ?_
  refine lv_aload_n hx hb dL_law_395 rfl (lv_at hl 5 rfl) ?_
  refine lv_iload hx hb dL_law_396 (lv_at hl 0 rfl) ?_
  refine lv_iconst (v := 1) hx hb dL_law_398 (by decide) ?_
  refine lv_iadd hx hb dL_law_399 ?_
  refine lv_topi (fun y ey => ?_)
  obtain rfl : y = 1 := ey.trans (by decide)
  refine va_sld hx hb hX hbl hbA hS (by unfold vp_in; decide) dL_law_400 ?_
  refine lv_topi (fun y ey => ?_)
  obtain rfl : y = 0 := ey.trans ((congrArg xs (by decide)).trans e1)
  refine lv_aload_n hx hb dL_law_401 rfl (lv_at hl 5 rfl) ?_
  refine lv_iload hx hb dL_law_402 (lv_at hl 0 rfl) ?_
  refine lv_iconst (v := 2) hx hb dL_law_404 (by decide) ?_
  refine lv_iadd hx hb dL_law_405 ?_
  refine lv_topi (fun y ey => ?_)
  obtain rfl : y = 2 := ey.trans (by decide)
  refine va_sld hx hb hX hbl hbA hS (by unfold vp_in; decide) dL_law_406 ?_
  refine lv_topi (fun y ey => ?_)
  obtain rfl : y = xs 2 := ey.trans (congrArg xs (by decide))
  refine lv_aload_n hx hb dL_law_407 rfl (lv_at hl 5 rfl) ?_
  refine lv_iload hx hb dL_law_408 (lv_at hl 0 rfl) ?_
  refine lv_iconst (v := 3) hx hb dL_law_410 (by decide) ?_
  refine lv_iadd hx hb dL_law_411 ?_
  refine lv_topi (fun y ey => ?_)
  obtain rfl : y = 3 := ey.trans (by decide)
  refine va_sld hx hb hX hbl hbA hS (by unfold vp_in; decide) dL_law_412 ?_
  refine lv_topi (fun y ey => ?_)
  obtain rfl : y = xs 3 := ey.trans (congrArg xs (by decide))
  refine lv_if_eq (tgt := 420) hx hb dL_law_413 (by decide) (fun c => absurd c ho) (fun _ => ?_)
  refine lv_iconst (v := 1) hx hb dL_law_416 (by decide) ?_
  refine lv_goto (tgt := 421) hx hb dL_law_417 (by decide) ?_
  refine lv_aload_n hx hb dL_law_421 rfl (lv_at hl 5 rfl) ?_
  refine lv_iload hx hb dL_law_422 (lv_at hl 0 rfl) ?_
  refine lv_iconst (v := 4) hx hb dL_law_424 (by decide) ?_
  refine lv_iadd hx hb dL_law_425 ?_
  refine lv_topi (fun y ey => ?_)
  obtain rfl : y = 4 := ey.trans (by decide)
  refine va_sld hx hb hX hbl hbA hS (by unfold vp_in; decide) dL_law_426 ?_
  refine lv_topi (fun y ey => ?_)
  obtain rfl : y = xs 4 := ey.trans (congrArg xs (by decide))
  refine lv_aload_n hx hb dL_law_427 rfl (lv_at hl 2 rfl) ?_
  refine mw_callS (wr := WM cy am eda 0) (wc := OCL cy oa :: w) (As := [.ref (ad 0), .int 0, .int (xs 2), .int 1, .int (xs 4), .ref oa]) (rest := []) ⟨hx, hb, hml, hown, hts⟩ (w_endpoint_2 l D cy F hfl oa (fun _ => 0) _ (xs 2) 1 (xs 4) h) (vx_cwSW 6 hts (goodLW gL_law_L_endpoint) rfl rfl rfl (by decide +kernel) ⟨by decide, by decide⟩) hK hN hT (fun q hq => hS.2.1 q hq (Nat.not_le.mpr hq)) hP hD hS hA rfl hl.1 rfl (Nat.le_of_ble_eq_true rfl) dL_law_428 ⟨Nat.le_of_ble_eq_true rfl, Nat.le_of_ble_eq_true rfl⟩ (fun H locs hB hJ hS => ?_)
  obtain ⟨hP, hD⟩ := hJ [] (fun k q h => by simp at h) ⟨fun i j p q h => by simp at h, fun k q h => by simp at h⟩
  have hP : va_P D vwCl (WM cy am eda 0) H := hP
  have hD : va_D (fun q => s.heap.size ≤ q) (WM cy am eda 0) := hD
  refine lv_istore (lv' := [(6, .int 2), (5, .int 0), (4, .ref od), (3, .ref oa), (2, .ref (am 0)), (1, .ref (ad 0)), (0, .ref b)]) hx hb dL_law_431 hl (by decide) rfl (fun ls hl => ?_)
  refine lv_aload_n hx hb dL_law_433 rfl (lv_at hl 4 rfl) ?_
  refine lv_aload_n hx hb dL_law_434 rfl (lv_at hl 6 rfl) ?_
  refine lv_iload hx hb dL_law_435 (lv_at hl 1 rfl) ?_
  refine lv_iconst (v := 1) hx hb dL_law_437 (by decide) ?_
  refine lv_iadd hx hb dL_law_438 ?_
  refine lv_topi (fun y ey => ?_)
  obtain rfl : y = 1 := ey.trans (by decide)
  refine va_sld hx hb hX hbl hbA hS (by unfold vp_in; decide) dL_law_439 ?_
  refine lv_topi (fun y ey => ?_)
  obtain rfl : y = 0 := ey.trans ((congrArg xs (by decide)).trans e1)
  refine lv_aload_n hx hb dL_law_440 rfl (lv_at hl 6 rfl) ?_
  refine lv_iload hx hb dL_law_441 (lv_at hl 1 rfl) ?_
  refine lv_iconst (v := 2) hx hb dL_law_443 (by decide) ?_
  refine lv_iadd hx hb dL_law_444 ?_
  refine lv_topi (fun y ey => ?_)
  obtain rfl : y = 2 := ey.trans (by decide)
  refine va_sld hx hb hX hbl hbA hS (by unfold vp_in; decide) dL_law_445 ?_
  refine lv_topi (fun y ey => ?_)
  obtain rfl : y = xs 2 := ey.trans (congrArg xs (by decide))
  refine lv_aload_n hx hb dL_law_446 rfl (lv_at hl 6 rfl) ?_
  refine lv_iload hx hb dL_law_447 (lv_at hl 1 rfl) ?_
  refine lv_iconst (v := 3) hx hb dL_law_449 (by decide) ?_
  refine lv_iadd hx hb dL_law_450 ?_
  refine lv_topi (fun y ey => ?_)
  obtain rfl : y = 3 := ey.trans (by decide)
  refine va_sld hx hb hX hbl hbA hS (by unfold vp_in; decide) dL_law_451 ?_
  refine lv_topi (fun y ey => ?_)
  obtain rfl : y = xs 3 := ey.trans (congrArg xs (by decide))
  refine lv_if_eq (tgt := 459) hx hb dL_law_452 (by decide) (fun c => absurd c ho) (fun _ => ?_)
  refine lv_iconst (v := 1) hx hb dL_law_455 (by decide) ?_
  refine lv_goto (tgt := 460) hx hb dL_law_456 (by decide) ?_
  refine lv_aload_n hx hb dL_law_460 rfl (lv_at hl 6 rfl) ?_
  refine lv_iload hx hb dL_law_461 (lv_at hl 1 rfl) ?_
  refine lv_iconst (v := 4) hx hb dL_law_463 (by decide) ?_
  refine lv_iadd hx hb dL_law_464 ?_
  refine lv_topi (fun y ey => ?_)
  obtain rfl : y = 4 := ey.trans (by decide)
  refine va_sld hx hb hX hbl hbA hS (by unfold vp_in; decide) dL_law_465 ?_
  refine lv_topi (fun y ey => ?_)
  obtain rfl : y = xs 4 := ey.trans (congrArg xs (by decide))
  refine mj_callV (wr := []) (wc := WM cy am eda 0) (As := [.int 0, .int (xs 2), .int 1, .int (xs 4)]) (rest := []) ⟨hx, hb, hml, hown, hts⟩ (a_endpoint_2 l D cy _ (xs 2) 1 (xs 4) h) (cwV 4 hts (goodL gL_law_X14_endpoint) rfl rfl rfl (by decide +kernel) ⟨by decide, by decide⟩) hK hN hP hD hS hA hJS (ci := 19) (q0 := 0) rfl rfl rfl rfl hl.1 rfl (Nat.le_of_ble_eq_true rfl) dL_law_466 ⟨Nat.le_of_ble_eq_true rfl, Nat.le_of_ble_eq_true rfl⟩ (fun H locs hB hJ hS => ?_)
  obtain ⟨hP1, hD1⟩ := hB
  obtain ⟨hP, hD⟩ := hJ _ hP1 hD1
  have hP : va_P D vwCl [(am 0, .inr (19, [.int 2, .ref (am 1), .ref (am 4), .ref (am 5), .ref (am 6), .ref (am 7), .ref (am 8), .int 0, .ref (am 9), .int 0, .int (-1), .int 100, .ref (am 10), .long 0, .int 0, .int 0, .int 0, .int 0, .long 0]))] H := hP
  have hD : va_D (fun q => s.heap.size ≤ q) [(am 0, .inr (19, [.int 2, .ref (am 1), .ref (am 4), .ref (am 5), .ref (am 6), .ref (am 7), .ref (am 8), .int 0, .ref (am 9), .int 0, .int (-1), .int 100, .ref (am 10), .long 0, .int 0, .int 0, .int 0, .int 0, .long 0]))] := hD
  refine lv_istore (lv' := [(7, .int 0), (6, .int 2), (5, .int 0), (4, .ref od), (3, .ref oa), (2, .ref (am 0)), (1, .ref (ad 0)), (0, .ref b)]) hx hb dL_law_469 hl (by decide) rfl (fun ls hl => ?_)
  refine lv_aload_n hx hb dL_law_471 rfl (lv_at hl 5 rfl) ?_
  refine ro_callV (As := []) (rest := []) ⟨hx, hb, hml, hown, hts⟩ (c_thrown l D cy _ 0 (am 0) 2 [.ref (am 1), .ref (am 4), .ref (am 5), .ref (am 6), .ref (am 7), .ref (am 8), .int 0, .ref (am 9), .int 0, .int (-1), .int 100, .ref (am 10), .long 0, .int 0, .int 0, .int 0, .int 0, .long 0] rfl) (cwV 0 hts (goodL gL_law_X14_thrown) rfl rfl rfl (by decide +kernel) ⟨by decide, by decide⟩) hK hN hP hS (ci := 19) (q0 := 0) rfl rfl rfl rfl hl.1 rfl (Nat.le_of_ble_eq_true rfl) dL_law_472 ⟨Nat.le_of_ble_eq_true rfl, Nat.le_of_ble_eq_true rfl⟩ (fun H locs hP hS => ?_)
  refine lv_iload hx hb dL_law_475 (lv_at hl 1 rfl) ?_
  refine lv_icmp_eq (tgt := 482) hx hb dL_law_477 (by decide) (fun _ => ?_) (fun c => absurd (by decide) c)
  refine lv_iload hx hb dL_law_482 (lv_at hl 1 rfl) ?_
  refine lv_if_ne (tgt := 499) hx hb dL_law_484 (by decide) (fun _ => ?_) (fun c => absurd c (by decide))
  refine lv_goto (tgt := 3117) hx hb dL_law_499 (by decide) ?_
  refine W.widen (k := 1000) (n := 10000) (Nat.le_of_ble_eq_true rfl) (Nat.le_of_ble_eq_true rfl) ?_
  exact hE _ _ _ hS (lv_sub hl [2, 3, 4, 5, 6, 7] rfl)

set_option maxRecDepth 100000 in
set_option maxHeartbeats 4000000 in
theorem law_endpoint_3b1 {p : Program} {e : Env} {s : State} {m : MethodId} {below : List Frame} {meth : Method} {c : Code} {l : Launch} (hfl : l.stackTraces = false) {b : Nat} {xs : Nat → Int32} {D : va_G} {cy : Nat → ClassId} {eda ca : Nat} {ia : Nat → Nat} (C0 : LawAt p s m meth c b xs D cy eda ca ia) {am : Nat → Nat} {ad : Nat → Nat} {rw_ : Nat → Nat → Option Nat} {w : va_W} (F : FrC cy ad rw_ w) {oa od : Nat} (hE : LawEnd p l e s m below meth c b (ad 0) (am 0) oa od) (j : Nat) (hj : j < 3) (e1 : xs 1 = 0) (e2 : xs 2 = nI (j + 1)) (hz : ¬ xs 4 < 1 ∧ ¬ 8 < xs 4) (ho : ¬ xs 3 = 0) : LGoal p l e s m below meth c b D cy am eda w (ad 0) oa od 394 := by
  obtain ⟨hx, hb, hml, hown, hts, hX, hbl, hK, hN, hT, hJS⟩ := id C0
  have hA : ∀ q : Nat, s.heap.size ≤ q → (fun q => s.heap.size ≤ q) q := fun _ h => h
  have hbA : ¬ (fun q => s.heap.size ≤ q) b := Nat.not_le.mpr hbl
  intro H locs ls hP hD hS hl
  refine lv_aload_n hx hb dL_law_394 rfl (lv_at hl 4 rfl) ?_
  refine lv_aload_n hx hb dL_law_395 rfl (lv_at hl 5 rfl) ?_
  refine lv_iload hx hb dL_law_396 (lv_at hl 0 rfl) ?_
  refine lv_iconst (v := 1) hx hb dL_law_398 (by decide) ?_
  refine lv_iadd hx hb dL_law_399 ?_
  refine lv_topi (fun y ey => ?_)
  obtain rfl : y = 1 := ey.trans (by decide)
  refine va_sld hx hb hX hbl hbA hS (by unfold vp_in; decide) dL_law_400 ?_
  refine lv_topi (fun y ey => ?_)
  obtain rfl : y = 0 := ey.trans ((congrArg xs (by decide)).trans e1)
  refine lv_aload_n hx hb dL_law_401 rfl (lv_at hl 5 rfl) ?_
  refine lv_iload hx hb dL_law_402 (lv_at hl 0 rfl) ?_
  refine lv_iconst (v := 2) hx hb dL_law_404 (by decide) ?_
  refine lv_iadd hx hb dL_law_405 ?_
  refine lv_topi (fun y ey => ?_)
  obtain rfl : y = 2 := ey.trans (by decide)
  refine va_sld hx hb hX hbl hbA hS (by unfold vp_in; decide) dL_law_406 ?_
  refine lv_topi (fun y ey => ?_)
  obtain rfl : y = nI (j + 1) := ey.trans ((congrArg xs (by decide)).trans e2)
  refine lv_aload_n hx hb dL_law_407 rfl (lv_at hl 5 rfl) ?_
  refine lv_iload hx hb dL_law_408 (lv_at hl 0 rfl) ?_
  refine lv_iconst (v := 3) hx hb dL_law_410 (by decide) ?_
  refine lv_iadd hx hb dL_law_411 ?_
  refine lv_topi (fun y ey => ?_)
  obtain rfl : y = 3 := ey.trans (by decide)
  refine va_sld hx hb hX hbl hbA hS (by unfold vp_in; decide) dL_law_412 ?_
  refine lv_topi (fun y ey => ?_)
  obtain rfl : y = xs 3 := ey.trans (congrArg xs (by decide))
  refine lv_if_eq (tgt := 420) hx hb dL_law_413 (by decide) (fun c => absurd c ho) (fun _ => ?_)
  refine lv_iconst (v := 1) hx hb dL_law_416 (by decide) ?_
  refine lv_goto (tgt := 421) hx hb dL_law_417 (by decide) ?_
  refine lv_aload_n hx hb dL_law_421 rfl (lv_at hl 5 rfl) ?_
  refine lv_iload hx hb dL_law_422 (lv_at hl 0 rfl) ?_
  refine lv_iconst (v := 4) hx hb dL_law_424 (by decide) ?_
  refine lv_iadd hx hb dL_law_425 ?_
  refine lv_topi (fun y ey => ?_)
  obtain rfl : y = 4 := ey.trans (by decide)
  refine va_sld hx hb hX hbl hbA hS (by unfold vp_in; decide) dL_law_426 ?_
  refine lv_topi (fun y ey => ?_)
  obtain rfl : y = xs 4 := ey.trans (congrArg xs (by decide))
  refine lv_aload_n hx hb dL_law_427 rfl (lv_at hl 2 rfl) ?_
  refine mw_callS (wr := WM cy am eda 0) (wc := OCL cy oa :: w) (As := [.ref (ad 0), .int 0, .int (nI (j + 1)), .int 1, .int (xs 4), .ref oa]) (rest := []) ⟨hx, hb, hml, hown, hts⟩ (w_endpoint_3 l D cy F hfl oa (fun _ => 0) _ j 1 (xs 4) hj hz) (vx_cwSW 6 hts (goodLW gL_law_L_endpoint) rfl rfl rfl (by decide +kernel) ⟨by decide, by decide⟩) hK hN hT (fun q hq => hS.2.1 q hq (Nat.not_le.mpr hq)) hP hD hS hA rfl hl.1 rfl (Nat.le_of_ble_eq_true rfl) dL_law_428 ⟨Nat.le_of_ble_eq_true rfl, Nat.le_of_ble_eq_true rfl⟩ (fun H locs hB hJ hS => ?_)
  obtain ⟨hP, hD⟩ := hJ [] (fun k q h => by simp at h) ⟨fun i j p q h => by simp at h, fun k q h => by simp at h⟩
  have hP : va_P D vwCl (WM cy am eda 0) H := hP
  have hD : va_D (fun q => s.heap.size ≤ q) (WM cy am eda 0) := hD
  refine lv_istore (lv' := [(6, .int 3), (5, .int 0), (4, .ref od), (3, .ref oa), (2, .ref (am 0)), (1, .ref (ad 0)), (0, .ref b)]) hx hb dL_law_431 hl (by decide) rfl (fun ls hl => ?_)
  refine lv_aload_n hx hb dL_law_433 rfl (lv_at hl 4 rfl) ?_
  refine lv_aload_n hx hb dL_law_434 rfl (lv_at hl 6 rfl) ?_
  refine lv_iload hx hb dL_law_435 (lv_at hl 1 rfl) ?_
  refine lv_iconst (v := 1) hx hb dL_law_437 (by decide) ?_
  refine lv_iadd hx hb dL_law_438 ?_
  refine lv_topi (fun y ey => ?_)
  obtain rfl : y = 1 := ey.trans (by decide)
  refine va_sld hx hb hX hbl hbA hS (by unfold vp_in; decide) dL_law_439 ?_
  refine lv_topi (fun y ey => ?_)
  obtain rfl : y = 0 := ey.trans ((congrArg xs (by decide)).trans e1)
  refine lv_aload_n hx hb dL_law_440 rfl (lv_at hl 6 rfl) ?_
  refine lv_iload hx hb dL_law_441 (lv_at hl 1 rfl) ?_
  refine lv_iconst (v := 2) hx hb dL_law_443 (by decide) ?_
  refine lv_iadd hx hb dL_law_444 ?_
  refine lv_topi (fun y ey => ?_)
  obtain rfl : y = 2 := ey.trans (by decide)
  refine va_sld hx hb hX hbl hbA hS (by unfold vp_in; decide) dL_law_445 ?_
  refine lv_topi (fun y ey => ?_)
  obtain rfl : y = nI (j + 1) := ey.trans ((congrArg xs (by decide)).trans e2)
  refine lv_aload_n hx hb dL_law_446 rfl (lv_at hl 6 rfl) ?_
  refine lv_iload hx hb dL_law_447 (lv_at hl 1 rfl) ?_
  refine lv_iconst (v := 3) hx hb dL_law_449 (by decide) ?_
  refine lv_iadd hx hb dL_law_450 ?_
  refine lv_topi (fun y ey => ?_)
  obtain rfl : y = 3 := ey.trans (by decide)
  refine va_sld hx hb hX hbl hbA hS (by unfold vp_in; decide) dL_law_451 ?_
  refine lv_topi (fun y ey => ?_)
  obtain rfl : y = xs 3 := ey.trans (congrArg xs (by decide))
  refine lv_if_eq (tgt := 459) hx hb dL_law_452 (by decide) (fun c => absurd c ho) (fun _ => ?_)
  refine lv_iconst (v := 1) hx hb dL_law_455 (by decide) ?_
  refine lv_goto (tgt := 460) hx hb dL_law_456 (by decide) ?_
  refine lv_aload_n hx hb dL_law_460 rfl (lv_at hl 6 rfl) ?_
  refine lv_iload hx hb dL_law_461 (lv_at hl 1 rfl) ?_
  refine lv_iconst (v := 4) hx hb dL_law_463 (by decide) ?_
  refine lv_iadd hx hb dL_law_464 ?_
  refine lv_topi (fun y ey => ?_)
  obtain rfl : y = 4 := ey.trans (by decide)
  refine va_sld hx hb hX hbl hbA hS (by unfold vp_in; decide) dL_law_465 ?_
  refine lv_topi (fun y ey => ?_)
  obtain rfl : y = xs 4 := ey.trans (congrArg xs (by decide))
  refine mj_callV (wr := []) (wc := WM cy am eda 0) (As := [.int 0, .int (nI (j + 1)), .int 1, .int (xs 4)]) (rest := []) ⟨hx, hb, hml, hown, hts⟩ (a_endpoint_3 l D cy _ j 1 (xs 4) hj hz) (cwV 4 hts (goodL gL_law_X14_endpoint) rfl rfl rfl (by decide +kernel) ⟨by decide, by decide⟩) hK hN hP hD hS hA hJS (ci := 19) (q0 := 0) rfl rfl rfl rfl hl.1 rfl (Nat.le_of_ble_eq_true rfl) dL_law_466 ⟨Nat.le_of_ble_eq_true rfl, Nat.le_of_ble_eq_true rfl⟩ (fun H locs hB hJ hS => ?_)
  obtain ⟨hP1, hD1⟩ := hB
  obtain ⟨hP, hD⟩ := hJ _ hP1 hD1
  have hP : va_P D vwCl [(am 0, .inr (19, [.int 3, .ref (am 1), .ref (am 4), .ref (am 5), .ref (am 6), .ref (am 7), .ref (am 8), .int 0, .ref (am 9), .int 0, .int (-1), .int 100, .ref (am 10), .long 0, .int 0, .int 0, .int 0, .int 0, .long 0]))] H := hP
  have hD : va_D (fun q => s.heap.size ≤ q) [(am 0, .inr (19, [.int 3, .ref (am 1), .ref (am 4), .ref (am 5), .ref (am 6), .ref (am 7), .ref (am 8), .int 0, .ref (am 9), .int 0, .int (-1), .int 100, .ref (am 10), .long 0, .int 0, .int 0, .int 0, .int 0, .long 0]))] := hD
  refine lv_istore (lv' := [(7, .int 0), (6, .int 3), (5, .int 0), (4, .ref od), (3, .ref oa), (2, .ref (am 0)), (1, .ref (ad 0)), (0, .ref b)]) hx hb dL_law_469 hl (by decide) rfl (fun ls hl => ?_)
  refine lv_aload_n hx hb dL_law_471 rfl (lv_at hl 5 rfl) ?_
  refine ro_callV (As := []) (rest := []) ⟨hx, hb, hml, hown, hts⟩ (c_thrown l D cy _ 0 (am 0) 3 [.ref (am 1), .ref (am 4), .ref (am 5), .ref (am 6), .ref (am 7), .ref (am 8), .int 0, .ref (am 9), .int 0, .int (-1), .int 100, .ref (am 10), .long 0, .int 0, .int 0, .int 0, .int 0, .long 0] rfl) (cwV 0 hts (goodL gL_law_X14_thrown) rfl rfl rfl (by decide +kernel) ⟨by decide, by decide⟩) hK hN hP hS (ci := 19) (q0 := 0) rfl rfl rfl rfl hl.1 rfl (Nat.le_of_ble_eq_true rfl) dL_law_472 ⟨Nat.le_of_ble_eq_true rfl, Nat.le_of_ble_eq_true rfl⟩ (fun H locs hP hS => ?_)
  refine lv_iload hx hb dL_law_475 (lv_at hl 1 rfl) ?_
  refine lv_icmp_eq (tgt := 482) hx hb dL_law_477 (by decide) (fun _ => ?_) (fun c => absurd (by decide) c)
  refine lv_iload hx hb dL_law_482 (lv_at hl 1 rfl) ?_
  refine lv_if_ne (tgt := 499) hx hb dL_law_484 (by decide) (fun _ => ?_) (fun c => absurd c (by decide))
  refine lv_goto (tgt := 3117) hx hb dL_law_499 (by decide) ?_
  refine W.widen (k := 1000) (n := 10000) (Nat.le_of_ble_eq_true rfl) (Nat.le_of_ble_eq_true rfl) ?_
  exact hE _ _ _ hS (lv_sub hl [2, 3, 4, 5, 6, 7] rfl)

set_option maxRecDepth 100000 in
set_option maxHeartbeats 4000000 in
theorem law_plug_1a {p : Program} {e : Env} {s : State} {m : MethodId} {below : List Frame} {meth : Method} {c : Code} {l : Launch} (hfl : l.stackTraces = false) {b : Nat} {xs : Nat → Int32} {D : va_G} {cy : Nat → ClassId} {eda ca : Nat} {ia : Nat → Nat} (C0 : LawAt p s m meth c b xs D cy eda ca ia) {am : Nat → Nat} {ad : Nat → Nat} {rw_ : Nat → Nat → Option Nat} {w : va_W} (F : FrC cy ad rw_ w) {oa od : Nat} (hE : LawEnd p l e s m below meth c b (ad 0) (am 0) oa od) (hd : ¬ xs 1 = 0) : LGoal p l e s m below meth c b D cy am eda w (ad 0) oa od 502 := by
  obtain ⟨hx, hb, hml, hown, hts, hX, hbl, hK, hN, hT, hJS⟩ := id C0
  have hA : ∀ q : Nat, s.heap.size ≤ q → (fun q => s.heap.size ≤ q) q := fun _ h => h
  have hbA : ¬ (fun q => s.heap.size ≤ q) b := Nat.not_le.mpr hbl
  intro H locs ls hP hD hS hl
  refine lv_aload_n hx hb dL_law_502 rfl (lv_at hl 4 rfl) ?_
  refine lv_aload_n hx hb dL_law_503 rfl (lv_at hl 5 rfl) ?_
  refine lv_iload hx hb dL_law_504 (lv_at hl 0 rfl) ?_
  refine lv_iconst (v := 1) hx hb dL_law_506 (by decide) ?_
  refine lv_iadd hx hb dL_law_507 ?_
  refine lv_topi (fun y ey => ?_)
  obtain rfl : y = 1 := ey.trans (by decide)
  refine va_sld hx hb hX hbl hbA hS (by unfold vp_in; decide) dL_law_508 ?_
  refine lv_topi (fun y ey => ?_)
  obtain rfl : y = xs 1 := ey.trans (congrArg xs (by decide))
  refine lv_aload_n hx hb dL_law_509 rfl (lv_at hl 5 rfl) ?_
  refine lv_iload hx hb dL_law_510 (lv_at hl 0 rfl) ?_
  refine lv_iconst (v := 2) hx hb dL_law_512 (by decide) ?_
  refine lv_iadd hx hb dL_law_513 ?_
  refine lv_topi (fun y ey => ?_)
  obtain rfl : y = 2 := ey.trans (by decide)
  refine va_sld hx hb hX hbl hbA hS (by unfold vp_in; decide) dL_law_514 ?_
  refine lv_topi (fun y ey => ?_)
  obtain rfl : y = xs 2 := ey.trans (congrArg xs (by decide))
  refine lv_aload_n hx hb dL_law_515 rfl (lv_at hl 5 rfl) ?_
  refine lv_iload hx hb dL_law_516 (lv_at hl 0 rfl) ?_
  refine lv_iconst (v := 3) hx hb dL_law_518 (by decide) ?_
  refine lv_iadd hx hb dL_law_519 ?_
  refine lv_topi (fun y ey => ?_)
  obtain rfl : y = 3 := ey.trans (by decide)
  refine va_sld hx hb hX hbl hbA hS (by unfold vp_in; decide) dL_law_520 ?_
  refine lv_topi (fun y ey => ?_)
  obtain rfl : y = xs 3 := ey.trans (congrArg xs (by decide))
  refine lv_aload_n hx hb dL_law_521 rfl (lv_at hl 2 rfl) ?_
  refine mw_callS (wr := WM cy am eda 0) (wc := OCL cy oa :: w) (As := [.ref (ad 0), .int (xs 1), .int (xs 2), .int (xs 3), .ref oa]) (rest := []) ⟨hx, hb, hml, hown, hts⟩ (w_plug_1a l D cy F hfl oa (fun _ => 0) _ (xs 1) (xs 2) (xs 3) hd) (vx_cwSW 5 hts (goodLW gL_law_L_plug) rfl rfl rfl (by decide +kernel) ⟨by decide, by decide⟩) hK hN hT (fun q hq => hS.2.1 q hq (Nat.not_le.mpr hq)) hP hD hS hA rfl hl.1 rfl (Nat.le_of_ble_eq_true rfl) dL_law_522 ⟨Nat.le_of_ble_eq_true rfl, Nat.le_of_ble_eq_true rfl⟩ (fun H locs hB hJ hS => ?_)
  obtain ⟨hP, hD⟩ := hJ [] (fun k q h => by simp at h) ⟨fun i j p q h => by simp at h, fun k q h => by simp at h⟩
  have hP : va_P D vwCl (WM cy am eda 0) H := hP
  have hD : va_D (fun q => s.heap.size ≤ q) (WM cy am eda 0) := hD
  refine lv_istore (lv' := [(6, .int 1), (5, .int 0), (4, .ref od), (3, .ref oa), (2, .ref (am 0)), (1, .ref (ad 0)), (0, .ref b)]) hx hb dL_law_525 hl (by decide) rfl (fun ls hl => ?_)
  refine lv_aload_n hx hb dL_law_527 rfl (lv_at hl 4 rfl) ?_
  refine lv_aload_n hx hb dL_law_528 rfl (lv_at hl 6 rfl) ?_
  refine lv_iload hx hb dL_law_529 (lv_at hl 1 rfl) ?_
  refine lv_iconst (v := 1) hx hb dL_law_531 (by decide) ?_
  refine lv_iadd hx hb dL_law_532 ?_
  refine lv_topi (fun y ey => ?_)
  obtain rfl : y = 1 := ey.trans (by decide)
  refine va_sld hx hb hX hbl hbA hS (by unfold vp_in; decide) dL_law_533 ?_
  refine lv_topi (fun y ey => ?_)
  obtain rfl : y = xs 1 := ey.trans (congrArg xs (by decide))
  refine lv_aload_n hx hb dL_law_534 rfl (lv_at hl 6 rfl) ?_
  refine lv_iload hx hb dL_law_535 (lv_at hl 1 rfl) ?_
  refine lv_iconst (v := 2) hx hb dL_law_537 (by decide) ?_
  refine lv_iadd hx hb dL_law_538 ?_
  refine lv_topi (fun y ey => ?_)
  obtain rfl : y = 2 := ey.trans (by decide)
  refine va_sld hx hb hX hbl hbA hS (by unfold vp_in; decide) dL_law_539 ?_
  refine lv_topi (fun y ey => ?_)
  obtain rfl : y = xs 2 := ey.trans (congrArg xs (by decide))
  refine lv_aload_n hx hb dL_law_540 rfl (lv_at hl 6 rfl) ?_
  refine lv_iload hx hb dL_law_541 (lv_at hl 1 rfl) ?_
  refine lv_iconst (v := 3) hx hb dL_law_543 (by decide) ?_
  refine lv_iadd hx hb dL_law_544 ?_
  refine lv_topi (fun y ey => ?_)
  obtain rfl : y = 3 := ey.trans (by decide)
  refine va_sld hx hb hX hbl hbA hS (by unfold vp_in; decide) dL_law_545 ?_
  refine lv_topi (fun y ey => ?_)
  obtain rfl : y = xs 3 := ey.trans (congrArg xs (by decide))
  refine mj_callV (wr := []) (wc := WM cy am eda 0) (As := [.int (xs 1), .int (xs 2), .int (xs 3)]) (rest := []) ⟨hx, hb, hml, hown, hts⟩ (a_plug_1a l D cy _ (xs 1) (xs 2) (xs 3) hd) (cwV 3 hts (goodL gL_law_X14_plug) rfl rfl rfl (by decide +kernel) ⟨by decide, by decide⟩) hK hN hP hD hS hA hJS (ci := 19) (q0 := 0) rfl rfl rfl rfl hl.1 rfl (Nat.le_of_ble_eq_true rfl) dL_law_546 ⟨Nat.le_of_ble_eq_true rfl, Nat.le_of_ble_eq_true rfl⟩ (fun H locs hB hJ hS => ?_)
  obtain ⟨hP1, hD1⟩ := hB
  obtain ⟨hP, hD⟩ := hJ _ hP1 hD1
  have hP : va_P D vwCl [(am 0, .inr (19, [.int 1, .ref (am 1), .ref (am 4), .ref (am 5), .ref (am 6), .ref (am 7), .ref (am 8), .int 0, .ref (am 9), .int 0, .int (-1), .int 100, .ref (am 10), .long 0, .int 0, .int 0, .int 0, .int 0, .long 0]))] H := hP
  have hD : va_D (fun q => s.heap.size ≤ q) [(am 0, .inr (19, [.int 1, .ref (am 1), .ref (am 4), .ref (am 5), .ref (am 6), .ref (am 7), .ref (am 8), .int 0, .ref (am 9), .int 0, .int (-1), .int 100, .ref (am 10), .long 0, .int 0, .int 0, .int 0, .int 0, .long 0]))] := hD
  refine lv_istore (lv' := [(7, .int 0), (6, .int 1), (5, .int 0), (4, .ref od), (3, .ref oa), (2, .ref (am 0)), (1, .ref (ad 0)), (0, .ref b)]) hx hb dL_law_549 hl (by decide) rfl (fun ls hl => ?_)
  refine lv_aload_n hx hb dL_law_551 rfl (lv_at hl 5 rfl) ?_
  refine ro_callV (As := []) (rest := []) ⟨hx, hb, hml, hown, hts⟩ (c_thrown l D cy _ 0 (am 0) 1 [.ref (am 1), .ref (am 4), .ref (am 5), .ref (am 6), .ref (am 7), .ref (am 8), .int 0, .ref (am 9), .int 0, .int (-1), .int 100, .ref (am 10), .long 0, .int 0, .int 0, .int 0, .int 0, .long 0] rfl) (cwV 0 hts (goodL gL_law_X14_thrown) rfl rfl rfl (by decide +kernel) ⟨by decide, by decide⟩) hK hN hP hS (ci := 19) (q0 := 0) rfl rfl rfl rfl hl.1 rfl (Nat.le_of_ble_eq_true rfl) dL_law_552 ⟨Nat.le_of_ble_eq_true rfl, Nat.le_of_ble_eq_true rfl⟩ (fun H locs hP hS => ?_)
  refine lv_iload hx hb dL_law_555 (lv_at hl 1 rfl) ?_
  refine lv_icmp_eq (tgt := 562) hx hb dL_law_557 (by decide) (fun _ => ?_) (fun c => absurd (by decide) c)
  refine lv_iload hx hb dL_law_562 (lv_at hl 1 rfl) ?_
  refine lv_if_ne (tgt := 579) hx hb dL_law_564 (by decide) (fun _ => ?_) (fun c => absurd c (by decide))
  refine lv_goto (tgt := 3117) hx hb dL_law_579 (by decide) ?_
  refine W.widen (k := 1000) (n := 10000) (Nat.le_of_ble_eq_true rfl) (Nat.le_of_ble_eq_true rfl) ?_
  exact hE _ _ _ hS (lv_sub hl [2, 3, 4, 5, 6, 7] rfl)

set_option maxRecDepth 100000 in
set_option maxHeartbeats 4000000 in
theorem law_plug_1b {p : Program} {e : Env} {s : State} {m : MethodId} {below : List Frame} {meth : Method} {c : Code} {l : Launch} (hfl : l.stackTraces = false) {b : Nat} {xs : Nat → Int32} {D : va_G} {cy : Nat → ClassId} {eda ca : Nat} {ia : Nat → Nat} (C0 : LawAt p s m meth c b xs D cy eda ca ia) {am : Nat → Nat} {ad : Nat → Nat} {rw_ : Nat → Nat → Option Nat} {w : va_W} (F : FrC cy ad rw_ w) {oa od : Nat} (hE : LawEnd p l e s m below meth c b (ad 0) (am 0) oa od) (e1 : xs 1 = 0) (hd : ¬ xs 2 = 0) : LGoal p l e s m below meth c b D cy am eda w (ad 0) oa od 502 := by
  obtain ⟨hx, hb, hml, hown, hts, hX, hbl, hK, hN, hT, hJS⟩ := id C0
  have hA : ∀ q : Nat, s.heap.size ≤ q → (fun q => s.heap.size ≤ q) q := fun _ h => h
  have hbA : ¬ (fun q => s.heap.size ≤ q) b := Nat.not_le.mpr hbl
  intro H locs ls hP hD hS hl
  refine lv_aload_n hx hb dL_law_502 rfl (lv_at hl 4 rfl) ?_
  refine lv_aload_n hx hb dL_law_503 rfl (lv_at hl 5 rfl) ?_
  refine lv_iload hx hb dL_law_504 (lv_at hl 0 rfl) ?_
  refine lv_iconst (v := 1) hx hb dL_law_506 (by decide) ?_
  refine lv_iadd hx hb dL_law_507 ?_
  refine lv_topi (fun y ey => ?_)
  obtain rfl : y = 1 := ey.trans (by decide)
  refine va_sld hx hb hX hbl hbA hS (by unfold vp_in; decide) dL_law_508 ?_
  refine lv_topi (fun y ey => ?_)
  obtain rfl : y = 0 := ey.trans ((congrArg xs (by decide)).trans e1)
  refine lv_aload_n hx hb dL_law_509 rfl (lv_at hl 5 rfl) ?_
  refine lv_iload hx hb dL_law_510 (lv_at hl 0 rfl) ?_
  refine lv_iconst (v := 2) hx hb dL_law_512 (by decide) ?_
  refine lv_iadd hx hb dL_law_513 ?_
  refine lv_topi (fun y ey => ?_)
  obtain rfl : y = 2 := ey.trans (by decide)
  refine va_sld hx hb hX hbl hbA hS (by unfold vp_in; decide) dL_law_514 ?_
  refine lv_topi (fun y ey => ?_)
  obtain rfl : y = xs 2 := ey.trans (congrArg xs (by decide))
  refine lv_aload_n hx hb dL_law_515 rfl (lv_at hl 5 rfl) ?_
  refine lv_iload hx hb dL_law_516 (lv_at hl 0 rfl) ?_
  refine lv_iconst (v := 3) hx hb dL_law_518 (by decide) ?_
  refine lv_iadd hx hb dL_law_519 ?_
  refine lv_topi (fun y ey => ?_)
  obtain rfl : y = 3 := ey.trans (by decide)
  refine va_sld hx hb hX hbl hbA hS (by unfold vp_in; decide) dL_law_520 ?_
  refine lv_topi (fun y ey => ?_)
  obtain rfl : y = xs 3 := ey.trans (congrArg xs (by decide))
  refine lv_aload_n hx hb dL_law_521 rfl (lv_at hl 2 rfl) ?_
  refine mw_callS (wr := WM cy am eda 0) (wc := OCL cy oa :: w) (As := [.ref (ad 0), .int 0, .int (xs 2), .int (xs 3), .ref oa]) (rest := []) ⟨hx, hb, hml, hown, hts⟩ (w_plug_1b l D cy F hfl oa (fun _ => 0) _ (xs 2) (xs 3) hd) (vx_cwSW 5 hts (goodLW gL_law_L_plug) rfl rfl rfl (by decide +kernel) ⟨by decide, by decide⟩) hK hN hT (fun q hq => hS.2.1 q hq (Nat.not_le.mpr hq)) hP hD hS hA rfl hl.1 rfl (Nat.le_of_ble_eq_true rfl) dL_law_522 ⟨Nat.le_of_ble_eq_true rfl, Nat.le_of_ble_eq_true rfl⟩ (fun H locs hB hJ hS => ?_)
  obtain ⟨hP, hD⟩ := hJ [] (fun k q h => by simp at h) ⟨fun i j p q h => by simp at h, fun k q h => by simp at h⟩
  have hP : va_P D vwCl (WM cy am eda 0) H := hP
  have hD : va_D (fun q => s.heap.size ≤ q) (WM cy am eda 0) := hD
  refine lv_istore (lv' := [(6, .int 1), (5, .int 0), (4, .ref od), (3, .ref oa), (2, .ref (am 0)), (1, .ref (ad 0)), (0, .ref b)]) hx hb dL_law_525 hl (by decide) rfl (fun ls hl => ?_)
  refine lv_aload_n hx hb dL_law_527 rfl (lv_at hl 4 rfl) ?_
  refine lv_aload_n hx hb dL_law_528 rfl (lv_at hl 6 rfl) ?_
  refine lv_iload hx hb dL_law_529 (lv_at hl 1 rfl) ?_
  refine lv_iconst (v := 1) hx hb dL_law_531 (by decide) ?_
  refine lv_iadd hx hb dL_law_532 ?_
  refine lv_topi (fun y ey => ?_)
  obtain rfl : y = 1 := ey.trans (by decide)
  refine va_sld hx hb hX hbl hbA hS (by unfold vp_in; decide) dL_law_533 ?_
  refine lv_topi (fun y ey => ?_)
  obtain rfl : y = 0 := ey.trans ((congrArg xs (by decide)).trans e1)
  refine lv_aload_n hx hb dL_law_534 rfl (lv_at hl 6 rfl) ?_
  refine lv_iload hx hb dL_law_535 (lv_at hl 1 rfl) ?_
  refine lv_iconst (v := 2) hx hb dL_law_537 (by decide) ?_
  refine lv_iadd hx hb dL_law_538 ?_
  refine lv_topi (fun y ey => ?_)
  obtain rfl : y = 2 := ey.trans (by decide)
  refine va_sld hx hb hX hbl hbA hS (by unfold vp_in; decide) dL_law_539 ?_
  refine lv_topi (fun y ey => ?_)
  obtain rfl : y = xs 2 := ey.trans (congrArg xs (by decide))
  refine lv_aload_n hx hb dL_law_540 rfl (lv_at hl 6 rfl) ?_
  refine lv_iload hx hb dL_law_541 (lv_at hl 1 rfl) ?_
  refine lv_iconst (v := 3) hx hb dL_law_543 (by decide) ?_
  refine lv_iadd hx hb dL_law_544 ?_
  refine lv_topi (fun y ey => ?_)
  obtain rfl : y = 3 := ey.trans (by decide)
  refine va_sld hx hb hX hbl hbA hS (by unfold vp_in; decide) dL_law_545 ?_
  refine lv_topi (fun y ey => ?_)
  obtain rfl : y = xs 3 := ey.trans (congrArg xs (by decide))
  refine mj_callV (wr := []) (wc := WM cy am eda 0) (As := [.int 0, .int (xs 2), .int (xs 3)]) (rest := []) ⟨hx, hb, hml, hown, hts⟩ (a_plug_1b l D cy _ (xs 2) (xs 3) hd) (cwV 3 hts (goodL gL_law_X14_plug) rfl rfl rfl (by decide +kernel) ⟨by decide, by decide⟩) hK hN hP hD hS hA hJS (ci := 19) (q0 := 0) rfl rfl rfl rfl hl.1 rfl (Nat.le_of_ble_eq_true rfl) dL_law_546 ⟨Nat.le_of_ble_eq_true rfl, Nat.le_of_ble_eq_true rfl⟩ (fun H locs hB hJ hS => ?_)
  obtain ⟨hP1, hD1⟩ := hB
  obtain ⟨hP, hD⟩ := hJ _ hP1 hD1
  have hP : va_P D vwCl [(am 0, .inr (19, [.int 1, .ref (am 1), .ref (am 4), .ref (am 5), .ref (am 6), .ref (am 7), .ref (am 8), .int 0, .ref (am 9), .int 0, .int (-1), .int 100, .ref (am 10), .long 0, .int 0, .int 0, .int 0, .int 0, .long 0]))] H := hP
  have hD : va_D (fun q => s.heap.size ≤ q) [(am 0, .inr (19, [.int 1, .ref (am 1), .ref (am 4), .ref (am 5), .ref (am 6), .ref (am 7), .ref (am 8), .int 0, .ref (am 9), .int 0, .int (-1), .int 100, .ref (am 10), .long 0, .int 0, .int 0, .int 0, .int 0, .long 0]))] := hD
  refine lv_istore (lv' := [(7, .int 0), (6, .int 1), (5, .int 0), (4, .ref od), (3, .ref oa), (2, .ref (am 0)), (1, .ref (ad 0)), (0, .ref b)]) hx hb dL_law_549 hl (by decide) rfl (fun ls hl => ?_)
  refine lv_aload_n hx hb dL_law_551 rfl (lv_at hl 5 rfl) ?_
  refine ro_callV (As := []) (rest := []) ⟨hx, hb, hml, hown, hts⟩ (c_thrown l D cy _ 0 (am 0) 1 [.ref (am 1), .ref (am 4), .ref (am 5), .ref (am 6), .ref (am 7), .ref (am 8), .int 0, .ref (am 9), .int 0, .int (-1), .int 100, .ref (am 10), .long 0, .int 0, .int 0, .int 0, .int 0, .long 0] rfl) (cwV 0 hts (goodL gL_law_X14_thrown) rfl rfl rfl (by decide +kernel) ⟨by decide, by decide⟩) hK hN hP hS (ci := 19) (q0 := 0) rfl rfl rfl rfl hl.1 rfl (Nat.le_of_ble_eq_true rfl) dL_law_552 ⟨Nat.le_of_ble_eq_true rfl, Nat.le_of_ble_eq_true rfl⟩ (fun H locs hP hS => ?_)
  refine lv_iload hx hb dL_law_555 (lv_at hl 1 rfl) ?_
  refine lv_icmp_eq (tgt := 562) hx hb dL_law_557 (by decide) (fun _ => ?_) (fun c => absurd (by decide) c)
  refine lv_iload hx hb dL_law_562 (lv_at hl 1 rfl) ?_
  refine lv_if_ne (tgt := 579) hx hb dL_law_564 (by decide) (fun _ => ?_) (fun c => absurd c (by decide))
  refine lv_goto (tgt := 3117) hx hb dL_law_579 (by decide) ?_
  refine W.widen (k := 1000) (n := 10000) (Nat.le_of_ble_eq_true rfl) (Nat.le_of_ble_eq_true rfl) ?_
  exact hE _ _ _ hS (lv_sub hl [2, 3, 4, 5, 6, 7] rfl)

set_option maxRecDepth 100000 in
set_option maxHeartbeats 4000000 in
theorem law_plug_1c {p : Program} {e : Env} {s : State} {m : MethodId} {below : List Frame} {meth : Method} {c : Code} {l : Launch} (hfl : l.stackTraces = false) {b : Nat} {xs : Nat → Int32} {D : va_G} {cy : Nat → ClassId} {eda ca : Nat} {ia : Nat → Nat} (C0 : LawAt p s m meth c b xs D cy eda ca ia) {am : Nat → Nat} {ad : Nat → Nat} {rw_ : Nat → Nat → Option Nat} {w : va_W} (F : FrC cy ad rw_ w) {oa od : Nat} (hE : LawEnd p l e s m below meth c b (ad 0) (am 0) oa od) (e1 : xs 1 = 0) (e2 : xs 2 = 0) (h : xs 3 < 0 ∨ 4 ≤ xs 3) : LGoal p l e s m below meth c b D cy am eda w (ad 0) oa od 502 := by
  obtain ⟨hx, hb, hml, hown, hts, hX, hbl, hK, hN, hT, hJS⟩ := id C0
  have hA : ∀ q : Nat, s.heap.size ≤ q → (fun q => s.heap.size ≤ q) q := fun _ h => h
  have hbA : ¬ (fun q => s.heap.size ≤ q) b := Nat.not_le.mpr hbl
  intro H locs ls hP hD hS hl
  refine lv_aload_n hx hb dL_law_502 rfl (lv_at hl 4 rfl) ?_
  refine lv_aload_n hx hb dL_law_503 rfl (lv_at hl 5 rfl) ?_
  refine lv_iload hx hb dL_law_504 (lv_at hl 0 rfl) ?_
  refine lv_iconst (v := 1) hx hb dL_law_506 (by decide) ?_
  refine lv_iadd hx hb dL_law_507 ?_
  refine lv_topi (fun y ey => ?_)
  obtain rfl : y = 1 := ey.trans (by decide)
  refine va_sld hx hb hX hbl hbA hS (by unfold vp_in; decide) dL_law_508 ?_
  refine lv_topi (fun y ey => ?_)
  obtain rfl : y = 0 := ey.trans ((congrArg xs (by decide)).trans e1)
  refine lv_aload_n hx hb dL_law_509 rfl (lv_at hl 5 rfl) ?_
  refine lv_iload hx hb dL_law_510 (lv_at hl 0 rfl) ?_
  refine lv_iconst (v := 2) hx hb dL_law_512 (by decide) ?_
  refine lv_iadd hx hb dL_law_513 ?_
  refine lv_topi (fun y ey => ?_)
  obtain rfl : y = 2 := ey.trans (by decide)
  refine va_sld hx hb hX hbl hbA hS (by unfold vp_in; decide) dL_law_514 ?_
  refine lv_topi (fun y ey => ?_)
  obtain rfl : y = 0 := ey.trans ((congrArg xs (by decide)).trans e2)
  refine lv_aload_n hx hb dL_law_515 rfl (lv_at hl 5 rfl) ?_
  refine lv_iload hx hb dL_law_516 (lv_at hl 0 rfl) ?_
  refine lv_iconst (v := 3) hx hb dL_law_518 (by decide) ?_
  refine lv_iadd hx hb dL_law_519 ?_
  refine lv_topi (fun y ey => ?_)
  obtain rfl : y = 3 := ey.trans (by decide)
  refine va_sld hx hb hX hbl hbA hS (by unfold vp_in; decide) dL_law_520 ?_
  refine lv_topi (fun y ey => ?_)
  obtain rfl : y = xs 3 := ey.trans (congrArg xs (by decide))
  refine lv_aload_n hx hb dL_law_521 rfl (lv_at hl 2 rfl) ?_
  refine mw_callS (wr := WM cy am eda 0) (wc := OCL cy oa :: w) (As := [.ref (ad 0), .int 0, .int 0, .int (xs 3), .ref oa]) (rest := []) ⟨hx, hb, hml, hown, hts⟩ (w_plug_1c l D cy F hfl oa (fun _ => 0) _ (xs 3) h) (vx_cwSW 5 hts (goodLW gL_law_L_plug) rfl rfl rfl (by decide +kernel) ⟨by decide, by decide⟩) hK hN hT (fun q hq => hS.2.1 q hq (Nat.not_le.mpr hq)) hP hD hS hA rfl hl.1 rfl (Nat.le_of_ble_eq_true rfl) dL_law_522 ⟨Nat.le_of_ble_eq_true rfl, Nat.le_of_ble_eq_true rfl⟩ (fun H locs hB hJ hS => ?_)
  obtain ⟨hP, hD⟩ := hJ [] (fun k q h => by simp at h) ⟨fun i j p q h => by simp at h, fun k q h => by simp at h⟩
  have hP : va_P D vwCl (WM cy am eda 0) H := hP
  have hD : va_D (fun q => s.heap.size ≤ q) (WM cy am eda 0) := hD
  refine lv_istore (lv' := [(6, .int 1), (5, .int 0), (4, .ref od), (3, .ref oa), (2, .ref (am 0)), (1, .ref (ad 0)), (0, .ref b)]) hx hb dL_law_525 hl (by decide) rfl (fun ls hl => ?_)
  refine lv_aload_n hx hb dL_law_527 rfl (lv_at hl 4 rfl) ?_
  refine lv_aload_n hx hb dL_law_528 rfl (lv_at hl 6 rfl) ?_
  refine lv_iload hx hb dL_law_529 (lv_at hl 1 rfl) ?_
  refine lv_iconst (v := 1) hx hb dL_law_531 (by decide) ?_
  refine lv_iadd hx hb dL_law_532 ?_
  refine lv_topi (fun y ey => ?_)
  obtain rfl : y = 1 := ey.trans (by decide)
  refine va_sld hx hb hX hbl hbA hS (by unfold vp_in; decide) dL_law_533 ?_
  refine lv_topi (fun y ey => ?_)
  obtain rfl : y = 0 := ey.trans ((congrArg xs (by decide)).trans e1)
  refine lv_aload_n hx hb dL_law_534 rfl (lv_at hl 6 rfl) ?_
  refine lv_iload hx hb dL_law_535 (lv_at hl 1 rfl) ?_
  refine lv_iconst (v := 2) hx hb dL_law_537 (by decide) ?_
  refine lv_iadd hx hb dL_law_538 ?_
  refine lv_topi (fun y ey => ?_)
  obtain rfl : y = 2 := ey.trans (by decide)
  refine va_sld hx hb hX hbl hbA hS (by unfold vp_in; decide) dL_law_539 ?_
  refine lv_topi (fun y ey => ?_)
  obtain rfl : y = 0 := ey.trans ((congrArg xs (by decide)).trans e2)
  refine lv_aload_n hx hb dL_law_540 rfl (lv_at hl 6 rfl) ?_
  refine lv_iload hx hb dL_law_541 (lv_at hl 1 rfl) ?_
  refine lv_iconst (v := 3) hx hb dL_law_543 (by decide) ?_
  refine lv_iadd hx hb dL_law_544 ?_
  refine lv_topi (fun y ey => ?_)
  obtain rfl : y = 3 := ey.trans (by decide)
  refine va_sld hx hb hX hbl hbA hS (by unfold vp_in; decide) dL_law_545 ?_
  refine lv_topi (fun y ey => ?_)
  obtain rfl : y = xs 3 := ey.trans (congrArg xs (by decide))
  refine mj_callV (wr := []) (wc := WM cy am eda 0) (As := [.int 0, .int 0, .int (xs 3)]) (rest := []) ⟨hx, hb, hml, hown, hts⟩ (a_plug_1c l D cy _ (xs 3) h) (cwV 3 hts (goodL gL_law_X14_plug) rfl rfl rfl (by decide +kernel) ⟨by decide, by decide⟩) hK hN hP hD hS hA hJS (ci := 19) (q0 := 0) rfl rfl rfl rfl hl.1 rfl (Nat.le_of_ble_eq_true rfl) dL_law_546 ⟨Nat.le_of_ble_eq_true rfl, Nat.le_of_ble_eq_true rfl⟩ (fun H locs hB hJ hS => ?_)
  obtain ⟨hP1, hD1⟩ := hB
  obtain ⟨hP, hD⟩ := hJ _ hP1 hD1
  have hP : va_P D vwCl [(am 0, .inr (19, [.int 1, .ref (am 1), .ref (am 4), .ref (am 5), .ref (am 6), .ref (am 7), .ref (am 8), .int 0, .ref (am 9), .int 0, .int (-1), .int 100, .ref (am 10), .long 0, .int 0, .int 0, .int 0, .int 0, .long 0]))] H := hP
  have hD : va_D (fun q => s.heap.size ≤ q) [(am 0, .inr (19, [.int 1, .ref (am 1), .ref (am 4), .ref (am 5), .ref (am 6), .ref (am 7), .ref (am 8), .int 0, .ref (am 9), .int 0, .int (-1), .int 100, .ref (am 10), .long 0, .int 0, .int 0, .int 0, .int 0, .long 0]))] := hD
  refine lv_istore (lv' := [(7, .int 0), (6, .int 1), (5, .int 0), (4, .ref od), (3, .ref oa), (2, .ref (am 0)), (1, .ref (ad 0)), (0, .ref b)]) hx hb dL_law_549 hl (by decide) rfl (fun ls hl => ?_)
  refine lv_aload_n hx hb dL_law_551 rfl (lv_at hl 5 rfl) ?_
  refine ro_callV (As := []) (rest := []) ⟨hx, hb, hml, hown, hts⟩ (c_thrown l D cy _ 0 (am 0) 1 [.ref (am 1), .ref (am 4), .ref (am 5), .ref (am 6), .ref (am 7), .ref (am 8), .int 0, .ref (am 9), .int 0, .int (-1), .int 100, .ref (am 10), .long 0, .int 0, .int 0, .int 0, .int 0, .long 0] rfl) (cwV 0 hts (goodL gL_law_X14_thrown) rfl rfl rfl (by decide +kernel) ⟨by decide, by decide⟩) hK hN hP hS (ci := 19) (q0 := 0) rfl rfl rfl rfl hl.1 rfl (Nat.le_of_ble_eq_true rfl) dL_law_552 ⟨Nat.le_of_ble_eq_true rfl, Nat.le_of_ble_eq_true rfl⟩ (fun H locs hP hS => ?_)
  refine lv_iload hx hb dL_law_555 (lv_at hl 1 rfl) ?_
  refine lv_icmp_eq (tgt := 562) hx hb dL_law_557 (by decide) (fun _ => ?_) (fun c => absurd (by decide) c)
  refine lv_iload hx hb dL_law_562 (lv_at hl 1 rfl) ?_
  refine lv_if_ne (tgt := 579) hx hb dL_law_564 (by decide) (fun _ => ?_) (fun c => absurd c (by decide))
  refine lv_goto (tgt := 3117) hx hb dL_law_579 (by decide) ?_
  refine W.widen (k := 1000) (n := 10000) (Nat.le_of_ble_eq_true rfl) (Nat.le_of_ble_eq_true rfl) ?_
  exact hE _ _ _ hS (lv_sub hl [2, 3, 4, 5, 6, 7] rfl)

set_option maxRecDepth 100000 in
set_option maxHeartbeats 4000000 in
theorem law_plug_2 {p : Program} {e : Env} {s : State} {m : MethodId} {below : List Frame} {meth : Method} {c : Code} {l : Launch} (hfl : l.stackTraces = false) {b : Nat} {xs : Nat → Int32} {D : va_G} {cy : Nat → ClassId} {eda ca : Nat} {ia : Nat → Nat} (C0 : LawAt p s m meth c b xs D cy eda ca ia) {am : Nat → Nat} {ad : Nat → Nat} {rw_ : Nat → Nat → Option Nat} {w : va_W} (F : FrC cy ad rw_ w) {oa od : Nat} (hE : LawEnd p l e s m below meth c b (ad 0) (am 0) oa od) (e1 : xs 1 = 0) (e2 : xs 2 = 0) (h1 : ¬ xs 3 < 0) (h2 : xs 3 < 4) : LGoal p l e s m below meth c b D cy am eda w (ad 0) oa od 502 := by
  obtain ⟨hx, hb, hml, hown, hts, hX, hbl, hK, hN, hT, hJS⟩ := id C0
  have hA : ∀ q : Nat, s.heap.size ≤ q → (fun q => s.heap.size ≤ q) q := fun _ h => h
  have hbA : ¬ (fun q => s.heap.size ≤ q) b := Nat.not_le.mpr hbl
  intro H locs ls hP hD hS hl
  refine lv_aload_n hx hb dL_law_502 rfl (lv_at hl 4 rfl) ?_
  refine lv_aload_n hx hb dL_law_503 rfl (lv_at hl 5 rfl) ?_
  refine lv_iload hx hb dL_law_504 (lv_at hl 0 rfl) ?_
  refine lv_iconst (v := 1) hx hb dL_law_506 (by decide) ?_
  refine lv_iadd hx hb dL_law_507 ?_
  refine lv_topi (fun y ey => ?_)
  obtain rfl : y = 1 := ey.trans (by decide)
  refine va_sld hx hb hX hbl hbA hS (by unfold vp_in; decide) dL_law_508 ?_
  refine lv_topi (fun y ey => ?_)
  obtain rfl : y = 0 := ey.trans ((congrArg xs (by decide)).trans e1)
  refine lv_aload_n hx hb dL_law_509 rfl (lv_at hl 5 rfl) ?_
  refine lv_iload hx hb dL_law_510 (lv_at hl 0 rfl) ?_
  refine lv_iconst (v := 2) hx hb dL_law_512 (by decide) ?_
  refine lv_iadd hx hb dL_law_513 ?_
  refine lv_topi (fun y ey => ?_)
  obtain rfl : y = 2 := ey.trans (by decide)
  refine va_sld hx hb hX hbl hbA hS (by unfold vp_in; decide) dL_law_514 ?_
  refine lv_topi (fun y ey => ?_)
  obtain rfl : y = 0 := ey.trans ((congrArg xs (by decide)).trans e2)
  refine lv_aload_n hx hb dL_law_515 rfl (lv_at hl 5 rfl) ?_
  refine lv_iload hx hb dL_law_516 (lv_at hl 0 rfl) ?_
  refine lv_iconst (v := 3) hx hb dL_law_518 (by decide) ?_
  refine lv_iadd hx hb dL_law_519 ?_
  refine lv_topi (fun y ey => ?_)
  obtain rfl : y = 3 := ey.trans (by decide)
  refine va_sld hx hb hX hbl hbA hS (by unfold vp_in; decide) dL_law_520 ?_
  refine lv_topi (fun y ey => ?_)
  obtain rfl : y = xs 3 := ey.trans (congrArg xs (by decide))
  refine lv_aload_n hx hb dL_law_521 rfl (lv_at hl 2 rfl) ?_
  refine mw_callS (wr := WM cy am eda 0) (wc := OCL cy oa :: w) (As := [.ref (ad 0), .int 0, .int 0, .int (xs 3), .ref oa]) (rest := []) ⟨hx, hb, hml, hown, hts⟩ (w_plug_2 l D cy F hfl oa (fun _ => 0) _ (xs 3) h1 h2) (vx_cwSW 5 hts (goodLW gL_law_L_plug) rfl rfl rfl (by decide +kernel) ⟨by decide, by decide⟩) hK hN hT (fun q hq => hS.2.1 q hq (Nat.not_le.mpr hq)) hP hD hS hA rfl hl.1 rfl (Nat.le_of_ble_eq_true rfl) dL_law_522 ⟨Nat.le_of_ble_eq_true rfl, Nat.le_of_ble_eq_true rfl⟩ (fun H locs hB hJ hS => ?_)
  obtain ⟨hP, hD⟩ := hJ [] (fun k q h => by simp at h) ⟨fun i j p q h => by simp at h, fun k q h => by simp at h⟩
  have hP : va_P D vwCl (WM cy am eda 0) H := hP
  have hD : va_D (fun q => s.heap.size ≤ q) (WM cy am eda 0) := hD
  refine lv_istore (lv' := [(6, .int 2), (5, .int 0), (4, .ref od), (3, .ref oa), (2, .ref (am 0)), (1, .ref (ad 0)), (0, .ref b)]) hx hb dL_law_525 hl (by decide) rfl (fun ls hl => ?_)
  refine lv_aload_n hx hb dL_law_527 rfl (lv_at hl 4 rfl) ?_
  refine lv_aload_n hx hb dL_law_528 rfl (lv_at hl 6 rfl) ?_
  refine lv_iload hx hb dL_law_529 (lv_at hl 1 rfl) ?_
  refine lv_iconst (v := 1) hx hb dL_law_531 (by decide) ?_
  refine lv_iadd hx hb dL_law_532 ?_
  refine lv_topi (fun y ey => ?_)
  obtain rfl : y = 1 := ey.trans (by decide)
  refine va_sld hx hb hX hbl hbA hS (by unfold vp_in; decide) dL_law_533 ?_
  refine lv_topi (fun y ey => ?_)
  obtain rfl : y = 0 := ey.trans ((congrArg xs (by decide)).trans e1)
  refine lv_aload_n hx hb dL_law_534 rfl (lv_at hl 6 rfl) ?_
  refine lv_iload hx hb dL_law_535 (lv_at hl 1 rfl) ?_
  refine lv_iconst (v := 2) hx hb dL_law_537 (by decide) ?_
  refine lv_iadd hx hb dL_law_538 ?_
  refine lv_topi (fun y ey => ?_)
  obtain rfl : y = 2 := ey.trans (by decide)
  refine va_sld hx hb hX hbl hbA hS (by unfold vp_in; decide) dL_law_539 ?_
  refine lv_topi (fun y ey => ?_)
  obtain rfl : y = 0 := ey.trans ((congrArg xs (by decide)).trans e2)
  refine lv_aload_n hx hb dL_law_540 rfl (lv_at hl 6 rfl) ?_
  refine lv_iload hx hb dL_law_541 (lv_at hl 1 rfl) ?_
  refine lv_iconst (v := 3) hx hb dL_law_543 (by decide) ?_
  refine lv_iadd hx hb dL_law_544 ?_
  refine lv_topi (fun y ey => ?_)
  obtain rfl : y = 3 := ey.trans (by decide)
  refine va_sld hx hb hX hbl hbA hS (by unfold vp_in; decide) dL_law_545 ?_
  refine lv_topi (fun y ey => ?_)
  obtain rfl : y = xs 3 := ey.trans (congrArg xs (by decide))
  refine mj_callV (wr := []) (wc := WM cy am eda 0) (As := [.int 0, .int 0, .int (xs 3)]) (rest := []) ⟨hx, hb, hml, hown, hts⟩ (a_plug_2 l D cy _ (xs 3) h1 h2) (cwV 3 hts (goodL gL_law_X14_plug) rfl rfl rfl (by decide +kernel) ⟨by decide, by decide⟩) hK hN hP hD hS hA hJS (ci := 19) (q0 := 0) rfl rfl rfl rfl hl.1 rfl (Nat.le_of_ble_eq_true rfl) dL_law_546 ⟨Nat.le_of_ble_eq_true rfl, Nat.le_of_ble_eq_true rfl⟩ (fun H locs hB hJ hS => ?_)
  obtain ⟨hP1, hD1⟩ := hB
  obtain ⟨hP, hD⟩ := hJ _ hP1 hD1
  have hP : va_P D vwCl [(am 0, .inr (19, [.int 2, .ref (am 1), .ref (am 4), .ref (am 5), .ref (am 6), .ref (am 7), .ref (am 8), .int 0, .ref (am 9), .int 0, .int (-1), .int 100, .ref (am 10), .long 0, .int 0, .int 0, .int 0, .int 0, .long 0]))] H := hP
  have hD : va_D (fun q => s.heap.size ≤ q) [(am 0, .inr (19, [.int 2, .ref (am 1), .ref (am 4), .ref (am 5), .ref (am 6), .ref (am 7), .ref (am 8), .int 0, .ref (am 9), .int 0, .int (-1), .int 100, .ref (am 10), .long 0, .int 0, .int 0, .int 0, .int 0, .long 0]))] := hD
  refine lv_istore (lv' := [(7, .int 0), (6, .int 2), (5, .int 0), (4, .ref od), (3, .ref oa), (2, .ref (am 0)), (1, .ref (ad 0)), (0, .ref b)]) hx hb dL_law_549 hl (by decide) rfl (fun ls hl => ?_)
  refine lv_aload_n hx hb dL_law_551 rfl (lv_at hl 5 rfl) ?_
  refine ro_callV (As := []) (rest := []) ⟨hx, hb, hml, hown, hts⟩ (c_thrown l D cy _ 0 (am 0) 2 [.ref (am 1), .ref (am 4), .ref (am 5), .ref (am 6), .ref (am 7), .ref (am 8), .int 0, .ref (am 9), .int 0, .int (-1), .int 100, .ref (am 10), .long 0, .int 0, .int 0, .int 0, .int 0, .long 0] rfl) (cwV 0 hts (goodL gL_law_X14_thrown) rfl rfl rfl (by decide +kernel) ⟨by decide, by decide⟩) hK hN hP hS (ci := 19) (q0 := 0) rfl rfl rfl rfl hl.1 rfl (Nat.le_of_ble_eq_true rfl) dL_law_552 ⟨Nat.le_of_ble_eq_true rfl, Nat.le_of_ble_eq_true rfl⟩ (fun H locs hP hS => ?_)
  refine lv_iload hx hb dL_law_555 (lv_at hl 1 rfl) ?_
  refine lv_icmp_eq (tgt := 562) hx hb dL_law_557 (by decide) (fun _ => ?_) (fun c => absurd (by decide) c)
  refine lv_iload hx hb dL_law_562 (lv_at hl 1 rfl) ?_
  refine lv_if_ne (tgt := 579) hx hb dL_law_564 (by decide) (fun _ => ?_) (fun c => absurd c (by decide))
  refine lv_goto (tgt := 3117) hx hb dL_law_579 (by decide) ?_
  refine W.widen (k := 1000) (n := 10000) (Nat.le_of_ble_eq_true rfl) (Nat.le_of_ble_eq_true rfl) ?_
  exact hE _ _ _ hS (lv_sub hl [2, 3, 4, 5, 6, 7] rfl)

set_option maxRecDepth 100000 in
set_option maxHeartbeats 4000000 in
theorem law_unplug_1 {p : Program} {e : Env} {s : State} {m : MethodId} {below : List Frame} {meth : Method} {c : Code} {l : Launch} (hfl : l.stackTraces = false) {b : Nat} {xs : Nat → Int32} {D : va_G} {cy : Nat → ClassId} {eda ca : Nat} {ia : Nat → Nat} (C0 : LawAt p s m meth c b xs D cy eda ca ia) {am : Nat → Nat} {ad : Nat → Nat} {rw_ : Nat → Nat → Option Nat} {w : va_W} (F : FrC cy ad rw_ w) {oa od : Nat} (hE : LawEnd p l e s m below meth c b (ad 0) (am 0) oa od) : LGoal p l e s m below meth c b D cy am eda w (ad 0) oa od 582 := by
  obtain ⟨hx, hb, hml, hown, hts, hX, hbl, hK, hN, hT, hJS⟩ := id C0
  have hA : ∀ q : Nat, s.heap.size ≤ q → (fun q => s.heap.size ≤ q) q := fun _ h => h
  have hbA : ¬ (fun q => s.heap.size ≤ q) b := Nat.not_le.mpr hbl
  intro H locs ls hP hD hS hl
  refine lv_aload_n hx hb dL_law_582 rfl (lv_at hl 4 rfl) ?_
  refine lv_aload_n hx hb dL_law_583 rfl (lv_at hl 5 rfl) ?_
  refine lv_iload hx hb dL_law_584 (lv_at hl 0 rfl) ?_
  refine lv_iconst (v := 1) hx hb dL_law_586 (by decide) ?_
  refine lv_iadd hx hb dL_law_587 ?_
  refine lv_topi (fun y ey => ?_)
  obtain rfl : y = 1 := ey.trans (by decide)
  refine va_sld hx hb hX hbl hbA hS (by unfold vp_in; decide) dL_law_588 ?_
  refine lv_topi (fun y ey => ?_)
  obtain rfl : y = xs 1 := ey.trans (congrArg xs (by decide))
  refine lv_aload_n hx hb dL_law_589 rfl (lv_at hl 2 rfl) ?_
  refine mw_callS (wr := WM cy am eda 0) (wc := OCL cy oa :: w) (As := [.ref (ad 0), .int (xs 1), .ref oa]) (rest := []) ⟨hx, hb, hml, hown, hts⟩ (w_unplug_1 l D cy F hfl oa (fun _ => 0) _ (xs 1)) (vx_cwSW 3 hts (goodLW gL_law_L_unplug) rfl rfl rfl (by decide +kernel) ⟨by decide, by decide⟩) hK hN hT (fun q hq => hS.2.1 q hq (Nat.not_le.mpr hq)) hP hD hS hA rfl hl.1 rfl (Nat.le_of_ble_eq_true rfl) dL_law_590 ⟨Nat.le_of_ble_eq_true rfl, Nat.le_of_ble_eq_true rfl⟩ (fun H locs hB hJ hS => ?_)
  obtain ⟨hP, hD⟩ := hJ [] (fun k q h => by simp at h) ⟨fun i j p q h => by simp at h, fun k q h => by simp at h⟩
  have hP : va_P D vwCl (WM cy am eda 0) H := hP
  have hD : va_D (fun q => s.heap.size ≤ q) (WM cy am eda 0) := hD
  refine lv_istore (lv' := [(6, .int 1), (5, .int 0), (4, .ref od), (3, .ref oa), (2, .ref (am 0)), (1, .ref (ad 0)), (0, .ref b)]) hx hb dL_law_593 hl (by decide) rfl (fun ls hl => ?_)
  refine lv_aload_n hx hb dL_law_595 rfl (lv_at hl 4 rfl) ?_
  refine lv_aload_n hx hb dL_law_596 rfl (lv_at hl 6 rfl) ?_
  refine lv_iload hx hb dL_law_597 (lv_at hl 1 rfl) ?_
  refine lv_iconst (v := 1) hx hb dL_law_599 (by decide) ?_
  refine lv_iadd hx hb dL_law_600 ?_
  refine lv_topi (fun y ey => ?_)
  obtain rfl : y = 1 := ey.trans (by decide)
  refine va_sld hx hb hX hbl hbA hS (by unfold vp_in; decide) dL_law_601 ?_
  refine lv_topi (fun y ey => ?_)
  obtain rfl : y = xs 1 := ey.trans (congrArg xs (by decide))
  refine mj_callV (wr := []) (wc := WM cy am eda 0) (As := [.int (xs 1)]) (rest := []) ⟨hx, hb, hml, hown, hts⟩ (a_unplug_1 l D cy _ (xs 1)) (cwV 1 hts (goodL gL_law_X14_unplug) rfl rfl rfl (by decide +kernel) ⟨by decide, by decide⟩) hK hN hP hD hS hA hJS (ci := 19) (q0 := 0) rfl rfl rfl rfl hl.1 rfl (Nat.le_of_ble_eq_true rfl) dL_law_602 ⟨Nat.le_of_ble_eq_true rfl, Nat.le_of_ble_eq_true rfl⟩ (fun H locs hB hJ hS => ?_)
  obtain ⟨hP1, hD1⟩ := hB
  obtain ⟨hP, hD⟩ := hJ _ hP1 hD1
  have hP : va_P D vwCl [(am 0, .inr (19, [.int 1, .ref (am 1), .ref (am 4), .ref (am 5), .ref (am 6), .ref (am 7), .ref (am 8), .int 0, .ref (am 9), .int 0, .int (-1), .int 100, .ref (am 10), .long 0, .int 0, .int 0, .int 0, .int 0, .long 0]))] H := hP
  have hD : va_D (fun q => s.heap.size ≤ q) [(am 0, .inr (19, [.int 1, .ref (am 1), .ref (am 4), .ref (am 5), .ref (am 6), .ref (am 7), .ref (am 8), .int 0, .ref (am 9), .int 0, .int (-1), .int 100, .ref (am 10), .long 0, .int 0, .int 0, .int 0, .int 0, .long 0]))] := hD
  refine lv_istore (lv' := [(7, .int 0), (6, .int 1), (5, .int 0), (4, .ref od), (3, .ref oa), (2, .ref (am 0)), (1, .ref (ad 0)), (0, .ref b)]) hx hb dL_law_605 hl (by decide) rfl (fun ls hl => ?_)
  refine lv_aload_n hx hb dL_law_607 rfl (lv_at hl 5 rfl) ?_
  refine ro_callV (As := []) (rest := []) ⟨hx, hb, hml, hown, hts⟩ (c_thrown l D cy _ 0 (am 0) 1 [.ref (am 1), .ref (am 4), .ref (am 5), .ref (am 6), .ref (am 7), .ref (am 8), .int 0, .ref (am 9), .int 0, .int (-1), .int 100, .ref (am 10), .long 0, .int 0, .int 0, .int 0, .int 0, .long 0] rfl) (cwV 0 hts (goodL gL_law_X14_thrown) rfl rfl rfl (by decide +kernel) ⟨by decide, by decide⟩) hK hN hP hS (ci := 19) (q0 := 0) rfl rfl rfl rfl hl.1 rfl (Nat.le_of_ble_eq_true rfl) dL_law_608 ⟨Nat.le_of_ble_eq_true rfl, Nat.le_of_ble_eq_true rfl⟩ (fun H locs hP hS => ?_)
  refine lv_iload hx hb dL_law_611 (lv_at hl 1 rfl) ?_
  refine lv_icmp_eq (tgt := 618) hx hb dL_law_613 (by decide) (fun _ => ?_) (fun c => absurd (by decide) c)
  refine lv_iload hx hb dL_law_618 (lv_at hl 1 rfl) ?_
  refine lv_if_ne (tgt := 635) hx hb dL_law_620 (by decide) (fun _ => ?_) (fun c => absurd c (by decide))
  refine lv_goto (tgt := 3117) hx hb dL_law_635 (by decide) ?_
  refine W.widen (k := 1000) (n := 10000) (Nat.le_of_ble_eq_true rfl) (Nat.le_of_ble_eq_true rfl) ?_
  exact hE _ _ _ hS (lv_sub hl [2, 3, 4, 5, 6, 7] rfl)

set_option maxRecDepth 100000 in
set_option maxHeartbeats 4000000 in
theorem law_sleep_1 {p : Program} {e : Env} {s : State} {m : MethodId} {below : List Frame} {meth : Method} {c : Code} {l : Launch} (hfl : l.stackTraces = false) {b : Nat} {xs : Nat → Int32} {D : va_G} {cy : Nat → ClassId} {eda ca : Nat} {ia : Nat → Nat} (C0 : LawAt p s m meth c b xs D cy eda ca ia) {am : Nat → Nat} {ad : Nat → Nat} {rw_ : Nat → Nat → Option Nat} {w : va_W} (F : FrC cy ad rw_ w) {oa od : Nat} (hE : LawEnd p l e s m below meth c b (ad 0) (am 0) oa od) : LGoal p l e s m below meth c b D cy am eda w (ad 0) oa od 1210 := by
  obtain ⟨hx, hb, hml, hown, hts, hX, hbl, hK, hN, hT, hJS⟩ := id C0
  have hA : ∀ q : Nat, s.heap.size ≤ q → (fun q => s.heap.size ≤ q) q := fun _ h => h
  have hbA : ¬ (fun q => s.heap.size ≤ q) b := Nat.not_le.mpr hbl
  intro H locs ls hP hD hS hl
  refine lv_aload_n hx hb dL_law_1210 rfl (lv_at hl 4 rfl) ?_
  refine lv_aload_n hx hb dL_law_1211 rfl (lv_at hl 5 rfl) ?_
  refine lv_iload hx hb dL_law_1212 (lv_at hl 0 rfl) ?_
  refine lv_iconst (v := 1) hx hb dL_law_1214 (by decide) ?_
  refine lv_iadd hx hb dL_law_1215 ?_
  refine lv_topi (fun y ey => ?_)
  obtain rfl : y = 1 := ey.trans (by decide)
  refine va_sld hx hb hX hbl hbA hS (by unfold vp_in; decide) dL_law_1216 ?_
  refine lv_topi (fun y ey => ?_)
  obtain rfl : y = xs 1 := ey.trans (congrArg xs (by decide))
  refine lv_aload_n hx hb dL_law_1217 rfl (lv_at hl 2 rfl) ?_
  refine mw_callS (wr := WM cy am eda 0) (wc := OCL cy oa :: w) (As := [.ref (ad 0), .int (xs 1), .ref oa]) (rest := []) ⟨hx, hb, hml, hown, hts⟩ (w_sleep_1 l D cy F hfl oa (fun _ => 0) _ (xs 1)) (vx_cwSW 3 hts (goodLW gL_law_L_sleep) rfl rfl rfl (by decide +kernel) ⟨by decide, by decide⟩) hK hN hT (fun q hq => hS.2.1 q hq (Nat.not_le.mpr hq)) hP hD hS hA rfl hl.1 rfl (Nat.le_of_ble_eq_true rfl) dL_law_1218 ⟨Nat.le_of_ble_eq_true rfl, Nat.le_of_ble_eq_true rfl⟩ (fun H locs hB hJ hS => ?_)
  obtain ⟨hP, hD⟩ := hJ [] (fun k q h => by simp at h) ⟨fun i j p q h => by simp at h, fun k q h => by simp at h⟩
  have hP : va_P D vwCl (WM cy am eda 0) H := hP
  have hD : va_D (fun q => s.heap.size ≤ q) (WM cy am eda 0) := hD
  refine lv_istore (lv' := [(6, .int 1), (5, .int 0), (4, .ref od), (3, .ref oa), (2, .ref (am 0)), (1, .ref (ad 0)), (0, .ref b)]) hx hb dL_law_1221 hl (by decide) rfl (fun ls hl => ?_)
  refine lv_aload_n hx hb dL_law_1223 rfl (lv_at hl 4 rfl) ?_
  refine lv_aload_n hx hb dL_law_1224 rfl (lv_at hl 6 rfl) ?_
  refine lv_iload hx hb dL_law_1225 (lv_at hl 1 rfl) ?_
  refine lv_iconst (v := 1) hx hb dL_law_1227 (by decide) ?_
  refine lv_iadd hx hb dL_law_1228 ?_
  refine lv_topi (fun y ey => ?_)
  obtain rfl : y = 1 := ey.trans (by decide)
  refine va_sld hx hb hX hbl hbA hS (by unfold vp_in; decide) dL_law_1229 ?_
  refine lv_topi (fun y ey => ?_)
  obtain rfl : y = xs 1 := ey.trans (congrArg xs (by decide))
  refine mj_callV (wr := []) (wc := WM cy am eda 0) (As := [.int (xs 1)]) (rest := []) ⟨hx, hb, hml, hown, hts⟩ (a_sleep_1 l D cy _ (xs 1)) (cwV 1 hts (goodL gL_law_X14_sleep) rfl rfl rfl (by decide +kernel) ⟨by decide, by decide⟩) hK hN hP hD hS hA hJS (ci := 19) (q0 := 0) rfl rfl rfl rfl hl.1 rfl (Nat.le_of_ble_eq_true rfl) dL_law_1230 ⟨Nat.le_of_ble_eq_true rfl, Nat.le_of_ble_eq_true rfl⟩ (fun H locs hB hJ hS => ?_)
  obtain ⟨hP1, hD1⟩ := hB
  obtain ⟨hP, hD⟩ := hJ _ hP1 hD1
  have hP : va_P D vwCl [(am 0, .inr (19, [.int 1, .ref (am 1), .ref (am 4), .ref (am 5), .ref (am 6), .ref (am 7), .ref (am 8), .int 0, .ref (am 9), .int 0, .int (-1), .int 100, .ref (am 10), .long 0, .int 0, .int 0, .int 0, .int 0, .long 0]))] H := hP
  have hD : va_D (fun q => s.heap.size ≤ q) [(am 0, .inr (19, [.int 1, .ref (am 1), .ref (am 4), .ref (am 5), .ref (am 6), .ref (am 7), .ref (am 8), .int 0, .ref (am 9), .int 0, .int (-1), .int 100, .ref (am 10), .long 0, .int 0, .int 0, .int 0, .int 0, .long 0]))] := hD
  refine lv_istore (lv' := [(7, .int 0), (6, .int 1), (5, .int 0), (4, .ref od), (3, .ref oa), (2, .ref (am 0)), (1, .ref (ad 0)), (0, .ref b)]) hx hb dL_law_1233 hl (by decide) rfl (fun ls hl => ?_)
  refine lv_aload_n hx hb dL_law_1235 rfl (lv_at hl 5 rfl) ?_
  refine ro_callV (As := []) (rest := []) ⟨hx, hb, hml, hown, hts⟩ (c_thrown l D cy _ 0 (am 0) 1 [.ref (am 1), .ref (am 4), .ref (am 5), .ref (am 6), .ref (am 7), .ref (am 8), .int 0, .ref (am 9), .int 0, .int (-1), .int 100, .ref (am 10), .long 0, .int 0, .int 0, .int 0, .int 0, .long 0] rfl) (cwV 0 hts (goodL gL_law_X14_thrown) rfl rfl rfl (by decide +kernel) ⟨by decide, by decide⟩) hK hN hP hS (ci := 19) (q0 := 0) rfl rfl rfl rfl hl.1 rfl (Nat.le_of_ble_eq_true rfl) dL_law_1236 ⟨Nat.le_of_ble_eq_true rfl, Nat.le_of_ble_eq_true rfl⟩ (fun H locs hP hS => ?_)
  refine lv_iload hx hb dL_law_1239 (lv_at hl 1 rfl) ?_
  refine lv_icmp_eq (tgt := 1246) hx hb dL_law_1241 (by decide) (fun _ => ?_) (fun c => absurd (by decide) c)
  refine lv_iload hx hb dL_law_1246 (lv_at hl 1 rfl) ?_
  refine lv_if_ne (tgt := 1263) hx hb dL_law_1248 (by decide) (fun _ => ?_) (fun c => absurd c (by decide))
  refine lv_goto (tgt := 3117) hx hb dL_law_1263 (by decide) ?_
  refine W.widen (k := 1000) (n := 10000) (Nat.le_of_ble_eq_true rfl) (Nat.le_of_ble_eq_true rfl) ?_
  exact hE _ _ _ hS (lv_sub hl [2, 3, 4, 5, 6, 7] rfl)

set_option maxRecDepth 100000 in
set_option maxHeartbeats 4000000 in
theorem law_stateOf_0 {p : Program} {e : Env} {s : State} {m : MethodId} {below : List Frame} {meth : Method} {c : Code} {l : Launch} (hfl : l.stackTraces = false) {b : Nat} {xs : Nat → Int32} {D : va_G} {cy : Nat → ClassId} {eda ca : Nat} {ia : Nat → Nat} (C0 : LawAt p s m meth c b xs D cy eda ca ia) {am : Nat → Nat} {ad : Nat → Nat} {rw_ : Nat → Nat → Option Nat} {w : va_W} (F : FrC cy ad rw_ w) {oa od : Nat} (hE : LawEnd p l e s m below meth c b (ad 0) (am 0) oa od) (e1 : xs 1 = 0) : LGoal p l e s m below meth c b D cy am eda w (ad 0) oa od 638 := by
  obtain ⟨hx, hb, hml, hown, hts, hX, hbl, hK, hN, hT, hJS⟩ := id C0
  have hA : ∀ q : Nat, s.heap.size ≤ q → (fun q => s.heap.size ≤ q) q := fun _ h => h
  have hbA : ¬ (fun q => s.heap.size ≤ q) b := Nat.not_le.mpr hbl
  intro H locs ls hP hD hS hl
  refine lv_aload_n hx hb dL_law_638 rfl (lv_at hl 4 rfl) ?_
  refine lv_aload_n hx hb dL_law_639 rfl (lv_at hl 5 rfl) ?_
  refine lv_iload hx hb dL_law_640 (lv_at hl 0 rfl) ?_
  refine lv_iconst (v := 1) hx hb dL_law_642 (by decide) ?_
  refine lv_iadd hx hb dL_law_643 ?_
  refine lv_topi (fun y ey => ?_)
  obtain rfl : y = 1 := ey.trans (by decide)
  refine va_sld hx hb hX hbl hbA hS (by unfold vp_in; decide) dL_law_644 ?_
  refine lv_topi (fun y ey => ?_)
  obtain rfl : y = 0 := ey.trans ((congrArg xs (by decide)).trans e1)
  refine lv_aload_n hx hb dL_law_645 rfl (lv_at hl 2 rfl) ?_
  refine mw_callS (wr := WM cy am eda 0) (wc := OCL cy oa :: w) (As := [.ref (ad 0), .int 0, .ref oa]) (rest := []) ⟨hx, hb, hml, hown, hts⟩ (w_stateOf_0 l D cy F oa (fun _ => 0) _ ) (vx_cwSW 3 hts (goodLW gL_law_L_stateOf) rfl rfl rfl (by decide +kernel) ⟨by decide, by decide⟩) hK hN hT (fun q hq => hS.2.1 q hq (Nat.not_le.mpr hq)) hP hD hS hA rfl hl.1 rfl (Nat.le_of_ble_eq_true rfl) dL_law_646 ⟨Nat.le_of_ble_eq_true rfl, Nat.le_of_ble_eq_true rfl⟩ (fun H locs hB hJ hS => ?_)
  obtain ⟨hP, hD⟩ := hJ [(oa, .inl (cy 2, 1, .inr (.inl (vp_updL (fun _ => 0) 0 (99)))))] hB (my_d1 (my_in1 (ko := 0) rfl))
  have hP := hP.sub (ws' := [(oa, .inl (cy 2, 1, .inr (.inl (vp_updL (fun _ => 0) 0 (99)))))] ++ WM cy am eda 0) [14, 0, 1, 2, 3, 4, 5, 6, 7, 8, 9, 10, 11, 12, 13] rfl
  have hD := hD.sub (ws' := [(oa, .inl (cy 2, 1, .inr (.inl (vp_updL (fun _ => 0) 0 (99)))))] ++ WM cy am eda 0) [14, 0, 1, 2, 3, 4, 5, 6, 7, 8, 9, 10, 11, 12, 13] (by decide) rfl
  refine lv_istore (lv' := [(6, .int 0), (5, .int 0), (4, .ref od), (3, .ref oa), (2, .ref (am 0)), (1, .ref (ad 0)), (0, .ref b)]) hx hb dL_law_649 hl (by decide) rfl (fun ls hl => ?_)
  refine lv_aload_n hx hb dL_law_651 rfl (lv_at hl 4 rfl) ?_
  refine lv_aload_n hx hb dL_law_652 rfl (lv_at hl 6 rfl) ?_
  refine lv_iload hx hb dL_law_653 (lv_at hl 1 rfl) ?_
  refine lv_iconst (v := 1) hx hb dL_law_655 (by decide) ?_
  refine lv_iadd hx hb dL_law_656 ?_
  refine lv_topi (fun y ey => ?_)
  obtain rfl : y = 1 := ey.trans (by decide)
  refine va_sld hx hb hX hbl hbA hS (by unfold vp_in; decide) dL_law_657 ?_
  refine lv_topi (fun y ey => ?_)
  obtain rfl : y = 0 := ey.trans ((congrArg xs (by decide)).trans e1)
  refine mj_callV (wr := [(oa, .inl (cy 2, 1, .inr (.inl (vp_updL (fun _ => 0) 0 (99)))))]) (wc := WM cy am eda 0) (As := [.int 0]) (rest := []) ⟨hx, hb, hml, hown, hts⟩ (a_stateOf_0 l D cy _ ) (cwV 1 hts (goodL gL_law_X14_stateOf) rfl rfl rfl (by decide +kernel) ⟨by decide, by decide⟩) hK hN hP hD hS hA hJS (ci := 19) (q0 := 0) rfl rfl rfl rfl hl.1 rfl (Nat.le_of_ble_eq_true rfl) dL_law_658 ⟨Nat.le_of_ble_eq_true rfl, Nat.le_of_ble_eq_true rfl⟩ (fun H locs hB hJ hS => ?_)
  obtain ⟨hP1, hD1⟩ := hB
  obtain ⟨hP, hD⟩ := hJ _ hP1 hD1
  have hP : va_P D vwCl [(oa, .inl (cy 2, 1, .inr (.inl (vp_updL (fun _ => 0) 0 (99))))), (am 0, .inr (19, [.int 0, .ref (am 1), .ref (am 4), .ref (am 5), .ref (am 6), .ref (am 7), .ref (am 8), .int 0, .ref (am 9), .int 0, .int (-1), .int 100, .ref (am 10), .long 0, .int 0, .int 0, .int 0, .int 0, .long 0]))] H := hP
  have hD : va_D (fun q => s.heap.size ≤ q) [(oa, .inl (cy 2, 1, .inr (.inl (vp_updL (fun _ => 0) 0 (99))))), (am 0, .inr (19, [.int 0, .ref (am 1), .ref (am 4), .ref (am 5), .ref (am 6), .ref (am 7), .ref (am 8), .int 0, .ref (am 9), .int 0, .int (-1), .int 100, .ref (am 10), .long 0, .int 0, .int 0, .int 0, .int 0, .long 0]))] := hD
  refine lv_istore (lv' := [(7, .int 99), (6, .int 0), (5, .int 0), (4, .ref od), (3, .ref oa), (2, .ref (am 0)), (1, .ref (ad 0)), (0, .ref b)]) hx hb dL_law_661 hl (by decide) rfl (fun ls hl => ?_)
  refine lv_aload_n hx hb dL_law_663 rfl (lv_at hl 5 rfl) ?_
  refine ro_callV (As := []) (rest := []) ⟨hx, hb, hml, hown, hts⟩ (c_thrown l D cy _ 1 (am 0) 0 [.ref (am 1), .ref (am 4), .ref (am 5), .ref (am 6), .ref (am 7), .ref (am 8), .int 0, .ref (am 9), .int 0, .int (-1), .int 100, .ref (am 10), .long 0, .int 0, .int 0, .int 0, .int 0, .long 0] rfl) (cwV 0 hts (goodL gL_law_X14_thrown) rfl rfl rfl (by decide +kernel) ⟨by decide, by decide⟩) hK hN hP hS (ci := 19) (q0 := 1) rfl rfl rfl rfl hl.1 rfl (Nat.le_of_ble_eq_true rfl) dL_law_664 ⟨Nat.le_of_ble_eq_true rfl, Nat.le_of_ble_eq_true rfl⟩ (fun H locs hP hS => ?_)
  refine lv_iload hx hb dL_law_667 (lv_at hl 1 rfl) ?_
  refine lv_icmp_eq (tgt := 674) hx hb dL_law_669 (by decide) (fun _ => ?_) (fun c => absurd (by decide) c)
  refine lv_iload hx hb dL_law_674 (lv_at hl 1 rfl) ?_
  refine lv_if_ne (tgt := 691) hx hb dL_law_676 (by decide) (fun c => absurd (by decide) c) (fun _ => ?_)
  refine lv_aload_n hx hb dL_law_679 rfl (lv_at hl 4 rfl) ?_
  refine lv_iconst (v := 0) hx hb dL_law_680 (by decide) ?_
  refine va_lald hx hb hK hP 0 2 rfl rfl (by unfold vp_in; decide) dL_law_681 ?_
  refine lv_topl (fun y ey => ?_)
  obtain rfl : y = 99 := ey.trans (my_rd0 _ _)
  refine lv_iload hx hb dL_law_682 (lv_at hl 0 rfl) ?_
  refine lv_i2l (v := 99) hx hb dL_law_684 (by decide) ?_
  refine W.lcmp hx hb dL_law_685 ?_
  refine lv_topi (fun y ey => ?_)
  obtain rfl : y = 0 := ey.trans (my_cmp _)
  refine lv_if_eq (tgt := 691) hx hb dL_law_686 (by decide) (fun _ => ?_) (fun c => absurd (by decide) c)
  refine lv_goto (tgt := 3117) hx hb dL_law_691 (by decide) ?_
  refine W.widen (k := 1000) (n := 10000) (Nat.le_of_ble_eq_true rfl) (Nat.le_of_ble_eq_true rfl) ?_
  exact hE _ _ _ hS (lv_sub hl [2, 3, 4, 5, 6, 7] rfl)

set_option maxRecDepth 100000 in
set_option maxHeartbeats 4000000 in
theorem law_stateOf_1 {p : Program} {e : Env} {s : State} {m : MethodId} {below : List Frame} {meth : Method} {c : Code} {l : Launch} (hfl : l.stackTraces = false) {b : Nat} {xs : Nat → Int32} {D : va_G} {cy : Nat → ClassId} {eda ca : Nat} {ia : Nat → Nat} (C0 : LawAt p s m meth c b xs D cy eda ca ia) {am : Nat → Nat} {ad : Nat → Nat} {rw_ : Nat → Nat → Option Nat} {w : va_W} (F : FrC cy ad rw_ w) {oa od : Nat} (hE : LawEnd p l e s m below meth c b (ad 0) (am 0) oa od) (hd : ¬ xs 1 = 0) : LGoal p l e s m below meth c b D cy am eda w (ad 0) oa od 638 := by
  obtain ⟨hx, hb, hml, hown, hts, hX, hbl, hK, hN, hT, hJS⟩ := id C0
  have hA : ∀ q : Nat, s.heap.size ≤ q → (fun q => s.heap.size ≤ q) q := fun _ h => h
  have hbA : ¬ (fun q => s.heap.size ≤ q) b := Nat.not_le.mpr hbl
  intro H locs ls hP hD hS hl
  refine lv_aload_n hx hb dL_law_638 rfl (lv_at hl 4 rfl) ?_
  refine lv_aload_n hx hb dL_law_639 rfl (lv_at hl 5 rfl) ?_
  refine lv_iload hx hb dL_law_640 (lv_at hl 0 rfl) ?_
  refine lv_iconst (v := 1) hx hb dL_law_642 (by decide) ?_
  refine lv_iadd hx hb dL_law_643 ?_
  refine lv_topi (fun y ey => ?_)
  obtain rfl : y = 1 := ey.trans (by decide)
  refine va_sld hx hb hX hbl hbA hS (by unfold vp_in; decide) dL_law_644 ?_
  refine lv_topi (fun y ey => ?_)
  obtain rfl : y = xs 1 := ey.trans (congrArg xs (by decide))
  refine lv_aload_n hx hb dL_law_645 rfl (lv_at hl 2 rfl) ?_
  refine mw_callS (wr := WM cy am eda 0) (wc := OCL cy oa :: w) (As := [.ref (ad 0), .int (xs 1), .ref oa]) (rest := []) ⟨hx, hb, hml, hown, hts⟩ (w_stateOf_1 l D cy F hfl oa (fun _ => 0) _ (xs 1) hd) (vx_cwSW 3 hts (goodLW gL_law_L_stateOf) rfl rfl rfl (by decide +kernel) ⟨by decide, by decide⟩) hK hN hT (fun q hq => hS.2.1 q hq (Nat.not_le.mpr hq)) hP hD hS hA rfl hl.1 rfl (Nat.le_of_ble_eq_true rfl) dL_law_646 ⟨Nat.le_of_ble_eq_true rfl, Nat.le_of_ble_eq_true rfl⟩ (fun H locs hB hJ hS => ?_)
  obtain ⟨hP, hD⟩ := hJ [] (fun k q h => by simp at h) ⟨fun i j p q h => by simp at h, fun k q h => by simp at h⟩
  have hP : va_P D vwCl (WM cy am eda 0) H := hP
  have hD : va_D (fun q => s.heap.size ≤ q) (WM cy am eda 0) := hD
  refine lv_istore (lv' := [(6, .int 1), (5, .int 0), (4, .ref od), (3, .ref oa), (2, .ref (am 0)), (1, .ref (ad 0)), (0, .ref b)]) hx hb dL_law_649 hl (by decide) rfl (fun ls hl => ?_)
  refine lv_aload_n hx hb dL_law_651 rfl (lv_at hl 4 rfl) ?_
  refine lv_aload_n hx hb dL_law_652 rfl (lv_at hl 6 rfl) ?_
  refine lv_iload hx hb dL_law_653 (lv_at hl 1 rfl) ?_
  refine lv_iconst (v := 1) hx hb dL_law_655 (by decide) ?_
  refine lv_iadd hx hb dL_law_656 ?_
  refine lv_topi (fun y ey => ?_)
  obtain rfl : y = 1 := ey.trans (by decide)
  refine va_sld hx hb hX hbl hbA hS (by unfold vp_in; decide) dL_law_657 ?_
  refine lv_topi (fun y ey => ?_)
  obtain rfl : y = xs 1 := ey.trans (congrArg xs (by decide))
  refine mj_callV (wr := []) (wc := WM cy am eda 0) (As := [.int (xs 1)]) (rest := []) ⟨hx, hb, hml, hown, hts⟩ (a_stateOf_1 l D cy _ (xs 1) hd) (cwV 1 hts (goodL gL_law_X14_stateOf) rfl rfl rfl (by decide +kernel) ⟨by decide, by decide⟩) hK hN hP hD hS hA hJS (ci := 19) (q0 := 0) rfl rfl rfl rfl hl.1 rfl (Nat.le_of_ble_eq_true rfl) dL_law_658 ⟨Nat.le_of_ble_eq_true rfl, Nat.le_of_ble_eq_true rfl⟩ (fun H locs hB hJ hS => ?_)
  obtain ⟨hP1, hD1⟩ := hB
  obtain ⟨hP, hD⟩ := hJ _ hP1 hD1
  have hP : va_P D vwCl [(am 0, .inr (19, [.int 1, .ref (am 1), .ref (am 4), .ref (am 5), .ref (am 6), .ref (am 7), .ref (am 8), .int 0, .ref (am 9), .int 0, .int (-1), .int 100, .ref (am 10), .long 0, .int 0, .int 0, .int 0, .int 0, .long 0]))] H := hP
  have hD : va_D (fun q => s.heap.size ≤ q) [(am 0, .inr (19, [.int 1, .ref (am 1), .ref (am 4), .ref (am 5), .ref (am 6), .ref (am 7), .ref (am 8), .int 0, .ref (am 9), .int 0, .int (-1), .int 100, .ref (am 10), .long 0, .int 0, .int 0, .int 0, .int 0, .long 0]))] := hD
  refine lv_istore (lv' := [(7, .int 32), (6, .int 1), (5, .int 0), (4, .ref od), (3, .ref oa), (2, .ref (am 0)), (1, .ref (ad 0)), (0, .ref b)]) hx hb dL_law_661 hl (by decide) rfl (fun ls hl => ?_)
  refine lv_aload_n hx hb dL_law_663 rfl (lv_at hl 5 rfl) ?_
  refine ro_callV (As := []) (rest := []) ⟨hx, hb, hml, hown, hts⟩ (c_thrown l D cy _ 0 (am 0) 1 [.ref (am 1), .ref (am 4), .ref (am 5), .ref (am 6), .ref (am 7), .ref (am 8), .int 0, .ref (am 9), .int 0, .int (-1), .int 100, .ref (am 10), .long 0, .int 0, .int 0, .int 0, .int 0, .long 0] rfl) (cwV 0 hts (goodL gL_law_X14_thrown) rfl rfl rfl (by decide +kernel) ⟨by decide, by decide⟩) hK hN hP hS (ci := 19) (q0 := 0) rfl rfl rfl rfl hl.1 rfl (Nat.le_of_ble_eq_true rfl) dL_law_664 ⟨Nat.le_of_ble_eq_true rfl, Nat.le_of_ble_eq_true rfl⟩ (fun H locs hP hS => ?_)
  refine lv_iload hx hb dL_law_667 (lv_at hl 1 rfl) ?_
  refine lv_icmp_eq (tgt := 674) hx hb dL_law_669 (by decide) (fun _ => ?_) (fun c => absurd (by decide) c)
  refine lv_iload hx hb dL_law_674 (lv_at hl 1 rfl) ?_
  refine lv_if_ne (tgt := 691) hx hb dL_law_676 (by decide) (fun _ => ?_) (fun c => absurd c (by decide))
  refine lv_goto (tgt := 3117) hx hb dL_law_691 (by decide) ?_
  refine W.widen (k := 1000) (n := 10000) (Nat.le_of_ble_eq_true rfl) (Nat.le_of_ble_eq_true rfl) ?_
  exact hE _ _ _ hS (lv_sub hl [2, 3, 4, 5, 6, 7] rfl)

set_option maxRecDepth 100000 in
set_option maxHeartbeats 4000000 in
theorem law_hubOf_0 {p : Program} {e : Env} {s : State} {m : MethodId} {below : List Frame} {meth : Method} {c : Code} {l : Launch} (hfl : l.stackTraces = false) {b : Nat} {xs : Nat → Int32} {D : va_G} {cy : Nat → ClassId} {eda ca : Nat} {ia : Nat → Nat} (C0 : LawAt p s m meth c b xs D cy eda ca ia) {am : Nat → Nat} {ad : Nat → Nat} {rw_ : Nat → Nat → Option Nat} {w : va_W} (F : FrC cy ad rw_ w) {oa od : Nat} (hE : LawEnd p l e s m below meth c b (ad 0) (am 0) oa od) (e1 : xs 1 = 0) : LGoal p l e s m below meth c b D cy am eda w (ad 0) oa od 694 := by
  obtain ⟨hx, hb, hml, hown, hts, hX, hbl, hK, hN, hT, hJS⟩ := id C0
  have hA : ∀ q : Nat, s.heap.size ≤ q → (fun q => s.heap.size ≤ q) q := fun _ h => h
  have hbA : ¬ (fun q => s.heap.size ≤ q) b := Nat.not_le.mpr hbl
  intro H locs ls hP hD hS hl
  refine lv_aload_n hx hb dL_law_694 rfl (lv_at hl 4 rfl) ?_
  refine lv_aload_n hx hb dL_law_695 rfl (lv_at hl 5 rfl) ?_
  refine lv_iload hx hb dL_law_696 (lv_at hl 0 rfl) ?_
  refine lv_iconst (v := 1) hx hb dL_law_698 (by decide) ?_
  refine lv_iadd hx hb dL_law_699 ?_
  refine lv_topi (fun y ey => ?_)
  obtain rfl : y = 1 := ey.trans (by decide)
  refine va_sld hx hb hX hbl hbA hS (by unfold vp_in; decide) dL_law_700 ?_
  refine lv_topi (fun y ey => ?_)
  obtain rfl : y = 0 := ey.trans ((congrArg xs (by decide)).trans e1)
  refine lv_aload_n hx hb dL_law_701 rfl (lv_at hl 2 rfl) ?_
  refine mw_callS (wr := WM cy am eda 0) (wc := OCL cy oa :: w) (As := [.ref (ad 0), .int 0, .ref oa]) (rest := []) ⟨hx, hb, hml, hown, hts⟩ (w_hubOf_0 l D cy F oa (fun _ => 0) _ ) (vx_cwSW 3 hts (goodLW gL_law_L_hubOf) rfl rfl rfl (by decide +kernel) ⟨by decide, by decide⟩) hK hN hT (fun q hq => hS.2.1 q hq (Nat.not_le.mpr hq)) hP hD hS hA rfl hl.1 rfl (Nat.le_of_ble_eq_true rfl) dL_law_702 ⟨Nat.le_of_ble_eq_true rfl, Nat.le_of_ble_eq_true rfl⟩ (fun H locs hB hJ hS => ?_)
  obtain ⟨hP, hD⟩ := hJ [(oa, .inl (cy 2, 1, .inr (.inl (vp_updL (fun _ => 0) 0 ((-1))))))] hB (my_d1 (my_in1 (ko := 0) rfl))
  have hP := hP.sub (ws' := [(oa, .inl (cy 2, 1, .inr (.inl (vp_updL (fun _ => 0) 0 ((-1))))))] ++ WM cy am eda 0) [14, 0, 1, 2, 3, 4, 5, 6, 7, 8, 9, 10, 11, 12, 13] rfl
  have hD := hD.sub (ws' := [(oa, .inl (cy 2, 1, .inr (.inl (vp_updL (fun _ => 0) 0 ((-1))))))] ++ WM cy am eda 0) [14, 0, 1, 2, 3, 4, 5, 6, 7, 8, 9, 10, 11, 12, 13] (by decide) rfl
  refine lv_istore (lv' := [(6, .int 0), (5, .int 0), (4, .ref od), (3, .ref oa), (2, .ref (am 0)), (1, .ref (ad 0)), (0, .ref b)]) hx hb dL_law_705 hl (by decide) rfl (fun ls hl => ?_)
  refine lv_aload_n hx hb dL_law_707 rfl (lv_at hl 4 rfl) ?_
  refine lv_aload_n hx hb dL_law_708 rfl (lv_at hl 6 rfl) ?_
  refine lv_iload hx hb dL_law_709 (lv_at hl 1 rfl) ?_
  refine lv_iconst (v := 1) hx hb dL_law_711 (by decide) ?_
  refine lv_iadd hx hb dL_law_712 ?_
  refine lv_topi (fun y ey => ?_)
  obtain rfl : y = 1 := ey.trans (by decide)
  refine va_sld hx hb hX hbl hbA hS (by unfold vp_in; decide) dL_law_713 ?_
  refine lv_topi (fun y ey => ?_)
  obtain rfl : y = 0 := ey.trans ((congrArg xs (by decide)).trans e1)
  refine mj_callV (wr := [(oa, .inl (cy 2, 1, .inr (.inl (vp_updL (fun _ => 0) 0 ((-1))))))]) (wc := WM cy am eda 0) (As := [.int 0]) (rest := []) ⟨hx, hb, hml, hown, hts⟩ (a_hubOf_0 l D cy _ ) (cwV 1 hts (goodL gL_law_X14_hubOf) rfl rfl rfl (by decide +kernel) ⟨by decide, by decide⟩) hK hN hP hD hS hA hJS (ci := 19) (q0 := 0) rfl rfl rfl rfl hl.1 rfl (Nat.le_of_ble_eq_true rfl) dL_law_714 ⟨Nat.le_of_ble_eq_true rfl, Nat.le_of_ble_eq_true rfl⟩ (fun H locs hB hJ hS => ?_)
  obtain ⟨hP1, hD1⟩ := hB
  obtain ⟨hP, hD⟩ := hJ _ hP1 hD1
  have hP : va_P D vwCl [(oa, .inl (cy 2, 1, .inr (.inl (vp_updL (fun _ => 0) 0 ((-1)))))), (am 0, .inr (19, [.int 0, .ref (am 1), .ref (am 4), .ref (am 5), .ref (am 6), .ref (am 7), .ref (am 8), .int 0, .ref (am 9), .int 0, .int (-1), .int 100, .ref (am 10), .long 0, .int 0, .int 0, .int 0, .int 0, .long 0]))] H := hP
  have hD : va_D (fun q => s.heap.size ≤ q) [(oa, .inl (cy 2, 1, .inr (.inl (vp_updL (fun _ => 0) 0 ((-1)))))), (am 0, .inr (19, [.int 0, .ref (am 1), .ref (am 4), .ref (am 5), .ref (am 6), .ref (am 7), .ref (am 8), .int 0, .ref (am 9), .int 0, .int (-1), .int 100, .ref (am 10), .long 0, .int 0, .int 0, .int 0, .int 0, .long 0]))] := hD
  refine lv_istore (lv' := [(7, .int (-1)), (6, .int 0), (5, .int 0), (4, .ref od), (3, .ref oa), (2, .ref (am 0)), (1, .ref (ad 0)), (0, .ref b)]) hx hb dL_law_717 hl (by decide) rfl (fun ls hl => ?_)
  refine lv_aload_n hx hb dL_law_719 rfl (lv_at hl 5 rfl) ?_
  refine ro_callV (As := []) (rest := []) ⟨hx, hb, hml, hown, hts⟩ (c_thrown l D cy _ 1 (am 0) 0 [.ref (am 1), .ref (am 4), .ref (am 5), .ref (am 6), .ref (am 7), .ref (am 8), .int 0, .ref (am 9), .int 0, .int (-1), .int 100, .ref (am 10), .long 0, .int 0, .int 0, .int 0, .int 0, .long 0] rfl) (cwV 0 hts (goodL gL_law_X14_thrown) rfl rfl rfl (by decide +kernel) ⟨by decide, by decide⟩) hK hN hP hS (ci := 19) (q0 := 1) rfl rfl rfl rfl hl.1 rfl (Nat.le_of_ble_eq_true rfl) dL_law_720 ⟨Nat.le_of_ble_eq_true rfl, Nat.le_of_ble_eq_true rfl⟩ (fun H locs hP hS => ?_)
  refine lv_iload hx hb dL_law_723 (lv_at hl 1 rfl) ?_
  refine lv_icmp_eq (tgt := 730) hx hb dL_law_725 (by decide) (fun _ => ?_) (fun c => absurd (by decide) c)
  refine lv_iload hx hb dL_law_730 (lv_at hl 1 rfl) ?_
  refine lv_if_ne (tgt := 747) hx hb dL_law_732 (by decide) (fun c => absurd (by decide) c) (fun _ => ?_)
  refine lv_aload_n hx hb dL_law_735 rfl (lv_at hl 4 rfl) ?_
  refine lv_iconst (v := 0) hx hb dL_law_736 (by decide) ?_
  refine va_lald hx hb hK hP 0 2 rfl rfl (by unfold vp_in; decide) dL_law_737 ?_
  refine lv_topl (fun y ey => ?_)
  obtain rfl : y = (-1) := ey.trans (my_rd0 _ _)
  refine lv_iload hx hb dL_law_738 (lv_at hl 0 rfl) ?_
  refine lv_i2l (v := (-1)) hx hb dL_law_740 (by decide) ?_
  refine W.lcmp hx hb dL_law_741 ?_
  refine lv_topi (fun y ey => ?_)
  obtain rfl : y = 0 := ey.trans (my_cmp _)
  refine lv_if_eq (tgt := 747) hx hb dL_law_742 (by decide) (fun _ => ?_) (fun c => absurd (by decide) c)
  refine lv_goto (tgt := 3117) hx hb dL_law_747 (by decide) ?_
  refine W.widen (k := 1000) (n := 10000) (Nat.le_of_ble_eq_true rfl) (Nat.le_of_ble_eq_true rfl) ?_
  exact hE _ _ _ hS (lv_sub hl [2, 3, 4, 5, 6, 7] rfl)

set_option maxRecDepth 100000 in
set_option maxHeartbeats 4000000 in
theorem law_hubOf_1 {p : Program} {e : Env} {s : State} {m : MethodId} {below : List Frame} {meth : Method} {c : Code} {l : Launch} (hfl : l.stackTraces = false) {b : Nat} {xs : Nat → Int32} {D : va_G} {cy : Nat → ClassId} {eda ca : Nat} {ia : Nat → Nat} (C0 : LawAt p s m meth c b xs D cy eda ca ia) {am : Nat → Nat} {ad : Nat → Nat} {rw_ : Nat → Nat → Option Nat} {w : va_W} (F : FrC cy ad rw_ w) {oa od : Nat} (hE : LawEnd p l e s m below meth c b (ad 0) (am 0) oa od) (hd : ¬ xs 1 = 0) : LGoal p l e s m below meth c b D cy am eda w (ad 0) oa od 694 := by
  obtain ⟨hx, hb, hml, hown, hts, hX, hbl, hK, hN, hT, hJS⟩ := id C0
  have hA : ∀ q : Nat, s.heap.size ≤ q → (fun q => s.heap.size ≤ q) q := fun _ h => h
  have hbA : ¬ (fun q => s.heap.size ≤ q) b := Nat.not_le.mpr hbl
  intro H locs ls hP hD hS hl
  refine lv_aload_n hx hb dL_law_694 rfl (lv_at hl 4 rfl) ?_
  refine lv_aload_n hx hb dL_law_695 rfl (lv_at hl 5 rfl) ?_
  refine lv_iload hx hb dL_law_696 (lv_at hl 0 rfl) ?_
  refine lv_iconst (v := 1) hx hb dL_law_698 (by decide) ?_
  refine lv_iadd hx hb dL_law_699 ?_
  refine lv_topi (fun y ey => ?_)
  obtain rfl : y = 1 := ey.trans (by decide)
  refine va_sld hx hb hX hbl hbA hS (by unfold vp_in; decide) dL_law_700 ?_
  refine lv_topi (fun y ey => ?_)
  obtain rfl : y = xs 1 := ey.trans (congrArg xs (by decide))
  refine lv_aload_n hx hb dL_law_701 rfl (lv_at hl 2 rfl) ?_
  refine mw_callS (wr := WM cy am eda 0) (wc := OCL cy oa :: w) (As := [.ref (ad 0), .int (xs 1), .ref oa]) (rest := []) ⟨hx, hb, hml, hown, hts⟩ (w_hubOf_1 l D cy F hfl oa (fun _ => 0) _ (xs 1) hd) (vx_cwSW 3 hts (goodLW gL_law_L_hubOf) rfl rfl rfl (by decide +kernel) ⟨by decide, by decide⟩) hK hN hT (fun q hq => hS.2.1 q hq (Nat.not_le.mpr hq)) hP hD hS hA rfl hl.1 rfl (Nat.le_of_ble_eq_true rfl) dL_law_702 ⟨Nat.le_of_ble_eq_true rfl, Nat.le_of_ble_eq_true rfl⟩ (fun H locs hB hJ hS => ?_)
  obtain ⟨hP, hD⟩ := hJ [] (fun k q h => by simp at h) ⟨fun i j p q h => by simp at h, fun k q h => by simp at h⟩
  have hP : va_P D vwCl (WM cy am eda 0) H := hP
  have hD : va_D (fun q => s.heap.size ≤ q) (WM cy am eda 0) := hD
  refine lv_istore (lv' := [(6, .int 1), (5, .int 0), (4, .ref od), (3, .ref oa), (2, .ref (am 0)), (1, .ref (ad 0)), (0, .ref b)]) hx hb dL_law_705 hl (by decide) rfl (fun ls hl => ?_)
  refine lv_aload_n hx hb dL_law_707 rfl (lv_at hl 4 rfl) ?_
  refine lv_aload_n hx hb dL_law_708 rfl (lv_at hl 6 rfl) ?_
  refine lv_iload hx hb dL_law_709 (lv_at hl 1 rfl) ?_
  refine lv_iconst (v := 1) hx hb dL_law_711 (by decide) ?_
  refine lv_iadd hx hb dL_law_712 ?_
  refine lv_topi (fun y ey => ?_)
  obtain rfl : y = 1 := ey.trans (by decide)
  refine va_sld hx hb hX hbl hbA hS (by unfold vp_in; decide) dL_law_713 ?_
  refine lv_topi (fun y ey => ?_)
  obtain rfl : y = xs 1 := ey.trans (congrArg xs (by decide))
  refine mj_callV (wr := []) (wc := WM cy am eda 0) (As := [.int (xs 1)]) (rest := []) ⟨hx, hb, hml, hown, hts⟩ (a_hubOf_1 l D cy _ (xs 1) hd) (cwV 1 hts (goodL gL_law_X14_hubOf) rfl rfl rfl (by decide +kernel) ⟨by decide, by decide⟩) hK hN hP hD hS hA hJS (ci := 19) (q0 := 0) rfl rfl rfl rfl hl.1 rfl (Nat.le_of_ble_eq_true rfl) dL_law_714 ⟨Nat.le_of_ble_eq_true rfl, Nat.le_of_ble_eq_true rfl⟩ (fun H locs hB hJ hS => ?_)
  obtain ⟨hP1, hD1⟩ := hB
  obtain ⟨hP, hD⟩ := hJ _ hP1 hD1
  have hP : va_P D vwCl [(am 0, .inr (19, [.int 1, .ref (am 1), .ref (am 4), .ref (am 5), .ref (am 6), .ref (am 7), .ref (am 8), .int 0, .ref (am 9), .int 0, .int (-1), .int 100, .ref (am 10), .long 0, .int 0, .int 0, .int 0, .int 0, .long 0]))] H := hP
  have hD : va_D (fun q => s.heap.size ≤ q) [(am 0, .inr (19, [.int 1, .ref (am 1), .ref (am 4), .ref (am 5), .ref (am 6), .ref (am 7), .ref (am 8), .int 0, .ref (am 9), .int 0, .int (-1), .int 100, .ref (am 10), .long 0, .int 0, .int 0, .int 0, .int 0, .long 0]))] := hD
  refine lv_istore (lv' := [(7, .int 0), (6, .int 1), (5, .int 0), (4, .ref od), (3, .ref oa), (2, .ref (am 0)), (1, .ref (ad 0)), (0, .ref b)]) hx hb dL_law_717 hl (by decide) rfl (fun ls hl => ?_)
  refine lv_aload_n hx hb dL_law_719 rfl (lv_at hl 5 rfl) ?_
  refine ro_callV (As := []) (rest := []) ⟨hx, hb, hml, hown, hts⟩ (c_thrown l D cy _ 0 (am 0) 1 [.ref (am 1), .ref (am 4), .ref (am 5), .ref (am 6), .ref (am 7), .ref (am 8), .int 0, .ref (am 9), .int 0, .int (-1), .int 100, .ref (am 10), .long 0, .int 0, .int 0, .int 0, .int 0, .long 0] rfl) (cwV 0 hts (goodL gL_law_X14_thrown) rfl rfl rfl (by decide +kernel) ⟨by decide, by decide⟩) hK hN hP hS (ci := 19) (q0 := 0) rfl rfl rfl rfl hl.1 rfl (Nat.le_of_ble_eq_true rfl) dL_law_720 ⟨Nat.le_of_ble_eq_true rfl, Nat.le_of_ble_eq_true rfl⟩ (fun H locs hP hS => ?_)
  refine lv_iload hx hb dL_law_723 (lv_at hl 1 rfl) ?_
  refine lv_icmp_eq (tgt := 730) hx hb dL_law_725 (by decide) (fun _ => ?_) (fun c => absurd (by decide) c)
  refine lv_iload hx hb dL_law_730 (lv_at hl 1 rfl) ?_
  refine lv_if_ne (tgt := 747) hx hb dL_law_732 (by decide) (fun _ => ?_) (fun c => absurd c (by decide))
  refine lv_goto (tgt := 3117) hx hb dL_law_747 (by decide) ?_
  refine W.widen (k := 1000) (n := 10000) (Nat.le_of_ble_eq_true rfl) (Nat.le_of_ble_eq_true rfl) ?_
  exact hE _ _ _ hS (lv_sub hl [2, 3, 4, 5, 6, 7] rfl)

set_option maxRecDepth 100000 in
set_option maxHeartbeats 4000000 in
theorem law_depthOf_0 {p : Program} {e : Env} {s : State} {m : MethodId} {below : List Frame} {meth : Method} {c : Code} {l : Launch} (hfl : l.stackTraces = false) {b : Nat} {xs : Nat → Int32} {D : va_G} {cy : Nat → ClassId} {eda ca : Nat} {ia : Nat → Nat} (C0 : LawAt p s m meth c b xs D cy eda ca ia) {am : Nat → Nat} {ad : Nat → Nat} {rw_ : Nat → Nat → Option Nat} {w : va_W} (F : FrC cy ad rw_ w) {oa od : Nat} (hE : LawEnd p l e s m below meth c b (ad 0) (am 0) oa od) (e1 : xs 1 = 0) : LGoal p l e s m below meth c b D cy am eda w (ad 0) oa od 750 := by
  obtain ⟨hx, hb, hml, hown, hts, hX, hbl, hK, hN, hT, hJS⟩ := id C0
  have hA : ∀ q : Nat, s.heap.size ≤ q → (fun q => s.heap.size ≤ q) q := fun _ h => h
  have hbA : ¬ (fun q => s.heap.size ≤ q) b := Nat.not_le.mpr hbl
  intro H locs ls hP hD hS hl
  refine lv_aload_n hx hb dL_law_750 rfl (lv_at hl 4 rfl) ?_
  refine lv_aload_n hx hb dL_law_751 rfl (lv_at hl 5 rfl) ?_
  refine lv_iload hx hb dL_law_752 (lv_at hl 0 rfl) ?_
  refine lv_iconst (v := 1) hx hb dL_law_754 (by decide) ?_
  refine lv_iadd hx hb dL_law_755 ?_
  refine lv_topi (fun y ey => ?_)
  obtain rfl : y = 1 := ey.trans (by decide)
  refine va_sld hx hb hX hbl hbA hS (by unfold vp_in; decide) dL_law_756 ?_
  refine lv_topi (fun y ey => ?_)
  obtain rfl : y = 0 := ey.trans ((congrArg xs (by decide)).trans e1)
  refine lv_aload_n hx hb dL_law_757 rfl (lv_at hl 2 rfl) ?_
  refine mw_callS (wr := WM cy am eda 0) (wc := OCL cy oa :: w) (As := [.ref (ad 0), .int 0, .ref oa]) (rest := []) ⟨hx, hb, hml, hown, hts⟩ (w_depthOf_0 l D cy F oa (fun _ => 0) _ ) (vx_cwSW 3 hts (goodLW gL_law_L_depthOf) rfl rfl rfl (by decide +kernel) ⟨by decide, by decide⟩) hK hN hT (fun q hq => hS.2.1 q hq (Nat.not_le.mpr hq)) hP hD hS hA rfl hl.1 rfl (Nat.le_of_ble_eq_true rfl) dL_law_758 ⟨Nat.le_of_ble_eq_true rfl, Nat.le_of_ble_eq_true rfl⟩ (fun H locs hB hJ hS => ?_)
  obtain ⟨hP, hD⟩ := hJ [(oa, .inl (cy 2, 1, .inr (.inl (vp_updL (fun _ => 0) 0 (0)))))] hB (my_d1 (my_in1 (ko := 0) rfl))
  have hP := hP.sub (ws' := [(oa, .inl (cy 2, 1, .inr (.inl (vp_updL (fun _ => 0) 0 (0)))))] ++ WM cy am eda 0) [14, 0, 1, 2, 3, 4, 5, 6, 7, 8, 9, 10, 11, 12, 13] rfl
  have hD := hD.sub (ws' := [(oa, .inl (cy 2, 1, .inr (.inl (vp_updL (fun _ => 0) 0 (0)))))] ++ WM cy am eda 0) [14, 0, 1, 2, 3, 4, 5, 6, 7, 8, 9, 10, 11, 12, 13] (by decide) rfl
  refine lv_istore (lv' := [(6, .int 0), (5, .int 0), (4, .ref od), (3, .ref oa), (2, .ref (am 0)), (1, .ref (ad 0)), (0, .ref b)]) hx hb dL_law_761 hl (by decide) rfl (fun ls hl => ?_)
  refine lv_aload_n hx hb dL_law_763 rfl (lv_at hl 4 rfl) ?_
  refine lv_aload_n hx hb dL_law_764 rfl (lv_at hl 6 rfl) ?_
  refine lv_iload hx hb dL_law_765 (lv_at hl 1 rfl) ?_
  refine lv_iconst (v := 1) hx hb dL_law_767 (by decide) ?_
  refine lv_iadd hx hb dL_law_768 ?_
  refine lv_topi (fun y ey => ?_)
  obtain rfl : y = 1 := ey.trans (by decide)
  refine va_sld hx hb hX hbl hbA hS (by unfold vp_in; decide) dL_law_769 ?_
  refine lv_topi (fun y ey => ?_)
  obtain rfl : y = 0 := ey.trans ((congrArg xs (by decide)).trans e1)
  refine mj_callV (wr := [(oa, .inl (cy 2, 1, .inr (.inl (vp_updL (fun _ => 0) 0 (0)))))]) (wc := WM cy am eda 0) (As := [.int 0]) (rest := []) ⟨hx, hb, hml, hown, hts⟩ (a_depthOf_0 l D cy _ ) (cwV 1 hts (goodL gL_law_X14_depthOf) rfl rfl rfl (by decide +kernel) ⟨by decide, by decide⟩) hK hN hP hD hS hA hJS (ci := 19) (q0 := 0) rfl rfl rfl rfl hl.1 rfl (Nat.le_of_ble_eq_true rfl) dL_law_770 ⟨Nat.le_of_ble_eq_true rfl, Nat.le_of_ble_eq_true rfl⟩ (fun H locs hB hJ hS => ?_)
  obtain ⟨hP1, hD1⟩ := hB
  obtain ⟨hP, hD⟩ := hJ _ hP1 hD1
  have hP : va_P D vwCl [(oa, .inl (cy 2, 1, .inr (.inl (vp_updL (fun _ => 0) 0 (0))))), (am 0, .inr (19, [.int 0, .ref (am 1), .ref (am 4), .ref (am 5), .ref (am 6), .ref (am 7), .ref (am 8), .int 0, .ref (am 9), .int 0, .int (-1), .int 100, .ref (am 10), .long 0, .int 0, .int 0, .int 0, .int 0, .long 0]))] H := hP
  have hD : va_D (fun q => s.heap.size ≤ q) [(oa, .inl (cy 2, 1, .inr (.inl (vp_updL (fun _ => 0) 0 (0))))), (am 0, .inr (19, [.int 0, .ref (am 1), .ref (am 4), .ref (am 5), .ref (am 6), .ref (am 7), .ref (am 8), .int 0, .ref (am 9), .int 0, .int (-1), .int 100, .ref (am 10), .long 0, .int 0, .int 0, .int 0, .int 0, .long 0]))] := hD
  refine lv_istore (lv' := [(7, .int 0), (6, .int 0), (5, .int 0), (4, .ref od), (3, .ref oa), (2, .ref (am 0)), (1, .ref (ad 0)), (0, .ref b)]) hx hb dL_law_773 hl (by decide) rfl (fun ls hl => ?_)
  refine lv_aload_n hx hb dL_law_775 rfl (lv_at hl 5 rfl) ?_
  refine ro_callV (As := []) (rest := []) ⟨hx, hb, hml, hown, hts⟩ (c_thrown l D cy _ 1 (am 0) 0 [.ref (am 1), .ref (am 4), .ref (am 5), .ref (am 6), .ref (am 7), .ref (am 8), .int 0, .ref (am 9), .int 0, .int (-1), .int 100, .ref (am 10), .long 0, .int 0, .int 0, .int 0, .int 0, .long 0] rfl) (cwV 0 hts (goodL gL_law_X14_thrown) rfl rfl rfl (by decide +kernel) ⟨by decide, by decide⟩) hK hN hP hS (ci := 19) (q0 := 1) rfl rfl rfl rfl hl.1 rfl (Nat.le_of_ble_eq_true rfl) dL_law_776 ⟨Nat.le_of_ble_eq_true rfl, Nat.le_of_ble_eq_true rfl⟩ (fun H locs hP hS => ?_)
  refine lv_iload hx hb dL_law_779 (lv_at hl 1 rfl) ?_
  refine lv_icmp_eq (tgt := 786) hx hb dL_law_781 (by decide) (fun _ => ?_) (fun c => absurd (by decide) c)
  refine lv_iload hx hb dL_law_786 (lv_at hl 1 rfl) ?_
  refine lv_if_ne (tgt := 803) hx hb dL_law_788 (by decide) (fun c => absurd (by decide) c) (fun _ => ?_)
  refine lv_aload_n hx hb dL_law_791 rfl (lv_at hl 4 rfl) ?_
  refine lv_iconst (v := 0) hx hb dL_law_792 (by decide) ?_
  refine va_lald hx hb hK hP 0 2 rfl rfl (by unfold vp_in; decide) dL_law_793 ?_
  refine lv_topl (fun y ey => ?_)
  obtain rfl : y = 0 := ey.trans (my_rd0 _ _)
  refine lv_iload hx hb dL_law_794 (lv_at hl 0 rfl) ?_
  refine lv_i2l (v := 0) hx hb dL_law_796 (by decide) ?_
  refine W.lcmp hx hb dL_law_797 ?_
  refine lv_topi (fun y ey => ?_)
  obtain rfl : y = 0 := ey.trans (my_cmp _)
  refine lv_if_eq (tgt := 803) hx hb dL_law_798 (by decide) (fun _ => ?_) (fun c => absurd (by decide) c)
  refine lv_goto (tgt := 3117) hx hb dL_law_803 (by decide) ?_
  refine W.widen (k := 1000) (n := 10000) (Nat.le_of_ble_eq_true rfl) (Nat.le_of_ble_eq_true rfl) ?_
  exact hE _ _ _ hS (lv_sub hl [2, 3, 4, 5, 6, 7] rfl)

set_option maxRecDepth 100000 in
set_option maxHeartbeats 4000000 in
theorem law_depthOf_1 {p : Program} {e : Env} {s : State} {m : MethodId} {below : List Frame} {meth : Method} {c : Code} {l : Launch} (hfl : l.stackTraces = false) {b : Nat} {xs : Nat → Int32} {D : va_G} {cy : Nat → ClassId} {eda ca : Nat} {ia : Nat → Nat} (C0 : LawAt p s m meth c b xs D cy eda ca ia) {am : Nat → Nat} {ad : Nat → Nat} {rw_ : Nat → Nat → Option Nat} {w : va_W} (F : FrC cy ad rw_ w) {oa od : Nat} (hE : LawEnd p l e s m below meth c b (ad 0) (am 0) oa od) (hd : ¬ xs 1 = 0) : LGoal p l e s m below meth c b D cy am eda w (ad 0) oa od 750 := by
  obtain ⟨hx, hb, hml, hown, hts, hX, hbl, hK, hN, hT, hJS⟩ := id C0
  have hA : ∀ q : Nat, s.heap.size ≤ q → (fun q => s.heap.size ≤ q) q := fun _ h => h
  have hbA : ¬ (fun q => s.heap.size ≤ q) b := Nat.not_le.mpr hbl
  intro H locs ls hP hD hS hl
  refine lv_aload_n hx hb dL_law_750 rfl (lv_at hl 4 rfl) ?_
  refine lv_aload_n hx hb dL_law_751 rfl (lv_at hl 5 rfl) ?_
  refine lv_iload hx hb dL_law_752 (lv_at hl 0 rfl) ?_
  refine lv_iconst (v := 1) hx hb dL_law_754 (by decide) ?_
  refine lv_iadd hx hb dL_law_755 ?_
  refine lv_topi (fun y ey => ?_)
  obtain rfl : y = 1 := ey.trans (by decide)
  refine va_sld hx hb hX hbl hbA hS (by unfold vp_in; decide) dL_law_756 ?_
  refine lv_topi (fun y ey => ?_)
  obtain rfl : y = xs 1 := ey.trans (congrArg xs (by decide))
  refine lv_aload_n hx hb dL_law_757 rfl (lv_at hl 2 rfl) ?_
  refine mw_callS (wr := WM cy am eda 0) (wc := OCL cy oa :: w) (As := [.ref (ad 0), .int (xs 1), .ref oa]) (rest := []) ⟨hx, hb, hml, hown, hts⟩ (w_depthOf_1 l D cy F hfl oa (fun _ => 0) _ (xs 1) hd) (vx_cwSW 3 hts (goodLW gL_law_L_depthOf) rfl rfl rfl (by decide +kernel) ⟨by decide, by decide⟩) hK hN hT (fun q hq => hS.2.1 q hq (Nat.not_le.mpr hq)) hP hD hS hA rfl hl.1 rfl (Nat.le_of_ble_eq_true rfl) dL_law_758 ⟨Nat.le_of_ble_eq_true rfl, Nat.le_of_ble_eq_true rfl⟩ (fun H locs hB hJ hS => ?_)
  obtain ⟨hP, hD⟩ := hJ [] (fun k q h => by simp at h) ⟨fun i j p q h => by simp at h, fun k q h => by simp at h⟩
  have hP : va_P D vwCl (WM cy am eda 0) H := hP
  have hD : va_D (fun q => s.heap.size ≤ q) (WM cy am eda 0) := hD
  refine lv_istore (lv' := [(6, .int 1), (5, .int 0), (4, .ref od), (3, .ref oa), (2, .ref (am 0)), (1, .ref (ad 0)), (0, .ref b)]) hx hb dL_law_761 hl (by decide) rfl (fun ls hl => ?_)
  refine lv_aload_n hx hb dL_law_763 rfl (lv_at hl 4 rfl) ?_
  refine lv_aload_n hx hb dL_law_764 rfl (lv_at hl 6 rfl) ?_
  refine lv_iload hx hb dL_law_765 (lv_at hl 1 rfl) ?_
  refine lv_iconst (v := 1) hx hb dL_law_767 (by decide) ?_
  refine lv_iadd hx hb dL_law_768 ?_
  refine lv_topi (fun y ey => ?_)
  obtain rfl : y = 1 := ey.trans (by decide)
  refine va_sld hx hb hX hbl hbA hS (by unfold vp_in; decide) dL_law_769 ?_
  refine lv_topi (fun y ey => ?_)
  obtain rfl : y = xs 1 := ey.trans (congrArg xs (by decide))
  refine mj_callV (wr := []) (wc := WM cy am eda 0) (As := [.int (xs 1)]) (rest := []) ⟨hx, hb, hml, hown, hts⟩ (a_depthOf_1 l D cy _ (xs 1) hd) (cwV 1 hts (goodL gL_law_X14_depthOf) rfl rfl rfl (by decide +kernel) ⟨by decide, by decide⟩) hK hN hP hD hS hA hJS (ci := 19) (q0 := 0) rfl rfl rfl rfl hl.1 rfl (Nat.le_of_ble_eq_true rfl) dL_law_770 ⟨Nat.le_of_ble_eq_true rfl, Nat.le_of_ble_eq_true rfl⟩ (fun H locs hB hJ hS => ?_)
  obtain ⟨hP1, hD1⟩ := hB
  obtain ⟨hP, hD⟩ := hJ _ hP1 hD1
  have hP : va_P D vwCl [(am 0, .inr (19, [.int 1, .ref (am 1), .ref (am 4), .ref (am 5), .ref (am 6), .ref (am 7), .ref (am 8), .int 0, .ref (am 9), .int 0, .int (-1), .int 100, .ref (am 10), .long 0, .int 0, .int 0, .int 0, .int 0, .long 0]))] H := hP
  have hD : va_D (fun q => s.heap.size ≤ q) [(am 0, .inr (19, [.int 1, .ref (am 1), .ref (am 4), .ref (am 5), .ref (am 6), .ref (am 7), .ref (am 8), .int 0, .ref (am 9), .int 0, .int (-1), .int 100, .ref (am 10), .long 0, .int 0, .int 0, .int 0, .int 0, .long 0]))] := hD
  refine lv_istore (lv' := [(7, .int 0), (6, .int 1), (5, .int 0), (4, .ref od), (3, .ref oa), (2, .ref (am 0)), (1, .ref (ad 0)), (0, .ref b)]) hx hb dL_law_773 hl (by decide) rfl (fun ls hl => ?_)
  refine lv_aload_n hx hb dL_law_775 rfl (lv_at hl 5 rfl) ?_
  refine ro_callV (As := []) (rest := []) ⟨hx, hb, hml, hown, hts⟩ (c_thrown l D cy _ 0 (am 0) 1 [.ref (am 1), .ref (am 4), .ref (am 5), .ref (am 6), .ref (am 7), .ref (am 8), .int 0, .ref (am 9), .int 0, .int (-1), .int 100, .ref (am 10), .long 0, .int 0, .int 0, .int 0, .int 0, .long 0] rfl) (cwV 0 hts (goodL gL_law_X14_thrown) rfl rfl rfl (by decide +kernel) ⟨by decide, by decide⟩) hK hN hP hS (ci := 19) (q0 := 0) rfl rfl rfl rfl hl.1 rfl (Nat.le_of_ble_eq_true rfl) dL_law_776 ⟨Nat.le_of_ble_eq_true rfl, Nat.le_of_ble_eq_true rfl⟩ (fun H locs hP hS => ?_)
  refine lv_iload hx hb dL_law_779 (lv_at hl 1 rfl) ?_
  refine lv_icmp_eq (tgt := 786) hx hb dL_law_781 (by decide) (fun _ => ?_) (fun c => absurd (by decide) c)
  refine lv_iload hx hb dL_law_786 (lv_at hl 1 rfl) ?_
  refine lv_if_ne (tgt := 803) hx hb dL_law_788 (by decide) (fun _ => ?_) (fun c => absurd c (by decide))
  refine lv_goto (tgt := 3117) hx hb dL_law_803 (by decide) ?_
  refine W.widen (k := 1000) (n := 10000) (Nat.le_of_ble_eq_true rfl) (Nat.le_of_ble_eq_true rfl) ?_
  exact hE _ _ _ hS (lv_sub hl [2, 3, 4, 5, 6, 7] rfl)

set_option maxRecDepth 100000 in
set_option maxHeartbeats 4000000 in
theorem law_speedOf_0 {p : Program} {e : Env} {s : State} {m : MethodId} {below : List Frame} {meth : Method} {c : Code} {l : Launch} (hfl : l.stackTraces = false) {b : Nat} {xs : Nat → Int32} {D : va_G} {cy : Nat → ClassId} {eda ca : Nat} {ia : Nat → Nat} (C0 : LawAt p s m meth c b xs D cy eda ca ia) {am : Nat → Nat} {ad : Nat → Nat} {rw_ : Nat → Nat → Option Nat} {w : va_W} (F : FrC cy ad rw_ w) {oa od : Nat} (hE : LawEnd p l e s m below meth c b (ad 0) (am 0) oa od) (e1 : xs 1 = 0) : LGoal p l e s m below meth c b D cy am eda w (ad 0) oa od 806 := by
  obtain ⟨hx, hb, hml, hown, hts, hX, hbl, hK, hN, hT, hJS⟩ := id C0
  have hA : ∀ q : Nat, s.heap.size ≤ q → (fun q => s.heap.size ≤ q) q := fun _ h => h
  have hbA : ¬ (fun q => s.heap.size ≤ q) b := Nat.not_le.mpr hbl
  intro H locs ls hP hD hS hl
  refine lv_aload_n hx hb dL_law_806 rfl (lv_at hl 4 rfl) ?_
  refine lv_aload_n hx hb dL_law_807 rfl (lv_at hl 5 rfl) ?_
  refine lv_iload hx hb dL_law_808 (lv_at hl 0 rfl) ?_
  refine lv_iconst (v := 1) hx hb dL_law_810 (by decide) ?_
  refine lv_iadd hx hb dL_law_811 ?_
  refine lv_topi (fun y ey => ?_)
  obtain rfl : y = 1 := ey.trans (by decide)
  refine va_sld hx hb hX hbl hbA hS (by unfold vp_in; decide) dL_law_812 ?_
  refine lv_topi (fun y ey => ?_)
  obtain rfl : y = 0 := ey.trans ((congrArg xs (by decide)).trans e1)
  refine lv_aload_n hx hb dL_law_813 rfl (lv_at hl 2 rfl) ?_
  refine mw_callS (wr := WM cy am eda 0) (wc := OCL cy oa :: w) (As := [.ref (ad 0), .int 0, .ref oa]) (rest := []) ⟨hx, hb, hml, hown, hts⟩ (w_speedOf_0 l D cy F oa (fun _ => 0) _ ) (vx_cwSW 3 hts (goodLW gL_law_L_speedOf) rfl rfl rfl (by decide +kernel) ⟨by decide, by decide⟩) hK hN hT (fun q hq => hS.2.1 q hq (Nat.not_le.mpr hq)) hP hD hS hA rfl hl.1 rfl (Nat.le_of_ble_eq_true rfl) dL_law_814 ⟨Nat.le_of_ble_eq_true rfl, Nat.le_of_ble_eq_true rfl⟩ (fun H locs hB hJ hS => ?_)
  obtain ⟨hP, hD⟩ := hJ [(oa, .inl (cy 2, 1, .inr (.inl (vp_updL (fun _ => 0) 0 (104)))))] hB (my_d1 (my_in1 (ko := 0) rfl))
  have hP := hP.sub (ws' := [(oa, .inl (cy 2, 1, .inr (.inl (vp_updL (fun _ => 0) 0 (104)))))] ++ WM cy am eda 0) [14, 0, 1, 2, 3, 4, 5, 6, 7, 8, 9, 10, 11, 12, 13] rfl
  have hD := hD.sub (ws' := [(oa, .inl (cy 2, 1, .inr (.inl (vp_updL (fun _ => 0) 0 (104)))))] ++ WM cy am eda 0) [14, 0, 1, 2, 3, 4, 5, 6, 7, 8, 9, 10, 11, 12, 13] (by decide) rfl
  refine lv_istore (lv' := [(6, .int 0), (5, .int 0), (4, .ref od), (3, .ref oa), (2, .ref (am 0)), (1, .ref (ad 0)), (0, .ref b)]) hx hb dL_law_817 hl (by decide) rfl (fun ls hl => ?_)
  refine lv_aload_n hx hb dL_law_819 rfl (lv_at hl 4 rfl) ?_
  refine lv_aload_n hx hb dL_law_820 rfl (lv_at hl 6 rfl) ?_
  refine lv_iload hx hb dL_law_821 (lv_at hl 1 rfl) ?_
  refine lv_iconst (v := 1) hx hb dL_law_823 (by decide) ?_
  refine lv_iadd hx hb dL_law_824 ?_
  refine lv_topi (fun y ey => ?_)
  obtain rfl : y = 1 := ey.trans (by decide)
  refine va_sld hx hb hX hbl hbA hS (by unfold vp_in; decide) dL_law_825 ?_
  refine lv_topi (fun y ey => ?_)
  obtain rfl : y = 0 := ey.trans ((congrArg xs (by decide)).trans e1)
  refine mj_callV (wr := [(oa, .inl (cy 2, 1, .inr (.inl (vp_updL (fun _ => 0) 0 (104)))))]) (wc := WM cy am eda 0) (As := [.int 0]) (rest := []) ⟨hx, hb, hml, hown, hts⟩ (a_speedOf_0 l D cy _ ) (cwV 1 hts (goodL gL_law_X14_speedOf) rfl rfl rfl (by decide +kernel) ⟨by decide, by decide⟩) hK hN hP hD hS hA hJS (ci := 19) (q0 := 0) rfl rfl rfl rfl hl.1 rfl (Nat.le_of_ble_eq_true rfl) dL_law_826 ⟨Nat.le_of_ble_eq_true rfl, Nat.le_of_ble_eq_true rfl⟩ (fun H locs hB hJ hS => ?_)
  obtain ⟨hP1, hD1⟩ := hB
  obtain ⟨hP, hD⟩ := hJ _ hP1 hD1
  have hP : va_P D vwCl [(oa, .inl (cy 2, 1, .inr (.inl (vp_updL (fun _ => 0) 0 (104))))), (am 0, .inr (19, [.int 0, .ref (am 1), .ref (am 4), .ref (am 5), .ref (am 6), .ref (am 7), .ref (am 8), .int 0, .ref (am 9), .int 0, .int (-1), .int 100, .ref (am 10), .long 0, .int 0, .int 0, .int 0, .int 0, .long 0]))] H := hP
  have hD : va_D (fun q => s.heap.size ≤ q) [(oa, .inl (cy 2, 1, .inr (.inl (vp_updL (fun _ => 0) 0 (104))))), (am 0, .inr (19, [.int 0, .ref (am 1), .ref (am 4), .ref (am 5), .ref (am 6), .ref (am 7), .ref (am 8), .int 0, .ref (am 9), .int 0, .int (-1), .int 100, .ref (am 10), .long 0, .int 0, .int 0, .int 0, .int 0, .long 0]))] := hD
  refine lv_istore (lv' := [(7, .int 104), (6, .int 0), (5, .int 0), (4, .ref od), (3, .ref oa), (2, .ref (am 0)), (1, .ref (ad 0)), (0, .ref b)]) hx hb dL_law_829 hl (by decide) rfl (fun ls hl => ?_)
  refine lv_aload_n hx hb dL_law_831 rfl (lv_at hl 5 rfl) ?_
  refine ro_callV (As := []) (rest := []) ⟨hx, hb, hml, hown, hts⟩ (c_thrown l D cy _ 1 (am 0) 0 [.ref (am 1), .ref (am 4), .ref (am 5), .ref (am 6), .ref (am 7), .ref (am 8), .int 0, .ref (am 9), .int 0, .int (-1), .int 100, .ref (am 10), .long 0, .int 0, .int 0, .int 0, .int 0, .long 0] rfl) (cwV 0 hts (goodL gL_law_X14_thrown) rfl rfl rfl (by decide +kernel) ⟨by decide, by decide⟩) hK hN hP hS (ci := 19) (q0 := 1) rfl rfl rfl rfl hl.1 rfl (Nat.le_of_ble_eq_true rfl) dL_law_832 ⟨Nat.le_of_ble_eq_true rfl, Nat.le_of_ble_eq_true rfl⟩ (fun H locs hP hS => ?_)
  refine lv_iload hx hb dL_law_835 (lv_at hl 1 rfl) ?_
  refine lv_icmp_eq (tgt := 842) hx hb dL_law_837 (by decide) (fun _ => ?_) (fun c => absurd (by decide) c)
  refine lv_iload hx hb dL_law_842 (lv_at hl 1 rfl) ?_
  refine lv_if_ne (tgt := 859) hx hb dL_law_844 (by decide) (fun c => absurd (by decide) c) (fun _ => ?_)
  refine lv_aload_n hx hb dL_law_847 rfl (lv_at hl 4 rfl) ?_
  refine lv_iconst (v := 0) hx hb dL_law_848 (by decide) ?_
  refine va_lald hx hb hK hP 0 2 rfl rfl (by unfold vp_in; decide) dL_law_849 ?_
  refine lv_topl (fun y ey => ?_)
  obtain rfl : y = 104 := ey.trans (my_rd0 _ _)
  refine lv_iload hx hb dL_law_850 (lv_at hl 0 rfl) ?_
  refine lv_i2l (v := 104) hx hb dL_law_852 (by decide) ?_
  refine W.lcmp hx hb dL_law_853 ?_
  refine lv_topi (fun y ey => ?_)
  obtain rfl : y = 0 := ey.trans (my_cmp _)
  refine lv_if_eq (tgt := 859) hx hb dL_law_854 (by decide) (fun _ => ?_) (fun c => absurd (by decide) c)
  refine lv_goto (tgt := 3117) hx hb dL_law_859 (by decide) ?_
  refine W.widen (k := 1000) (n := 10000) (Nat.le_of_ble_eq_true rfl) (Nat.le_of_ble_eq_true rfl) ?_
  exact hE _ _ _ hS (lv_sub hl [2, 3, 4, 5, 6, 7] rfl)

set_option maxRecDepth 100000 in
set_option maxHeartbeats 4000000 in
theorem law_speedOf_1 {p : Program} {e : Env} {s : State} {m : MethodId} {below : List Frame} {meth : Method} {c : Code} {l : Launch} (hfl : l.stackTraces = false) {b : Nat} {xs : Nat → Int32} {D : va_G} {cy : Nat → ClassId} {eda ca : Nat} {ia : Nat → Nat} (C0 : LawAt p s m meth c b xs D cy eda ca ia) {am : Nat → Nat} {ad : Nat → Nat} {rw_ : Nat → Nat → Option Nat} {w : va_W} (F : FrC cy ad rw_ w) {oa od : Nat} (hE : LawEnd p l e s m below meth c b (ad 0) (am 0) oa od) (hd : ¬ xs 1 = 0) : LGoal p l e s m below meth c b D cy am eda w (ad 0) oa od 806 := by
  obtain ⟨hx, hb, hml, hown, hts, hX, hbl, hK, hN, hT, hJS⟩ := id C0
  have hA : ∀ q : Nat, s.heap.size ≤ q → (fun q => s.heap.size ≤ q) q := fun _ h => h
  have hbA : ¬ (fun q => s.heap.size ≤ q) b := Nat.not_le.mpr hbl
  intro H locs ls hP hD hS hl
  refine lv_aload_n hx hb dL_law_806 rfl (lv_at hl 4 rfl) ?_
  refine lv_aload_n hx hb dL_law_807 rfl (lv_at hl 5 rfl) ?_
  refine lv_iload hx hb dL_law_808 (lv_at hl 0 rfl) ?_
  refine lv_iconst (v := 1) hx hb dL_law_810 (by decide) ?_
  refine lv_iadd hx hb dL_law_811 ?_
  refine lv_topi (fun y ey => ?_)
  obtain rfl : y = 1 := ey.trans (by decide)
  refine va_sld hx hb hX hbl hbA hS (by unfold vp_in; decide) dL_law_812 ?_
  refine lv_topi (fun y ey => ?_)
  obtain rfl : y = xs 1 := ey.trans (congrArg xs (by decide))
  refine lv_aload_n hx hb dL_law_813 rfl (lv_at hl 2 rfl) ?_
  refine mw_callS (wr := WM cy am eda 0) (wc := OCL cy oa :: w) (As := [.ref (ad 0), .int (xs 1), .ref oa]) (rest := []) ⟨hx, hb, hml, hown, hts⟩ (w_speedOf_1 l D cy F hfl oa (fun _ => 0) _ (xs 1) hd) (vx_cwSW 3 hts (goodLW gL_law_L_speedOf) rfl rfl rfl (by decide +kernel) ⟨by decide, by decide⟩) hK hN hT (fun q hq => hS.2.1 q hq (Nat.not_le.mpr hq)) hP hD hS hA rfl hl.1 rfl (Nat.le_of_ble_eq_true rfl) dL_law_814 ⟨Nat.le_of_ble_eq_true rfl, Nat.le_of_ble_eq_true rfl⟩ (fun H locs hB hJ hS => ?_)
  obtain ⟨hP, hD⟩ := hJ [] (fun k q h => by simp at h) ⟨fun i j p q h => by simp at h, fun k q h => by simp at h⟩
  have hP : va_P D vwCl (WM cy am eda 0) H := hP
  have hD : va_D (fun q => s.heap.size ≤ q) (WM cy am eda 0) := hD
  refine lv_istore (lv' := [(6, .int 1), (5, .int 0), (4, .ref od), (3, .ref oa), (2, .ref (am 0)), (1, .ref (ad 0)), (0, .ref b)]) hx hb dL_law_817 hl (by decide) rfl (fun ls hl => ?_)
  refine lv_aload_n hx hb dL_law_819 rfl (lv_at hl 4 rfl) ?_
  refine lv_aload_n hx hb dL_law_820 rfl (lv_at hl 6 rfl) ?_
  refine lv_iload hx hb dL_law_821 (lv_at hl 1 rfl) ?_
  refine lv_iconst (v := 1) hx hb dL_law_823 (by decide) ?_
  refine lv_iadd hx hb dL_law_824 ?_
  refine lv_topi (fun y ey => ?_)
  obtain rfl : y = 1 := ey.trans (by decide)
  refine va_sld hx hb hX hbl hbA hS (by unfold vp_in; decide) dL_law_825 ?_
  refine lv_topi (fun y ey => ?_)
  obtain rfl : y = xs 1 := ey.trans (congrArg xs (by decide))
  refine mj_callV (wr := []) (wc := WM cy am eda 0) (As := [.int (xs 1)]) (rest := []) ⟨hx, hb, hml, hown, hts⟩ (a_speedOf_1 l D cy _ (xs 1) hd) (cwV 1 hts (goodL gL_law_X14_speedOf) rfl rfl rfl (by decide +kernel) ⟨by decide, by decide⟩) hK hN hP hD hS hA hJS (ci := 19) (q0 := 0) rfl rfl rfl rfl hl.1 rfl (Nat.le_of_ble_eq_true rfl) dL_law_826 ⟨Nat.le_of_ble_eq_true rfl, Nat.le_of_ble_eq_true rfl⟩ (fun H locs hB hJ hS => ?_)
  obtain ⟨hP1, hD1⟩ := hB
  obtain ⟨hP, hD⟩ := hJ _ hP1 hD1
  have hP : va_P D vwCl [(am 0, .inr (19, [.int 1, .ref (am 1), .ref (am 4), .ref (am 5), .ref (am 6), .ref (am 7), .ref (am 8), .int 0, .ref (am 9), .int 0, .int (-1), .int 100, .ref (am 10), .long 0, .int 0, .int 0, .int 0, .int 0, .long 0]))] H := hP
  have hD : va_D (fun q => s.heap.size ≤ q) [(am 0, .inr (19, [.int 1, .ref (am 1), .ref (am 4), .ref (am 5), .ref (am 6), .ref (am 7), .ref (am 8), .int 0, .ref (am 9), .int 0, .int (-1), .int 100, .ref (am 10), .long 0, .int 0, .int 0, .int 0, .int 0, .long 0]))] := hD
  refine lv_istore (lv' := [(7, .int 32), (6, .int 1), (5, .int 0), (4, .ref od), (3, .ref oa), (2, .ref (am 0)), (1, .ref (ad 0)), (0, .ref b)]) hx hb dL_law_829 hl (by decide) rfl (fun ls hl => ?_)
  refine lv_aload_n hx hb dL_law_831 rfl (lv_at hl 5 rfl) ?_
  refine ro_callV (As := []) (rest := []) ⟨hx, hb, hml, hown, hts⟩ (c_thrown l D cy _ 0 (am 0) 1 [.ref (am 1), .ref (am 4), .ref (am 5), .ref (am 6), .ref (am 7), .ref (am 8), .int 0, .ref (am 9), .int 0, .int (-1), .int 100, .ref (am 10), .long 0, .int 0, .int 0, .int 0, .int 0, .long 0] rfl) (cwV 0 hts (goodL gL_law_X14_thrown) rfl rfl rfl (by decide +kernel) ⟨by decide, by decide⟩) hK hN hP hS (ci := 19) (q0 := 0) rfl rfl rfl rfl hl.1 rfl (Nat.le_of_ble_eq_true rfl) dL_law_832 ⟨Nat.le_of_ble_eq_true rfl, Nat.le_of_ble_eq_true rfl⟩ (fun H locs hP hS => ?_)
  refine lv_iload hx hb dL_law_835 (lv_at hl 1 rfl) ?_
  refine lv_icmp_eq (tgt := 842) hx hb dL_law_837 (by decide) (fun _ => ?_) (fun c => absurd (by decide) c)
  refine lv_iload hx hb dL_law_842 (lv_at hl 1 rfl) ?_
  refine lv_if_ne (tgt := 859) hx hb dL_law_844 (by decide) (fun _ => ?_) (fun c => absurd c (by decide))
  refine lv_goto (tgt := 3117) hx hb dL_law_859 (by decide) ?_
  refine W.widen (k := 1000) (n := 10000) (Nat.le_of_ble_eq_true rfl) (Nat.le_of_ble_eq_true rfl) ?_
  exact hE _ _ _ hS (lv_sub hl [2, 3, 4, 5, 6, 7] rfl)

set_option maxRecDepth 100000 in
set_option maxHeartbeats 4000000 in
theorem law_addressOf_0 {p : Program} {e : Env} {s : State} {m : MethodId} {below : List Frame} {meth : Method} {c : Code} {l : Launch} (hfl : l.stackTraces = false) {b : Nat} {xs : Nat → Int32} {D : va_G} {cy : Nat → ClassId} {eda ca : Nat} {ia : Nat → Nat} (C0 : LawAt p s m meth c b xs D cy eda ca ia) {am : Nat → Nat} {ad : Nat → Nat} {rw_ : Nat → Nat → Option Nat} {w : va_W} (F : FrC cy ad rw_ w) {oa od : Nat} (hE : LawEnd p l e s m below meth c b (ad 0) (am 0) oa od) (e1 : xs 1 = 0) : LGoal p l e s m below meth c b D cy am eda w (ad 0) oa od 918 := by
  obtain ⟨hx, hb, hml, hown, hts, hX, hbl, hK, hN, hT, hJS⟩ := id C0
  have hA : ∀ q : Nat, s.heap.size ≤ q → (fun q => s.heap.size ≤ q) q := fun _ h => h
  have hbA : ¬ (fun q => s.heap.size ≤ q) b := Nat.not_le.mpr hbl
  intro H locs ls hP hD hS hl
  refine lv_aload_n hx hb dL_law_918 rfl (lv_at hl 4 rfl) ?_
  refine lv_aload_n hx hb dL_law_919 rfl (lv_at hl 5 rfl) ?_
  refine lv_iload hx hb dL_law_920 (lv_at hl 0 rfl) ?_
  refine lv_iconst (v := 1) hx hb dL_law_922 (by decide) ?_
  refine lv_iadd hx hb dL_law_923 ?_
  refine lv_topi (fun y ey => ?_)
  obtain rfl : y = 1 := ey.trans (by decide)
  refine va_sld hx hb hX hbl hbA hS (by unfold vp_in; decide) dL_law_924 ?_
  refine lv_topi (fun y ey => ?_)
  obtain rfl : y = 0 := ey.trans ((congrArg xs (by decide)).trans e1)
  refine lv_aload_n hx hb dL_law_925 rfl (lv_at hl 2 rfl) ?_
  refine mw_callS (wr := WM cy am eda 0) (wc := OCL cy oa :: w) (As := [.ref (ad 0), .int 0, .ref oa]) (rest := []) ⟨hx, hb, hml, hown, hts⟩ (w_addressOf_0 l D cy F oa (fun _ => 0) _ ) (vx_cwSW 3 hts (goodLW gL_law_L_addressOf) rfl rfl rfl (by decide +kernel) ⟨by decide, by decide⟩) hK hN hT (fun q hq => hS.2.1 q hq (Nat.not_le.mpr hq)) hP hD hS hA rfl hl.1 rfl (Nat.le_of_ble_eq_true rfl) dL_law_926 ⟨Nat.le_of_ble_eq_true rfl, Nat.le_of_ble_eq_true rfl⟩ (fun H locs hB hJ hS => ?_)
  obtain ⟨hP, hD⟩ := hJ [(oa, .inl (cy 2, 1, .inr (.inl (vp_updL (fun _ => 0) 0 (0)))))] hB (my_d1 (my_in1 (ko := 0) rfl))
  have hP := hP.sub (ws' := [(oa, .inl (cy 2, 1, .inr (.inl (vp_updL (fun _ => 0) 0 (0)))))] ++ WM cy am eda 0) [14, 0, 1, 2, 3, 4, 5, 6, 7, 8, 9, 10, 11, 12, 13] rfl
  have hD := hD.sub (ws' := [(oa, .inl (cy 2, 1, .inr (.inl (vp_updL (fun _ => 0) 0 (0)))))] ++ WM cy am eda 0) [14, 0, 1, 2, 3, 4, 5, 6, 7, 8, 9, 10, 11, 12, 13] (by decide) rfl
  refine lv_istore (lv' := [(6, .int 0), (5, .int 0), (4, .ref od), (3, .ref oa), (2, .ref (am 0)), (1, .ref (ad 0)), (0, .ref b)]) hx hb dL_law_929 hl (by decide) rfl (fun ls hl => ?_)
  refine lv_aload_n hx hb dL_law_931 rfl (lv_at hl 4 rfl) ?_
  refine lv_aload_n hx hb dL_law_932 rfl (lv_at hl 6 rfl) ?_
  refine lv_iload hx hb dL_law_933 (lv_at hl 1 rfl) ?_
  refine lv_iconst (v := 1) hx hb dL_law_935 (by decide) ?_
  refine lv_iadd hx hb dL_law_936 ?_
  refine lv_topi (fun y ey => ?_)
  obtain rfl : y = 1 := ey.trans (by decide)
  refine va_sld hx hb hX hbl hbA hS (by unfold vp_in; decide) dL_law_937 ?_
  refine lv_topi (fun y ey => ?_)
  obtain rfl : y = 0 := ey.trans ((congrArg xs (by decide)).trans e1)
  refine mj_callV (wr := [(oa, .inl (cy 2, 1, .inr (.inl (vp_updL (fun _ => 0) 0 (0)))))]) (wc := WM cy am eda 0) (As := [.int 0]) (rest := []) ⟨hx, hb, hml, hown, hts⟩ (a_addressOf_0 l D cy _ ) (cwV 1 hts (goodL gL_law_X14_addressOf) rfl rfl rfl (by decide +kernel) ⟨by decide, by decide⟩) hK hN hP hD hS hA hJS (ci := 19) (q0 := 0) rfl rfl rfl rfl hl.1 rfl (Nat.le_of_ble_eq_true rfl) dL_law_938 ⟨Nat.le_of_ble_eq_true rfl, Nat.le_of_ble_eq_true rfl⟩ (fun H locs hB hJ hS => ?_)
  obtain ⟨hP1, hD1⟩ := hB
  obtain ⟨hP, hD⟩ := hJ _ hP1 hD1
  have hP : va_P D vwCl [(oa, .inl (cy 2, 1, .inr (.inl (vp_updL (fun _ => 0) 0 (0))))), (am 0, .inr (19, [.int 0, .ref (am 1), .ref (am 4), .ref (am 5), .ref (am 6), .ref (am 7), .ref (am 8), .int 0, .ref (am 9), .int 0, .int (-1), .int 100, .ref (am 10), .long 0, .int 0, .int 0, .int 0, .int 0, .long 0]))] H := hP
  have hD : va_D (fun q => s.heap.size ≤ q) [(oa, .inl (cy 2, 1, .inr (.inl (vp_updL (fun _ => 0) 0 (0))))), (am 0, .inr (19, [.int 0, .ref (am 1), .ref (am 4), .ref (am 5), .ref (am 6), .ref (am 7), .ref (am 8), .int 0, .ref (am 9), .int 0, .int (-1), .int 100, .ref (am 10), .long 0, .int 0, .int 0, .int 0, .int 0, .long 0]))] := hD
  refine lv_istore (lv' := [(7, .int 0), (6, .int 0), (5, .int 0), (4, .ref od), (3, .ref oa), (2, .ref (am 0)), (1, .ref (ad 0)), (0, .ref b)]) hx hb dL_law_941 hl (by decide) rfl (fun ls hl => ?_)
  refine lv_aload_n hx hb dL_law_943 rfl (lv_at hl 5 rfl) ?_
  refine ro_callV (As := []) (rest := []) ⟨hx, hb, hml, hown, hts⟩ (c_thrown l D cy _ 1 (am 0) 0 [.ref (am 1), .ref (am 4), .ref (am 5), .ref (am 6), .ref (am 7), .ref (am 8), .int 0, .ref (am 9), .int 0, .int (-1), .int 100, .ref (am 10), .long 0, .int 0, .int 0, .int 0, .int 0, .long 0] rfl) (cwV 0 hts (goodL gL_law_X14_thrown) rfl rfl rfl (by decide +kernel) ⟨by decide, by decide⟩) hK hN hP hS (ci := 19) (q0 := 1) rfl rfl rfl rfl hl.1 rfl (Nat.le_of_ble_eq_true rfl) dL_law_944 ⟨Nat.le_of_ble_eq_true rfl, Nat.le_of_ble_eq_true rfl⟩ (fun H locs hP hS => ?_)
  refine lv_iload hx hb dL_law_947 (lv_at hl 1 rfl) ?_
  refine lv_icmp_eq (tgt := 954) hx hb dL_law_949 (by decide) (fun _ => ?_) (fun c => absurd (by decide) c)
  refine lv_iload hx hb dL_law_954 (lv_at hl 1 rfl) ?_
  refine lv_if_ne (tgt := 971) hx hb dL_law_956 (by decide) (fun c => absurd (by decide) c) (fun _ => ?_)
  refine lv_aload_n hx hb dL_law_959 rfl (lv_at hl 4 rfl) ?_
  refine lv_iconst (v := 0) hx hb dL_law_960 (by decide) ?_
  refine va_lald hx hb hK hP 0 2 rfl rfl (by unfold vp_in; decide) dL_law_961 ?_
  refine lv_topl (fun y ey => ?_)
  obtain rfl : y = 0 := ey.trans (my_rd0 _ _)
  refine lv_iload hx hb dL_law_962 (lv_at hl 0 rfl) ?_
  refine lv_i2l (v := 0) hx hb dL_law_964 (by decide) ?_
  refine W.lcmp hx hb dL_law_965 ?_
  refine lv_topi (fun y ey => ?_)
  obtain rfl : y = 0 := ey.trans (my_cmp _)
  refine lv_if_eq (tgt := 971) hx hb dL_law_966 (by decide) (fun _ => ?_) (fun c => absurd (by decide) c)
  refine lv_goto (tgt := 3117) hx hb dL_law_971 (by decide) ?_
  refine W.widen (k := 1000) (n := 10000) (Nat.le_of_ble_eq_true rfl) (Nat.le_of_ble_eq_true rfl) ?_
  exact hE _ _ _ hS (lv_sub hl [2, 3, 4, 5, 6, 7] rfl)

set_option maxRecDepth 100000 in
set_option maxHeartbeats 4000000 in
theorem law_addressOf_1 {p : Program} {e : Env} {s : State} {m : MethodId} {below : List Frame} {meth : Method} {c : Code} {l : Launch} (hfl : l.stackTraces = false) {b : Nat} {xs : Nat → Int32} {D : va_G} {cy : Nat → ClassId} {eda ca : Nat} {ia : Nat → Nat} (C0 : LawAt p s m meth c b xs D cy eda ca ia) {am : Nat → Nat} {ad : Nat → Nat} {rw_ : Nat → Nat → Option Nat} {w : va_W} (F : FrC cy ad rw_ w) {oa od : Nat} (hE : LawEnd p l e s m below meth c b (ad 0) (am 0) oa od) (hd : ¬ xs 1 = 0) : LGoal p l e s m below meth c b D cy am eda w (ad 0) oa od 918 := by
  obtain ⟨hx, hb, hml, hown, hts, hX, hbl, hK, hN, hT, hJS⟩ := id C0
  have hA : ∀ q : Nat, s.heap.size ≤ q → (fun q => s.heap.size ≤ q) q := fun _ h => h
  have hbA : ¬ (fun q => s.heap.size ≤ q) b := Nat.not_le.mpr hbl
  intro H locs ls hP hD hS hl
  refine lv_aload_n hx hb dL_law_918 rfl (lv_at hl 4 rfl) ?_
  refine lv_aload_n hx hb dL_law_919 rfl (lv_at hl 5 rfl) ?_
  refine lv_iload hx hb dL_law_920 (lv_at hl 0 rfl) ?_
  refine lv_iconst (v := 1) hx hb dL_law_922 (by decide) ?_
  refine lv_iadd hx hb dL_law_923 ?_
  refine lv_topi (fun y ey => ?_)
  obtain rfl : y = 1 := ey.trans (by decide)
  refine va_sld hx hb hX hbl hbA hS (by unfold vp_in; decide) dL_law_924 ?_
  refine lv_topi (fun y ey => ?_)
  obtain rfl : y = xs 1 := ey.trans (congrArg xs (by decide))
  refine lv_aload_n hx hb dL_law_925 rfl (lv_at hl 2 rfl) ?_
  refine mw_callS (wr := WM cy am eda 0) (wc := OCL cy oa :: w) (As := [.ref (ad 0), .int (xs 1), .ref oa]) (rest := []) ⟨hx, hb, hml, hown, hts⟩ (w_addressOf_1 l D cy F hfl oa (fun _ => 0) _ (xs 1) hd) (vx_cwSW 3 hts (goodLW gL_law_L_addressOf) rfl rfl rfl (by decide +kernel) ⟨by decide, by decide⟩) hK hN hT (fun q hq => hS.2.1 q hq (Nat.not_le.mpr hq)) hP hD hS hA rfl hl.1 rfl (Nat.le_of_ble_eq_true rfl) dL_law_926 ⟨Nat.le_of_ble_eq_true rfl, Nat.le_of_ble_eq_true rfl⟩ (fun H locs hB hJ hS => ?_)
  obtain ⟨hP, hD⟩ := hJ [] (fun k q h => by simp at h) ⟨fun i j p q h => by simp at h, fun k q h => by simp at h⟩
  have hP : va_P D vwCl (WM cy am eda 0) H := hP
  have hD : va_D (fun q => s.heap.size ≤ q) (WM cy am eda 0) := hD
  refine lv_istore (lv' := [(6, .int 1), (5, .int 0), (4, .ref od), (3, .ref oa), (2, .ref (am 0)), (1, .ref (ad 0)), (0, .ref b)]) hx hb dL_law_929 hl (by decide) rfl (fun ls hl => ?_)
  refine lv_aload_n hx hb dL_law_931 rfl (lv_at hl 4 rfl) ?_
  refine lv_aload_n hx hb dL_law_932 rfl (lv_at hl 6 rfl) ?_
  refine lv_iload hx hb dL_law_933 (lv_at hl 1 rfl) ?_
  refine lv_iconst (v := 1) hx hb dL_law_935 (by decide) ?_
  refine lv_iadd hx hb dL_law_936 ?_
  refine lv_topi (fun y ey => ?_)
  obtain rfl : y = 1 := ey.trans (by decide)
  refine va_sld hx hb hX hbl hbA hS (by unfold vp_in; decide) dL_law_937 ?_
  refine lv_topi (fun y ey => ?_)
  obtain rfl : y = xs 1 := ey.trans (congrArg xs (by decide))
  refine mj_callV (wr := []) (wc := WM cy am eda 0) (As := [.int (xs 1)]) (rest := []) ⟨hx, hb, hml, hown, hts⟩ (a_addressOf_1 l D cy _ (xs 1) hd) (cwV 1 hts (goodL gL_law_X14_addressOf) rfl rfl rfl (by decide +kernel) ⟨by decide, by decide⟩) hK hN hP hD hS hA hJS (ci := 19) (q0 := 0) rfl rfl rfl rfl hl.1 rfl (Nat.le_of_ble_eq_true rfl) dL_law_938 ⟨Nat.le_of_ble_eq_true rfl, Nat.le_of_ble_eq_true rfl⟩ (fun H locs hB hJ hS => ?_)
  obtain ⟨hP1, hD1⟩ := hB
  obtain ⟨hP, hD⟩ := hJ _ hP1 hD1
  have hP : va_P D vwCl [(am 0, .inr (19, [.int 1, .ref (am 1), .ref (am 4), .ref (am 5), .ref (am 6), .ref (am 7), .ref (am 8), .int 0, .ref (am 9), .int 0, .int (-1), .int 100, .ref (am 10), .long 0, .int 0, .int 0, .int 0, .int 0, .long 0]))] H := hP
  have hD : va_D (fun q => s.heap.size ≤ q) [(am 0, .inr (19, [.int 1, .ref (am 1), .ref (am 4), .ref (am 5), .ref (am 6), .ref (am 7), .ref (am 8), .int 0, .ref (am 9), .int 0, .int (-1), .int 100, .ref (am 10), .long 0, .int 0, .int 0, .int 0, .int 0, .long 0]))] := hD
  refine lv_istore (lv' := [(7, .int 0), (6, .int 1), (5, .int 0), (4, .ref od), (3, .ref oa), (2, .ref (am 0)), (1, .ref (ad 0)), (0, .ref b)]) hx hb dL_law_941 hl (by decide) rfl (fun ls hl => ?_)
  refine lv_aload_n hx hb dL_law_943 rfl (lv_at hl 5 rfl) ?_
  refine ro_callV (As := []) (rest := []) ⟨hx, hb, hml, hown, hts⟩ (c_thrown l D cy _ 0 (am 0) 1 [.ref (am 1), .ref (am 4), .ref (am 5), .ref (am 6), .ref (am 7), .ref (am 8), .int 0, .ref (am 9), .int 0, .int (-1), .int 100, .ref (am 10), .long 0, .int 0, .int 0, .int 0, .int 0, .long 0] rfl) (cwV 0 hts (goodL gL_law_X14_thrown) rfl rfl rfl (by decide +kernel) ⟨by decide, by decide⟩) hK hN hP hS (ci := 19) (q0 := 0) rfl rfl rfl rfl hl.1 rfl (Nat.le_of_ble_eq_true rfl) dL_law_944 ⟨Nat.le_of_ble_eq_true rfl, Nat.le_of_ble_eq_true rfl⟩ (fun H locs hP hS => ?_)
  refine lv_iload hx hb dL_law_947 (lv_at hl 1 rfl) ?_
  refine lv_icmp_eq (tgt := 954) hx hb dL_law_949 (by decide) (fun _ => ?_) (fun c => absurd (by decide) c)
  refine lv_iload hx hb dL_law_954 (lv_at hl 1 rfl) ?_
  refine lv_if_ne (tgt := 971) hx hb dL_law_956 (by decide) (fun _ => ?_) (fun c => absurd c (by decide))
  refine lv_goto (tgt := 3117) hx hb dL_law_971 (by decide) ?_
  refine W.widen (k := 1000) (n := 10000) (Nat.le_of_ble_eq_true rfl) (Nat.le_of_ble_eq_true rfl) ?_
  exact hE _ _ _ hS (lv_sub hl [2, 3, 4, 5, 6, 7] rfl)

set_option maxRecDepth 100000 in
set_option maxHeartbeats 4000000 in
theorem law_driverOf_0 {p : Program} {e : Env} {s : State} {m : MethodId} {below : List Frame} {meth : Method} {c : Code} {l : Launch} (hfl : l.stackTraces = false) {b : Nat} {xs : Nat → Int32} {D : va_G} {cy : Nat → ClassId} {eda ca : Nat} {ia : Nat → Nat} (C0 : LawAt p s m meth c b xs D cy eda ca ia) {am : Nat → Nat} {ad : Nat → Nat} {rw_ : Nat → Nat → Option Nat} {w : va_W} (F : FrC cy ad rw_ w) {oa od : Nat} (hE : LawEnd p l e s m below meth c b (ad 0) (am 0) oa od) (e1 : xs 1 = 0) : LGoal p l e s m below meth c b D cy am eda w (ad 0) oa od 1086 := by
  obtain ⟨hx, hb, hml, hown, hts, hX, hbl, hK, hN, hT, hJS⟩ := id C0
  have hA : ∀ q : Nat, s.heap.size ≤ q → (fun q => s.heap.size ≤ q) q := fun _ h => h
  have hbA : ¬ (fun q => s.heap.size ≤ q) b := Nat.not_le.mpr hbl
  intro H locs ls hP hD hS hl
  refine lv_aload_n hx hb dL_law_1086 rfl (lv_at hl 4 rfl) ?_
  refine lv_aload_n hx hb dL_law_1087 rfl (lv_at hl 5 rfl) ?_
  refine lv_iload hx hb dL_law_1088 (lv_at hl 0 rfl) ?_
  refine lv_iconst (v := 1) hx hb dL_law_1090 (by decide) ?_
  refine lv_iadd hx hb dL_law_1091 ?_
  refine lv_topi (fun y ey => ?_)
  obtain rfl : y = 1 := ey.trans (by decide)
  refine va_sld hx hb hX hbl hbA hS (by unfold vp_in; decide) dL_law_1092 ?_
  refine lv_topi (fun y ey => ?_)
  obtain rfl : y = 0 := ey.trans ((congrArg xs (by decide)).trans e1)
  refine lv_aload_n hx hb dL_law_1093 rfl (lv_at hl 2 rfl) ?_
  refine mw_callS (wr := WM cy am eda 0) (wc := OCL cy oa :: w) (As := [.ref (ad 0), .int 0, .ref oa]) (rest := []) ⟨hx, hb, hml, hown, hts⟩ (w_driverOf_0 l D cy F oa (fun _ => 0) _ ) (vx_cwSW 3 hts (goodLW gL_law_L_driverOf) rfl rfl rfl (by decide +kernel) ⟨by decide, by decide⟩) hK hN hT (fun q hq => hS.2.1 q hq (Nat.not_le.mpr hq)) hP hD hS hA rfl hl.1 rfl (Nat.le_of_ble_eq_true rfl) dL_law_1094 ⟨Nat.le_of_ble_eq_true rfl, Nat.le_of_ble_eq_true rfl⟩ (fun H locs hB hJ hS => ?_)
  obtain ⟨hP, hD⟩ := hJ [(oa, .inl (cy 2, 1, .inr (.inl (vp_updL (fun _ => 0) 0 ((-1))))))] hB (my_d1 (my_in1 (ko := 0) rfl))
  have hP := hP.sub (ws' := [(oa, .inl (cy 2, 1, .inr (.inl (vp_updL (fun _ => 0) 0 ((-1))))))] ++ WM cy am eda 0) [14, 0, 1, 2, 3, 4, 5, 6, 7, 8, 9, 10, 11, 12, 13] rfl
  have hD := hD.sub (ws' := [(oa, .inl (cy 2, 1, .inr (.inl (vp_updL (fun _ => 0) 0 ((-1))))))] ++ WM cy am eda 0) [14, 0, 1, 2, 3, 4, 5, 6, 7, 8, 9, 10, 11, 12, 13] (by decide) rfl
  refine lv_istore (lv' := [(6, .int 0), (5, .int 0), (4, .ref od), (3, .ref oa), (2, .ref (am 0)), (1, .ref (ad 0)), (0, .ref b)]) hx hb dL_law_1097 hl (by decide) rfl (fun ls hl => ?_)
  refine lv_aload_n hx hb dL_law_1099 rfl (lv_at hl 4 rfl) ?_
  refine lv_aload_n hx hb dL_law_1100 rfl (lv_at hl 6 rfl) ?_
  refine lv_iload hx hb dL_law_1101 (lv_at hl 1 rfl) ?_
  refine lv_iconst (v := 1) hx hb dL_law_1103 (by decide) ?_
  refine lv_iadd hx hb dL_law_1104 ?_
  refine lv_topi (fun y ey => ?_)
  obtain rfl : y = 1 := ey.trans (by decide)
  refine va_sld hx hb hX hbl hbA hS (by unfold vp_in; decide) dL_law_1105 ?_
  refine lv_topi (fun y ey => ?_)
  obtain rfl : y = 0 := ey.trans ((congrArg xs (by decide)).trans e1)
  refine mj_callV (wr := [(oa, .inl (cy 2, 1, .inr (.inl (vp_updL (fun _ => 0) 0 ((-1))))))]) (wc := WM cy am eda 0) (As := [.int 0]) (rest := []) ⟨hx, hb, hml, hown, hts⟩ (a_driverOf_0 l D cy _ ) (cwV 1 hts (goodL gL_law_X14_driverOf) rfl rfl rfl (by decide +kernel) ⟨by decide, by decide⟩) hK hN hP hD hS hA hJS (ci := 19) (q0 := 0) rfl rfl rfl rfl hl.1 rfl (Nat.le_of_ble_eq_true rfl) dL_law_1106 ⟨Nat.le_of_ble_eq_true rfl, Nat.le_of_ble_eq_true rfl⟩ (fun H locs hB hJ hS => ?_)
  obtain ⟨hP1, hD1⟩ := hB
  obtain ⟨hP, hD⟩ := hJ _ hP1 hD1
  have hP : va_P D vwCl [(oa, .inl (cy 2, 1, .inr (.inl (vp_updL (fun _ => 0) 0 ((-1)))))), (am 0, .inr (19, [.int 0, .ref (am 1), .ref (am 4), .ref (am 5), .ref (am 6), .ref (am 7), .ref (am 8), .int 0, .ref (am 9), .int 0, .int (-1), .int 100, .ref (am 10), .long 0, .int 0, .int 0, .int 0, .int 0, .long 0]))] H := hP
  have hD : va_D (fun q => s.heap.size ≤ q) [(oa, .inl (cy 2, 1, .inr (.inl (vp_updL (fun _ => 0) 0 ((-1)))))), (am 0, .inr (19, [.int 0, .ref (am 1), .ref (am 4), .ref (am 5), .ref (am 6), .ref (am 7), .ref (am 8), .int 0, .ref (am 9), .int 0, .int (-1), .int 100, .ref (am 10), .long 0, .int 0, .int 0, .int 0, .int 0, .long 0]))] := hD
  refine lv_istore (lv' := [(7, .int (-1)), (6, .int 0), (5, .int 0), (4, .ref od), (3, .ref oa), (2, .ref (am 0)), (1, .ref (ad 0)), (0, .ref b)]) hx hb dL_law_1109 hl (by decide) rfl (fun ls hl => ?_)
  refine lv_aload_n hx hb dL_law_1111 rfl (lv_at hl 5 rfl) ?_
  refine ro_callV (As := []) (rest := []) ⟨hx, hb, hml, hown, hts⟩ (c_thrown l D cy _ 1 (am 0) 0 [.ref (am 1), .ref (am 4), .ref (am 5), .ref (am 6), .ref (am 7), .ref (am 8), .int 0, .ref (am 9), .int 0, .int (-1), .int 100, .ref (am 10), .long 0, .int 0, .int 0, .int 0, .int 0, .long 0] rfl) (cwV 0 hts (goodL gL_law_X14_thrown) rfl rfl rfl (by decide +kernel) ⟨by decide, by decide⟩) hK hN hP hS (ci := 19) (q0 := 1) rfl rfl rfl rfl hl.1 rfl (Nat.le_of_ble_eq_true rfl) dL_law_1112 ⟨Nat.le_of_ble_eq_true rfl, Nat.le_of_ble_eq_true rfl⟩ (fun H locs hP hS => ?_)
  refine lv_iload hx hb dL_law_1115 (lv_at hl 1 rfl) ?_
  refine lv_icmp_eq (tgt := 1122) hx hb dL_law_1117 (by decide) (fun _ => ?_) (fun c => absurd (by decide) c)
  refine lv_iload hx hb dL_law_1122 (lv_at hl 1 rfl) ?_
  refine lv_if_ne (tgt := 1139) hx hb dL_law_1124 (by decide) (fun c => absurd (by decide) c) (fun _ => ?_)
  refine lv_aload_n hx hb dL_law_1127 rfl (lv_at hl 4 rfl) ?_
  refine lv_iconst (v := 0) hx hb dL_law_1128 (by decide) ?_
  refine va_lald hx hb hK hP 0 2 rfl rfl (by unfold vp_in; decide) dL_law_1129 ?_
  refine lv_topl (fun y ey => ?_)
  obtain rfl : y = (-1) := ey.trans (my_rd0 _ _)
  refine lv_iload hx hb dL_law_1130 (lv_at hl 0 rfl) ?_
  refine lv_i2l (v := (-1)) hx hb dL_law_1132 (by decide) ?_
  refine W.lcmp hx hb dL_law_1133 ?_
  refine lv_topi (fun y ey => ?_)
  obtain rfl : y = 0 := ey.trans (my_cmp _)
  refine lv_if_eq (tgt := 1139) hx hb dL_law_1134 (by decide) (fun _ => ?_) (fun c => absurd (by decide) c)
  refine lv_goto (tgt := 3117) hx hb dL_law_1139 (by decide) ?_
  refine W.widen (k := 1000) (n := 10000) (Nat.le_of_ble_eq_true rfl) (Nat.le_of_ble_eq_true rfl) ?_
  exact hE _ _ _ hS (lv_sub hl [2, 3, 4, 5, 6, 7] rfl)

set_option maxRecDepth 100000 in
set_option maxHeartbeats 4000000 in
theorem law_driverOf_1 {p : Program} {e : Env} {s : State} {m : MethodId} {below : List Frame} {meth : Method} {c : Code} {l : Launch} (hfl : l.stackTraces = false) {b : Nat} {xs : Nat → Int32} {D : va_G} {cy : Nat → ClassId} {eda ca : Nat} {ia : Nat → Nat} (C0 : LawAt p s m meth c b xs D cy eda ca ia) {am : Nat → Nat} {ad : Nat → Nat} {rw_ : Nat → Nat → Option Nat} {w : va_W} (F : FrC cy ad rw_ w) {oa od : Nat} (hE : LawEnd p l e s m below meth c b (ad 0) (am 0) oa od) (hd : ¬ xs 1 = 0) : LGoal p l e s m below meth c b D cy am eda w (ad 0) oa od 1086 := by
  obtain ⟨hx, hb, hml, hown, hts, hX, hbl, hK, hN, hT, hJS⟩ := id C0
  have hA : ∀ q : Nat, s.heap.size ≤ q → (fun q => s.heap.size ≤ q) q := fun _ h => h
  have hbA : ¬ (fun q => s.heap.size ≤ q) b := Nat.not_le.mpr hbl
  intro H locs ls hP hD hS hl
  refine lv_aload_n hx hb dL_law_1086 rfl (lv_at hl 4 rfl) ?_
  refine lv_aload_n hx hb dL_law_1087 rfl (lv_at hl 5 rfl) ?_
  refine lv_iload hx hb dL_law_1088 (lv_at hl 0 rfl) ?_
  refine lv_iconst (v := 1) hx hb dL_law_1090 (by decide) ?_
  refine lv_iadd hx hb dL_law_1091 ?_
  refine lv_topi (fun y ey => ?_)
  obtain rfl : y = 1 := ey.trans (by decide)
  refine va_sld hx hb hX hbl hbA hS (by unfold vp_in; decide) dL_law_1092 ?_
  refine lv_topi (fun y ey => ?_)
  obtain rfl : y = xs 1 := ey.trans (congrArg xs (by decide))
  refine lv_aload_n hx hb dL_law_1093 rfl (lv_at hl 2 rfl) ?_
  refine mw_callS (wr := WM cy am eda 0) (wc := OCL cy oa :: w) (As := [.ref (ad 0), .int (xs 1), .ref oa]) (rest := []) ⟨hx, hb, hml, hown, hts⟩ (w_driverOf_1 l D cy F hfl oa (fun _ => 0) _ (xs 1) hd) (vx_cwSW 3 hts (goodLW gL_law_L_driverOf) rfl rfl rfl (by decide +kernel) ⟨by decide, by decide⟩) hK hN hT (fun q hq => hS.2.1 q hq (Nat.not_le.mpr hq)) hP hD hS hA rfl hl.1 rfl (Nat.le_of_ble_eq_true rfl) dL_law_1094 ⟨Nat.le_of_ble_eq_true rfl, Nat.le_of_ble_eq_true rfl⟩ (fun H locs hB hJ hS => ?_)
  obtain ⟨hP, hD⟩ := hJ [] (fun k q h => by simp at h) ⟨fun i j p q h => by simp at h, fun k q h => by simp at h⟩
  have hP : va_P D vwCl (WM cy am eda 0) H := hP
  have hD : va_D (fun q => s.heap.size ≤ q) (WM cy am eda 0) := hD
  refine lv_istore (lv' := [(6, .int 1), (5, .int 0), (4, .ref od), (3, .ref oa), (2, .ref (am 0)), (1, .ref (ad 0)), (0, .ref b)]) hx hb dL_law_1097 hl (by decide) rfl (fun ls hl => ?_)
  refine lv_aload_n hx hb dL_law_1099 rfl (lv_at hl 4 rfl) ?_
  refine lv_aload_n hx hb dL_law_1100 rfl (lv_at hl 6 rfl) ?_
  refine lv_iload hx hb dL_law_1101 (lv_at hl 1 rfl) ?_
  refine lv_iconst (v := 1) hx hb dL_law_1103 (by decide) ?_
  refine lv_iadd hx hb dL_law_1104 ?_
  refine lv_topi (fun y ey => ?_)
  obtain rfl : y = 1 := ey.trans (by decide)
  refine va_sld hx hb hX hbl hbA hS (by unfold vp_in; decide) dL_law_1105 ?_
  refine lv_topi (fun y ey => ?_)
  obtain rfl : y = xs 1 := ey.trans (congrArg xs (by decide))
  refine mj_callV (wr := []) (wc := WM cy am eda 0) (As := [.int (xs 1)]) (rest := []) ⟨hx, hb, hml, hown, hts⟩ (a_driverOf_1 l D cy _ (xs 1) hd) (cwV 1 hts (goodL gL_law_X14_driverOf) rfl rfl rfl (by decide +kernel) ⟨by decide, by decide⟩) hK hN hP hD hS hA hJS (ci := 19) (q0 := 0) rfl rfl rfl rfl hl.1 rfl (Nat.le_of_ble_eq_true rfl) dL_law_1106 ⟨Nat.le_of_ble_eq_true rfl, Nat.le_of_ble_eq_true rfl⟩ (fun H locs hB hJ hS => ?_)
  obtain ⟨hP1, hD1⟩ := hB
  obtain ⟨hP, hD⟩ := hJ _ hP1 hD1
  have hP : va_P D vwCl [(am 0, .inr (19, [.int 1, .ref (am 1), .ref (am 4), .ref (am 5), .ref (am 6), .ref (am 7), .ref (am 8), .int 0, .ref (am 9), .int 0, .int (-1), .int 100, .ref (am 10), .long 0, .int 0, .int 0, .int 0, .int 0, .long 0]))] H := hP
  have hD : va_D (fun q => s.heap.size ≤ q) [(am 0, .inr (19, [.int 1, .ref (am 1), .ref (am 4), .ref (am 5), .ref (am 6), .ref (am 7), .ref (am 8), .int 0, .ref (am 9), .int 0, .int (-1), .int 100, .ref (am 10), .long 0, .int 0, .int 0, .int 0, .int 0, .long 0]))] := hD
  refine lv_istore (lv' := [(7, .int 0), (6, .int 1), (5, .int 0), (4, .ref od), (3, .ref oa), (2, .ref (am 0)), (1, .ref (ad 0)), (0, .ref b)]) hx hb dL_law_1109 hl (by decide) rfl (fun ls hl => ?_)
  refine lv_aload_n hx hb dL_law_1111 rfl (lv_at hl 5 rfl) ?_
  refine ro_callV (As := []) (rest := []) ⟨hx, hb, hml, hown, hts⟩ (c_thrown l D cy _ 0 (am 0) 1 [.ref (am 1), .ref (am 4), .ref (am 5), .ref (am 6), .ref (am 7), .ref (am 8), .int 0, .ref (am 9), .int 0, .int (-1), .int 100, .ref (am 10), .long 0, .int 0, .int 0, .int 0, .int 0, .long 0] rfl) (cwV 0 hts (goodL gL_law_X14_thrown) rfl rfl rfl (by decide +kernel) ⟨by decide, by decide⟩) hK hN hP hS (ci := 19) (q0 := 0) rfl rfl rfl rfl hl.1 rfl (Nat.le_of_ble_eq_true rfl) dL_law_1112 ⟨Nat.le_of_ble_eq_true rfl, Nat.le_of_ble_eq_true rfl⟩ (fun H locs hP hS => ?_)
  refine lv_iload hx hb dL_law_1115 (lv_at hl 1 rfl) ?_
  refine lv_icmp_eq (tgt := 1122) hx hb dL_law_1117 (by decide) (fun _ => ?_) (fun c => absurd (by decide) c)
  refine lv_iload hx hb dL_law_1122 (lv_at hl 1 rfl) ?_
  refine lv_if_ne (tgt := 1139) hx hb dL_law_1124 (by decide) (fun _ => ?_) (fun c => absurd c (by decide))
  refine lv_goto (tgt := 3117) hx hb dL_law_1139 (by decide) ?_
  refine W.widen (k := 1000) (n := 10000) (Nat.le_of_ble_eq_true rfl) (Nat.le_of_ble_eq_true rfl) ?_
  exact hE _ _ _ hS (lv_sub hl [2, 3, 4, 5, 6, 7] rfl)

set_option maxRecDepth 100000 in
set_option maxHeartbeats 4000000 in
theorem law_blame_0 {p : Program} {e : Env} {s : State} {m : MethodId} {below : List Frame} {meth : Method} {c : Code} {l : Launch} (hfl : l.stackTraces = false) {b : Nat} {xs : Nat → Int32} {D : va_G} {cy : Nat → ClassId} {eda ca : Nat} {ia : Nat → Nat} (C0 : LawAt p s m meth c b xs D cy eda ca ia) {am : Nat → Nat} {ad : Nat → Nat} {rw_ : Nat → Nat → Option Nat} {w : va_W} (F : FrC cy ad rw_ w) {oa od : Nat} (hE : LawEnd p l e s m below meth c b (ad 0) (am 0) oa od) (e1 : xs 1 = 0) : LGoal p l e s m below meth c b D cy am eda w (ad 0) oa od 2847 := by
  obtain ⟨hx, hb, hml, hown, hts, hX, hbl, hK, hN, hT, hJS⟩ := id C0
  have hA : ∀ q : Nat, s.heap.size ≤ q → (fun q => s.heap.size ≤ q) q := fun _ h => h
  have hbA : ¬ (fun q => s.heap.size ≤ q) b := Nat.not_le.mpr hbl
  intro H locs ls hP hD hS hl
  refine lv_aload_n hx hb dL_law_2847 rfl (lv_at hl 4 rfl) ?_
  refine lv_aload_n hx hb dL_law_2848 rfl (lv_at hl 5 rfl) ?_
  refine lv_iload hx hb dL_law_2849 (lv_at hl 0 rfl) ?_
  refine lv_iconst (v := 1) hx hb dL_law_2851 (by decide) ?_
  refine lv_iadd hx hb dL_law_2852 ?_
  refine lv_topi (fun y ey => ?_)
  obtain rfl : y = 1 := ey.trans (by decide)
  refine va_sld hx hb hX hbl hbA hS (by unfold vp_in; decide) dL_law_2853 ?_
  refine lv_topi (fun y ey => ?_)
  obtain rfl : y = 0 := ey.trans ((congrArg xs (by decide)).trans e1)
  refine lv_aload_n hx hb dL_law_2854 rfl (lv_at hl 2 rfl) ?_
  refine mw_callS (wr := WM cy am eda 0) (wc := OCL cy oa :: w) (As := [.ref (ad 0), .int 0, .ref oa]) (rest := []) ⟨hx, hb, hml, hown, hts⟩ (w_blame_0 l D cy F oa (fun _ => 0) _ ) (vx_cwSW 3 hts (goodLW gL_law_L_blame) rfl rfl rfl (by decide +kernel) ⟨by decide, by decide⟩) hK hN hT (fun q hq => hS.2.1 q hq (Nat.not_le.mpr hq)) hP hD hS hA rfl hl.1 rfl (Nat.le_of_ble_eq_true rfl) dL_law_2855 ⟨Nat.le_of_ble_eq_true rfl, Nat.le_of_ble_eq_true rfl⟩ (fun H locs hB hJ hS => ?_)
  obtain ⟨hP, hD⟩ := hJ [(oa, .inl (cy 2, 1, .inr (.inl (vp_updL (fun _ => 0) 0 (0)))))] hB (my_d1 (my_in1 (ko := 0) rfl))
  have hP := hP.sub (ws' := [(oa, .inl (cy 2, 1, .inr (.inl (vp_updL (fun _ => 0) 0 (0)))))] ++ WM cy am eda 0) [14, 0, 1, 2, 3, 4, 5, 6, 7, 8, 9, 10, 11, 12, 13] rfl
  have hD := hD.sub (ws' := [(oa, .inl (cy 2, 1, .inr (.inl (vp_updL (fun _ => 0) 0 (0)))))] ++ WM cy am eda 0) [14, 0, 1, 2, 3, 4, 5, 6, 7, 8, 9, 10, 11, 12, 13] (by decide) rfl
  refine lv_istore (lv' := [(6, .int 0), (5, .int 0), (4, .ref od), (3, .ref oa), (2, .ref (am 0)), (1, .ref (ad 0)), (0, .ref b)]) hx hb dL_law_2858 hl (by decide) rfl (fun ls hl => ?_)
  refine lv_aload_n hx hb dL_law_2860 rfl (lv_at hl 4 rfl) ?_
  refine lv_aload_n hx hb dL_law_2861 rfl (lv_at hl 6 rfl) ?_
  refine lv_iload hx hb dL_law_2862 (lv_at hl 1 rfl) ?_
  refine lv_iconst (v := 1) hx hb dL_law_2864 (by decide) ?_
  refine lv_iadd hx hb dL_law_2865 ?_
  refine lv_topi (fun y ey => ?_)
  obtain rfl : y = 1 := ey.trans (by decide)
  refine va_sld hx hb hX hbl hbA hS (by unfold vp_in; decide) dL_law_2866 ?_
  refine lv_topi (fun y ey => ?_)
  obtain rfl : y = 0 := ey.trans ((congrArg xs (by decide)).trans e1)
  refine mj_callV (wr := [(oa, .inl (cy 2, 1, .inr (.inl (vp_updL (fun _ => 0) 0 (0)))))]) (wc := WM cy am eda 0) (As := [.int 0]) (rest := []) ⟨hx, hb, hml, hown, hts⟩ (a_blame_0 l D cy _ ) (cwV 1 hts (goodL gL_law_X14_blame) rfl rfl rfl (by decide +kernel) ⟨by decide, by decide⟩) hK hN hP hD hS hA hJS (ci := 19) (q0 := 0) rfl rfl rfl rfl hl.1 rfl (Nat.le_of_ble_eq_true rfl) dL_law_2867 ⟨Nat.le_of_ble_eq_true rfl, Nat.le_of_ble_eq_true rfl⟩ (fun H locs hB hJ hS => ?_)
  obtain ⟨hP1, hD1⟩ := hB
  obtain ⟨hP, hD⟩ := hJ _ hP1 hD1
  have hP : va_P D vwCl [(oa, .inl (cy 2, 1, .inr (.inl (vp_updL (fun _ => 0) 0 (0))))), (am 0, .inr (19, [.int 0, .ref (am 1), .ref (am 4), .ref (am 5), .ref (am 6), .ref (am 7), .ref (am 8), .int 0, .ref (am 9), .int 0, .int (-1), .int 100, .ref (am 10), .long 0, .int 0, .int 0, .int 0, .int 0, .long 0]))] H := hP
  have hD : va_D (fun q => s.heap.size ≤ q) [(oa, .inl (cy 2, 1, .inr (.inl (vp_updL (fun _ => 0) 0 (0))))), (am 0, .inr (19, [.int 0, .ref (am 1), .ref (am 4), .ref (am 5), .ref (am 6), .ref (am 7), .ref (am 8), .int 0, .ref (am 9), .int 0, .int (-1), .int 100, .ref (am 10), .long 0, .int 0, .int 0, .int 0, .int 0, .long 0]))] := hD
  refine lv_istore (lv' := [(7, .int 0), (6, .int 0), (5, .int 0), (4, .ref od), (3, .ref oa), (2, .ref (am 0)), (1, .ref (ad 0)), (0, .ref b)]) hx hb dL_law_2870 hl (by decide) rfl (fun ls hl => ?_)
  refine lv_aload_n hx hb dL_law_2872 rfl (lv_at hl 5 rfl) ?_
  refine ro_callV (As := []) (rest := []) ⟨hx, hb, hml, hown, hts⟩ (c_thrown l D cy _ 1 (am 0) 0 [.ref (am 1), .ref (am 4), .ref (am 5), .ref (am 6), .ref (am 7), .ref (am 8), .int 0, .ref (am 9), .int 0, .int (-1), .int 100, .ref (am 10), .long 0, .int 0, .int 0, .int 0, .int 0, .long 0] rfl) (cwV 0 hts (goodL gL_law_X14_thrown) rfl rfl rfl (by decide +kernel) ⟨by decide, by decide⟩) hK hN hP hS (ci := 19) (q0 := 1) rfl rfl rfl rfl hl.1 rfl (Nat.le_of_ble_eq_true rfl) dL_law_2873 ⟨Nat.le_of_ble_eq_true rfl, Nat.le_of_ble_eq_true rfl⟩ (fun H locs hP hS => ?_)
  refine lv_iload hx hb dL_law_2876 (lv_at hl 1 rfl) ?_
  refine lv_icmp_eq (tgt := 2883) hx hb dL_law_2878 (by decide) (fun _ => ?_) (fun c => absurd (by decide) c)
  refine lv_iload hx hb dL_law_2883 (lv_at hl 1 rfl) ?_
  refine lv_if_ne (tgt := 2900) hx hb dL_law_2885 (by decide) (fun c => absurd (by decide) c) (fun _ => ?_)
  refine lv_aload_n hx hb dL_law_2888 rfl (lv_at hl 4 rfl) ?_
  refine lv_iconst (v := 0) hx hb dL_law_2889 (by decide) ?_
  refine va_lald hx hb hK hP 0 2 rfl rfl (by unfold vp_in; decide) dL_law_2890 ?_
  refine lv_topl (fun y ey => ?_)
  obtain rfl : y = 0 := ey.trans (my_rd0 _ _)
  refine lv_iload hx hb dL_law_2891 (lv_at hl 0 rfl) ?_
  refine lv_i2l (v := 0) hx hb dL_law_2893 (by decide) ?_
  refine W.lcmp hx hb dL_law_2894 ?_
  refine lv_topi (fun y ey => ?_)
  obtain rfl : y = 0 := ey.trans (my_cmp _)
  refine lv_if_eq (tgt := 2900) hx hb dL_law_2895 (by decide) (fun _ => ?_) (fun c => absurd (by decide) c)
  refine lv_goto (tgt := 3117) hx hb dL_law_2900 (by decide) ?_
  refine W.widen (k := 1000) (n := 10000) (Nat.le_of_ble_eq_true rfl) (Nat.le_of_ble_eq_true rfl) ?_
  exact hE _ _ _ hS (lv_sub hl [2, 3, 4, 5, 6, 7] rfl)

set_option maxRecDepth 100000 in
set_option maxHeartbeats 4000000 in
theorem law_blame_1 {p : Program} {e : Env} {s : State} {m : MethodId} {below : List Frame} {meth : Method} {c : Code} {l : Launch} (hfl : l.stackTraces = false) {b : Nat} {xs : Nat → Int32} {D : va_G} {cy : Nat → ClassId} {eda ca : Nat} {ia : Nat → Nat} (C0 : LawAt p s m meth c b xs D cy eda ca ia) {am : Nat → Nat} {ad : Nat → Nat} {rw_ : Nat → Nat → Option Nat} {w : va_W} (F : FrC cy ad rw_ w) {oa od : Nat} (hE : LawEnd p l e s m below meth c b (ad 0) (am 0) oa od) (hd : ¬ xs 1 = 0) : LGoal p l e s m below meth c b D cy am eda w (ad 0) oa od 2847 := by
  obtain ⟨hx, hb, hml, hown, hts, hX, hbl, hK, hN, hT, hJS⟩ := id C0
  have hA : ∀ q : Nat, s.heap.size ≤ q → (fun q => s.heap.size ≤ q) q := fun _ h => h
  have hbA : ¬ (fun q => s.heap.size ≤ q) b := Nat.not_le.mpr hbl
  intro H locs ls hP hD hS hl
  refine lv_aload_n hx hb dL_law_2847 rfl (lv_at hl 4 rfl) ?_
  refine lv_aload_n hx hb dL_law_2848 rfl (lv_at hl 5 rfl) ?_
  refine lv_iload hx hb dL_law_2849 (lv_at hl 0 rfl) ?_
  refine lv_iconst (v := 1) hx hb dL_law_2851 (by decide) ?_
  refine lv_iadd hx hb dL_law_2852 ?_
  refine lv_topi (fun y ey => ?_)
  obtain rfl : y = 1 := ey.trans (by decide)
  refine va_sld hx hb hX hbl hbA hS (by unfold vp_in; decide) dL_law_2853 ?_
  refine lv_topi (fun y ey => ?_)
  obtain rfl : y = xs 1 := ey.trans (congrArg xs (by decide))
  refine lv_aload_n hx hb dL_law_2854 rfl (lv_at hl 2 rfl) ?_
  refine mw_callS (wr := WM cy am eda 0) (wc := OCL cy oa :: w) (As := [.ref (ad 0), .int (xs 1), .ref oa]) (rest := []) ⟨hx, hb, hml, hown, hts⟩ (w_blame_1 l D cy F hfl oa (fun _ => 0) _ (xs 1) hd) (vx_cwSW 3 hts (goodLW gL_law_L_blame) rfl rfl rfl (by decide +kernel) ⟨by decide, by decide⟩) hK hN hT (fun q hq => hS.2.1 q hq (Nat.not_le.mpr hq)) hP hD hS hA rfl hl.1 rfl (Nat.le_of_ble_eq_true rfl) dL_law_2855 ⟨Nat.le_of_ble_eq_true rfl, Nat.le_of_ble_eq_true rfl⟩ (fun H locs hB hJ hS => ?_)
  obtain ⟨hP, hD⟩ := hJ [] (fun k q h => by simp at h) ⟨fun i j p q h => by simp at h, fun k q h => by simp at h⟩
  have hP : va_P D vwCl (WM cy am eda 0) H := hP
  have hD : va_D (fun q => s.heap.size ≤ q) (WM cy am eda 0) := hD
  refine lv_istore (lv' := [(6, .int 1), (5, .int 0), (4, .ref od), (3, .ref oa), (2, .ref (am 0)), (1, .ref (ad 0)), (0, .ref b)]) hx hb dL_law_2858 hl (by decide) rfl (fun ls hl => ?_)
  refine lv_aload_n hx hb dL_law_2860 rfl (lv_at hl 4 rfl) ?_
  refine lv_aload_n hx hb dL_law_2861 rfl (lv_at hl 6 rfl) ?_
  refine lv_iload hx hb dL_law_2862 (lv_at hl 1 rfl) ?_
  refine lv_iconst (v := 1) hx hb dL_law_2864 (by decide) ?_
  refine lv_iadd hx hb dL_law_2865 ?_
  refine lv_topi (fun y ey => ?_)
  obtain rfl : y = 1 := ey.trans (by decide)
  refine va_sld hx hb hX hbl hbA hS (by unfold vp_in; decide) dL_law_2866 ?_
  refine lv_topi (fun y ey => ?_)
  obtain rfl : y = xs 1 := ey.trans (congrArg xs (by decide))
  refine mj_callV (wr := []) (wc := WM cy am eda 0) (As := [.int (xs 1)]) (rest := []) ⟨hx, hb, hml, hown, hts⟩ (a_blame_1 l D cy _ (xs 1) hd) (cwV 1 hts (goodL gL_law_X14_blame) rfl rfl rfl (by decide +kernel) ⟨by decide, by decide⟩) hK hN hP hD hS hA hJS (ci := 19) (q0 := 0) rfl rfl rfl rfl hl.1 rfl (Nat.le_of_ble_eq_true rfl) dL_law_2867 ⟨Nat.le_of_ble_eq_true rfl, Nat.le_of_ble_eq_true rfl⟩ (fun H locs hB hJ hS => ?_)
  obtain ⟨hP1, hD1⟩ := hB
  obtain ⟨hP, hD⟩ := hJ _ hP1 hD1
  have hP : va_P D vwCl [(am 0, .inr (19, [.int 1, .ref (am 1), .ref (am 4), .ref (am 5), .ref (am 6), .ref (am 7), .ref (am 8), .int 0, .ref (am 9), .int 0, .int (-1), .int 100, .ref (am 10), .long 0, .int 0, .int 0, .int 0, .int 0, .long 0]))] H := hP
  have hD : va_D (fun q => s.heap.size ≤ q) [(am 0, .inr (19, [.int 1, .ref (am 1), .ref (am 4), .ref (am 5), .ref (am 6), .ref (am 7), .ref (am 8), .int 0, .ref (am 9), .int 0, .int (-1), .int 100, .ref (am 10), .long 0, .int 0, .int 0, .int 0, .int 0, .long 0]))] := hD
  refine lv_istore (lv' := [(7, .int 0), (6, .int 1), (5, .int 0), (4, .ref od), (3, .ref oa), (2, .ref (am 0)), (1, .ref (ad 0)), (0, .ref b)]) hx hb dL_law_2870 hl (by decide) rfl (fun ls hl => ?_)
  refine lv_aload_n hx hb dL_law_2872 rfl (lv_at hl 5 rfl) ?_
  refine ro_callV (As := []) (rest := []) ⟨hx, hb, hml, hown, hts⟩ (c_thrown l D cy _ 0 (am 0) 1 [.ref (am 1), .ref (am 4), .ref (am 5), .ref (am 6), .ref (am 7), .ref (am 8), .int 0, .ref (am 9), .int 0, .int (-1), .int 100, .ref (am 10), .long 0, .int 0, .int 0, .int 0, .int 0, .long 0] rfl) (cwV 0 hts (goodL gL_law_X14_thrown) rfl rfl rfl (by decide +kernel) ⟨by decide, by decide⟩) hK hN hP hS (ci := 19) (q0 := 0) rfl rfl rfl rfl hl.1 rfl (Nat.le_of_ble_eq_true rfl) dL_law_2873 ⟨Nat.le_of_ble_eq_true rfl, Nat.le_of_ble_eq_true rfl⟩ (fun H locs hP hS => ?_)
  refine lv_iload hx hb dL_law_2876 (lv_at hl 1 rfl) ?_
  refine lv_icmp_eq (tgt := 2883) hx hb dL_law_2878 (by decide) (fun _ => ?_) (fun c => absurd (by decide) c)
  refine lv_iload hx hb dL_law_2883 (lv_at hl 1 rfl) ?_
  refine lv_if_ne (tgt := 2900) hx hb dL_law_2885 (by decide) (fun _ => ?_) (fun c => absurd c (by decide))
  refine lv_goto (tgt := 3117) hx hb dL_law_2900 (by decide) ?_
  refine W.widen (k := 1000) (n := 10000) (Nat.le_of_ble_eq_true rfl) (Nat.le_of_ble_eq_true rfl) ?_
  exact hE _ _ _ hS (lv_sub hl [2, 3, 4, 5, 6, 7] rfl)

set_option maxRecDepth 100000 in
set_option maxHeartbeats 4000000 in
theorem law_translator_2 {p : Program} {e : Env} {s : State} {m : MethodId} {below : List Frame} {meth : Method} {c : Code} {l : Launch} (hfl : l.stackTraces = false) {b : Nat} {xs : Nat → Int32} {D : va_G} {cy : Nat → ClassId} {eda ca : Nat} {ia : Nat → Nat} (C0 : LawAt p s m meth c b xs D cy eda ca ia) {am : Nat → Nat} {ad : Nat → Nat} {rw_ : Nat → Nat → Option Nat} {w : va_W} (F : FrC cy ad rw_ w) {oa od : Nat} (hE : LawEnd p l e s m below meth c b (ad 0) (am 0) oa od) (e1 : xs 1 = 0) : LGoal p l e s m below meth c b D cy am eda w (ad 0) oa od 862 := by
  obtain ⟨hx, hb, hml, hown, hts, hX, hbl, hK, hN, hT, hJS⟩ := id C0
  have hA : ∀ q : Nat, s.heap.size ≤ q → (fun q => s.heap.size ≤ q) q := fun _ h => h
  have hbA : ¬ (fun q => s.heap.size ≤ q) b := Nat.not_le.mpr hbl
  intro H locs ls hP hD hS hl
  refine lv_aload_n hx hb dL_law_862 rfl (lv_at hl 4 rfl) ?_
  refine lv_aload_n hx hb dL_law_863 rfl (lv_at hl 5 rfl) ?_
  refine lv_iload hx hb dL_law_864 (lv_at hl 0 rfl) ?_
  refine lv_iconst (v := 1) hx hb dL_law_866 (by decide) ?_
  refine lv_iadd hx hb dL_law_867 ?_
  refine lv_topi (fun y ey => ?_)
  obtain rfl : y = 1 := ey.trans (by decide)
  refine va_sld hx hb hX hbl hbA hS (by unfold vp_in; decide) dL_law_868 ?_
  refine lv_topi (fun y ey => ?_)
  obtain rfl : y = 0 := ey.trans ((congrArg xs (by decide)).trans e1)
  refine lv_aload_n hx hb dL_law_869 rfl (lv_at hl 2 rfl) ?_
  refine mw_callS (wr := WM cy am eda 0) (wc := OCL cy oa :: w) (As := [.ref (ad 0), .int 0, .ref oa]) (rest := []) ⟨hx, hb, hml, hown, hts⟩ (w_translator_2 l D cy F hfl oa (fun _ => 0) _ ) (vx_cwSW 3 hts (goodLW gL_law_L_translator) rfl rfl rfl (by decide +kernel) ⟨by decide, by decide⟩) hK hN hT (fun q hq => hS.2.1 q hq (Nat.not_le.mpr hq)) hP hD hS hA rfl hl.1 rfl (Nat.le_of_ble_eq_true rfl) dL_law_870 ⟨Nat.le_of_ble_eq_true rfl, Nat.le_of_ble_eq_true rfl⟩ (fun H locs hB hJ hS => ?_)
  obtain ⟨hP, hD⟩ := hJ [] (fun k q h => by simp at h) ⟨fun i j p q h => by simp at h, fun k q h => by simp at h⟩
  have hP : va_P D vwCl (WM cy am eda 0) H := hP
  have hD : va_D (fun q => s.heap.size ≤ q) (WM cy am eda 0) := hD
  refine lv_istore (lv' := [(6, .int 2), (5, .int 0), (4, .ref od), (3, .ref oa), (2, .ref (am 0)), (1, .ref (ad 0)), (0, .ref b)]) hx hb dL_law_873 hl (by decide) rfl (fun ls hl => ?_)
  refine lv_aload_n hx hb dL_law_875 rfl (lv_at hl 4 rfl) ?_
  refine lv_aload_n hx hb dL_law_876 rfl (lv_at hl 6 rfl) ?_
  refine lv_iload hx hb dL_law_877 (lv_at hl 1 rfl) ?_
  refine lv_iconst (v := 1) hx hb dL_law_879 (by decide) ?_
  refine lv_iadd hx hb dL_law_880 ?_
  refine lv_topi (fun y ey => ?_)
  obtain rfl : y = 1 := ey.trans (by decide)
  refine va_sld hx hb hX hbl hbA hS (by unfold vp_in; decide) dL_law_881 ?_
  refine lv_topi (fun y ey => ?_)
  obtain rfl : y = 0 := ey.trans ((congrArg xs (by decide)).trans e1)
  refine mj_callV (wr := []) (wc := WM cy am eda 0) (As := [.int 0]) (rest := []) ⟨hx, hb, hml, hown, hts⟩ (a_translator_2 l D cy _ ) (cwV 1 hts (goodL gL_law_X14_translator) rfl rfl rfl (by decide +kernel) ⟨by decide, by decide⟩) hK hN hP hD hS hA hJS (ci := 19) (q0 := 0) rfl rfl rfl rfl hl.1 rfl (Nat.le_of_ble_eq_true rfl) dL_law_882 ⟨Nat.le_of_ble_eq_true rfl, Nat.le_of_ble_eq_true rfl⟩ (fun H locs hB hJ hS => ?_)
  obtain ⟨hP1, hD1⟩ := hB
  obtain ⟨hP, hD⟩ := hJ _ hP1 hD1
  have hP : va_P D vwCl [(am 0, .inr (19, [.int 2, .ref (am 1), .ref (am 4), .ref (am 5), .ref (am 6), .ref (am 7), .ref (am 8), .int 0, .ref (am 9), .int 0, .int (-1), .int 100, .ref (am 10), .long 0, .int 0, .int 0, .int 0, .int 0, .long 0]))] H := hP
  have hD : va_D (fun q => s.heap.size ≤ q) [(am 0, .inr (19, [.int 2, .ref (am 1), .ref (am 4), .ref (am 5), .ref (am 6), .ref (am 7), .ref (am 8), .int 0, .ref (am 9), .int 0, .int (-1), .int 100, .ref (am 10), .long 0, .int 0, .int 0, .int 0, .int 0, .long 0]))] := hD
  refine lv_istore (lv' := [(7, .int 0), (6, .int 2), (5, .int 0), (4, .ref od), (3, .ref oa), (2, .ref (am 0)), (1, .ref (ad 0)), (0, .ref b)]) hx hb dL_law_885 hl (by decide) rfl (fun ls hl => ?_)
  refine lv_aload_n hx hb dL_law_887 rfl (lv_at hl 5 rfl) ?_
  refine ro_callV (As := []) (rest := []) ⟨hx, hb, hml, hown, hts⟩ (c_thrown l D cy _ 0 (am 0) 2 [.ref (am 1), .ref (am 4), .ref (am 5), .ref (am 6), .ref (am 7), .ref (am 8), .int 0, .ref (am 9), .int 0, .int (-1), .int 100, .ref (am 10), .long 0, .int 0, .int 0, .int 0, .int 0, .long 0] rfl) (cwV 0 hts (goodL gL_law_X14_thrown) rfl rfl rfl (by decide +kernel) ⟨by decide, by decide⟩) hK hN hP hS (ci := 19) (q0 := 0) rfl rfl rfl rfl hl.1 rfl (Nat.le_of_ble_eq_true rfl) dL_law_888 ⟨Nat.le_of_ble_eq_true rfl, Nat.le_of_ble_eq_true rfl⟩ (fun H locs hP hS => ?_)
  refine lv_iload hx hb dL_law_891 (lv_at hl 1 rfl) ?_
  refine lv_icmp_eq (tgt := 898) hx hb dL_law_893 (by decide) (fun _ => ?_) (fun c => absurd (by decide) c)
  refine lv_iload hx hb dL_law_898 (lv_at hl 1 rfl) ?_
  refine lv_if_ne (tgt := 915) hx hb dL_law_900 (by decide) (fun _ => ?_) (fun c => absurd c (by decide))
  refine lv_goto (tgt := 3117) hx hb dL_law_915 (by decide) ?_
  refine W.widen (k := 1000) (n := 10000) (Nat.le_of_ble_eq_true rfl) (Nat.le_of_ble_eq_true rfl) ?_
  exact hE _ _ _ hS (lv_sub hl [2, 3, 4, 5, 6, 7] rfl)

set_option maxRecDepth 100000 in
set_option maxHeartbeats 4000000 in
theorem law_translator_1 {p : Program} {e : Env} {s : State} {m : MethodId} {below : List Frame} {meth : Method} {c : Code} {l : Launch} (hfl : l.stackTraces = false) {b : Nat} {xs : Nat → Int32} {D : va_G} {cy : Nat → ClassId} {eda ca : Nat} {ia : Nat → Nat} (C0 : LawAt p s m meth c b xs D cy eda ca ia) {am : Nat → Nat} {ad : Nat → Nat} {rw_ : Nat → Nat → Option Nat} {w : va_W} (F : FrC cy ad rw_ w) {oa od : Nat} (hE : LawEnd p l e s m below meth c b (ad 0) (am 0) oa od) (hd : ¬ xs 1 = 0) : LGoal p l e s m below meth c b D cy am eda w (ad 0) oa od 862 := by
  obtain ⟨hx, hb, hml, hown, hts, hX, hbl, hK, hN, hT, hJS⟩ := id C0
  have hA : ∀ q : Nat, s.heap.size ≤ q → (fun q => s.heap.size ≤ q) q := fun _ h => h
  have hbA : ¬ (fun q => s.heap.size ≤ q) b := Nat.not_le.mpr hbl
  intro H locs ls hP hD hS hl
  refine lv_aload_n hx hb dL_law_862 rfl (lv_at hl 4 rfl) ?_
  refine lv_aload_n hx hb dL_law_863 rfl (lv_at hl 5 rfl) ?_
  refine lv_iload hx hb dL_law_864 (lv_at hl 0 rfl) ?_
  refine lv_iconst (v := 1) hx hb dL_law_866 (by decide) ?_
  refine lv_iadd hx hb dL_law_867 ?_
  refine lv_topi (fun y ey => ?_)
  obtain rfl : y = 1 := ey.trans (by decide)
  refine va_sld hx hb hX hbl hbA hS (by unfold vp_in; decide) dL_law_868 ?_
  refine lv_topi (fun y ey => ?_)
  obtain rfl : y = xs 1 := ey.trans (congrArg xs (by decide))
  refine lv_aload_n hx hb dL_law_869 rfl (lv_at hl 2 rfl) ?_
  refine mw_callS (wr := WM cy am eda 0) (wc := OCL cy oa :: w) (As := [.ref (ad 0), .int (xs 1), .ref oa]) (rest := []) ⟨hx, hb, hml, hown, hts⟩ (w_translator_1 l D cy F hfl oa (fun _ => 0) _ (xs 1) hd) (vx_cwSW 3 hts (goodLW gL_law_L_translator) rfl rfl rfl (by decide +kernel) ⟨by decide, by decide⟩) hK hN hT (fun q hq => hS.2.1 q hq (Nat.not_le.mpr hq)) hP hD hS hA rfl hl.1 rfl (Nat.le_of_ble_eq_true rfl) dL_law_870 ⟨Nat.le_of_ble_eq_true rfl, Nat.le_of_ble_eq_true rfl⟩ (fun H locs hB hJ hS => ?_)
  obtain ⟨hP, hD⟩ := hJ [] (fun k q h => by simp at h) ⟨fun i j p q h => by simp at h, fun k q h => by simp at h⟩
  have hP : va_P D vwCl (WM cy am eda 0) H := hP
  have hD : va_D (fun q => s.heap.size ≤ q) (WM cy am eda 0) := hD
  refine lv_istore (lv' := [(6, .int 1), (5, .int 0), (4, .ref od), (3, .ref oa), (2, .ref (am 0)), (1, .ref (ad 0)), (0, .ref b)]) hx hb dL_law_873 hl (by decide) rfl (fun ls hl => ?_)
  refine lv_aload_n hx hb dL_law_875 rfl (lv_at hl 4 rfl) ?_
  refine lv_aload_n hx hb dL_law_876 rfl (lv_at hl 6 rfl) ?_
  refine lv_iload hx hb dL_law_877 (lv_at hl 1 rfl) ?_
  refine lv_iconst (v := 1) hx hb dL_law_879 (by decide) ?_
  refine lv_iadd hx hb dL_law_880 ?_
  refine lv_topi (fun y ey => ?_)
  obtain rfl : y = 1 := ey.trans (by decide)
  refine va_sld hx hb hX hbl hbA hS (by unfold vp_in; decide) dL_law_881 ?_
  refine lv_topi (fun y ey => ?_)
  obtain rfl : y = xs 1 := ey.trans (congrArg xs (by decide))
  refine mj_callV (wr := []) (wc := WM cy am eda 0) (As := [.int (xs 1)]) (rest := []) ⟨hx, hb, hml, hown, hts⟩ (a_translator_1 l D cy _ (xs 1) hd) (cwV 1 hts (goodL gL_law_X14_translator) rfl rfl rfl (by decide +kernel) ⟨by decide, by decide⟩) hK hN hP hD hS hA hJS (ci := 19) (q0 := 0) rfl rfl rfl rfl hl.1 rfl (Nat.le_of_ble_eq_true rfl) dL_law_882 ⟨Nat.le_of_ble_eq_true rfl, Nat.le_of_ble_eq_true rfl⟩ (fun H locs hB hJ hS => ?_)
  obtain ⟨hP1, hD1⟩ := hB
  obtain ⟨hP, hD⟩ := hJ _ hP1 hD1
  have hP : va_P D vwCl [(am 0, .inr (19, [.int 1, .ref (am 1), .ref (am 4), .ref (am 5), .ref (am 6), .ref (am 7), .ref (am 8), .int 0, .ref (am 9), .int 0, .int (-1), .int 100, .ref (am 10), .long 0, .int 0, .int 0, .int 0, .int 0, .long 0]))] H := hP
  have hD : va_D (fun q => s.heap.size ≤ q) [(am 0, .inr (19, [.int 1, .ref (am 1), .ref (am 4), .ref (am 5), .ref (am 6), .ref (am 7), .ref (am 8), .int 0, .ref (am 9), .int 0, .int (-1), .int 100, .ref (am 10), .long 0, .int 0, .int 0, .int 0, .int 0, .long 0]))] := hD
  refine lv_istore (lv' := [(7, .int 0), (6, .int 1), (5, .int 0), (4, .ref od), (3, .ref oa), (2, .ref (am 0)), (1, .ref (ad 0)), (0, .ref b)]) hx hb dL_law_885 hl (by decide) rfl (fun ls hl => ?_)
  refine lv_aload_n hx hb dL_law_887 rfl (lv_at hl 5 rfl) ?_
  refine ro_callV (As := []) (rest := []) ⟨hx, hb, hml, hown, hts⟩ (c_thrown l D cy _ 0 (am 0) 1 [.ref (am 1), .ref (am 4), .ref (am 5), .ref (am 6), .ref (am 7), .ref (am 8), .int 0, .ref (am 9), .int 0, .int (-1), .int 100, .ref (am 10), .long 0, .int 0, .int 0, .int 0, .int 0, .long 0] rfl) (cwV 0 hts (goodL gL_law_X14_thrown) rfl rfl rfl (by decide +kernel) ⟨by decide, by decide⟩) hK hN hP hS (ci := 19) (q0 := 0) rfl rfl rfl rfl hl.1 rfl (Nat.le_of_ble_eq_true rfl) dL_law_888 ⟨Nat.le_of_ble_eq_true rfl, Nat.le_of_ble_eq_true rfl⟩ (fun H locs hP hS => ?_)
  refine lv_iload hx hb dL_law_891 (lv_at hl 1 rfl) ?_
  refine lv_icmp_eq (tgt := 898) hx hb dL_law_893 (by decide) (fun _ => ?_) (fun c => absurd (by decide) c)
  refine lv_iload hx hb dL_law_898 (lv_at hl 1 rfl) ?_
  refine lv_if_ne (tgt := 915) hx hb dL_law_900 (by decide) (fun _ => ?_) (fun c => absurd c (by decide))
  refine lv_goto (tgt := 3117) hx hb dL_law_915 (by decide) ?_
  refine W.widen (k := 1000) (n := 10000) (Nat.le_of_ble_eq_true rfl) (Nat.le_of_ble_eq_true rfl) ?_
  exact hE _ _ _ hS (lv_sub hl [2, 3, 4, 5, 6, 7] rfl)

set_option maxRecDepth 100000 in
set_option maxHeartbeats 4000000 in
theorem law_wake_2 {p : Program} {e : Env} {s : State} {m : MethodId} {below : List Frame} {meth : Method} {c : Code} {l : Launch} (hfl : l.stackTraces = false) {b : Nat} {xs : Nat → Int32} {D : va_G} {cy : Nat → ClassId} {eda ca : Nat} {ia : Nat → Nat} (C0 : LawAt p s m meth c b xs D cy eda ca ia) {am : Nat → Nat} {ad : Nat → Nat} {rw_ : Nat → Nat → Option Nat} {w : va_W} (F : FrC cy ad rw_ w) {oa od : Nat} (hE : LawEnd p l e s m below meth c b (ad 0) (am 0) oa od) (e1 : xs 1 = 0) : LGoal p l e s m below meth c b D cy am eda w (ad 0) oa od 1266 := by
  obtain ⟨hx, hb, hml, hown, hts, hX, hbl, hK, hN, hT, hJS⟩ := id C0
  have hA : ∀ q : Nat, s.heap.size ≤ q → (fun q => s.heap.size ≤ q) q := fun _ h => h
  have hbA : ¬ (fun q => s.heap.size ≤ q) b := Nat.not_le.mpr hbl
  intro H locs ls hP hD hS hl
  refine lv_aload_n hx hb dL_law_1266 rfl (lv_at hl 4 rfl) ?_
  refine lv_aload_n hx hb dL_law_1267 rfl (lv_at hl 5 rfl) ?_
  refine lv_iload hx hb dL_law_1268 (lv_at hl 0 rfl) ?_
  refine lv_iconst (v := 1) hx hb dL_law_1270 (by decide) ?_
  refine lv_iadd hx hb dL_law_1271 ?_
  refine lv_topi (fun y ey => ?_)
  obtain rfl : y = 1 := ey.trans (by decide)
  refine va_sld hx hb hX hbl hbA hS (by unfold vp_in; decide) dL_law_1272 ?_
  refine lv_topi (fun y ey => ?_)
  obtain rfl : y = 0 := ey.trans ((congrArg xs (by decide)).trans e1)
  refine lv_aload_n hx hb dL_law_1273 rfl (lv_at hl 2 rfl) ?_
  refine mw_callS (wr := WM cy am eda 0) (wc := OCL cy oa :: w) (As := [.ref (ad 0), .int 0, .ref oa]) (rest := []) ⟨hx, hb, hml, hown, hts⟩ (w_wake_2 l D cy F hfl oa (fun _ => 0) _ ) (vx_cwSW 3 hts (goodLW gL_law_L_wake) rfl rfl rfl (by decide +kernel) ⟨by decide, by decide⟩) hK hN hT (fun q hq => hS.2.1 q hq (Nat.not_le.mpr hq)) hP hD hS hA rfl hl.1 rfl (Nat.le_of_ble_eq_true rfl) dL_law_1274 ⟨Nat.le_of_ble_eq_true rfl, Nat.le_of_ble_eq_true rfl⟩ (fun H locs hB hJ hS => ?_)
  obtain ⟨hP, hD⟩ := hJ [] (fun k q h => by simp at h) ⟨fun i j p q h => by simp at h, fun k q h => by simp at h⟩
  have hP : va_P D vwCl (WM cy am eda 0) H := hP
  have hD : va_D (fun q => s.heap.size ≤ q) (WM cy am eda 0) := hD
  refine lv_istore (lv' := [(6, .int 2), (5, .int 0), (4, .ref od), (3, .ref oa), (2, .ref (am 0)), (1, .ref (ad 0)), (0, .ref b)]) hx hb dL_law_1277 hl (by decide) rfl (fun ls hl => ?_)
  refine lv_aload_n hx hb dL_law_1279 rfl (lv_at hl 4 rfl) ?_
  refine lv_aload_n hx hb dL_law_1280 rfl (lv_at hl 6 rfl) ?_
  refine lv_iload hx hb dL_law_1281 (lv_at hl 1 rfl) ?_
  refine lv_iconst (v := 1) hx hb dL_law_1283 (by decide) ?_
  refine lv_iadd hx hb dL_law_1284 ?_
  refine lv_topi (fun y ey => ?_)
  obtain rfl : y = 1 := ey.trans (by decide)
  refine va_sld hx hb hX hbl hbA hS (by unfold vp_in; decide) dL_law_1285 ?_
  refine lv_topi (fun y ey => ?_)
  obtain rfl : y = 0 := ey.trans ((congrArg xs (by decide)).trans e1)
  refine mj_callV (wr := []) (wc := WM cy am eda 0) (As := [.int 0]) (rest := []) ⟨hx, hb, hml, hown, hts⟩ (a_wake_2 l D cy _ ) (cwV 1 hts (goodL gL_law_X14_wake) rfl rfl rfl (by decide +kernel) ⟨by decide, by decide⟩) hK hN hP hD hS hA hJS (ci := 19) (q0 := 0) rfl rfl rfl rfl hl.1 rfl (Nat.le_of_ble_eq_true rfl) dL_law_1286 ⟨Nat.le_of_ble_eq_true rfl, Nat.le_of_ble_eq_true rfl⟩ (fun H locs hB hJ hS => ?_)
  obtain ⟨hP1, hD1⟩ := hB
  obtain ⟨hP, hD⟩ := hJ _ hP1 hD1
  have hP : va_P D vwCl [(am 0, .inr (19, [.int 2, .ref (am 1), .ref (am 4), .ref (am 5), .ref (am 6), .ref (am 7), .ref (am 8), .int 0, .ref (am 9), .int 0, .int (-1), .int 100, .ref (am 10), .long 0, .int 0, .int 0, .int 0, .int 0, .long 0]))] H := hP
  have hD : va_D (fun q => s.heap.size ≤ q) [(am 0, .inr (19, [.int 2, .ref (am 1), .ref (am 4), .ref (am 5), .ref (am 6), .ref (am 7), .ref (am 8), .int 0, .ref (am 9), .int 0, .int (-1), .int 100, .ref (am 10), .long 0, .int 0, .int 0, .int 0, .int 0, .long 0]))] := hD
  refine lv_istore (lv' := [(7, .int 0), (6, .int 2), (5, .int 0), (4, .ref od), (3, .ref oa), (2, .ref (am 0)), (1, .ref (ad 0)), (0, .ref b)]) hx hb dL_law_1289 hl (by decide) rfl (fun ls hl => ?_)
  refine lv_aload_n hx hb dL_law_1291 rfl (lv_at hl 5 rfl) ?_
  refine ro_callV (As := []) (rest := []) ⟨hx, hb, hml, hown, hts⟩ (c_thrown l D cy _ 0 (am 0) 2 [.ref (am 1), .ref (am 4), .ref (am 5), .ref (am 6), .ref (am 7), .ref (am 8), .int 0, .ref (am 9), .int 0, .int (-1), .int 100, .ref (am 10), .long 0, .int 0, .int 0, .int 0, .int 0, .long 0] rfl) (cwV 0 hts (goodL gL_law_X14_thrown) rfl rfl rfl (by decide +kernel) ⟨by decide, by decide⟩) hK hN hP hS (ci := 19) (q0 := 0) rfl rfl rfl rfl hl.1 rfl (Nat.le_of_ble_eq_true rfl) dL_law_1292 ⟨Nat.le_of_ble_eq_true rfl, Nat.le_of_ble_eq_true rfl⟩ (fun H locs hP hS => ?_)
  refine lv_iload hx hb dL_law_1295 (lv_at hl 1 rfl) ?_
  refine lv_icmp_eq (tgt := 1302) hx hb dL_law_1297 (by decide) (fun _ => ?_) (fun c => absurd (by decide) c)
  refine lv_iload hx hb dL_law_1302 (lv_at hl 1 rfl) ?_
  refine lv_if_ne (tgt := 1319) hx hb dL_law_1304 (by decide) (fun _ => ?_) (fun c => absurd c (by decide))
  refine lv_goto (tgt := 3117) hx hb dL_law_1319 (by decide) ?_
  refine W.widen (k := 1000) (n := 10000) (Nat.le_of_ble_eq_true rfl) (Nat.le_of_ble_eq_true rfl) ?_
  exact hE _ _ _ hS (lv_sub hl [2, 3, 4, 5, 6, 7] rfl)

set_option maxRecDepth 100000 in
set_option maxHeartbeats 4000000 in
theorem law_wake_1 {p : Program} {e : Env} {s : State} {m : MethodId} {below : List Frame} {meth : Method} {c : Code} {l : Launch} (hfl : l.stackTraces = false) {b : Nat} {xs : Nat → Int32} {D : va_G} {cy : Nat → ClassId} {eda ca : Nat} {ia : Nat → Nat} (C0 : LawAt p s m meth c b xs D cy eda ca ia) {am : Nat → Nat} {ad : Nat → Nat} {rw_ : Nat → Nat → Option Nat} {w : va_W} (F : FrC cy ad rw_ w) {oa od : Nat} (hE : LawEnd p l e s m below meth c b (ad 0) (am 0) oa od) (hd : ¬ xs 1 = 0) : LGoal p l e s m below meth c b D cy am eda w (ad 0) oa od 1266 := by
  obtain ⟨hx, hb, hml, hown, hts, hX, hbl, hK, hN, hT, hJS⟩ := id C0
  have hA : ∀ q : Nat, s.heap.size ≤ q → (fun q => s.heap.size ≤ q) q := fun _ h => h
  have hbA : ¬ (fun q => s.heap.size ≤ q) b := Nat.not_le.mpr hbl
  intro H locs ls hP hD hS hl
  refine lv_aload_n hx hb dL_law_1266 rfl (lv_at hl 4 rfl) ?_
  refine lv_aload_n hx hb dL_law_1267 rfl (lv_at hl 5 rfl) ?_
  refine lv_iload hx hb dL_law_1268 (lv_at hl 0 rfl) ?_
  refine lv_iconst (v := 1) hx hb dL_law_1270 (by decide) ?_
  refine lv_iadd hx hb dL_law_1271 ?_
  refine lv_topi (fun y ey => ?_)
  obtain rfl : y = 1 := ey.trans (by decide)
  refine va_sld hx hb hX hbl hbA hS (by unfold vp_in; decide) dL_law_1272 ?_
  refine lv_topi (fun y ey => ?_)
  obtain rfl : y = xs 1 := ey.trans (congrArg xs (by decide))
  refine lv_aload_n hx hb dL_law_1273 rfl (lv_at hl 2 rfl) ?_
  refine mw_callS (wr := WM cy am eda 0) (wc := OCL cy oa :: w) (As := [.ref (ad 0), .int (xs 1), .ref oa]) (rest := []) ⟨hx, hb, hml, hown, hts⟩ (w_wake_1 l D cy F hfl oa (fun _ => 0) _ (xs 1) hd) (vx_cwSW 3 hts (goodLW gL_law_L_wake) rfl rfl rfl (by decide +kernel) ⟨by decide, by decide⟩) hK hN hT (fun q hq => hS.2.1 q hq (Nat.not_le.mpr hq)) hP hD hS hA rfl hl.1 rfl (Nat.le_of_ble_eq_true rfl) dL_law_1274 ⟨Nat.le_of_ble_eq_true rfl, Nat.le_of_ble_eq_true rfl⟩ (fun H locs hB hJ hS => ?_)
  obtain ⟨hP, hD⟩ := hJ [] (fun k q h => by simp at h) ⟨fun i j p q h => by simp at h, fun k q h => by simp at h⟩
  have hP : va_P D vwCl (WM cy am eda 0) H := hP
  have hD : va_D (fun q => s.heap.size ≤ q) (WM cy am eda 0) := hD
  refine lv_istore (lv' := [(6, .int 1), (5, .int 0), (4, .ref od), (3, .ref oa), (2, .ref (am 0)), (1, .ref (ad 0)), (0, .ref b)]) hx hb dL_law_1277 hl (by decide) rfl (fun ls hl => ?_)
  refine lv_aload_n hx hb dL_law_1279 rfl (lv_at hl 4 rfl) ?_
  refine lv_aload_n hx hb dL_law_1280 rfl (lv_at hl 6 rfl) ?_
  refine lv_iload hx hb dL_law_1281 (lv_at hl 1 rfl) ?_
  refine lv_iconst (v := 1) hx hb dL_law_1283 (by decide) ?_
  refine lv_iadd hx hb dL_law_1284 ?_
  refine lv_topi (fun y ey => ?_)
  obtain rfl : y = 1 := ey.trans (by decide)
  refine va_sld hx hb hX hbl hbA hS (by unfold vp_in; decide) dL_law_1285 ?_
  refine lv_topi (fun y ey => ?_)
  obtain rfl : y = xs 1 := ey.trans (congrArg xs (by decide))
  refine mj_callV (wr := []) (wc := WM cy am eda 0) (As := [.int (xs 1)]) (rest := []) ⟨hx, hb, hml, hown, hts⟩ (a_wake_1 l D cy _ (xs 1) hd) (cwV 1 hts (goodL gL_law_X14_wake) rfl rfl rfl (by decide +kernel) ⟨by decide, by decide⟩) hK hN hP hD hS hA hJS (ci := 19) (q0 := 0) rfl rfl rfl rfl hl.1 rfl (Nat.le_of_ble_eq_true rfl) dL_law_1286 ⟨Nat.le_of_ble_eq_true rfl, Nat.le_of_ble_eq_true rfl⟩ (fun H locs hB hJ hS => ?_)
  obtain ⟨hP1, hD1⟩ := hB
  obtain ⟨hP, hD⟩ := hJ _ hP1 hD1
  have hP : va_P D vwCl [(am 0, .inr (19, [.int 1, .ref (am 1), .ref (am 4), .ref (am 5), .ref (am 6), .ref (am 7), .ref (am 8), .int 0, .ref (am 9), .int 0, .int (-1), .int 100, .ref (am 10), .long 0, .int 0, .int 0, .int 0, .int 0, .long 0]))] H := hP
  have hD : va_D (fun q => s.heap.size ≤ q) [(am 0, .inr (19, [.int 1, .ref (am 1), .ref (am 4), .ref (am 5), .ref (am 6), .ref (am 7), .ref (am 8), .int 0, .ref (am 9), .int 0, .int (-1), .int 100, .ref (am 10), .long 0, .int 0, .int 0, .int 0, .int 0, .long 0]))] := hD
  refine lv_istore (lv' := [(7, .int 0), (6, .int 1), (5, .int 0), (4, .ref od), (3, .ref oa), (2, .ref (am 0)), (1, .ref (ad 0)), (0, .ref b)]) hx hb dL_law_1289 hl (by decide) rfl (fun ls hl => ?_)
  refine lv_aload_n hx hb dL_law_1291 rfl (lv_at hl 5 rfl) ?_
  refine ro_callV (As := []) (rest := []) ⟨hx, hb, hml, hown, hts⟩ (c_thrown l D cy _ 0 (am 0) 1 [.ref (am 1), .ref (am 4), .ref (am 5), .ref (am 6), .ref (am 7), .ref (am 8), .int 0, .ref (am 9), .int 0, .int (-1), .int 100, .ref (am 10), .long 0, .int 0, .int 0, .int 0, .int 0, .long 0] rfl) (cwV 0 hts (goodL gL_law_X14_thrown) rfl rfl rfl (by decide +kernel) ⟨by decide, by decide⟩) hK hN hP hS (ci := 19) (q0 := 0) rfl rfl rfl rfl hl.1 rfl (Nat.le_of_ble_eq_true rfl) dL_law_1292 ⟨Nat.le_of_ble_eq_true rfl, Nat.le_of_ble_eq_true rfl⟩ (fun H locs hP hS => ?_)
  refine lv_iload hx hb dL_law_1295 (lv_at hl 1 rfl) ?_
  refine lv_icmp_eq (tgt := 1302) hx hb dL_law_1297 (by decide) (fun _ => ?_) (fun c => absurd (by decide) c)
  refine lv_iload hx hb dL_law_1302 (lv_at hl 1 rfl) ?_
  refine lv_if_ne (tgt := 1319) hx hb dL_law_1304 (by decide) (fun _ => ?_) (fun c => absurd c (by decide))
  refine lv_goto (tgt := 3117) hx hb dL_law_1319 (by decide) ?_
  refine W.widen (k := 1000) (n := 10000) (Nat.le_of_ble_eq_true rfl) (Nat.le_of_ble_eq_true rfl) ?_
  exact hE _ _ _ hS (lv_sub hl [2, 3, 4, 5, 6, 7] rfl)

set_option maxRecDepth 100000 in
set_option maxHeartbeats 4000000 in
theorem law_look_1 {p : Program} {e : Env} {s : State} {m : MethodId} {below : List Frame} {meth : Method} {c : Code} {l : Launch} (hfl : l.stackTraces = false) {b : Nat} {xs : Nat → Int32} {D : va_G} {cy : Nat → ClassId} {eda ca : Nat} {ia : Nat → Nat} (C0 : LawAt p s m meth c b xs D cy eda ca ia) {am : Nat → Nat} {ad : Nat → Nat} {rw_ : Nat → Nat → Option Nat} {w : va_W} (F : FrC cy ad rw_ w) {oa od : Nat} (hE : LawEnd p l e s m below meth c b (ad 0) (am 0) oa od) : LGoal p l e s m below meth c b D cy am eda w (ad 0) oa od 974 := by
  obtain ⟨hx, hb, hml, hown, hts, hX, hbl, hK, hN, hT, hJS⟩ := id C0
  have hA : ∀ q : Nat, s.heap.size ≤ q → (fun q => s.heap.size ≤ q) q := fun _ h => h
  have hbA : ¬ (fun q => s.heap.size ≤ q) b := Nat.not_le.mpr hbl
  intro H locs ls hP hD hS hl
  refine lv_aload_n hx hb dL_law_974 rfl (lv_at hl 4 rfl) ?_
  refine lv_aload_n hx hb dL_law_975 rfl (lv_at hl 2 rfl) ?_
  refine mw_callS (wr := WM cy am eda 0) (wc := OCL cy oa :: w) (As := [.ref (ad 0), .ref oa]) (rest := []) ⟨hx, hb, hml, hown, hts⟩ (w_look_1 l D cy F hfl oa (fun _ => 0) _ ) (vx_cwSW 2 hts (goodLW gL_law_L_look) rfl rfl rfl (by decide +kernel) ⟨by decide, by decide⟩) hK hN hT (fun q hq => hS.2.1 q hq (Nat.not_le.mpr hq)) hP hD hS hA rfl hl.1 rfl (Nat.le_of_ble_eq_true rfl) dL_law_976 ⟨Nat.le_of_ble_eq_true rfl, Nat.le_of_ble_eq_true rfl⟩ (fun H locs hB hJ hS => ?_)
  obtain ⟨hP, hD⟩ := hJ [] (fun k q h => by simp at h) ⟨fun i j p q h => by simp at h, fun k q h => by simp at h⟩
  have hP : va_P D vwCl (WM cy am eda 0) H := hP
  have hD : va_D (fun q => s.heap.size ≤ q) (WM cy am eda 0) := hD
  refine lv_istore (lv' := [(6, .int 1), (5, .int 0), (4, .ref od), (3, .ref oa), (2, .ref (am 0)), (1, .ref (ad 0)), (0, .ref b)]) hx hb dL_law_979 hl (by decide) rfl (fun ls hl => ?_)
  refine lv_aload_n hx hb dL_law_981 rfl (lv_at hl 4 rfl) ?_
  refine mj_callV (wr := []) (wc := WM cy am eda 0) (As := []) (rest := []) ⟨hx, hb, hml, hown, hts⟩ (a_look_1 l D cy _ ) (cwV 0 hts (goodL gL_law_X14_look) rfl rfl rfl (by decide +kernel) ⟨by decide, by decide⟩) hK hN hP hD hS hA hJS (ci := 19) (q0 := 0) rfl rfl rfl rfl hl.1 rfl (Nat.le_of_ble_eq_true rfl) dL_law_982 ⟨Nat.le_of_ble_eq_true rfl, Nat.le_of_ble_eq_true rfl⟩ (fun H locs hB hJ hS => ?_)
  obtain ⟨hP1, hD1⟩ := hB
  obtain ⟨hP, hD⟩ := hJ _ hP1 hD1
  have hP : va_P D vwCl [(am 0, .inr (19, [.int 1, .ref (am 1), .ref (am 4), .ref (am 5), .ref (am 6), .ref (am 7), .ref (am 8), .int 0, .ref (am 9), .int 0, .int (-1), .int 100, .ref (am 10), .long 0, .int 0, .int 0, .int 0, .int 0, .long 0]))] H := hP
  have hD : va_D (fun q => s.heap.size ≤ q) [(am 0, .inr (19, [.int 1, .ref (am 1), .ref (am 4), .ref (am 5), .ref (am 6), .ref (am 7), .ref (am 8), .int 0, .ref (am 9), .int 0, .int (-1), .int 100, .ref (am 10), .long 0, .int 0, .int 0, .int 0, .int 0, .long 0]))] := hD
  refine lv_istore (lv' := [(7, .int 0), (6, .int 1), (5, .int 0), (4, .ref od), (3, .ref oa), (2, .ref (am 0)), (1, .ref (ad 0)), (0, .ref b)]) hx hb dL_law_985 hl (by decide) rfl (fun ls hl => ?_)
  refine lv_aload_n hx hb dL_law_987 rfl (lv_at hl 5 rfl) ?_
  refine ro_callV (As := []) (rest := []) ⟨hx, hb, hml, hown, hts⟩ (c_thrown l D cy _ 0 (am 0) 1 [.ref (am 1), .ref (am 4), .ref (am 5), .ref (am 6), .ref (am 7), .ref (am 8), .int 0, .ref (am 9), .int 0, .int (-1), .int 100, .ref (am 10), .long 0, .int 0, .int 0, .int 0, .int 0, .long 0] rfl) (cwV 0 hts (goodL gL_law_X14_thrown) rfl rfl rfl (by decide +kernel) ⟨by decide, by decide⟩) hK hN hP hS (ci := 19) (q0 := 0) rfl rfl rfl rfl hl.1 rfl (Nat.le_of_ble_eq_true rfl) dL_law_988 ⟨Nat.le_of_ble_eq_true rfl, Nat.le_of_ble_eq_true rfl⟩ (fun H locs hP hS => ?_)
  refine lv_iload hx hb dL_law_991 (lv_at hl 1 rfl) ?_
  refine lv_icmp_eq (tgt := 998) hx hb dL_law_993 (by decide) (fun _ => ?_) (fun c => absurd (by decide) c)
  refine lv_iload hx hb dL_law_998 (lv_at hl 1 rfl) ?_
  refine lv_if_ne (tgt := 1015) hx hb dL_law_1000 (by decide) (fun _ => ?_) (fun c => absurd c (by decide))
  refine lv_goto (tgt := 3117) hx hb dL_law_1015 (by decide) ?_
  refine W.widen (k := 1000) (n := 10000) (Nat.le_of_ble_eq_true rfl) (Nat.le_of_ble_eq_true rfl) ?_
  exact hE _ _ _ hS (lv_sub hl [2, 3, 4, 5, 6, 7] rfl)
