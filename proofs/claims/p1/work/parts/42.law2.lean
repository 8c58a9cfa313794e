set_option maxRecDepth 100000 in
set_option maxHeartbeats 4000000 in
theorem law_driver_1 {p : Program} {e : Env} {s : State} {m : MethodId} {below : List Frame} {meth : Method} {c : Code} {l : Launch} (hfl : l.stackTraces = false) {b : Nat} {xs : Nat → Int32} {D : va_G} {cy : Nat → ClassId} {eda ca : Nat} {ia : Nat → Nat} (C0 : LawAt p s m meth c b xs D cy eda ca ia) {am : Nat → Nat} {ad : Nat → Nat} {rw_ : Nat → Nat → Option Nat} {w : va_W} (F : FrC cy ad rw_ w) {oa od : Nat} (hE : LawEnd p l e s m below meth c b (ad 0) (am 0) oa od) (h : ¬ ((¬ xs 1 < 0 ∧ ¬ 9 < xs 1) ∧ (¬ xs 2 < -1 ∧ ¬ 9 < xs 2))) : LGoal p l e s m below meth c b D cy am eda w (ad 0) oa od 1018 := by
  obtain ⟨hx, hb, hml, hown, hts, hX, hbl, hK, hN, hT, hJS⟩ := id C0
  have hA : ∀ q : Nat, s.heap.size ≤ q → (fun q => s.heap.size ≤ q) q := fun _ h => h
  have hbA : ¬ (fun q => s.heap.size ≤ q) b := Nat.not_le.mpr hbl
  intro H locs ls hP hD hS hl
  refine lv_aload_n hx hb dL_law_1018 rfl (lv_at hl 4 rfl) ?_
  refine lv_aload_n hx hb dL_law_1019 rfl (lv_at hl 5 rfl) ?_
  refine lv_iload hx hb dL_law_1020 (lv_at hl 0 rfl) ?_
  refine lv_iconst (v := 1) hx hb dL_law_1022 (by decide) ?_
  refine lv_iadd hx hb dL_law_1023 ?_
  refine lv_topi (fun y ey => ?_)
  obtain rfl : y = 1 := ey.trans (by decide)
  refine va_sld hx hb hX hbl hbA hS (by unfold vp_in; decide) dL_law_1024 ?_
  refine lv_topi (fun y ey => ?_)
  obtain rfl : y = xs 1 := ey.trans (congrArg xs (by decide))
  refine lv_aload_n hx hb dL_law_1025 rfl (lv_at hl 5 rfl) ?_
  refine lv_iload hx hb dL_law_1026 (lv_at hl 0 rfl) ?_
  refine lv_iconst (v := 2) hx hb dL_law_1028 (by decide) ?_
  refine lv_iadd hx hb dL_law_1029 ?_
  refine lv_topi (fun y ey => ?_)
  obtain rfl : y = 2 := ey.trans (by decide)
  refine va_sld hx hb hX hbl hbA hS (by unfold vp_in; decide) dL_law_1030 ?_
  refine lv_topi (fun y ey => ?_)
  obtain rfl : y = xs 2 := ey.trans (congrArg xs (by decide))
  refine lv_aload_n hx hb dL_law_1031 rfl (lv_at hl 2 rfl) ?_
  refine mw_callS (wr := WM cy am eda 0) (wc := OCL cy oa :: w) (As := [.ref (ad 0), .int (xs 1), .int (xs 2), .ref oa]) (rest := []) ⟨hx, hb, hml, hown, hts⟩ (w_driver_1 l D cy F hfl oa (fun _ => 0) _ (xs 1) (xs 2) h) (vx_cwSW 4 hts (goodLW gL_law_L_driver) rfl rfl rfl (by decide +kernel) ⟨by decide, by decide⟩) hK hN hT (fun q hq => hS.2.1 q hq (Nat.not_le.mpr hq)) hP hD hS hA rfl hl.1 rfl (Nat.le_of_ble_eq_true rfl) dL_law_1032 ⟨Nat.le_of_ble_eq_true rfl, Nat.le_of_ble_eq_true rfl⟩ (fun H locs hB hJ hS => ?_)
  obtain ⟨hP, hD⟩ := hJ [] (fun k q h => by simp at h) ⟨fun i j p q h => by simp at h, fun k q h => by simp at h⟩
  have hP : va_P D vwCl (WM cy am eda 0) H := hP
  have hD : va_D (fun q => s.heap.size ≤ q) (WM cy am eda 0) := hD
  refine lv_istore (lv' := [(6, .int 1), (5, .int 0), (4, .ref od), (3, .ref oa), (2, .ref (am 0)), (1, .ref (ad 0)), (0, .ref b)]) hx hb dL_law_1035 hl (by decide) rfl (fun ls hl => ?_)
  refine lv_aload_n hx hb dL_law_1037 rfl (lv_at hl 4 rfl) ?_
  refine lv_aload_n hx hb dL_law_1038 rfl (lv_at hl 6 rfl) ?_
  refine lv_iload hx hb dL_law_1039 (lv_at hl 1 rfl) ?_
  refine lv_iconst (v := 1) hx hb dL_law_1041 (by decide) ?_
  refine lv_iadd hx hb dL_law_1042 ?_
  refine lv_topi (fun y ey => ?_)
  obtain rfl : y = 1 := ey.trans (by decide)
  refine va_sld hx hb hX hbl hbA hS (by unfold vp_in; decide) dL_law_1043 ?_
  refine lv_topi (fun y ey => ?_)
  obtain rfl : y = xs 1 := ey.trans (congrArg xs (by decide))
  refine lv_aload_n hx hb dL_law_1044 rfl (lv_at hl 6 rfl) ?_
  refine lv_iload hx hb dL_law_1045 (lv_at hl 1 rfl) ?_
  refine lv_iconst (v := 2) hx hb dL_law_1047 (by decide) ?_
  refine lv_iadd hx hb dL_law_1048 ?_
  refine lv_topi (fun y ey => ?_)
  obtain rfl : y = 2 := ey.trans (by decide)
  refine va_sld hx hb hX hbl hbA hS (by unfold vp_in; decide) dL_law_1049 ?_
  refine lv_topi (fun y ey => ?_)
  obtain rfl : y = xs 2 := ey.trans (congrArg xs (by decide))
  refine mj_callV (wr := []) (wc := WM cy am eda 0) (As := [.int (xs 1), .int (xs 2)]) (rest := []) ⟨hx, hb, hml, hown, hts⟩ (a_driver_1 l D cy _ (xs 1) (xs 2) h) (cwV 2 hts (goodL gL_law_X14_driver) rfl rfl rfl (by decide +kernel) ⟨by decide, by decide⟩) hK hN hP hD hS hA hJS (ci := 19) (q0 := 0) rfl rfl rfl rfl hl.1 rfl (Nat.le_of_ble_eq_true rfl) dL_law_1050 ⟨Nat.le_of_ble_eq_true rfl, Nat.le_of_ble_eq_true rfl⟩ (fun H locs hB hJ hS => ?_)
  obtain ⟨hP1, hD1⟩ := hB
  obtain ⟨hP, hD⟩ := hJ _ hP1 hD1
  have hP : va_P D vwCl [(am 0, .inr (19, [.int 1, .ref (am 1), .ref (am 4), .ref (am 5), .ref (am 6), .ref (am 7), .ref (am 8), .int 0, .ref (am 9), .int 0, .int (-1), .int 100, .ref (am 10), .long 0, .int 0, .int 0, .int 0, .int 0, .long 0]))] H := hP
  have hD : va_D (fun q => s.heap.size ≤ q) [(am 0, .inr (19, [.int 1, .ref (am 1), .ref (am 4), .ref (am 5), .ref (am 6), .ref (am 7), .ref (am 8), .int 0, .ref (am 9), .int 0, .int (-1), .int 100, .ref (am 10), .long 0, .int 0, .int 0, .int 0, .int 0, .long 0]))] := hD
  refine lv_istore (lv' := [(7, .int 0), (6, .int 1), (5, .int 0), (4, .ref od), (3, .ref oa), (2, .ref (am 0)), (1, .ref (ad 0)), (0, .ref b)]) hx hb dL_law_1053 hl (by decide) rfl (fun ls hl => ?_)
  refine lv_aload_n hx hb dL_law_1055 rfl (lv_at hl 5 rfl) ?_
  refine ro_callV (As := []) (rest := []) ⟨hx, hb, hml, hown, hts⟩ (c_thrown l D cy _ 0 (am 0) 1 [.ref (am 1), .ref (am 4), .ref (am 5), .ref (am 6), .ref (am 7), .ref (am 8), .int 0, .ref (am 9), .int 0, .int (-1), .int 100, .ref (am 10), .long 0, .int 0, .int 0, .int 0, .int 0, .long 0] rfl) (cwV 0 hts (goodL gL_law_X14_thrown) rfl rfl rfl (by decide +kernel) ⟨by decide, by decide⟩) hK hN hP hS (ci := 19) (q0 := 0) rfl rfl rfl rfl hl.1 rfl (Nat.le_of_ble_eq_true rfl) dL_law_1056 ⟨Nat.le_of_ble_eq_true rfl, Nat.le_of_ble_eq_true rfl⟩ (fun H locs hP hS => ?_)
  refine lv_iload hx hb dL_law_1059 (lv_at hl 1 rfl) ?_
  refine lv_icmp_eq (tgt := 1066) hx hb dL_law_1061 (by decide) (fun _ => ?_) (fun c => absurd (by decide) c)
  refine lv_iload hx hb dL_law_1066 (lv_at hl 1 rfl) ?_
  refine lv_if_ne (tgt := 1083) hx hb dL_law_1068 (by decide) (fun _ => ?_) (fun c => absurd c (by decide))
  refine lv_goto (tgt := 3117) hx hb dL_law_1083 (by decide) ?_
  refine W.widen (k := 1000) (n := 10000) (Nat.le_of_ble_eq_true rfl) (Nat.le_of_ble_eq_true rfl) ?_
  exact hE _ _ _ hS (lv_sub hl [2, 3, 4, 5, 6, 7] rfl)

set_option maxRecDepth 100000 in
set_option maxHeartbeats 4000000 in
theorem law_driver_0 {p : Program} {e : Env} {s : State} {m : MethodId} {below : List Frame} {meth : Method} {c : Code} {l : Launch} (hfl : l.stackTraces = false) {b : Nat} {xs : Nat → Int32} {D : va_G} {cy : Nat → ClassId} {eda ca : Nat} {ia : Nat → Nat} (C0 : LawAt p s m meth c b xs D cy eda ca ia) {am : Nat → Nat} {ad : Nat → Nat} {rw_ : Nat → Nat → Option Nat} {w : va_W} (F : FrC cy ad rw_ w) {oa od : Nat} (hE : LawEnd p l e s m below meth c b (ad 0) (am 0) oa od) (h1 : ¬ xs 1 < 0 ∧ ¬ 9 < xs 1) (h2 : ¬ xs 2 < -1 ∧ ¬ 9 < xs 2) : LGoal p l e s m below meth c b D cy am eda w (ad 0) oa od 1018 := by
  obtain ⟨hx, hb, hml, hown, hts, hX, hbl, hK, hN, hT, hJS⟩ := id C0
  have hA : ∀ q : Nat, s.heap.size ≤ q → (fun q => s.heap.size ≤ q) q := fun _ h => h
  have hbA : ¬ (fun q => s.heap.size ≤ q) b := Nat.not_le.mpr hbl
  intro H locs ls hP hD hS hl
  refine lv_aload_n hx hb dL_law_1018 rfl (lv_at hl 4 rfl) ?_
  refine lv_aload_n hx hb dL_law_1019 rfl (lv_at hl 5 rfl) ?_
  refine lv_iload hx hb dL_law_1020 (lv_at hl 0 rfl) ?_
  refine lv_iconst (v := 1) hx hb dL_law_1022 (by decide) ?_
  refine lv_iadd hx hb dL_law_1023 ?_
  refine lv_topi (fun y ey => ?_)
  obtain rfl : y = 1 := ey.trans (by decide)
  refine va_sld hx hb hX hbl hbA hS (by unfold vp_in; decide) dL_law_1024 ?_
  refine lv_topi (fun y ey => ?_)
  obtain rfl : y = xs 1 := ey.trans (congrArg xs (by decide))
  refine lv_aload_n hx hb dL_law_1025 rfl (lv_at hl 5 rfl) ?_
  refine lv_iload hx hb dL_law_1026 (lv_at hl 0 rfl) ?_
  refine lv_iconst (v := 2) hx hb dL_law_1028 (by decide) ?_
  refine lv_iadd hx hb dL_law_1029 ?_
  refine lv_topi (fun y ey => ?_)
  obtain rfl : y = 2 := ey.trans (by decide)
  refine va_sld hx hb hX hbl hbA hS (by unfold vp_in; decide) dL_law_1030 ?_
  refine lv_topi (fun y ey => ?_)
  obtain rfl : y = xs 2 := ey.trans (congrArg xs (by decide))
  refine lv_aload_n hx hb dL_law_1031 rfl (lv_at hl 2 rfl) ?_
  refine mw_callS (wr := WM cy am eda 0) (wc := OCL cy oa :: w) (As := [.ref (ad 0), .int (xs 1), .int (xs 2), .ref oa]) (rest := []) ⟨hx, hb, hml, hown, hts⟩ (w_driver_0 l D cy F oa (fun _ => 0) _ (xs 1) (xs 2) h1 h2) (vx_cwSW 4 hts (goodLW gL_law_L_driver) rfl rfl rfl (by decide +kernel) ⟨by decide, by decide⟩) hK hN hT (fun q hq => hS.2.1 q hq (Nat.not_le.mpr hq)) hP hD hS hA rfl hl.1 rfl (Nat.le_of_ble_eq_true rfl) dL_law_1032 ⟨Nat.le_of_ble_eq_true rfl, Nat.le_of_ble_eq_true rfl⟩ (fun H locs hB hJ hS => ?_)
  obtain ⟨hP, hD⟩ := hJ [(oa, .inl (cy 2, 1, .inr (.inl (vp_updL (fun _ => 0) 0 (0)))))] hB (my_d1 (my_in1 (ko := 0) rfl))
  have hP := hP.sub (ws' := [(oa, .inl (cy 2, 1, .inr (.inl (vp_updL (fun _ => 0) 0 (0)))))] ++ WM cy am eda 0) [14, 0, 1, 2, 3, 4, 5, 6, 7, 8, 9, 10, 11, 12, 13] rfl
  have hD := hD.sub (ws' := [(oa, .inl (cy 2, 1, .inr (.inl (vp_updL (fun _ => 0) 0 (0)))))] ++ WM cy am eda 0) [14, 0, 1, 2, 3, 4, 5, 6, 7, 8, 9, 10, 11, 12, 13] (by decide) rfl
  refine lv_istore (lv' := [(6, .int 0), (5, .int 0), (4, .ref od), (3, .ref oa), (2, .ref (am 0)), (1, .ref (ad 0)), (0, .ref b)]) hx hb dL_law_1035 hl (by decide) rfl (fun ls hl => ?_)
  refine lv_aload_n hx hb dL_law_1037 rfl (lv_at hl 4 rfl) ?_
  refine lv_aload_n hx hb dL_law_1038 rfl (lv_at hl 6 rfl) ?_
  refine lv_iload hx hb dL_law_1039 (lv_at hl 1 rfl) ?_
  refine lv_iconst (v := 1) hx hb dL_law_1041 (by decide) ?_
  refine lv_iadd hx hb dL_law_1042 ?_
  refine lv_topi (fun y ey => ?_)
  obtain rfl : y = 1 := ey.trans (by decide)
  refine va_sld hx hb hX hbl hbA hS (by unfold vp_in; decide) dL_law_1043 ?_
  refine lv_topi (fun y ey => ?_)
  obtain rfl : y = xs 1 := ey.trans (congrArg xs (by decide))
  refine lv_aload_n hx hb dL_law_1044 rfl (lv_at hl 6 rfl) ?_
  refine lv_iload hx hb dL_law_1045 (lv_at hl 1 rfl) ?_
  refine lv_iconst (v := 2) hx hb dL_law_1047 (by decide) ?_
  refine lv_iadd hx hb dL_law_1048 ?_
  refine lv_topi (fun y ey => ?_)
  obtain rfl : y = 2 := ey.trans (by decide)
  refine va_sld hx hb hX hbl hbA hS (by unfold vp_in; decide) dL_law_1049 ?_
  refine lv_topi (fun y ey => ?_)
  obtain rfl : y = xs 2 := ey.trans (congrArg xs (by decide))
  refine mj_callV (wr := [(oa, .inl (cy 2, 1, .inr (.inl (vp_updL (fun _ => 0) 0 (0)))))]) (wc := WM cy am eda 0) (As := [.int (xs 1), .int (xs 2)]) (rest := []) ⟨hx, hb, hml, hown, hts⟩ (a_driver_0 l D cy _ (xs 1) (xs 2) h1 h2) (cwV 2 hts (goodL gL_law_X14_driver) rfl rfl rfl (by decide +kernel) ⟨by decide, by decide⟩) hK hN hP hD hS hA hJS (ci := 19) (q0 := 0) rfl rfl rfl rfl hl.1 rfl (Nat.le_of_ble_eq_true rfl) dL_law_1050 ⟨Nat.le_of_ble_eq_true rfl, Nat.le_of_ble_eq_true rfl⟩ (fun H locs hB hJ hS => ?_)
  obtain ⟨hP1, hD1⟩ := hB
  obtain ⟨hP, hD⟩ := hJ _ hP1 hD1
  have hP : va_P D vwCl [(oa, .inl (cy 2, 1, .inr (.inl (vp_updL (fun _ => 0) 0 (0))))), (am 0, .inr (19, [.int 0, .ref (am 1), .ref (am 4), .ref (am 5), .ref (am 6), .ref (am 7), .ref (am 8), .int 0, .ref (am 9), .int 0, .int (-1), .int 100, .ref (am 10), .long 0, .int 0, .int 0, .int 0, .int 0, .long 0]))] H := hP
  have hD : va_D (fun q => s.heap.size ≤ q) [(oa, .inl (cy 2, 1, .inr (.inl (vp_updL (fun _ => 0) 0 (0))))), (am 0, .inr (19, [.int 0, .ref (am 1), .ref (am 4), .ref (am 5), .ref (am 6), .ref (am 7), .ref (am 8), .int 0, .ref (am 9), .int 0, .int (-1), .int 100, .ref (am 10), .long 0, .int 0, .int 0, .int 0, .int 0, .long 0]))] := hD
  refine lv_istore (lv' := [(7, .int 0), (6, .int 0), (5, .int 0), (4, .ref od), (3, .ref oa), (2, .ref (am 0)), (1, .ref (ad 0)), (0, .ref b)]) hx hb dL_law_1053 hl (by decide) rfl (fun ls hl => ?_)
  refine lv_aload_n hx hb dL_law_1055 rfl (lv_at hl 5 rfl) ?_
  refine ro_callV (As := []) (rest := []) ⟨hx, hb, hml, hown, hts⟩ (c_thrown l D cy _ 1 (am 0) 0 [.ref (am 1), .ref (am 4), .ref (am 5), .ref (am 6), .ref (am 7), .ref (am 8), .int 0, .ref (am 9), .int 0, .int (-1), .int 100, .ref (am 10), .long 0, .int 0, .int 0, .int 0, .int 0, .long 0] rfl) (cwV 0 hts (goodL gL_law_X14_thrown) rfl rfl rfl (by decide +kernel) ⟨by decide, by decide⟩) hK hN hP hS (ci := 19) (q0 := 1) rfl rfl rfl rfl hl.1 rfl (Nat.le_of_ble_eq_true rfl) dL_law_1056 ⟨Nat.le_of_ble_eq_true rfl, Nat.le_of_ble_eq_true rfl⟩ (fun H locs hP hS => ?_)
  refine lv_iload hx hb dL_law_1059 (lv_at hl 1 rfl) ?_
  refine lv_icmp_eq (tgt := 1066) hx hb dL_law_1061 (by decide) (fun _ => ?_) (fun c => absurd (by decide) c)
  refine lv_iload hx hb dL_law_1066 (lv_at hl 1 rfl) ?_
  refine lv_if_ne (tgt := 1083) hx hb dL_law_1068 (by decide) (fun c => absurd (by decide) c) (fun _ => ?_)
  refine lv_aload_n hx hb dL_law_1071 rfl (lv_at hl 4 rfl) ?_
  refine lv_iconst (v := 0) hx hb dL_law_1072 (by decide) ?_
  refine va_lald hx hb hK hP 0 2 rfl rfl (by unfold vp_in; decide) dL_law_1073 ?_
  refine lv_topl (fun y ey => ?_)
  obtain rfl : y = 0 := ey.trans (my_rd0 _ _)
  refine lv_iload hx hb dL_law_1074 (lv_at hl 0 rfl) ?_
  refine lv_i2l (v := 0) hx hb dL_law_1076 (by decide) ?_
  refine W.lcmp hx hb dL_law_1077 ?_
  refine lv_topi (fun y ey => ?_)
  obtain rfl : y = 0 := ey.trans (my_cmp _)
  refine lv_if_eq (tgt := 1083) hx hb dL_law_1078 (by decide) (fun _ => ?_) (fun c => absurd (by decide) c)
  refine lv_goto (tgt := 3117) hx hb dL_law_1083 (by decide) ?_
  refine W.widen (k := 1000) (n := 10000) (Nat.le_of_ble_eq_true rfl) (Nat.le_of_ble_eq_true rfl) ?_
  exact hE _ _ _ hS (lv_sub hl [2, 3, 4, 5, 6, 7] rfl)

set_option maxRecDepth 100000 in
set_option maxHeartbeats 4000000 in
theorem law_draw_1 {p : Program} {e : Env} {s : State} {m : MethodId} {below : List Frame} {meth : Method} {c : Code} {l : Launch} (hfl : l.stackTraces = false) {b : Nat} {xs : Nat → Int32} {D : va_G} {cy : Nat → ClassId} {eda ca : Nat} {ia : Nat → Nat} (C0 : LawAt p s m meth c b xs D cy eda ca ia) {am : Nat → Nat} {ad : Nat → Nat} {rw_ : Nat → Nat → Option Nat} {w : va_W} (F : FrC cy ad rw_ w) {oa od : Nat} (hE : LawEnd p l e s m below meth c b (ad 0) (am 0) oa od) : LGoal p l e s m below meth c b D cy am eda w (ad 0) oa od 1142 := by
  obtain ⟨hx, hb, hml, hown, hts, hX, hbl, hK, hN, hT, hJS⟩ := id C0
  have hA : ∀ q : Nat, s.heap.size ≤ q → (fun q => s.heap.size ≤ q) q := fun _ h => h
  have hbA : ¬ (fun q => s.heap.size ≤ q) b := Nat.not_le.mpr hbl
  intro H locs ls hP hD hS hl
  refine lv_aload_n hx hb dL_law_1142 rfl (lv_at hl 4 rfl) ?_
  refine lv_aload_n hx hb dL_law_1143 rfl (lv_at hl 5 rfl) ?_
  refine lv_iload hx hb dL_law_1144 (lv_at hl 0 rfl) ?_
  refine lv_iconst (v := 1) hx hb dL_law_1146 (by decide) ?_
  refine lv_iadd hx hb dL_law_1147 ?_
  refine lv_topi (fun y ey => ?_)
  obtain rfl : y = 1 := ey.trans (by decide)
  refine va_sld hx hb hX hbl hbA hS (by unfold vp_in; decide) dL_law_1148 ?_
  refine lv_topi (fun y ey => ?_)
  obtain rfl : y = xs 1 := ey.trans (congrArg xs (by decide))
  refine lv_aload_n hx hb dL_law_1149 rfl (lv_at hl 5 rfl) ?_
  refine lv_iload hx hb dL_law_1150 (lv_at hl 0 rfl) ?_
  refine lv_iconst (v := 2) hx hb dL_law_1152 (by decide) ?_
  refine lv_iadd hx hb dL_law_1153 ?_
  refine lv_topi (fun y ey => ?_)
  obtain rfl : y = 2 := ey.trans (by decide)
  refine va_sld hx hb hX hbl hbA hS (by unfold vp_in; decide) dL_law_1154 ?_
  refine lv_topi (fun y ey => ?_)
  obtain rfl : y = xs 2 := ey.trans (congrArg xs (by decide))
  refine lv_aload_n hx hb dL_law_1155 rfl (lv_at hl 2 rfl) ?_
  refine mw_callS (wr := WM cy am eda 0) (wc := OCL cy oa :: w) (As := [.ref (ad 0), .int (xs 1), .int (xs 2), .ref oa]) (rest := []) ⟨hx, hb, hml, hown, hts⟩ (w_draw_1 l D cy F hfl oa (fun _ => 0) _ (xs 1) (xs 2)) (vx_cwSW 4 hts (goodLW gL_law_L_draw) rfl rfl rfl (by decide +kernel) ⟨by decide, by decide⟩) hK hN hT (fun q hq => hS.2.1 q hq (Nat.not_le.mpr hq)) hP hD hS hA rfl hl.1 rfl (Nat.le_of_ble_eq_true rfl) dL_law_1156 ⟨Nat.le_of_ble_eq_true rfl, Nat.le_of_ble_eq_true rfl⟩ (fun H locs hB hJ hS => ?_)
  obtain ⟨hP, hD⟩ := hJ [] (fun k q h => by simp at h) ⟨fun i j p q h => by simp at h, fun k q h => by simp at h⟩
  have hP : va_P D vwCl (WM cy am eda 0) H := hP
  have hD : va_D (fun q => s.heap.size ≤ q) (WM cy am eda 0) := hD
  refine lv_istore (lv' := [(6, .int 1), (5, .int 0), (4, .ref od), (3, .ref oa), (2, .ref (am 0)), (1, .ref (ad 0)), (0, .ref b)]) hx hb dL_law_1159 hl (by decide) rfl (fun ls hl => ?_)
  refine lv_aload_n hx hb dL_law_1161 rfl (lv_at hl 4 rfl) ?_
  refine lv_aload_n hx hb dL_law_1162 rfl (lv_at hl 6 rfl) ?_
  refine lv_iload hx hb dL_law_1163 (lv_at hl 1 rfl) ?_
  refine lv_iconst (v := 1) hx hb dL_law_1165 (by decide) ?_
  refine lv_iadd hx hb dL_law_1166 ?_
  refine lv_topi (fun y ey => ?_)
  obtain rfl : y = 1 := ey.trans (by decide)
  refine va_sld hx hb hX hbl hbA hS (by unfold vp_in; decide) dL_law_1167 ?_
  refine lv_topi (fun y ey => ?_)
  obtain rfl : y = xs 1 := ey.trans (congrArg xs (by decide))
  refine lv_aload_n hx hb dL_law_1168 rfl (lv_at hl 6 rfl) ?_
  refine lv_iload hx hb dL_law_1169 (lv_at hl 1 rfl) ?_
  refine lv_iconst (v := 2) hx hb dL_law_1171 (by decide) ?_
  refine lv_iadd hx hb dL_law_1172 ?_
  refine lv_topi (fun y ey => ?_)
  obtain rfl : y = 2 := ey.trans (by decide)
  refine va_sld hx hb hX hbl hbA hS (by unfold vp_in; decide) dL_law_1173 ?_
  refine lv_topi (fun y ey => ?_)
  obtain rfl : y = xs 2 := ey.trans (congrArg xs (by decide))
  refine mj_callV (wr := []) (wc := WM cy am eda 0) (As := [.int (xs 1), .int (xs 2)]) (rest := []) ⟨hx, hb, hml, hown, hts⟩ (a_draw_1 l D cy _ (xs 1) (xs 2)) (cwV 2 hts (goodL gL_law_X14_draw) rfl rfl rfl (by decide +kernel) ⟨by decide, by decide⟩) hK hN hP hD hS hA hJS (ci := 19) (q0 := 0) rfl rfl rfl rfl hl.1 rfl (Nat.le_of_ble_eq_true rfl) dL_law_1174 ⟨Nat.le_of_ble_eq_true rfl, Nat.le_of_ble_eq_true rfl⟩ (fun H locs hB hJ hS => ?_)
  obtain ⟨hP1, hD1⟩ := hB
  obtain ⟨hP, hD⟩ := hJ _ hP1 hD1
  have hP : va_P D vwCl [(am 0, .inr (19, [.int 1, .ref (am 1), .ref (am 4), .ref (am 5), .ref (am 6), .ref (am 7), .ref (am 8), .int 0, .ref (am 9), .int 0, .int (-1), .int 100, .ref (am 10), .long 0, .int 0, .int 0, .int 0, .int 0, .long 0]))] H := hP
  have hD : va_D (fun q => s.heap.size ≤ q) [(am 0, .inr (19, [.int 1, .ref (am 1), .ref (am 4), .ref (am 5), .ref (am 6), .ref (am 7), .ref (am 8), .int 0, .ref (am 9), .int 0, .int (-1), .int 100, .ref (am 10), .long 0, .int 0, .int 0, .int 0, .int 0, .long 0]))] := hD
  refine lv_istore (lv' := [(7, .int 0), (6, .int 1), (5, .int 0), (4, .ref od), (3, .ref oa), (2, .ref (am 0)), (1, .ref (ad 0)), (0, .ref b)]) hx hb dL_law_1177 hl (by decide) rfl (fun ls hl => ?_)
  refine lv_aload_n hx hb dL_law_1179 rfl (lv_at hl 5 rfl) ?_
  refine ro_callV (As := []) (rest := []) ⟨hx, hb, hml, hown, hts⟩ (c_thrown l D cy _ 0 (am 0) 1 [.ref (am 1), .ref (am 4), .ref (am 5), .ref (am 6), .ref (am 7), .ref (am 8), .int 0, .ref (am 9), .int 0, .int (-1), .int 100, .ref (am 10), .long 0, .int 0, .int 0, .int 0, .int 0, .long 0] rfl) (cwV 0 hts (goodL gL_law_X14_thrown) rfl rfl rfl (by decide +kernel) ⟨by decide, by decide⟩) hK hN hP hS (ci := 19) (q0 := 0) rfl rfl rfl rfl hl.1 rfl (Nat.le_of_ble_eq_true rfl) dL_law_1180 ⟨Nat.le_of_ble_eq_true rfl, Nat.le_of_ble_eq_true rfl⟩ (fun H locs hP hS => ?_)
  refine lv_iload hx hb dL_law_1183 (lv_at hl 1 rfl) ?_
  refine lv_icmp_eq (tgt := 1190) hx hb dL_law_1185 (by decide) (fun _ => ?_) (fun c => absurd (by decide) c)
  refine lv_iload hx hb dL_law_1190 (lv_at hl 1 rfl) ?_
  refine lv_if_ne (tgt := 1207) hx hb dL_law_1192 (by decide) (fun _ => ?_) (fun c => absurd c (by decide))
  refine lv_goto (tgt := 3117) hx hb dL_law_1207 (by decide) ?_
  refine W.widen (k := 1000) (n := 10000) (Nat.le_of_ble_eq_true rfl) (Nat.le_of_ble_eq_true rfl) ?_
  exact hE _ _ _ hS (lv_sub hl [2, 3, 4, 5, 6, 7] rfl)

set_option maxRecDepth 100000 in
set_option maxHeartbeats 4000000 in
theorem law_five_0 {p : Program} {e : Env} {s : State} {m : MethodId} {below : List Frame} {meth : Method} {c : Code} {l : Launch} (hfl : l.stackTraces = false) {b : Nat} {xs : Nat → Int32} {D : va_G} {cy : Nat → ClassId} {eda ca : Nat} {ia : Nat → Nat} (C0 : LawAt p s m meth c b xs D cy eda ca ia) {am : Nat → Nat} {ad : Nat → Nat} {rw_ : Nat → Nat → Option Nat} {w : va_W} (F : FrC cy ad rw_ w) {oa od : Nat} (hE : LawEnd p l e s m below meth c b (ad 0) (am 0) oa od) (hw : ¬ xs 1 < 0 ∧ ¬ 2047 < xs 1) : LGoal p l e s m below meth c b D cy am eda w (ad 0) oa od 1322 := by
  obtain ⟨hx, hb, hml, hown, hts, hX, hbl, hK, hN, hT, hJS⟩ := id C0
  have hA : ∀ q : Nat, s.heap.size ≤ q → (fun q => s.heap.size ≤ q) q := fun _ h => h
  have hbA : ¬ (fun q => s.heap.size ≤ q) b := Nat.not_le.mpr hbl
  intro H locs ls hP hD hS hl
  refine lv_aload_n hx hb dL_law_1322 rfl (lv_at hl 4 rfl) ?_
  refine lv_aload_n hx hb dL_law_1323 rfl (lv_at hl 5 rfl) ?_
  refine lv_iload hx hb dL_law_1324 (lv_at hl 0 rfl) ?_
  refine lv_iconst (v := 1) hx hb dL_law_1326 (by decide) ?_
  refine lv_iadd hx hb dL_law_1327 ?_
  refine lv_topi (fun y ey => ?_)
  obtain rfl : y = 1 := ey.trans (by decide)
  refine va_sld hx hb hX hbl hbA hS (by unfold vp_in; decide) dL_law_1328 ?_
  refine lv_topi (fun y ey => ?_)
  obtain rfl : y = xs 1 := ey.trans (congrArg xs (by decide))
  refine lv_aload_n hx hb dL_law_1329 rfl (lv_at hl 2 rfl) ?_
  refine mw_callS (wr := WM cy am eda 0) (wc := OCL cy oa :: w) (As := [.ref (ad 0), .int (xs 1), .ref oa]) (rest := []) ⟨hx, hb, hml, hown, hts⟩ (w_five_0 l D cy F oa (fun _ => 0) _ (xs 1) hw) (vx_cwSW 3 hts (goodLW gL_law_L_five) rfl rfl rfl (by decide +kernel) ⟨by decide, by decide⟩) hK hN hT (fun q hq => hS.2.1 q hq (Nat.not_le.mpr hq)) hP hD hS hA rfl hl.1 rfl (Nat.le_of_ble_eq_true rfl) dL_law_1330 ⟨Nat.le_of_ble_eq_true rfl, Nat.le_of_ble_eq_true rfl⟩ (fun H locs hB hJ hS => ?_)
  obtain ⟨hP, hD⟩ := hJ [(oa, .inl (cy 2, 1, .inr (.inl (vp_updL (fun _ => 0) 0 ((31 - ck5s (xs 1) 11).toInt64)))))] hB (my_d1 (my_in1 (ko := 0) rfl))
  have hP := hP.sub (ws' := [(oa, .inl (cy 2, 1, .inr (.inl (vp_updL (fun _ => 0) 0 ((31 - ck5s (xs 1) 11).toInt64)))))] ++ WM cy am eda 0) [14, 0, 1, 2, 3, 4, 5, 6, 7, 8, 9, 10, 11, 12, 13] rfl
  have hD := hD.sub (ws' := [(oa, .inl (cy 2, 1, .inr (.inl (vp_updL (fun _ => 0) 0 ((31 - ck5s (xs 1) 11).toInt64)))))] ++ WM cy am eda 0) [14, 0, 1, 2, 3, 4, 5, 6, 7, 8, 9, 10, 11, 12, 13] (by decide) rfl
  refine lv_istore (lv' := [(6, .int 0), (5, .int 0), (4, .ref od), (3, .ref oa), (2, .ref (am 0)), (1, .ref (ad 0)), (0, .ref b)]) hx hb dL_law_1333 hl (by decide) rfl (fun ls hl => ?_)
  refine lv_aload_n hx hb dL_law_1335 rfl (lv_at hl 4 rfl) ?_
  refine lv_aload_n hx hb dL_law_1336 rfl (lv_at hl 6 rfl) ?_
  refine lv_iload hx hb dL_law_1337 (lv_at hl 1 rfl) ?_
  refine lv_iconst (v := 1) hx hb dL_law_1339 (by decide) ?_
  refine lv_iadd hx hb dL_law_1340 ?_
  refine lv_topi (fun y ey => ?_)
  obtain rfl : y = 1 := ey.trans (by decide)
  refine va_sld hx hb hX hbl hbA hS (by unfold vp_in; decide) dL_law_1341 ?_
  refine lv_topi (fun y ey => ?_)
  obtain rfl : y = xs 1 := ey.trans (congrArg xs (by decide))
  refine mj_callV (wr := [(oa, .inl (cy 2, 1, .inr (.inl (vp_updL (fun _ => 0) 0 ((31 - ck5s (xs 1) 11).toInt64)))))]) (wc := WM cy am eda 0) (As := [.int (xs 1)]) (rest := []) ⟨hx, hb, hml, hown, hts⟩ (a_five_0 l D cy _ (xs 1) hw) (cwV 1 hts (goodL gL_law_X14_five) rfl rfl rfl (by decide +kernel) ⟨by decide, by decide⟩) hK hN hP hD hS hA hJS (ci := 19) (q0 := 0) rfl rfl rfl rfl hl.1 rfl (Nat.le_of_ble_eq_true rfl) dL_law_1342 ⟨Nat.le_of_ble_eq_true rfl, Nat.le_of_ble_eq_true rfl⟩ (fun H locs hB hJ hS => ?_)
  obtain ⟨hP1, hD1⟩ := hB
  obtain ⟨hP, hD⟩ := hJ _ hP1 hD1
  have hP : va_P D vwCl [(oa, .inl (cy 2, 1, .inr (.inl (vp_updL (fun _ => 0) 0 ((31 - ck5s (xs 1) 11).toInt64))))), (am 0, .inr (19, [.int 0, .ref (am 1), .ref (am 4), .ref (am 5), .ref (am 6), .ref (am 7), .ref (am 8), .int 0, .ref (am 9), .int 0, .int (-1), .int 100, .ref (am 10), .long 0, .int 0, .int 0, .int 0, .int 0, .long 0]))] H := hP
  have hD : va_D (fun q => s.heap.size ≤ q) [(oa, .inl (cy 2, 1, .inr (.inl (vp_updL (fun _ => 0) 0 ((31 - ck5s (xs 1) 11).toInt64))))), (am 0, .inr (19, [.int 0, .ref (am 1), .ref (am 4), .ref (am 5), .ref (am 6), .ref (am 7), .ref (am 8), .int 0, .ref (am 9), .int 0, .int (-1), .int 100, .ref (am 10), .long 0, .int 0, .int 0, .int 0, .int 0, .long 0]))] := hD
  refine lv_istore (lv' := [(7, .int (31 - ck5s (xs 1) 11)), (6, .int 0), (5, .int 0), (4, .ref od), (3, .ref oa), (2, .ref (am 0)), (1, .ref (ad 0)), (0, .ref b)]) hx hb dL_law_1345 hl (by decide) rfl (fun ls hl => ?_)
  refine lv_aload_n hx hb dL_law_1347 rfl (lv_at hl 5 rfl) ?_
  refine ro_callV (As := []) (rest := []) ⟨hx, hb, hml, hown, hts⟩ (c_thrown l D cy _ 1 (am 0) 0 [.ref (am 1), .ref (am 4), .ref (am 5), .ref (am 6), .ref (am 7), .ref (am 8), .int 0, .ref (am 9), .int 0, .int (-1), .int 100, .ref (am 10), .long 0, .int 0, .int 0, .int 0, .int 0, .long 0] rfl) (cwV 0 hts (goodL gL_law_X14_thrown) rfl rfl rfl (by decide +kernel) ⟨by decide, by decide⟩) hK hN hP hS (ci := 19) (q0 := 1) rfl rfl rfl rfl hl.1 rfl (Nat.le_of_ble_eq_true rfl) dL_law_1348 ⟨Nat.le_of_ble_eq_true rfl, Nat.le_of_ble_eq_true rfl⟩ (fun H locs hP hS => ?_)
  refine lv_iload hx hb dL_law_1351 (lv_at hl 1 rfl) ?_
  refine lv_icmp_eq (tgt := 1358) hx hb dL_law_1353 (by decide) (fun _ => ?_) (fun c => absurd (by decide) c)
  refine lv_iload hx hb dL_law_1358 (lv_at hl 1 rfl) ?_
  refine lv_if_ne (tgt := 1375) hx hb dL_law_1360 (by decide) (fun c => absurd (by decide) c) (fun _ => ?_)
  refine lv_aload_n hx hb dL_law_1363 rfl (lv_at hl 4 rfl) ?_
  refine lv_iconst (v := 0) hx hb dL_law_1364 (by decide) ?_
  refine va_lald hx hb hK hP 0 2 rfl rfl (by unfold vp_in; decide) dL_law_1365 ?_
  refine lv_topl (fun y ey => ?_)
  obtain rfl : y = (31 - ck5s (xs 1) 11).toInt64 := ey.trans (my_rd0 _ _)
  refine lv_iload hx hb dL_law_1366 (lv_at hl 0 rfl) ?_
  refine lv_i2l (v := (31 - ck5s (xs 1) 11).toInt64) hx hb dL_law_1368 rfl ?_
  refine W.lcmp hx hb dL_law_1369 ?_
  refine lv_topi (fun y ey => ?_)
  obtain rfl : y = 0 := ey.trans (my_cmp _)
  refine lv_if_eq (tgt := 1375) hx hb dL_law_1370 (by decide) (fun _ => ?_) (fun c => absurd (by decide) c)
  refine lv_goto (tgt := 3117) hx hb dL_law_1375 (by decide) ?_
  refine W.widen (k := 1000) (n := 10000) (Nat.le_of_ble_eq_true rfl) (Nat.le_of_ble_eq_true rfl) ?_
  exact hE _ _ _ hS (lv_sub hl [2, 3, 4, 5, 6, 7] rfl)

set_option maxRecDepth 100000 in
set_option maxHeartbeats 4000000 in
theorem law_five_1 {p : Program} {e : Env} {s : State} {m : MethodId} {below : List Frame} {meth : Method} {c : Code} {l : Launch} (hfl : l.stackTraces = false) {b : Nat} {xs : Nat → Int32} {D : va_G} {cy : Nat → ClassId} {eda ca : Nat} {ia : Nat → Nat} (C0 : LawAt p s m meth c b xs D cy eda ca ia) {am : Nat → Nat} {ad : Nat → Nat} {rw_ : Nat → Nat → Option Nat} {w : va_W} (F : FrC cy ad rw_ w) {oa od : Nat} (hE : LawEnd p l e s m below meth c b (ad 0) (am 0) oa od) (hw : ¬ (¬ xs 1 < 0 ∧ ¬ 2047 < xs 1)) : LGoal p l e s m below meth c b D cy am eda w (ad 0) oa od 1322 := by
  obtain ⟨hx, hb, hml, hown, hts, hX, hbl, hK, hN, hT, hJS⟩ := id C0
  have hA : ∀ q : Nat, s.heap.size ≤ q → (fun q => s.heap.size ≤ q) q := fun _ h => h
  have hbA : ¬ (fun q => s.heap.size ≤ q) b := Nat.not_le.mpr hbl
  intro H locs ls hP hD hS hl
  refine lv_aload_n hx hb dL_law_1322 rfl (lv_at hl 4 rfl) ?_
  refine lv_aload_n hx hb dL_law_1323 rfl (lv_at hl 5 rfl) ?_
  refine lv_iload hx hb dL_law_1324 (lv_at hl 0 rfl) ?_
  refine lv_iconst (v := 1) hx hb dL_law_1326 (by decide) ?_
  refine lv_iadd hx hb dL_law_1327 ?_
  refine lv_topi (fun y ey => ?_)
  obtain rfl : y = 1 := ey.trans (by decide)
  refine va_sld hx hb hX hbl hbA hS (by unfold vp_in; decide) dL_law_1328 ?_
  refine lv_topi (fun y ey => ?_)
  obtain rfl : y = xs 1 := ey.trans (congrArg xs (by decide))
  refine lv_aload_n hx hb dL_law_1329 rfl (lv_at hl 2 rfl) ?_
  refine mw_callS (wr := WM cy am eda 0) (wc := OCL cy oa :: w) (As := [.ref (ad 0), .int (xs 1), .ref oa]) (rest := []) ⟨hx, hb, hml, hown, hts⟩ (w_five_1 l D cy F hfl oa (fun _ => 0) _ (xs 1) hw) (vx_cwSW 3 hts (goodLW gL_law_L_five) rfl rfl rfl (by decide +kernel) ⟨by decide, by decide⟩) hK hN hT (fun q hq => hS.2.1 q hq (Nat.not_le.mpr hq)) hP hD hS hA rfl hl.1 rfl (Nat.le_of_ble_eq_true rfl) dL_law_1330 ⟨Nat.le_of_ble_eq_true rfl, Nat.le_of_ble_eq_true rfl⟩ (fun H locs hB hJ hS => ?_)
  obtain ⟨hP, hD⟩ := hJ [] (fun k q h => by simp at h) ⟨fun i j p q h => by simp at h, fun k q h => by simp at h⟩
  have hP : va_P D vwCl (WM cy am eda 0) H := hP
  have hD : va_D (fun q => s.heap.size ≤ q) (WM cy am eda 0) := hD
  refine lv_istore (lv' := [(6, .int 1), (5, .int 0), (4, .ref od), (3, .ref oa), (2, .ref (am 0)), (1, .ref (ad 0)), (0, .ref b)]) hx hb dL_law_1333 hl (by decide) rfl (fun ls hl => ?_)
  refine lv_aload_n hx hb dL_law_1335 rfl (lv_at hl 4 rfl) ?_
  refine lv_aload_n hx hb dL_law_1336 rfl (lv_at hl 6 rfl) ?_
  refine lv_iload hx hb dL_law_1337 (lv_at hl 1 rfl) ?_
  refine lv_iconst (v := 1) hx hb dL_law_1339 (by decide) ?_
  refine lv_iadd hx hb dL_law_1340 ?_
  refine lv_topi (fun y ey => ?_)
  obtain rfl : y = 1 := ey.trans (by decide)
  refine va_sld hx hb hX hbl hbA hS (by unfold vp_in; decide) dL_law_1341 ?_
  refine lv_topi (fun y ey => ?_)
  obtain rfl : y = xs 1 := ey.trans (congrArg xs (by decide))
  refine mj_callV (wr := []) (wc := WM cy am eda 0) (As := [.int (xs 1)]) (rest := []) ⟨hx, hb, hml, hown, hts⟩ (a_five_1 l D cy _ (xs 1) hw) (cwV 1 hts (goodL gL_law_X14_five) rfl rfl rfl (by decide +kernel) ⟨by decide, by decide⟩) hK hN hP hD hS hA hJS (ci := 19) (q0 := 0) rfl rfl rfl rfl hl.1 rfl (Nat.le_of_ble_eq_true rfl) dL_law_1342 ⟨Nat.le_of_ble_eq_true rfl, Nat.le_of_ble_eq_true rfl⟩ (fun H locs hB hJ hS => ?_)
  obtain ⟨hP1, hD1⟩ := hB
  obtain ⟨hP, hD⟩ := hJ _ hP1 hD1
  have hP : va_P D vwCl [(am 0, .inr (19, [.int 1, .ref (am 1), .ref (am 4), .ref (am 5), .ref (am 6), .ref (am 7), .ref (am 8), .int 0, .ref (am 9), .int 0, .int (-1), .int 100, .ref (am 10), .long 0, .int 0, .int 0, .int 0, .int 0, .long 0]))] H := hP
  have hD : va_D (fun q => s.heap.size ≤ q) [(am 0, .inr (19, [.int 1, .ref (am 1), .ref (am 4), .ref (am 5), .ref (am 6), .ref (am 7), .ref (am 8), .int 0, .ref (am 9), .int 0, .int (-1), .int 100, .ref (am 10), .long 0, .int 0, .int 0, .int 0, .int 0, .long 0]))] := hD
  refine lv_istore (lv' := [(7, .int 0), (6, .int 1), (5, .int 0), (4, .ref od), (3, .ref oa), (2, .ref (am 0)), (1, .ref (ad 0)), (0, .ref b)]) hx hb dL_law_1345 hl (by decide) rfl (fun ls hl => ?_)
  refine lv_aload_n hx hb dL_law_1347 rfl (lv_at hl 5 rfl) ?_
  refine ro_callV (As := []) (rest := []) ⟨hx, hb, hml, hown, hts⟩ (c_thrown l D cy _ 0 (am 0) 1 [.ref (am 1), .ref (am 4), .ref (am 5), .ref (am 6), .ref (am 7), .ref (am 8), .int 0, .ref (am 9), .int 0, .int (-1), .int 100, .ref (am 10), .long 0, .int 0, .int 0, .int 0, .int 0, .long 0] rfl) (cwV 0 hts (goodL gL_law_X14_thrown) rfl rfl rfl (by decide +kernel) ⟨by decide, by decide⟩) hK hN hP hS (ci := 19) (q0 := 0) rfl rfl rfl rfl hl.1 rfl (Nat.le_of_ble_eq_true rfl) dL_law_1348 ⟨Nat.le_of_ble_eq_true rfl, Nat.le_of_ble_eq_true rfl⟩ (fun H locs hP hS => ?_)
  refine lv_iload hx hb dL_law_1351 (lv_at hl 1 rfl) ?_
  refine lv_icmp_eq (tgt := 1358) hx hb dL_law_1353 (by decide) (fun _ => ?_) (fun c => absurd (by decide) c)
  refine lv_iload hx hb dL_law_1358 (lv_at hl 1 rfl) ?_
  refine lv_if_ne (tgt := 1375) hx hb dL_law_1360 (by decide) (fun _ => ?_) (fun c => absurd c (by decide))
  refine lv_goto (tgt := 3117) hx hb dL_law_1375 (by decide) ?_
  refine W.widen (k := 1000) (n := 10000) (Nat.le_of_ble_eq_true rfl) (Nat.le_of_ble_eq_true rfl) ?_
  exact hE _ _ _ hS (lv_sub hl [2, 3, 4, 5, 6, 7] rfl)

set_option maxRecDepth 100000 in
set_option maxHeartbeats 4000000 in
theorem law_type_0a {p : Program} {e : Env} {s : State} {m : MethodId} {below : List Frame} {meth : Method} {c : Code} {l : Launch} (hfl : l.stackTraces = false) {b : Nat} {xs : Nat → Int32} {D : va_G} {cy : Nat → ClassId} {eda ca : Nat} {ia : Nat → Nat} (C0 : LawAt p s m meth c b xs D cy eda ca ia) {am : Nat → Nat} {ad : Nat → Nat} {rw_ : Nat → Nat → Option Nat} {w : va_W} (F : FrC cy ad rw_ w) {oa od : Nat} (hE : LawEnd p l e s m below meth c b (ad 0) (am 0) oa od) (k : Nat) (hk : k ≤ 127) (e1 : xs 1 = nI k) : LGoal p l e s m below meth c b D cy am eda w (ad 0) oa od 1378 := by
  obtain ⟨hx, hb, hml, hown, hts, hX, hbl, hK, hN, hT, hJS⟩ := id C0
  have hA : ∀ q : Nat, s.heap.size ≤ q → (fun q => s.heap.size ≤ q) q := fun _ h => h
  have hbA : ¬ (fun q => s.heap.size ≤ q) b := Nat.not_le.mpr hbl
  intro H locs ls hP hD hS hl
  refine lv_aload_n hx hb dL_law_1378 rfl (lv_at hl 4 rfl) ?_
  refine lv_aload_n hx hb dL_law_1379 rfl (lv_at hl 5 rfl) ?_
  refine lv_iload hx hb dL_law_1380 (lv_at hl 0 rfl) ?_
  refine lv_iconst (v := 1) hx hb dL_law_1382 (by decide) ?_
  refine lv_iadd hx hb dL_law_1383 ?_
  refine lv_topi (fun y ey => ?_)
  obtain rfl : y = 1 := ey.trans (by decide)
  refine va_sld hx hb hX hbl hbA hS (by unfold vp_in; decide) dL_law_1384 ?_
  refine lv_topi (fun y ey => ?_)
  obtain rfl : y = nI k := ey.trans ((congrArg xs (by decide)).trans e1)
  refine lv_aload_n hx hb dL_law_1385 rfl (lv_at hl 2 rfl) ?_
  refine mw_callS (wr := WM cy am eda 0) (wc := OCL cy oa :: w) (As := [.ref (ad 0), .int (nI k), .ref oa]) (rest := []) ⟨hx, hb, hml, hown, hts⟩ (w_type_0 l D cy F oa (fun _ => 0) _ (nI k) (⟨my_lo (k := 0) (by decide) (by omega) (by omega), my_hi (k := 255) (by decide) (by omega) (by decide)⟩)) (vx_cwSW 3 hts (goodLW gL_law_L_type) rfl rfl rfl (by decide +kernel) ⟨by decide, by decide⟩) hK hN hT (fun q hq => hS.2.1 q hq (Nat.not_le.mpr hq)) hP hD hS hA rfl hl.1 rfl (Nat.le_of_ble_eq_true rfl) dL_law_1386 ⟨Nat.le_of_ble_eq_true rfl, Nat.le_of_ble_eq_true rfl⟩ (fun H locs hB hJ hS => ?_)
  obtain ⟨hP, hD⟩ := hJ [(oa, .inl (cy 2, 1, .inr (.inl (vp_updL (fun _ => 0) 0 (1)))))] hB (my_d1 (my_in1 (ko := 0) rfl))
  have hP := hP.sub (ws' := [(oa, .inl (cy 2, 1, .inr (.inl (vp_updL (fun _ => 0) 0 (1)))))] ++ WM cy am eda 0) [14, 0, 1, 2, 3, 4, 5, 6, 7, 8, 9, 10, 11, 12, 13] rfl
  have hD := hD.sub (ws' := [(oa, .inl (cy 2, 1, .inr (.inl (vp_updL (fun _ => 0) 0 (1)))))] ++ WM cy am eda 0) [14, 0, 1, 2, 3, 4, 5, 6, 7, 8, 9, 10, 11, 12, 13] (by decide) rfl
  refine lv_istore (lv' := [(6, .int 0), (5, .int 0), (4, .ref od), (3, .ref oa), (2, .ref (am 0)), (1, .ref (ad 0)), (0, .ref b)]) hx hb dL_law_1389 hl (by decide) rfl (fun ls hl => ?_)
  refine lv_aload_n hx hb dL_law_1391 rfl (lv_at hl 4 rfl) ?_
  refine lv_aload_n hx hb dL_law_1392 rfl (lv_at hl 6 rfl) ?_
  refine lv_iload hx hb dL_law_1393 (lv_at hl 1 rfl) ?_
  refine lv_iconst (v := 1) hx hb dL_law_1395 (by decide) ?_
  refine lv_iadd hx hb dL_law_1396 ?_
  refine lv_topi (fun y ey => ?_)
  obtain rfl : y = 1 := ey.trans (by decide)
  refine va_sld hx hb hX hbl hbA hS (by unfold vp_in; decide) dL_law_1397 ?_
  refine lv_topi (fun y ey => ?_)
  obtain rfl : y = nI k := ey.trans ((congrArg xs (by decide)).trans e1)
  refine mj_callV (wr := [(oa, .inl (cy 2, 1, .inr (.inl (vp_updL (fun _ => 0) 0 (1)))))]) (wc := WM cy am eda 0) (As := [.int (nI k)]) (rest := []) ⟨hx, hb, hml, hown, hts⟩ (a_type_0a l D cy _ k hk) (cwV 1 hts (goodL gL_law_X14_type) rfl rfl rfl (by decide +kernel) ⟨by decide, by decide⟩) hK hN hP hD hS hA hJS (ci := 19) (q0 := 0) rfl rfl rfl rfl hl.1 rfl (Nat.le_of_ble_eq_true rfl) dL_law_1398 ⟨Nat.le_of_ble_eq_true rfl, Nat.le_of_ble_eq_true rfl⟩ (fun H locs hB hJ hS => ?_)
  obtain ⟨hP1, hD1⟩ := hB
  obtain ⟨hP, hD⟩ := hJ _ hP1 hD1
  have hP : va_P D vwCl [(oa, .inl (cy 2, 1, .inr (.inl (vp_updL (fun _ => 0) 0 (1))))), (am 0, .inr (19, [.int 0, .ref (am 1), .ref (am 4), .ref (am 5), .ref (am 6), .ref (am 7), .ref (am 8), .int 0, .ref (am 9), .int 0, .int (-1), .int 100, .ref (am 10), .long 0, .int 0, .int 0, .int 0, .int 0, .long 0]))] H := hP
  have hD : va_D (fun q => s.heap.size ≤ q) [(oa, .inl (cy 2, 1, .inr (.inl (vp_updL (fun _ => 0) 0 (1))))), (am 0, .inr (19, [.int 0, .ref (am 1), .ref (am 4), .ref (am 5), .ref (am 6), .ref (am 7), .ref (am 8), .int 0, .ref (am 9), .int 0, .int (-1), .int 100, .ref (am 10), .long 0, .int 0, .int 0, .int 0, .int 0, .long 0]))] := hD
  refine lv_istore (lv' := [(7, .int 1), (6, .int 0), (5, .int 0), (4, .ref od), (3, .ref oa), (2, .ref (am 0)), (1, .ref (ad 0)), (0, .ref b)]) hx hb dL_law_1401 hl (by decide) rfl (fun ls hl => ?_)
  refine lv_aload_n hx hb dL_law_1403 rfl (lv_at hl 5 rfl) ?_
  refine ro_callV (As := []) (rest := []) ⟨hx, hb, hml, hown, hts⟩ (c_thrown l D cy _ 1 (am 0) 0 [.ref (am 1), .ref (am 4), .ref (am 5), .ref (am 6), .ref (am 7), .ref (am 8), .int 0, .ref (am 9), .int 0, .int (-1), .int 100, .ref (am 10), .long 0, .int 0, .int 0, .int 0, .int 0, .long 0] rfl) (cwV 0 hts (goodL gL_law_X14_thrown) rfl rfl rfl (by decide +kernel) ⟨by decide, by decide⟩) hK hN hP hS (ci := 19) (q0 := 1) rfl rfl rfl rfl hl.1 rfl (Nat.le_of_ble_eq_true rfl) dL_law_1404 ⟨Nat.le_of_ble_eq_true rfl, Nat.le_of_ble_eq_true rfl⟩ (fun H locs hP hS => ?_)
  refine lv_iload hx hb dL_law_1407 (lv_at hl 1 rfl) ?_
  refine lv_icmp_eq (tgt := 1414) hx hb dL_law_1409 (by decide) (fun _ => ?_) (fun c => absurd (by decide) c)
  refine lv_iload hx hb dL_law_1414 (lv_at hl 1 rfl) ?_
  refine lv_if_ne (tgt := 1431) hx hb dL_law_1416 (by decide) (fun c => absurd (by decide) c) (fun _ => ?_)
  refine lv_aload_n hx hb dL_law_1419 rfl (lv_at hl 4 rfl) ?_
  refine lv_iconst (v := 0) hx hb dL_law_1420 (by decide) ?_
  refine va_lald hx hb hK hP 0 2 rfl rfl (by unfold vp_in; decide) dL_law_1421 ?_
  refine lv_topl (fun y ey => ?_)
  obtain rfl : y = 1 := ey.trans (my_rd0 _ _)
  refine lv_iload hx hb dL_law_1422 (lv_at hl 0 rfl) ?_
  refine lv_i2l (v := 1) hx hb dL_law_1424 (by decide) ?_
  refine W.lcmp hx hb dL_law_1425 ?_
  refine lv_topi (fun y ey => ?_)
  obtain rfl : y = 0 := ey.trans (my_cmp _)
  refine lv_if_eq (tgt := 1431) hx hb dL_law_1426 (by decide) (fun _ => ?_) (fun c => absurd (by decide) c)
  refine lv_goto (tgt := 3117) hx hb dL_law_1431 (by decide) ?_
  refine W.widen (k := 1000) (n := 10000) (Nat.le_of_ble_eq_true rfl) (Nat.le_of_ble_eq_true rfl) ?_
  exact hE _ _ _ hS (lv_sub hl [2, 3, 4, 5, 6, 7] rfl)

set_option maxRecDepth 100000 in
set_option maxHeartbeats 4000000 in
theorem law_type_0b {p : Program} {e : Env} {s : State} {m : MethodId} {below : List Frame} {meth : Method} {c : Code} {l : Launch} (hfl : l.stackTraces = false) {b : Nat} {xs : Nat → Int32} {D : va_G} {cy : Nat → ClassId} {eda ca : Nat} {ia : Nat → Nat} (C0 : LawAt p s m meth c b xs D cy eda ca ia) {am : Nat → Nat} {ad : Nat → Nat} {rw_ : Nat → Nat → Option Nat} {w : va_W} (F : FrC cy ad rw_ w) {oa od : Nat} (hE : LawEnd p l e s m below meth c b (ad 0) (am 0) oa od) (k : Nat) (hk : 127 < k) (hk2 : k < 256) (e1 : xs 1 = nI k) : LGoal p l e s m below meth c b D cy am eda w (ad 0) oa od 1378 := by
  obtain ⟨hx, hb, hml, hown, hts, hX, hbl, hK, hN, hT, hJS⟩ := id C0
  have hA : ∀ q : Nat, s.heap.size ≤ q → (fun q => s.heap.size ≤ q) q := fun _ h => h
  have hbA : ¬ (fun q => s.heap.size ≤ q) b := Nat.not_le.mpr hbl
  intro H locs ls hP hD hS hl
  refine lv_aload_n hx hb dL_law_1378 rfl (lv_at hl 4 rfl) ?_
  refine lv_aload_n hx hb dL_law_1379 rfl (lv_at hl 5 rfl) ?_
  refine lv_iload hx hb dL_law_1380 (lv_at hl 0 rfl) ?_
  refine lv_iconst (v := 1) hx hb dL_law_1382 (by decide) ?_
  refine lv_iadd hx hb dL_law_1383 ?_
  refine lv_topi (fun y ey => ?_)
  obtain rfl : y = 1 := ey.trans (by decide)
  refine va_sld hx hb hX hbl hbA hS (by unfold vp_in; decide) dL_law_1384 ?_
  refine lv_topi (fun y ey => ?_)
  obtain rfl : y = nI k := ey.trans ((congrArg xs (by decide)).trans e1)
  refine lv_aload_n hx hb dL_law_1385 rfl (lv_at hl 2 rfl) ?_
  refine mw_callS (wr := WM cy am eda 0) (wc := OCL cy oa :: w) (As := [.ref (ad 0), .int (nI k), .ref oa]) (rest := []) ⟨hx, hb, hml, hown, hts⟩ (w_type_0 l D cy F oa (fun _ => 0) _ (nI k) (⟨my_lo (k := 0) (by decide) (by omega) (by omega), my_hi (k := 255) (by decide) (by omega) (by decide)⟩)) (vx_cwSW 3 hts (goodLW gL_law_L_type) rfl rfl rfl (by decide +kernel) ⟨by decide, by decide⟩) hK hN hT (fun q hq => hS.2.1 q hq (Nat.not_le.mpr hq)) hP hD hS hA rfl hl.1 rfl (Nat.le_of_ble_eq_true rfl) dL_law_1386 ⟨Nat.le_of_ble_eq_true rfl, Nat.le_of_ble_eq_true rfl⟩ (fun H locs hB hJ hS => ?_)
  obtain ⟨hP, hD⟩ := hJ [(oa, .inl (cy 2, 1, .inr (.inl (vp_updL (fun _ => 0) 0 (1)))))] hB (my_d1 (my_in1 (ko := 0) rfl))
  have hP := hP.sub (ws' := [(oa, .inl (cy 2, 1, .inr (.inl (vp_updL (fun _ => 0) 0 (1)))))] ++ WM cy am eda 0) [14, 0, 1, 2, 3, 4, 5, 6, 7, 8, 9, 10, 11, 12, 13] rfl
  have hD := hD.sub (ws' := [(oa, .inl (cy 2, 1, .inr (.inl (vp_updL (fun _ => 0) 0 (1)))))] ++ WM cy am eda 0) [14, 0, 1, 2, 3, 4, 5, 6, 7, 8, 9, 10, 11, 12, 13] (by decide) rfl
  refine lv_istore (lv' := [(6, .int 0), (5, .int 0), (4, .ref od), (3, .ref oa), (2, .ref (am 0)), (1, .ref (ad 0)), (0, .ref b)]) hx hb dL_law_1389 hl (by decide) rfl (fun ls hl => ?_)
  refine lv_aload_n hx hb dL_law_1391 rfl (lv_at hl 4 rfl) ?_
  refine lv_aload_n hx hb dL_law_1392 rfl (lv_at hl 6 rfl) ?_
  refine lv_iload hx hb dL_law_1393 (lv_at hl 1 rfl) ?_
  refine lv_iconst (v := 1) hx hb dL_law_1395 (by decide) ?_
  refine lv_iadd hx hb dL_law_1396 ?_
  refine lv_topi (fun y ey => ?_)
  obtain rfl : y = 1 := ey.trans (by decide)
  refine va_sld hx hb hX hbl hbA hS (by unfold vp_in; decide) dL_law_1397 ?_
  refine lv_topi (fun y ey => ?_)
  obtain rfl : y = nI k := ey.trans ((congrArg xs (by decide)).trans e1)
  refine mj_callV (wr := [(oa, .inl (cy 2, 1, .inr (.inl (vp_updL (fun _ => 0) 0 (1)))))]) (wc := WM cy am eda 0) (As := [.int (nI k)]) (rest := []) ⟨hx, hb, hml, hown, hts⟩ (a_type_0b l D cy _ k hk hk2) (cwV 1 hts (goodL gL_law_X14_type) rfl rfl rfl (by decide +kernel) ⟨by decide, by decide⟩) hK hN hP hD hS hA hJS (ci := 19) (q0 := 0) rfl rfl rfl rfl hl.1 rfl (Nat.le_of_ble_eq_true rfl) dL_law_1398 ⟨Nat.le_of_ble_eq_true rfl, Nat.le_of_ble_eq_true rfl⟩ (fun H locs hB hJ hS => ?_)
  obtain ⟨hP1, hD1⟩ := hB
  obtain ⟨hP, hD⟩ := hJ _ hP1 hD1
  have hP : va_P D vwCl [(oa, .inl (cy 2, 1, .inr (.inl (vp_updL (fun _ => 0) 0 (1))))), (am 0, .inr (19, [.int 0, .ref (am 1), .ref (am 4), .ref (am 5), .ref (am 6), .ref (am 7), .ref (am 8), .int 0, .ref (am 9), .int 0, .int (-1), .int 100, .ref (am 10), .long 0, .int 0, .int 0, .int 0, .int 0, .long 0]))] H := hP
  have hD : va_D (fun q => s.heap.size ≤ q) [(oa, .inl (cy 2, 1, .inr (.inl (vp_updL (fun _ => 0) 0 (1))))), (am 0, .inr (19, [.int 0, .ref (am 1), .ref (am 4), .ref (am 5), .ref (am 6), .ref (am 7), .ref (am 8), .int 0, .ref (am 9), .int 0, .int (-1), .int 100, .ref (am 10), .long 0, .int 0, .int 0, .int 0, .int 0, .long 0]))] := hD
  refine lv_istore (lv' := [(7, .int 1), (6, .int 0), (5, .int 0), (4, .ref od), (3, .ref oa), (2, .ref (am 0)), (1, .ref (ad 0)), (0, .ref b)]) hx hb dL_law_1401 hl (by decide) rfl (fun ls hl => ?_)
  refine lv_aload_n hx hb dL_law_1403 rfl (lv_at hl 5 rfl) ?_
  refine ro_callV (As := []) (rest := []) ⟨hx, hb, hml, hown, hts⟩ (c_thrown l D cy _ 1 (am 0) 0 [.ref (am 1), .ref (am 4), .ref (am 5), .ref (am 6), .ref (am 7), .ref (am 8), .int 0, .ref (am 9), .int 0, .int (-1), .int 100, .ref (am 10), .long 0, .int 0, .int 0, .int 0, .int 0, .long 0] rfl) (cwV 0 hts (goodL gL_law_X14_thrown) rfl rfl rfl (by decide +kernel) ⟨by decide, by decide⟩) hK hN hP hS (ci := 19) (q0 := 1) rfl rfl rfl rfl hl.1 rfl (Nat.le_of_ble_eq_true rfl) dL_law_1404 ⟨Nat.le_of_ble_eq_true rfl, Nat.le_of_ble_eq_true rfl⟩ (fun H locs hP hS => ?_)
  refine lv_iload hx hb dL_law_1407 (lv_at hl 1 rfl) ?_
  refine lv_icmp_eq (tgt := 1414) hx hb dL_law_1409 (by decide) (fun _ => ?_) (fun c => absurd (by decide) c)
  refine lv_iload hx hb dL_law_1414 (lv_at hl 1 rfl) ?_
  refine lv_if_ne (tgt := 1431) hx hb dL_law_1416 (by decide) (fun c => absurd (by decide) c) (fun _ => ?_)
  refine lv_aload_n hx hb dL_law_1419 rfl (lv_at hl 4 rfl) ?_
  refine lv_iconst (v := 0) hx hb dL_law_1420 (by decide) ?_
  refine va_lald hx hb hK hP 0 2 rfl rfl (by unfold vp_in; decide) dL_law_1421 ?_
  refine lv_topl (fun y ey => ?_)
  obtain rfl : y = 1 := ey.trans (my_rd0 _ _)
  refine lv_iload hx hb dL_law_1422 (lv_at hl 0 rfl) ?_
  refine lv_i2l (v := 1) hx hb dL_law_1424 (by decide) ?_
  refine W.lcmp hx hb dL_law_1425 ?_
  refine lv_topi (fun y ey => ?_)
  obtain rfl : y = 0 := ey.trans (my_cmp _)
  refine lv_if_eq (tgt := 1431) hx hb dL_law_1426 (by decide) (fun _ => ?_) (fun c => absurd (by decide) c)
  refine lv_goto (tgt := 3117) hx hb dL_law_1431 (by decide) ?_
  refine W.widen (k := 1000) (n := 10000) (Nat.le_of_ble_eq_true rfl) (Nat.le_of_ble_eq_true rfl) ?_
  exact hE _ _ _ hS (lv_sub hl [2, 3, 4, 5, 6, 7] rfl)

set_option maxRecDepth 100000 in
set_option maxHeartbeats 4000000 in
theorem law_type_1 {p : Program} {e : Env} {s : State} {m : MethodId} {below : List Frame} {meth : Method} {c : Code} {l : Launch} (hfl : l.stackTraces = false) {b : Nat} {xs : Nat → Int32} {D : va_G} {cy : Nat → ClassId} {eda ca : Nat} {ia : Nat → Nat} (C0 : LawAt p s m meth c b xs D cy eda ca ia) {am : Nat → Nat} {ad : Nat → Nat} {rw_ : Nat → Nat → Option Nat} {w : va_W} (F : FrC cy ad rw_ w) {oa od : Nat} (hE : LawEnd p l e s m below meth c b (ad 0) (am 0) oa od) (hw : ¬ (¬ xs 1 < 0 ∧ ¬ 255 < xs 1)) : LGoal p l e s m below meth c b D cy am eda w (ad 0) oa od 1378 := by
  obtain ⟨hx, hb, hml, hown, hts, hX, hbl, hK, hN, hT, hJS⟩ := id C0
  have hA : ∀ q : Nat, s.heap.size ≤ q → (fun q => s.heap.size ≤ q) q := fun _ h => h
  have hbA : ¬ (fun q => s.heap.size ≤ q) b := Nat.not_le.mpr hbl
  intro H locs ls hP hD hS hl
  refine lv_aload_n hx hb dL_law_1378 rfl (lv_at hl 4 rfl) ?_
  refine lv_aload_n hx hb dL_law_1379 rfl (lv_at hl 5 rfl) ?_
  refine lv_iload hx hb dL_law_1380 (lv_at hl 0 rfl) ?_
  refine lv_iconst (v := 1) hx hb dL_law_1382 (by decide) ?_
  refine lv_iadd hx hb dL_law_1383 ?_
  refine lv_topi (fun y ey => ?_)
  obtain rfl : y = 1 := ey.trans (by decide)
  refine va_sld hx hb hX hbl hbA hS (by unfold vp_in; decide) dL_law_1384 ?_
  refine lv_topi (fun y ey => ?_)
  obtain rfl : y = xs 1 := ey.trans (congrArg xs (by decide))
  refine lv_aload_n hx hb dL_law_1385 rfl (lv_at hl 2 rfl) ?_
  refine mw_callS (wr := WM cy am eda 0) (wc := OCL cy oa :: w) (As := [.ref (ad 0), .int (xs 1), .ref oa]) (rest := []) ⟨hx, hb, hml, hown, hts⟩ (w_type_1 l D cy F hfl oa (fun _ => 0) _ (xs 1) hw) (vx_cwSW 3 hts (goodLW gL_law_L_type) rfl rfl rfl (by decide +kernel) ⟨by decide, by decide⟩) hK hN hT (fun q hq => hS.2.1 q hq (Nat.not_le.mpr hq)) hP hD hS hA rfl hl.1 rfl (Nat.le_of_ble_eq_true rfl) dL_law_1386 ⟨Nat.le_of_ble_eq_true rfl, Nat.le_of_ble_eq_true rfl⟩ (fun H locs hB hJ hS => ?_)
  obtain ⟨hP, hD⟩ := hJ [] (fun k q h => by simp at h) ⟨fun i j p q h => by simp at h, fun k q h => by simp at h⟩
  have hP : va_P D vwCl (WM cy am eda 0) H := hP
  have hD : va_D (fun q => s.heap.size ≤ q) (WM cy am eda 0) := hD
  refine lv_istore (lv' := [(6, .int 1), (5, .int 0), (4, .ref od), (3, .ref oa), (2, .ref (am 0)), (1, .ref (ad 0)), (0, .ref b)]) hx hb dL_law_1389 hl (by decide) rfl (fun ls hl => ?_)
  refine lv_aload_n hx hb dL_law_1391 rfl (lv_at hl 4 rfl) ?_
  refine lv_aload_n hx hb dL_law_1392 rfl (lv_at hl 6 rfl) ?_
  refine lv_iload hx hb dL_law_1393 (lv_at hl 1 rfl) ?_
  refine lv_iconst (v := 1) hx hb dL_law_1395 (by decide) ?_
  refine lv_iadd hx hb dL_law_1396 ?_
  refine lv_topi (fun y ey => ?_)
  obtain rfl : y = 1 := ey.trans (by decide)
  refine va_sld hx hb hX hbl hbA hS (by unfold vp_in; decide) dL_law_1397 ?_
  refine lv_topi (fun y ey => ?_)
  obtain rfl : y = xs 1 := ey.trans (congrArg xs (by decide))
  refine mj_callV (wr := []) (wc := WM cy am eda 0) (As := [.int (xs 1)]) (rest := []) ⟨hx, hb, hml, hown, hts⟩ (a_type_1 l D cy _ (xs 1) hw) (cwV 1 hts (goodL gL_law_X14_type) rfl rfl rfl (by decide +kernel) ⟨by decide, by decide⟩) hK hN hP hD hS hA hJS (ci := 19) (q0 := 0) rfl rfl rfl rfl hl.1 rfl (Nat.le_of_ble_eq_true rfl) dL_law_1398 ⟨Nat.le_of_ble_eq_true rfl, Nat.le_of_ble_eq_true rfl⟩ (fun H locs hB hJ hS => ?_)
  obtain ⟨hP1, hD1⟩ := hB
  obtain ⟨hP, hD⟩ := hJ _ hP1 hD1
  have hP : va_P D vwCl [(am 0, .inr (19, [.int 1, .ref (am 1), .ref (am 4), .ref (am 5), .ref (am 6), .ref (am 7), .ref (am 8), .int 0, .ref (am 9), .int 0, .int (-1), .int 100, .ref (am 10), .long 0, .int 0, .int 0, .int 0, .int 0, .long 0]))] H := hP
  have hD : va_D (fun q => s.heap.size ≤ q) [(am 0, .inr (19, [.int 1, .ref (am 1), .ref (am 4), .ref (am 5), .ref (am 6), .ref (am 7), .ref (am 8), .int 0, .ref (am 9), .int 0, .int (-1), .int 100, .ref (am 10), .long 0, .int 0, .int 0, .int 0, .int 0, .long 0]))] := hD
  refine lv_istore (lv' := [(7, .int 0), (6, .int 1), (5, .int 0), (4, .ref od), (3, .ref oa), (2, .ref (am 0)), (1, .ref (ad 0)), (0, .ref b)]) hx hb dL_law_1401 hl (by decide) rfl (fun ls hl => ?_)
  refine lv_aload_n hx hb dL_law_1403 rfl (lv_at hl 5 rfl) ?_
  refine ro_callV (As := []) (rest := []) ⟨hx, hb, hml, hown, hts⟩ (c_thrown l D cy _ 0 (am 0) 1 [.ref (am 1), .ref (am 4), .ref (am 5), .ref (am 6), .ref (am 7), .ref (am 8), .int 0, .ref (am 9), .int 0, .int (-1), .int 100, .ref (am 10), .long 0, .int 0, .int 0, .int 0, .int 0, .long 0] rfl) (cwV 0 hts (goodL gL_law_X14_thrown) rfl rfl rfl (by decide +kernel) ⟨by decide, by decide⟩) hK hN hP hS (ci := 19) (q0 := 0) rfl rfl rfl rfl hl.1 rfl (Nat.le_of_ble_eq_true rfl) dL_law_1404 ⟨Nat.le_of_ble_eq_true rfl, Nat.le_of_ble_eq_true rfl⟩ (fun H locs hP hS => ?_)
  refine lv_iload hx hb dL_law_1407 (lv_at hl 1 rfl) ?_
  refine lv_icmp_eq (tgt := 1414) hx hb dL_law_1409 (by decide) (fun _ => ?_) (fun c => absurd (by decide) c)
  refine lv_iload hx hb dL_law_1414 (lv_at hl 1 rfl) ?_
  refine lv_if_ne (tgt := 1431) hx hb dL_law_1416 (by decide) (fun _ => ?_) (fun c => absurd c (by decide))
  refine lv_goto (tgt := 3117) hx hb dL_law_1431 (by decide) ?_
  refine W.widen (k := 1000) (n := 10000) (Nat.le_of_ble_eq_true rfl) (Nat.le_of_ble_eq_true rfl) ?_
  exact hE _ _ _ hS (lv_sub hl [2, 3, 4, 5, 6, 7] rfl)

set_option maxRecDepth 100000 in
set_option maxHeartbeats 4000000 in
theorem law_wipe {p : Program} {e : Env} {s : State} {m : MethodId} {below : List Frame} {meth : Method} {c : Code} {l : Launch} (hfl : l.stackTraces = false) {b : Nat} {xs : Nat → Int32} {D : va_G} {cy : Nat → ClassId} {eda ca : Nat} {ia : Nat → Nat} (C0 : LawAt p s m meth c b xs D cy eda ca ia) {am : Nat → Nat} {ad : Nat → Nat} {rw_ : Nat → Nat → Option Nat} {w : va_W} (F : FrC cy ad rw_ w) {oa od : Nat} (hE : LawEnd p l e s m below meth c b (ad 0) (am 0) oa od) : LGoal p l e s m below meth c b D cy am eda w (ad 0) oa od 1434 := by
  obtain ⟨hx, hb, hml, hown, hts, hX, hbl, hK, hN, hT, hJS⟩ := id C0
  have hA : ∀ q : Nat, s.heap.size ≤ q → (fun q => s.heap.size ≤ q) q := fun _ h => h
  have hbA : ¬ (fun q => s.heap.size ≤ q) b := Nat.not_le.mpr hbl
  intro H locs ls hP hD hS hl
  refine lv_aload_n hx hb dL_law_1434 rfl (lv_at hl 4 rfl) ?_
  obtain ⟨kh, hkh⟩ := frc_hub F
  have hP : va_P D vwCl ((WM cy am eda 0 ++ [OCL cy oa]) ++ w) H := hP
  have hD : va_D (fun q => s.heap.size ≤ q) ((WM cy am eda 0 ++ [OCL cy oa]) ++ w) := hD
  refine me_callV (wr := WM cy am eda 0 ++ [OCL cy oa]) (wc := w) (As := []) (rest := []) ⟨hx, hb, hml, hown, hts⟩ (m_wipe_w l D cy F _) (cwV 0 hts (goodL gL_law_X9_wipe) rfl rfl rfl (by decide +kernel) ⟨by decide, by decide⟩) hK hN hP hD hS hA (ci := 14) (q0 := kh) rfl hkh rfl rfl hl.1 rfl (Nat.le_of_ble_eq_true rfl) dL_law_1435 ⟨Nat.le_of_ble_eq_true rfl, Nat.le_of_ble_eq_true rfl⟩ (fun H locs hB hJ hS => ?_)
  obtain ⟨hP, hD⟩ := hJ [] (fun k q h => by simp at h) ⟨fun i j p q h => by simp at h, fun k q h => by simp at h⟩
  have hP := hP.sub (ws' := WM cy am eda 0) [0, 1, 2, 3, 4, 5, 6, 7, 8, 9, 10, 11, 12, 13] rfl
  have hD := hD.sub (ws' := WM cy am eda 0) [0, 1, 2, 3, 4, 5, 6, 7, 8, 9, 10, 11, 12, 13] (by decide) rfl
  refine lv_aload_n hx hb dL_law_1438 rfl (lv_at hl 3 rfl) ?_
  refine mj_callV (wr := []) (wc := WM cy am eda 0) (As := []) (rest := [.int 0]) ⟨hx, hb, hml, hown, hts⟩ (a_wipe l D cy _ ) (cwV 0 hts (goodL gL_law_X14_wipe) rfl rfl rfl (by decide +kernel) ⟨by decide, by decide⟩) hK hN hP hD hS hA hJS (ci := 19) (q0 := 0) rfl rfl rfl rfl hl.1 rfl (Nat.le_of_ble_eq_true rfl) dL_law_1439 ⟨Nat.le_of_ble_eq_true rfl, Nat.le_of_ble_eq_true rfl⟩ (fun H locs hB hJ hS => ?_)
  obtain ⟨hP1, hD1⟩ := hB
  obtain ⟨hP, hD⟩ := hJ _ hP1 hD1
  have hP : va_P D vwCl [(am 0, .inr (19, [.int 0, .ref (am 1), .ref (am 4), .ref (am 5), .ref (am 6), .ref (am 7), .ref (am 8), .int 0, .ref (am 9), .int 0, .int (-1), .int 100, .ref (am 10), .long 0, .int 0, .int 0, .int 0, .int 0, .long 0]))] H := hP
  have hD : va_D (fun q => s.heap.size ≤ q) [(am 0, .inr (19, [.int 0, .ref (am 1), .ref (am 4), .ref (am 5), .ref (am 6), .ref (am 7), .ref (am 8), .int 0, .ref (am 9), .int 0, .int (-1), .int 100, .ref (am 10), .long 0, .int 0, .int 0, .int 0, .int 0, .long 0]))] := hD
  refine lv_icmp_eq (tgt := 3117) hx hb dL_law_1442 (by decide) (fun _ => ?_) (fun c => absurd (by decide) c)
  refine W.widen (k := 1000) (n := 10000) (Nat.le_of_ble_eq_true rfl) (Nat.le_of_ble_eq_true rfl) ?_
  exact hE _ _ _ hS (lv_sub hl [0, 1, 2, 3, 4, 5] rfl)

set_option maxRecDepth 100000 in
set_option maxHeartbeats 4000000 in
theorem law_frame {p : Program} {e : Env} {s : State} {m : MethodId} {below : List Frame} {meth : Method} {c : Code} {l : Launch} (hfl : l.stackTraces = false) {b : Nat} {xs : Nat → Int32} {D : va_G} {cy : Nat → ClassId} {eda ca : Nat} {ia : Nat → Nat} (C0 : LawAt p s m meth c b xs D cy eda ca ia) {am : Nat → Nat} {ad : Nat → Nat} {rw_ : Nat → Nat → Option Nat} {w : va_W} (F : FrC cy ad rw_ w) {oa od : Nat} (hE : LawEnd p l e s m below meth c b (ad 0) (am 0) oa od) : LGoal p l e s m below meth c b D cy am eda w (ad 0) oa od 2264 := by
  obtain ⟨hx, hb, hml, hown, hts, hX, hbl, hK, hN, hT, hJS⟩ := id C0
  have hA : ∀ q : Nat, s.heap.size ≤ q → (fun q => s.heap.size ≤ q) q := fun _ h => h
  have hbA : ¬ (fun q => s.heap.size ≤ q) b := Nat.not_le.mpr hbl
  intro H locs ls hP hD hS hl
  refine lv_aload_n hx hb dL_law_2264 rfl (lv_at hl 4 rfl) ?_
  obtain ⟨kh, hkh⟩ := frc_hub F
  have hP : va_P D vwCl ((WM cy am eda 0 ++ [OCL cy oa]) ++ w) H := hP
  have hD : va_D (fun q => s.heap.size ≤ q) ((WM cy am eda 0 ++ [OCL cy oa]) ++ w) := hD
  refine me_callV (wr := WM cy am eda 0 ++ [OCL cy oa]) (wc := w) (As := []) (rest := []) ⟨hx, hb, hml, hown, hts⟩ (m_frame_ok l D cy F _) (cwV 0 hts (goodL gL_law_X9_frame) rfl rfl rfl (by decide +kernel) ⟨by decide, by decide⟩) hK hN hP hD hS hA (ci := 14) (q0 := kh) rfl hkh rfl rfl hl.1 rfl (Nat.le_of_ble_eq_true rfl) dL_law_2265 ⟨Nat.le_of_ble_eq_true rfl, Nat.le_of_ble_eq_true rfl⟩ (fun H locs hB hJ hS => ?_)
  obtain ⟨hP, hD⟩ := hJ [] (fun k q h => by simp at h) ⟨fun i j p q h => by simp at h, fun k q h => by simp at h⟩
  have hP := hP.sub (ws' := WM cy am eda 0) [0, 1, 2, 3, 4, 5, 6, 7, 8, 9, 10, 11, 12, 13] rfl
  have hD := hD.sub (ws' := WM cy am eda 0) [0, 1, 2, 3, 4, 5, 6, 7, 8, 9, 10, 11, 12, 13] (by decide) rfl
  refine lv_aload_n hx hb dL_law_2268 rfl (lv_at hl 3 rfl) ?_
  refine mj_callV (wr := []) (wc := WM cy am eda 0) (As := []) (rest := [.int 0]) ⟨hx, hb, hml, hown, hts⟩ (a_frame l D cy _ ) (cwV 0 hts (goodL gl_frame) rfl rfl rfl (by decide +kernel) ⟨by decide, by decide⟩) hK hN hP hD hS hA hJS (ci := 19) (q0 := 0) rfl rfl rfl rfl hl.1 rfl (Nat.le_of_ble_eq_true rfl) dL_law_2269 ⟨Nat.le_of_ble_eq_true rfl, Nat.le_of_ble_eq_true rfl⟩ (fun H locs hB hJ hS => ?_)
  obtain ⟨hP1, hD1⟩ := hB
  obtain ⟨hP, hD⟩ := hJ _ hP1 hD1
  have hP : va_P D vwCl [(am 0, .inr (19, [.int 0, .ref (am 1), .ref (am 4), .ref (am 5), .ref (am 6), .ref (am 7), .ref (am 8), .int 0, .ref (am 9), .int 1, .int (-1), .int 100, .ref (am 10), .long 0, .int 0, .int 0, .int 0, .int 0, .long 0]))] H := hP
  have hD : va_D (fun q => s.heap.size ≤ q) [(am 0, .inr (19, [.int 0, .ref (am 1), .ref (am 4), .ref (am 5), .ref (am 6), .ref (am 7), .ref (am 8), .int 0, .ref (am 9), .int 1, .int (-1), .int 100, .ref (am 10), .long 0, .int 0, .int 0, .int 0, .int 0, .long 0]))] := hD
  refine lv_icmp_eq (tgt := 3117) hx hb dL_law_2272 (by decide) (fun _ => ?_) (fun c => absurd (by decide) c)
  refine W.widen (k := 1000) (n := 10000) (Nat.le_of_ble_eq_true rfl) (Nat.le_of_ble_eq_true rfl) ?_
  exact hE _ _ _ hS (lv_sub hl [0, 1, 2, 3, 4, 5] rfl)

set_option maxRecDepth 100000 in
set_option maxHeartbeats 4000000 in
theorem law_sixteen {p : Program} {e : Env} {s : State} {m : MethodId} {below : List Frame} {meth : Method} {c : Code} {l : Launch} (hfl : l.stackTraces = false) {b : Nat} {xs : Nat → Int32} {D : va_G} {cy : Nat → ClassId} {eda ca : Nat} {ia : Nat → Nat} (C0 : LawAt p s m meth c b xs D cy eda ca ia) {am : Nat → Nat} {ad : Nat → Nat} {rw_ : Nat → Nat → Option Nat} {w : va_W} (F : FrC cy ad rw_ w) {oa od : Nat} (hE : LawEnd p l e s m below meth c b (ad 0) (am 0) oa od) : LGoal p l e s m below meth c b D cy am eda w (ad 0) oa od 1447 := by
  obtain ⟨hx, hb, hml, hown, hts, hX, hbl, hK, hN, hT, hJS⟩ := id C0
  have hA : ∀ q : Nat, s.heap.size ≤ q → (fun q => s.heap.size ≤ q) q := fun _ h => h
  have hbA : ¬ (fun q => s.heap.size ≤ q) b := Nat.not_le.mpr hbl
  intro H locs ls hP hD hS hl
  have FT : FrC cy ad rw_ (WM cy am eda 0 ++ (OCL cy oa :: w)) := frc_mono F (fun q hq => List.mem_append_right _ (List.mem_cons_of_mem _ hq))
  refine lv_aload_n hx hb dL_law_1447 rfl (lv_at hl 4 rfl) ?_
  obtain ⟨kh, hkh⟩ := frc_hub FT
  refine ro_callV (As := []) (rest := []) ⟨hx, hb, hml, hown, hts⟩ (c_sixteen_ok l D cy FT) (cwV 0 hts (goodL gL_law_X9_sixteen) rfl rfl rfl (by decide +kernel) ⟨by decide, by decide⟩) hK hN hP hS (ci := 14) (q0 := kh) rfl hkh rfl rfl hl.1 rfl (Nat.le_of_ble_eq_true rfl) dL_law_1448 ⟨Nat.le_of_ble_eq_true rfl, Nat.le_of_ble_eq_true rfl⟩ (fun H locs hP hS => ?_)
  have hP := va_P.left hP
  have hD := va_D.left hD
  refine lv_aload_n hx hb dL_law_1451 rfl (lv_at hl 3 rfl) ?_
  refine mj_callV (wr := []) (wc := WM cy am eda 0) (As := []) (rest := [.int 0]) ⟨hx, hb, hml, hown, hts⟩ (a_sixteen l D cy _ ) (cwV 0 hts (goodL gL_law_X14_sixteen) rfl rfl rfl (by decide +kernel) ⟨by decide, by decide⟩) hK hN hP hD hS hA hJS (ci := 19) (q0 := 0) rfl rfl rfl rfl hl.1 rfl (Nat.le_of_ble_eq_true rfl) dL_law_1452 ⟨Nat.le_of_ble_eq_true rfl, Nat.le_of_ble_eq_true rfl⟩ (fun H locs hB hJ hS => ?_)
  obtain ⟨hP1, hD1⟩ := hB
  obtain ⟨hP, hD⟩ := hJ _ hP1 hD1
  have hP : va_P D vwCl [(am 0, .inr (19, [.int 0, .ref (am 1), .ref (am 4), .ref (am 5), .ref (am 6), .ref (am 7), .ref (am 8), .int 0, .ref (am 9), .int 0, .int (-1), .int 100, .ref (am 10), .long 0, .int 0, .int 0, .int 0, .int 0, .long 0]))] H := hP
  have hD : va_D (fun q => s.heap.size ≤ q) [(am 0, .inr (19, [.int 0, .ref (am 1), .ref (am 4), .ref (am 5), .ref (am 6), .ref (am 7), .ref (am 8), .int 0, .ref (am 9), .int 0, .int (-1), .int 100, .ref (am 10), .long 0, .int 0, .int 0, .int 0, .int 0, .long 0]))] := hD
  refine lv_icmp_eq (tgt := 3117) hx hb dL_law_1455 (by decide) (fun _ => ?_) (fun c => absurd (by decide) c)
  refine W.widen (k := 1000) (n := 10000) (Nat.le_of_ble_eq_true rfl) (Nat.le_of_ble_eq_true rfl) ?_
  exact hE _ _ _ hS (lv_sub hl [0, 1, 2, 3, 4, 5] rfl)

set_option maxRecDepth 100000 in
set_option maxHeartbeats 4000000 in
theorem law_stuffed {p : Program} {e : Env} {s : State} {m : MethodId} {below : List Frame} {meth : Method} {c : Code} {l : Launch} (hfl : l.stackTraces = false) {b : Nat} {xs : Nat → Int32} {D : va_G} {cy : Nat → ClassId} {eda ca : Nat} {ia : Nat → Nat} (C0 : LawAt p s m meth c b xs D cy eda ca ia) {am : Nat → Nat} {ad : Nat → Nat} {rw_ : Nat → Nat → Option Nat} {w : va_W} (F : FrC cy ad rw_ w) {oa od : Nat} (hE : LawEnd p l e s m below meth c b (ad 0) (am 0) oa od) : LGoal p l e s m below meth c b D cy am eda w (ad 0) oa od 1460 := by
  obtain ⟨hx, hb, hml, hown, hts, hX, hbl, hK, hN, hT, hJS⟩ := id C0
  have hA : ∀ q : Nat, s.heap.size ≤ q → (fun q => s.heap.size ≤ q) q := fun _ h => h
  have hbA : ¬ (fun q => s.heap.size ≤ q) b := Nat.not_le.mpr hbl
  intro H locs ls hP hD hS hl
  have FT : FrC cy ad rw_ (WM cy am eda 0 ++ (OCL cy oa :: w)) := frc_mono F (fun q hq => List.mem_append_right _ (List.mem_cons_of_mem _ hq))
  refine lv_aload_n hx hb dL_law_1460 rfl (lv_at hl 4 rfl) ?_
  obtain ⟨kh, hkh⟩ := frc_hub FT
  refine ro_callV (As := []) (rest := []) ⟨hx, hb, hml, hown, hts⟩ (c_stuffed_ok l D cy FT) (cwV 0 hts (goodL gL_law_X9_stuffed) rfl rfl rfl (by decide +kernel) ⟨by decide, by decide⟩) hK hN hP hS (ci := 14) (q0 := kh) rfl hkh rfl rfl hl.1 rfl (Nat.le_of_ble_eq_true rfl) dL_law_1461 ⟨Nat.le_of_ble_eq_true rfl, Nat.le_of_ble_eq_true rfl⟩ (fun H locs hP hS => ?_)
  have hP := va_P.left hP
  have hD := va_D.left hD
  refine lv_aload_n hx hb dL_law_1464 rfl (lv_at hl 3 rfl) ?_
  refine mj_callV (wr := []) (wc := WM cy am eda 0) (As := []) (rest := [.int 0]) ⟨hx, hb, hml, hown, hts⟩ (a_stuffed l D cy _ ) (cwV 0 hts (goodL gL_law_X14_stuffed) rfl rfl rfl (by decide +kernel) ⟨by decide, by decide⟩) hK hN hP hD hS hA hJS (ci := 19) (q0 := 0) rfl rfl rfl rfl hl.1 rfl (Nat.le_of_ble_eq_true rfl) dL_law_1465 ⟨Nat.le_of_ble_eq_true rfl, Nat.le_of_ble_eq_true rfl⟩ (fun H locs hB hJ hS => ?_)
  obtain ⟨hP1, hD1⟩ := hB
  obtain ⟨hP, hD⟩ := hJ _ hP1 hD1
  have hP : va_P D vwCl [(am 0, .inr (19, [.int 0, .ref (am 1), .ref (am 4), .ref (am 5), .ref (am 6), .ref (am 7), .ref (am 8), .int 0, .ref (am 9), .int 0, .int (-1), .int 100, .ref (am 10), .long 0, .int 0, .int 0, .int 0, .int 0, .long 0]))] H := hP
  have hD : va_D (fun q => s.heap.size ≤ q) [(am 0, .inr (19, [.int 0, .ref (am 1), .ref (am 4), .ref (am 5), .ref (am 6), .ref (am 7), .ref (am 8), .int 0, .ref (am 9), .int 0, .int (-1), .int 100, .ref (am 10), .long 0, .int 0, .int 0, .int 0, .int 0, .long 0]))] := hD
  refine lv_icmp_eq (tgt := 3117) hx hb dL_law_1468 (by decide) (fun _ => ?_) (fun c => absurd (by decide) c)
  refine W.widen (k := 1000) (n := 10000) (Nat.le_of_ble_eq_true rfl) (Nat.le_of_ble_eq_true rfl) ?_
  exact hE _ _ _ hS (lv_sub hl [0, 1, 2, 3, 4, 5] rfl)

set_option maxRecDepth 100000 in
set_option maxHeartbeats 4000000 in
theorem law_frames {p : Program} {e : Env} {s : State} {m : MethodId} {below : List Frame} {meth : Method} {c : Code} {l : Launch} (hfl : l.stackTraces = false) {b : Nat} {xs : Nat → Int32} {D : va_G} {cy : Nat → ClassId} {eda ca : Nat} {ia : Nat → Nat} (C0 : LawAt p s m meth c b xs D cy eda ca ia) {am : Nat → Nat} {ad : Nat → Nat} {rw_ : Nat → Nat → Option Nat} {w : va_W} (F : FrC cy ad rw_ w) {oa od : Nat} (hE : LawEnd p l e s m below meth c b (ad 0) (am 0) oa od) : LGoal p l e s m below meth c b D cy am eda w (ad 0) oa od 2277 := by
  obtain ⟨hx, hb, hml, hown, hts, hX, hbl, hK, hN, hT, hJS⟩ := id C0
  have hA : ∀ q : Nat, s.heap.size ≤ q → (fun q => s.heap.size ≤ q) q := fun _ h => h
  have hbA : ¬ (fun q => s.heap.size ≤ q) b := Nat.not_le.mpr hbl
  intro H locs ls hP hD hS hl
  have FT : FrC cy ad rw_ (WM cy am eda 0 ++ (OCL cy oa :: w)) := frc_mono F (fun q hq => List.mem_append_right _ (List.mem_cons_of_mem _ hq))
  refine lv_aload_n hx hb dL_law_2277 rfl (lv_at hl 4 rfl) ?_
  obtain ⟨kh, hkh⟩ := frc_hub FT
  refine ro_callV (As := []) (rest := []) ⟨hx, hb, hml, hown, hts⟩ (c_frames_ok l D cy FT) (cwV 0 hts (goodL gL_law_X9_frames) rfl rfl rfl (by decide +kernel) ⟨by decide, by decide⟩) hK hN hP hS (ci := 14) (q0 := kh) rfl hkh rfl rfl hl.1 rfl (Nat.le_of_ble_eq_true rfl) dL_law_2278 ⟨Nat.le_of_ble_eq_true rfl, Nat.le_of_ble_eq_true rfl⟩ (fun H locs hP hS => ?_)
  have hP := va_P.left hP
  have hD := va_D.left hD
  refine lv_aload_n hx hb dL_law_2281 rfl (lv_at hl 3 rfl) ?_
  refine mj_callV (wr := []) (wc := WM cy am eda 0) (As := []) (rest := [.int 0]) ⟨hx, hb, hml, hown, hts⟩ (a_frames l D cy _ ) (cwV 0 hts (goodL gL_law_X14_frames) rfl rfl rfl (by decide +kernel) ⟨by decide, by decide⟩) hK hN hP hD hS hA hJS (ci := 19) (q0 := 0) rfl rfl rfl rfl hl.1 rfl (Nat.le_of_ble_eq_true rfl) dL_law_2282 ⟨Nat.le_of_ble_eq_true rfl, Nat.le_of_ble_eq_true rfl⟩ (fun H locs hB hJ hS => ?_)
  obtain ⟨hP1, hD1⟩ := hB
  obtain ⟨hP, hD⟩ := hJ _ hP1 hD1
  have hP : va_P D vwCl [(am 0, .inr (19, [.int 0, .ref (am 1), .ref (am 4), .ref (am 5), .ref (am 6), .ref (am 7), .ref (am 8), .int 0, .ref (am 9), .int 0, .int (-1), .int 100, .ref (am 10), .long 0, .int 0, .int 0, .int 0, .int 0, .long 0]))] H := hP
  have hD : va_D (fun q => s.heap.size ≤ q) [(am 0, .inr (19, [.int 0, .ref (am 1), .ref (am 4), .ref (am 5), .ref (am 6), .ref (am 7), .ref (am 8), .int 0, .ref (am 9), .int 0, .int (-1), .int 100, .ref (am 10), .long 0, .int 0, .int 0, .int 0, .int 0, .long 0]))] := hD
  refine lv_icmp_eq (tgt := 3117) hx hb dL_law_2285 (by decide) (fun _ => ?_) (fun c => absurd (by decide) c)
  refine W.widen (k := 1000) (n := 10000) (Nat.le_of_ble_eq_true rfl) (Nat.le_of_ble_eq_true rfl) ?_
  exact hE _ _ _ hS (lv_sub hl [0, 1, 2, 3, 4, 5] rfl)

set_option maxRecDepth 100000 in
set_option maxHeartbeats 4000000 in
theorem law_events {p : Program} {e : Env} {s : State} {m : MethodId} {below : List Frame} {meth : Method} {c : Code} {l : Launch} (hfl : l.stackTraces = false) {b : Nat} {xs : Nat → Int32} {D : va_G} {cy : Nat → ClassId} {eda ca : Nat} {ia : Nat → Nat} (C0 : LawAt p s m meth c b xs D cy eda ca ia) {am : Nat → Nat} {ad : Nat → Nat} {rw_ : Nat → Nat → Option Nat} {w : va_W} (F : FrC cy ad rw_ w) {oa od : Nat} (hE : LawEnd p l e s m below meth c b (ad 0) (am 0) oa od) : LGoal p l e s m below meth c b D cy am eda w (ad 0) oa od 2346 := by
  obtain ⟨hx, hb, hml, hown, hts, hX, hbl, hK, hN, hT, hJS⟩ := id C0
  have hA : ∀ q : Nat, s.heap.size ≤ q → (fun q => s.heap.size ≤ q) q := fun _ h => h
  have hbA : ¬ (fun q => s.heap.size ≤ q) b := Nat.not_le.mpr hbl
  intro H locs ls hP hD hS hl
  have FT : FrC cy ad rw_ (WM cy am eda 0 ++ (OCL cy oa :: w)) := frc_mono F (fun q hq => List.mem_append_right _ (List.mem_cons_of_mem _ hq))
  refine lv_aload_n hx hb dL_law_2346 rfl (lv_at hl 4 rfl) ?_
  obtain ⟨kh, hkh⟩ := frc_hub FT
  refine ro_callV (As := []) (rest := []) ⟨hx, hb, hml, hown, hts⟩ (c_events_ok l D cy FT) (cwV 0 hts (goodL gL_law_X9_events) rfl rfl rfl (by decide +kernel) ⟨by decide, by decide⟩) hK hN hP hS (ci := 14) (q0 := kh) rfl hkh rfl rfl hl.1 rfl (Nat.le_of_ble_eq_true rfl) dL_law_2347 ⟨Nat.le_of_ble_eq_true rfl, Nat.le_of_ble_eq_true rfl⟩ (fun H locs hP hS => ?_)
  have hP := va_P.left hP
  have hD := va_D.left hD
  refine lv_aload_n hx hb dL_law_2350 rfl (lv_at hl 3 rfl) ?_
  refine mj_callV (wr := []) (wc := WM cy am eda 0) (As := []) (rest := [.int 0]) ⟨hx, hb, hml, hown, hts⟩ (a_events l D cy _ ) (cwV 0 hts (goodL gL_law_X14_events) rfl rfl rfl (by decide +kernel) ⟨by decide, by decide⟩) hK hN hP hD hS hA hJS (ci := 19) (q0 := 0) rfl rfl rfl rfl hl.1 rfl (Nat.le_of_ble_eq_true rfl) dL_law_2351 ⟨Nat.le_of_ble_eq_true rfl, Nat.le_of_ble_eq_true rfl⟩ (fun H locs hB hJ hS => ?_)
  obtain ⟨hP1, hD1⟩ := hB
  obtain ⟨hP, hD⟩ := hJ _ hP1 hD1
  have hP : va_P D vwCl [(am 0, .inr (19, [.int 0, .ref (am 1), .ref (am 4), .ref (am 5), .ref (am 6), .ref (am 7), .ref (am 8), .int 0, .ref (am 9), .int 0, .int (-1), .int 100, .ref (am 10), .long 0, .int 0, .int 0, .int 0, .int 0, .long 0]))] H := hP
  have hD : va_D (fun q => s.heap.size ≤ q) [(am 0, .inr (19, [.int 0, .ref (am 1), .ref (am 4), .ref (am 5), .ref (am 6), .ref (am 7), .ref (am 8), .int 0, .ref (am 9), .int 0, .int (-1), .int 100, .ref (am 10), .long 0, .int 0, .int 0, .int 0, .int 0, .long 0]))] := hD
  refine lv_icmp_eq (tgt := 3117) hx hb dL_law_2354 (by decide) (fun _ => ?_) (fun c => absurd (by decide) c)
  refine W.widen (k := 1000) (n := 10000) (Nat.le_of_ble_eq_true rfl) (Nat.le_of_ble_eq_true rfl) ?_
  exact hE _ _ _ hS (lv_sub hl [0, 1, 2, 3, 4, 5] rfl)

set_option maxRecDepth 100000 in
set_option maxHeartbeats 4000000 in
theorem law_missed {p : Program} {e : Env} {s : State} {m : MethodId} {below : List Frame} {meth : Method} {c : Code} {l : Launch} (hfl : l.stackTraces = false) {b : Nat} {xs : Nat → Int32} {D : va_G} {cy : Nat → ClassId} {eda ca : Nat} {ia : Nat → Nat} (C0 : LawAt p s m meth c b xs D cy eda ca ia) {am : Nat → Nat} {ad : Nat → Nat} {rw_ : Nat → Nat → Option Nat} {w : va_W} (F : FrC cy ad rw_ w) {oa od : Nat} (hE : LawEnd p l e s m below meth c b (ad 0) (am 0) oa od) : LGoal p l e s m below meth c b D cy am eda w (ad 0) oa od 2491 := by
  obtain ⟨hx, hb, hml, hown, hts, hX, hbl, hK, hN, hT, hJS⟩ := id C0
  have hA : ∀ q : Nat, s.heap.size ≤ q → (fun q => s.heap.size ≤ q) q := fun _ h => h
  have hbA : ¬ (fun q => s.heap.size ≤ q) b := Nat.not_le.mpr hbl
  intro H locs ls hP hD hS hl
  have FT : FrC cy ad rw_ (WM cy am eda 0 ++ (OCL cy oa :: w)) := frc_mono F (fun q hq => List.mem_append_right _ (List.mem_cons_of_mem _ hq))
  refine lv_aload_n hx hb dL_law_2491 rfl (lv_at hl 4 rfl) ?_
  obtain ⟨kh, hkh⟩ := frc_hub FT
  refine ro_callV (As := []) (rest := []) ⟨hx, hb, hml, hown, hts⟩ (c_missed_ok l D cy FT) (cwV 0 hts (goodL gL_law_X9_missed) rfl rfl rfl (by decide +kernel) ⟨by decide, by decide⟩) hK hN hP hS (ci := 14) (q0 := kh) rfl hkh rfl rfl hl.1 rfl (Nat.le_of_ble_eq_true rfl) dL_law_2492 ⟨Nat.le_of_ble_eq_true rfl, Nat.le_of_ble_eq_true rfl⟩ (fun H locs hP hS => ?_)
  have hP := va_P.left hP
  have hD := va_D.left hD
  refine lv_aload_n hx hb dL_law_2495 rfl (lv_at hl 3 rfl) ?_
  refine mj_callV (wr := []) (wc := WM cy am eda 0) (As := []) (rest := [.int 0]) ⟨hx, hb, hml, hown, hts⟩ (a_missed l D cy _ ) (cwV 0 hts (goodL gL_law_X14_missed) rfl rfl rfl (by decide +kernel) ⟨by decide, by decide⟩) hK hN hP hD hS hA hJS (ci := 19) (q0 := 0) rfl rfl rfl rfl hl.1 rfl (Nat.le_of_ble_eq_true rfl) dL_law_2496 ⟨Nat.le_of_ble_eq_true rfl, Nat.le_of_ble_eq_true rfl⟩ (fun H locs hB hJ hS => ?_)
  obtain ⟨hP1, hD1⟩ := hB
  obtain ⟨hP, hD⟩ := hJ _ hP1 hD1
  have hP : va_P D vwCl [(am 0, .inr (19, [.int 0, .ref (am 1), .ref (am 4), .ref (am 5), .ref (am 6), .ref (am 7), .ref (am 8), .int 0, .ref (am 9), .int 0, .int (-1), .int 100, .ref (am 10), .long 0, .int 0, .int 0, .int 0, .int 0, .long 0]))] H := hP
  have hD : va_D (fun q => s.heap.size ≤ q) [(am 0, .inr (19, [.int 0, .ref (am 1), .ref (am 4), .ref (am 5), .ref (am 6), .ref (am 7), .ref (am 8), .int 0, .ref (am 9), .int 0, .int (-1), .int 100, .ref (am 10), .long 0, .int 0, .int 0, .int 0, .int 0, .long 0]))] := hD
  refine lv_icmp_eq (tgt := 3117) hx hb dL_law_2499 (by decide) (fun _ => ?_) (fun c => absurd (by decide) c)
  refine W.widen (k := 1000) (n := 10000) (Nat.le_of_ble_eq_true rfl) (Nat.le_of_ble_eq_true rfl) ?_
  exact hE _ _ _ hS (lv_sub hl [0, 1, 2, 3, 4, 5] rfl)

set_option maxRecDepth 100000 in
set_option maxHeartbeats 4000000 in
theorem law_got {p : Program} {e : Env} {s : State} {m : MethodId} {below : List Frame} {meth : Method} {c : Code} {l : Launch} (hfl : l.stackTraces = false) {b : Nat} {xs : Nat → Int32} {D : va_G} {cy : Nat → ClassId} {eda ca : Nat} {ia : Nat → Nat} (C0 : LawAt p s m meth c b xs D cy eda ca ia) {am : Nat → Nat} {ad : Nat → Nat} {rw_ : Nat → Nat → Option Nat} {w : va_W} (F : FrC cy ad rw_ w) {oa od : Nat} (hE : LawEnd p l e s m below meth c b (ad 0) (am 0) oa od) : LGoal p l e s m below meth c b D cy am eda w (ad 0) oa od 2720 := by
  obtain ⟨hx, hb, hml, hown, hts, hX, hbl, hK, hN, hT, hJS⟩ := id C0
  have hA : ∀ q : Nat, s.heap.size ≤ q → (fun q => s.heap.size ≤ q) q := fun _ h => h
  have hbA : ¬ (fun q => s.heap.size ≤ q) b := Nat.not_le.mpr hbl
  intro H locs ls hP hD hS hl
  have FT : FrC cy ad rw_ (WM cy am eda 0 ++ (OCL cy oa :: w)) := frc_mono F (fun q hq => List.mem_append_right _ (List.mem_cons_of_mem _ hq))
  refine lv_aload_n hx hb dL_law_2720 rfl (lv_at hl 4 rfl) ?_
  obtain ⟨kh, hkh⟩ := frc_hub FT
  refine ro_callV (As := []) (rest := []) ⟨hx, hb, hml, hown, hts⟩ (c_got_ok l D cy FT) (cwV 0 hts (goodL gL_law_X9_got) rfl rfl rfl (by decide +kernel) ⟨by decide, by decide⟩) hK hN hP hS (ci := 14) (q0 := kh) rfl hkh rfl rfl hl.1 rfl (Nat.le_of_ble_eq_true rfl) dL_law_2721 ⟨Nat.le_of_ble_eq_true rfl, Nat.le_of_ble_eq_true rfl⟩ (fun H locs hP hS => ?_)
  have hP := va_P.left hP
  have hD := va_D.left hD
  refine lv_aload_n hx hb dL_law_2724 rfl (lv_at hl 3 rfl) ?_
  refine mj_callV (wr := []) (wc := WM cy am eda 0) (As := []) (rest := [.int 0]) ⟨hx, hb, hml, hown, hts⟩ (a_got l D cy _ ) (cwV 0 hts (goodL gL_law_X14_got) rfl rfl rfl (by decide +kernel) ⟨by decide, by decide⟩) hK hN hP hD hS hA hJS (ci := 19) (q0 := 0) rfl rfl rfl rfl hl.1 rfl (Nat.le_of_ble_eq_true rfl) dL_law_2725 ⟨Nat.le_of_ble_eq_true rfl, Nat.le_of_ble_eq_true rfl⟩ (fun H locs hB hJ hS => ?_)
  obtain ⟨hP1, hD1⟩ := hB
  obtain ⟨hP, hD⟩ := hJ _ hP1 hD1
  have hP : va_P D vwCl [(am 0, .inr (19, [.int 0, .ref (am 1), .ref (am 4), .ref (am 5), .ref (am 6), .ref (am 7), .ref (am 8), .int 0, .ref (am 9), .int 0, .int (-1), .int 100, .ref (am 10), .long 0, .int 0, .int 0, .int 0, .int 0, .long 0]))] H := hP
  have hD : va_D (fun q => s.heap.size ≤ q) [(am 0, .inr (19, [.int 0, .ref (am 1), .ref (am 4), .ref (am 5), .ref (am 6), .ref (am 7), .ref (am 8), .int 0, .ref (am 9), .int 0, .int (-1), .int 100, .ref (am 10), .long 0, .int 0, .int 0, .int 0, .int 0, .long 0]))] := hD
  refine lv_icmp_eq (tgt := 3117) hx hb dL_law_2728 (by decide) (fun _ => ?_) (fun c => absurd (by decide) c)
  refine W.widen (k := 1000) (n := 10000) (Nat.le_of_ble_eq_true rfl) (Nat.le_of_ble_eq_true rfl) ?_
  exact hE _ _ _ hS (lv_sub hl [0, 1, 2, 3, 4, 5] rfl)

set_option maxRecDepth 100000 in
set_option maxHeartbeats 4000000 in
theorem law_checksum {p : Program} {e : Env} {s : State} {m : MethodId} {below : List Frame} {meth : Method} {c : Code} {l : Launch} (hfl : l.stackTraces = false) {b : Nat} {xs : Nat → Int32} {D : va_G} {cy : Nat → ClassId} {eda ca : Nat} {ia : Nat → Nat} (C0 : LawAt p s m meth c b xs D cy eda ca ia) {am : Nat → Nat} {ad : Nat → Nat} {rw_ : Nat → Nat → Option Nat} {w : va_W} (F : FrC cy ad rw_ w) {oa od : Nat} (hE : LawEnd p l e s m below meth c b (ad 0) (am 0) oa od) : LGoal p l e s m below meth c b D cy am eda w (ad 0) oa od 3090 := by
  obtain ⟨hx, hb, hml, hown, hts, hX, hbl, hK, hN, hT, hJS⟩ := id C0
  have hA : ∀ q : Nat, s.heap.size ≤ q → (fun q => s.heap.size ≤ q) q := fun _ h => h
  have hbA : ¬ (fun q => s.heap.size ≤ q) b := Nat.not_le.mpr hbl
  intro H locs ls hP hD hS hl
  have FT : FrC cy ad rw_ (WM cy am eda 0 ++ (OCL cy oa :: w)) := frc_mono F (fun q hq => List.mem_append_right _ (List.mem_cons_of_mem _ hq))
  refine lv_aload_n hx hb dL_law_3090 rfl (lv_at hl 4 rfl) ?_
  obtain ⟨kh, hkh⟩ := frc_hub FT
  refine ro_callV (As := []) (rest := []) ⟨hx, hb, hml, hown, hts⟩ (c_checksum_ok l D cy FT) (cwV 0 hts (goodL gL_law_X9_checksum) rfl rfl rfl (by decide +kernel) ⟨by decide, by decide⟩) hK hN hP hS (ci := 14) (q0 := kh) rfl hkh rfl rfl hl.1 rfl (Nat.le_of_ble_eq_true rfl) dL_law_3091 ⟨Nat.le_of_ble_eq_true rfl, Nat.le_of_ble_eq_true rfl⟩ (fun H locs hP hS => ?_)
  have hP := va_P.left hP
  have hD := va_D.left hD
  refine lv_aload_n hx hb dL_law_3094 rfl (lv_at hl 3 rfl) ?_
  refine mj_callV (wr := []) (wc := WM cy am eda 0) (As := []) (rest := [.long 316]) ⟨hx, hb, hml, hown, hts⟩ (a_checksum l D cy _ ) (cwV 0 hts (goodL gL_law_X14_checksum) rfl rfl rfl (by decide +kernel) ⟨by decide, by decide⟩) hK hN hP hD hS hA hJS (ci := 19) (q0 := 0) rfl rfl rfl rfl hl.1 rfl (Nat.le_of_ble_eq_true rfl) dL_law_3095 ⟨Nat.le_of_ble_eq_true rfl, Nat.le_of_ble_eq_true rfl⟩ (fun H locs hB hJ hS => ?_)
  obtain ⟨hP1, hD1⟩ := hB
  obtain ⟨hP, hD⟩ := hJ _ hP1 hD1
  have hP : va_P D vwCl [(am 0, .inr (19, [.int 0, .ref (am 1), .ref (am 4), .ref (am 5), .ref (am 6), .ref (am 7), .ref (am 8), .int 0, .ref (am 9), .int 0, .int (-1), .int 100, .ref (am 10), .long 0, .int 0, .int 0, .int 0, .int 0, .long 0]))] H := hP
  have hD : va_D (fun q => s.heap.size ≤ q) [(am 0, .inr (19, [.int 0, .ref (am 1), .ref (am 4), .ref (am 5), .ref (am 6), .ref (am 7), .ref (am 8), .int 0, .ref (am 9), .int 0, .int (-1), .int 100, .ref (am 10), .long 0, .int 0, .int 0, .int 0, .int 0, .long 0]))] := hD
  refine W.lcmp hx hb dL_law_3098 ?_
  refine lv_topi (fun y ey => ?_)
  obtain rfl : y = 0 := ey.trans (my_cmp _)
  refine lv_if_eq (tgt := 3117) hx hb dL_law_3099 (by decide) (fun _ => ?_) (fun c => absurd (by decide) c)
  refine W.widen (k := 1000) (n := 10000) (Nat.le_of_ble_eq_true rfl) (Nat.le_of_ble_eq_true rfl) ?_
  exact hE _ _ _ hS (lv_sub hl [0, 1, 2, 3, 4, 5] rfl)

set_option maxRecDepth 100000 in
set_option maxHeartbeats 4000000 in
theorem law_isSound {p : Program} {e : Env} {s : State} {m : MethodId} {below : List Frame} {meth : Method} {c : Code} {l : Launch} (hfl : l.stackTraces = false) {b : Nat} {xs : Nat → Int32} {D : va_G} {cy : Nat → ClassId} {eda ca : Nat} {ia : Nat → Nat} (C0 : LawAt p s m meth c b xs D cy eda ca ia) {am : Nat → Nat} {ad : Nat → Nat} {rw_ : Nat → Nat → Option Nat} {w : va_W} (F : FrC cy ad rw_ w) {oa od : Nat} (hE : LawEnd p l e s m below meth c b (ad 0) (am 0) oa od) : LGoal p l e s m below meth c b D cy am eda w (ad 0) oa od 3104 := by
  obtain ⟨hx, hb, hml, hown, hts, hX, hbl, hK, hN, hT, hJS⟩ := id C0
  have hA : ∀ q : Nat, s.heap.size ≤ q → (fun q => s.heap.size ≤ q) q := fun _ h => h
  have hbA : ¬ (fun q => s.heap.size ≤ q) b := Nat.not_le.mpr hbl
  intro H locs ls hP hD hS hl
  have FT : FrC cy ad rw_ (WM cy am eda 0 ++ (OCL cy oa :: w)) := frc_mono F (fun q hq => List.mem_append_right _ (List.mem_cons_of_mem _ hq))
  refine lv_aload_n hx hb dL_law_3104 rfl (lv_at hl 4 rfl) ?_
  obtain ⟨kh, hkh⟩ := frc_hub FT
  refine ro_callV (As := []) (rest := []) ⟨hx, hb, hml, hown, hts⟩ (c_isSound_ok l D cy FT) (cwV 0 hts (goodL gL_law_X9_isSound) rfl rfl rfl (by decide +kernel) ⟨by decide, by decide⟩) hK hN hP hS (ci := 14) (q0 := kh) rfl hkh rfl rfl hl.1 rfl (Nat.le_of_ble_eq_true rfl) dL_law_3105 ⟨Nat.le_of_ble_eq_true rfl, Nat.le_of_ble_eq_true rfl⟩ (fun H locs hP hS => ?_)
  have hP := va_P.left hP
  have hD := va_D.left hD
  refine lv_aload_n hx hb dL_law_3108 rfl (lv_at hl 3 rfl) ?_
  refine mj_callV (wr := []) (wc := WM cy am eda 0) (As := []) (rest := [.int 1]) ⟨hx, hb, hml, hown, hts⟩ (a_isSound l D cy _ ) (cwV 0 hts (goodL gL_law_X14_isSound) rfl rfl rfl (by decide +kernel) ⟨by decide, by decide⟩) hK hN hP hD hS hA hJS (ci := 19) (q0 := 0) rfl rfl rfl rfl hl.1 rfl (Nat.le_of_ble_eq_true rfl) dL_law_3109 ⟨Nat.le_of_ble_eq_true rfl, Nat.le_of_ble_eq_true rfl⟩ (fun H locs hB hJ hS => ?_)
  obtain ⟨hP1, hD1⟩ := hB
  obtain ⟨hP, hD⟩ := hJ _ hP1 hD1
  have hP : va_P D vwCl [(am 0, .inr (19, [.int 0, .ref (am 1), .ref (am 4), .ref (am 5), .ref (am 6), .ref (am 7), .ref (am 8), .int 0, .ref (am 9), .int 0, .int (-1), .int 100, .ref (am 10), .long 0, .int 0, .int 0, .int 0, .int 0, .long 0]))] H := hP
  have hD : va_D (fun q => s.heap.size ≤ q) [(am 0, .inr (19, [.int 0, .ref (am 1), .ref (am 4), .ref (am 5), .ref (am 6), .ref (am 7), .ref (am 8), .int 0, .ref (am 9), .int 0, .int (-1), .int 100, .ref (am 10), .long 0, .int 0, .int 0, .int 0, .int 0, .long 0]))] := hD
  refine lv_icmp_eq (tgt := 3117) hx hb dL_law_3112 (by decide) (fun _ => ?_) (fun c => absurd (by decide) c)
  refine W.widen (k := 1000) (n := 10000) (Nat.le_of_ble_eq_true rfl) (Nat.le_of_ble_eq_true rfl) ?_
  exact hE _ _ _ hS (lv_sub hl [0, 1, 2, 3, 4, 5] rfl)

set_option maxRecDepth 100000 in
set_option maxHeartbeats 4000000 in
theorem law_open_1 {p : Program} {e : Env} {s : State} {m : MethodId} {below : List Frame} {meth : Method} {c : Code} {l : Launch} (hfl : l.stackTraces = false) {b : Nat} {xs : Nat → Int32} {D : va_G} {cy : Nat → ClassId} {eda ca : Nat} {ia : Nat → Nat} (C0 : LawAt p s m meth c b xs D cy eda ca ia) {am : Nat → Nat} {ad : Nat → Nat} {rw_ : Nat → Nat → Option Nat} {w : va_W} (F : FrC cy ad rw_ w) {oa od : Nat} (hE : LawEnd p l e s m below meth c b (ad 0) (am 0) oa od) : LGoal p l e s m below meth c b D cy am eda w (ad 0) oa od 1473 := by
  obtain ⟨hx, hb, hml, hown, hts, hX, hbl, hK, hN, hT, hJS⟩ := id C0
  have hA : ∀ q : Nat, s.heap.size ≤ q → (fun q => s.heap.size ≤ q) q := fun _ h => h
  have hbA : ¬ (fun q => s.heap.size ≤ q) b := Nat.not_le.mpr hbl
  intro H locs ls hP hD hS hl
  refine lv_aload_n hx hb dL_law_1473 rfl (lv_at hl 4 rfl) ?_
  refine lv_aload_n hx hb dL_law_1474 rfl (lv_at hl 5 rfl) ?_
  refine lv_iload hx hb dL_law_1475 (lv_at hl 0 rfl) ?_
  refine lv_iconst (v := 1) hx hb dL_law_1477 (by decide) ?_
  refine lv_iadd hx hb dL_law_1478 ?_
  refine lv_topi (fun y ey => ?_)
  obtain rfl : y = 1 := ey.trans (by decide)
  refine va_sld hx hb hX hbl hbA hS (by unfold vp_in; decide) dL_law_1479 ?_
  refine lv_topi (fun y ey => ?_)
  obtain rfl : y = xs 1 := ey.trans (congrArg xs (by decide))
  refine lv_aload_n hx hb dL_law_1480 rfl (lv_at hl 5 rfl) ?_
  refine lv_iload hx hb dL_law_1481 (lv_at hl 0 rfl) ?_
  refine lv_iconst (v := 2) hx hb dL_law_1483 (by decide) ?_
  refine lv_iadd hx hb dL_law_1484 ?_
  refine lv_topi (fun y ey => ?_)
  obtain rfl : y = 2 := ey.trans (by decide)
  refine va_sld hx hb hX hbl hbA hS (by unfold vp_in; decide) dL_law_1485 ?_
  refine lv_topi (fun y ey => ?_)
  obtain rfl : y = xs 2 := ey.trans (congrArg xs (by decide))
  refine lv_aload_n hx hb dL_law_1486 rfl (lv_at hl 5 rfl) ?_
  refine lv_iload hx hb dL_law_1487 (lv_at hl 0 rfl) ?_
  refine lv_iconst (v := 3) hx hb dL_law_1489 (by decide) ?_
  refine lv_iadd hx hb dL_law_1490 ?_
  refine lv_topi (fun y ey => ?_)
  obtain rfl : y = 3 := ey.trans (by decide)
  refine va_sld hx hb hX hbl hbA hS (by unfold vp_in; decide) dL_law_1491 ?_
  refine lv_topi (fun y ey => ?_)
  obtain rfl : y = xs 3 := ey.trans (congrArg xs (by decide))
  refine lv_i2c (v := c16 (xs 3)) hx hb dL_law_1492 rfl ?_
  refine lv_aload_n hx hb dL_law_1493 rfl (lv_at hl 5 rfl) ?_
  refine lv_iload hx hb dL_law_1494 (lv_at hl 0 rfl) ?_
  refine lv_iconst (v := 4) hx hb dL_law_1496 (by decide) ?_
  refine lv_iadd hx hb dL_law_1497 ?_
  refine lv_topi (fun y ey => ?_)
  obtain rfl : y = 4 := ey.trans (by decide)
  refine va_sld hx hb hX hbl hbA hS (by unfold vp_in; decide) dL_law_1498 ?_
  refine lv_topi (fun y ey => ?_)
  obtain rfl : y = xs 4 := ey.trans (congrArg xs (by decide))
  refine lv_aload_n hx hb dL_law_1499 rfl (lv_at hl 2 rfl) ?_
  refine mw_callS (wr := WM cy am eda 0) (wc := OCL cy oa :: w) (As := [.ref (ad 0), .int (xs 1), .int (xs 2), .int (c16 (xs 3)), .int (xs 4), .ref oa]) (rest := []) ⟨hx, hb, hml, hown, hts⟩ (w_open_1 l D cy F hfl oa (fun _ => 0) _ (xs 1) (xs 2) (c16 (xs 3)) (xs 4)) (vx_cwSW 6 hts (goodLW gL_law_L_open) rfl rfl rfl (by decide +kernel) ⟨by decide, by decide⟩) hK hN hT (fun q hq => hS.2.1 q hq (Nat.not_le.mpr hq)) hP hD hS hA rfl hl.1 rfl (Nat.le_of_ble_eq_true rfl) dL_law_1500 ⟨Nat.le_of_ble_eq_true rfl, Nat.le_of_ble_eq_true rfl⟩ (fun H locs hB hJ hS => ?_)
  obtain ⟨hP, hD⟩ := hJ [] (fun k q h => by simp at h) ⟨fun i j p q h => by simp at h, fun k q h => by simp at h⟩
  have hP : va_P D vwCl (WM cy am eda 0) H := hP
  have hD : va_D (fun q => s.heap.size ≤ q) (WM cy am eda 0) := hD
  refine lv_istore (lv' := [(6, .int 1), (5, .int 0), (4, .ref od), (3, .ref oa), (2, .ref (am 0)), (1, .ref (ad 0)), (0, .ref b)]) hx hb dL_law_1503 hl (by decide) rfl (fun ls hl => ?_)
  refine lv_aload_n hx hb dL_law_1505 rfl (lv_at hl 4 rfl) ?_
  refine lv_aload_n hx hb dL_law_1506 rfl (lv_at hl 6 rfl) ?_
  refine lv_iload hx hb dL_law_1507 (lv_at hl 1 rfl) ?_
  refine lv_iconst (v := 1) hx hb dL_law_1509 (by decide) ?_
  refine lv_iadd hx hb dL_law_1510 ?_
  refine lv_topi (fun y ey => ?_)
  obtain rfl : y = 1 := ey.trans (by decide)
  refine va_sld hx hb hX hbl hbA hS (by unfold vp_in; decide) dL_law_1511 ?_
  refine lv_topi (fun y ey => ?_)
  obtain rfl : y = xs 1 := ey.trans (congrArg xs (by decide))
  refine lv_aload_n hx hb dL_law_1512 rfl (lv_at hl 6 rfl) ?_
  refine lv_iload hx hb dL_law_1513 (lv_at hl 1 rfl) ?_
  refine lv_iconst (v := 2) hx hb dL_law_1515 (by decide) ?_
  refine lv_iadd hx hb dL_law_1516 ?_
  refine lv_topi (fun y ey => ?_)
  obtain rfl : y = 2 := ey.trans (by decide)
  refine va_sld hx hb hX hbl hbA hS (by unfold vp_in; decide) dL_law_1517 ?_
  refine lv_topi (fun y ey => ?_)
  obtain rfl : y = xs 2 := ey.trans (congrArg xs (by decide))
  refine lv_aload_n hx hb dL_law_1518 rfl (lv_at hl 6 rfl) ?_
  refine lv_iload hx hb dL_law_1519 (lv_at hl 1 rfl) ?_
  refine lv_iconst (v := 3) hx hb dL_law_1521 (by decide) ?_
  refine lv_iadd hx hb dL_law_1522 ?_
  refine lv_topi (fun y ey => ?_)
  obtain rfl : y = 3 := ey.trans (by decide)
  refine va_sld hx hb hX hbl hbA hS (by unfold vp_in; decide) dL_law_1523 ?_
  refine lv_topi (fun y ey => ?_)
  obtain rfl : y = xs 3 := ey.trans (congrArg xs (by decide))
  refine lv_i2c (v := c16 (xs 3)) hx hb dL_law_1524 rfl ?_
  refine lv_aload_n hx hb dL_law_1525 rfl (lv_at hl 6 rfl) ?_
  refine lv_iload hx hb dL_law_1526 (lv_at hl 1 rfl) ?_
  refine lv_iconst (v := 4) hx hb dL_law_1528 (by decide) ?_
  refine lv_iadd hx hb dL_law_1529 ?_
  refine lv_topi (fun y ey => ?_)
  obtain rfl : y = 4 := ey.trans (by decide)
  refine va_sld hx hb hX hbl hbA hS (by unfold vp_in; decide) dL_law_1530 ?_
  refine lv_topi (fun y ey => ?_)
  obtain rfl : y = xs 4 := ey.trans (congrArg xs (by decide))
  refine mj_callV (wr := []) (wc := WM cy am eda 0) (As := [.int (xs 1), .int (xs 2), .int (c16 (xs 3)), .int (xs 4)]) (rest := []) ⟨hx, hb, hml, hown, hts⟩ (a_open_1 l D cy _ (xs 1) (xs 2) (c16 (xs 3)) (xs 4)) (cwV 4 hts (goodL gL_law_X14_open) rfl rfl rfl (by decide +kernel) ⟨by decide, by decide⟩) hK hN hP hD hS hA hJS (ci := 19) (q0 := 0) rfl rfl rfl rfl hl.1 rfl (Nat.le_of_ble_eq_true rfl) dL_law_1531 ⟨Nat.le_of_ble_eq_true rfl, Nat.le_of_ble_eq_true rfl⟩ (fun H locs hB hJ hS => ?_)
  obtain ⟨hP1, hD1⟩ := hB
  obtain ⟨hP, hD⟩ := hJ _ hP1 hD1
  have hP : va_P D vwCl [(am 0, .inr (19, [.int 1, .ref (am 1), .ref (am 4), .ref (am 5), .ref (am 6), .ref (am 7), .ref (am 8), .int 0, .ref (am 9), .int 0, .int (-1), .int 100, .ref (am 10), .long 0, .int 0, .int 0, .int 0, .int 0, .long 0]))] H := hP
  have hD : va_D (fun q => s.heap.size ≤ q) [(am 0, .inr (19, [.int 1, .ref (am 1), .ref (am 4), .ref (am 5), .ref (am 6), .ref (am 7), .ref (am 8), .int 0, .ref (am 9), .int 0, .int (-1), .int 100, .ref (am 10), .long 0, .int 0, .int 0, .int 0, .int 0, .long 0]))] := hD
  refine lv_istore (lv' := [(7, .int 0), (6, .int 1), (5, .int 0), (4, .ref od), (3, .ref oa), (2, .ref (am 0)), (1, .ref (ad 0)), (0, .ref b)]) hx hb dL_law_1534 hl (by decide) rfl (fun ls hl => ?_)
  refine lv_aload_n hx hb dL_law_1536 rfl (lv_at hl 5 rfl) ?_
  refine ro_callV (As := []) (rest := []) ⟨hx, hb, hml, hown, hts⟩ (c_thrown l D cy _ 0 (am 0) 1 [.ref (am 1), .ref (am 4), .ref (am 5), .ref (am 6), .ref (am 7), .ref (am 8), .int 0, .ref (am 9), .int 0, .int (-1), .int 100, .ref (am 10), .long 0, .int 0, .int 0, .int 0, .int 0, .long 0] rfl) (cwV 0 hts (goodL gL_law_X14_thrown) rfl rfl rfl (by decide +kernel) ⟨by decide, by decide⟩) hK hN hP hS (ci := 19) (q0 := 0) rfl rfl rfl rfl hl.1 rfl (Nat.le_of_ble_eq_true rfl) dL_law_1537 ⟨Nat.le_of_ble_eq_true rfl, Nat.le_of_ble_eq_true rfl⟩ (fun H locs hP hS => ?_)
  refine lv_iload hx hb dL_law_1540 (lv_at hl 1 rfl) ?_
  refine lv_icmp_eq (tgt := 1547) hx hb dL_law_1542 (by decide) (fun _ => ?_) (fun c => absurd (by decide) c)
  refine lv_iload hx hb dL_law_1547 (lv_at hl 1 rfl) ?_
  refine lv_if_ne (tgt := 1564) hx hb dL_law_1549 (by decide) (fun _ => ?_) (fun c => absurd c (by decide))
  refine lv_goto (tgt := 3117) hx hb dL_law_1564 (by decide) ?_
  refine W.widen (k := 1000) (n := 10000) (Nat.le_of_ble_eq_true rfl) (Nat.le_of_ble_eq_true rfl) ?_
  exact hE _ _ _ hS (lv_sub hl [2, 3, 4, 5, 6, 7] rfl)

set_option maxRecDepth 100000 in
set_option maxHeartbeats 4000000 in
theorem law_close_1 {p : Program} {e : Env} {s : State} {m : MethodId} {below : List Frame} {meth : Method} {c : Code} {l : Launch} (hfl : l.stackTraces = false) {b : Nat} {xs : Nat → Int32} {D : va_G} {cy : Nat → ClassId} {eda ca : Nat} {ia : Nat → Nat} (C0 : LawAt p s m meth c b xs D cy eda ca ia) {am : Nat → Nat} {ad : Nat → Nat} {rw_ : Nat → Nat → Option Nat} {w : va_W} (F : FrC cy ad rw_ w) {oa od : Nat} (hE : LawEnd p l e s m below meth c b (ad 0) (am 0) oa od) : LGoal p l e s m below meth c b D cy am eda w (ad 0) oa od 1567 := by
  obtain ⟨hx, hb, hml, hown, hts, hX, hbl, hK, hN, hT, hJS⟩ := id C0
  have hA : ∀ q : Nat, s.heap.size ≤ q → (fun q => s.heap.size ≤ q) q := fun _ h => h
  have hbA : ¬ (fun q => s.heap.size ≤ q) b := Nat.not_le.mpr hbl
  intro H locs ls hP hD hS hl
  refine lv_aload_n hx hb dL_law_1567 rfl (lv_at hl 4 rfl) ?_
  refine lv_aload_n hx hb dL_law_1568 rfl (lv_at hl 5 rfl) ?_
  refine lv_iload hx hb dL_law_1569 (lv_at hl 0 rfl) ?_
  refine lv_iconst (v := 1) hx hb dL_law_1571 (by decide) ?_
  refine lv_iadd hx hb dL_law_1572 ?_
  refine lv_topi (fun y ey => ?_)
  obtain rfl : y = 1 := ey.trans (by decide)
  refine va_sld hx hb hX hbl hbA hS (by unfold vp_in; decide) dL_law_1573 ?_
  refine lv_topi (fun y ey => ?_)
  obtain rfl : y = xs 1 := ey.trans (congrArg xs (by decide))
  refine lv_aload_n hx hb dL_law_1574 rfl (lv_at hl 2 rfl) ?_
  refine mw_callS (wr := WM cy am eda 0) (wc := OCL cy oa :: w) (As := [.ref (ad 0), .int (xs 1), .ref oa]) (rest := []) ⟨hx, hb, hml, hown, hts⟩ (w_close_1 l D cy F hfl oa (fun _ => 0) _ (xs 1)) (vx_cwSW 3 hts (goodLW gL_law_L_close) rfl rfl rfl (by decide +kernel) ⟨by decide, by decide⟩) hK hN hT (fun q hq => hS.2.1 q hq (Nat.not_le.mpr hq)) hP hD hS hA rfl hl.1 rfl (Nat.le_of_ble_eq_true rfl) dL_law_1575 ⟨Nat.le_of_ble_eq_true rfl, Nat.le_of_ble_eq_true rfl⟩ (fun H locs hB hJ hS => ?_)
  obtain ⟨hP, hD⟩ := hJ [] (fun k q h => by simp at h) ⟨fun i j p q h => by simp at h, fun k q h => by simp at h⟩
  have hP : va_P D vwCl (WM cy am eda 0) H := hP
  have hD : va_D (fun q => s.heap.size ≤ q) (WM cy am eda 0) := hD
  refine lv_istore (lv' := [(6, .int 1), (5, .int 0), (4, .ref od), (3, .ref oa), (2, .ref (am 0)), (1, .ref (ad 0)), (0, .ref b)]) hx hb dL_law_1578 hl (by decide) rfl (fun ls hl => ?_)
  refine lv_aload_n hx hb dL_law_1580 rfl (lv_at hl 4 rfl) ?_
  refine lv_aload_n hx hb dL_law_1581 rfl (lv_at hl 6 rfl) ?_
  refine lv_iload hx hb dL_law_1582 (lv_at hl 1 rfl) ?_
  refine lv_iconst (v := 1) hx hb dL_law_1584 (by decide) ?_
  refine lv_iadd hx hb dL_law_1585 ?_
  refine lv_topi (fun y ey => ?_)
  obtain rfl : y = 1 := ey.trans (by decide)
  refine va_sld hx hb hX hbl hbA hS (by unfold vp_in; decide) dL_law_1586 ?_
  refine lv_topi (fun y ey => ?_)
  obtain rfl : y = xs 1 := ey.trans (congrArg xs (by decide))
  refine mj_callV (wr := []) (wc := WM cy am eda 0) (As := [.int (xs 1)]) (rest := []) ⟨hx, hb, hml, hown, hts⟩ (a_close_1 l D cy _ (xs 1)) (cwV 1 hts (goodL gL_law_X14_close) rfl rfl rfl (by decide +kernel) ⟨by decide, by decide⟩) hK hN hP hD hS hA hJS (ci := 19) (q0 := 0) rfl rfl rfl rfl hl.1 rfl (Nat.le_of_ble_eq_true rfl) dL_law_1587 ⟨Nat.le_of_ble_eq_true rfl, Nat.le_of_ble_eq_true rfl⟩ (fun H locs hB hJ hS => ?_)
  obtain ⟨hP1, hD1⟩ := hB
  obtain ⟨hP, hD⟩ := hJ _ hP1 hD1
  have hP : va_P D vwCl [(am 0, .inr (19, [.int 1, .ref (am 1), .ref (am 4), .ref (am 5), .ref (am 6), .ref (am 7), .ref (am 8), .int 0, .ref (am 9), .int 0, .int (-1), .int 100, .ref (am 10), .long 0, .int 0, .int 0, .int 0, .int 0, .long 0]))] H := hP
  have hD : va_D (fun q => s.heap.size ≤ q) [(am 0, .inr (19, [.int 1, .ref (am 1), .ref (am 4), .ref (am 5), .ref (am 6), .ref (am 7), .ref (am 8), .int 0, .ref (am 9), .int 0, .int (-1), .int 100, .ref (am 10), .long 0, .int 0, .int 0, .int 0, .int 0, .long 0]))] := hD
  refine lv_istore (lv' := [(7, .int 0), (6, .int 1), (5, .int 0), (4, .ref od), (3, .ref oa), (2, .ref (am 0)), (1, .ref (ad 0)), (0, .ref b)]) hx hb dL_law_1590 hl (by decide) rfl (fun ls hl => ?_)
  refine lv_aload_n hx hb dL_law_1592 rfl (lv_at hl 5 rfl) ?_
  refine ro_callV (As := []) (rest := []) ⟨hx, hb, hml, hown, hts⟩ (c_thrown l D cy _ 0 (am 0) 1 [.ref (am 1), .ref (am 4), .ref (am 5), .ref (am 6), .ref (am 7), .ref (am 8), .int 0, .ref (am 9), .int 0, .int (-1), .int 100, .ref (am 10), .long 0, .int 0, .int 0, .int 0, .int 0, .long 0] rfl) (cwV 0 hts (goodL gL_law_X14_thrown) rfl rfl rfl (by decide +kernel) ⟨by decide, by decide⟩) hK hN hP hS (ci := 19) (q0 := 0) rfl rfl rfl rfl hl.1 rfl (Nat.le_of_ble_eq_true rfl) dL_law_1593 ⟨Nat.le_of_ble_eq_true rfl, Nat.le_of_ble_eq_true rfl⟩ (fun H locs hP hS => ?_)
  refine lv_iload hx hb dL_law_1596 (lv_at hl 1 rfl) ?_
  refine lv_icmp_eq (tgt := 1603) hx hb dL_law_1598 (by decide) (fun _ => ?_) (fun c => absurd (by decide) c)
  refine lv_iload hx hb dL_law_1603 (lv_at hl 1 rfl) ?_
  refine lv_if_ne (tgt := 1620) hx hb dL_law_1605 (by decide) (fun _ => ?_) (fun c => absurd c (by decide))
  refine lv_goto (tgt := 3117) hx hb dL_law_1620 (by decide) ?_
  refine W.widen (k := 1000) (n := 10000) (Nat.le_of_ble_eq_true rfl) (Nat.le_of_ble_eq_true rfl) ?_
  exact hE _ _ _ hS (lv_sub hl [2, 3, 4, 5, 6, 7] rfl)

set_option maxRecDepth 100000 in
set_option maxHeartbeats 4000000 in
theorem law_phaseOf_1 {p : Program} {e : Env} {s : State} {m : MethodId} {below : List Frame} {meth : Method} {c : Code} {l : Launch} (hfl : l.stackTraces = false) {b : Nat} {xs : Nat → Int32} {D : va_G} {cy : Nat → ClassId} {eda ca : Nat} {ia : Nat → Nat} (C0 : LawAt p s m meth c b xs D cy eda ca ia) {am : Nat → Nat} {ad : Nat → Nat} {rw_ : Nat → Nat → Option Nat} {w : va_W} (F : FrC cy ad rw_ w) {oa od : Nat} (hE : LawEnd p l e s m below meth c b (ad 0) (am 0) oa od) : LGoal p l e s m below meth c b D cy am eda w (ad 0) oa od 1623 := by
  obtain ⟨hx, hb, hml, hown, hts, hX, hbl, hK, hN, hT, hJS⟩ := id C0
  have hA : ∀ q : Nat, s.heap.size ≤ q → (fun q => s.heap.size ≤ q) q := fun _ h => h
  have hbA : ¬ (fun q => s.heap.size ≤ q) b := Nat.not_le.mpr hbl
  intro H locs ls hP hD hS hl
  refine lv_aload_n hx hb dL_law_1623 rfl (lv_at hl 4 rfl) ?_
  refine lv_aload_n hx hb dL_law_1624 rfl (lv_at hl 5 rfl) ?_
  refine lv_iload hx hb dL_law_1625 (lv_at hl 0 rfl) ?_
  refine lv_iconst (v := 1) hx hb dL_law_1627 (by decide) ?_
  refine lv_iadd hx hb dL_law_1628 ?_
  refine lv_topi (fun y ey => ?_)
  obtain rfl : y = 1 := ey.trans (by decide)
  refine va_sld hx hb hX hbl hbA hS (by unfold vp_in; decide) dL_law_1629 ?_
  refine lv_topi (fun y ey => ?_)
  obtain rfl : y = xs 1 := ey.trans (congrArg xs (by decide))
  refine lv_aload_n hx hb dL_law_1630 rfl (lv_at hl 2 rfl) ?_
  refine mw_callS (wr := WM cy am eda 0) (wc := OCL cy oa :: w) (As := [.ref (ad 0), .int (xs 1), .ref oa]) (rest := []) ⟨hx, hb, hml, hown, hts⟩ (w_phaseOf_1 l D cy F hfl oa (fun _ => 0) _ (xs 1)) (vx_cwSW 3 hts (goodLW gL_law_L_phaseOf) rfl rfl rfl (by decide +kernel) ⟨by decide, by decide⟩) hK hN hT (fun q hq => hS.2.1 q hq (Nat.not_le.mpr hq)) hP hD hS hA rfl hl.1 rfl (Nat.le_of_ble_eq_true rfl) dL_law_1631 ⟨Nat.le_of_ble_eq_true rfl, Nat.le_of_ble_eq_true rfl⟩ (fun H locs hB hJ hS => ?_)
  obtain ⟨hP, hD⟩ := hJ [] (fun k q h => by simp at h) ⟨fun i j p q h => by simp at h, fun k q h => by simp at h⟩
  have hP : va_P D vwCl (WM cy am eda 0) H := hP
  have hD : va_D (fun q => s.heap.size ≤ q) (WM cy am eda 0) := hD
  refine lv_istore (lv' := [(6, .int 1), (5, .int 0), (4, .ref od), (3, .ref oa), (2, .ref (am 0)), (1, .ref (ad 0)), (0, .ref b)]) hx hb dL_law_1634 hl (by decide) rfl (fun ls hl => ?_)
  refine lv_aload_n hx hb dL_law_1636 rfl (lv_at hl 4 rfl) ?_
  refine lv_aload_n hx hb dL_law_1637 rfl (lv_at hl 6 rfl) ?_
  refine lv_iload hx hb dL_law_1638 (lv_at hl 1 rfl) ?_
  refine lv_iconst (v := 1) hx hb dL_law_1640 (by decide) ?_
  refine lv_iadd hx hb dL_law_1641 ?_
  refine lv_topi (fun y ey => ?_)
  obtain rfl : y = 1 := ey.trans (by decide)
  refine va_sld hx hb hX hbl hbA hS (by unfold vp_in; decide) dL_law_1642 ?_
  refine lv_topi (fun y ey => ?_)
  obtain rfl : y = xs 1 := ey.trans (congrArg xs (by decide))
  refine mj_callV (wr := []) (wc := WM cy am eda 0) (As := [.int (xs 1)]) (rest := []) ⟨hx, hb, hml, hown, hts⟩ (a_phaseOf_1 l D cy _ (xs 1)) (cwV 1 hts (goodL gL_law_X14_phaseOf) rfl rfl rfl (by decide +kernel) ⟨by decide, by decide⟩) hK hN hP hD hS hA hJS (ci := 19) (q0 := 0) rfl rfl rfl rfl hl.1 rfl (Nat.le_of_ble_eq_true rfl) dL_law_1643 ⟨Nat.le_of_ble_eq_true rfl, Nat.le_of_ble_eq_true rfl⟩ (fun H locs hB hJ hS => ?_)
  obtain ⟨hP1, hD1⟩ := hB
  obtain ⟨hP, hD⟩ := hJ _ hP1 hD1
  have hP : va_P D vwCl [(am 0, .inr (19, [.int 1, .ref (am 1), .ref (am 4), .ref (am 5), .ref (am 6), .ref (am 7), .ref (am 8), .int 0, .ref (am 9), .int 0, .int (-1), .int 100, .ref (am 10), .long 0, .int 0, .int 0, .int 0, .int 0, .long 0]))] H := hP
  have hD : va_D (fun q => s.heap.size ≤ q) [(am 0, .inr (19, [.int 1, .ref (am 1), .ref (am 4), .ref (am 5), .ref (am 6), .ref (am 7), .ref (am 8), .int 0, .ref (am 9), .int 0, .int (-1), .int 100, .ref (am 10), .long 0, .int 0, .int 0, .int 0, .int 0, .long 0]))] := hD
  refine lv_istore (lv' := [(7, .int 0), (6, .int 1), (5, .int 0), (4, .ref od), (3, .ref oa), (2, .ref (am 0)), (1, .ref (ad 0)), (0, .ref b)]) hx hb dL_law_1646 hl (by decide) rfl (fun ls hl => ?_)
  refine lv_aload_n hx hb dL_law_1648 rfl (lv_at hl 5 rfl) ?_
  refine ro_callV (As := []) (rest := []) ⟨hx, hb, hml, hown, hts⟩ (c_thrown l D cy _ 0 (am 0) 1 [.ref (am 1), .ref (am 4), .ref (am 5), .ref (am 6), .ref (am 7), .ref (am 8), .int 0, .ref (am 9), .int 0, .int (-1), .int 100, .ref (am 10), .long 0, .int 0, .int 0, .int 0, .int 0, .long 0] rfl) (cwV 0 hts (goodL gL_law_X14_thrown) rfl rfl rfl (by decide +kernel) ⟨by decide, by decide⟩) hK hN hP hS (ci := 19) (q0 := 0) rfl rfl rfl rfl hl.1 rfl (Nat.le_of_ble_eq_true rfl) dL_law_1649 ⟨Nat.le_of_ble_eq_true rfl, Nat.le_of_ble_eq_true rfl⟩ (fun H locs hP hS => ?_)
  refine lv_iload hx hb dL_law_1652 (lv_at hl 1 rfl) ?_
  refine lv_icmp_eq (tgt := 1659) hx hb dL_law_1654 (by decide) (fun _ => ?_) (fun c => absurd (by decide) c)
  refine lv_iload hx hb dL_law_1659 (lv_at hl 1 rfl) ?_
  refine lv_if_ne (tgt := 1676) hx hb dL_law_1661 (by decide) (fun _ => ?_) (fun c => absurd c (by decide))
  refine lv_goto (tgt := 3117) hx hb dL_law_1676 (by decide) ?_
  refine W.widen (k := 1000) (n := 10000) (Nat.le_of_ble_eq_true rfl) (Nat.le_of_ble_eq_true rfl) ?_
  exact hE _ _ _ hS (lv_sub hl [2, 3, 4, 5, 6, 7] rfl)

set_option maxRecDepth 100000 in
set_option maxHeartbeats 4000000 in
theorem law_send_1 {p : Program} {e : Env} {s : State} {m : MethodId} {below : List Frame} {meth : Method} {c : Code} {l : Launch} (hfl : l.stackTraces = false) {b : Nat} {xs : Nat → Int32} {D : va_G} {cy : Nat → ClassId} {eda ca : Nat} {ia : Nat → Nat} (C0 : LawAt p s m meth c b xs D cy eda ca ia) {am : Nat → Nat} {ad : Nat → Nat} {rw_ : Nat → Nat → Option Nat} {w : va_W} (F : FrC cy ad rw_ w) {oa od : Nat} (hE : LawEnd p l e s m below meth c b (ad 0) (am 0) oa od) : LGoal p l e s m below meth c b D cy am eda w (ad 0) oa od 1747 := by
  obtain ⟨hx, hb, hml, hown, hts, hX, hbl, hK, hN, hT, hJS⟩ := id C0
  have hA : ∀ q : Nat, s.heap.size ≤ q → (fun q => s.heap.size ≤ q) q := fun _ h => h
  have hbA : ¬ (fun q => s.heap.size ≤ q) b := Nat.not_le.mpr hbl
  intro H locs ls hP hD hS hl
  refine lv_aload_n hx hb dL_law_1747 rfl (lv_at hl 4 rfl) ?_
  refine lv_aload_n hx hb dL_law_1748 rfl (lv_at hl 5 rfl) ?_
  refine lv_iload hx hb dL_law_1749 (lv_at hl 0 rfl) ?_
  refine lv_iconst (v := 1) hx hb dL_law_1751 (by decide) ?_
  refine lv_iadd hx hb dL_law_1752 ?_
  refine lv_topi (fun y ey => ?_)
  obtain rfl : y = 1 := ey.trans (by decide)
  refine va_sld hx hb hX hbl hbA hS (by unfold vp_in; decide) dL_law_1753 ?_
  refine lv_topi (fun y ey => ?_)
  obtain rfl : y = xs 1 := ey.trans (congrArg xs (by decide))
  refine lv_aload_n hx hb dL_law_1754 rfl (lv_at hl 2 rfl) ?_
  refine mw_callS (wr := WM cy am eda 0) (wc := OCL cy oa :: w) (As := [.ref (ad 0), .int (xs 1), .ref oa]) (rest := []) ⟨hx, hb, hml, hown, hts⟩ (w_send_1 l D cy F hfl oa (fun _ => 0) _ (xs 1)) (vx_cwSW 3 hts (goodLW gL_law_L_send) rfl rfl rfl (by decide +kernel) ⟨by decide, by decide⟩) hK hN hT (fun q hq => hS.2.1 q hq (Nat.not_le.mpr hq)) hP hD hS hA rfl hl.1 rfl (Nat.le_of_ble_eq_true rfl) dL_law_1755 ⟨Nat.le_of_ble_eq_true rfl, Nat.le_of_ble_eq_true rfl⟩ (fun H locs hB hJ hS => ?_)
  obtain ⟨hP, hD⟩ := hJ [] (fun k q h => by simp at h) ⟨fun i j p q h => by simp at h, fun k q h => by simp at h⟩
  have hP : va_P D vwCl (WM cy am eda 0) H := hP
  have hD : va_D (fun q => s.heap.size ≤ q) (WM cy am eda 0) := hD
  refine lv_istore (lv' := [(6, .int 1), (5, .int 0), (4, .ref od), (3, .ref oa), (2, .ref (am 0)), (1, .ref (ad 0)), (0, .ref b)]) hx hb dL_law_1758 hl (by decide) rfl (fun ls hl => ?_)
  refine lv_aload_n hx hb dL_law_1760 rfl (lv_at hl 4 rfl) ?_
  refine lv_aload_n hx hb dL_law_1761 rfl (lv_at hl 6 rfl) ?_
  refine lv_iload hx hb dL_law_1762 (lv_at hl 1 rfl) ?_
  refine lv_iconst (v := 1) hx hb dL_law_1764 (by decide) ?_
  refine lv_iadd hx hb dL_law_1765 ?_
  refine lv_topi (fun y ey => ?_)
  obtain rfl : y = 1 := ey.trans (by decide)
  refine va_sld hx hb hX hbl hbA hS (by unfold vp_in; decide) dL_law_1766 ?_
  refine lv_topi (fun y ey => ?_)
  obtain rfl : y = xs 1 := ey.trans (congrArg xs (by decide))
  refine mj_callV (wr := []) (wc := WM cy am eda 0) (As := [.int (xs 1)]) (rest := []) ⟨hx, hb, hml, hown, hts⟩ (a_send_1 l D cy _ (xs 1)) (cwV 1 hts (goodL gL_law_X14_send) rfl rfl rfl (by decide +kernel) ⟨by decide, by decide⟩) hK hN hP hD hS hA hJS (ci := 19) (q0 := 0) rfl rfl rfl rfl hl.1 rfl (Nat.le_of_ble_eq_true rfl) dL_law_1767 ⟨Nat.le_of_ble_eq_true rfl, Nat.le_of_ble_eq_true rfl⟩ (fun H locs hB hJ hS => ?_)
  obtain ⟨hP1, hD1⟩ := hB
  obtain ⟨hP, hD⟩ := hJ _ hP1 hD1
  have hP : va_P D vwCl [(am 0, .inr (19, [.int 1, .ref (am 1), .ref (am 4), .ref (am 5), .ref (am 6), .ref (am 7), .ref (am 8), .int 0, .ref (am 9), .int 0, .int (-1), .int 100, .ref (am 10), .long 0, .int 0, .int 0, .int 0, .int 0, .long 0]))] H := hP
  have hD : va_D (fun q => s.heap.size ≤ q) [(am 0, .inr (19, [.int 1, .ref (am 1), .ref (am 4), .ref (am 5), .ref (am 6), .ref (am 7), .ref (am 8), .int 0, .ref (am 9), .int 0, .int (-1), .int 100, .ref (am 10), .long 0, .int 0, .int 0, .int 0, .int 0, .long 0]))] := hD
  refine lv_istore (lv' := [(7, .int 0), (6, .int 1), (5, .int 0), (4, .ref od), (3, .ref oa), (2, .ref (am 0)), (1, .ref (ad 0)), (0, .ref b)]) hx hb dL_law_1770 hl (by decide) rfl (fun ls hl => ?_)
  refine lv_aload_n hx hb dL_law_1772 rfl (lv_at hl 5 rfl) ?_
  refine ro_callV (As := []) (rest := []) ⟨hx, hb, hml, hown, hts⟩ (c_thrown l D cy _ 0 (am 0) 1 [.ref (am 1), .ref (am 4), .ref (am 5), .ref (am 6), .ref (am 7), .ref (am 8), .int 0, .ref (am 9), .int 0, .int (-1), .int 100, .ref (am 10), .long 0, .int 0, .int 0, .int 0, .int 0, .long 0] rfl) (cwV 0 hts (goodL gL_law_X14_thrown) rfl rfl rfl (by decide +kernel) ⟨by decide, by decide⟩) hK hN hP hS (ci := 19) (q0 := 0) rfl rfl rfl rfl hl.1 rfl (Nat.le_of_ble_eq_true rfl) dL_law_1773 ⟨Nat.le_of_ble_eq_true rfl, Nat.le_of_ble_eq_true rfl⟩ (fun H locs hP hS => ?_)
  refine lv_iload hx hb dL_law_1776 (lv_at hl 1 rfl) ?_
  refine lv_icmp_eq (tgt := 1783) hx hb dL_law_1778 (by decide) (fun _ => ?_) (fun c => absurd (by decide) c)
  refine lv_iload hx hb dL_law_1783 (lv_at hl 1 rfl) ?_
  refine lv_if_ne (tgt := 1800) hx hb dL_law_1785 (by decide) (fun _ => ?_) (fun c => absurd c (by decide))
  refine lv_goto (tgt := 3117) hx hb dL_law_1800 (by decide) ?_
  refine W.widen (k := 1000) (n := 10000) (Nat.le_of_ble_eq_true rfl) (Nat.le_of_ble_eq_true rfl) ?_
  exact hE _ _ _ hS (lv_sub hl [2, 3, 4, 5, 6, 7] rfl)

set_option maxRecDepth 100000 in
set_option maxHeartbeats 4000000 in
theorem law_ring_1 {p : Program} {e : Env} {s : State} {m : MethodId} {below : List Frame} {meth : Method} {c : Code} {l : Launch} (hfl : l.stackTraces = false) {b : Nat} {xs : Nat → Int32} {D : va_G} {cy : Nat → ClassId} {eda ca : Nat} {ia : Nat → Nat} (C0 : LawAt p s m meth c b xs D cy eda ca ia) {am : Nat → Nat} {ad : Nat → Nat} {rw_ : Nat → Nat → Option Nat} {w : va_W} (F : FrC cy ad rw_ w) {oa od : Nat} (hE : LawEnd p l e s m below meth c b (ad 0) (am 0) oa od) : LGoal p l e s m below meth c b D cy am eda w (ad 0) oa od 1871 := by
  obtain ⟨hx, hb, hml, hown, hts, hX, hbl, hK, hN, hT, hJS⟩ := id C0
  have hA : ∀ q : Nat, s.heap.size ≤ q → (fun q => s.heap.size ≤ q) q := fun _ h => h
  have hbA : ¬ (fun q => s.heap.size ≤ q) b := Nat.not_le.mpr hbl
  intro H locs ls hP hD hS hl
  refine lv_aload_n hx hb dL_law_1871 rfl (lv_at hl 4 rfl) ?_
  refine lv_aload_n hx hb dL_law_1872 rfl (lv_at hl 5 rfl) ?_
  refine lv_iload hx hb dL_law_1873 (lv_at hl 0 rfl) ?_
  refine lv_iconst (v := 1) hx hb dL_law_1875 (by decide) ?_
  refine lv_iadd hx hb dL_law_1876 ?_
  refine lv_topi (fun y ey => ?_)
  obtain rfl : y = 1 := ey.trans (by decide)
  refine va_sld hx hb hX hbl hbA hS (by unfold vp_in; decide) dL_law_1877 ?_
  refine lv_topi (fun y ey => ?_)
  obtain rfl : y = xs 1 := ey.trans (congrArg xs (by decide))
  refine lv_aload_n hx hb dL_law_1878 rfl (lv_at hl 2 rfl) ?_
  refine mw_callS (wr := WM cy am eda 0) (wc := OCL cy oa :: w) (As := [.ref (ad 0), .int (xs 1), .ref oa]) (rest := []) ⟨hx, hb, hml, hown, hts⟩ (w_ring_1 l D cy F hfl oa (fun _ => 0) _ (xs 1)) (vx_cwSW 3 hts (goodLW gL_law_L_ring) rfl rfl rfl (by decide +kernel) ⟨by decide, by decide⟩) hK hN hT (fun q hq => hS.2.1 q hq (Nat.not_le.mpr hq)) hP hD hS hA rfl hl.1 rfl (Nat.le_of_ble_eq_true rfl) dL_law_1879 ⟨Nat.le_of_ble_eq_true rfl, Nat.le_of_ble_eq_true rfl⟩ (fun H locs hB hJ hS => ?_)
  obtain ⟨hP, hD⟩ := hJ [] (fun k q h => by simp at h) ⟨fun i j p q h => by simp at h, fun k q h => by simp at h⟩
  have hP : va_P D vwCl (WM cy am eda 0) H := hP
  have hD : va_D (fun q => s.heap.size ≤ q) (WM cy am eda 0) := hD
  refine lv_istore (lv' := [(6, .int 1), (5, .int 0), (4, .ref od), (3, .ref oa), (2, .ref (am 0)), (1, .ref (ad 0)), (0, .ref b)]) hx hb dL_law_1882 hl (by decide) rfl (fun ls hl => ?_)
  refine lv_aload_n hx hb dL_law_1884 rfl (lv_at hl 4 rfl) ?_
  refine lv_aload_n hx hb dL_law_1885 rfl (lv_at hl 6 rfl) ?_
  refine lv_iload hx hb dL_law_1886 (lv_at hl 1 rfl) ?_
  refine lv_iconst (v := 1) hx hb dL_law_1888 (by decide) ?_
  refine lv_iadd hx hb dL_law_1889 ?_
  refine lv_topi (fun y ey => ?_)
  obtain rfl : y = 1 := ey.trans (by decide)
  refine va_sld hx hb hX hbl hbA hS (by unfold vp_in; decide) dL_law_1890 ?_
  refine lv_topi (fun y ey => ?_)
  obtain rfl : y = xs 1 := ey.trans (congrArg xs (by decide))
  refine mj_callV (wr := []) (wc := WM cy am eda 0) (As := [.int (xs 1)]) (rest := []) ⟨hx, hb, hml, hown, hts⟩ (a_ring_1 l D cy _ (xs 1)) (cwV 1 hts (goodL gL_law_X14_ring) rfl rfl rfl (by decide +kernel) ⟨by decide, by decide⟩) hK hN hP hD hS hA hJS (ci := 19) (q0 := 0) rfl rfl rfl rfl hl.1 rfl (Nat.le_of_ble_eq_true rfl) dL_law_1891 ⟨Nat.le_of_ble_eq_true rfl, Nat.le_of_ble_eq_true rfl⟩ (fun H locs hB hJ hS => ?_)
  obtain ⟨hP1, hD1⟩ := hB
  obtain ⟨hP, hD⟩ := hJ _ hP1 hD1
  have hP : va_P D vwCl [(am 0, .inr (19, [.int 1, .ref (am 1), .ref (am 4), .ref (am 5), .ref (am 6), .ref (am 7), .ref (am 8), .int 0, .ref (am 9), .int 0, .int (-1), .int 100, .ref (am 10), .long 0, .int 0, .int 0, .int 0, .int 0, .long 0]))] H := hP
  have hD : va_D (fun q => s.heap.size ≤ q) [(am 0, .inr (19, [.int 1, .ref (am 1), .ref (am 4), .ref (am 5), .ref (am 6), .ref (am 7), .ref (am 8), .int 0, .ref (am 9), .int 0, .int (-1), .int 100, .ref (am 10), .long 0, .int 0, .int 0, .int 0, .int 0, .long 0]))] := hD
  refine lv_istore (lv' := [(7, .int 0), (6, .int 1), (5, .int 0), (4, .ref od), (3, .ref oa), (2, .ref (am 0)), (1, .ref (ad 0)), (0, .ref b)]) hx hb dL_law_1894 hl (by decide) rfl (fun ls hl => ?_)
  refine lv_aload_n hx hb dL_law_1896 rfl (lv_at hl 5 rfl) ?_
  refine ro_callV (As := []) (rest := []) ⟨hx, hb, hml, hown, hts⟩ (c_thrown l D cy _ 0 (am 0) 1 [.ref (am 1), .ref (am 4), .ref (am 5), .ref (am 6), .ref (am 7), .ref (am 8), .int 0, .ref (am 9), .int 0, .int (-1), .int 100, .ref (am 10), .long 0, .int 0, .int 0, .int 0, .int 0, .long 0] rfl) (cwV 0 hts (goodL gL_law_X14_thrown) rfl rfl rfl (by decide +kernel) ⟨by decide, by decide⟩) hK hN hP hS (ci := 19) (q0 := 0) rfl rfl rfl rfl hl.1 rfl (Nat.le_of_ble_eq_true rfl) dL_law_1897 ⟨Nat.le_of_ble_eq_true rfl, Nat.le_of_ble_eq_true rfl⟩ (fun H locs hP hS => ?_)
  refine lv_iload hx hb dL_law_1900 (lv_at hl 1 rfl) ?_
  refine lv_icmp_eq (tgt := 1907) hx hb dL_law_1902 (by decide) (fun _ => ?_) (fun c => absurd (by decide) c)
  refine lv_iload hx hb dL_law_1907 (lv_at hl 1 rfl) ?_
  refine lv_if_ne (tgt := 1924) hx hb dL_law_1909 (by decide) (fun _ => ?_) (fun c => absurd c (by decide))
  refine lv_goto (tgt := 3117) hx hb dL_law_1924 (by decide) ?_
  refine W.widen (k := 1000) (n := 10000) (Nat.le_of_ble_eq_true rfl) (Nat.le_of_ble_eq_true rfl) ?_
  exact hE _ _ _ hS (lv_sub hl [2, 3, 4, 5, 6, 7] rfl)

set_option maxRecDepth 100000 in
set_option maxHeartbeats 4000000 in
theorem law_isHalted_1 {p : Program} {e : Env} {s : State} {m : MethodId} {below : List Frame} {meth : Method} {c : Code} {l : Launch} (hfl : l.stackTraces = false) {b : Nat} {xs : Nat → Int32} {D : va_G} {cy : Nat → ClassId} {eda ca : Nat} {ia : Nat → Nat} (C0 : LawAt p s m meth c b xs D cy eda ca ia) {am : Nat → Nat} {ad : Nat → Nat} {rw_ : Nat → Nat → Option Nat} {w : va_W} (F : FrC cy ad rw_ w) {oa od : Nat} (hE : LawEnd p l e s m below meth c b (ad 0) (am 0) oa od) : LGoal p l e s m below meth c b D cy am eda w (ad 0) oa od 1927 := by
  obtain ⟨hx, hb, hml, hown, hts, hX, hbl, hK, hN, hT, hJS⟩ := id C0
  have hA : ∀ q : Nat, s.heap.size ≤ q → (fun q => s.heap.size ≤ q) q := fun _ h => h
  have hbA : ¬ (fun q => s.heap.size ≤ q) b := Nat.not_le.mpr hbl
  intro H locs ls hP hD hS hl
  refine lv_aload_n hx hb dL_law_1927 rfl (lv_at hl 4 rfl) ?_
  refine lv_aload_n hx hb dL_law_1928 rfl (lv_at hl 5 rfl) ?_
  refine lv_iload hx hb dL_law_1929 (lv_at hl 0 rfl) ?_
  refine lv_iconst (v := 1) hx hb dL_law_1931 (by decide) ?_
  refine lv_iadd hx hb dL_law_1932 ?_
  refine lv_topi (fun y ey => ?_)
  obtain rfl : y = 1 := ey.trans (by decide)
  refine va_sld hx hb hX hbl hbA hS (by unfold vp_in; decide) dL_law_1933 ?_
  refine lv_topi (fun y ey => ?_)
  obtain rfl : y = xs 1 := ey.trans (congrArg xs (by decide))
  refine lv_aload_n hx hb dL_law_1934 rfl (lv_at hl 2 rfl) ?_
  refine mw_callS (wr := WM cy am eda 0) (wc := OCL cy oa :: w) (As := [.ref (ad 0), .int (xs 1), .ref oa]) (rest := []) ⟨hx, hb, hml, hown, hts⟩ (w_isHalted_1 l D cy F hfl oa (fun _ => 0) _ (xs 1)) (vx_cwSW 3 hts (goodLW gL_law_L_isHalted) rfl rfl rfl (by decide +kernel) ⟨by decide, by decide⟩) hK hN hT (fun q hq => hS.2.1 q hq (Nat.not_le.mpr hq)) hP hD hS hA rfl hl.1 rfl (Nat.le_of_ble_eq_true rfl) dL_law_1935 ⟨Nat.le_of_ble_eq_true rfl, Nat.le_of_ble_eq_true rfl⟩ (fun H locs hB hJ hS => ?_)
  obtain ⟨hP, hD⟩ := hJ [] (fun k q h => by simp at h) ⟨fun i j p q h => by simp at h, fun k q h => by simp at h⟩
  have hP : va_P D vwCl (WM cy am eda 0) H := hP
  have hD : va_D (fun q => s.heap.size ≤ q) (WM cy am eda 0) := hD
  refine lv_istore (lv' := [(6, .int 1), (5, .int 0), (4, .ref od), (3, .ref oa), (2, .ref (am 0)), (1, .ref (ad 0)), (0, .ref b)]) hx hb dL_law_1938 hl (by decide) rfl (fun ls hl => ?_)
  refine lv_aload_n hx hb dL_law_1940 rfl (lv_at hl 4 rfl) ?_
  refine lv_aload_n hx hb dL_law_1941 rfl (lv_at hl 6 rfl) ?_
  refine lv_iload hx hb dL_law_1942 (lv_at hl 1 rfl) ?_
  refine lv_iconst (v := 1) hx hb dL_law_1944 (by decide) ?_
  refine lv_iadd hx hb dL_law_1945 ?_
  refine lv_topi (fun y ey => ?_)
  obtain rfl : y = 1 := ey.trans (by decide)
  refine va_sld hx hb hX hbl hbA hS (by unfold vp_in; decide) dL_law_1946 ?_
  refine lv_topi (fun y ey => ?_)
  obtain rfl : y = xs 1 := ey.trans (congrArg xs (by decide))
  refine mj_callV (wr := []) (wc := WM cy am eda 0) (As := [.int (xs 1)]) (rest := []) ⟨hx, hb, hml, hown, hts⟩ (a_isHalted_1 l D cy _ (xs 1)) (cwV 1 hts (goodL gL_law_X14_isHalted) rfl rfl rfl (by decide +kernel) ⟨by decide, by decide⟩) hK hN hP hD hS hA hJS (ci := 19) (q0 := 0) rfl rfl rfl rfl hl.1 rfl (Nat.le_of_ble_eq_true rfl) dL_law_1947 ⟨Nat.le_of_ble_eq_true rfl, Nat.le_of_ble_eq_true rfl⟩ (fun H locs hB hJ hS => ?_)
  obtain ⟨hP1, hD1⟩ := hB
  obtain ⟨hP, hD⟩ := hJ _ hP1 hD1
  have hP : va_P D vwCl [(am 0, .inr (19, [.int 1, .ref (am 1), .ref (am 4), .ref (am 5), .ref (am 6), .ref (am 7), .ref (am 8), .int 0, .ref (am 9), .int 0, .int (-1), .int 100, .ref (am 10), .long 0, .int 0, .int 0, .int 0, .int 0, .long 0]))] H := hP
  have hD : va_D (fun q => s.heap.size ≤ q) [(am 0, .inr (19, [.int 1, .ref (am 1), .ref (am 4), .ref (am 5), .ref (am 6), .ref (am 7), .ref (am 8), .int 0, .ref (am 9), .int 0, .int (-1), .int 100, .ref (am 10), .long 0, .int 0, .int 0, .int 0, .int 0, .long 0]))] := hD
  refine lv_istore (lv' := [(7, .int 0), (6, .int 1), (5, .int 0), (4, .ref od), (3, .ref oa), (2, .ref (am 0)), (1, .ref (ad 0)), (0, .ref b)]) hx hb dL_law_1950 hl (by decide) rfl (fun ls hl => ?_)
  refine lv_aload_n hx hb dL_law_1952 rfl (lv_at hl 5 rfl) ?_
  refine ro_callV (As := []) (rest := []) ⟨hx, hb, hml, hown, hts⟩ (c_thrown l D cy _ 0 (am 0) 1 [.ref (am 1), .ref (am 4), .ref (am 5), .ref (am 6), .ref (am 7), .ref (am 8), .int 0, .ref (am 9), .int 0, .int (-1), .int 100, .ref (am 10), .long 0, .int 0, .int 0, .int 0, .int 0, .long 0] rfl) (cwV 0 hts (goodL gL_law_X14_thrown) rfl rfl rfl (by decide +kernel) ⟨by decide, by decide⟩) hK hN hP hS (ci := 19) (q0 := 0) rfl rfl rfl rfl hl.1 rfl (Nat.le_of_ble_eq_true rfl) dL_law_1953 ⟨Nat.le_of_ble_eq_true rfl, Nat.le_of_ble_eq_true rfl⟩ (fun H locs hP hS => ?_)
  refine lv_iload hx hb dL_law_1956 (lv_at hl 1 rfl) ?_
  refine lv_icmp_eq (tgt := 1963) hx hb dL_law_1958 (by decide) (fun _ => ?_) (fun c => absurd (by decide) c)
  refine lv_iload hx hb dL_law_1963 (lv_at hl 1 rfl) ?_
  refine lv_if_ne (tgt := 1987) hx hb dL_law_1965 (by decide) (fun _ => ?_) (fun c => absurd c (by decide))
  refine lv_goto (tgt := 3117) hx hb dL_law_1987 (by decide) ?_
  refine W.widen (k := 1000) (n := 10000) (Nat.le_of_ble_eq_true rfl) (Nat.le_of_ble_eq_true rfl) ?_
  exact hE _ _ _ hS (lv_sub hl [2, 3, 4, 5, 6, 7] rfl)

set_option maxRecDepth 100000 in
set_option maxHeartbeats 4000000 in
theorem law_clear_1 {p : Program} {e : Env} {s : State} {m : MethodId} {below : List Frame} {meth : Method} {c : Code} {l : Launch} (hfl : l.stackTraces = false) {b : Nat} {xs : Nat → Int32} {D : va_G} {cy : Nat → ClassId} {eda ca : Nat} {ia : Nat → Nat} (C0 : LawAt p s m meth c b xs D cy eda ca ia) {am : Nat → Nat} {ad : Nat → Nat} {rw_ : Nat → Nat → Option Nat} {w : va_W} (F : FrC cy ad rw_ w) {oa od : Nat} (hE : LawEnd p l e s m below meth c b (ad 0) (am 0) oa od) : LGoal p l e s m below meth c b D cy am eda w (ad 0) oa od 1990 := by
  obtain ⟨hx, hb, hml, hown, hts, hX, hbl, hK, hN, hT, hJS⟩ := id C0
  have hA : ∀ q : Nat, s.heap.size ≤ q → (fun q => s.heap.size ≤ q) q := fun _ h => h
  have hbA : ¬ (fun q => s.heap.size ≤ q) b := Nat.not_le.mpr hbl
  intro H locs ls hP hD hS hl
  refine lv_aload_n hx hb dL_law_1990 rfl (lv_at hl 4 rfl) ?_
  refine lv_aload_n hx hb dL_law_1991 rfl (lv_at hl 5 rfl) ?_
  refine lv_iload hx hb dL_law_1992 (lv_at hl 0 rfl) ?_
  refine lv_iconst (v := 1) hx hb dL_law_1994 (by decide) ?_
  refine lv_iadd hx hb dL_law_1995 ?_
  refine lv_topi (fun y ey => ?_)
  obtain rfl : y = 1 := ey.trans (by decide)
  refine va_sld hx hb hX hbl hbA hS (by unfold vp_in; decide) dL_law_1996 ?_
  refine lv_topi (fun y ey => ?_)
  obtain rfl : y = xs 1 := ey.trans (congrArg xs (by decide))
  refine lv_aload_n hx hb dL_law_1997 rfl (lv_at hl 2 rfl) ?_
  refine mw_callS (wr := WM cy am eda 0) (wc := OCL cy oa :: w) (As := [.ref (ad 0), .int (xs 1), .ref oa]) (rest := []) ⟨hx, hb, hml, hown, hts⟩ (w_clear_1 l D cy F hfl oa (fun _ => 0) _ (xs 1)) (vx_cwSW 3 hts (goodLW gL_law_L_clear) rfl rfl rfl (by decide +kernel) ⟨by decide, by decide⟩) hK hN hT (fun q hq => hS.2.1 q hq (Nat.not_le.mpr hq)) hP hD hS hA rfl hl.1 rfl (Nat.le_of_ble_eq_true rfl) dL_law_1998 ⟨Nat.le_of_ble_eq_true rfl, Nat.le_of_ble_eq_true rfl⟩ (fun H locs hB hJ hS => ?_)
  obtain ⟨hP, hD⟩ := hJ [] (fun k q h => by simp at h) ⟨fun i j p q h => by simp at h, fun k q h => by simp at h⟩
  have hP : va_P D vwCl (WM cy am eda 0) H := hP
  have hD : va_D (fun q => s.heap.size ≤ q) (WM cy am eda 0) := hD
  refine lv_istore (lv' := [(6, .int 1), (5, .int 0), (4, .ref od), (3, .ref oa), (2, .ref (am 0)), (1, .ref (ad 0)), (0, .ref b)]) hx hb dL_law_2001 hl (by decide) rfl (fun ls hl => ?_)
  refine lv_aload_n hx hb dL_law_2003 rfl (lv_at hl 4 rfl) ?_
  refine lv_aload_n hx hb dL_law_2004 rfl (lv_at hl 6 rfl) ?_
  refine lv_iload hx hb dL_law_2005 (lv_at hl 1 rfl) ?_
  refine lv_iconst (v := 1) hx hb dL_law_2007 (by decide) ?_
  refine lv_iadd hx hb dL_law_2008 ?_
  refine lv_topi (fun y ey => ?_)
  obtain rfl : y = 1 := ey.trans (by decide)
  refine va_sld hx hb hX hbl hbA hS (by unfold vp_in; decide) dL_law_2009 ?_
  refine lv_topi (fun y ey => ?_)
  obtain rfl : y = xs 1 := ey.trans (congrArg xs (by decide))
  refine mj_callV (wr := []) (wc := WM cy am eda 0) (As := [.int (xs 1)]) (rest := []) ⟨hx, hb, hml, hown, hts⟩ (a_clear_1 l D cy _ (xs 1)) (cwV 1 hts (goodL gL_law_X14_clear) rfl rfl rfl (by decide +kernel) ⟨by decide, by decide⟩) hK hN hP hD hS hA hJS (ci := 19) (q0 := 0) rfl rfl rfl rfl hl.1 rfl (Nat.le_of_ble_eq_true rfl) dL_law_2010 ⟨Nat.le_of_ble_eq_true rfl, Nat.le_of_ble_eq_true rfl⟩ (fun H locs hB hJ hS => ?_)
  obtain ⟨hP1, hD1⟩ := hB
  obtain ⟨hP, hD⟩ := hJ _ hP1 hD1
  have hP : va_P D vwCl [(am 0, .inr (19, [.int 1, .ref (am 1), .ref (am 4), .ref (am 5), .ref (am 6), .ref (am 7), .ref (am 8), .int 0, .ref (am 9), .int 0, .int (-1), .int 100, .ref (am 10), .long 0, .int 0, .int 0, .int 0, .int 0, .long 0]))] H := hP
  have hD : va_D (fun q => s.heap.size ≤ q) [(am 0, .inr (19, [.int 1, .ref (am 1), .ref (am 4), .ref (am 5), .ref (am 6), .ref (am 7), .ref (am 8), .int 0, .ref (am 9), .int 0, .int (-1), .int 100, .ref (am 10), .long 0, .int 0, .int 0, .int 0, .int 0, .long 0]))] := hD
  refine lv_istore (lv' := [(7, .int 0), (6, .int 1), (5, .int 0), (4, .ref od), (3, .ref oa), (2, .ref (am 0)), (1, .ref (ad 0)), (0, .ref b)]) hx hb dL_law_2013 hl (by decide) rfl (fun ls hl => ?_)
  refine lv_aload_n hx hb dL_law_2015 rfl (lv_at hl 5 rfl) ?_
  refine ro_callV (As := []) (rest := []) ⟨hx, hb, hml, hown, hts⟩ (c_thrown l D cy _ 0 (am 0) 1 [.ref (am 1), .ref (am 4), .ref (am 5), .ref (am 6), .ref (am 7), .ref (am 8), .int 0, .ref (am 9), .int 0, .int (-1), .int 100, .ref (am 10), .long 0, .int 0, .int 0, .int 0, .int 0, .long 0] rfl) (cwV 0 hts (goodL gL_law_X14_thrown) rfl rfl rfl (by decide +kernel) ⟨by decide, by decide⟩) hK hN hP hS (ci := 19) (q0 := 0) rfl rfl rfl rfl hl.1 rfl (Nat.le_of_ble_eq_true rfl) dL_law_2016 ⟨Nat.le_of_ble_eq_true rfl, Nat.le_of_ble_eq_true rfl⟩ (fun H locs hP hS => ?_)
  refine lv_iload hx hb dL_law_2019 (lv_at hl 1 rfl) ?_
  refine lv_icmp_eq (tgt := 2026) hx hb dL_law_2021 (by decide) (fun _ => ?_) (fun c => absurd (by decide) c)
  refine lv_iload hx hb dL_law_2026 (lv_at hl 1 rfl) ?_
  refine lv_if_ne (tgt := 2043) hx hb dL_law_2028 (by decide) (fun _ => ?_) (fun c => absurd c (by decide))
  refine lv_goto (tgt := 3117) hx hb dL_law_2043 (by decide) ?_
  refine W.widen (k := 1000) (n := 10000) (Nat.le_of_ble_eq_true rfl) (Nat.le_of_ble_eq_true rfl) ?_
  exact hE _ _ _ hS (lv_sub hl [2, 3, 4, 5, 6, 7] rfl)

set_option maxRecDepth 100000 in
set_option maxHeartbeats 4000000 in
theorem law_cancel_1 {p : Program} {e : Env} {s : State} {m : MethodId} {below : List Frame} {meth : Method} {c : Code} {l : Launch} (hfl : l.stackTraces = false) {b : Nat} {xs : Nat → Int32} {D : va_G} {cy : Nat → ClassId} {eda ca : Nat} {ia : Nat → Nat} (C0 : LawAt p s m meth c b xs D cy eda ca ia) {am : Nat → Nat} {ad : Nat → Nat} {rw_ : Nat → Nat → Option Nat} {w : va_W} (F : FrC cy ad rw_ w) {oa od : Nat} (hE : LawEnd p l e s m below meth c b (ad 0) (am 0) oa od) : LGoal p l e s m below meth c b D cy am eda w (ad 0) oa od 2046 := by
  obtain ⟨hx, hb, hml, hown, hts, hX, hbl, hK, hN, hT, hJS⟩ := id C0
  have hA : ∀ q : Nat, s.heap.size ≤ q → (fun q => s.heap.size ≤ q) q := fun _ h => h
  have hbA : ¬ (fun q => s.heap.size ≤ q) b := Nat.not_le.mpr hbl
  intro H locs ls hP hD hS hl
  refine lv_aload_n hx hb dL_law_2046 rfl (lv_at hl 4 rfl) ?_
  refine lv_aload_n hx hb dL_law_2047 rfl (lv_at hl 5 rfl) ?_
  refine lv_iload hx hb dL_law_2048 (lv_at hl 0 rfl) ?_
  refine lv_iconst (v := 1) hx hb dL_law_2050 (by decide) ?_
  refine lv_iadd hx hb dL_law_2051 ?_
  refine lv_topi (fun y ey => ?_)
  obtain rfl : y = 1 := ey.trans (by decide)
  refine va_sld hx hb hX hbl hbA hS (by unfold vp_in; decide) dL_law_2052 ?_
  refine lv_topi (fun y ey => ?_)
  obtain rfl : y = xs 1 := ey.trans (congrArg xs (by decide))
  refine lv_aload_n hx hb dL_law_2053 rfl (lv_at hl 2 rfl) ?_
  refine mw_callS (wr := WM cy am eda 0) (wc := OCL cy oa :: w) (As := [.ref (ad 0), .int (xs 1), .ref oa]) (rest := []) ⟨hx, hb, hml, hown, hts⟩ (w_cancel_1 l D cy F hfl oa (fun _ => 0) _ (xs 1)) (vx_cwSW 3 hts (goodLW gL_law_L_cancel) rfl rfl rfl (by decide +kernel) ⟨by decide, by decide⟩) hK hN hT (fun q hq => hS.2.1 q hq (Nat.not_le.mpr hq)) hP hD hS hA rfl hl.1 rfl (Nat.le_of_ble_eq_true rfl) dL_law_2054 ⟨Nat.le_of_ble_eq_true rfl, Nat.le_of_ble_eq_true rfl⟩ (fun H locs hB hJ hS => ?_)
  obtain ⟨hP, hD⟩ := hJ [] (fun k q h => by simp at h) ⟨fun i j p q h => by simp at h, fun k q h => by simp at h⟩
  have hP : va_P D vwCl (WM cy am eda 0) H := hP
  have hD : va_D (fun q => s.heap.size ≤ q) (WM cy am eda 0) := hD
  refine lv_istore (lv' := [(6, .int 1), (5, .int 0), (4, .ref od), (3, .ref oa), (2, .ref (am 0)), (1, .ref (ad 0)), (0, .ref b)]) hx hb dL_law_2057 hl (by decide) rfl (fun ls hl => ?_)
  refine lv_aload_n hx hb dL_law_2059 rfl (lv_at hl 4 rfl) ?_
  refine lv_aload_n hx hb dL_law_2060 rfl (lv_at hl 6 rfl) ?_
  refine lv_iload hx hb dL_law_2061 (lv_at hl 1 rfl) ?_
  refine lv_iconst (v := 1) hx hb dL_law_2063 (by decide) ?_
  refine lv_iadd hx hb dL_law_2064 ?_
  refine lv_topi (fun y ey => ?_)
  obtain rfl : y = 1 := ey.trans (by decide)
  refine va_sld hx hb hX hbl hbA hS (by unfold vp_in; decide) dL_law_2065 ?_
  refine lv_topi (fun y ey => ?_)
  obtain rfl : y = xs 1 := ey.trans (congrArg xs (by decide))
  refine mj_callV (wr := []) (wc := WM cy am eda 0) (As := [.int (xs 1)]) (rest := []) ⟨hx, hb, hml, hown, hts⟩ (a_cancel_1 l D cy _ (xs 1)) (cwV 1 hts (goodL gL_law_X14_cancel) rfl rfl rfl (by decide +kernel) ⟨by decide, by decide⟩) hK hN hP hD hS hA hJS (ci := 19) (q0 := 0) rfl rfl rfl rfl hl.1 rfl (Nat.le_of_ble_eq_true rfl) dL_law_2066 ⟨Nat.le_of_ble_eq_true rfl, Nat.le_of_ble_eq_true rfl⟩ (fun H locs hB hJ hS => ?_)
  obtain ⟨hP1, hD1⟩ := hB
  obtain ⟨hP, hD⟩ := hJ _ hP1 hD1
  have hP : va_P D vwCl [(am 0, .inr (19, [.int 1, .ref (am 1), .ref (am 4), .ref (am 5), .ref (am 6), .ref (am 7), .ref (am 8), .int 0, .ref (am 9), .int 0, .int (-1), .int 100, .ref (am 10), .long 0, .int 0, .int 0, .int 0, .int 0, .long 0]))] H := hP
  have hD : va_D (fun q => s.heap.size ≤ q) [(am 0, .inr (19, [.int 1, .ref (am 1), .ref (am 4), .ref (am 5), .ref (am 6), .ref (am 7), .ref (am 8), .int 0, .ref (am 9), .int 0, .int (-1), .int 100, .ref (am 10), .long 0, .int 0, .int 0, .int 0, .int 0, .long 0]))] := hD
  refine lv_istore (lv' := [(7, .int 0), (6, .int 1), (5, .int 0), (4, .ref od), (3, .ref oa), (2, .ref (am 0)), (1, .ref (ad 0)), (0, .ref b)]) hx hb dL_law_2069 hl (by decide) rfl (fun ls hl => ?_)
  refine lv_aload_n hx hb dL_law_2071 rfl (lv_at hl 5 rfl) ?_
  refine ro_callV (As := []) (rest := []) ⟨hx, hb, hml, hown, hts⟩ (c_thrown l D cy _ 0 (am 0) 1 [.ref (am 1), .ref (am 4), .ref (am 5), .ref (am 6), .ref (am 7), .ref (am 8), .int 0, .ref (am 9), .int 0, .int (-1), .int 100, .ref (am 10), .long 0, .int 0, .int 0, .int 0, .int 0, .long 0] rfl) (cwV 0 hts (goodL gL_law_X14_thrown) rfl rfl rfl (by decide +kernel) ⟨by decide, by decide⟩) hK hN hP hS (ci := 19) (q0 := 0) rfl rfl rfl rfl hl.1 rfl (Nat.le_of_ble_eq_true rfl) dL_law_2072 ⟨Nat.le_of_ble_eq_true rfl, Nat.le_of_ble_eq_true rfl⟩ (fun H locs hP hS => ?_)
  refine lv_iload hx hb dL_law_2075 (lv_at hl 1 rfl) ?_
  refine lv_icmp_eq (tgt := 2082) hx hb dL_law_2077 (by decide) (fun _ => ?_) (fun c => absurd (by decide) c)
  refine lv_iload hx hb dL_law_2082 (lv_at hl 1 rfl) ?_
  refine lv_if_ne (tgt := 2099) hx hb dL_law_2084 (by decide) (fun _ => ?_) (fun c => absurd c (by decide))
  refine lv_goto (tgt := 3117) hx hb dL_law_2099 (by decide) ?_
  refine W.widen (k := 1000) (n := 10000) (Nat.le_of_ble_eq_true rfl) (Nat.le_of_ble_eq_true rfl) ?_
  exact hE _ _ _ hS (lv_sub hl [2, 3, 4, 5, 6, 7] rfl)

set_option maxRecDepth 100000 in
set_option maxHeartbeats 4000000 in
theorem law_causeOf_1 {p : Program} {e : Env} {s : State} {m : MethodId} {below : List Frame} {meth : Method} {c : Code} {l : Launch} (hfl : l.stackTraces = false) {b : Nat} {xs : Nat → Int32} {D : va_G} {cy : Nat → ClassId} {eda ca : Nat} {ia : Nat → Nat} (C0 : LawAt p s m meth c b xs D cy eda ca ia) {am : Nat → Nat} {ad : Nat → Nat} {rw_ : Nat → Nat → Option Nat} {w : va_W} (F : FrC cy ad rw_ w) {oa od : Nat} (hE : LawEnd p l e s m below meth c b (ad 0) (am 0) oa od) : LGoal p l e s m below meth c b D cy am eda w (ad 0) oa od 2903 := by
  obtain ⟨hx, hb, hml, hown, hts, hX, hbl, hK, hN, hT, hJS⟩ := id C0
  have hA : ∀ q : Nat, s.heap.size ≤ q → (fun q => s.heap.size ≤ q) q := fun _ h => h
  have hbA : ¬ (fun q => s.heap.size ≤ q) b := Nat.not_le.mpr hbl
  intro H locs ls hP hD hS hl
  refine lv_aload_n hx hb dL_law_2903 rfl (lv_at hl 4 rfl) ?_
  refine lv_aload_n hx hb dL_law_2904 rfl (lv_at hl 5 rfl) ?_
  refine lv_iload hx hb dL_law_2905 (lv_at hl 0 rfl) ?_
  refine lv_iconst (v := 1) hx hb dL_law_2907 (by decide) ?_
  refine lv_iadd hx hb dL_law_2908 ?_
  refine lv_topi (fun y ey => ?_)
  obtain rfl : y = 1 := ey.trans (by decide)
  refine va_sld hx hb hX hbl hbA hS (by unfold vp_in; decide) dL_law_2909 ?_
  refine lv_topi (fun y ey => ?_)
  obtain rfl : y = xs 1 := ey.trans (congrArg xs (by decide))
  refine lv_aload_n hx hb dL_law_2910 rfl (lv_at hl 2 rfl) ?_
  refine mw_callS (wr := WM cy am eda 0) (wc := OCL cy oa :: w) (As := [.ref (ad 0), .int (xs 1), .ref oa]) (rest := []) ⟨hx, hb, hml, hown, hts⟩ (w_causeOf_1 l D cy F hfl oa (fun _ => 0) _ (xs 1)) (vx_cwSW 3 hts (goodLW gL_law_L_causeOf) rfl rfl rfl (by decide +kernel) ⟨by decide, by decide⟩) hK hN hT (fun q hq => hS.2.1 q hq (Nat.not_le.mpr hq)) hP hD hS hA rfl hl.1 rfl (Nat.le_of_ble_eq_true rfl) dL_law_2911 ⟨Nat.le_of_ble_eq_true rfl, Nat.le_of_ble_eq_true rfl⟩ (fun H locs hB hJ hS => ?_)
  obtain ⟨hP, hD⟩ := hJ [] (fun k q h => by simp at h) ⟨fun i j p q h => by simp at h, fun k q h => by simp at h⟩
  have hP : va_P D vwCl (WM cy am eda 0) H := hP
  have hD : va_D (fun q => s.heap.size ≤ q) (WM cy am eda 0) := hD
  refine lv_istore (lv' := [(6, .int 1), (5, .int 0), (4, .ref od), (3, .ref oa), (2, .ref (am 0)), (1, .ref (ad 0)), (0, .ref b)]) hx hb dL_law_2914 hl (by decide) rfl (fun ls hl => ?_)
  refine lv_aload_n hx hb dL_law_2916 rfl (lv_at hl 4 rfl) ?_
  refine lv_aload_n hx hb dL_law_2917 rfl (lv_at hl 6 rfl) ?_
  refine lv_iload hx hb dL_law_2918 (lv_at hl 1 rfl) ?_
  refine lv_iconst (v := 1) hx hb dL_law_2920 (by decide) ?_
  refine lv_iadd hx hb dL_law_2921 ?_
  refine lv_topi (fun y ey => ?_)
  obtain rfl : y = 1 := ey.trans (by decide)
  refine va_sld hx hb hX hbl hbA hS (by unfold vp_in; decide) dL_law_2922 ?_
  refine lv_topi (fun y ey => ?_)
  obtain rfl : y = xs 1 := ey.trans (congrArg xs (by decide))
  refine mj_callV (wr := []) (wc := WM cy am eda 0) (As := [.int (xs 1)]) (rest := []) ⟨hx, hb, hml, hown, hts⟩ (a_causeOf_1 l D cy _ (xs 1)) (cwV 1 hts (goodL gL_law_X14_causeOf) rfl rfl rfl (by decide +kernel) ⟨by decide, by decide⟩) hK hN hP hD hS hA hJS (ci := 19) (q0 := 0) rfl rfl rfl rfl hl.1 rfl (Nat.le_of_ble_eq_true rfl) dL_law_2923 ⟨Nat.le_of_ble_eq_true rfl, Nat.le_of_ble_eq_true rfl⟩ (fun H locs hB hJ hS => ?_)
  obtain ⟨hP1, hD1⟩ := hB
  obtain ⟨hP, hD⟩ := hJ _ hP1 hD1
  have hP : va_P D vwCl [(am 0, .inr (19, [.int 1, .ref (am 1), .ref (am 4), .ref (am 5), .ref (am 6), .ref (am 7), .ref (am 8), .int 0, .ref (am 9), .int 0, .int (-1), .int 100, .ref (am 10), .long 0, .int 0, .int 0, .int 0, .int 0, .long 0]))] H := hP
  have hD : va_D (fun q => s.heap.size ≤ q) [(am 0, .inr (19, [.int 1, .ref (am 1), .ref (am 4), .ref (am 5), .ref (am 6), .ref (am 7), .ref (am 8), .int 0, .ref (am 9), .int 0, .int (-1), .int 100, .ref (am 10), .long 0, .int 0, .int 0, .int 0, .int 0, .long 0]))] := hD
  refine lv_istore (lv' := [(7, .int 32), (6, .int 1), (5, .int 0), (4, .ref od), (3, .ref oa), (2, .ref (am 0)), (1, .ref (ad 0)), (0, .ref b)]) hx hb dL_law_2926 hl (by decide) rfl (fun ls hl => ?_)
  refine lv_aload_n hx hb dL_law_2928 rfl (lv_at hl 5 rfl) ?_
  refine ro_callV (As := []) (rest := []) ⟨hx, hb, hml, hown, hts⟩ (c_thrown l D cy _ 0 (am 0) 1 [.ref (am 1), .ref (am 4), .ref (am 5), .ref (am 6), .ref (am 7), .ref (am 8), .int 0, .ref (am 9), .int 0, .int (-1), .int 100, .ref (am 10), .long 0, .int 0, .int 0, .int 0, .int 0, .long 0] rfl) (cwV 0 hts (goodL gL_law_X14_thrown) rfl rfl rfl (by decide +kernel) ⟨by decide, by decide⟩) hK hN hP hS (ci := 19) (q0 := 0) rfl rfl rfl rfl hl.1 rfl (Nat.le_of_ble_eq_true rfl) dL_law_2929 ⟨Nat.le_of_ble_eq_true rfl, Nat.le_of_ble_eq_true rfl⟩ (fun H locs hP hS => ?_)
  refine lv_iload hx hb dL_law_2932 (lv_at hl 1 rfl) ?_
  refine lv_icmp_eq (tgt := 2939) hx hb dL_law_2934 (by decide) (fun _ => ?_) (fun c => absurd (by decide) c)
  refine lv_iload hx hb dL_law_2939 (lv_at hl 1 rfl) ?_
  refine lv_if_ne (tgt := 2956) hx hb dL_law_2941 (by decide) (fun _ => ?_) (fun c => absurd c (by decide))
  refine lv_goto (tgt := 3117) hx hb dL_law_2956 (by decide) ?_
  refine W.widen (k := 1000) (n := 10000) (Nat.le_of_ble_eq_true rfl) (Nat.le_of_ble_eq_true rfl) ?_
  exact hE _ _ _ hS (lv_sub hl [2, 3, 4, 5, 6, 7] rfl)
