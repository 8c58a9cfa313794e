set_option maxRecDepth 100000 in
set_option maxHeartbeats 4000000 in
theorem law_reserved_1 {p : Program} {e : Env} {s : State} {m : MethodId} {below : List Frame} {meth : Method} {c : Code} {l : Launch} (hfl : l.stackTraces = false) {b : Nat} {xs : Nat → Int32} {D : va_G} {cy : Nat → ClassId} {eda ca : Nat} {ia : Nat → Nat} (C0 : LawAt p s m meth c b xs D cy eda ca ia) {am : Nat → Nat} {ad : Nat → Nat} {rw_ : Nat → Nat → Option Nat} {w : va_W} (F : FrC cy ad rw_ w) {oa od : Nat} (hE : LawEnd p l e s m below meth c b (ad 0) (am 0) oa od) (hw : ¬ (¬ xs 1 < 0 ∧ ¬ 7 < xs 1)) : LGoal p l e s m below meth c b D cy am eda w (ad 0) oa od 1679 := by
  obtain ⟨hx, hb, hml, hown, hts, hX, hbl, hK, hN, hT, hJS⟩ := id C0
  have hA : ∀ q : Nat, s.heap.size ≤ q → (fun q => s.heap.size ≤ q) q := fun _ h => h
  have hbA : ¬ (fun q => s.heap.size ≤ q) b := Nat.not_le.mpr hbl
  intro H locs ls hP hD hS hl
  refine lv_aload_n hx hb dL_law_1679 rfl (lv_at hl 4 rfl) ?_
  refine lv_aload_n hx hb dL_law_1680 rfl (lv_at hl 5 rfl) ?_
  refine lv_iload hx hb dL_law_1681 (lv_at hl 0 rfl) ?_
  refine lv_iconst (v := 1) hx hb dL_law_1683 (by decide) ?_
  refine lv_iadd hx hb dL_law_1684 ?_
  refine lv_topi (fun y ey => ?_)
  obtain rfl : y = 1 := ey.trans (by decide)
  refine va_sld hx hb hX hbl hbA hS (by unfold vp_in; decide) dL_law_1685 ?_
  refine lv_topi (fun y ey => ?_)
  obtain rfl : y = xs 1 := ey.trans (congrArg xs (by decide))
  refine lv_aload_n hx hb dL_law_1686 rfl (lv_at hl 5 rfl) ?_
  refine lv_iload hx hb dL_law_1687 (lv_at hl 0 rfl) ?_
  refine lv_iconst (v := 2) hx hb dL_law_1689 (by decide) ?_
  refine lv_iadd hx hb dL_law_1690 ?_
  refine lv_topi (fun y ey => ?_)
  obtain rfl : y = 2 := ey.trans (by decide)
  refine va_sld hx hb hX hbl hbA hS (by unfold vp_in; decide) dL_law_1691 ?_
  refine lv_topi (fun y ey => ?_)
  obtain rfl : y = xs 2 := ey.trans (congrArg xs (by decide))
  refine lv_aload_n hx hb dL_law_1692 rfl (lv_at hl 2 rfl) ?_
  refine mw_callS (wr := WM cy am eda 0) (wc := OCL cy oa :: w) (As := [.ref (ad 0), .int (xs 1), .int (xs 2), .ref oa]) (rest := []) ⟨hx, hb, hml, hown, hts⟩ (w_reserved_1 l D cy F hfl oa (fun _ => 0) _ (xs 1) (xs 2) hw) (vx_cwSW 4 hts (goodLW gL_law_L_reserved) rfl rfl rfl (by decide +kernel) ⟨by decide, by decide⟩) hK hN hT (fun q hq => hS.2.1 q hq (Nat.not_le.mpr hq)) hP hD hS hA rfl hl.1 rfl (Nat.le_of_ble_eq_true rfl) dL_law_1693 ⟨Nat.le_of_ble_eq_true rfl, Nat.le_of_ble_eq_true rfl⟩ (fun H locs hB hJ hS => ?_)
  obtain ⟨hP, hD⟩ := hJ [] (fun k q h => by simp at h) ⟨fun i j p q h => by simp at h, fun k q h => by simp at h⟩
  have hP : va_P D vwCl (WM cy am eda 0) H := hP
  have hD : va_D (fun q => s.heap.size ≤ q) (WM cy am eda 0) := hD
  refine lv_istore (lv' := [(6, .int 1), (5, .int 0), (4, .ref od), (3, .ref oa), (2, .ref (am 0)), (1, .ref (ad 0)), (0, .ref b)]) hx hb dL_law_1696 hl (by decide) rfl (fun ls hl => ?_)
  refine lv_aload_n hx hb dL_law_1698 rfl (lv_at hl 4 rfl) ?_
  refine lv_aload_n hx hb dL_law_1699 rfl (lv_at hl 6 rfl) ?_
  refine lv_iload hx hb dL_law_1700 (lv_at hl 1 rfl) ?_
  refine lv_iconst (v := 1) hx hb dL_law_1702 (by decide) ?_
  refine lv_iadd hx hb dL_law_1703 ?_
  refine lv_topi (fun y ey => ?_)
  obtain rfl : y = 1 := ey.trans (by decide)
  refine va_sld hx hb hX hbl hbA hS (by unfold vp_in; decide) dL_law_1704 ?_
  refine lv_topi (fun y ey => ?_)
  obtain rfl : y = xs 1 := ey.trans (congrArg xs (by decide))
  refine lv_aload_n hx hb dL_law_1705 rfl (lv_at hl 6 rfl) ?_
  refine lv_iload hx hb dL_law_1706 (lv_at hl 1 rfl) ?_
  refine lv_iconst (v := 2) hx hb dL_law_1708 (by decide) ?_
  refine lv_iadd hx hb dL_law_1709 ?_
  refine lv_topi (fun y ey => ?_)
  obtain rfl : y = 2 := ey.trans (by decide)
  refine va_sld hx hb hX hbl hbA hS (by unfold vp_in; decide) dL_law_1710 ?_
  refine lv_topi (fun y ey => ?_)
  obtain rfl : y = xs 2 := ey.trans (congrArg xs (by decide))
  refine mj_callV (wr := []) (wc := WM cy am eda 0) (As := [.int (xs 1), .int (xs 2)]) (rest := []) ⟨hx, hb, hml, hown, hts⟩ (a_reserved_1 l D cy _ (xs 1) (xs 2) hw) (cwV 2 hts (goodL gL_law_X14_reserved) rfl rfl rfl (by decide +kernel) ⟨by decide, by decide⟩) hK hN hP hD hS hA hJS (ci := 19) (q0 := 0) rfl rfl rfl rfl hl.1 rfl (Nat.le_of_ble_eq_true rfl) dL_law_1711 ⟨Nat.le_of_ble_eq_true rfl, Nat.le_of_ble_eq_true rfl⟩ (fun H locs hB hJ hS => ?_)
  obtain ⟨hP1, hD1⟩ := hB
  obtain ⟨hP, hD⟩ := hJ _ hP1 hD1
  have hP : va_P D vwCl [(am 0, .inr (19, [.int 1, .ref (am 1), .ref (am 4), .ref (am 5), .ref (am 6), .ref (am 7), .ref (am 8), .int 0, .ref (am 9), .int 0, .int (-1), .int 100, .ref (am 10), .long 0, .int 0, .int 0, .int 0, .int 0, .long 0]))] H := hP
  have hD : va_D (fun q => s.heap.size ≤ q) [(am 0, .inr (19, [.int 1, .ref (am 1), .ref (am 4), .ref (am 5), .ref (am 6), .ref (am 7), .ref (am 8), .int 0, .ref (am 9), .int 0, .int (-1), .int 100, .ref (am 10), .long 0, .int 0, .int 0, .int 0, .int 0, .long 0]))] := hD
  refine lv_istore (lv' := [(7, .int 0), (6, .int 1), (5, .int 0), (4, .ref od), (3, .ref oa), (2, .ref (am 0)), (1, .ref (ad 0)), (0, .ref b)]) hx hb dL_law_1714 hl (by decide) rfl (fun ls hl => ?_)
  refine lv_aload_n hx hb dL_law_1716 rfl (lv_at hl 5 rfl) ?_
  refine ro_callV (As := []) (rest := []) ⟨hx, hb, hml, hown, hts⟩ (c_thrown l D cy _ 0 (am 0) 1 [.ref (am 1), .ref (am 4), .ref (am 5), .ref (am 6), .ref (am 7), .ref (am 8), .int 0, .ref (am 9), .int 0, .int (-1), .int 100, .ref (am 10), .long 0, .int 0, .int 0, .int 0, .int 0, .long 0] rfl) (cwV 0 hts (goodL gL_law_X14_thrown) rfl rfl rfl (by decide +kernel) ⟨by decide, by decide⟩) hK hN hP hS (ci := 19) (q0 := 0) rfl rfl rfl rfl hl.1 rfl (Nat.le_of_ble_eq_true rfl) dL_law_1717 ⟨Nat.le_of_ble_eq_true rfl, Nat.le_of_ble_eq_true rfl⟩ (fun H locs hP hS => ?_)
  refine lv_iload hx hb dL_law_1720 (lv_at hl 1 rfl) ?_
  refine lv_icmp_eq (tgt := 1727) hx hb dL_law_1722 (by decide) (fun _ => ?_) (fun c => absurd (by decide) c)
  refine lv_iload hx hb dL_law_1727 (lv_at hl 1 rfl) ?_
  refine lv_if_ne (tgt := 1744) hx hb dL_law_1729 (by decide) (fun _ => ?_) (fun c => absurd c (by decide))
  refine lv_goto (tgt := 3117) hx hb dL_law_1744 (by decide) ?_
  refine W.widen (k := 1000) (n := 10000) (Nat.le_of_ble_eq_true rfl) (Nat.le_of_ble_eq_true rfl) ?_
  exact hE _ _ _ hS (lv_sub hl [2, 3, 4, 5, 6, 7] rfl)

set_option maxRecDepth 100000 in
set_option maxHeartbeats 4000000 in
theorem law_reserved_0m {p : Program} {e : Env} {s : State} {m : MethodId} {below : List Frame} {meth : Method} {c : Code} {l : Launch} (hfl : l.stackTraces = false) {b : Nat} {xs : Nat → Int32} {D : va_G} {cy : Nat → ClassId} {eda ca : Nat} {ia : Nat → Nat} (C0 : LawAt p s m meth c b xs D cy eda ca ia) {am : Nat → Nat} {ad : Nat → Nat} {rw_ : Nat → Nat → Option Nat} {w : va_W} (F : FrC cy ad rw_ w) {oa od : Nat} (hE : LawEnd p l e s m below meth c b (ad 0) (am 0) oa od) (j : Nat) (hj : j < 8) (e1 : xs 1 = nI j) (e2 : xs 2 = -1) : LGoal p l e s m below meth c b D cy am eda w (ad 0) oa od 1679 := by
  obtain ⟨hx, hb, hml, hown, hts, hX, hbl, hK, hN, hT, hJS⟩ := id C0
  have hA : ∀ q : Nat, s.heap.size ≤ q → (fun q => s.heap.size ≤ q) q := fun _ h => h
  have hbA : ¬ (fun q => s.heap.size ≤ q) b := Nat.not_le.mpr hbl
  intro H locs ls hP hD hS hl
  refine lv_aload_n hx hb dL_law_1679 rfl (lv_at hl 4 rfl) ?_
  refine lv_aload_n hx hb dL_law_1680 rfl (lv_at hl 5 rfl) ?_
  refine lv_iload hx hb dL_law_1681 (lv_at hl 0 rfl) ?_
  refine lv_iconst (v := 1) hx hb dL_law_1683 (by decide) ?_
  refine lv_iadd hx hb dL_law_1684 ?_
  refine lv_topi (fun y ey => ?_)
  obtain rfl : y = 1 := ey.trans (by decide)
  refine va_sld hx hb hX hbl hbA hS (by unfold vp_in; decide) dL_law_1685 ?_
  refine lv_topi (fun y ey => ?_)
  obtain rfl : y = nI j := ey.trans ((congrArg xs (by decide)).trans e1)
  refine lv_aload_n hx hb dL_law_1686 rfl (lv_at hl 5 rfl) ?_
  refine lv_iload hx hb dL_law_1687 (lv_at hl 0 rfl) ?_
  refine lv_iconst (v := 2) hx hb dL_law_1689 (by decide) ?_
  refine lv_iadd hx hb dL_law_1690 ?_
  refine lv_topi (fun y ey => ?_)
  obtain rfl : y = 2 := ey.trans (by decide)
  refine va_sld hx hb hX hbl hbA hS (by unfold vp_in; decide) dL_law_1691 ?_
  refine lv_topi (fun y ey => ?_)
  obtain rfl : y = (-1) := ey.trans ((congrArg xs (by decide)).trans e2)
  refine lv_aload_n hx hb dL_law_1692 rfl (lv_at hl 2 rfl) ?_
  refine mw_callS (wr := WM cy am eda 0) (wc := OCL cy oa :: w) (As := [.ref (ad 0), .int (nI j), .int (-1), .ref oa]) (rest := []) ⟨hx, hb, hml, hown, hts⟩ (w_reserved_0m l D cy F oa (fun _ => 0) _ j hj) (vx_cwSW 4 hts (goodLW gL_law_L_reserved) rfl rfl rfl (by decide +kernel) ⟨by decide, by decide⟩) hK hN hT (fun q hq => hS.2.1 q hq (Nat.not_le.mpr hq)) hP hD hS hA rfl hl.1 rfl (Nat.le_of_ble_eq_true rfl) dL_law_1693 ⟨Nat.le_of_ble_eq_true rfl, Nat.le_of_ble_eq_true rfl⟩ (fun H locs hB hJ hS => ?_)
  obtain ⟨hP, hD⟩ := hJ [(oa, .inl (cy 2, 1, .inr (.inl (vp_updL (fun _ => 0) 0 (0)))))] hB (my_d1 (my_in1 (ko := 0) rfl))
  have hP := hP.sub (ws' := [(oa, .inl (cy 2, 1, .inr (.inl (vp_updL (fun _ => 0) 0 (0)))))] ++ WM cy am eda 0) [14, 0, 1, 2, 3, 4, 5, 6, 7, 8, 9, 10, 11, 12, 13] rfl
  have hD := hD.sub (ws' := [(oa, .inl (cy 2, 1, .inr (.inl (vp_updL (fun _ => 0) 0 (0)))))] ++ WM cy am eda 0) [14, 0, 1, 2, 3, 4, 5, 6, 7, 8, 9, 10, 11, 12, 13] (by decide) rfl
  refine lv_istore (lv' := [(6, .int 0), (5, .int 0), (4, .ref od), (3, .ref oa), (2, .ref (am 0)), (1, .ref (ad 0)), (0, .ref b)]) hx hb dL_law_1696 hl (by decide) rfl (fun ls hl => ?_)
  refine lv_aload_n hx hb dL_law_1698 rfl (lv_at hl 4 rfl) ?_
  refine lv_aload_n hx hb dL_law_1699 rfl (lv_at hl 6 rfl) ?_
  refine lv_iload hx hb dL_law_1700 (lv_at hl 1 rfl) ?_
  refine lv_iconst (v := 1) hx hb dL_law_1702 (by decide) ?_
  refine lv_iadd hx hb dL_law_1703 ?_
  refine lv_topi (fun y ey => ?_)
  obtain rfl : y = 1 := ey.trans (by decide)
  refine va_sld hx hb hX hbl hbA hS (by unfold vp_in; decide) dL_law_1704 ?_
  refine lv_topi (fun y ey => ?_)
  obtain rfl : y = nI j := ey.trans ((congrArg xs (by decide)).trans e1)
  refine lv_aload_n hx hb dL_law_1705 rfl (lv_at hl 6 rfl) ?_
  refine lv_iload hx hb dL_law_1706 (lv_at hl 1 rfl) ?_
  refine lv_iconst (v := 2) hx hb dL_law_1708 (by decide) ?_
  refine lv_iadd hx hb dL_law_1709 ?_
  refine lv_topi (fun y ey => ?_)
  obtain rfl : y = 2 := ey.trans (by decide)
  refine va_sld hx hb hX hbl hbA hS (by unfold vp_in; decide) dL_law_1710 ?_
  refine lv_topi (fun y ey => ?_)
  obtain rfl : y = (-1) := ey.trans ((congrArg xs (by decide)).trans e2)
  refine mj_callV (wr := [(oa, .inl (cy 2, 1, .inr (.inl (vp_updL (fun _ => 0) 0 (0)))))]) (wc := WM cy am eda 0) (As := [.int (nI j), .int (-1)]) (rest := []) ⟨hx, hb, hml, hown, hts⟩ (a_reserved_0m l D cy _ j hj) (cwV 2 hts (goodL gL_law_X14_reserved) rfl rfl rfl (by decide +kernel) ⟨by decide, by decide⟩) hK hN hP hD hS hA hJS (ci := 19) (q0 := 0) rfl rfl rfl rfl hl.1 rfl (Nat.le_of_ble_eq_true rfl) dL_law_1711 ⟨Nat.le_of_ble_eq_true rfl, Nat.le_of_ble_eq_true rfl⟩ (fun H locs hB hJ hS => ?_)
  obtain ⟨hP1, hD1⟩ := hB
  obtain ⟨hP, hD⟩ := hJ _ hP1 hD1
  have hP : va_P D vwCl [(oa, .inl (cy 2, 1, .inr (.inl (vp_updL (fun _ => 0) 0 (0))))), (am 0, .inr (19, [.int 0, .ref (am 1), .ref (am 4), .ref (am 5), .ref (am 6), .ref (am 7), .ref (am 8), .int 0, .ref (am 9), .int 0, .int (-1), .int 100, .ref (am 10), .long 0, .int 0, .int 0, .int 0, .int 0, .long 0]))] H := hP
  have hD : va_D (fun q => s.heap.size ≤ q) [(oa, .inl (cy 2, 1, .inr (.inl (vp_updL (fun _ => 0) 0 (0))))), (am 0, .inr (19, [.int 0, .ref (am 1), .ref (am 4), .ref (am 5), .ref (am 6), .ref (am 7), .ref (am 8), .int 0, .ref (am 9), .int 0, .int (-1), .int 100, .ref (am 10), .long 0, .int 0, .int 0, .int 0, .int 0, .long 0]))] := hD
  refine lv_istore (lv' := [(7, .int 0), (6, .int 0), (5, .int 0), (4, .ref od), (3, .ref oa), (2, .ref (am 0)), (1, .ref (ad 0)), (0, .ref b)]) hx hb dL_law_1714 hl (by decide) rfl (fun ls hl => ?_)
  refine lv_aload_n hx hb dL_law_1716 rfl (lv_at hl 5 rfl) ?_
  refine ro_callV (As := []) (rest := []) ⟨hx, hb, hml, hown, hts⟩ (c_thrown l D cy _ 1 (am 0) 0 [.ref (am 1), .ref (am 4), .ref (am 5), .ref (am 6), .ref (am 7), .ref (am 8), .int 0, .ref (am 9), .int 0, .int (-1), .int 100, .ref (am 10), .long 0, .int 0, .int 0, .int 0, .int 0, .long 0] rfl) (cwV 0 hts (goodL gL_law_X14_thrown) rfl rfl rfl (by decide +kernel) ⟨by decide, by decide⟩) hK hN hP hS (ci := 19) (q0 := 1) rfl rfl rfl rfl hl.1 rfl (Nat.le_of_ble_eq_true rfl) dL_law_1717 ⟨Nat.le_of_ble_eq_true rfl, Nat.le_of_ble_eq_true rfl⟩ (fun H locs hP hS => ?_)
  refine lv_iload hx hb dL_law_1720 (lv_at hl 1 rfl) ?_
  refine lv_icmp_eq (tgt := 1727) hx hb dL_law_1722 (by decide) (fun _ => ?_) (fun c => absurd (by decide) c)
  refine lv_iload hx hb dL_law_1727 (lv_at hl 1 rfl) ?_
  refine lv_if_ne (tgt := 1744) hx hb dL_law_1729 (by decide) (fun c => absurd (by decide) c) (fun _ => ?_)
  refine lv_aload_n hx hb dL_law_1732 rfl (lv_at hl 4 rfl) ?_
  refine lv_iconst (v := 0) hx hb dL_law_1733 (by decide) ?_
  refine va_lald hx hb hK hP 0 2 rfl rfl (by unfold vp_in; decide) dL_law_1734 ?_
  refine lv_topl (fun y ey => ?_)
  obtain rfl : y = 0 := ey.trans (my_rd0 _ _)
  refine lv_iload hx hb dL_law_1735 (lv_at hl 0 rfl) ?_
  refine lv_i2l (v := 0) hx hb dL_law_1737 (by decide) ?_
  refine W.lcmp hx hb dL_law_1738 ?_
  refine lv_topi (fun y ey => ?_)
  obtain rfl : y = 0 := ey.trans (my_cmp _)
  refine lv_if_eq (tgt := 1744) hx hb dL_law_1739 (by decide) (fun _ => ?_) (fun c => absurd (by decide) c)
  refine lv_goto (tgt := 3117) hx hb dL_law_1744 (by decide) ?_
  refine W.widen (k := 1000) (n := 10000) (Nat.le_of_ble_eq_true rfl) (Nat.le_of_ble_eq_true rfl) ?_
  exact hE _ _ _ hS (lv_sub hl [2, 3, 4, 5, 6, 7] rfl)

set_option maxRecDepth 100000 in
set_option maxHeartbeats 4000000 in
theorem law_reserved_00 {p : Program} {e : Env} {s : State} {m : MethodId} {below : List Frame} {meth : Method} {c : Code} {l : Launch} (hfl : l.stackTraces = false) {b : Nat} {xs : Nat → Int32} {D : va_G} {cy : Nat → ClassId} {eda ca : Nat} {ia : Nat → Nat} (C0 : LawAt p s m meth c b xs D cy eda ca ia) {am : Nat → Nat} {ad : Nat → Nat} {rw_ : Nat → Nat → Option Nat} {w : va_W} (F : FrC cy ad rw_ w) {oa od : Nat} (hE : LawEnd p l e s m below meth c b (ad 0) (am 0) oa od) (j : Nat) (hj : j < 8) (e1 : xs 1 = nI j) (e2 : xs 2 = 0) : LGoal p l e s m below meth c b D cy am eda w (ad 0) oa od 1679 := by
  obtain ⟨hx, hb, hml, hown, hts, hX, hbl, hK, hN, hT, hJS⟩ := id C0
  have hA : ∀ q : Nat, s.heap.size ≤ q → (fun q => s.heap.size ≤ q) q := fun _ h => h
  have hbA : ¬ (fun q => s.heap.size ≤ q) b := Nat.not_le.mpr hbl
  intro H locs ls hP hD hS hl
  refine lv_aload_n hx hb dL_law_1679 rfl (lv_at hl 4 rfl) ?_
  refine lv_aload_n hx hb dL_law_1680 rfl (lv_at hl 5 rfl) ?_
  refine lv_iload hx hb dL_law_1681 (lv_at hl 0 rfl) ?_
  refine lv_iconst (v := 1) hx hb dL_law_1683 (by decide) ?_
  refine lv_iadd hx hb dL_law_1684 ?_
  refine lv_topi (fun y ey => ?_)
  obtain rfl : y = 1 := ey.trans (by decide)
  refine va_sld hx hb hX hbl hbA hS (by unfold vp_in; decide) dL_law_1685 ?_
  refine lv_topi (fun y ey => ?_)
  obtain rfl : y = nI j := ey.trans ((congrArg xs (by decide)).trans e1)
  refine lv_aload_n hx hb dL_law_1686 rfl (lv_at hl 5 rfl) ?_
  refine lv_iload hx hb dL_law_1687 (lv_at hl 0 rfl) ?_
  refine lv_iconst (v := 2) hx hb dL_law_1689 (by decide) ?_
  refine lv_iadd hx hb dL_law_1690 ?_
  refine lv_topi (fun y ey => ?_)
  obtain rfl : y = 2 := ey.trans (by decide)
  refine va_sld hx hb hX hbl hbA hS (by unfold vp_in; decide) dL_law_1691 ?_
  refine lv_topi (fun y ey => ?_)
  obtain rfl : y = 0 := ey.trans ((congrArg xs (by decide)).trans e2)
  refine lv_aload_n hx hb dL_law_1692 rfl (lv_at hl 2 rfl) ?_
  refine mw_callS (wr := WM cy am eda 0) (wc := OCL cy oa :: w) (As := [.ref (ad 0), .int (nI j), .int 0, .ref oa]) (rest := []) ⟨hx, hb, hml, hown, hts⟩ (w_reserved_00 l D cy F oa (fun _ => 0) _ j hj) (vx_cwSW 4 hts (goodLW gL_law_L_reserved) rfl rfl rfl (by decide +kernel) ⟨by decide, by decide⟩) hK hN hT (fun q hq => hS.2.1 q hq (Nat.not_le.mpr hq)) hP hD hS hA rfl hl.1 rfl (Nat.le_of_ble_eq_true rfl) dL_law_1693 ⟨Nat.le_of_ble_eq_true rfl, Nat.le_of_ble_eq_true rfl⟩ (fun H locs hB hJ hS => ?_)
  obtain ⟨hP, hD⟩ := hJ [(oa, .inl (cy 2, 1, .inr (.inl (vp_updL (fun _ => 0) 0 (0)))))] hB (my_d1 (my_in1 (ko := 0) rfl))
  have hP := hP.sub (ws' := [(oa, .inl (cy 2, 1, .inr (.inl (vp_updL (fun _ => 0) 0 (0)))))] ++ WM cy am eda 0) [14, 0, 1, 2, 3, 4, 5, 6, 7, 8, 9, 10, 11, 12, 13] rfl
  have hD := hD.sub (ws' := [(oa, .inl (cy 2, 1, .inr (.inl (vp_updL (fun _ => 0) 0 (0)))))] ++ WM cy am eda 0) [14, 0, 1, 2, 3, 4, 5, 6, 7, 8, 9, 10, 11, 12, 13] (by decide) rfl
  refine lv_istore (lv' := [(6, .int 0), (5, .int 0), (4, .ref od), (3, .ref oa), (2, .ref (am 0)), (1, .ref (ad 0)), (0, .ref b)]) hx hb dL_law_1696 hl (by decide) rfl (fun ls hl => ?_)
  refine lv_aload_n hx hb dL_law_1698 rfl (lv_at hl 4 rfl) ?_
  refine lv_aload_n hx hb dL_law_1699 rfl (lv_at hl 6 rfl) ?_
  refine lv_iload hx hb dL_law_1700 (lv_at hl 1 rfl) ?_
  refine lv_iconst (v := 1) hx hb dL_law_1702 (by decide) ?_
  refine lv_iadd hx hb dL_law_1703 ?_
  refine lv_topi (fun y ey => ?_)
  obtain rfl : y = 1 := ey.trans (by decide)
  refine va_sld hx hb hX hbl hbA hS (by unfold vp_in; decide) dL_law_1704 ?_
  refine lv_topi (fun y ey => ?_)
  obtain rfl : y = nI j := ey.trans ((congrArg xs (by decide)).trans e1)
  refine lv_aload_n hx hb dL_law_1705 rfl (lv_at hl 6 rfl) ?_
  refine lv_iload hx hb dL_law_1706 (lv_at hl 1 rfl) ?_
  refine lv_iconst (v := 2) hx hb dL_law_1708 (by decide) ?_
  refine lv_iadd hx hb dL_law_1709 ?_
  refine lv_topi (fun y ey => ?_)
  obtain rfl : y = 2 := ey.trans (by decide)
  refine va_sld hx hb hX hbl hbA hS (by unfold vp_in; decide) dL_law_1710 ?_
  refine lv_topi (fun y ey => ?_)
  obtain rfl : y = 0 := ey.trans ((congrArg xs (by decide)).trans e2)
  refine mj_callV (wr := [(oa, .inl (cy 2, 1, .inr (.inl (vp_updL (fun _ => 0) 0 (0)))))]) (wc := WM cy am eda 0) (As := [.int (nI j), .int 0]) (rest := []) ⟨hx, hb, hml, hown, hts⟩ (a_reserved_00 l D cy _ j hj) (cwV 2 hts (goodL gL_law_X14_reserved) rfl rfl rfl (by decide +kernel) ⟨by decide, by decide⟩) hK hN hP hD hS hA hJS (ci := 19) (q0 := 0) rfl rfl rfl rfl hl.1 rfl (Nat.le_of_ble_eq_true rfl) dL_law_1711 ⟨Nat.le_of_ble_eq_true rfl, Nat.le_of_ble_eq_true rfl⟩ (fun H locs hB hJ hS => ?_)
  obtain ⟨hP1, hD1⟩ := hB
  obtain ⟨hP, hD⟩ := hJ _ hP1 hD1
  have hP : va_P D vwCl [(oa, .inl (cy 2, 1, .inr (.inl (vp_updL (fun _ => 0) 0 (0))))), (am 0, .inr (19, [.int 0, .ref (am 1), .ref (am 4), .ref (am 5), .ref (am 6), .ref (am 7), .ref (am 8), .int 0, .ref (am 9), .int 0, .int (-1), .int 100, .ref (am 10), .long 0, .int 0, .int 0, .int 0, .int 0, .long 0]))] H := hP
  have hD : va_D (fun q => s.heap.size ≤ q) [(oa, .inl (cy 2, 1, .inr (.inl (vp_updL (fun _ => 0) 0 (0))))), (am 0, .inr (19, [.int 0, .ref (am 1), .ref (am 4), .ref (am 5), .ref (am 6), .ref (am 7), .ref (am 8), .int 0, .ref (am 9), .int 0, .int (-1), .int 100, .ref (am 10), .long 0, .int 0, .int 0, .int 0, .int 0, .long 0]))] := hD
  refine lv_istore (lv' := [(7, .int 0), (6, .int 0), (5, .int 0), (4, .ref od), (3, .ref oa), (2, .ref (am 0)), (1, .ref (ad 0)), (0, .ref b)]) hx hb dL_law_1714 hl (by decide) rfl (fun ls hl => ?_)
  refine lv_aload_n hx hb dL_law_1716 rfl (lv_at hl 5 rfl) ?_
  refine ro_callV (As := []) (rest := []) ⟨hx, hb, hml, hown, hts⟩ (c_thrown l D cy _ 1 (am 0) 0 [.ref (am 1), .ref (am 4), .ref (am 5), .ref (am 6), .ref (am 7), .ref (am 8), .int 0, .ref (am 9), .int 0, .int (-1), .int 100, .ref (am 10), .long 0, .int 0, .int 0, .int 0, .int 0, .long 0] rfl) (cwV 0 hts (goodL gL_law_X14_thrown) rfl rfl rfl (by decide +kernel) ⟨by decide, by decide⟩) hK hN hP hS (ci := 19) (q0 := 1) rfl rfl rfl rfl hl.1 rfl (Nat.le_of_ble_eq_true rfl) dL_law_1717 ⟨Nat.le_of_ble_eq_true rfl, Nat.le_of_ble_eq_true rfl⟩ (fun H locs hP hS => ?_)
  refine lv_iload hx hb dL_law_1720 (lv_at hl 1 rfl) ?_
  refine lv_icmp_eq (tgt := 1727) hx hb dL_law_1722 (by decide) (fun _ => ?_) (fun c => absurd (by decide) c)
  refine lv_iload hx hb dL_law_1727 (lv_at hl 1 rfl) ?_
  refine lv_if_ne (tgt := 1744) hx hb dL_law_1729 (by decide) (fun c => absurd (by decide) c) (fun _ => ?_)
  refine lv_aload_n hx hb dL_law_1732 rfl (lv_at hl 4 rfl) ?_
  refine lv_iconst (v := 0) hx hb dL_law_1733 (by decide) ?_
  refine va_lald hx hb hK hP 0 2 rfl rfl (by unfold vp_in; decide) dL_law_1734 ?_
  refine lv_topl (fun y ey => ?_)
  obtain rfl : y = 0 := ey.trans (my_rd0 _ _)
  refine lv_iload hx hb dL_law_1735 (lv_at hl 0 rfl) ?_
  refine lv_i2l (v := 0) hx hb dL_law_1737 (by decide) ?_
  refine W.lcmp hx hb dL_law_1738 ?_
  refine lv_topi (fun y ey => ?_)
  obtain rfl : y = 0 := ey.trans (my_cmp _)
  refine lv_if_eq (tgt := 1744) hx hb dL_law_1739 (by decide) (fun _ => ?_) (fun c => absurd (by decide) c)
  refine lv_goto (tgt := 3117) hx hb dL_law_1744 (by decide) ?_
  refine W.widen (k := 1000) (n := 10000) (Nat.le_of_ble_eq_true rfl) (Nat.le_of_ble_eq_true rfl) ?_
  exact hE _ _ _ hS (lv_sub hl [2, 3, 4, 5, 6, 7] rfl)

set_option maxRecDepth 100000 in
set_option maxHeartbeats 4000000 in
theorem law_reserved_2 {p : Program} {e : Env} {s : State} {m : MethodId} {below : List Frame} {meth : Method} {c : Code} {l : Launch} (hfl : l.stackTraces = false) {b : Nat} {xs : Nat → Int32} {D : va_G} {cy : Nat → ClassId} {eda ca : Nat} {ia : Nat → Nat} (C0 : LawAt p s m meth c b xs D cy eda ca ia) {am : Nat → Nat} {ad : Nat → Nat} {rw_ : Nat → Nat → Option Nat} {w : va_W} (F : FrC cy ad rw_ w) {oa od : Nat} (hE : LawEnd p l e s m below meth c b (ad 0) (am 0) oa od) (j : Nat) (hj : j < 8) (e1 : xs 1 = nI j) (hm : ¬ xs 2 = -1) (hd : ¬ xs 2 = 0) : LGoal p l e s m below meth c b D cy am eda w (ad 0) oa od 1679 := by
  obtain ⟨hx, hb, hml, hown, hts, hX, hbl, hK, hN, hT, hJS⟩ := id C0
  have hA : ∀ q : Nat, s.heap.size ≤ q → (fun q => s.heap.size ≤ q) q := fun _ h => h
  have hbA : ¬ (fun q => s.heap.size ≤ q) b := Nat.not_le.mpr hbl
  intro H locs ls hP hD hS hl
  refine lv_aload_n hx hb dL_law_1679 rfl (lv_at hl 4 rfl) ?_
  refine lv_aload_n hx hb dL_law_1680 rfl (lv_at hl 5 rfl) ?_
  refine lv_iload hx hb dL_law_1681 (lv_at hl 0 rfl) ?_
  refine lv_iconst (v := 1) hx hb dL_law_1683 (by decide) ?_
  refine lv_iadd hx hb dL_law_1684 ?_
  refine lv_topi (fun y ey => ?_)
  obtain rfl : y = 1 := ey.trans (by decide)
  refine va_sld hx hb hX hbl hbA hS (by unfold vp_in; decide) dL_law_1685 ?_
  refine lv_topi (fun y ey => ?_)
  obtain rfl : y = nI j := ey.trans ((congrArg xs (by decide)).trans e1)
  refine lv_aload_n hx hb dL_law_1686 rfl (lv_at hl 5 rfl) ?_
  refine lv_iload hx hb dL_law_1687 (lv_at hl 0 rfl) ?_
  refine lv_iconst (v := 2) hx hb dL_law_1689 (by decide) ?_
  refine lv_iadd hx hb dL_law_1690 ?_
  refine lv_topi (fun y ey => ?_)
  obtain rfl : y = 2 := ey.trans (by decide)
  refine va_sld hx hb hX hbl hbA hS (by unfold vp_in; decide) dL_law_1691 ?_
  refine lv_topi (fun y ey => ?_)
  obtain rfl : y = xs 2 := ey.trans (congrArg xs (by decide))
  refine lv_aload_n hx hb dL_law_1692 rfl (lv_at hl 2 rfl) ?_
  refine mw_callS (wr := WM cy am eda 0) (wc := OCL cy oa :: w) (As := [.ref (ad 0), .int (nI j), .int (xs 2), .ref oa]) (rest := []) ⟨hx, hb, hml, hown, hts⟩ (w_reserved_2 l D cy F hfl oa (fun _ => 0) _ j (xs 2) hj hm hd) (vx_cwSW 4 hts (goodLW gL_law_L_reserved) rfl rfl rfl (by decide +kernel) ⟨by decide, by decide⟩) hK hN hT (fun q hq => hS.2.1 q hq (Nat.not_le.mpr hq)) hP hD hS hA rfl hl.1 rfl (Nat.le_of_ble_eq_true rfl) dL_law_1693 ⟨Nat.le_of_ble_eq_true rfl, Nat.le_of_ble_eq_true rfl⟩ (fun H locs hB hJ hS => ?_)
  obtain ⟨hP, hD⟩ := hJ [] (fun k q h => by simp at h) ⟨fun i j p q h => by simp at h, fun k q h => by simp at h⟩
  have hP : va_P D vwCl (WM cy am eda 0) H := hP
  have hD : va_D (fun q => s.heap.size ≤ q) (WM cy am eda 0) := hD
  refine lv_istore (lv' := [(6, .int 2), (5, .int 0), (4, .ref od), (3, .ref oa), (2, .ref (am 0)), (1, .ref (ad 0)), (0, .ref b)]) hx hb dL_law_1696 hl (by decide) rfl (fun ls hl => ?_)
  refine lv_aload_n hx hb dL_law_1698 rfl (lv_at hl 4 rfl) ?_
  refine lv_aload_n hx hb dL_law_1699 rfl (lv_at hl 6 rfl) ?_
  refine lv_iload hx hb dL_law_1700 (lv_at hl 1 rfl) ?_
  refine lv_iconst (v := 1) hx hb dL_law_1702 (by decide) ?_
  refine lv_iadd hx hb dL_law_1703 ?_
  refine lv_topi (fun y ey => ?_)
  obtain rfl : y = 1 := ey.trans (by decide)
  refine va_sld hx hb hX hbl hbA hS (by unfold vp_in; decide) dL_law_1704 ?_
  refine lv_topi (fun y ey => ?_)
  obtain rfl : y = nI j := ey.trans ((congrArg xs (by decide)).trans e1)
  refine lv_aload_n hx hb dL_law_1705 rfl (lv_at hl 6 rfl) ?_
  refine lv_iload hx hb dL_law_1706 (lv_at hl 1 rfl) ?_
  refine lv_iconst (v := 2) hx hb dL_law_1708 (by decide) ?_
  refine lv_iadd hx hb dL_law_1709 ?_
  refine lv_topi (fun y ey => ?_)
  obtain rfl : y = 2 := ey.trans (by decide)
  refine va_sld hx hb hX hbl hbA hS (by unfold vp_in; decide) dL_law_1710 ?_
  refine lv_topi (fun y ey => ?_)
  obtain rfl : y = xs 2 := ey.trans (congrArg xs (by decide))
  refine mj_callV (wr := []) (wc := WM cy am eda 0) (As := [.int (nI j), .int (xs 2)]) (rest := []) ⟨hx, hb, hml, hown, hts⟩ (a_reserved_2 l D cy _ j (xs 2) hj hm hd) (cwV 2 hts (goodL gL_law_X14_reserved) rfl rfl rfl (by decide +kernel) ⟨by decide, by decide⟩) hK hN hP hD hS hA hJS (ci := 19) (q0 := 0) rfl rfl rfl rfl hl.1 rfl (Nat.le_of_ble_eq_true rfl) dL_law_1711 ⟨Nat.le_of_ble_eq_true rfl, Nat.le_of_ble_eq_true rfl⟩ (fun H locs hB hJ hS => ?_)
  obtain ⟨hP1, hD1⟩ := hB
  obtain ⟨hP, hD⟩ := hJ _ hP1 hD1
  have hP : va_P D vwCl [(am 0, .inr (19, [.int 2, .ref (am 1), .ref (am 4), .ref (am 5), .ref (am 6), .ref (am 7), .ref (am 8), .int 0, .ref (am 9), .int 0, .int (-1), .int 100, .ref (am 10), .long 0, .int 0, .int 0, .int 0, .int 0, .long 0]))] H := hP
  have hD : va_D (fun q => s.heap.size ≤ q) [(am 0, .inr (19, [.int 2, .ref (am 1), .ref (am 4), .ref (am 5), .ref (am 6), .ref (am 7), .ref (am 8), .int 0, .ref (am 9), .int 0, .int (-1), .int 100, .ref (am 10), .long 0, .int 0, .int 0, .int 0, .int 0, .long 0]))] := hD
  refine lv_istore (lv' := [(7, .int 0), (6, .int 2), (5, .int 0), (4, .ref od), (3, .ref oa), (2, .ref (am 0)), (1, .ref (ad 0)), (0, .ref b)]) hx hb dL_law_1714 hl (by decide) rfl (fun ls hl => ?_)
  refine lv_aload_n hx hb dL_law_1716 rfl (lv_at hl 5 rfl) ?_
  refine ro_callV (As := []) (rest := []) ⟨hx, hb, hml, hown, hts⟩ (c_thrown l D cy _ 0 (am 0) 2 [.ref (am 1), .ref (am 4), .ref (am 5), .ref (am 6), .ref (am 7), .ref (am 8), .int 0, .ref (am 9), .int 0, .int (-1), .int 100, .ref (am 10), .long 0, .int 0, .int 0, .int 0, .int 0, .long 0] rfl) (cwV 0 hts (goodL gL_law_X14_thrown) rfl rfl rfl (by decide +kernel) ⟨by decide, by decide⟩) hK hN hP hS (ci := 19) (q0 := 0) rfl rfl rfl rfl hl.1 rfl (Nat.le_of_ble_eq_true rfl) dL_law_1717 ⟨Nat.le_of_ble_eq_true rfl, Nat.le_of_ble_eq_true rfl⟩ (fun H locs hP hS => ?_)
  refine lv_iload hx hb dL_law_1720 (lv_at hl 1 rfl) ?_
  refine lv_icmp_eq (tgt := 1727) hx hb dL_law_1722 (by decide) (fun _ => ?_) (fun c => absurd (by decide) c)
  refine lv_iload hx hb dL_law_1727 (lv_at hl 1 rfl) ?_
  refine lv_if_ne (tgt := 1744) hx hb dL_law_1729 (by decide) (fun _ => ?_) (fun c => absurd c (by decide))
  refine lv_goto (tgt := 3117) hx hb dL_law_1744 (by decide) ?_
  refine W.widen (k := 1000) (n := 10000) (Nat.le_of_ble_eq_true rfl) (Nat.le_of_ble_eq_true rfl) ?_
  exact hE _ _ _ hS (lv_sub hl [2, 3, 4, 5, 6, 7] rfl)

set_option maxRecDepth 100000 in
set_option maxHeartbeats 4000000 in
theorem law_ask_1 {p : Program} {e : Env} {s : State} {m : MethodId} {below : List Frame} {meth : Method} {c : Code} {l : Launch} (hfl : l.stackTraces = false) {b : Nat} {xs : Nat → Int32} {D : va_G} {cy : Nat → ClassId} {eda ca : Nat} {ia : Nat → Nat} (C0 : LawAt p s m meth c b xs D cy eda ca ia) {am : Nat → Nat} {ad : Nat → Nat} {rw_ : Nat → Nat → Option Nat} {w : va_W} (F : FrC cy ad rw_ w) {oa od : Nat} (hE : LawEnd p l e s m below meth c b (ad 0) (am 0) oa od) : LGoal p l e s m below meth c b D cy am eda w (ad 0) oa od 1803 := by
  obtain ⟨hx, hb, hml, hown, hts, hX, hbl, hK, hN, hT, hJS⟩ := id C0
  have hA : ∀ q : Nat, s.heap.size ≤ q → (fun q => s.heap.size ≤ q) q := fun _ h => h
  have hbA : ¬ (fun q => s.heap.size ≤ q) b := Nat.not_le.mpr hbl
  intro H locs ls hP hD hS hl
  refine lv_aload_n hx hb dL_law_1803 rfl (lv_at hl 4 rfl) ?_
  refine lv_aload_n hx hb dL_law_1804 rfl (lv_at hl 5 rfl) ?_
  refine lv_iload hx hb dL_law_1805 (lv_at hl 0 rfl) ?_
  refine lv_iconst (v := 1) hx hb dL_law_1807 (by decide) ?_
  refine lv_iadd hx hb dL_law_1808 ?_
  refine lv_topi (fun y ey => ?_)
  obtain rfl : y = 1 := ey.trans (by decide)
  refine va_sld hx hb hX hbl hbA hS (by unfold vp_in; decide) dL_law_1809 ?_
  refine lv_topi (fun y ey => ?_)
  obtain rfl : y = xs 1 := ey.trans (congrArg xs (by decide))
  refine lv_aload_n hx hb dL_law_1810 rfl (lv_at hl 5 rfl) ?_
  refine lv_iload hx hb dL_law_1811 (lv_at hl 0 rfl) ?_
  refine lv_iconst (v := 2) hx hb dL_law_1813 (by decide) ?_
  refine lv_iadd hx hb dL_law_1814 ?_
  refine lv_topi (fun y ey => ?_)
  obtain rfl : y = 2 := ey.trans (by decide)
  refine va_sld hx hb hX hbl hbA hS (by unfold vp_in; decide) dL_law_1815 ?_
  refine lv_topi (fun y ey => ?_)
  obtain rfl : y = xs 2 := ey.trans (congrArg xs (by decide))
  refine lv_aload_n hx hb dL_law_1816 rfl (lv_at hl 2 rfl) ?_
  refine mw_callS (wr := WM cy am eda 0) (wc := OCL cy oa :: w) (As := [.ref (ad 0), .int (xs 1), .int (xs 2), .ref oa]) (rest := []) ⟨hx, hb, hml, hown, hts⟩ (w_ask_1 l D cy F hfl oa (fun _ => 0) _ (xs 1) (xs 2)) (vx_cwSW 4 hts (goodLW gL_law_L_ask) rfl rfl rfl (by decide +kernel) ⟨by decide, by decide⟩) hK hN hT (fun q hq => hS.2.1 q hq (Nat.not_le.mpr hq)) hP hD hS hA rfl hl.1 rfl (Nat.le_of_ble_eq_true rfl) dL_law_1817 ⟨Nat.le_of_ble_eq_true rfl, Nat.le_of_ble_eq_true rfl⟩ (fun H locs hB hJ hS => ?_)
  obtain ⟨hP, hD⟩ := hJ [] (fun k q h => by simp at h) ⟨fun i j p q h => by simp at h, fun k q h => by simp at h⟩
  have hP : va_P D vwCl (WM cy am eda 0) H := hP
  have hD : va_D (fun q => s.heap.size ≤ q) (WM cy am eda 0) := hD
  refine lv_istore (lv' := [(6, .int 1), (5, .int 0), (4, .ref od), (3, .ref oa), (2, .ref (am 0)), (1, .ref (ad 0)), (0, .ref b)]) hx hb dL_law_1820 hl (by decide) rfl (fun ls hl => ?_)
  refine lv_aload_n hx hb dL_law_1822 rfl (lv_at hl 4 rfl) ?_
  refine lv_aload_n hx hb dL_law_1823 rfl (lv_at hl 6 rfl) ?_
  refine lv_iload hx hb dL_law_1824 (lv_at hl 1 rfl) ?_
  refine lv_iconst (v := 1) hx hb dL_law_1826 (by decide) ?_
  refine lv_iadd hx hb dL_law_1827 ?_
  refine lv_topi (fun y ey => ?_)
  obtain rfl : y = 1 := ey.trans (by decide)
  refine va_sld hx hb hX hbl hbA hS (by unfold vp_in; decide) dL_law_1828 ?_
  refine lv_topi (fun y ey => ?_)
  obtain rfl : y = xs 1 := ey.trans (congrArg xs (by decide))
  refine lv_aload_n hx hb dL_law_1829 rfl (lv_at hl 6 rfl) ?_
  refine lv_iload hx hb dL_law_1830 (lv_at hl 1 rfl) ?_
  refine lv_iconst (v := 2) hx hb dL_law_1832 (by decide) ?_
  refine lv_iadd hx hb dL_law_1833 ?_
  refine lv_topi (fun y ey => ?_)
  obtain rfl : y = 2 := ey.trans (by decide)
  refine va_sld hx hb hX hbl hbA hS (by unfold vp_in; decide) dL_law_1834 ?_
  refine lv_topi (fun y ey => ?_)
  obtain rfl : y = xs 2 := ey.trans (congrArg xs (by decide))
  refine mj_callV (wr := []) (wc := WM cy am eda 0) (As := [.int (xs 1), .int (xs 2)]) (rest := []) ⟨hx, hb, hml, hown, hts⟩ (a_ask_1 l D cy _ (xs 1) (xs 2)) (cwV 2 hts (goodL gL_law_X14_ask) rfl rfl rfl (by decide +kernel) ⟨by decide, by decide⟩) hK hN hP hD hS hA hJS (ci := 19) (q0 := 0) rfl rfl rfl rfl hl.1 rfl (Nat.le_of_ble_eq_true rfl) dL_law_1835 ⟨Nat.le_of_ble_eq_true rfl, Nat.le_of_ble_eq_true rfl⟩ (fun H locs hB hJ hS => ?_)
  obtain ⟨hP1, hD1⟩ := hB
  obtain ⟨hP, hD⟩ := hJ _ hP1 hD1
  have hP : va_P D vwCl [(am 0, .inr (19, [.int 1, .ref (am 1), .ref (am 4), .ref (am 5), .ref (am 6), .ref (am 7), .ref (am 8), .int 0, .ref (am 9), .int 0, .int (-1), .int 100, .ref (am 10), .long 0, .int 0, .int 0, .int 0, .int 0, .long 0]))] H := hP
  have hD : va_D (fun q => s.heap.size ≤ q) [(am 0, .inr (19, [.int 1, .ref (am 1), .ref (am 4), .ref (am 5), .ref (am 6), .ref (am 7), .ref (am 8), .int 0, .ref (am 9), .int 0, .int (-1), .int 100, .ref (am 10), .long 0, .int 0, .int 0, .int 0, .int 0, .long 0]))] := hD
  refine lv_istore (lv' := [(7, .int 0), (6, .int 1), (5, .int 0), (4, .ref od), (3, .ref oa), (2, .ref (am 0)), (1, .ref (ad 0)), (0, .ref b)]) hx hb dL_law_1838 hl (by decide) rfl (fun ls hl => ?_)
  refine lv_aload_n hx hb dL_law_1840 rfl (lv_at hl 5 rfl) ?_
  refine ro_callV (As := []) (rest := []) ⟨hx, hb, hml, hown, hts⟩ (c_thrown l D cy _ 0 (am 0) 1 [.ref (am 1), .ref (am 4), .ref (am 5), .ref (am 6), .ref (am 7), .ref (am 8), .int 0, .ref (am 9), .int 0, .int (-1), .int 100, .ref (am 10), .long 0, .int 0, .int 0, .int 0, .int 0, .long 0] rfl) (cwV 0 hts (goodL gL_law_X14_thrown) rfl rfl rfl (by decide +kernel) ⟨by decide, by decide⟩) hK hN hP hS (ci := 19) (q0 := 0) rfl rfl rfl rfl hl.1 rfl (Nat.le_of_ble_eq_true rfl) dL_law_1841 ⟨Nat.le_of_ble_eq_true rfl, Nat.le_of_ble_eq_true rfl⟩ (fun H locs hP hS => ?_)
  refine lv_iload hx hb dL_law_1844 (lv_at hl 1 rfl) ?_
  refine lv_icmp_eq (tgt := 1851) hx hb dL_law_1846 (by decide) (fun _ => ?_) (fun c => absurd (by decide) c)
  refine lv_iload hx hb dL_law_1851 (lv_at hl 1 rfl) ?_
  refine lv_if_ne (tgt := 1868) hx hb dL_law_1853 (by decide) (fun _ => ?_) (fun c => absurd c (by decide))
  refine lv_goto (tgt := 3117) hx hb dL_law_1868 (by decide) ?_
  refine W.widen (k := 1000) (n := 10000) (Nat.le_of_ble_eq_true rfl) (Nat.le_of_ble_eq_true rfl) ?_
  exact hE _ _ _ hS (lv_sub hl [2, 3, 4, 5, 6, 7] rfl)

set_option maxRecDepth 100000 in
set_option maxHeartbeats 4000000 in
theorem law_load_1 {p : Program} {e : Env} {s : State} {m : MethodId} {below : List Frame} {meth : Method} {c : Code} {l : Launch} (hfl : l.stackTraces = false) {b : Nat} {xs : Nat → Int32} {D : va_G} {cy : Nat → ClassId} {eda ca : Nat} {ia : Nat → Nat} (C0 : LawAt p s m meth c b xs D cy eda ca ia) {am : Nat → Nat} {ad : Nat → Nat} {rw_ : Nat → Nat → Option Nat} {w : va_W} (F : FrC cy ad rw_ w) {oa od : Nat} (hE : LawEnd p l e s m below meth c b (ad 0) (am 0) oa od) : LGoal p l e s m below meth c b D cy am eda w (ad 0) oa od 2102 := by
  obtain ⟨hx, hb, hml, hown, hts, hX, hbl, hK, hN, hT, hJS⟩ := id C0
  have hA : ∀ q : Nat, s.heap.size ≤ q → (fun q => s.heap.size ≤ q) q := fun _ h => h
  have hbA : ¬ (fun q => s.heap.size ≤ q) b := Nat.not_le.mpr hbl
  intro H locs ls hP hD hS hl
  refine lv_aload_n hx hb dL_law_2102 rfl (lv_at hl 4 rfl) ?_
  refine lv_aload_n hx hb dL_law_2103 rfl (lv_at hl 5 rfl) ?_
  refine lv_iload hx hb dL_law_2104 (lv_at hl 0 rfl) ?_
  refine lv_iconst (v := 1) hx hb dL_law_2106 (by decide) ?_
  refine lv_iadd hx hb dL_law_2107 ?_
  refine lv_topi (fun y ey => ?_)
  obtain rfl : y = 1 := ey.trans (by decide)
  refine va_sld hx hb hX hbl hbA hS (by unfold vp_in; decide) dL_law_2108 ?_
  refine lv_topi (fun y ey => ?_)
  obtain rfl : y = xs 1 := ey.trans (congrArg xs (by decide))
  refine lv_aload_n hx hb dL_law_2109 rfl (lv_at hl 5 rfl) ?_
  refine lv_iload hx hb dL_law_2110 (lv_at hl 0 rfl) ?_
  refine lv_iconst (v := 2) hx hb dL_law_2112 (by decide) ?_
  refine lv_iadd hx hb dL_law_2113 ?_
  refine lv_topi (fun y ey => ?_)
  obtain rfl : y = 2 := ey.trans (by decide)
  refine va_sld hx hb hX hbl hbA hS (by unfold vp_in; decide) dL_law_2114 ?_
  refine lv_topi (fun y ey => ?_)
  obtain rfl : y = xs 2 := ey.trans (congrArg xs (by decide))
  refine lv_aload_n hx hb dL_law_2115 rfl (lv_at hl 2 rfl) ?_
  refine mw_callS (wr := WM cy am eda 0) (wc := OCL cy oa :: w) (As := [.ref (ad 0), .int (xs 1), .int (xs 2), .ref oa]) (rest := []) ⟨hx, hb, hml, hown, hts⟩ (w_load_1 l D cy F hfl oa (fun _ => 0) _ (xs 1) (xs 2)) (vx_cwSW 4 hts (goodLW gL_law_L_load) rfl rfl rfl (by decide +kernel) ⟨by decide, by decide⟩) hK hN hT (fun q hq => hS.2.1 q hq (Nat.not_le.mpr hq)) hP hD hS hA rfl hl.1 rfl (Nat.le_of_ble_eq_true rfl) dL_law_2116 ⟨Nat.le_of_ble_eq_true rfl, Nat.le_of_ble_eq_true rfl⟩ (fun H locs hB hJ hS => ?_)
  obtain ⟨hP, hD⟩ := hJ [] (fun k q h => by simp at h) ⟨fun i j p q h => by simp at h, fun k q h => by simp at h⟩
  have hP : va_P D vwCl (WM cy am eda 0) H := hP
  have hD : va_D (fun q => s.heap.size ≤ q) (WM cy am eda 0) := hD
  refine lv_istore (lv' := [(6, .int 1), (5, .int 0), (4, .ref od), (3, .ref oa), (2, .ref (am 0)), (1, .ref (ad 0)), (0, .ref b)]) hx hb dL_law_2119 hl (by decide) rfl (fun ls hl => ?_)
  refine lv_aload_n hx hb dL_law_2121 rfl (lv_at hl 4 rfl) ?_
  refine lv_aload_n hx hb dL_law_2122 rfl (lv_at hl 6 rfl) ?_
  refine lv_iload hx hb dL_law_2123 (lv_at hl 1 rfl) ?_
  refine lv_iconst (v := 1) hx hb dL_law_2125 (by decide) ?_
  refine lv_iadd hx hb dL_law_2126 ?_
  refine lv_topi (fun y ey => ?_)
  obtain rfl : y = 1 := ey.trans (by decide)
  refine va_sld hx hb hX hbl hbA hS (by unfold vp_in; decide) dL_law_2127 ?_
  refine lv_topi (fun y ey => ?_)
  obtain rfl : y = xs 1 := ey.trans (congrArg xs (by decide))
  refine lv_aload_n hx hb dL_law_2128 rfl (lv_at hl 6 rfl) ?_
  refine lv_iload hx hb dL_law_2129 (lv_at hl 1 rfl) ?_
  refine lv_iconst (v := 2) hx hb dL_law_2131 (by decide) ?_
  refine lv_iadd hx hb dL_law_2132 ?_
  refine lv_topi (fun y ey => ?_)
  obtain rfl : y = 2 := ey.trans (by decide)
  refine va_sld hx hb hX hbl hbA hS (by unfold vp_in; decide) dL_law_2133 ?_
  refine lv_topi (fun y ey => ?_)
  obtain rfl : y = xs 2 := ey.trans (congrArg xs (by decide))
  refine mj_callV (wr := []) (wc := WM cy am eda 0) (As := [.int (xs 1), .int (xs 2)]) (rest := []) ⟨hx, hb, hml, hown, hts⟩ (a_load_1 l D cy _ (xs 1) (xs 2)) (cwV 2 hts (goodL gL_law_X14_load) rfl rfl rfl (by decide +kernel) ⟨by decide, by decide⟩) hK hN hP hD hS hA hJS (ci := 19) (q0 := 0) rfl rfl rfl rfl hl.1 rfl (Nat.le_of_ble_eq_true rfl) dL_law_2134 ⟨Nat.le_of_ble_eq_true rfl, Nat.le_of_ble_eq_true rfl⟩ (fun H locs hB hJ hS => ?_)
  obtain ⟨hP1, hD1⟩ := hB
  obtain ⟨hP, hD⟩ := hJ _ hP1 hD1
  have hP : va_P D vwCl [(am 0, .inr (19, [.int 1, .ref (am 1), .ref (am 4), .ref (am 5), .ref (am 6), .ref (am 7), .ref (am 8), .int 0, .ref (am 9), .int 0, .int (-1), .int 100, .ref (am 10), .long 0, .int 0, .int 0, .int 0, .int 0, .long 0]))] H := hP
  have hD : va_D (fun q => s.heap.size ≤ q) [(am 0, .inr (19, [.int 1, .ref (am 1), .ref (am 4), .ref (am 5), .ref (am 6), .ref (am 7), .ref (am 8), .int 0, .ref (am 9), .int 0, .int (-1), .int 100, .ref (am 10), .long 0, .int 0, .int 0, .int 0, .int 0, .long 0]))] := hD
  refine lv_istore (lv' := [(7, .int 0), (6, .int 1), (5, .int 0), (4, .ref od), (3, .ref oa), (2, .ref (am 0)), (1, .ref (ad 0)), (0, .ref b)]) hx hb dL_law_2137 hl (by decide) rfl (fun ls hl => ?_)
  refine lv_aload_n hx hb dL_law_2139 rfl (lv_at hl 5 rfl) ?_
  refine ro_callV (As := []) (rest := []) ⟨hx, hb, hml, hown, hts⟩ (c_thrown l D cy _ 0 (am 0) 1 [.ref (am 1), .ref (am 4), .ref (am 5), .ref (am 6), .ref (am 7), .ref (am 8), .int 0, .ref (am 9), .int 0, .int (-1), .int 100, .ref (am 10), .long 0, .int 0, .int 0, .int 0, .int 0, .long 0] rfl) (cwV 0 hts (goodL gL_law_X14_thrown) rfl rfl rfl (by decide +kernel) ⟨by decide, by decide⟩) hK hN hP hS (ci := 19) (q0 := 0) rfl rfl rfl rfl hl.1 rfl (Nat.le_of_ble_eq_true rfl) dL_law_2140 ⟨Nat.le_of_ble_eq_true rfl, Nat.le_of_ble_eq_true rfl⟩ (fun H locs hP hS => ?_)
  refine lv_iload hx hb dL_law_2143 (lv_at hl 1 rfl) ?_
  refine lv_icmp_eq (tgt := 2150) hx hb dL_law_2145 (by decide) (fun _ => ?_) (fun c => absurd (by decide) c)
  refine lv_iload hx hb dL_law_2150 (lv_at hl 1 rfl) ?_
  refine lv_if_ne (tgt := 2167) hx hb dL_law_2152 (by decide) (fun _ => ?_) (fun c => absurd c (by decide))
  refine lv_goto (tgt := 3117) hx hb dL_law_2167 (by decide) ?_
  refine W.widen (k := 1000) (n := 10000) (Nat.le_of_ble_eq_true rfl) (Nat.le_of_ble_eq_true rfl) ?_
  exact hE _ _ _ hS (lv_sub hl [2, 3, 4, 5, 6, 7] rfl)

set_option maxRecDepth 100000 in
set_option maxHeartbeats 4000000 in
theorem law_fault_1 {p : Program} {e : Env} {s : State} {m : MethodId} {below : List Frame} {meth : Method} {c : Code} {l : Launch} (hfl : l.stackTraces = false) {b : Nat} {xs : Nat → Int32} {D : va_G} {cy : Nat → ClassId} {eda ca : Nat} {ia : Nat → Nat} (C0 : LawAt p s m meth c b xs D cy eda ca ia) {am : Nat → Nat} {ad : Nat → Nat} {rw_ : Nat → Nat → Option Nat} {w : va_W} (F : FrC cy ad rw_ w) {oa od : Nat} (hE : LawEnd p l e s m below meth c b (ad 0) (am 0) oa od) : LGoal p l e s m below meth c b D cy am eda w (ad 0) oa od 2170 := by
  obtain ⟨hx, hb, hml, hown, hts, hX, hbl, hK, hN, hT, hJS⟩ := id C0
  have hA : ∀ q : Nat, s.heap.size ≤ q → (fun q => s.heap.size ≤ q) q := fun _ h => h
  have hbA : ¬ (fun q => s.heap.size ≤ q) b := Nat.not_le.mpr hbl
  intro H locs ls hP hD hS hl
  refine lv_aload_n hx hb dL_law_2170 rfl (lv_at hl 4 rfl) ?_
  refine lv_aload_n hx hb dL_law_2171 rfl (lv_at hl 5 rfl) ?_
  refine lv_iload hx hb dL_law_2172 (lv_at hl 0 rfl) ?_
  refine lv_iconst (v := 1) hx hb dL_law_2174 (by decide) ?_
  refine lv_iadd hx hb dL_law_2175 ?_
  refine lv_topi (fun y ey => ?_)
  obtain rfl : y = 1 := ey.trans (by decide)
  refine va_sld hx hb hX hbl hbA hS (by unfold vp_in; decide) dL_law_2176 ?_
  refine lv_topi (fun y ey => ?_)
  obtain rfl : y = xs 1 := ey.trans (congrArg xs (by decide))
  refine lv_aload_n hx hb dL_law_2177 rfl (lv_at hl 5 rfl) ?_
  refine lv_iload hx hb dL_law_2178 (lv_at hl 0 rfl) ?_
  refine lv_iconst (v := 2) hx hb dL_law_2180 (by decide) ?_
  refine lv_iadd hx hb dL_law_2181 ?_
  refine lv_topi (fun y ey => ?_)
  obtain rfl : y = 2 := ey.trans (by decide)
  refine va_sld hx hb hX hbl hbA hS (by unfold vp_in; decide) dL_law_2182 ?_
  refine lv_topi (fun y ey => ?_)
  obtain rfl : y = xs 2 := ey.trans (congrArg xs (by decide))
  refine lv_aload_n hx hb dL_law_2183 rfl (lv_at hl 5 rfl) ?_
  refine lv_iload hx hb dL_law_2184 (lv_at hl 0 rfl) ?_
  refine lv_iconst (v := 3) hx hb dL_law_2186 (by decide) ?_
  refine lv_iadd hx hb dL_law_2187 ?_
  refine lv_topi (fun y ey => ?_)
  obtain rfl : y = 3 := ey.trans (by decide)
  refine va_sld hx hb hX hbl hbA hS (by unfold vp_in; decide) dL_law_2188 ?_
  refine lv_topi (fun y ey => ?_)
  obtain rfl : y = xs 3 := ey.trans (congrArg xs (by decide))
  refine lv_i2c (v := c16 (xs 3)) hx hb dL_law_2189 rfl ?_
  refine lv_aload_n hx hb dL_law_2190 rfl (lv_at hl 5 rfl) ?_
  refine lv_iload hx hb dL_law_2191 (lv_at hl 0 rfl) ?_
  refine lv_iconst (v := 4) hx hb dL_law_2193 (by decide) ?_
  refine lv_iadd hx hb dL_law_2194 ?_
  refine lv_topi (fun y ey => ?_)
  obtain rfl : y = 4 := ey.trans (by decide)
  refine va_sld hx hb hX hbl hbA hS (by unfold vp_in; decide) dL_law_2195 ?_
  refine lv_topi (fun y ey => ?_)
  obtain rfl : y = xs 4 := ey.trans (congrArg xs (by decide))
  refine lv_aload_n hx hb dL_law_2196 rfl (lv_at hl 2 rfl) ?_
  refine mw_callS (wr := WM cy am eda 0) (wc := OCL cy oa :: w) (As := [.ref (ad 0), .int (xs 1), .int (xs 2), .int (c16 (xs 3)), .int (xs 4), .ref oa]) (rest := []) ⟨hx, hb, hml, hown, hts⟩ (w_fault_1 l D cy F hfl oa (fun _ => 0) _ (xs 1) (xs 2) (c16 (xs 3)) (xs 4)) (vx_cwSW 6 hts (goodLW gL_law_L_fault) rfl rfl rfl (by decide +kernel) ⟨by decide, by decide⟩) hK hN hT (fun q hq => hS.2.1 q hq (Nat.not_le.mpr hq)) hP hD hS hA rfl hl.1 rfl (Nat.le_of_ble_eq_true rfl) dL_law_2197 ⟨Nat.le_of_ble_eq_true rfl, Nat.le_of_ble_eq_true rfl⟩ (fun H locs hB hJ hS => ?_)
  obtain ⟨hP, hD⟩ := hJ [] (fun k q h => by simp at h) ⟨fun i j p q h => by simp at h, fun k q h => by simp at h⟩
  have hP : va_P D vwCl (WM cy am eda 0) H := hP
  have hD : va_D (fun q => s.heap.size ≤ q) (WM cy am eda 0) := hD
  refine lv_istore (lv' := [(6, .int 1), (5, .int 0), (4, .ref od), (3, .ref oa), (2, .ref (am 0)), (1, .ref (ad 0)), (0, .ref b)]) hx hb dL_law_2200 hl (by decide) rfl (fun ls hl => ?_)
  refine lv_aload_n hx hb dL_law_2202 rfl (lv_at hl 4 rfl) ?_
  refine lv_aload_n hx hb dL_law_2203 rfl (lv_at hl 6 rfl) ?_
  refine lv_iload hx hb dL_law_2204 (lv_at hl 1 rfl) ?_
  refine lv_iconst (v := 1) hx hb dL_law_2206 (by decide) ?_
  refine lv_iadd hx hb dL_law_2207 ?_
  refine lv_topi (fun y ey => ?_)
  obtain rfl : y = 1 := ey.trans (by decide)
  refine va_sld hx hb hX hbl hbA hS (by unfold vp_in; decide) dL_law_2208 ?_
  refine lv_topi (fun y ey => ?_)
  obtain rfl : y = xs 1 := ey.trans (congrArg xs (by decide))
  refine lv_aload_n hx hb dL_law_2209 rfl (lv_at hl 6 rfl) ?_
  refine lv_iload hx hb dL_law_2210 (lv_at hl 1 rfl) ?_
  refine lv_iconst (v := 2) hx hb dL_law_2212 (by decide) ?_
  refine lv_iadd hx hb dL_law_2213 ?_
  refine lv_topi (fun y ey => ?_)
  obtain rfl : y = 2 := ey.trans (by decide)
  refine va_sld hx hb hX hbl hbA hS (by unfold vp_in; decide) dL_law_2214 ?_
  refine lv_topi (fun y ey => ?_)
  obtain rfl : y = xs 2 := ey.trans (congrArg xs (by decide))
  refine lv_aload_n hx hb dL_law_2215 rfl (lv_at hl 6 rfl) ?_
  refine lv_iload hx hb dL_law_2216 (lv_at hl 1 rfl) ?_
  refine lv_iconst (v := 3) hx hb dL_law_2218 (by decide) ?_
  refine lv_iadd hx hb dL_law_2219 ?_
  refine lv_topi (fun y ey => ?_)
  obtain rfl : y = 3 := ey.trans (by decide)
  refine va_sld hx hb hX hbl hbA hS (by unfold vp_in; decide) dL_law_2220 ?_
  refine lv_topi (fun y ey => ?_)
  obtain rfl : y = xs 3 := ey.trans (congrArg xs (by decide))
  refine lv_i2c (v := c16 (xs 3)) hx hb dL_law_2221 rfl ?_
  refine lv_aload_n hx hb dL_law_2222 rfl (lv_at hl 6 rfl) ?_
  refine lv_iload hx hb dL_law_2223 (lv_at hl 1 rfl) ?_
  refine lv_iconst (v := 4) hx hb dL_law_2225 (by decide) ?_
  refine lv_iadd hx hb dL_law_2226 ?_
  refine lv_topi (fun y ey => ?_)
  obtain rfl : y = 4 := ey.trans (by decide)
  refine va_sld hx hb hX hbl hbA hS (by unfold vp_in; decide) dL_law_2227 ?_
  refine lv_topi (fun y ey => ?_)
  obtain rfl : y = xs 4 := ey.trans (congrArg xs (by decide))
  refine mj_callV (wr := []) (wc := WM cy am eda 0) (As := [.int (xs 1), .int (xs 2), .int (c16 (xs 3)), .int (xs 4)]) (rest := []) ⟨hx, hb, hml, hown, hts⟩ (a_fault_1 l D cy _ (xs 1) (xs 2) (c16 (xs 3)) (xs 4)) (cwV 4 hts (goodL gL_law_X14_fault) rfl rfl rfl (by decide +kernel) ⟨by decide, by decide⟩) hK hN hP hD hS hA hJS (ci := 19) (q0 := 0) rfl rfl rfl rfl hl.1 rfl (Nat.le_of_ble_eq_true rfl) dL_law_2228 ⟨Nat.le_of_ble_eq_true rfl, Nat.le_of_ble_eq_true rfl⟩ (fun H locs hB hJ hS => ?_)
  obtain ⟨hP1, hD1⟩ := hB
  obtain ⟨hP, hD⟩ := hJ _ hP1 hD1
  have hP : va_P D vwCl [(am 0, .inr (19, [.int 1, .ref (am 1), .ref (am 4), .ref (am 5), .ref (am 6), .ref (am 7), .ref (am 8), .int 0, .ref (am 9), .int 0, .int (-1), .int 100, .ref (am 10), .long 0, .int 0, .int 0, .int 0, .int 0, .long 0]))] H := hP
  have hD : va_D (fun q => s.heap.size ≤ q) [(am 0, .inr (19, [.int 1, .ref (am 1), .ref (am 4), .ref (am 5), .ref (am 6), .ref (am 7), .ref (am 8), .int 0, .ref (am 9), .int 0, .int (-1), .int 100, .ref (am 10), .long 0, .int 0, .int 0, .int 0, .int 0, .long 0]))] := hD
  refine lv_istore (lv' := [(7, .int 0), (6, .int 1), (5, .int 0), (4, .ref od), (3, .ref oa), (2, .ref (am 0)), (1, .ref (ad 0)), (0, .ref b)]) hx hb dL_law_2231 hl (by decide) rfl (fun ls hl => ?_)
  refine lv_aload_n hx hb dL_law_2233 rfl (lv_at hl 5 rfl) ?_
  refine ro_callV (As := []) (rest := []) ⟨hx, hb, hml, hown, hts⟩ (c_thrown l D cy _ 0 (am 0) 1 [.ref (am 1), .ref (am 4), .ref (am 5), .ref (am 6), .ref (am 7), .ref (am 8), .int 0, .ref (am 9), .int 0, .int (-1), .int 100, .ref (am 10), .long 0, .int 0, .int 0, .int 0, .int 0, .long 0] rfl) (cwV 0 hts (goodL gL_law_X14_thrown) rfl rfl rfl (by decide +kernel) ⟨by decide, by decide⟩) hK hN hP hS (ci := 19) (q0 := 0) rfl rfl rfl rfl hl.1 rfl (Nat.le_of_ble_eq_true rfl) dL_law_2234 ⟨Nat.le_of_ble_eq_true rfl, Nat.le_of_ble_eq_true rfl⟩ (fun H locs hP hS => ?_)
  refine lv_iload hx hb dL_law_2237 (lv_at hl 1 rfl) ?_
  refine lv_icmp_eq (tgt := 2244) hx hb dL_law_2239 (by decide) (fun _ => ?_) (fun c => absurd (by decide) c)
  refine lv_iload hx hb dL_law_2244 (lv_at hl 1 rfl) ?_
  refine lv_if_ne (tgt := 2261) hx hb dL_law_2246 (by decide) (fun _ => ?_) (fun c => absurd c (by decide))
  refine lv_goto (tgt := 3117) hx hb dL_law_2261 (by decide) ?_
  refine W.widen (k := 1000) (n := 10000) (Nat.le_of_ble_eq_true rfl) (Nat.le_of_ble_eq_true rfl) ?_
  exact hE _ _ _ hS (lv_sub hl [2, 3, 4, 5, 6, 7] rfl)

set_option maxRecDepth 100000 in
set_option maxHeartbeats 4000000 in
theorem law_left_1 {p : Program} {e : Env} {s : State} {m : MethodId} {below : List Frame} {meth : Method} {c : Code} {l : Launch} (hfl : l.stackTraces = false) {b : Nat} {xs : Nat → Int32} {D : va_G} {cy : Nat → ClassId} {eda ca : Nat} {ia : Nat → Nat} (C0 : LawAt p s m meth c b xs D cy eda ca ia) {am : Nat → Nat} {ad : Nat → Nat} {rw_ : Nat → Nat → Option Nat} {w : va_W} (F : FrC cy ad rw_ w) {oa od : Nat} (hE : LawEnd p l e s m below meth c b (ad 0) (am 0) oa od) (hm : ¬ xs 1 = -1) (hd : ¬ xs 1 = 0) : LGoal p l e s m below meth c b D cy am eda w (ad 0) oa od 2290 := by
  obtain ⟨hx, hb, hml, hown, hts, hX, hbl, hK, hN, hT, hJS⟩ := id C0
  have hA : ∀ q : Nat, s.heap.size ≤ q → (fun q => s.heap.size ≤ q) q := fun _ h => h
  have hbA : ¬ (fun q => s.heap.size ≤ q) b := Nat.not_le.mpr hbl
  intro H locs ls hP hD hS hl
  refine lv_aload_n hx hb dL_law_2290 rfl (lv_at hl 4 rfl) ?_
  refine lv_aload_n hx hb dL_law_2291 rfl (lv_at hl 5 rfl) ?_
  refine lv_iload hx hb dL_law_2292 (lv_at hl 0 rfl) ?_
  refine lv_iconst (v := 1) hx hb dL_law_2294 (by decide) ?_
  refine lv_iadd hx hb dL_law_2295 ?_
  refine lv_topi (fun y ey => ?_)
  obtain rfl : y = 1 := ey.trans (by decide)
  refine va_sld hx hb hX hbl hbA hS (by unfold vp_in; decide) dL_law_2296 ?_
  refine lv_topi (fun y ey => ?_)
  obtain rfl : y = xs 1 := ey.trans (congrArg xs (by decide))
  refine lv_aload_n hx hb dL_law_2297 rfl (lv_at hl 2 rfl) ?_
  refine mw_callS (wr := WM cy am eda 0) (wc := OCL cy oa :: w) (As := [.ref (ad 0), .int (xs 1), .ref oa]) (rest := []) ⟨hx, hb, hml, hown, hts⟩ (w_left_1 l D cy F hfl oa (fun _ => 0) _ (xs 1) hm hd) (vx_cwSW 3 hts (goodLW gL_law_L_left) rfl rfl rfl (by decide +kernel) ⟨by decide, by decide⟩) hK hN hT (fun q hq => hS.2.1 q hq (Nat.not_le.mpr hq)) hP hD hS hA rfl hl.1 rfl (Nat.le_of_ble_eq_true rfl) dL_law_2298 ⟨Nat.le_of_ble_eq_true rfl, Nat.le_of_ble_eq_true rfl⟩ (fun H locs hB hJ hS => ?_)
  obtain ⟨hP, hD⟩ := hJ [] (fun k q h => by simp at h) ⟨fun i j p q h => by simp at h, fun k q h => by simp at h⟩
  have hP : va_P D vwCl (WM cy am eda 0) H := hP
  have hD : va_D (fun q => s.heap.size ≤ q) (WM cy am eda 0) := hD
  refine lv_istore (lv' := [(6, .int 1), (5, .int 0), (4, .ref od), (3, .ref oa), (2, .ref (am 0)), (1, .ref (ad 0)), (0, .ref b)]) hx hb dL_law_2301 hl (by decide) rfl (fun ls hl => ?_)
  refine lv_aload_n hx hb dL_law_2303 rfl (lv_at hl 4 rfl) ?_
  refine lv_aload_n hx hb dL_law_2304 rfl (lv_at hl 6 rfl) ?_
  refine lv_iload hx hb dL_law_2305 (lv_at hl 1 rfl) ?_
  refine lv_iconst (v := 1) hx hb dL_law_2307 (by decide) ?_
  refine lv_iadd hx hb dL_law_2308 ?_
  refine lv_topi (fun y ey => ?_)
  obtain rfl : y = 1 := ey.trans (by decide)
  refine va_sld hx hb hX hbl hbA hS (by unfold vp_in; decide) dL_law_2309 ?_
  refine lv_topi (fun y ey => ?_)
  obtain rfl : y = xs 1 := ey.trans (congrArg xs (by decide))
  refine mj_callV (wr := []) (wc := WM cy am eda 0) (As := [.int (xs 1)]) (rest := []) ⟨hx, hb, hml, hown, hts⟩ (a_left_1 l D cy _ (xs 1) hm hd) (cwV 1 hts (goodL gL_law_X14_left) rfl rfl rfl (by decide +kernel) ⟨by decide, by decide⟩) hK hN hP hD hS hA hJS (ci := 19) (q0 := 0) rfl rfl rfl rfl hl.1 rfl (Nat.le_of_ble_eq_true rfl) dL_law_2310 ⟨Nat.le_of_ble_eq_true rfl, Nat.le_of_ble_eq_true rfl⟩ (fun H locs hB hJ hS => ?_)
  obtain ⟨hP1, hD1⟩ := hB
  obtain ⟨hP, hD⟩ := hJ _ hP1 hD1
  have hP : va_P D vwCl [(am 0, .inr (19, [.int 1, .ref (am 1), .ref (am 4), .ref (am 5), .ref (am 6), .ref (am 7), .ref (am 8), .int 0, .ref (am 9), .int 0, .int (-1), .int 100, .ref (am 10), .long 0, .int 0, .int 0, .int 0, .int 0, .long 0]))] H := hP
  have hD : va_D (fun q => s.heap.size ≤ q) [(am 0, .inr (19, [.int 1, .ref (am 1), .ref (am 4), .ref (am 5), .ref (am 6), .ref (am 7), .ref (am 8), .int 0, .ref (am 9), .int 0, .int (-1), .int 100, .ref (am 10), .long 0, .int 0, .int 0, .int 0, .int 0, .long 0]))] := hD
  refine lv_istore (lv' := [(7, .int 0), (6, .int 1), (5, .int 0), (4, .ref od), (3, .ref oa), (2, .ref (am 0)), (1, .ref (ad 0)), (0, .ref b)]) hx hb dL_law_2313 hl (by decide) rfl (fun ls hl => ?_)
  refine lv_aload_n hx hb dL_law_2315 rfl (lv_at hl 5 rfl) ?_
  refine ro_callV (As := []) (rest := []) ⟨hx, hb, hml, hown, hts⟩ (c_thrown l D cy _ 0 (am 0) 1 [.ref (am 1), .ref (am 4), .ref (am 5), .ref (am 6), .ref (am 7), .ref (am 8), .int 0, .ref (am 9), .int 0, .int (-1), .int 100, .ref (am 10), .long 0, .int 0, .int 0, .int 0, .int 0, .long 0] rfl) (cwV 0 hts (goodL gL_law_X14_thrown) rfl rfl rfl (by decide +kernel) ⟨by decide, by decide⟩) hK hN hP hS (ci := 19) (q0 := 0) rfl rfl rfl rfl hl.1 rfl (Nat.le_of_ble_eq_true rfl) dL_law_2316 ⟨Nat.le_of_ble_eq_true rfl, Nat.le_of_ble_eq_true rfl⟩ (fun H locs hP hS => ?_)
  refine lv_iload hx hb dL_law_2319 (lv_at hl 1 rfl) ?_
  refine lv_icmp_eq (tgt := 2326) hx hb dL_law_2321 (by decide) (fun _ => ?_) (fun c => absurd (by decide) c)
  refine lv_iload hx hb dL_law_2326 (lv_at hl 1 rfl) ?_
  refine lv_if_ne (tgt := 2343) hx hb dL_law_2328 (by decide) (fun _ => ?_) (fun c => absurd c (by decide))
  refine lv_goto (tgt := 3117) hx hb dL_law_2343 (by decide) ?_
  refine W.widen (k := 1000) (n := 10000) (Nat.le_of_ble_eq_true rfl) (Nat.le_of_ble_eq_true rfl) ?_
  exact hE _ _ _ hS (lv_sub hl [2, 3, 4, 5, 6, 7] rfl)

set_option maxRecDepth 100000 in
set_option maxHeartbeats 4000000 in
theorem law_left_2a {p : Program} {e : Env} {s : State} {m : MethodId} {below : List Frame} {meth : Method} {c : Code} {l : Launch} (hfl : l.stackTraces = false) {b : Nat} {xs : Nat → Int32} {D : va_G} {cy : Nat → ClassId} {eda ca : Nat} {ia : Nat → Nat} (C0 : LawAt p s m meth c b xs D cy eda ca ia) {am : Nat → Nat} {ad : Nat → Nat} {rw_ : Nat → Nat → Option Nat} {w : va_W} (F : FrC cy ad rw_ w) {oa od : Nat} (hE : LawEnd p l e s m below meth c b (ad 0) (am 0) oa od) (e1 : xs 1 = -1) : LGoal p l e s m below meth c b D cy am eda w (ad 0) oa od 2290 := by
  obtain ⟨hx, hb, hml, hown, hts, hX, hbl, hK, hN, hT, hJS⟩ := id C0
  have hA : ∀ q : Nat, s.heap.size ≤ q → (fun q => s.heap.size ≤ q) q := fun _ h => h
  have hbA : ¬ (fun q => s.heap.size ≤ q) b := Nat.not_le.mpr hbl
  intro H locs ls hP hD hS hl
  refine lv_aload_n hx hb dL_law_2290 rfl (lv_at hl 4 rfl) ?_
  refine lv_aload_n hx hb dL_law_2291 rfl (lv_at hl 5 rfl) ?_
  refine lv_iload hx hb dL_law_2292 (lv_at hl 0 rfl) ?_
  refine lv_iconst (v := 1) hx hb dL_law_2294 (by decide) ?_
  refine lv_iadd hx hb dL_law_2295 ?_
  refine lv_topi (fun y ey => ?_)
  obtain rfl : y = 1 := ey.trans (by decide)
  refine va_sld hx hb hX hbl hbA hS (by unfold vp_in; decide) dL_law_2296 ?_
  refine lv_topi (fun y ey => ?_)
  obtain rfl : y = (-1) := ey.trans ((congrArg xs (by decide)).trans e1)
  refine lv_aload_n hx hb dL_law_2297 rfl (lv_at hl 2 rfl) ?_
  refine mw_callS (wr := WM cy am eda 0) (wc := OCL cy oa :: w) (As := [.ref (ad 0), .int (-1), .ref oa]) (rest := []) ⟨hx, hb, hml, hown, hts⟩ (w_left_2a l D cy F hfl oa (fun _ => 0) _ ) (vx_cwSW 3 hts (goodLW gL_law_L_left) rfl rfl rfl (by decide +kernel) ⟨by decide, by decide⟩) hK hN hT (fun q hq => hS.2.1 q hq (Nat.not_le.mpr hq)) hP hD hS hA rfl hl.1 rfl (Nat.le_of_ble_eq_true rfl) dL_law_2298 ⟨Nat.le_of_ble_eq_true rfl, Nat.le_of_ble_eq_true rfl⟩ (fun H locs hB hJ hS => ?_)
  obtain ⟨hP, hD⟩ := hJ [] (fun k q h => by simp at h) ⟨fun i j p q h => by simp at h, fun k q h => by simp at h⟩
  have hP : va_P D vwCl (WM cy am eda 0) H := hP
  have hD : va_D (fun q => s.heap.size ≤ q) (WM cy am eda 0) := hD
  refine lv_istore (lv' := [(6, .int 2), (5, .int 0), (4, .ref od), (3, .ref oa), (2, .ref (am 0)), (1, .ref (ad 0)), (0, .ref b)]) hx hb dL_law_2301 hl (by decide) rfl (fun ls hl => ?_)
  refine lv_aload_n hx hb dL_law_2303 rfl (lv_at hl 4 rfl) ?_
  refine lv_aload_n hx hb dL_law_2304 rfl (lv_at hl 6 rfl) ?_
  refine lv_iload hx hb dL_law_2305 (lv_at hl 1 rfl) ?_
  refine lv_iconst (v := 1) hx hb dL_law_2307 (by decide) ?_
  refine lv_iadd hx hb dL_law_2308 ?_
  refine lv_topi (fun y ey => ?_)
  obtain rfl : y = 1 := ey.trans (by decide)
  refine va_sld hx hb hX hbl hbA hS (by unfold vp_in; decide) dL_law_2309 ?_
  refine lv_topi (fun y ey => ?_)
  obtain rfl : y = (-1) := ey.trans ((congrArg xs (by decide)).trans e1)
  refine mj_callV (wr := []) (wc := WM cy am eda 0) (As := [.int (-1)]) (rest := []) ⟨hx, hb, hml, hown, hts⟩ (a_left_2a l D cy _ ) (cwV 1 hts (goodL gL_law_X14_left) rfl rfl rfl (by decide +kernel) ⟨by decide, by decide⟩) hK hN hP hD hS hA hJS (ci := 19) (q0 := 0) rfl rfl rfl rfl hl.1 rfl (Nat.le_of_ble_eq_true rfl) dL_law_2310 ⟨Nat.le_of_ble_eq_true rfl, Nat.le_of_ble_eq_true rfl⟩ (fun H locs hB hJ hS => ?_)
  obtain ⟨hP1, hD1⟩ := hB
  obtain ⟨hP, hD⟩ := hJ _ hP1 hD1
  have hP : va_P D vwCl [(am 0, .inr (19, [.int 2, .ref (am 1), .ref (am 4), .ref (am 5), .ref (am 6), .ref (am 7), .ref (am 8), .int 0, .ref (am 9), .int 0, .int (-1), .int 100, .ref (am 10), .long 0, .int 0, .int 0, .int 0, .int 0, .long 0]))] H := hP
  have hD : va_D (fun q => s.heap.size ≤ q) [(am 0, .inr (19, [.int 2, .ref (am 1), .ref (am 4), .ref (am 5), .ref (am 6), .ref (am 7), .ref (am 8), .int 0, .ref (am 9), .int 0, .int (-1), .int 100, .ref (am 10), .long 0, .int 0, .int 0, .int 0, .int 0, .long 0]))] := hD
  refine lv_istore (lv' := [(7, .int 0), (6, .int 2), (5, .int 0), (4, .ref od), (3, .ref oa), (2, .ref (am 0)), (1, .ref (ad 0)), (0, .ref b)]) hx hb dL_law_2313 hl (by decide) rfl (fun ls hl => ?_)
  refine lv_aload_n hx hb dL_law_2315 rfl (lv_at hl 5 rfl) ?_
  refine ro_callV (As := []) (rest := []) ⟨hx, hb, hml, hown, hts⟩ (c_thrown l D cy _ 0 (am 0) 2 [.ref (am 1), .ref (am 4), .ref (am 5), .ref (am 6), .ref (am 7), .ref (am 8), .int 0, .ref (am 9), .int 0, .int (-1), .int 100, .ref (am 10), .long 0, .int 0, .int 0, .int 0, .int 0, .long 0] rfl) (cwV 0 hts (goodL gL_law_X14_thrown) rfl rfl rfl (by decide +kernel) ⟨by decide, by decide⟩) hK hN hP hS (ci := 19) (q0 := 0) rfl rfl rfl rfl hl.1 rfl (Nat.le_of_ble_eq_true rfl) dL_law_2316 ⟨Nat.le_of_ble_eq_true rfl, Nat.le_of_ble_eq_true rfl⟩ (fun H locs hP hS => ?_)
  refine lv_iload hx hb dL_law_2319 (lv_at hl 1 rfl) ?_
  refine lv_icmp_eq (tgt := 2326) hx hb dL_law_2321 (by decide) (fun _ => ?_) (fun c => absurd (by decide) c)
  refine lv_iload hx hb dL_law_2326 (lv_at hl 1 rfl) ?_
  refine lv_if_ne (tgt := 2343) hx hb dL_law_2328 (by decide) (fun _ => ?_) (fun c => absurd c (by decide))
  refine lv_goto (tgt := 3117) hx hb dL_law_2343 (by decide) ?_
  refine W.widen (k := 1000) (n := 10000) (Nat.le_of_ble_eq_true rfl) (Nat.le_of_ble_eq_true rfl) ?_
  exact hE _ _ _ hS (lv_sub hl [2, 3, 4, 5, 6, 7] rfl)

set_option maxRecDepth 100000 in
set_option maxHeartbeats 4000000 in
theorem law_left_2b {p : Program} {e : Env} {s : State} {m : MethodId} {below : List Frame} {meth : Method} {c : Code} {l : Launch} (hfl : l.stackTraces = false) {b : Nat} {xs : Nat → Int32} {D : va_G} {cy : Nat → ClassId} {eda ca : Nat} {ia : Nat → Nat} (C0 : LawAt p s m meth c b xs D cy eda ca ia) {am : Nat → Nat} {ad : Nat → Nat} {rw_ : Nat → Nat → Option Nat} {w : va_W} (F : FrC cy ad rw_ w) {oa od : Nat} (hE : LawEnd p l e s m below meth c b (ad 0) (am 0) oa od) (e1 : xs 1 = 0) : LGoal p l e s m below meth c b D cy am eda w (ad 0) oa od 2290 := by
  obtain ⟨hx, hb, hml, hown, hts, hX, hbl, hK, hN, hT, hJS⟩ := id C0
  have hA : ∀ q : Nat, s.heap.size ≤ q → (fun q => s.heap.size ≤ q) q := fun _ h => h
  have hbA : ¬ (fun q => s.heap.size ≤ q) b := Nat.not_le.mpr hbl
  intro H locs ls hP hD hS hl
  refine lv_aload_n hx hb dL_law_2290 rfl (lv_at hl 4 rfl) ?_
  refine lv_aload_n hx hb dL_law_2291 rfl (lv_at hl 5 rfl) ?_
  refine lv_iload hx hb dL_law_2292 (lv_at hl 0 rfl) ?_
  refine lv_iconst (v := 1) hx hb dL_law_2294 (by decide) ?_
  refine lv_iadd hx hb dL_law_2295 ?_
  refine lv_topi (fun y ey => ?_)
  obtain rfl : y = 1 := ey.trans (by decide)
  refine va_sld hx hb hX hbl hbA hS (by unfold vp_in; decide) dL_law_2296 ?_
  refine lv_topi (fun y ey => ?_)
  obtain rfl : y = 0 := ey.trans ((congrArg xs (by decide)).trans e1)
  refine lv_aload_n hx hb dL_law_2297 rfl (lv_at hl 2 rfl) ?_
  refine mw_callS (wr := WM cy am eda 0) (wc := OCL cy oa :: w) (As := [.ref (ad 0), .int 0, .ref oa]) (rest := []) ⟨hx, hb, hml, hown, hts⟩ (w_left_2b l D cy F hfl oa (fun _ => 0) _ ) (vx_cwSW 3 hts (goodLW gL_law_L_left) rfl rfl rfl (by decide +kernel) ⟨by decide, by decide⟩) hK hN hT (fun q hq => hS.2.1 q hq (Nat.not_le.mpr hq)) hP hD hS hA rfl hl.1 rfl (Nat.le_of_ble_eq_true rfl) dL_law_2298 ⟨Nat.le_of_ble_eq_true rfl, Nat.le_of_ble_eq_true rfl⟩ (fun H locs hB hJ hS => ?_)
  obtain ⟨hP, hD⟩ := hJ [] (fun k q h => by simp at h) ⟨fun i j p q h => by simp at h, fun k q h => by simp at h⟩
  have hP : va_P D vwCl (WM cy am eda 0) H := hP
  have hD : va_D (fun q => s.heap.size ≤ q) (WM cy am eda 0) := hD
  refine lv_istore (lv' := [(6, .int 2), (5, .int 0), (4, .ref od), (3, .ref oa), (2, .ref (am 0)), (1, .ref (ad 0)), (0, .ref b)]) hx hb dL_law_2301 hl (by decide) rfl (fun ls hl => ?_)
  refine lv_aload_n hx hb dL_law_2303 rfl (lv_at hl 4 rfl) ?_
  refine lv_aload_n hx hb dL_law_2304 rfl (lv_at hl 6 rfl) ?_
  refine lv_iload hx hb dL_law_2305 (lv_at hl 1 rfl) ?_
  refine lv_iconst (v := 1) hx hb dL_law_2307 (by decide) ?_
  refine lv_iadd hx hb dL_law_2308 ?_
  refine lv_topi (fun y ey => ?_)
  obtain rfl : y = 1 := ey.trans (by decide)
  refine va_sld hx hb hX hbl hbA hS (by unfold vp_in; decide) dL_law_2309 ?_
  refine lv_topi (fun y ey => ?_)
  obtain rfl : y = 0 := ey.trans ((congrArg xs (by decide)).trans e1)
  refine mj_callV (wr := []) (wc := WM cy am eda 0) (As := [.int 0]) (rest := []) ⟨hx, hb, hml, hown, hts⟩ (a_left_2b l D cy _ ) (cwV 1 hts (goodL gL_law_X14_left) rfl rfl rfl (by decide +kernel) ⟨by decide, by decide⟩) hK hN hP hD hS hA hJS (ci := 19) (q0 := 0) rfl rfl rfl rfl hl.1 rfl (Nat.le_of_ble_eq_true rfl) dL_law_2310 ⟨Nat.le_of_ble_eq_true rfl, Nat.le_of_ble_eq_true rfl⟩ (fun H locs hB hJ hS => ?_)
  obtain ⟨hP1, hD1⟩ := hB
  obtain ⟨hP, hD⟩ := hJ _ hP1 hD1
  have hP : va_P D vwCl [(am 0, .inr (19, [.int 2, .ref (am 1), .ref (am 4), .ref (am 5), .ref (am 6), .ref (am 7), .ref (am 8), .int 0, .ref (am 9), .int 0, .int (-1), .int 100, .ref (am 10), .long 0, .int 0, .int 0, .int 0, .int 0, .long 0]))] H := hP
  have hD : va_D (fun q => s.heap.size ≤ q) [(am 0, .inr (19, [.int 2, .ref (am 1), .ref (am 4), .ref (am 5), .ref (am 6), .ref (am 7), .ref (am 8), .int 0, .ref (am 9), .int 0, .int (-1), .int 100, .ref (am 10), .long 0, .int 0, .int 0, .int 0, .int 0, .long 0]))] := hD
  refine lv_istore (lv' := [(7, .int 0), (6, .int 2), (5, .int 0), (4, .ref od), (3, .ref oa), (2, .ref (am 0)), (1, .ref (ad 0)), (0, .ref b)]) hx hb dL_law_2313 hl (by decide) rfl (fun ls hl => ?_)
  refine lv_aload_n hx hb dL_law_2315 rfl (lv_at hl 5 rfl) ?_
  refine ro_callV (As := []) (rest := []) ⟨hx, hb, hml, hown, hts⟩ (c_thrown l D cy _ 0 (am 0) 2 [.ref (am 1), .ref (am 4), .ref (am 5), .ref (am 6), .ref (am 7), .ref (am 8), .int 0, .ref (am 9), .int 0, .int (-1), .int 100, .ref (am 10), .long 0, .int 0, .int 0, .int 0, .int 0, .long 0] rfl) (cwV 0 hts (goodL gL_law_X14_thrown) rfl rfl rfl (by decide +kernel) ⟨by decide, by decide⟩) hK hN hP hS (ci := 19) (q0 := 0) rfl rfl rfl rfl hl.1 rfl (Nat.le_of_ble_eq_true rfl) dL_law_2316 ⟨Nat.le_of_ble_eq_true rfl, Nat.le_of_ble_eq_true rfl⟩ (fun H locs hP hS => ?_)
  refine lv_iload hx hb dL_law_2319 (lv_at hl 1 rfl) ?_
  refine lv_icmp_eq (tgt := 2326) hx hb dL_law_2321 (by decide) (fun _ => ?_) (fun c => absurd (by decide) c)
  refine lv_iload hx hb dL_law_2326 (lv_at hl 1 rfl) ?_
  refine lv_if_ne (tgt := 2343) hx hb dL_law_2328 (by decide) (fun _ => ?_) (fun c => absurd c (by decide))
  refine lv_goto (tgt := 3117) hx hb dL_law_2343 (by decide) ?_
  refine W.widen (k := 1000) (n := 10000) (Nat.le_of_ble_eq_true rfl) (Nat.le_of_ble_eq_true rfl) ?_
  exact hE _ _ _ hS (lv_sub hl [2, 3, 4, 5, 6, 7] rfl)

set_option maxRecDepth 100000 in
set_option maxHeartbeats 4000000 in
theorem law_event_1 {p : Program} {e : Env} {s : State} {m : MethodId} {below : List Frame} {meth : Method} {c : Code} {l : Launch} (hfl : l.stackTraces = false) {b : Nat} {xs : Nat → Int32} {D : va_G} {cy : Nat → ClassId} {eda ca : Nat} {ia : Nat → Nat} (C0 : LawAt p s m meth c b xs D cy eda ca ia) {am : Nat → Nat} {ad : Nat → Nat} {rw_ : Nat → Nat → Option Nat} {w : va_W} (F : FrC cy ad rw_ w) {oa od : Nat} (hE : LawEnd p l e s m below meth c b (ad 0) (am 0) oa od) : LGoal p l e s m below meth c b D cy am eda w (ad 0) oa od 2359 := by
  obtain ⟨hx, hb, hml, hown, hts, hX, hbl, hK, hN, hT, hJS⟩ := id C0
  have hA : ∀ q : Nat, s.heap.size ≤ q → (fun q => s.heap.size ≤ q) q := fun _ h => h
  have hbA : ¬ (fun q => s.heap.size ≤ q) b := Nat.not_le.mpr hbl
  intro H locs ls hP hD hS hl
  refine lv_aload_n hx hb dL_law_2359 rfl (lv_at hl 4 rfl) ?_
  refine lv_aload_n hx hb dL_law_2360 rfl (lv_at hl 2 rfl) ?_
  refine mw_callS (wr := WM cy am eda 0) (wc := OCL cy oa :: w) (As := [.ref (ad 0), .ref oa]) (rest := []) ⟨hx, hb, hml, hown, hts⟩ (w_event_1 l D cy F hfl oa (fun _ => 0) _ ) (vx_cwSW 2 hts (goodLW gL_law_L_event) rfl rfl rfl (by decide +kernel) ⟨by decide, by decide⟩) hK hN hT (fun q hq => hS.2.1 q hq (Nat.not_le.mpr hq)) hP hD hS hA rfl hl.1 rfl (Nat.le_of_ble_eq_true rfl) dL_law_2361 ⟨Nat.le_of_ble_eq_true rfl, Nat.le_of_ble_eq_true rfl⟩ (fun H locs hB hJ hS => ?_)
  obtain ⟨hP, hD⟩ := hJ [] (fun k q h => by simp at h) ⟨fun i j p q h => by simp at h, fun k q h => by simp at h⟩
  have hP : va_P D vwCl (WM cy am eda 0) H := hP
  have hD : va_D (fun q => s.heap.size ≤ q) (WM cy am eda 0) := hD
  refine lv_istore (lv' := [(6, .int 1), (5, .int 0), (4, .ref od), (3, .ref oa), (2, .ref (am 0)), (1, .ref (ad 0)), (0, .ref b)]) hx hb dL_law_2364 hl (by decide) rfl (fun ls hl => ?_)
  refine lv_aload_n hx hb dL_law_2366 rfl (lv_at hl 4 rfl) ?_
  refine mj_callV (wr := []) (wc := WM cy am eda 0) (As := []) (rest := []) ⟨hx, hb, hml, hown, hts⟩ (a_event_1 l D cy _ ) (cwV 0 hts (goodL gL_law_X14_event) rfl rfl rfl (by decide +kernel) ⟨by decide, by decide⟩) hK hN hP hD hS hA hJS (ci := 19) (q0 := 0) rfl rfl rfl rfl hl.1 rfl (Nat.le_of_ble_eq_true rfl) dL_law_2367 ⟨Nat.le_of_ble_eq_true rfl, Nat.le_of_ble_eq_true rfl⟩ (fun H locs hB hJ hS => ?_)
  obtain ⟨hP1, hD1⟩ := hB
  obtain ⟨hP, hD⟩ := hJ _ hP1 hD1
  have hP : va_P D vwCl [(am 0, .inr (19, [.int 1, .ref (am 1), .ref (am 4), .ref (am 5), .ref (am 6), .ref (am 7), .ref (am 8), .int 0, .ref (am 9), .int 0, .int (-1), .int 100, .ref (am 10), .long 0, .int 0, .int 0, .int 0, .int 0, .long 0]))] H := hP
  have hD : va_D (fun q => s.heap.size ≤ q) [(am 0, .inr (19, [.int 1, .ref (am 1), .ref (am 4), .ref (am 5), .ref (am 6), .ref (am 7), .ref (am 8), .int 0, .ref (am 9), .int 0, .int (-1), .int 100, .ref (am 10), .long 0, .int 0, .int 0, .int 0, .int 0, .long 0]))] := hD
  refine lv_istore (lv' := [(7, .int 32), (6, .int 1), (5, .int 0), (4, .ref od), (3, .ref oa), (2, .ref (am 0)), (1, .ref (ad 0)), (0, .ref b)]) hx hb dL_law_2370 hl (by decide) rfl (fun ls hl => ?_)
  refine lv_aload_n hx hb dL_law_2372 rfl (lv_at hl 5 rfl) ?_
  refine ro_callV (As := []) (rest := []) ⟨hx, hb, hml, hown, hts⟩ (c_thrown l D cy _ 0 (am 0) 1 [.ref (am 1), .ref (am 4), .ref (am 5), .ref (am 6), .ref (am 7), .ref (am 8), .int 0, .ref (am 9), .int 0, .int (-1), .int 100, .ref (am 10), .long 0, .int 0, .int 0, .int 0, .int 0, .long 0] rfl) (cwV 0 hts (goodL gL_law_X14_thrown) rfl rfl rfl (by decide +kernel) ⟨by decide, by decide⟩) hK hN hP hS (ci := 19) (q0 := 0) rfl rfl rfl rfl hl.1 rfl (Nat.le_of_ble_eq_true rfl) dL_law_2373 ⟨Nat.le_of_ble_eq_true rfl, Nat.le_of_ble_eq_true rfl⟩ (fun H locs hP hS => ?_)
  refine lv_iload hx hb dL_law_2376 (lv_at hl 1 rfl) ?_
  refine lv_icmp_eq (tgt := 2383) hx hb dL_law_2378 (by decide) (fun _ => ?_) (fun c => absurd (by decide) c)
  refine lv_iload hx hb dL_law_2383 (lv_at hl 1 rfl) ?_
  refine lv_if_ne (tgt := 2400) hx hb dL_law_2385 (by decide) (fun _ => ?_) (fun c => absurd c (by decide))
  refine lv_goto (tgt := 3117) hx hb dL_law_2400 (by decide) ?_
  refine W.widen (k := 1000) (n := 10000) (Nat.le_of_ble_eq_true rfl) (Nat.le_of_ble_eq_true rfl) ?_
  exact hE _ _ _ hS (lv_sub hl [2, 3, 4, 5, 6, 7] rfl)

set_option maxRecDepth 100000 in
set_option maxHeartbeats 4000000 in
theorem law_eventPipe_1 {p : Program} {e : Env} {s : State} {m : MethodId} {below : List Frame} {meth : Method} {c : Code} {l : Launch} (hfl : l.stackTraces = false) {b : Nat} {xs : Nat → Int32} {D : va_G} {cy : Nat → ClassId} {eda ca : Nat} {ia : Nat → Nat} (C0 : LawAt p s m meth c b xs D cy eda ca ia) {am : Nat → Nat} {ad : Nat → Nat} {rw_ : Nat → Nat → Option Nat} {w : va_W} (F : FrC cy ad rw_ w) {oa od : Nat} (hE : LawEnd p l e s m below meth c b (ad 0) (am 0) oa od) : LGoal p l e s m below meth c b D cy am eda w (ad 0) oa od 2403 := by
  obtain ⟨hx, hb, hml, hown, hts, hX, hbl, hK, hN, hT, hJS⟩ := id C0
  have hA : ∀ q : Nat, s.heap.size ≤ q → (fun q => s.heap.size ≤ q) q := fun _ h => h
  have hbA : ¬ (fun q => s.heap.size ≤ q) b := Nat.not_le.mpr hbl
  intro H locs ls hP hD hS hl
  refine lv_aload_n hx hb dL_law_2403 rfl (lv_at hl 4 rfl) ?_
  refine lv_aload_n hx hb dL_law_2404 rfl (lv_at hl 2 rfl) ?_
  refine mw_callS (wr := WM cy am eda 0) (wc := OCL cy oa :: w) (As := [.ref (ad 0), .ref oa]) (rest := []) ⟨hx, hb, hml, hown, hts⟩ (w_eventPipe_1 l D cy F hfl oa (fun _ => 0) _ ) (vx_cwSW 2 hts (goodLW gL_law_L_eventPipe) rfl rfl rfl (by decide +kernel) ⟨by decide, by decide⟩) hK hN hT (fun q hq => hS.2.1 q hq (Nat.not_le.mpr hq)) hP hD hS hA rfl hl.1 rfl (Nat.le_of_ble_eq_true rfl) dL_law_2405 ⟨Nat.le_of_ble_eq_true rfl, Nat.le_of_ble_eq_true rfl⟩ (fun H locs hB hJ hS => ?_)
  obtain ⟨hP, hD⟩ := hJ [] (fun k q h => by simp at h) ⟨fun i j p q h => by simp at h, fun k q h => by simp at h⟩
  have hP : va_P D vwCl (WM cy am eda 0) H := hP
  have hD : va_D (fun q => s.heap.size ≤ q) (WM cy am eda 0) := hD
  refine lv_istore (lv' := [(6, .int 1), (5, .int 0), (4, .ref od), (3, .ref oa), (2, .ref (am 0)), (1, .ref (ad 0)), (0, .ref b)]) hx hb dL_law_2408 hl (by decide) rfl (fun ls hl => ?_)
  refine lv_aload_n hx hb dL_law_2410 rfl (lv_at hl 4 rfl) ?_
  refine mj_callV (wr := []) (wc := WM cy am eda 0) (As := []) (rest := []) ⟨hx, hb, hml, hown, hts⟩ (a_eventPipe_1 l D cy _ ) (cwV 0 hts (goodL gL_law_X14_eventPipe) rfl rfl rfl (by decide +kernel) ⟨by decide, by decide⟩) hK hN hP hD hS hA hJS (ci := 19) (q0 := 0) rfl rfl rfl rfl hl.1 rfl (Nat.le_of_ble_eq_true rfl) dL_law_2411 ⟨Nat.le_of_ble_eq_true rfl, Nat.le_of_ble_eq_true rfl⟩ (fun H locs hB hJ hS => ?_)
  obtain ⟨hP1, hD1⟩ := hB
  obtain ⟨hP, hD⟩ := hJ _ hP1 hD1
  have hP : va_P D vwCl [(am 0, .inr (19, [.int 1, .ref (am 1), .ref (am 4), .ref (am 5), .ref (am 6), .ref (am 7), .ref (am 8), .int 0, .ref (am 9), .int 0, .int (-1), .int 100, .ref (am 10), .long 0, .int 0, .int 0, .int 0, .int 0, .long 0]))] H := hP
  have hD : va_D (fun q => s.heap.size ≤ q) [(am 0, .inr (19, [.int 1, .ref (am 1), .ref (am 4), .ref (am 5), .ref (am 6), .ref (am 7), .ref (am 8), .int 0, .ref (am 9), .int 0, .int (-1), .int 100, .ref (am 10), .long 0, .int 0, .int 0, .int 0, .int 0, .long 0]))] := hD
  refine lv_istore (lv' := [(7, .int 0), (6, .int 1), (5, .int 0), (4, .ref od), (3, .ref oa), (2, .ref (am 0)), (1, .ref (ad 0)), (0, .ref b)]) hx hb dL_law_2414 hl (by decide) rfl (fun ls hl => ?_)
  refine lv_aload_n hx hb dL_law_2416 rfl (lv_at hl 5 rfl) ?_
  refine ro_callV (As := []) (rest := []) ⟨hx, hb, hml, hown, hts⟩ (c_thrown l D cy _ 0 (am 0) 1 [.ref (am 1), .ref (am 4), .ref (am 5), .ref (am 6), .ref (am 7), .ref (am 8), .int 0, .ref (am 9), .int 0, .int (-1), .int 100, .ref (am 10), .long 0, .int 0, .int 0, .int 0, .int 0, .long 0] rfl) (cwV 0 hts (goodL gL_law_X14_thrown) rfl rfl rfl (by decide +kernel) ⟨by decide, by decide⟩) hK hN hP hS (ci := 19) (q0 := 0) rfl rfl rfl rfl hl.1 rfl (Nat.le_of_ble_eq_true rfl) dL_law_2417 ⟨Nat.le_of_ble_eq_true rfl, Nat.le_of_ble_eq_true rfl⟩ (fun H locs hP hS => ?_)
  refine lv_iload hx hb dL_law_2420 (lv_at hl 1 rfl) ?_
  refine lv_icmp_eq (tgt := 2427) hx hb dL_law_2422 (by decide) (fun _ => ?_) (fun c => absurd (by decide) c)
  refine lv_iload hx hb dL_law_2427 (lv_at hl 1 rfl) ?_
  refine lv_if_ne (tgt := 2444) hx hb dL_law_2429 (by decide) (fun _ => ?_) (fun c => absurd c (by decide))
  refine lv_goto (tgt := 3117) hx hb dL_law_2444 (by decide) ?_
  refine W.widen (k := 1000) (n := 10000) (Nat.le_of_ble_eq_true rfl) (Nat.le_of_ble_eq_true rfl) ?_
  exact hE _ _ _ hS (lv_sub hl [2, 3, 4, 5, 6, 7] rfl)

set_option maxRecDepth 100000 in
set_option maxHeartbeats 4000000 in
theorem law_eventBytes_1 {p : Program} {e : Env} {s : State} {m : MethodId} {below : List Frame} {meth : Method} {c : Code} {l : Launch} (hfl : l.stackTraces = false) {b : Nat} {xs : Nat → Int32} {D : va_G} {cy : Nat → ClassId} {eda ca : Nat} {ia : Nat → Nat} (C0 : LawAt p s m meth c b xs D cy eda ca ia) {am : Nat → Nat} {ad : Nat → Nat} {rw_ : Nat → Nat → Option Nat} {w : va_W} (F : FrC cy ad rw_ w) {oa od : Nat} (hE : LawEnd p l e s m below meth c b (ad 0) (am 0) oa od) : LGoal p l e s m below meth c b D cy am eda w (ad 0) oa od 2447 := by
  obtain ⟨hx, hb, hml, hown, hts, hX, hbl, hK, hN, hT, hJS⟩ := id C0
  have hA : ∀ q : Nat, s.heap.size ≤ q → (fun q => s.heap.size ≤ q) q := fun _ h => h
  have hbA : ¬ (fun q => s.heap.size ≤ q) b := Nat.not_le.mpr hbl
  intro H locs ls hP hD hS hl
  refine lv_aload_n hx hb dL_law_2447 rfl (lv_at hl 4 rfl) ?_
  refine lv_aload_n hx hb dL_law_2448 rfl (lv_at hl 2 rfl) ?_
  refine mw_callS (wr := WM cy am eda 0) (wc := OCL cy oa :: w) (As := [.ref (ad 0), .ref oa]) (rest := []) ⟨hx, hb, hml, hown, hts⟩ (w_eventBytes_1 l D cy F hfl oa (fun _ => 0) _ ) (vx_cwSW 2 hts (goodLW gL_law_L_eventBytes) rfl rfl rfl (by decide +kernel) ⟨by decide, by decide⟩) hK hN hT (fun q hq => hS.2.1 q hq (Nat.not_le.mpr hq)) hP hD hS hA rfl hl.1 rfl (Nat.le_of_ble_eq_true rfl) dL_law_2449 ⟨Nat.le_of_ble_eq_true rfl, Nat.le_of_ble_eq_true rfl⟩ (fun H locs hB hJ hS => ?_)
  obtain ⟨hP, hD⟩ := hJ [] (fun k q h => by simp at h) ⟨fun i j p q h => by simp at h, fun k q h => by simp at h⟩
  have hP : va_P D vwCl (WM cy am eda 0) H := hP
  have hD : va_D (fun q => s.heap.size ≤ q) (WM cy am eda 0) := hD
  refine lv_istore (lv' := [(6, .int 1), (5, .int 0), (4, .ref od), (3, .ref oa), (2, .ref (am 0)), (1, .ref (ad 0)), (0, .ref b)]) hx hb dL_law_2452 hl (by decide) rfl (fun ls hl => ?_)
  refine lv_aload_n hx hb dL_law_2454 rfl (lv_at hl 4 rfl) ?_
  refine mj_callV (wr := []) (wc := WM cy am eda 0) (As := []) (rest := []) ⟨hx, hb, hml, hown, hts⟩ (a_eventBytes_1 l D cy _ ) (cwV 0 hts (goodL gL_law_X14_eventBytes) rfl rfl rfl (by decide +kernel) ⟨by decide, by decide⟩) hK hN hP hD hS hA hJS (ci := 19) (q0 := 0) rfl rfl rfl rfl hl.1 rfl (Nat.le_of_ble_eq_true rfl) dL_law_2455 ⟨Nat.le_of_ble_eq_true rfl, Nat.le_of_ble_eq_true rfl⟩ (fun H locs hB hJ hS => ?_)
  obtain ⟨hP1, hD1⟩ := hB
  obtain ⟨hP, hD⟩ := hJ _ hP1 hD1
  have hP : va_P D vwCl [(am 0, .inr (19, [.int 1, .ref (am 1), .ref (am 4), .ref (am 5), .ref (am 6), .ref (am 7), .ref (am 8), .int 0, .ref (am 9), .int 0, .int (-1), .int 100, .ref (am 10), .long 0, .int 0, .int 0, .int 0, .int 0, .long 0]))] H := hP
  have hD : va_D (fun q => s.heap.size ≤ q) [(am 0, .inr (19, [.int 1, .ref (am 1), .ref (am 4), .ref (am 5), .ref (am 6), .ref (am 7), .ref (am 8), .int 0, .ref (am 9), .int 0, .int (-1), .int 100, .ref (am 10), .long 0, .int 0, .int 0, .int 0, .int 0, .long 0]))] := hD
  refine lv_istore (lv' := [(7, .int 0), (6, .int 1), (5, .int 0), (4, .ref od), (3, .ref oa), (2, .ref (am 0)), (1, .ref (ad 0)), (0, .ref b)]) hx hb dL_law_2458 hl (by decide) rfl (fun ls hl => ?_)
  refine lv_aload_n hx hb dL_law_2460 rfl (lv_at hl 5 rfl) ?_
  refine ro_callV (As := []) (rest := []) ⟨hx, hb, hml, hown, hts⟩ (c_thrown l D cy _ 0 (am 0) 1 [.ref (am 1), .ref (am 4), .ref (am 5), .ref (am 6), .ref (am 7), .ref (am 8), .int 0, .ref (am 9), .int 0, .int (-1), .int 100, .ref (am 10), .long 0, .int 0, .int 0, .int 0, .int 0, .long 0] rfl) (cwV 0 hts (goodL gL_law_X14_thrown) rfl rfl rfl (by decide +kernel) ⟨by decide, by decide⟩) hK hN hP hS (ci := 19) (q0 := 0) rfl rfl rfl rfl hl.1 rfl (Nat.le_of_ble_eq_true rfl) dL_law_2461 ⟨Nat.le_of_ble_eq_true rfl, Nat.le_of_ble_eq_true rfl⟩ (fun H locs hP hS => ?_)
  refine lv_iload hx hb dL_law_2464 (lv_at hl 1 rfl) ?_
  refine lv_icmp_eq (tgt := 2471) hx hb dL_law_2466 (by decide) (fun _ => ?_) (fun c => absurd (by decide) c)
  refine lv_iload hx hb dL_law_2471 (lv_at hl 1 rfl) ?_
  refine lv_if_ne (tgt := 2488) hx hb dL_law_2473 (by decide) (fun _ => ?_) (fun c => absurd c (by decide))
  refine lv_goto (tgt := 3117) hx hb dL_law_2488 (by decide) ?_
  refine W.widen (k := 1000) (n := 10000) (Nat.le_of_ble_eq_true rfl) (Nat.le_of_ble_eq_true rfl) ?_
  exact hE _ _ _ hS (lv_sub hl [2, 3, 4, 5, 6, 7] rfl)

set_option maxRecDepth 100000 in
set_option maxHeartbeats 4000000 in
theorem law_taken_1 {p : Program} {e : Env} {s : State} {m : MethodId} {below : List Frame} {meth : Method} {c : Code} {l : Launch} (hfl : l.stackTraces = false) {b : Nat} {xs : Nat → Int32} {D : va_G} {cy : Nat → ClassId} {eda ca : Nat} {ia : Nat → Nat} (C0 : LawAt p s m meth c b xs D cy eda ca ia) {am : Nat → Nat} {ad : Nat → Nat} {rw_ : Nat → Nat → Option Nat} {w : va_W} (F : FrC cy ad rw_ w) {oa od : Nat} (hE : LawEnd p l e s m below meth c b (ad 0) (am 0) oa od) : LGoal p l e s m below meth c b D cy am eda w (ad 0) oa od 2504 := by
  obtain ⟨hx, hb, hml, hown, hts, hX, hbl, hK, hN, hT, hJS⟩ := id C0
  have hA : ∀ q : Nat, s.heap.size ≤ q → (fun q => s.heap.size ≤ q) q := fun _ h => h
  have hbA : ¬ (fun q => s.heap.size ≤ q) b := Nat.not_le.mpr hbl
  intro H locs ls hP hD hS hl
  refine lv_aload_n hx hb dL_law_2504 rfl (lv_at hl 4 rfl) ?_
  refine lv_aload_n hx hb dL_law_2505 rfl (lv_at hl 5 rfl) ?_
  refine lv_iload hx hb dL_law_2506 (lv_at hl 0 rfl) ?_
  refine lv_iconst (v := 1) hx hb dL_law_2508 (by decide) ?_
  refine lv_iadd hx hb dL_law_2509 ?_
  refine lv_topi (fun y ey => ?_)
  obtain rfl : y = 1 := ey.trans (by decide)
  refine va_sld hx hb hX hbl hbA hS (by unfold vp_in; decide) dL_law_2510 ?_
  refine lv_topi (fun y ey => ?_)
  obtain rfl : y = xs 1 := ey.trans (congrArg xs (by decide))
  refine lv_aload_n hx hb dL_law_2511 rfl (lv_at hl 5 rfl) ?_
  refine lv_iload hx hb dL_law_2512 (lv_at hl 0 rfl) ?_
  refine lv_iconst (v := 2) hx hb dL_law_2514 (by decide) ?_
  refine lv_iadd hx hb dL_law_2515 ?_
  refine lv_topi (fun y ey => ?_)
  obtain rfl : y = 2 := ey.trans (by decide)
  refine va_sld hx hb hX hbl hbA hS (by unfold vp_in; decide) dL_law_2516 ?_
  refine lv_topi (fun y ey => ?_)
  obtain rfl : y = xs 2 := ey.trans (congrArg xs (by decide))
  refine lv_aload_n hx hb dL_law_2517 rfl (lv_at hl 2 rfl) ?_
  refine mw_callS (wr := WM cy am eda 0) (wc := OCL cy oa :: w) (As := [.ref (ad 0), .int (xs 1), .int (xs 2), .ref oa]) (rest := []) ⟨hx, hb, hml, hown, hts⟩ (w_taken_1 l D cy F hfl oa (fun _ => 0) _ (xs 1) (xs 2)) (vx_cwSW 4 hts (goodLW gL_law_L_taken) rfl rfl rfl (by decide +kernel) ⟨by decide, by decide⟩) hK hN hT (fun q hq => hS.2.1 q hq (Nat.not_le.mpr hq)) hP hD hS hA rfl hl.1 rfl (Nat.le_of_ble_eq_true rfl) dL_law_2518 ⟨Nat.le_of_ble_eq_true rfl, Nat.le_of_ble_eq_true rfl⟩ (fun H locs hB hJ hS => ?_)
  obtain ⟨hP, hD⟩ := hJ [] (fun k q h => by simp at h) ⟨fun i j p q h => by simp at h, fun k q h => by simp at h⟩
  have hP : va_P D vwCl (WM cy am eda 0) H := hP
  have hD : va_D (fun q => s.heap.size ≤ q) (WM cy am eda 0) := hD
  refine lv_istore (lv' := [(6, .int 1), (5, .int 0), (4, .ref od), (3, .ref oa), (2, .ref (am 0)), (1, .ref (ad 0)), (0, .ref b)]) hx hb dL_law_2521 hl (by decide) rfl (fun ls hl => ?_)
  refine lv_aload_n hx hb dL_law_2523 rfl (lv_at hl 4 rfl) ?_
  refine lv_aload_n hx hb dL_law_2524 rfl (lv_at hl 6 rfl) ?_
  refine lv_iload hx hb dL_law_2525 (lv_at hl 1 rfl) ?_
  refine lv_iconst (v := 1) hx hb dL_law_2527 (by decide) ?_
  refine lv_iadd hx hb dL_law_2528 ?_
  refine lv_topi (fun y ey => ?_)
  obtain rfl : y = 1 := ey.trans (by decide)
  refine va_sld hx hb hX hbl hbA hS (by unfold vp_in; decide) dL_law_2529 ?_
  refine lv_topi (fun y ey => ?_)
  obtain rfl : y = xs 1 := ey.trans (congrArg xs (by decide))
  refine lv_aload_n hx hb dL_law_2530 rfl (lv_at hl 6 rfl) ?_
  refine lv_iload hx hb dL_law_2531 (lv_at hl 1 rfl) ?_
  refine lv_iconst (v := 2) hx hb dL_law_2533 (by decide) ?_
  refine lv_iadd hx hb dL_law_2534 ?_
  refine lv_topi (fun y ey => ?_)
  obtain rfl : y = 2 := ey.trans (by decide)
  refine va_sld hx hb hX hbl hbA hS (by unfold vp_in; decide) dL_law_2535 ?_
  refine lv_topi (fun y ey => ?_)
  obtain rfl : y = xs 2 := ey.trans (congrArg xs (by decide))
  refine mj_callV (wr := []) (wc := WM cy am eda 0) (As := [.int (xs 1), .int (xs 2)]) (rest := []) ⟨hx, hb, hml, hown, hts⟩ (a_taken_1 l D cy _ (xs 1) (xs 2)) (cwV 2 hts (goodL gL_law_X14_taken_) rfl rfl rfl (by decide +kernel) ⟨by decide, by decide⟩) hK hN hP hD hS hA hJS (ci := 19) (q0 := 0) rfl rfl rfl rfl hl.1 rfl (Nat.le_of_ble_eq_true rfl) dL_law_2536 ⟨Nat.le_of_ble_eq_true rfl, Nat.le_of_ble_eq_true rfl⟩ (fun H locs hB hJ hS => ?_)
  obtain ⟨hP1, hD1⟩ := hB
  obtain ⟨hP, hD⟩ := hJ _ hP1 hD1
  have hP : va_P D vwCl [(am 0, .inr (19, [.int 1, .ref (am 1), .ref (am 4), .ref (am 5), .ref (am 6), .ref (am 7), .ref (am 8), .int 0, .ref (am 9), .int 0, .int (-1), .int 100, .ref (am 10), .long 0, .int 0, .int 0, .int 0, .int 0, .long 0]))] H := hP
  have hD : va_D (fun q => s.heap.size ≤ q) [(am 0, .inr (19, [.int 1, .ref (am 1), .ref (am 4), .ref (am 5), .ref (am 6), .ref (am 7), .ref (am 8), .int 0, .ref (am 9), .int 0, .int (-1), .int 100, .ref (am 10), .long 0, .int 0, .int 0, .int 0, .int 0, .long 0]))] := hD
  refine lv_istore (lv' := [(7, .int 0), (6, .int 1), (5, .int 0), (4, .ref od), (3, .ref oa), (2, .ref (am 0)), (1, .ref (ad 0)), (0, .ref b)]) hx hb dL_law_2539 hl (by decide) rfl (fun ls hl => ?_)
  refine lv_aload_n hx hb dL_law_2541 rfl (lv_at hl 5 rfl) ?_
  refine ro_callV (As := []) (rest := []) ⟨hx, hb, hml, hown, hts⟩ (c_thrown l D cy _ 0 (am 0) 1 [.ref (am 1), .ref (am 4), .ref (am 5), .ref (am 6), .ref (am 7), .ref (am 8), .int 0, .ref (am 9), .int 0, .int (-1), .int 100, .ref (am 10), .long 0, .int 0, .int 0, .int 0, .int 0, .long 0] rfl) (cwV 0 hts (goodL gL_law_X14_thrown) rfl rfl rfl (by decide +kernel) ⟨by decide, by decide⟩) hK hN hP hS (ci := 19) (q0 := 0) rfl rfl rfl rfl hl.1 rfl (Nat.le_of_ble_eq_true rfl) dL_law_2542 ⟨Nat.le_of_ble_eq_true rfl, Nat.le_of_ble_eq_true rfl⟩ (fun H locs hP hS => ?_)
  refine lv_iload hx hb dL_law_2545 (lv_at hl 1 rfl) ?_
  refine lv_icmp_eq (tgt := 2552) hx hb dL_law_2547 (by decide) (fun _ => ?_) (fun c => absurd (by decide) c)
  refine lv_iload hx hb dL_law_2552 (lv_at hl 1 rfl) ?_
  refine lv_if_ne (tgt := 2569) hx hb dL_law_2554 (by decide) (fun _ => ?_) (fun c => absurd c (by decide))
  refine lv_goto (tgt := 3117) hx hb dL_law_2569 (by decide) ?_
  refine W.widen (k := 1000) (n := 10000) (Nat.le_of_ble_eq_true rfl) (Nat.le_of_ble_eq_true rfl) ?_
  exact hE _ _ _ hS (lv_sub hl [2, 3, 4, 5, 6, 7] rfl)

set_option maxRecDepth 100000 in
set_option maxHeartbeats 4000000 in
theorem law_waiting_1 {p : Program} {e : Env} {s : State} {m : MethodId} {below : List Frame} {meth : Method} {c : Code} {l : Launch} (hfl : l.stackTraces = false) {b : Nat} {xs : Nat → Int32} {D : va_G} {cy : Nat → ClassId} {eda ca : Nat} {ia : Nat → Nat} (C0 : LawAt p s m meth c b xs D cy eda ca ia) {am : Nat → Nat} {ad : Nat → Nat} {rw_ : Nat → Nat → Option Nat} {w : va_W} (F : FrC cy ad rw_ w) {oa od : Nat} (hE : LawEnd p l e s m below meth c b (ad 0) (am 0) oa od) : LGoal p l e s m below meth c b D cy am eda w (ad 0) oa od 2652 := by
  obtain ⟨hx, hb, hml, hown, hts, hX, hbl, hK, hN, hT, hJS⟩ := id C0
  have hA : ∀ q : Nat, s.heap.size ≤ q → (fun q => s.heap.size ≤ q) q := fun _ h => h
  have hbA : ¬ (fun q => s.heap.size ≤ q) b := Nat.not_le.mpr hbl
  intro H locs ls hP hD hS hl
  refine lv_aload_n hx hb dL_law_2652 rfl (lv_at hl 4 rfl) ?_
  refine lv_aload_n hx hb dL_law_2653 rfl (lv_at hl 5 rfl) ?_
  refine lv_iload hx hb dL_law_2654 (lv_at hl 0 rfl) ?_
  refine lv_iconst (v := 1) hx hb dL_law_2656 (by decide) ?_
  refine lv_iadd hx hb dL_law_2657 ?_
  refine lv_topi (fun y ey => ?_)
  obtain rfl : y = 1 := ey.trans (by decide)
  refine va_sld hx hb hX hbl hbA hS (by unfold vp_in; decide) dL_law_2658 ?_
  refine lv_topi (fun y ey => ?_)
  obtain rfl : y = xs 1 := ey.trans (congrArg xs (by decide))
  refine lv_aload_n hx hb dL_law_2659 rfl (lv_at hl 5 rfl) ?_
  refine lv_iload hx hb dL_law_2660 (lv_at hl 0 rfl) ?_
  refine lv_iconst (v := 2) hx hb dL_law_2662 (by decide) ?_
  refine lv_iadd hx hb dL_law_2663 ?_
  refine lv_topi (fun y ey => ?_)
  obtain rfl : y = 2 := ey.trans (by decide)
  refine va_sld hx hb hX hbl hbA hS (by unfold vp_in; decide) dL_law_2664 ?_
  refine lv_topi (fun y ey => ?_)
  obtain rfl : y = xs 2 := ey.trans (congrArg xs (by decide))
  refine lv_aload_n hx hb dL_law_2665 rfl (lv_at hl 2 rfl) ?_
  refine mw_callS (wr := WM cy am eda 0) (wc := OCL cy oa :: w) (As := [.ref (ad 0), .int (xs 1), .int (xs 2), .ref oa]) (rest := []) ⟨hx, hb, hml, hown, hts⟩ (w_waiting_1 l D cy F hfl oa (fun _ => 0) _ (xs 1) (xs 2)) (vx_cwSW 4 hts (goodLW gL_law_L_waiting) rfl rfl rfl (by decide +kernel) ⟨by decide, by decide⟩) hK hN hT (fun q hq => hS.2.1 q hq (Nat.not_le.mpr hq)) hP hD hS hA rfl hl.1 rfl (Nat.le_of_ble_eq_true rfl) dL_law_2666 ⟨Nat.le_of_ble_eq_true rfl, Nat.le_of_ble_eq_true rfl⟩ (fun H locs hB hJ hS => ?_)
  obtain ⟨hP, hD⟩ := hJ [] (fun k q h => by simp at h) ⟨fun i j p q h => by simp at h, fun k q h => by simp at h⟩
  have hP : va_P D vwCl (WM cy am eda 0) H := hP
  have hD : va_D (fun q => s.heap.size ≤ q) (WM cy am eda 0) := hD
  refine lv_istore (lv' := [(6, .int 1), (5, .int 0), (4, .ref od), (3, .ref oa), (2, .ref (am 0)), (1, .ref (ad 0)), (0, .ref b)]) hx hb dL_law_2669 hl (by decide) rfl (fun ls hl => ?_)
  refine lv_aload_n hx hb dL_law_2671 rfl (lv_at hl 4 rfl) ?_
  refine lv_aload_n hx hb dL_law_2672 rfl (lv_at hl 6 rfl) ?_
  refine lv_iload hx hb dL_law_2673 (lv_at hl 1 rfl) ?_
  refine lv_iconst (v := 1) hx hb dL_law_2675 (by decide) ?_
  refine lv_iadd hx hb dL_law_2676 ?_
  refine lv_topi (fun y ey => ?_)
  obtain rfl : y = 1 := ey.trans (by decide)
  refine va_sld hx hb hX hbl hbA hS (by unfold vp_in; decide) dL_law_2677 ?_
  refine lv_topi (fun y ey => ?_)
  obtain rfl : y = xs 1 := ey.trans (congrArg xs (by decide))
  refine lv_aload_n hx hb dL_law_2678 rfl (lv_at hl 6 rfl) ?_
  refine lv_iload hx hb dL_law_2679 (lv_at hl 1 rfl) ?_
  refine lv_iconst (v := 2) hx hb dL_law_2681 (by decide) ?_
  refine lv_iadd hx hb dL_law_2682 ?_
  refine lv_topi (fun y ey => ?_)
  obtain rfl : y = 2 := ey.trans (by decide)
  refine va_sld hx hb hX hbl hbA hS (by unfold vp_in; decide) dL_law_2683 ?_
  refine lv_topi (fun y ey => ?_)
  obtain rfl : y = xs 2 := ey.trans (congrArg xs (by decide))
  refine mj_callV (wr := []) (wc := WM cy am eda 0) (As := [.int (xs 1), .int (xs 2)]) (rest := []) ⟨hx, hb, hml, hown, hts⟩ (a_waiting_1 l D cy _ (xs 1) (xs 2)) (cwV 2 hts (goodL gL_law_X14_waiting) rfl rfl rfl (by decide +kernel) ⟨by decide, by decide⟩) hK hN hP hD hS hA hJS (ci := 19) (q0 := 0) rfl rfl rfl rfl hl.1 rfl (Nat.le_of_ble_eq_true rfl) dL_law_2684 ⟨Nat.le_of_ble_eq_true rfl, Nat.le_of_ble_eq_true rfl⟩ (fun H locs hB hJ hS => ?_)
  obtain ⟨hP1, hD1⟩ := hB
  obtain ⟨hP, hD⟩ := hJ _ hP1 hD1
  have hP : va_P D vwCl [(am 0, .inr (19, [.int 1, .ref (am 1), .ref (am 4), .ref (am 5), .ref (am 6), .ref (am 7), .ref (am 8), .int 0, .ref (am 9), .int 0, .int (-1), .int 100, .ref (am 10), .long 0, .int 0, .int 0, .int 0, .int 0, .long 0]))] H := hP
  have hD : va_D (fun q => s.heap.size ≤ q) [(am 0, .inr (19, [.int 1, .ref (am 1), .ref (am 4), .ref (am 5), .ref (am 6), .ref (am 7), .ref (am 8), .int 0, .ref (am 9), .int 0, .int (-1), .int 100, .ref (am 10), .long 0, .int 0, .int 0, .int 0, .int 0, .long 0]))] := hD
  refine lv_istore (lv' := [(7, .int 0), (6, .int 1), (5, .int 0), (4, .ref od), (3, .ref oa), (2, .ref (am 0)), (1, .ref (ad 0)), (0, .ref b)]) hx hb dL_law_2687 hl (by decide) rfl (fun ls hl => ?_)
  refine lv_aload_n hx hb dL_law_2689 rfl (lv_at hl 5 rfl) ?_
  refine ro_callV (As := []) (rest := []) ⟨hx, hb, hml, hown, hts⟩ (c_thrown l D cy _ 0 (am 0) 1 [.ref (am 1), .ref (am 4), .ref (am 5), .ref (am 6), .ref (am 7), .ref (am 8), .int 0, .ref (am 9), .int 0, .int (-1), .int 100, .ref (am 10), .long 0, .int 0, .int 0, .int 0, .int 0, .long 0] rfl) (cwV 0 hts (goodL gL_law_X14_thrown) rfl rfl rfl (by decide +kernel) ⟨by decide, by decide⟩) hK hN hP hS (ci := 19) (q0 := 0) rfl rfl rfl rfl hl.1 rfl (Nat.le_of_ble_eq_true rfl) dL_law_2690 ⟨Nat.le_of_ble_eq_true rfl, Nat.le_of_ble_eq_true rfl⟩ (fun H locs hP hS => ?_)
  refine lv_iload hx hb dL_law_2693 (lv_at hl 1 rfl) ?_
  refine lv_icmp_eq (tgt := 2700) hx hb dL_law_2695 (by decide) (fun _ => ?_) (fun c => absurd (by decide) c)
  refine lv_iload hx hb dL_law_2700 (lv_at hl 1 rfl) ?_
  refine lv_if_ne (tgt := 2717) hx hb dL_law_2702 (by decide) (fun _ => ?_) (fun c => absurd c (by decide))
  refine lv_goto (tgt := 3117) hx hb dL_law_2717 (by decide) ?_
  refine W.widen (k := 1000) (n := 10000) (Nat.le_of_ble_eq_true rfl) (Nat.le_of_ble_eq_true rfl) ?_
  exact hE _ _ _ hS (lv_sub hl [2, 3, 4, 5, 6, 7] rfl)

set_option maxRecDepth 100000 in
set_option maxHeartbeats 4000000 in
theorem law_takenAt_1 {p : Program} {e : Env} {s : State} {m : MethodId} {below : List Frame} {meth : Method} {c : Code} {l : Launch} (hfl : l.stackTraces = false) {b : Nat} {xs : Nat → Int32} {D : va_G} {cy : Nat → ClassId} {eda ca : Nat} {ia : Nat → Nat} (C0 : LawAt p s m meth c b xs D cy eda ca ia) {am : Nat → Nat} {ad : Nat → Nat} {rw_ : Nat → Nat → Option Nat} {w : va_W} (F : FrC cy ad rw_ w) {oa od : Nat} (hE : LawEnd p l e s m below meth c b (ad 0) (am 0) oa od) : LGoal p l e s m below meth c b D cy am eda w (ad 0) oa od 2572 := by
  obtain ⟨hx, hb, hml, hown, hts, hX, hbl, hK, hN, hT, hJS⟩ := id C0
  have hA : ∀ q : Nat, s.heap.size ≤ q → (fun q => s.heap.size ≤ q) q := fun _ h => h
  have hbA : ¬ (fun q => s.heap.size ≤ q) b := Nat.not_le.mpr hbl
  intro H locs ls hP hD hS hl
  refine lv_aload_n hx hb dL_law_2572 rfl (lv_at hl 4 rfl) ?_
  refine lv_aload_n hx hb dL_law_2573 rfl (lv_at hl 5 rfl) ?_
  refine lv_iload hx hb dL_law_2574 (lv_at hl 0 rfl) ?_
  refine lv_iconst (v := 1) hx hb dL_law_2576 (by decide) ?_
  refine lv_iadd hx hb dL_law_2577 ?_
  refine lv_topi (fun y ey => ?_)
  obtain rfl : y = 1 := ey.trans (by decide)
  refine va_sld hx hb hX hbl hbA hS (by unfold vp_in; decide) dL_law_2578 ?_
  refine lv_topi (fun y ey => ?_)
  obtain rfl : y = xs 1 := ey.trans (congrArg xs (by decide))
  refine lv_aload_n hx hb dL_law_2579 rfl (lv_at hl 5 rfl) ?_
  refine lv_iload hx hb dL_law_2580 (lv_at hl 0 rfl) ?_
  refine lv_iconst (v := 2) hx hb dL_law_2582 (by decide) ?_
  refine lv_iadd hx hb dL_law_2583 ?_
  refine lv_topi (fun y ey => ?_)
  obtain rfl : y = 2 := ey.trans (by decide)
  refine va_sld hx hb hX hbl hbA hS (by unfold vp_in; decide) dL_law_2584 ?_
  refine lv_topi (fun y ey => ?_)
  obtain rfl : y = xs 2 := ey.trans (congrArg xs (by decide))
  refine lv_aload_n hx hb dL_law_2585 rfl (lv_at hl 5 rfl) ?_
  refine lv_iload hx hb dL_law_2586 (lv_at hl 0 rfl) ?_
  refine lv_iconst (v := 3) hx hb dL_law_2588 (by decide) ?_
  refine lv_iadd hx hb dL_law_2589 ?_
  refine lv_topi (fun y ey => ?_)
  obtain rfl : y = 3 := ey.trans (by decide)
  refine va_sld hx hb hX hbl hbA hS (by unfold vp_in; decide) dL_law_2590 ?_
  refine lv_topi (fun y ey => ?_)
  obtain rfl : y = xs 3 := ey.trans (congrArg xs (by decide))
  refine lv_aload_n hx hb dL_law_2591 rfl (lv_at hl 2 rfl) ?_
  refine mw_callS (wr := WM cy am eda 0) (wc := OCL cy oa :: w) (As := [.ref (ad 0), .int (xs 1), .int (xs 2), .int (xs 3), .ref oa]) (rest := []) ⟨hx, hb, hml, hown, hts⟩ (w_takenAt_1 l D cy F hfl oa (fun _ => 0) _ (xs 1) (xs 2) (xs 3)) (vx_cwSW 5 hts (goodLW gL_law_L_takenAt) rfl rfl rfl (by decide +kernel) ⟨by decide, by decide⟩) hK hN hT (fun q hq => hS.2.1 q hq (Nat.not_le.mpr hq)) hP hD hS hA rfl hl.1 rfl (Nat.le_of_ble_eq_true rfl) dL_law_2592 ⟨Nat.le_of_ble_eq_true rfl, Nat.le_of_ble_eq_true rfl⟩ (fun H locs hB hJ hS => ?_)
  obtain ⟨hP, hD⟩ := hJ [] (fun k q h => by simp at h) ⟨fun i j p q h => by simp at h, fun k q h => by simp at h⟩
  have hP : va_P D vwCl (WM cy am eda 0) H := hP
  have hD : va_D (fun q => s.heap.size ≤ q) (WM cy am eda 0) := hD
  refine lv_istore (lv' := [(6, .int 1), (5, .int 0), (4, .ref od), (3, .ref oa), (2, .ref (am 0)), (1, .ref (ad 0)), (0, .ref b)]) hx hb dL_law_2595 hl (by decide) rfl (fun ls hl => ?_)
  refine lv_aload_n hx hb dL_law_2597 rfl (lv_at hl 4 rfl) ?_
  refine lv_aload_n hx hb dL_law_2598 rfl (lv_at hl 6 rfl) ?_
  refine lv_iload hx hb dL_law_2599 (lv_at hl 1 rfl) ?_
  refine lv_iconst (v := 1) hx hb dL_law_2601 (by decide) ?_
  refine lv_iadd hx hb dL_law_2602 ?_
  refine lv_topi (fun y ey => ?_)
  obtain rfl : y = 1 := ey.trans (by decide)
  refine va_sld hx hb hX hbl hbA hS (by unfold vp_in; decide) dL_law_2603 ?_
  refine lv_topi (fun y ey => ?_)
  obtain rfl : y = xs 1 := ey.trans (congrArg xs (by decide))
  refine lv_aload_n hx hb dL_law_2604 rfl (lv_at hl 6 rfl) ?_
  refine lv_iload hx hb dL_law_2605 (lv_at hl 1 rfl) ?_
  refine lv_iconst (v := 2) hx hb dL_law_2607 (by decide) ?_
  refine lv_iadd hx hb dL_law_2608 ?_
  refine lv_topi (fun y ey => ?_)
  obtain rfl : y = 2 := ey.trans (by decide)
  refine va_sld hx hb hX hbl hbA hS (by unfold vp_in; decide) dL_law_2609 ?_
  refine lv_topi (fun y ey => ?_)
  obtain rfl : y = xs 2 := ey.trans (congrArg xs (by decide))
  refine lv_aload_n hx hb dL_law_2610 rfl (lv_at hl 6 rfl) ?_
  refine lv_iload hx hb dL_law_2611 (lv_at hl 1 rfl) ?_
  refine lv_iconst (v := 3) hx hb dL_law_2613 (by decide) ?_
  refine lv_iadd hx hb dL_law_2614 ?_
  refine lv_topi (fun y ey => ?_)
  obtain rfl : y = 3 := ey.trans (by decide)
  refine va_sld hx hb hX hbl hbA hS (by unfold vp_in; decide) dL_law_2615 ?_
  refine lv_topi (fun y ey => ?_)
  obtain rfl : y = xs 3 := ey.trans (congrArg xs (by decide))
  refine mj_callV (wr := []) (wc := WM cy am eda 0) (As := [.int (xs 1), .int (xs 2), .int (xs 3)]) (rest := []) ⟨hx, hb, hml, hown, hts⟩ (a_takenAt_1 l D cy _ (xs 1) (xs 2) (xs 3)) (cwV 3 hts (goodL gL_law_X14_takenAt) rfl rfl rfl (by decide +kernel) ⟨by decide, by decide⟩) hK hN hP hD hS hA hJS (ci := 19) (q0 := 0) rfl rfl rfl rfl hl.1 rfl (Nat.le_of_ble_eq_true rfl) dL_law_2616 ⟨Nat.le_of_ble_eq_true rfl, Nat.le_of_ble_eq_true rfl⟩ (fun H locs hB hJ hS => ?_)
  obtain ⟨hP1, hD1⟩ := hB
  obtain ⟨hP, hD⟩ := hJ _ hP1 hD1
  have hP : va_P D vwCl [(am 0, .inr (19, [.int 1, .ref (am 1), .ref (am 4), .ref (am 5), .ref (am 6), .ref (am 7), .ref (am 8), .int 0, .ref (am 9), .int 0, .int (-1), .int 100, .ref (am 10), .long 0, .int 0, .int 0, .int 0, .int 0, .long 0]))] H := hP
  have hD : va_D (fun q => s.heap.size ≤ q) [(am 0, .inr (19, [.int 1, .ref (am 1), .ref (am 4), .ref (am 5), .ref (am 6), .ref (am 7), .ref (am 8), .int 0, .ref (am 9), .int 0, .int (-1), .int 100, .ref (am 10), .long 0, .int 0, .int 0, .int 0, .int 0, .long 0]))] := hD
  refine lv_istore (lv' := [(7, .int 0), (6, .int 1), (5, .int 0), (4, .ref od), (3, .ref oa), (2, .ref (am 0)), (1, .ref (ad 0)), (0, .ref b)]) hx hb dL_law_2619 hl (by decide) rfl (fun ls hl => ?_)
  refine lv_aload_n hx hb dL_law_2621 rfl (lv_at hl 5 rfl) ?_
  refine ro_callV (As := []) (rest := []) ⟨hx, hb, hml, hown, hts⟩ (c_thrown l D cy _ 0 (am 0) 1 [.ref (am 1), .ref (am 4), .ref (am 5), .ref (am 6), .ref (am 7), .ref (am 8), .int 0, .ref (am 9), .int 0, .int (-1), .int 100, .ref (am 10), .long 0, .int 0, .int 0, .int 0, .int 0, .long 0] rfl) (cwV 0 hts (goodL gL_law_X14_thrown) rfl rfl rfl (by decide +kernel) ⟨by decide, by decide⟩) hK hN hP hS (ci := 19) (q0 := 0) rfl rfl rfl rfl hl.1 rfl (Nat.le_of_ble_eq_true rfl) dL_law_2622 ⟨Nat.le_of_ble_eq_true rfl, Nat.le_of_ble_eq_true rfl⟩ (fun H locs hP hS => ?_)
  refine lv_iload hx hb dL_law_2625 (lv_at hl 1 rfl) ?_
  refine lv_icmp_eq (tgt := 2632) hx hb dL_law_2627 (by decide) (fun _ => ?_) (fun c => absurd (by decide) c)
  refine lv_iload hx hb dL_law_2632 (lv_at hl 1 rfl) ?_
  refine lv_if_ne (tgt := 2649) hx hb dL_law_2634 (by decide) (fun _ => ?_) (fun c => absurd c (by decide))
  refine lv_goto (tgt := 3117) hx hb dL_law_2649 (by decide) ?_
  refine W.widen (k := 1000) (n := 10000) (Nat.le_of_ble_eq_true rfl) (Nat.le_of_ble_eq_true rfl) ?_
  exact hE _ _ _ hS (lv_sub hl [2, 3, 4, 5, 6, 7] rfl)

set_option maxRecDepth 100000 in
set_option maxHeartbeats 4000000 in
theorem law_gotAt_1 {p : Program} {e : Env} {s : State} {m : MethodId} {below : List Frame} {meth : Method} {c : Code} {l : Launch} (hfl : l.stackTraces = false) {b : Nat} {xs : Nat → Int32} {D : va_G} {cy : Nat → ClassId} {eda ca : Nat} {ia : Nat → Nat} (C0 : LawAt p s m meth c b xs D cy eda ca ia) {am : Nat → Nat} {ad : Nat → Nat} {rw_ : Nat → Nat → Option Nat} {w : va_W} (F : FrC cy ad rw_ w) {oa od : Nat} (hE : LawEnd p l e s m below meth c b (ad 0) (am 0) oa od) : LGoal p l e s m below meth c b D cy am eda w (ad 0) oa od 2733 := by
  obtain ⟨hx, hb, hml, hown, hts, hX, hbl, hK, hN, hT, hJS⟩ := id C0
  have hA : ∀ q : Nat, s.heap.size ≤ q → (fun q => s.heap.size ≤ q) q := fun _ h => h
  have hbA : ¬ (fun q => s.heap.size ≤ q) b := Nat.not_le.mpr hbl
  intro H locs ls hP hD hS hl
  refine lv_aload_n hx hb dL_law_2733 rfl (lv_at hl 4 rfl) ?_
  refine lv_aload_n hx hb dL_law_2734 rfl (lv_at hl 5 rfl) ?_
  refine lv_iload hx hb dL_law_2735 (lv_at hl 0 rfl) ?_
  refine lv_iconst (v := 1) hx hb dL_law_2737 (by decide) ?_
  refine lv_iadd hx hb dL_law_2738 ?_
  refine lv_topi (fun y ey => ?_)
  obtain rfl : y = 1 := ey.trans (by decide)
  refine va_sld hx hb hX hbl hbA hS (by unfold vp_in; decide) dL_law_2739 ?_
  refine lv_topi (fun y ey => ?_)
  obtain rfl : y = xs 1 := ey.trans (congrArg xs (by decide))
  refine lv_aload_n hx hb dL_law_2740 rfl (lv_at hl 2 rfl) ?_
  refine mw_callS (wr := WM cy am eda 0) (wc := OCL cy oa :: w) (As := [.ref (ad 0), .int (xs 1), .ref oa]) (rest := []) ⟨hx, hb, hml, hown, hts⟩ (w_gotAt_1 l D cy F hfl oa (fun _ => 0) _ (xs 1)) (vx_cwSW 3 hts (goodLW gL_law_L_gotAt) rfl rfl rfl (by decide +kernel) ⟨by decide, by decide⟩) hK hN hT (fun q hq => hS.2.1 q hq (Nat.not_le.mpr hq)) hP hD hS hA rfl hl.1 rfl (Nat.le_of_ble_eq_true rfl) dL_law_2741 ⟨Nat.le_of_ble_eq_true rfl, Nat.le_of_ble_eq_true rfl⟩ (fun H locs hB hJ hS => ?_)
  obtain ⟨hP, hD⟩ := hJ [] (fun k q h => by simp at h) ⟨fun i j p q h => by simp at h, fun k q h => by simp at h⟩
  have hP : va_P D vwCl (WM cy am eda 0) H := hP
  have hD : va_D (fun q => s.heap.size ≤ q) (WM cy am eda 0) := hD
  refine lv_istore (lv' := [(6, .int 1), (5, .int 0), (4, .ref od), (3, .ref oa), (2, .ref (am 0)), (1, .ref (ad 0)), (0, .ref b)]) hx hb dL_law_2744 hl (by decide) rfl (fun ls hl => ?_)
  refine lv_aload_n hx hb dL_law_2746 rfl (lv_at hl 4 rfl) ?_
  refine lv_aload_n hx hb dL_law_2747 rfl (lv_at hl 6 rfl) ?_
  refine lv_iload hx hb dL_law_2748 (lv_at hl 1 rfl) ?_
  refine lv_iconst (v := 1) hx hb dL_law_2750 (by decide) ?_
  refine lv_iadd hx hb dL_law_2751 ?_
  refine lv_topi (fun y ey => ?_)
  obtain rfl : y = 1 := ey.trans (by decide)
  refine va_sld hx hb hX hbl hbA hS (by unfold vp_in; decide) dL_law_2752 ?_
  refine lv_topi (fun y ey => ?_)
  obtain rfl : y = xs 1 := ey.trans (congrArg xs (by decide))
  refine mj_callV (wr := []) (wc := WM cy am eda 0) (As := [.int (xs 1)]) (rest := []) ⟨hx, hb, hml, hown, hts⟩ (a_gotAt_1 l D cy _ (xs 1)) (cwV 1 hts (goodL gL_law_X14_gotAt) rfl rfl rfl (by decide +kernel) ⟨by decide, by decide⟩) hK hN hP hD hS hA hJS (ci := 19) (q0 := 0) rfl rfl rfl rfl hl.1 rfl (Nat.le_of_ble_eq_true rfl) dL_law_2753 ⟨Nat.le_of_ble_eq_true rfl, Nat.le_of_ble_eq_true rfl⟩ (fun H locs hB hJ hS => ?_)
  obtain ⟨hP1, hD1⟩ := hB
  obtain ⟨hP, hD⟩ := hJ _ hP1 hD1
  have hP : va_P D vwCl [(am 0, .inr (19, [.int 1, .ref (am 1), .ref (am 4), .ref (am 5), .ref (am 6), .ref (am 7), .ref (am 8), .int 0, .ref (am 9), .int 0, .int (-1), .int 100, .ref (am 10), .long 0, .int 0, .int 0, .int 0, .int 0, .long 0]))] H := hP
  have hD : va_D (fun q => s.heap.size ≤ q) [(am 0, .inr (19, [.int 1, .ref (am 1), .ref (am 4), .ref (am 5), .ref (am 6), .ref (am 7), .ref (am 8), .int 0, .ref (am 9), .int 0, .int (-1), .int 100, .ref (am 10), .long 0, .int 0, .int 0, .int 0, .int 0, .long 0]))] := hD
  refine lv_istore (lv' := [(7, .int 0), (6, .int 1), (5, .int 0), (4, .ref od), (3, .ref oa), (2, .ref (am 0)), (1, .ref (ad 0)), (0, .ref b)]) hx hb dL_law_2756 hl (by decide) rfl (fun ls hl => ?_)
  refine lv_aload_n hx hb dL_law_2758 rfl (lv_at hl 5 rfl) ?_
  refine ro_callV (As := []) (rest := []) ⟨hx, hb, hml, hown, hts⟩ (c_thrown l D cy _ 0 (am 0) 1 [.ref (am 1), .ref (am 4), .ref (am 5), .ref (am 6), .ref (am 7), .ref (am 8), .int 0, .ref (am 9), .int 0, .int (-1), .int 100, .ref (am 10), .long 0, .int 0, .int 0, .int 0, .int 0, .long 0] rfl) (cwV 0 hts (goodL gL_law_X14_thrown) rfl rfl rfl (by decide +kernel) ⟨by decide, by decide⟩) hK hN hP hS (ci := 19) (q0 := 0) rfl rfl rfl rfl hl.1 rfl (Nat.le_of_ble_eq_true rfl) dL_law_2759 ⟨Nat.le_of_ble_eq_true rfl, Nat.le_of_ble_eq_true rfl⟩ (fun H locs hP hS => ?_)
  refine lv_iload hx hb dL_law_2762 (lv_at hl 1 rfl) ?_
  refine lv_icmp_eq (tgt := 2769) hx hb dL_law_2764 (by decide) (fun _ => ?_) (fun c => absurd (by decide) c)
  refine lv_iload hx hb dL_law_2769 (lv_at hl 1 rfl) ?_
  refine lv_if_ne (tgt := 2786) hx hb dL_law_2771 (by decide) (fun _ => ?_) (fun c => absurd c (by decide))
  refine lv_goto (tgt := 3117) hx hb dL_law_2786 (by decide) ?_
  refine W.widen (k := 1000) (n := 10000) (Nat.le_of_ble_eq_true rfl) (Nat.le_of_ble_eq_true rfl) ?_
  exact hE _ _ _ hS (lv_sub hl [2, 3, 4, 5, 6, 7] rfl)

set_option maxRecDepth 100000 in
set_option maxHeartbeats 4000000 in
theorem law_packets_0t {p : Program} {e : Env} {s : State} {m : MethodId} {below : List Frame} {meth : Method} {c : Code} {l : Launch} (hfl : l.stackTraces = false) {b : Nat} {xs : Nat → Int32} {D : va_G} {cy : Nat → ClassId} {eda ca : Nat} {ia : Nat → Nat} (C0 : LawAt p s m meth c b xs D cy eda ca ia) {am : Nat → Nat} {ad : Nat → Nat} {rw_ : Nat → Nat → Option Nat} {w : va_W} (F : FrC cy ad rw_ w) {oa od : Nat} (hE : LawEnd p l e s m below meth c b (ad 0) (am 0) oa od) (e1 : c16 (xs 1) = 116) : LGoal p l e s m below meth c b D cy am eda w (ad 0) oa od 2789 := by
  obtain ⟨hx, hb, hml, hown, hts, hX, hbl, hK, hN, hT, hJS⟩ := id C0
  have hA : ∀ q : Nat, s.heap.size ≤ q → (fun q => s.heap.size ≤ q) q := fun _ h => h
  have hbA : ¬ (fun q => s.heap.size ≤ q) b := Nat.not_le.mpr hbl
  intro H locs ls hP hD hS hl
  refine lv_aload_n hx hb dL_law_2789 rfl (lv_at hl 4 rfl) ?_
  refine lv_aload_n hx hb dL_law_2790 rfl (lv_at hl 5 rfl) ?_
  refine lv_iload hx hb dL_law_2791 (lv_at hl 0 rfl) ?_
  refine lv_iconst (v := 1) hx hb dL_law_2793 (by decide) ?_
  refine lv_iadd hx hb dL_law_2794 ?_
  refine lv_topi (fun y ey => ?_)
  obtain rfl : y = 1 := ey.trans (by decide)
  refine va_sld hx hb hX hbl hbA hS (by unfold vp_in; decide) dL_law_2795 ?_
  refine lv_topi (fun y ey => ?_)
  obtain rfl : y = xs 1 := ey.trans (congrArg xs (by decide))
  refine lv_i2c (v := c16 (xs 1)) hx hb dL_law_2796 rfl ?_
  refine lv_topi (fun y ey => ?_)
  obtain rfl : y = 116 := ey.trans e1
  refine lv_aload_n hx hb dL_law_2797 rfl (lv_at hl 2 rfl) ?_
  refine mw_callS (wr := WM cy am eda 0) (wc := OCL cy oa :: w) (As := [.ref (ad 0), .int 116, .ref oa]) (rest := []) ⟨hx, hb, hml, hown, hts⟩ (w_packets_0t l D cy F oa (fun _ => 0) _ ) (vx_cwSW 3 hts (goodLW gL_law_L_packets) rfl rfl rfl (by decide +kernel) ⟨by decide, by decide⟩) hK hN hT (fun q hq => hS.2.1 q hq (Nat.not_le.mpr hq)) hP hD hS hA rfl hl.1 rfl (Nat.le_of_ble_eq_true rfl) dL_law_2798 ⟨Nat.le_of_ble_eq_true rfl, Nat.le_of_ble_eq_true rfl⟩ (fun H locs hB hJ hS => ?_)
  obtain ⟨hP, hD⟩ := hJ [(oa, .inl (cy 2, 1, .inr (.inl (vp_updL (fun _ => 0) 0 (0)))))] hB (my_d1 (my_in1 (ko := 0) rfl))
  have hP := hP.sub (ws' := [(oa, .inl (cy 2, 1, .inr (.inl (vp_updL (fun _ => 0) 0 (0)))))] ++ WM cy am eda 0) [14, 0, 1, 2, 3, 4, 5, 6, 7, 8, 9, 10, 11, 12, 13] rfl
  have hD := hD.sub (ws' := [(oa, .inl (cy 2, 1, .inr (.inl (vp_updL (fun _ => 0) 0 (0)))))] ++ WM cy am eda 0) [14, 0, 1, 2, 3, 4, 5, 6, 7, 8, 9, 10, 11, 12, 13] (by decide) rfl
  refine lv_istore (lv' := [(6, .int 0), (5, .int 0), (4, .ref od), (3, .ref oa), (2, .ref (am 0)), (1, .ref (ad 0)), (0, .ref b)]) hx hb dL_law_2801 hl (by decide) rfl (fun ls hl => ?_)
  refine lv_aload_n hx hb dL_law_2803 rfl (lv_at hl 4 rfl) ?_
  refine lv_aload_n hx hb dL_law_2804 rfl (lv_at hl 6 rfl) ?_
  refine lv_iload hx hb dL_law_2805 (lv_at hl 1 rfl) ?_
  refine lv_iconst (v := 1) hx hb dL_law_2807 (by decide) ?_
  refine lv_iadd hx hb dL_law_2808 ?_
  refine lv_topi (fun y ey => ?_)
  obtain rfl : y = 1 := ey.trans (by decide)
  refine va_sld hx hb hX hbl hbA hS (by unfold vp_in; decide) dL_law_2809 ?_
  refine lv_topi (fun y ey => ?_)
  obtain rfl : y = xs 1 := ey.trans (congrArg xs (by decide))
  refine lv_i2c (v := c16 (xs 1)) hx hb dL_law_2810 rfl ?_
  refine lv_topi (fun y ey => ?_)
  obtain rfl : y = 116 := ey.trans e1
  refine mj_callV (wr := [(oa, .inl (cy 2, 1, .inr (.inl (vp_updL (fun _ => 0) 0 (0)))))]) (wc := WM cy am eda 0) (As := [.int 116]) (rest := []) ⟨hx, hb, hml, hown, hts⟩ (a_packets_t l D cy _ ) (cwV 1 hts (goodL gL_law_X14_packets) rfl rfl rfl (by decide +kernel) ⟨by decide, by decide⟩) hK hN hP hD hS hA hJS (ci := 19) (q0 := 0) rfl rfl rfl rfl hl.1 rfl (Nat.le_of_ble_eq_true rfl) dL_law_2811 ⟨Nat.le_of_ble_eq_true rfl, Nat.le_of_ble_eq_true rfl⟩ (fun H locs hB hJ hS => ?_)
  obtain ⟨hP1, hD1⟩ := hB
  obtain ⟨hP, hD⟩ := hJ _ hP1 hD1
  have hP : va_P D vwCl [(oa, .inl (cy 2, 1, .inr (.inl (vp_updL (fun _ => 0) 0 (0))))), (am 0, .inr (19, [.int 0, .ref (am 1), .ref (am 4), .ref (am 5), .ref (am 6), .ref (am 7), .ref (am 8), .int 0, .ref (am 9), .int 0, .int (-1), .int 100, .ref (am 10), .long 0, .int 0, .int 0, .int 0, .int 0, .long 0]))] H := hP
  have hD : va_D (fun q => s.heap.size ≤ q) [(oa, .inl (cy 2, 1, .inr (.inl (vp_updL (fun _ => 0) 0 (0))))), (am 0, .inr (19, [.int 0, .ref (am 1), .ref (am 4), .ref (am 5), .ref (am 6), .ref (am 7), .ref (am 8), .int 0, .ref (am 9), .int 0, .int (-1), .int 100, .ref (am 10), .long 0, .int 0, .int 0, .int 0, .int 0, .long 0]))] := hD
  refine lv_istore (lv' := [(7, .int 0), (6, .int 0), (5, .int 0), (4, .ref od), (3, .ref oa), (2, .ref (am 0)), (1, .ref (ad 0)), (0, .ref b)]) hx hb dL_law_2814 hl (by decide) rfl (fun ls hl => ?_)
  refine lv_aload_n hx hb dL_law_2816 rfl (lv_at hl 5 rfl) ?_
  refine ro_callV (As := []) (rest := []) ⟨hx, hb, hml, hown, hts⟩ (c_thrown l D cy _ 1 (am 0) 0 [.ref (am 1), .ref (am 4), .ref (am 5), .ref (am 6), .ref (am 7), .ref (am 8), .int 0, .ref (am 9), .int 0, .int (-1), .int 100, .ref (am 10), .long 0, .int 0, .int 0, .int 0, .int 0, .long 0] rfl) (cwV 0 hts (goodL gL_law_X14_thrown) rfl rfl rfl (by decide +kernel) ⟨by decide, by decide⟩) hK hN hP hS (ci := 19) (q0 := 1) rfl rfl rfl rfl hl.1 rfl (Nat.le_of_ble_eq_true rfl) dL_law_2817 ⟨Nat.le_of_ble_eq_true rfl, Nat.le_of_ble_eq_true rfl⟩ (fun H locs hP hS => ?_)
  refine lv_iload hx hb dL_law_2820 (lv_at hl 1 rfl) ?_
  refine lv_icmp_eq (tgt := 2827) hx hb dL_law_2822 (by decide) (fun _ => ?_) (fun c => absurd (by decide) c)
  refine lv_iload hx hb dL_law_2827 (lv_at hl 1 rfl) ?_
  refine lv_if_ne (tgt := 2844) hx hb dL_law_2829 (by decide) (fun c => absurd (by decide) c) (fun _ => ?_)
  refine lv_aload_n hx hb dL_law_2832 rfl (lv_at hl 4 rfl) ?_
  refine lv_iconst (v := 0) hx hb dL_law_2833 (by decide) ?_
  refine va_lald hx hb hK hP 0 2 rfl rfl (by unfold vp_in; decide) dL_law_2834 ?_
  refine lv_topl (fun y ey => ?_)
  obtain rfl : y = 0 := ey.trans (my_rd0 _ _)
  refine lv_iload hx hb dL_law_2835 (lv_at hl 0 rfl) ?_
  refine lv_i2l (v := 0) hx hb dL_law_2837 (by decide) ?_
  refine W.lcmp hx hb dL_law_2838 ?_
  refine lv_topi (fun y ey => ?_)
  obtain rfl : y = 0 := ey.trans (my_cmp _)
  refine lv_if_eq (tgt := 2844) hx hb dL_law_2839 (by decide) (fun _ => ?_) (fun c => absurd (by decide) c)
  refine lv_goto (tgt := 3117) hx hb dL_law_2844 (by decide) ?_
  refine W.widen (k := 1000) (n := 10000) (Nat.le_of_ble_eq_true rfl) (Nat.le_of_ble_eq_true rfl) ?_
  exact hE _ _ _ hS (lv_sub hl [2, 3, 4, 5, 6, 7] rfl)

set_option maxRecDepth 100000 in
set_option maxHeartbeats 4000000 in
theorem law_packets_0d {p : Program} {e : Env} {s : State} {m : MethodId} {below : List Frame} {meth : Method} {c : Code} {l : Launch} (hfl : l.stackTraces = false) {b : Nat} {xs : Nat → Int32} {D : va_G} {cy : Nat → ClassId} {eda ca : Nat} {ia : Nat → Nat} (C0 : LawAt p s m meth c b xs D cy eda ca ia) {am : Nat → Nat} {ad : Nat → Nat} {rw_ : Nat → Nat → Option Nat} {w : va_W} (F : FrC cy ad rw_ w) {oa od : Nat} (hE : LawEnd p l e s m below meth c b (ad 0) (am 0) oa od) (e1 : c16 (xs 1) = 100) : LGoal p l e s m below meth c b D cy am eda w (ad 0) oa od 2789 := by
  obtain ⟨hx, hb, hml, hown, hts, hX, hbl, hK, hN, hT, hJS⟩ := id C0
  have hA : ∀ q : Nat, s.heap.size ≤ q → (fun q => s.heap.size ≤ q) q := fun _ h => h
  have hbA : ¬ (fun q => s.heap.size ≤ q) b := Nat.not_le.mpr hbl
  intro H locs ls hP hD hS hl
  refine lv_aload_n hx hb dL_law_2789 rfl (lv_at hl 4 rfl) ?_
  refine lv_aload_n hx hb dL_law_2790 rfl (lv_at hl 5 rfl) ?_
  refine lv_iload hx hb dL_law_2791 (lv_at hl 0 rfl) ?_
  refine lv_iconst (v := 1) hx hb dL_law_2793 (by decide) ?_
  refine lv_iadd hx hb dL_law_2794 ?_
  refine lv_topi (fun y ey => ?_)
  obtain rfl : y = 1 := ey.trans (by decide)
  refine va_sld hx hb hX hbl hbA hS (by unfold vp_in; decide) dL_law_2795 ?_
  refine lv_topi (fun y ey => ?_)
  obtain rfl : y = xs 1 := ey.trans (congrArg xs (by decide))
  refine lv_i2c (v := c16 (xs 1)) hx hb dL_law_2796 rfl ?_
  refine lv_topi (fun y ey => ?_)
  obtain rfl : y = 100 := ey.trans e1
  refine lv_aload_n hx hb dL_law_2797 rfl (lv_at hl 2 rfl) ?_
  refine mw_callS (wr := WM cy am eda 0) (wc := OCL cy oa :: w) (As := [.ref (ad 0), .int 100, .ref oa]) (rest := []) ⟨hx, hb, hml, hown, hts⟩ (w_packets_0d l D cy F oa (fun _ => 0) _ ) (vx_cwSW 3 hts (goodLW gL_law_L_packets) rfl rfl rfl (by decide +kernel) ⟨by decide, by decide⟩) hK hN hT (fun q hq => hS.2.1 q hq (Nat.not_le.mpr hq)) hP hD hS hA rfl hl.1 rfl (Nat.le_of_ble_eq_true rfl) dL_law_2798 ⟨Nat.le_of_ble_eq_true rfl, Nat.le_of_ble_eq_true rfl⟩ (fun H locs hB hJ hS => ?_)
  obtain ⟨hP, hD⟩ := hJ [(oa, .inl (cy 2, 1, .inr (.inl (vp_updL (fun _ => 0) 0 (0)))))] hB (my_d1 (my_in1 (ko := 0) rfl))
  have hP := hP.sub (ws' := [(oa, .inl (cy 2, 1, .inr (.inl (vp_updL (fun _ => 0) 0 (0)))))] ++ WM cy am eda 0) [14, 0, 1, 2, 3, 4, 5, 6, 7, 8, 9, 10, 11, 12, 13] rfl
  have hD := hD.sub (ws' := [(oa, .inl (cy 2, 1, .inr (.inl (vp_updL (fun _ => 0) 0 (0)))))] ++ WM cy am eda 0) [14, 0, 1, 2, 3, 4, 5, 6, 7, 8, 9, 10, 11, 12, 13] (by decide) rfl
  refine lv_istore (lv' := [(6, .int 0), (5, .int 0), (4, .ref od), (3, .ref oa), (2, .ref (am 0)), (1, .ref (ad 0)), (0, .ref b)]) hx hb dL_law_2801 hl (by decide) rfl (fun ls hl => ?_)
  refine lv_aload_n hx hb dL_law_2803 rfl (lv_at hl 4 rfl) ?_
  refine lv_aload_n hx hb dL_law_2804 rfl (lv_at hl 6 rfl) ?_
  refine lv_iload hx hb dL_law_2805 (lv_at hl 1 rfl) ?_
  refine lv_iconst (v := 1) hx hb dL_law_2807 (by decide) ?_
  refine lv_iadd hx hb dL_law_2808 ?_
  refine lv_topi (fun y ey => ?_)
  obtain rfl : y = 1 := ey.trans (by decide)
  refine va_sld hx hb hX hbl hbA hS (by unfold vp_in; decide) dL_law_2809 ?_
  refine lv_topi (fun y ey => ?_)
  obtain rfl : y = xs 1 := ey.trans (congrArg xs (by decide))
  refine lv_i2c (v := c16 (xs 1)) hx hb dL_law_2810 rfl ?_
  refine lv_topi (fun y ey => ?_)
  obtain rfl : y = 100 := ey.trans e1
  refine mj_callV (wr := [(oa, .inl (cy 2, 1, .inr (.inl (vp_updL (fun _ => 0) 0 (0)))))]) (wc := WM cy am eda 0) (As := [.int 100]) (rest := []) ⟨hx, hb, hml, hown, hts⟩ (a_packets_d l D cy _ ) (cwV 1 hts (goodL gL_law_X14_packets) rfl rfl rfl (by decide +kernel) ⟨by decide, by decide⟩) hK hN hP hD hS hA hJS (ci := 19) (q0 := 0) rfl rfl rfl rfl hl.1 rfl (Nat.le_of_ble_eq_true rfl) dL_law_2811 ⟨Nat.le_of_ble_eq_true rfl, Nat.le_of_ble_eq_true rfl⟩ (fun H locs hB hJ hS => ?_)
  obtain ⟨hP1, hD1⟩ := hB
  obtain ⟨hP, hD⟩ := hJ _ hP1 hD1
  have hP : va_P D vwCl [(oa, .inl (cy 2, 1, .inr (.inl (vp_updL (fun _ => 0) 0 (0))))), (am 0, .inr (19, [.int 0, .ref (am 1), .ref (am 4), .ref (am 5), .ref (am 6), .ref (am 7), .ref (am 8), .int 0, .ref (am 9), .int 0, .int (-1), .int 100, .ref (am 10), .long 0, .int 0, .int 0, .int 0, .int 0, .long 0]))] H := hP
  have hD : va_D (fun q => s.heap.size ≤ q) [(oa, .inl (cy 2, 1, .inr (.inl (vp_updL (fun _ => 0) 0 (0))))), (am 0, .inr (19, [.int 0, .ref (am 1), .ref (am 4), .ref (am 5), .ref (am 6), .ref (am 7), .ref (am 8), .int 0, .ref (am 9), .int 0, .int (-1), .int 100, .ref (am 10), .long 0, .int 0, .int 0, .int 0, .int 0, .long 0]))] := hD
  refine lv_istore (lv' := [(7, .int 0), (6, .int 0), (5, .int 0), (4, .ref od), (3, .ref oa), (2, .ref (am 0)), (1, .ref (ad 0)), (0, .ref b)]) hx hb dL_law_2814 hl (by decide) rfl (fun ls hl => ?_)
  refine lv_aload_n hx hb dL_law_2816 rfl (lv_at hl 5 rfl) ?_
  refine ro_callV (As := []) (rest := []) ⟨hx, hb, hml, hown, hts⟩ (c_thrown l D cy _ 1 (am 0) 0 [.ref (am 1), .ref (am 4), .ref (am 5), .ref (am 6), .ref (am 7), .ref (am 8), .int 0, .ref (am 9), .int 0, .int (-1), .int 100, .ref (am 10), .long 0, .int 0, .int 0, .int 0, .int 0, .long 0] rfl) (cwV 0 hts (goodL gL_law_X14_thrown) rfl rfl rfl (by decide +kernel) ⟨by decide, by decide⟩) hK hN hP hS (ci := 19) (q0 := 1) rfl rfl rfl rfl hl.1 rfl (Nat.le_of_ble_eq_true rfl) dL_law_2817 ⟨Nat.le_of_ble_eq_true rfl, Nat.le_of_ble_eq_true rfl⟩ (fun H locs hP hS => ?_)
  refine lv_iload hx hb dL_law_2820 (lv_at hl 1 rfl) ?_
  refine lv_icmp_eq (tgt := 2827) hx hb dL_law_2822 (by decide) (fun _ => ?_) (fun c => absurd (by decide) c)
  refine lv_iload hx hb dL_law_2827 (lv_at hl 1 rfl) ?_
  refine lv_if_ne (tgt := 2844) hx hb dL_law_2829 (by decide) (fun c => absurd (by decide) c) (fun _ => ?_)
  refine lv_aload_n hx hb dL_law_2832 rfl (lv_at hl 4 rfl) ?_
  refine lv_iconst (v := 0) hx hb dL_law_2833 (by decide) ?_
  refine va_lald hx hb hK hP 0 2 rfl rfl (by unfold vp_in; decide) dL_law_2834 ?_
  refine lv_topl (fun y ey => ?_)
  obtain rfl : y = 0 := ey.trans (my_rd0 _ _)
  refine lv_iload hx hb dL_law_2835 (lv_at hl 0 rfl) ?_
  refine lv_i2l (v := 0) hx hb dL_law_2837 (by decide) ?_
  refine W.lcmp hx hb dL_law_2838 ?_
  refine lv_topi (fun y ey => ?_)
  obtain rfl : y = 0 := ey.trans (my_cmp _)
  refine lv_if_eq (tgt := 2844) hx hb dL_law_2839 (by decide) (fun _ => ?_) (fun c => absurd (by decide) c)
  refine lv_goto (tgt := 3117) hx hb dL_law_2844 (by decide) ?_
  refine W.widen (k := 1000) (n := 10000) (Nat.le_of_ble_eq_true rfl) (Nat.le_of_ble_eq_true rfl) ?_
  exact hE _ _ _ hS (lv_sub hl [2, 3, 4, 5, 6, 7] rfl)

set_option maxRecDepth 100000 in
set_option maxHeartbeats 4000000 in
theorem law_packets_0h {p : Program} {e : Env} {s : State} {m : MethodId} {below : List Frame} {meth : Method} {c : Code} {l : Launch} (hfl : l.stackTraces = false) {b : Nat} {xs : Nat → Int32} {D : va_G} {cy : Nat → ClassId} {eda ca : Nat} {ia : Nat → Nat} (C0 : LawAt p s m meth c b xs D cy eda ca ia) {am : Nat → Nat} {ad : Nat → Nat} {rw_ : Nat → Nat → Option Nat} {w : va_W} (F : FrC cy ad rw_ w) {oa od : Nat} (hE : LawEnd p l e s m below meth c b (ad 0) (am 0) oa od) (e1 : c16 (xs 1) = 104) : LGoal p l e s m below meth c b D cy am eda w (ad 0) oa od 2789 := by
  obtain ⟨hx, hb, hml, hown, hts, hX, hbl, hK, hN, hT, hJS⟩ := id C0
  have hA : ∀ q : Nat, s.heap.size ≤ q → (fun q => s.heap.size ≤ q) q := fun _ h => h
  have hbA : ¬ (fun q => s.heap.size ≤ q) b := Nat.not_le.mpr hbl
  intro H locs ls hP hD hS hl
  refine lv_aload_n hx hb dL_law_2789 rfl (lv_at hl 4 rfl) ?_
  refine lv_aload_n hx hb dL_law_2790 rfl (lv_at hl 5 rfl) ?_
  refine lv_iload hx hb dL_law_2791 (lv_at hl 0 rfl) ?_
  refine lv_iconst (v := 1) hx hb dL_law_2793 (by decide) ?_
  refine lv_iadd hx hb dL_law_2794 ?_
  refine lv_topi (fun y ey => ?_)
  obtain rfl : y = 1 := ey.trans (by decide)
  refine va_sld hx hb hX hbl hbA hS (by unfold vp_in; decide) dL_law_2795 ?_
  refine lv_topi (fun y ey => ?_)
  obtain rfl : y = xs 1 := ey.trans (congrArg xs (by decide))
  refine lv_i2c (v := c16 (xs 1)) hx hb dL_law_2796 rfl ?_
  refine lv_topi (fun y ey => ?_)
  obtain rfl : y = 104 := ey.trans e1
  refine lv_aload_n hx hb dL_law_2797 rfl (lv_at hl 2 rfl) ?_
  refine mw_callS (wr := WM cy am eda 0) (wc := OCL cy oa :: w) (As := [.ref (ad 0), .int 104, .ref oa]) (rest := []) ⟨hx, hb, hml, hown, hts⟩ (w_packets_0h l D cy F oa (fun _ => 0) _ ) (vx_cwSW 3 hts (goodLW gL_law_L_packets) rfl rfl rfl (by decide +kernel) ⟨by decide, by decide⟩) hK hN hT (fun q hq => hS.2.1 q hq (Nat.not_le.mpr hq)) hP hD hS hA rfl hl.1 rfl (Nat.le_of_ble_eq_true rfl) dL_law_2798 ⟨Nat.le_of_ble_eq_true rfl, Nat.le_of_ble_eq_true rfl⟩ (fun H locs hB hJ hS => ?_)
  obtain ⟨hP, hD⟩ := hJ [(oa, .inl (cy 2, 1, .inr (.inl (vp_updL (fun _ => 0) 0 (0)))))] hB (my_d1 (my_in1 (ko := 0) rfl))
  have hP := hP.sub (ws' := [(oa, .inl (cy 2, 1, .inr (.inl (vp_updL (fun _ => 0) 0 (0)))))] ++ WM cy am eda 0) [14, 0, 1, 2, 3, 4, 5, 6, 7, 8, 9, 10, 11, 12, 13] rfl
  have hD := hD.sub (ws' := [(oa, .inl (cy 2, 1, .inr (.inl (vp_updL (fun _ => 0) 0 (0)))))] ++ WM cy am eda 0) [14, 0, 1, 2, 3, 4, 5, 6, 7, 8, 9, 10, 11, 12, 13] (by decide) rfl
  refine lv_istore (lv' := [(6, .int 0), (5, .int 0), (4, .ref od), (3, .ref oa), (2, .ref (am 0)), (1, .ref (ad 0)), (0, .ref b)]) hx hb dL_law_2801 hl (by decide) rfl (fun ls hl => ?_)
  refine lv_aload_n hx hb dL_law_2803 rfl (lv_at hl 4 rfl) ?_
  refine lv_aload_n hx hb dL_law_2804 rfl (lv_at hl 6 rfl) ?_
  refine lv_iload hx hb dL_law_2805 (lv_at hl 1 rfl) ?_
  refine lv_iconst (v := 1) hx hb dL_law_2807 (by decide) ?_
  refine lv_iadd hx hb dL_law_2808 ?_
  refine lv_topi (fun y ey => ?_)
  obtain rfl : y = 1 := ey.trans (by decide)
  refine va_sld hx hb hX hbl hbA hS (by unfold vp_in; decide) dL_law_2809 ?_
  refine lv_topi (fun y ey => ?_)
  obtain rfl : y = xs 1 := ey.trans (congrArg xs (by decide))
  refine lv_i2c (v := c16 (xs 1)) hx hb dL_law_2810 rfl ?_
  refine lv_topi (fun y ey => ?_)
  obtain rfl : y = 104 := ey.trans e1
  refine mj_callV (wr := [(oa, .inl (cy 2, 1, .inr (.inl (vp_updL (fun _ => 0) 0 (0)))))]) (wc := WM cy am eda 0) (As := [.int 104]) (rest := []) ⟨hx, hb, hml, hown, hts⟩ (a_packets_h l D cy _ ) (cwV 1 hts (goodL gL_law_X14_packets) rfl rfl rfl (by decide +kernel) ⟨by decide, by decide⟩) hK hN hP hD hS hA hJS (ci := 19) (q0 := 0) rfl rfl rfl rfl hl.1 rfl (Nat.le_of_ble_eq_true rfl) dL_law_2811 ⟨Nat.le_of_ble_eq_true rfl, Nat.le_of_ble_eq_true rfl⟩ (fun H locs hB hJ hS => ?_)
  obtain ⟨hP1, hD1⟩ := hB
  obtain ⟨hP, hD⟩ := hJ _ hP1 hD1
  have hP : va_P D vwCl [(oa, .inl (cy 2, 1, .inr (.inl (vp_updL (fun _ => 0) 0 (0))))), (am 0, .inr (19, [.int 0, .ref (am 1), .ref (am 4), .ref (am 5), .ref (am 6), .ref (am 7), .ref (am 8), .int 0, .ref (am 9), .int 0, .int (-1), .int 100, .ref (am 10), .long 0, .int 0, .int 0, .int 0, .int 0, .long 0]))] H := hP
  have hD : va_D (fun q => s.heap.size ≤ q) [(oa, .inl (cy 2, 1, .inr (.inl (vp_updL (fun _ => 0) 0 (0))))), (am 0, .inr (19, [.int 0, .ref (am 1), .ref (am 4), .ref (am 5), .ref (am 6), .ref (am 7), .ref (am 8), .int 0, .ref (am 9), .int 0, .int (-1), .int 100, .ref (am 10), .long 0, .int 0, .int 0, .int 0, .int 0, .long 0]))] := hD
  refine lv_istore (lv' := [(7, .int 0), (6, .int 0), (5, .int 0), (4, .ref od), (3, .ref oa), (2, .ref (am 0)), (1, .ref (ad 0)), (0, .ref b)]) hx hb dL_law_2814 hl (by decide) rfl (fun ls hl => ?_)
  refine lv_aload_n hx hb dL_law_2816 rfl (lv_at hl 5 rfl) ?_
  refine ro_callV (As := []) (rest := []) ⟨hx, hb, hml, hown, hts⟩ (c_thrown l D cy _ 1 (am 0) 0 [.ref (am 1), .ref (am 4), .ref (am 5), .ref (am 6), .ref (am 7), .ref (am 8), .int 0, .ref (am 9), .int 0, .int (-1), .int 100, .ref (am 10), .long 0, .int 0, .int 0, .int 0, .int 0, .long 0] rfl) (cwV 0 hts (goodL gL_law_X14_thrown) rfl rfl rfl (by decide +kernel) ⟨by decide, by decide⟩) hK hN hP hS (ci := 19) (q0 := 1) rfl rfl rfl rfl hl.1 rfl (Nat.le_of_ble_eq_true rfl) dL_law_2817 ⟨Nat.le_of_ble_eq_true rfl, Nat.le_of_ble_eq_true rfl⟩ (fun H locs hP hS => ?_)
  refine lv_iload hx hb dL_law_2820 (lv_at hl 1 rfl) ?_
  refine lv_icmp_eq (tgt := 2827) hx hb dL_law_2822 (by decide) (fun _ => ?_) (fun c => absurd (by decide) c)
  refine lv_iload hx hb dL_law_2827 (lv_at hl 1 rfl) ?_
  refine lv_if_ne (tgt := 2844) hx hb dL_law_2829 (by decide) (fun c => absurd (by decide) c) (fun _ => ?_)
  refine lv_aload_n hx hb dL_law_2832 rfl (lv_at hl 4 rfl) ?_
  refine lv_iconst (v := 0) hx hb dL_law_2833 (by decide) ?_
  refine va_lald hx hb hK hP 0 2 rfl rfl (by unfold vp_in; decide) dL_law_2834 ?_
  refine lv_topl (fun y ey => ?_)
  obtain rfl : y = 0 := ey.trans (my_rd0 _ _)
  refine lv_iload hx hb dL_law_2835 (lv_at hl 0 rfl) ?_
  refine lv_i2l (v := 0) hx hb dL_law_2837 (by decide) ?_
  refine W.lcmp hx hb dL_law_2838 ?_
  refine lv_topi (fun y ey => ?_)
  obtain rfl : y = 0 := ey.trans (my_cmp _)
  refine lv_if_eq (tgt := 2844) hx hb dL_law_2839 (by decide) (fun _ => ?_) (fun c => absurd (by decide) c)
  refine lv_goto (tgt := 3117) hx hb dL_law_2844 (by decide) ?_
  refine W.widen (k := 1000) (n := 10000) (Nat.le_of_ble_eq_true rfl) (Nat.le_of_ble_eq_true rfl) ?_
  exact hE _ _ _ hS (lv_sub hl [2, 3, 4, 5, 6, 7] rfl)

set_option maxRecDepth 100000 in
set_option maxHeartbeats 4000000 in
theorem law_packets_1 {p : Program} {e : Env} {s : State} {m : MethodId} {below : List Frame} {meth : Method} {c : Code} {l : Launch} (hfl : l.stackTraces = false) {b : Nat} {xs : Nat → Int32} {D : va_G} {cy : Nat → ClassId} {eda ca : Nat} {ia : Nat → Nat} (C0 : LawAt p s m meth c b xs D cy eda ca ia) {am : Nat → Nat} {ad : Nat → Nat} {rw_ : Nat → Nat → Option Nat} {w : va_W} (F : FrC cy ad rw_ w) {oa od : Nat} (hE : LawEnd p l e s m below meth c b (ad 0) (am 0) oa od) (h1 : ¬ c16 (xs 1) = 116) (h2 : ¬ c16 (xs 1) = 100) (h3 : ¬ c16 (xs 1) = 104) : LGoal p l e s m below meth c b D cy am eda w (ad 0) oa od 2789 := by
  obtain ⟨hx, hb, hml, hown, hts, hX, hbl, hK, hN, hT, hJS⟩ := id C0
  have hA : ∀ q : Nat, s.heap.size ≤ q → (fun q => s.heap.size ≤ q) q := fun _ h => h
  have hbA : ¬ (fun q => s.heap.size ≤ q) b := Nat.not_le.mpr hbl
  intro H locs ls hP hD hS hl
  refine lv_aload_n hx hb dL_law_2789 rfl (lv_at hl 4 rfl) ?_
  refine lv_aload_n hx hb dL_law_2790 rfl (lv_at hl 5 rfl) ?_
  refine lv_iload hx hb dL_law_2791 (lv_at hl 0 rfl) ?_
  refine lv_iconst (v := 1) hx hb dL_law_2793 (by decide) ?_
  refine lv_iadd hx hb dL_law_2794 ?_
  refine lv_topi (fun y ey => ?_)
  obtain rfl : y = 1 := ey.trans (by decide)
  refine va_sld hx hb hX hbl hbA hS (by unfold vp_in; decide) dL_law_2795 ?_
  refine lv_topi (fun y ey => ?_)
  obtain rfl : y = xs 1 := ey.trans (congrArg xs (by decide))
  refine lv_i2c (v := c16 (xs 1)) hx hb dL_law_2796 rfl ?_
  refine lv_aload_n hx hb dL_law_2797 rfl (lv_at hl 2 rfl) ?_
  refine mw_callS (wr := WM cy am eda 0) (wc := OCL cy oa :: w) (As := [.ref (ad 0), .int (c16 (xs 1)), .ref oa]) (rest := []) ⟨hx, hb, hml, hown, hts⟩ (w_packets_1 l D cy F hfl oa (fun _ => 0) _ (c16 (xs 1)) h1 h2 h3) (vx_cwSW 3 hts (goodLW gL_law_L_packets) rfl rfl rfl (by decide +kernel) ⟨by decide, by decide⟩) hK hN hT (fun q hq => hS.2.1 q hq (Nat.not_le.mpr hq)) hP hD hS hA rfl hl.1 rfl (Nat.le_of_ble_eq_true rfl) dL_law_2798 ⟨Nat.le_of_ble_eq_true rfl, Nat.le_of_ble_eq_true rfl⟩ (fun H locs hB hJ hS => ?_)
  obtain ⟨hP, hD⟩ := hJ [] (fun k q h => by simp at h) ⟨fun i j p q h => by simp at h, fun k q h => by simp at h⟩
  have hP : va_P D vwCl (WM cy am eda 0) H := hP
  have hD : va_D (fun q => s.heap.size ≤ q) (WM cy am eda 0) := hD
  refine lv_istore (lv' := [(6, .int 1), (5, .int 0), (4, .ref od), (3, .ref oa), (2, .ref (am 0)), (1, .ref (ad 0)), (0, .ref b)]) hx hb dL_law_2801 hl (by decide) rfl (fun ls hl => ?_)
  refine lv_aload_n hx hb dL_law_2803 rfl (lv_at hl 4 rfl) ?_
  refine lv_aload_n hx hb dL_law_2804 rfl (lv_at hl 6 rfl) ?_
  refine lv_iload hx hb dL_law_2805 (lv_at hl 1 rfl) ?_
  refine lv_iconst (v := 1) hx hb dL_law_2807 (by decide) ?_
  refine lv_iadd hx hb dL_law_2808 ?_
  refine lv_topi (fun y ey => ?_)
  obtain rfl : y = 1 := ey.trans (by decide)
  refine va_sld hx hb hX hbl hbA hS (by unfold vp_in; decide) dL_law_2809 ?_
  refine lv_topi (fun y ey => ?_)
  obtain rfl : y = xs 1 := ey.trans (congrArg xs (by decide))
  refine lv_i2c (v := c16 (xs 1)) hx hb dL_law_2810 rfl ?_
  refine mj_callV (wr := []) (wc := WM cy am eda 0) (As := [.int (c16 (xs 1))]) (rest := []) ⟨hx, hb, hml, hown, hts⟩ (a_packets_1 l D cy _ (c16 (xs 1)) h1 h2 h3) (cwV 1 hts (goodL gL_law_X14_packets) rfl rfl rfl (by decide +kernel) ⟨by decide, by decide⟩) hK hN hP hD hS hA hJS (ci := 19) (q0 := 0) rfl rfl rfl rfl hl.1 rfl (Nat.le_of_ble_eq_true rfl) dL_law_2811 ⟨Nat.le_of_ble_eq_true rfl, Nat.le_of_ble_eq_true rfl⟩ (fun H locs hB hJ hS => ?_)
  obtain ⟨hP1, hD1⟩ := hB
  obtain ⟨hP, hD⟩ := hJ _ hP1 hD1
  have hP : va_P D vwCl [(am 0, .inr (19, [.int 1, .ref (am 1), .ref (am 4), .ref (am 5), .ref (am 6), .ref (am 7), .ref (am 8), .int 0, .ref (am 9), .int 0, .int (-1), .int 100, .ref (am 10), .long 0, .int 0, .int 0, .int 0, .int 0, .long 0]))] H := hP
  have hD : va_D (fun q => s.heap.size ≤ q) [(am 0, .inr (19, [.int 1, .ref (am 1), .ref (am 4), .ref (am 5), .ref (am 6), .ref (am 7), .ref (am 8), .int 0, .ref (am 9), .int 0, .int (-1), .int 100, .ref (am 10), .long 0, .int 0, .int 0, .int 0, .int 0, .long 0]))] := hD
  refine lv_istore (lv' := [(7, .int 0), (6, .int 1), (5, .int 0), (4, .ref od), (3, .ref oa), (2, .ref (am 0)), (1, .ref (ad 0)), (0, .ref b)]) hx hb dL_law_2814 hl (by decide) rfl (fun ls hl => ?_)
  refine lv_aload_n hx hb dL_law_2816 rfl (lv_at hl 5 rfl) ?_
  refine ro_callV (As := []) (rest := []) ⟨hx, hb, hml, hown, hts⟩ (c_thrown l D cy _ 0 (am 0) 1 [.ref (am 1), .ref (am 4), .ref (am 5), .ref (am 6), .ref (am 7), .ref (am 8), .int 0, .ref (am 9), .int 0, .int (-1), .int 100, .ref (am 10), .long 0, .int 0, .int 0, .int 0, .int 0, .long 0] rfl) (cwV 0 hts (goodL gL_law_X14_thrown) rfl rfl rfl (by decide +kernel) ⟨by decide, by decide⟩) hK hN hP hS (ci := 19) (q0 := 0) rfl rfl rfl rfl hl.1 rfl (Nat.le_of_ble_eq_true rfl) dL_law_2817 ⟨Nat.le_of_ble_eq_true rfl, Nat.le_of_ble_eq_true rfl⟩ (fun H locs hP hS => ?_)
  refine lv_iload hx hb dL_law_2820 (lv_at hl 1 rfl) ?_
  refine lv_icmp_eq (tgt := 2827) hx hb dL_law_2822 (by decide) (fun _ => ?_) (fun c => absurd (by decide) c)
  refine lv_iload hx hb dL_law_2827 (lv_at hl 1 rfl) ?_
  refine lv_if_ne (tgt := 2844) hx hb dL_law_2829 (by decide) (fun _ => ?_) (fun c => absurd c (by decide))
  refine lv_goto (tgt := 3117) hx hb dL_law_2844 (by decide) ?_
  refine W.widen (k := 1000) (n := 10000) (Nat.le_of_ble_eq_true rfl) (Nat.le_of_ble_eq_true rfl) ?_
  exact hE _ _ _ hS (lv_sub hl [2, 3, 4, 5, 6, 7] rfl)

set_option maxRecDepth 100000 in
set_option maxHeartbeats 4000000 in
theorem law_busyShare_1 {p : Program} {e : Env} {s : State} {m : MethodId} {below : List Frame} {meth : Method} {c : Code} {l : Launch} (hfl : l.stackTraces = false) {b : Nat} {xs : Nat → Int32} {D : va_G} {cy : Nat → ClassId} {eda ca : Nat} {ia : Nat → Nat} (C0 : LawAt p s m meth c b xs D cy eda ca ia) {am : Nat → Nat} {ad : Nat → Nat} {rw_ : Nat → Nat → Option Nat} {w : va_W} (F : FrC cy ad rw_ w) {oa od : Nat} (hE : LawEnd p l e s m below meth c b (ad 0) (am 0) oa od) : LGoal p l e s m below meth c b D cy am eda w (ad 0) oa od 2959 := by
  obtain ⟨hx, hb, hml, hown, hts, hX, hbl, hK, hN, hT, hJS⟩ := id C0
  have hA : ∀ q : Nat, s.heap.size ≤ q → (fun q => s.heap.size ≤ q) q := fun _ h => h
  have hbA : ¬ (fun q => s.heap.size ≤ q) b := Nat.not_le.mpr hbl
  intro H locs ls hP hD hS hl
  refine lv_aload_n hx hb dL_law_2959 rfl (lv_at hl 4 rfl) ?_
  refine lv_aload hx hb dL_law_2960 (lv_at hl 1 rfl) ?_
  refine mw_callS (wr := WM cy am eda 0) (wc := OCL cy oa :: w) (As := [.ref (ad 0), .ref od]) (rest := []) ⟨hx, hb, hml, hown, hts⟩ (w_busyShare_1 l D cy F hfl oa (fun _ => 0) _ od) (vx_cwSW 2 hts (goodLW gL_law_L_busyShare) rfl rfl rfl (by decide +kernel) ⟨by decide, by decide⟩) hK hN hT (fun q hq => hS.2.1 q hq (Nat.not_le.mpr hq)) hP hD hS hA rfl hl.1 rfl (Nat.le_of_ble_eq_true rfl) dL_law_2962 ⟨Nat.le_of_ble_eq_true rfl, Nat.le_of_ble_eq_true rfl⟩ (fun H locs hB hJ hS => ?_)
  obtain ⟨hP, hD⟩ := hJ [] (fun k q h => by simp at h) ⟨fun i j p q h => by simp at h, fun k q h => by simp at h⟩
  have hP : va_P D vwCl (WM cy am eda 0) H := hP
  have hD : va_D (fun q => s.heap.size ≤ q) (WM cy am eda 0) := hD
  refine lv_istore (lv' := [(6, .int 1), (5, .int 0), (4, .ref od), (3, .ref oa), (2, .ref (am 0)), (1, .ref (ad 0)), (0, .ref b)]) hx hb dL_law_2965 hl (by decide) rfl (fun ls hl => ?_)
  refine lv_aload_n hx hb dL_law_2967 rfl (lv_at hl 4 rfl) ?_
  refine mj_callV (wr := []) (wc := WM cy am eda 0) (As := []) (rest := []) ⟨hx, hb, hml, hown, hts⟩ (a_busyShare_1 l D cy _ ) (cwV 0 hts (goodL gL_law_X14_busyShare) rfl rfl rfl (by decide +kernel) ⟨by decide, by decide⟩) hK hN hP hD hS hA hJS (ci := 19) (q0 := 0) rfl rfl rfl rfl hl.1 rfl (Nat.le_of_ble_eq_true rfl) dL_law_2968 ⟨Nat.le_of_ble_eq_true rfl, Nat.le_of_ble_eq_true rfl⟩ (fun H locs hB hJ hS => ?_)
  obtain ⟨hP1, hD1⟩ := hB
  obtain ⟨hP, hD⟩ := hJ _ hP1 hD1
  have hP : va_P D vwCl [(am 0, .inr (19, [.int 1, .ref (am 1), .ref (am 4), .ref (am 5), .ref (am 6), .ref (am 7), .ref (am 8), .int 0, .ref (am 9), .int 0, .int (-1), .int 100, .ref (am 10), .long 0, .int 0, .int 0, .int 0, .int 0, .long 0]))] H := hP
  have hD : va_D (fun q => s.heap.size ≤ q) [(am 0, .inr (19, [.int 1, .ref (am 1), .ref (am 4), .ref (am 5), .ref (am 6), .ref (am 7), .ref (am 8), .int 0, .ref (am 9), .int 0, .int (-1), .int 100, .ref (am 10), .long 0, .int 0, .int 0, .int 0, .int 0, .long 0]))] := hD
  refine lv_fstore (lv' := [(7, .float FP.fconst0), (6, .int 1), (5, .int 0), (4, .ref od), (3, .ref oa), (2, .ref (am 0)), (1, .ref (ad 0)), (0, .ref b)]) hx hb dL_law_2971 hl (by decide) rfl (fun ls hl => ?_)
  refine lv_aload_n hx hb dL_law_2973 rfl (lv_at hl 5 rfl) ?_
  refine ro_callV (As := []) (rest := []) ⟨hx, hb, hml, hown, hts⟩ (c_thrown l D cy _ 0 (am 0) 1 [.ref (am 1), .ref (am 4), .ref (am 5), .ref (am 6), .ref (am 7), .ref (am 8), .int 0, .ref (am 9), .int 0, .int (-1), .int 100, .ref (am 10), .long 0, .int 0, .int 0, .int 0, .int 0, .long 0] rfl) (cwV 0 hts (goodL gL_law_X14_thrown) rfl rfl rfl (by decide +kernel) ⟨by decide, by decide⟩) hK hN hP hS (ci := 19) (q0 := 0) rfl rfl rfl rfl hl.1 rfl (Nat.le_of_ble_eq_true rfl) dL_law_2974 ⟨Nat.le_of_ble_eq_true rfl, Nat.le_of_ble_eq_true rfl⟩ (fun H locs hP hS => ?_)
  refine lv_iload hx hb dL_law_2977 (lv_at hl 1 rfl) ?_
  refine lv_icmp_eq (tgt := 2984) hx hb dL_law_2979 (by decide) (fun _ => ?_) (fun c => absurd (by decide) c)
  refine lv_iload hx hb dL_law_2984 (lv_at hl 1 rfl) ?_
  refine lv_if_ne (tgt := 3022) hx hb dL_law_2986 (by decide) (fun _ => ?_) (fun c => absurd c (by decide))
  refine lv_goto (tgt := 3117) hx hb dL_law_3022 (by decide) ?_
  refine W.widen (k := 1000) (n := 10000) (Nat.le_of_ble_eq_true rfl) (Nat.le_of_ble_eq_true rfl) ?_
  exact hE _ _ _ hS (lv_sub hl [2, 3, 4, 5, 6, 7] rfl)

set_option maxRecDepth 100000 in
set_option maxHeartbeats 4000000 in
theorem law_meanBytes_1 {p : Program} {e : Env} {s : State} {m : MethodId} {below : List Frame} {meth : Method} {c : Code} {l : Launch} (hfl : l.stackTraces = false) {b : Nat} {xs : Nat → Int32} {D : va_G} {cy : Nat → ClassId} {eda ca : Nat} {ia : Nat → Nat} (C0 : LawAt p s m meth c b xs D cy eda ca ia) {am : Nat → Nat} {ad : Nat → Nat} {rw_ : Nat → Nat → Option Nat} {w : va_W} (F : FrC cy ad rw_ w) {oa od : Nat} (hE : LawEnd p l e s m below meth c b (ad 0) (am 0) oa od) : LGoal p l e s m below meth c b D cy am eda w (ad 0) oa od 3025 := by
  obtain ⟨hx, hb, hml, hown, hts, hX, hbl, hK, hN, hT, hJS⟩ := id C0
  have hA : ∀ q : Nat, s.heap.size ≤ q → (fun q => s.heap.size ≤ q) q := fun _ h => h
  have hbA : ¬ (fun q => s.heap.size ≤ q) b := Nat.not_le.mpr hbl
  intro H locs ls hP hD hS hl
  refine lv_aload_n hx hb dL_law_3025 rfl (lv_at hl 4 rfl) ?_
  refine lv_aload hx hb dL_law_3026 (lv_at hl 1 rfl) ?_
  refine mw_callS (wr := WM cy am eda 0) (wc := OCL cy oa :: w) (As := [.ref (ad 0), .ref od]) (rest := []) ⟨hx, hb, hml, hown, hts⟩ (w_meanBytes_1 l D cy F hfl oa (fun _ => 0) _ od) (vx_cwSW 2 hts (goodLW gL_law_L_meanBytes) rfl rfl rfl (by decide +kernel) ⟨by decide, by decide⟩) hK hN hT (fun q hq => hS.2.1 q hq (Nat.not_le.mpr hq)) hP hD hS hA rfl hl.1 rfl (Nat.le_of_ble_eq_true rfl) dL_law_3028 ⟨Nat.le_of_ble_eq_true rfl, Nat.le_of_ble_eq_true rfl⟩ (fun H locs hB hJ hS => ?_)
  obtain ⟨hP, hD⟩ := hJ [] (fun k q h => by simp at h) ⟨fun i j p q h => by simp at h, fun k q h => by simp at h⟩
  have hP : va_P D vwCl (WM cy am eda 0) H := hP
  have hD : va_D (fun q => s.heap.size ≤ q) (WM cy am eda 0) := hD
  refine lv_istore (lv' := [(6, .int 1), (5, .int 0), (4, .ref od), (3, .ref oa), (2, .ref (am 0)), (1, .ref (ad 0)), (0, .ref b)]) hx hb dL_law_3031 hl (by decide) rfl (fun ls hl => ?_)
  refine lv_aload_n hx hb dL_law_3033 rfl (lv_at hl 4 rfl) ?_
  refine mj_callV (wr := []) (wc := WM cy am eda 0) (As := []) (rest := []) ⟨hx, hb, hml, hown, hts⟩ (a_meanBytes_1 l D cy _ ) (cwV 0 hts (goodL gL_law_X14_meanBytes) rfl rfl rfl (by decide +kernel) ⟨by decide, by decide⟩) hK hN hP hD hS hA hJS (ci := 19) (q0 := 0) rfl rfl rfl rfl hl.1 rfl (Nat.le_of_ble_eq_true rfl) dL_law_3034 ⟨Nat.le_of_ble_eq_true rfl, Nat.le_of_ble_eq_true rfl⟩ (fun H locs hB hJ hS => ?_)
  obtain ⟨hP1, hD1⟩ := hB
  obtain ⟨hP, hD⟩ := hJ _ hP1 hD1
  have hP : va_P D vwCl [(am 0, .inr (19, [.int 1, .ref (am 1), .ref (am 4), .ref (am 5), .ref (am 6), .ref (am 7), .ref (am 8), .int 0, .ref (am 9), .int 0, .int (-1), .int 100, .ref (am 10), .long 0, .int 0, .int 0, .int 0, .int 0, .long 0]))] H := hP
  have hD : va_D (fun q => s.heap.size ≤ q) [(am 0, .inr (19, [.int 1, .ref (am 1), .ref (am 4), .ref (am 5), .ref (am 6), .ref (am 7), .ref (am 8), .int 0, .ref (am 9), .int 0, .int (-1), .int 100, .ref (am 10), .long 0, .int 0, .int 0, .int 0, .int 0, .long 0]))] := hD
  refine lv_dstore (lv' := [(7, .double FP.dconst0), (6, .int 1), (5, .int 0), (4, .ref od), (3, .ref oa), (2, .ref (am 0)), (1, .ref (ad 0)), (0, .ref b)]) hx hb dL_law_3037 hl (by decide) rfl (fun ls hl => ?_)
  refine lv_aload_n hx hb dL_law_3039 rfl (lv_at hl 5 rfl) ?_
  refine ro_callV (As := []) (rest := []) ⟨hx, hb, hml, hown, hts⟩ (c_thrown l D cy _ 0 (am 0) 1 [.ref (am 1), .ref (am 4), .ref (am 5), .ref (am 6), .ref (am 7), .ref (am 8), .int 0, .ref (am 9), .int 0, .int (-1), .int 100, .ref (am 10), .long 0, .int 0, .int 0, .int 0, .int 0, .long 0] rfl) (cwV 0 hts (goodL gL_law_X14_thrown) rfl rfl rfl (by decide +kernel) ⟨by decide, by decide⟩) hK hN hP hS (ci := 19) (q0 := 0) rfl rfl rfl rfl hl.1 rfl (Nat.le_of_ble_eq_true rfl) dL_law_3040 ⟨Nat.le_of_ble_eq_true rfl, Nat.le_of_ble_eq_true rfl⟩ (fun H locs hP hS => ?_)
  refine lv_iload hx hb dL_law_3043 (lv_at hl 1 rfl) ?_
  refine lv_icmp_eq (tgt := 3050) hx hb dL_law_3045 (by decide) (fun _ => ?_) (fun c => absurd (by decide) c)
  refine lv_iload hx hb dL_law_3050 (lv_at hl 1 rfl) ?_
  refine lv_if_ne (tgt := 3087) hx hb dL_law_3052 (by decide) (fun _ => ?_) (fun c => absurd c (by decide))
  refine lv_goto (tgt := 3117) hx hb dL_law_3087 (by decide) ?_
  refine W.widen (k := 1000) (n := 10000) (Nat.le_of_ble_eq_true rfl) (Nat.le_of_ble_eq_true rfl) ?_
  exact hE _ _ _ hS (lv_sub hl [2, 3, 4, 5, 6, 7] rfl)
