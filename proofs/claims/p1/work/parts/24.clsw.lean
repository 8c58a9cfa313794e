theorem iw_X0_add_RX0 : ∀ w ∈ u_ws RX0 TX0 4, w ∈ wsX0_add := by decide +kernel
set_option maxRecDepth 100000 in
set_option maxHeartbeats 4000000 in
theorem m_add0 (l : Launch) (D : va_G) (cy : Nat → ClassId) (r c1 : Nat) (sz : Nat) (v : Int32) : ME l D cy ([(r, .inr (5, [.ref c1, .int 0, .int 0, .int 0])), (c1, .inl (cy 0, 32, .inl (fun _ => 0)))]) sz yX0_add wsX0_add 0 0 0 0 [.ref r, .int v] none (fun H => ∃ (f_1 : Nat → Int32), va_P D vwCl ([(r, .inr (5, [.ref c1, .int 0, .int 1, .int 1])), (c1, .inl (cy 0, 32, .inl (f_1)))]) H ∧ va_D (va_A ([(r, .inr (5, [.ref c1, .int 0, .int 0, .int 0])), (c1, .inl (cy 0, 32, .inl (fun _ => 0)))]) sz) ([(r, .inr (5, [.ref c1, .int 0, .int 1, .int 1])), (c1, .inl (cy 0, 32, .inl (f_1)))])) := by
  refine ro_ofW (cc := cX0_add) (maxL := 2) (ret := none) (lv := [(0, .ref r), (1, .int v)]) (by decide) rfl (Nat.le_of_ble_eq_true rfl) rfl ?_
  intro p e s m below meth c ls hx hb hr hml hown hlocks hname hts hv hl
  have hown : s.vm.findClass RX0 = some m.cls := hown
  obtain ⟨⟨hsz, hP, hD0⟩, hK, hN⟩ := hv
  subst hsz
  have hD := hD0.self (sz := s.heap.size)
  generalize hAe : va_A ([(r, .inr (5, [.ref c1, .int 0, .int 0, .int 0])), (c1, .inl (cy 0, 32, .inl (fun _ => 0)))]) s.heap.size = A at hD ⊢
  have hA : ∀ q : Nat, s.heap.size ≤ q → A q := fun q h => by rw [← hAe]; exact Or.inr h
  have hS : va_S A s.heap s.heap [] := va_S.rf
  refine lv_aload_n hx hb dX0_add_0 rfl (lv_at hl 0 rfl) ?_
  refine va_get (D := D) (ci := 5) (v := .ref c1) (C := RX0) (T := TX0) (N := 4) hx hb hts iw_X0_add_RX0 hown hK hP 0 rfl rfl 0 (by decide) (hts (.fieldLink RX0 9 "Hubcascade$ByteRow" "cells" "[I") (by decide +kernel)) (fun _ h9 => h9) rfl dX0_add_1 ?_
  refine lv_aload_n hx hb dX0_add_4 rfl (lv_at hl 0 rfl) ?_
  refine va_get (D := D) (ci := 5) (v := .int 0) (C := RX0) (T := TX0) (N := 4) hx hb hts iw_X0_add_RX0 hown hK hP 0 rfl rfl 1 (by decide) (hts (.fieldLink RX0 15 "Hubcascade$ByteRow" "oldest" "I") (by decide +kernel)) (fun _ h9 => h9) rfl dX0_add_5 ?_
  refine lv_aload_n hx hb dX0_add_8 rfl (lv_at hl 0 rfl) ?_
  refine va_get (D := D) (ci := 5) (v := .int 0) (C := RX0) (T := TX0) (N := 4) hx hb hts iw_X0_add_RX0 hown hK hP 0 rfl rfl 2 (by decide) (hts (.fieldLink RX0 19 "Hubcascade$ByteRow" "size" "I") (by decide +kernel)) (fun _ h9 => h9) rfl dX0_add_9 ?_
  refine lv_iadd hx hb dX0_add_12 ?_
  refine lv_topi (fun y ey => ?_)
  obtain rfl : y = 0 := ey.trans (by decide)
  refine lv_bipush (v := 31) hx hb dX0_add_13 (by decide) ?_
  refine lv_iand hx hb dX0_add_15 ?_
  refine lv_topi (fun y ey => ?_)
  obtain rfl : y = 0 := ey.trans (by decide)
  refine lv_iload_n hx hb dX0_add_16 rfl (lv_at hl 1 rfl) ?_
  refine va_iast hx hb hK hP hD hS 1 0 rfl rfl (by unfold vp_in; decide) dX0_add_17 (fun H locs hP hD hS => ?_)
  obtain ⟨f_1, ef_1⟩ : ∃ z, z = upd (fun _ => 0) (Int32.toNatClampNeg 0) v := ⟨_, rfl⟩
  rw [← ef_1] at hP hD
  have hP : va_P D vwCl ([(r, .inr (5, [.ref c1, .int 0, .int 0, .int 0])), (c1, .inl (cy 0, 32, .inl (f_1)))]) H := hP
  have hD : va_D A ([(r, .inr (5, [.ref c1, .int 0, .int 0, .int 0])), (c1, .inl (cy 0, 32, .inl (f_1)))]) := hD
  refine lv_aload_n hx hb dX0_add_18 rfl (lv_at hl 0 rfl) ?_
  refine lv_dup hx hb dX0_add_19 rfl ?_
  refine va_get (D := D) (ci := 5) (v := .int 0) (C := RX0) (T := TX0) (N := 4) hx hb hts iw_X0_add_RX0 hown hK hP 0 rfl rfl 3 (by decide) (hts (.fieldLink RX0 22 "Hubcascade$ByteRow" "total" "I") (by decide +kernel)) (fun _ h9 => h9) rfl dX0_add_20 ?_
  refine lv_iconst (v := 1) hx hb dX0_add_23 (by decide) ?_
  refine lv_iadd hx hb dX0_add_24 ?_
  refine lv_topi (fun y ey => ?_)
  obtain rfl : y = 1 := ey.trans (by decide)
  refine va_put (D := D) (ci := 5) (v := .int 1) (ty := .int) (C := RX0) (T := TX0) (N := 4) hx hb hts iw_X0_add_RX0 tyX0 tyX0_ok nmX0 hown hK hP hD hS 0 rfl rfl 3 (by decide) (hts (.fieldLink RX0 22 "Hubcascade$ByteRow" "total" "I") (by decide +kernel)) (fun _ h9 => h9) rfl (by decide +kernel) rfl rfl (Nat.le_of_ble_eq_true rfl) dX0_add_25 (fun H locs hP hD hS => ?_)
  have hP : va_P D vwCl ([(r, .inr (5, [.ref c1, .int 0, .int 0, .int 1])), (c1, .inl (cy 0, 32, .inl (f_1)))]) H := hP
  have hD : va_D A ([(r, .inr (5, [.ref c1, .int 0, .int 0, .int 1])), (c1, .inl (cy 0, 32, .inl (f_1)))]) := hD
  refine lv_aload_n hx hb dX0_add_28 rfl (lv_at hl 0 rfl) ?_
  refine va_get (D := D) (ci := 5) (v := .int 0) (C := RX0) (T := TX0) (N := 4) hx hb hts iw_X0_add_RX0 hown hK hP 0 rfl rfl 2 (by decide) (hts (.fieldLink RX0 19 "Hubcascade$ByteRow" "size" "I") (by decide +kernel)) (fun _ h9 => h9) rfl dX0_add_29 ?_
  refine lv_bipush (v := 32) hx hb dX0_add_32 (by decide) ?_
  refine lv_icmp_ge (tgt := 50) hx hb dX0_add_34 (by decide) (fun c => absurd c (by decide)) (fun _ => ?_)
  refine lv_aload_n hx hb dX0_add_37 rfl (lv_at hl 0 rfl) ?_
  refine lv_dup hx hb dX0_add_38 rfl ?_
  refine va_get (D := D) (ci := 5) (v := .int 0) (C := RX0) (T := TX0) (N := 4) hx hb hts iw_X0_add_RX0 hown hK hP 0 rfl rfl 2 (by decide) (hts (.fieldLink RX0 19 "Hubcascade$ByteRow" "size" "I") (by decide +kernel)) (fun _ h9 => h9) rfl dX0_add_39 ?_
  refine lv_iconst (v := 1) hx hb dX0_add_42 (by decide) ?_
  refine lv_iadd hx hb dX0_add_43 ?_
  refine lv_topi (fun y ey => ?_)
  obtain rfl : y = 1 := ey.trans (by decide)
  refine va_put (D := D) (ci := 5) (v := .int 1) (ty := .int) (C := RX0) (T := TX0) (N := 4) hx hb hts iw_X0_add_RX0 tyX0 tyX0_ok nmX0 hown hK hP hD hS 0 rfl rfl 2 (by decide) (hts (.fieldLink RX0 19 "Hubcascade$ByteRow" "size" "I") (by decide +kernel)) (fun _ h9 => h9) rfl (by decide +kernel) rfl rfl (Nat.le_of_ble_eq_true rfl) dX0_add_44 (fun H locs hP hD hS => ?_)
  have hP : va_P D vwCl ([(r, .inr (5, [.ref c1, .int 0, .int 1, .int 1])), (c1, .inl (cy 0, 32, .inl (f_1)))]) H := hP
  have hD : va_D A ([(r, .inr (5, [.ref c1, .int 0, .int 1, .int 1])), (c1, .inl (cy 0, 32, .inl (f_1)))]) := hD
  refine lv_goto (tgt := 63) hx hb dX0_add_47 (by decide) ?_
  refine W.widen (k := 0) (n := 0) (Nat.le_of_ble_eq_true rfl) (Nat.le_of_ble_eq_true rfl) ?_
  have hP9 := hP.sub (ws' := [(r, .inr (5, [.ref c1, .int 0, .int 1, .int 1])), (c1, .inl (cy 0, 32, .inl (f_1)))]) [0, 1] rfl
  have hD9 := hD.sub (ws' := [(r, .inr (5, [.ref c1, .int 0, .int 1, .int 1])), (c1, .inl (cy 0, 32, .inl (f_1)))]) [0, 1] (by decide) rfl
  exact W.vret hx hb hr (fun t ht hW => ⟨rfl, ⟨f_1, by rw [ht]; exact hP9, hD9⟩, hS.F ht⟩) hS.2.2 dX0_add_63

theorem iw_X0_drop_RX0 : ∀ w ∈ u_ws RX0 TX0 4, w ∈ wsX0_drop := by decide +kernel
set_option maxRecDepth 100000 in
set_option maxHeartbeats 4000000 in
theorem m_drop0 (l : Launch) (D : va_G) (cy : Nat → ClassId) (r c1 : Nat) (sz : Nat) : ME l D cy ([(r, .inr (5, [.ref c1, .int 0, .int 0, .int 0]))]) sz yX0_drop wsX0_drop 1 0 0 13 [.ref r, .int 0] none (fun _ => True) := by
  refine ro_ofW (cc := cX0_drop) (maxL := 3) (ret := none) (lv := [(0, .ref r), (1, .int 0)]) (by decide) rfl (Nat.le_of_ble_eq_true rfl) rfl ?_
  intro p e s m below meth c ls hx hb hr hml hown hlocks hname hts hv hl
  have hown : s.vm.findClass RX0 = some m.cls := hown
  obtain ⟨⟨hsz, hP, hD0⟩, hK, hN⟩ := hv
  subst hsz
  have hD := hD0.self (sz := s.heap.size)
  generalize hAe : va_A ([(r, .inr (5, [.ref c1, .int 0, .int 0, .int 0]))]) s.heap.size = A at hD ⊢
  have hA : ∀ q : Nat, s.heap.size ≤ q → A q := fun q h => by rw [← hAe]; exact Or.inr h
  have hS : va_S A s.heap s.heap [] := va_S.rf
  refine lv_iload_n hx hb dX0_drop_0 rfl (lv_at hl 1 rfl) ?_
  refine lv_aload_n hx hb dX0_drop_1 rfl (lv_at hl 0 rfl) ?_
  refine va_get (D := D) (ci := 5) (v := .int 0) (C := RX0) (T := TX0) (N := 4) hx hb hts iw_X0_drop_RX0 hown hK hP 0 rfl rfl 2 (by decide) (hts (.fieldLink RX0 19 "Hubcascade$ByteRow" "size" "I") (by decide +kernel)) (fun _ h9 => h9) rfl dX0_drop_2 ?_
  refine va_mmin hx hb (hml.trans hl.1.symm) hown (hts (.methodLink RX0 25 Lib.Math.min.name) (by decide +kernel)) (hts (.static Lib.Math.min.name) (by decide +kernel)) (hts (.initialized "java/lang/Math") (by decide +kernel)) (hts (.code Lib.Math.min.name Lib.Math.min.code 2 (some .int)) (by decide +kernel)) (Nat.le_of_ble_eq_true rfl) (Nat.le_of_ble_eq_true rfl) (Nat.le_of_ble_eq_true rfl) (Nat.le_of_ble_eq_true rfl) dX0_drop_5 ?_
  refine lv_topi (fun y ey => ?_)
  obtain rfl : y = 0 := ey.trans (by decide)
  refine lv_istore_n (lv' := [(2, .int 0), (0, .ref r), (1, .int 0)]) hx hb dX0_drop_8 rfl hl (by decide) rfl (fun ls hl => ?_)
  refine lv_aload_n hx hb dX0_drop_9 rfl (lv_at hl 1 rfl) ?_
  refine lv_aload_n hx hb dX0_drop_10 rfl (lv_at hl 1 rfl) ?_
  refine va_get (D := D) (ci := 5) (v := .int 0) (C := RX0) (T := TX0) (N := 4) hx hb hts iw_X0_drop_RX0 hown hK hP 0 rfl rfl 1 (by decide) (hts (.fieldLink RX0 15 "Hubcascade$ByteRow" "oldest" "I") (by decide +kernel)) (fun _ h9 => h9) rfl dX0_drop_11 ?_
  refine lv_iload_n hx hb dX0_drop_14 rfl (lv_at hl 0 rfl) ?_
  refine lv_iadd hx hb dX0_drop_15 ?_
  refine lv_topi (fun y ey => ?_)
  obtain rfl : y = 0 := ey.trans (by decide)
  refine lv_bipush (v := 31) hx hb dX0_drop_16 (by decide) ?_
  refine lv_iand hx hb dX0_drop_18 ?_
  refine lv_topi (fun y ey => ?_)
  obtain rfl : y = 0 := ey.trans (by decide)
  refine va_put (D := D) (ci := 5) (v := .int 0) (ty := .int) (C := RX0) (T := TX0) (N := 4) hx hb hts iw_X0_drop_RX0 tyX0 tyX0_ok nmX0 hown hK hP hD hS 0 rfl rfl 1 (by decide) (hts (.fieldLink RX0 15 "Hubcascade$ByteRow" "oldest" "I") (by decide +kernel)) (fun _ h9 => h9) rfl (by decide +kernel) rfl rfl (Nat.le_of_ble_eq_true rfl) dX0_drop_19 (fun H locs hP hD hS => ?_)
  have hP : va_P D vwCl ([(r, .inr (5, [.ref c1, .int 0, .int 0, .int 0]))]) H := hP
  have hD : va_D A ([(r, .inr (5, [.ref c1, .int 0, .int 0, .int 0]))]) := hD
  refine lv_aload_n hx hb dX0_drop_22 rfl (lv_at hl 1 rfl) ?_
  refine lv_dup hx hb dX0_drop_23 rfl ?_
  refine va_get (D := D) (ci := 5) (v := .int 0) (C := RX0) (T := TX0) (N := 4) hx hb hts iw_X0_drop_RX0 hown hK hP 0 rfl rfl 2 (by decide) (hts (.fieldLink RX0 19 "Hubcascade$ByteRow" "size" "I") (by decide +kernel)) (fun _ h9 => h9) rfl dX0_drop_24 ?_
  refine lv_iload_n hx hb dX0_drop_27 rfl (lv_at hl 0 rfl) ?_
  refine lv_isub hx hb dX0_drop_28 ?_
  refine lv_topi (fun y ey => ?_)
  obtain rfl : y = 0 := ey.trans (by decide)
  refine va_put (D := D) (ci := 5) (v := .int 0) (ty := .int) (C := RX0) (T := TX0) (N := 4) hx hb hts iw_X0_drop_RX0 tyX0 tyX0_ok nmX0 hown hK hP hD hS 0 rfl rfl 2 (by decide) (hts (.fieldLink RX0 19 "Hubcascade$ByteRow" "size" "I") (by decide +kernel)) (fun _ h9 => h9) rfl (by decide +kernel) rfl rfl (Nat.le_of_ble_eq_true rfl) dX0_drop_29 (fun H locs hP hD hS => ?_)
  have hP : va_P D vwCl ([(r, .inr (5, [.ref c1, .int 0, .int 0, .int 0]))]) H := hP
  have hD : va_D A ([(r, .inr (5, [.ref c1, .int 0, .int 0, .int 0]))]) := hD
  refine W.widen (k := 0) (n := 0) (Nat.le_of_ble_eq_true rfl) (Nat.le_of_ble_eq_true rfl) ?_
  exact W.vret hx hb hr (fun t ht hW => ⟨rfl, trivial, hS.F ht⟩) hS.2.2 dX0_drop_32

theorem iw_X9_type_RX0 : ∀ w ∈ u_ws RX0 TX0 4, w ∈ wsX9_type := by decide +kernel
theorem iw_X9_type_RX9 : ∀ w ∈ u_ws RX9 TX9 13, w ∈ wsX9_type := by decide +kernel
set_option maxRecDepth 100000 in
set_option maxHeartbeats 4000000 in
theorem m_type_ok (l : Launch) (D : va_G) (cy : Nat → ClassId) {ad : Nat → Nat} {rw_ : Nat → Nat → Option Nat} (sz : Nat) (v : Int32) (hw : ¬ v < 0 ∧ ¬ 255 < v) : ME l D cy ([(ad 0, .inr (14, [.ref (ad 1), .int 1, .ref (ad 2), .ref (ad 3), .int 0, .ref (ad 4), .int 11, .int 0, .ref (ad 5), .ref (ad 7), .ref (ad 9), .ref (ad 13), .ref (ad 17)])), (ad 5, .inr (5, [.ref (ad 6), .int 0, .int 0, .int 0])), (ad 6, .inl (cy 0, 32, .inl (fun _ => 0)))]) sz yX9_type wsX9_type 1 0 0 22 [.ref (ad 0), .int v] (some (.int 1)) (fun _ => True) := by
  refine ro_ofW (cc := cX9_type) (maxL := 2) (ret := (some .int)) (lv := [(0, .ref (ad 0)), (1, .int v)]) (by decide) rfl (Nat.le_of_ble_eq_true rfl) rfl ?_
  intro p e s m below meth c ls hx hb hr hml hown hlocks hname hts hv hl
  have hown : s.vm.findClass RX9 = some m.cls := hown
  obtain ⟨⟨hsz, hP, hD0⟩, hK, hN⟩ := hv
  subst hsz
  have hD := hD0.self (sz := s.heap.size)
  generalize hAe : va_A ([(ad 0, .inr (14, [.ref (ad 1), .int 1, .ref (ad 2), .ref (ad 3), .int 0, .ref (ad 4), .int 11, .int 0, .ref (ad 5), .ref (ad 7), .ref (ad 9), .ref (ad 13), .ref (ad 17)])), (ad 5, .inr (5, [.ref (ad 6), .int 0, .int 0, .int 0])), (ad 6, .inl (cy 0, 32, .inl (fun _ => 0)))]) s.heap.size = A at hD ⊢
  have hA : ∀ q : Nat, s.heap.size ≤ q → A q := fun q h => by rw [← hAe]; exact Or.inr h
  have hS : va_S A s.heap s.heap [] := va_S.rf
  refine lv_iload_n hx hb dX9_type_0 rfl (lv_at hl 1 rfl) ?_
  refine lv_iconst (v := 0) hx hb dX9_type_1 (by decide) ?_
  refine lv_sipush (v := 255) hx hb dX9_type_2 (by decide) ?_
  refine ro_callS (As := [.int v, .int 0, .int 255]) (rest := []) ⟨hx, hb, hml, hown, hts⟩ (c_isWithin_t l D cy _ _ _ _ hw.1 hw.2) (va_cwS 3 hts gX9_type_X9_isWithin rfl rfl rfl (by decide +kernel) ⟨by decide, by decide⟩) hK hN hP hS rfl hl.1 rfl (Nat.le_of_ble_eq_true rfl) dX9_type_5 ⟨Nat.le_of_ble_eq_true rfl, Nat.le_of_ble_eq_true rfl⟩ (fun H locs hP hS => ?_)
  refine lv_if_ne (tgt := 22) hx hb dX9_type_8 (by decide) (fun _ => ?_) (fun c => absurd c (by decide))
  refine lv_aload_n hx hb dX9_type_22 rfl (lv_at hl 0 rfl) ?_
  refine va_get (D := D) (ci := 14) (v := .ref (ad 5)) (C := RX9) (T := TX9) (N := 13) hx hb hts iw_X9_type_RX9 hown hK hP 0 rfl rfl 8 (by decide) (hts (.fieldLink RX9 35 "Hubcascade" "typed" "LHubcascade$ByteRow;") (by decide +kernel)) (fun _ h9 => h9) rfl dX9_type_23 ?_
  refine va_getN (D := D) (ci := 5) (v := .int 0) (C := RX0) (T := TX0) (N := 4) hx hb hts iw_X9_type_RX0 hown hK hP 1 rfl rfl 2 (by decide) (va_Nw.use rfl (hN.1 _ nf_0)) (fun _ h9 => h9) rfl dX9_type_26 ?_
  refine lv_bipush (v := 16) hx hb dX9_type_29 (by decide) ?_
  refine lv_icmp_lt (tgt := 45) hx hb dX9_type_31 (by decide) (fun _ => ?_) (fun c => absurd (by decide) c)
  refine lv_aload_n hx hb dX9_type_45 rfl (lv_at hl 0 rfl) ?_
  refine va_get (D := D) (ci := 14) (v := .ref (ad 5)) (C := RX9) (T := TX9) (N := 13) hx hb hts iw_X9_type_RX9 hown hK hP 0 rfl rfl 8 (by decide) (hts (.fieldLink RX9 35 "Hubcascade" "typed" "LHubcascade$ByteRow;") (by decide +kernel)) (fun _ h9 => h9) rfl dX9_type_46 ?_
  refine lv_iload_n hx hb dX9_type_49 rfl (lv_at hl 1 rfl) ?_
  refine me_callVN (wr := [(ad 0, .inr (14, [.ref (ad 1), .int 1, .ref (ad 2), .ref (ad 3), .int 0, .ref (ad 4), .int 11, .int 0, .ref (ad 5), .ref (ad 7), .ref (ad 9), .ref (ad 13), .ref (ad 17)]))]) (wc := [(ad 5, .inr (5, [.ref (ad 6), .int 0, .int 0, .int 0])), (ad 6, .inl (cy 0, 32, .inl (fun _ => 0)))]) (As := [.int v]) (rest := []) ⟨hx, hb, hml, hown, hts⟩ (m_add0 l D cy (ad 5) (ad 6) _ v ) ⟨va_cnB 1 hts gX9_type_X0_add_n271 rfl rfl rfl (hN.1 _ nf_137) (hts (.initialized RX0) (by decide +kernel)) (by decide +kernel) ⟨by decide, by decide⟩, hts (.instanceMethod yX0_add) (by decide +kernel), hts (.selects RX0 yX0_add yX0_add) (by decide +kernel)⟩ hK hN hP hD hS hA (ci := 5) (q0 := 0) rfl rfl rfl rfl hl.1 rfl (Nat.le_of_ble_eq_true rfl) dX9_type_50 ⟨Nat.le_of_ble_eq_true rfl, Nat.le_of_ble_eq_true rfl⟩ (fun H locs hB hJ hS => ?_)
  obtain ⟨f_1, hP1, hD1⟩ := hB
  obtain ⟨hP, hD⟩ := hJ _ hP1 hD1
  have hP : va_P D vwCl ([(ad 0, .inr (14, [.ref (ad 1), .int 1, .ref (ad 2), .ref (ad 3), .int 0, .ref (ad 4), .int 11, .int 0, .ref (ad 5), .ref (ad 7), .ref (ad 9), .ref (ad 13), .ref (ad 17)])), (ad 5, .inr (5, [.ref (ad 6), .int 0, .int 1, .int 1])), (ad 6, .inl (cy 0, 32, .inl (f_1)))]) H := hP
  have hD : va_D A ([(ad 0, .inr (14, [.ref (ad 1), .int 1, .ref (ad 2), .ref (ad 3), .int 0, .ref (ad 4), .int 11, .int 0, .ref (ad 5), .ref (ad 7), .ref (ad 9), .ref (ad 13), .ref (ad 17)])), (ad 5, .inr (5, [.ref (ad 6), .int 0, .int 1, .int 1])), (ad 6, .inl (cy 0, 32, .inl (f_1)))]) := hD
  refine lv_aload_n hx hb dX9_type_53 rfl (lv_at hl 0 rfl) ?_
  refine va_get (D := D) (ci := 14) (v := .ref (ad 5)) (C := RX9) (T := TX9) (N := 13) hx hb hts iw_X9_type_RX9 hown hK hP 0 rfl rfl 8 (by decide) (hts (.fieldLink RX9 35 "Hubcascade" "typed" "LHubcascade$ByteRow;") (by decide +kernel)) (fun _ h9 => h9) rfl dX9_type_54 ?_
  refine va_getN (D := D) (ci := 5) (v := .int 1) (C := RX0) (T := TX0) (N := 4) hx hb hts iw_X9_type_RX0 hown hK hP 1 rfl rfl 2 (by decide) (va_Nw.use rfl (hN.1 _ nf_0)) (fun _ h9 => h9) rfl dX9_type_57 ?_
  refine W.widen (k := 0) (n := 0) (Nat.le_of_ble_eq_true rfl) (Nat.le_of_ble_eq_true rfl) ?_
  exact W.iret hx hb hr (fun t ht hW => ⟨rfl, trivial, hS.F ht⟩) hS.2.2 dX9_type_60

theorem iw_X9_wipe_RX0 : ∀ w ∈ u_ws RX0 TX0 4, w ∈ wsX9_wipe := by decide +kernel
theorem iw_X9_wipe_RX9 : ∀ w ∈ u_ws RX9 TX9 13, w ∈ wsX9_wipe := by decide +kernel
set_option maxRecDepth 100000 in
set_option maxHeartbeats 4000000 in
theorem m_wipe_ok (l : Launch) (D : va_G) (cy : Nat → ClassId) {ad : Nat → Nat} {rw_ : Nat → Nat → Option Nat} (sz : Nat) : ME l D cy ([(ad 0, .inr (14, [.ref (ad 1), .int 1, .ref (ad 2), .ref (ad 3), .int 0, .ref (ad 4), .int 11, .int 0, .ref (ad 5), .ref (ad 7), .ref (ad 9), .ref (ad 13), .ref (ad 17)])), (ad 5, .inr (5, [.ref (ad 6), .int 0, .int 0, .int 0]))]) sz yX9_wipe wsX9_wipe 2 0 0 35 [.ref (ad 0)] (some (.int 0)) (fun _ => True) := by
  refine ro_ofW (cc := cX9_wipe) (maxL := 2) (ret := (some .int)) (lv := [(0, .ref (ad 0))]) (by decide) rfl (Nat.le_of_ble_eq_true rfl) rfl ?_
  intro p e s m below meth c ls hx hb hr hml hown hlocks hname hts hv hl
  have hown : s.vm.findClass RX9 = some m.cls := hown
  obtain ⟨⟨hsz, hP, hD0⟩, hK, hN⟩ := hv
  subst hsz
  have hD := hD0.self (sz := s.heap.size)
  generalize hAe : va_A ([(ad 0, .inr (14, [.ref (ad 1), .int 1, .ref (ad 2), .ref (ad 3), .int 0, .ref (ad 4), .int 11, .int 0, .ref (ad 5), .ref (ad 7), .ref (ad 9), .ref (ad 13), .ref (ad 17)])), (ad 5, .inr (5, [.ref (ad 6), .int 0, .int 0, .int 0]))]) s.heap.size = A at hD ⊢
  have hA : ∀ q : Nat, s.heap.size ≤ q → A q := fun q h => by rw [← hAe]; exact Or.inr h
  have hS : va_S A s.heap s.heap [] := va_S.rf
  refine lv_aload_n hx hb dX9_wipe_0 rfl (lv_at hl 0 rfl) ?_
  refine va_get (D := D) (ci := 14) (v := .ref (ad 5)) (C := RX9) (T := TX9) (N := 13) hx hb hts iw_X9_wipe_RX9 hown hK hP 0 rfl rfl 8 (by decide) (hts (.fieldLink RX9 35 "Hubcascade" "typed" "LHubcascade$ByteRow;") (by decide +kernel)) (fun _ h9 => h9) rfl dX9_wipe_1 ?_
  refine va_getN (D := D) (ci := 5) (v := .int 0) (C := RX0) (T := TX0) (N := 4) hx hb hts iw_X9_wipe_RX0 hown hK hP 1 rfl rfl 2 (by decide) (va_Nw.use rfl (hN.1 _ nf_0)) (fun _ h9 => h9) rfl dX9_wipe_4 ?_
  refine lv_istore_n (lv' := [(1, .int 0), (0, .ref (ad 0))]) hx hb dX9_wipe_7 rfl hl (by decide) rfl (fun ls hl => ?_)
  refine lv_aload_n hx hb dX9_wipe_8 rfl (lv_at hl 1 rfl) ?_
  refine va_get (D := D) (ci := 14) (v := .ref (ad 5)) (C := RX9) (T := TX9) (N := 13) hx hb hts iw_X9_wipe_RX9 hown hK hP 0 rfl rfl 8 (by decide) (hts (.fieldLink RX9 35 "Hubcascade" "typed" "LHubcascade$ByteRow;") (by decide +kernel)) (fun _ h9 => h9) rfl dX9_wipe_9 ?_
  refine lv_iload_n hx hb dX9_wipe_12 rfl (lv_at hl 0 rfl) ?_
  refine me_callVN (wr := [(ad 0, .inr (14, [.ref (ad 1), .int 1, .ref (ad 2), .ref (ad 3), .int 0, .ref (ad 4), .int 11, .int 0, .ref (ad 5), .ref (ad 7), .ref (ad 9), .ref (ad 13), .ref (ad 17)]))]) (wc := [(ad 5, .inr (5, [.ref (ad 6), .int 0, .int 0, .int 0]))]) (As := [.int 0]) (rest := []) ⟨hx, hb, hml, hown, hts⟩ (m_drop0 l D cy (ad 5) (ad 6) _  ) ⟨va_cnB 1 hts gX9_wipe_X0_drop_n274 rfl rfl rfl (hN.1 _ nf_124) (hts (.initialized RX0) (by decide +kernel)) (by decide +kernel) ⟨by decide, by decide⟩, hts (.instanceMethod yX0_drop) (by decide +kernel), hts (.selects RX0 yX0_drop yX0_drop) (by decide +kernel)⟩ hK hN hP hD hS hA (ci := 5) (q0 := 0) rfl rfl rfl rfl hl.1 rfl (Nat.le_of_ble_eq_true rfl) dX9_wipe_13 ⟨Nat.le_of_ble_eq_true rfl, Nat.le_of_ble_eq_true rfl⟩ (fun H locs hB hJ hS => ?_)
  refine lv_iload_n hx hb dX9_wipe_16 rfl (lv_at hl 0 rfl) ?_
  refine W.widen (k := 0) (n := 0) (Nat.le_of_ble_eq_true rfl) (Nat.le_of_ble_eq_true rfl) ?_
  exact W.iret hx hb hr (fun t ht hW => ⟨rfl, trivial, hS.F ht⟩) hS.2.2 dX9_wipe_17

theorem iw_X9_driver_RX9 : ∀ w ∈ u_ws RX9 TX9 13, w ∈ wsX9_driver := by decide +kernel
set_option maxRecDepth 100000 in
set_option maxHeartbeats 4000000 in
theorem m_driver_ok (l : Launch) (D : va_G) (cy : Nat → ClassId) {ad : Nat → Nat} {rw_ : Nat → Nat → Option Nat} (sz : Nat) (a b : Int32) (h1 : ¬ a < 0 ∧ ¬ 9 < a) (h2 : ¬ b < -1 ∧ ¬ 9 < b) : ME l D cy ([(ad 0, .inr (14, [.ref (ad 1), .int 1, .ref (ad 2), .ref (ad 3), .int 0, .ref (ad 4), .int 11, .int 0, .ref (ad 5), .ref (ad 7), .ref (ad 9), .ref (ad 13), .ref (ad 17)])), (ad 2, .inl (cy 0, 8, .inl (fun _ => 0))), (ad 3, .inl (cy 0, 8, .inl (fun _ => 0)))]) sz yX9_driver wsX9_driver 1 0 0 22 [.ref (ad 0), .int a, .int b] (some (.int 0)) (fun _ => True) := by
  refine ro_ofW (cc := cX9_driver) (maxL := 3) (ret := (some .int)) (lv := [(0, .ref (ad 0)), (1, .int a), (2, .int b)]) (by decide) rfl (Nat.le_of_ble_eq_true rfl) rfl ?_
  intro p e s m below meth c ls hx hb hr hml hown hlocks hname hts hv hl
  have hown : s.vm.findClass RX9 = some m.cls := hown
  obtain ⟨⟨hsz, hP, hD0⟩, hK, hN⟩ := hv
  subst hsz
  have hD := hD0.self (sz := s.heap.size)
  generalize hAe : va_A ([(ad 0, .inr (14, [.ref (ad 1), .int 1, .ref (ad 2), .ref (ad 3), .int 0, .ref (ad 4), .int 11, .int 0, .ref (ad 5), .ref (ad 7), .ref (ad 9), .ref (ad 13), .ref (ad 17)])), (ad 2, .inl (cy 0, 8, .inl (fun _ => 0))), (ad 3, .inl (cy 0, 8, .inl (fun _ => 0)))]) s.heap.size = A at hD ⊢
  have hA : ∀ q : Nat, s.heap.size ≤ q → A q := fun q h => by rw [← hAe]; exact Or.inr h
  have hS : va_S A s.heap s.heap [] := va_S.rf
  refine lv_iload_n hx hb dX9_driver_0 rfl (lv_at hl 1 rfl) ?_
  refine lv_iconst (v := 0) hx hb dX9_driver_1 (by decide) ?_
  refine lv_bipush (v := 9) hx hb dX9_driver_2 (by decide) ?_
  refine ro_callS (As := [.int a, .int 0, .int 9]) (rest := []) ⟨hx, hb, hml, hown, hts⟩ (c_isWithin_t l D cy _ _ _ _ h1.1 h1.2) (va_cwS 3 hts gX9_driver_X9_isWithin rfl rfl rfl (by decide +kernel) ⟨by decide, by decide⟩) hK hN hP hS rfl hl.1 rfl (Nat.le_of_ble_eq_true rfl) dX9_driver_4 ⟨Nat.le_of_ble_eq_true rfl, Nat.le_of_ble_eq_true rfl⟩ (fun H locs hP hS => ?_)
  refine lv_if_eq (tgt := 20) hx hb dX9_driver_7 (by decide) (fun c => absurd c (by decide)) (fun _ => ?_)
  refine lv_iload_n hx hb dX9_driver_10 rfl (lv_at hl 2 rfl) ?_
  refine lv_iconst (v := (-1)) hx hb dX9_driver_11 (by decide) ?_
  refine lv_bipush (v := 9) hx hb dX9_driver_12 (by decide) ?_
  refine ro_callS (As := [.int b, .int (-1), .int 9]) (rest := []) ⟨hx, hb, hml, hown, hts⟩ (c_isWithin_t l D cy _ _ _ _ h2.1 h2.2) (va_cwS 3 hts gX9_driver_X9_isWithin rfl rfl rfl (by decide +kernel) ⟨by decide, by decide⟩) hK hN hP hS rfl hl.1 rfl (Nat.le_of_ble_eq_true rfl) dX9_driver_14 ⟨Nat.le_of_ble_eq_true rfl, Nat.le_of_ble_eq_true rfl⟩ (fun H locs hP hS => ?_)
  refine lv_if_ne (tgt := 30) hx hb dX9_driver_17 (by decide) (fun _ => ?_) (fun c => absurd c (by decide))
  refine lv_aload_n hx hb dX9_driver_30 rfl (lv_at hl 0 rfl) ?_
  refine va_get (D := D) (ci := 14) (v := .int 0) (C := RX9) (T := TX9) (N := 13) hx hb hts iw_X9_driver_RX9 hown hK hP 0 rfl rfl 4 (by decide) (hts (.fieldLink RX9 231 "Hubcascade" "driverCount" "I") (by decide +kernel)) (fun _ h9 => h9) rfl dX9_driver_31 ?_
  refine lv_bipush (v := 8) hx hb dX9_driver_34 (by decide) ?_
  refine lv_icmp_lt (tgt := 49) hx hb dX9_driver_36 (by decide) (fun _ => ?_) (fun c => absurd (by decide) c)
  refine lv_aload_n hx hb dX9_driver_49 rfl (lv_at hl 0 rfl) ?_
  refine va_get (D := D) (ci := 14) (v := .ref (ad 2)) (C := RX9) (T := TX9) (N := 13) hx hb hts iw_X9_driver_RX9 hown hK hP 0 rfl rfl 2 (by decide) (hts (.fieldLink RX9 15 "Hubcascade" "driverClasses" "[I") (by decide +kernel)) (fun _ h9 => h9) rfl dX9_driver_50 ?_
  refine lv_aload_n hx hb dX9_driver_53 rfl (lv_at hl 0 rfl) ?_
  refine va_get (D := D) (ci := 14) (v := .int 0) (C := RX9) (T := TX9) (N := 13) hx hb hts iw_X9_driver_RX9 hown hK hP 0 rfl rfl 4 (by decide) (hts (.fieldLink RX9 231 "Hubcascade" "driverCount" "I") (by decide +kernel)) (fun _ h9 => h9) rfl dX9_driver_54 ?_
  refine lv_iload_n hx hb dX9_driver_57 rfl (lv_at hl 1 rfl) ?_
  refine va_iast hx hb hK hP hD hS 1 0 rfl rfl (by unfold vp_in; decide) dX9_driver_58 (fun H locs hP hD hS => ?_)
  obtain ⟨f_1, ef_1⟩ : ∃ z, z = upd (fun _ => 0) (Int32.toNatClampNeg 0) a := ⟨_, rfl⟩
  rw [← ef_1] at hP hD
  have hP : va_P D vwCl ([(ad 0, .inr (14, [.ref (ad 1), .int 1, .ref (ad 2), .ref (ad 3), .int 0, .ref (ad 4), .int 11, .int 0, .ref (ad 5), .ref (ad 7), .ref (ad 9), .ref (ad 13), .ref (ad 17)])), (ad 2, .inl (cy 0, 8, .inl (f_1))), (ad 3, .inl (cy 0, 8, .inl (fun _ => 0)))]) H := hP
  have hD : va_D A ([(ad 0, .inr (14, [.ref (ad 1), .int 1, .ref (ad 2), .ref (ad 3), .int 0, .ref (ad 4), .int 11, .int 0, .ref (ad 5), .ref (ad 7), .ref (ad 9), .ref (ad 13), .ref (ad 17)])), (ad 2, .inl (cy 0, 8, .inl (f_1))), (ad 3, .inl (cy 0, 8, .inl (fun _ => 0)))]) := hD
  refine lv_aload_n hx hb dX9_driver_59 rfl (lv_at hl 0 rfl) ?_
  refine va_get (D := D) (ci := 14) (v := .ref (ad 3)) (C := RX9) (T := TX9) (N := 13) hx hb hts iw_X9_driver_RX9 hown hK hP 0 rfl rfl 3 (by decide) (hts (.fieldLink RX9 19 "Hubcascade" "driverSubclasses" "[I") (by decide +kernel)) (fun _ h9 => h9) rfl dX9_driver_60 ?_
  refine lv_aload_n hx hb dX9_driver_63 rfl (lv_at hl 0 rfl) ?_
  refine va_get (D := D) (ci := 14) (v := .int 0) (C := RX9) (T := TX9) (N := 13) hx hb hts iw_X9_driver_RX9 hown hK hP 0 rfl rfl 4 (by decide) (hts (.fieldLink RX9 231 "Hubcascade" "driverCount" "I") (by decide +kernel)) (fun _ h9 => h9) rfl dX9_driver_64 ?_
  refine lv_iload_n hx hb dX9_driver_67 rfl (lv_at hl 2 rfl) ?_
  refine va_iast hx hb hK hP hD hS 2 0 rfl rfl (by unfold vp_in; decide) dX9_driver_68 (fun H locs hP hD hS => ?_)
  obtain ⟨f_2, ef_2⟩ : ∃ z, z = upd (fun _ => 0) (Int32.toNatClampNeg 0) b := ⟨_, rfl⟩
  rw [← ef_2] at hP hD
  have hP : va_P D vwCl ([(ad 0, .inr (14, [.ref (ad 1), .int 1, .ref (ad 2), .ref (ad 3), .int 0, .ref (ad 4), .int 11, .int 0, .ref (ad 5), .ref (ad 7), .ref (ad 9), .ref (ad 13), .ref (ad 17)])), (ad 2, .inl (cy 0, 8, .inl (f_1))), (ad 3, .inl (cy 0, 8, .inl (f_2)))]) H := hP
  have hD : va_D A ([(ad 0, .inr (14, [.ref (ad 1), .int 1, .ref (ad 2), .ref (ad 3), .int 0, .ref (ad 4), .int 11, .int 0, .ref (ad 5), .ref (ad 7), .ref (ad 9), .ref (ad 13), .ref (ad 17)])), (ad 2, .inl (cy 0, 8, .inl (f_1))), (ad 3, .inl (cy 0, 8, .inl (f_2)))]) := hD
  refine lv_aload_n hx hb dX9_driver_69 rfl (lv_at hl 0 rfl) ?_
  refine lv_dup hx hb dX9_driver_70 rfl ?_
  refine va_get (D := D) (ci := 14) (v := .int 0) (C := RX9) (T := TX9) (N := 13) hx hb hts iw_X9_driver_RX9 hown hK hP 0 rfl rfl 4 (by decide) (hts (.fieldLink RX9 231 "Hubcascade" "driverCount" "I") (by decide +kernel)) (fun _ h9 => h9) rfl dX9_driver_71 ?_
  refine lv_iconst (v := 1) hx hb dX9_driver_74 (by decide) ?_
  refine lv_iadd hx hb dX9_driver_75 ?_
  refine lv_topi (fun y ey => ?_)
  obtain rfl : y = 1 := ey.trans (by decide)
  refine va_put (D := D) (ci := 14) (v := .int 1) (ty := .int) (C := RX9) (T := TX9) (N := 13) hx hb hts iw_X9_driver_RX9 tyX9 tyX9_ok nmX9 hown hK hP hD hS 0 rfl rfl 4 (by decide) (hts (.fieldLink RX9 231 "Hubcascade" "driverCount" "I") (by decide +kernel)) (fun _ h9 => h9) rfl (by decide +kernel) rfl rfl (Nat.le_of_ble_eq_true rfl) dX9_driver_76 (fun H locs hP hD hS => ?_)
  have hP : va_P D vwCl ([(ad 0, .inr (14, [.ref (ad 1), .int 1, .ref (ad 2), .ref (ad 3), .int 1, .ref (ad 4), .int 11, .int 0, .ref (ad 5), .ref (ad 7), .ref (ad 9), .ref (ad 13), .ref (ad 17)])), (ad 2, .inl (cy 0, 8, .inl (f_1))), (ad 3, .inl (cy 0, 8, .inl (f_2)))]) H := hP
  have hD : va_D A ([(ad 0, .inr (14, [.ref (ad 1), .int 1, .ref (ad 2), .ref (ad 3), .int 1, .ref (ad 4), .int 11, .int 0, .ref (ad 5), .ref (ad 7), .ref (ad 9), .ref (ad 13), .ref (ad 17)])), (ad 2, .inl (cy 0, 8, .inl (f_1))), (ad 3, .inl (cy 0, 8, .inl (f_2)))]) := hD
  refine lv_aload_n hx hb dX9_driver_79 rfl (lv_at hl 0 rfl) ?_
  refine va_get (D := D) (ci := 14) (v := .int 1) (C := RX9) (T := TX9) (N := 13) hx hb hts iw_X9_driver_RX9 hown hK hP 0 rfl rfl 4 (by decide) (hts (.fieldLink RX9 231 "Hubcascade" "driverCount" "I") (by decide +kernel)) (fun _ h9 => h9) rfl dX9_driver_80 ?_
  refine lv_iconst (v := 1) hx hb dX9_driver_83 (by decide) ?_
  refine lv_isub hx hb dX9_driver_84 ?_
  refine lv_topi (fun y ey => ?_)
  obtain rfl : y = 0 := ey.trans (by decide)
  refine W.widen (k := 0) (n := 0) (Nat.le_of_ble_eq_true rfl) (Nat.le_of_ble_eq_true rfl) ?_
  exact W.iret hx hb hr (fun t ht hW => ⟨rfl, trivial, hS.F ht⟩) hS.2.2 dX9_driver_85

theorem iw_X9_make_RX1 : ∀ w ∈ u_ws RX1 TX1 20, w ∈ wsX9_make := by decide +kernel
theorem iw_X9_make_RX9 : ∀ w ∈ u_ws RX9 TX9 13, w ∈ wsX9_make := by decide +kernel
set_option maxRecDepth 100000 in
set_option maxHeartbeats 4000000 in
theorem m_make_ok (l : Launch) (D : va_G) (cy : Nat → ClassId) {ad : Nat → Nat} {rw_ : Nat → Nat → Option Nat} (sz : Nat) (q a b o z : Int32) (hr1 : rw_ 1 1 = some (ad (100 + 1))) (h1 : (q = 108 ∨ q = 102 ∨ q = 104)) (h2 : ¬ a < 0 ∧ ¬ 4 < a) (h3 : ¬ b < 1 ∧ ¬ 5 < b) (h4 : ¬ z < 0 ∧ ¬ 99 < z) (h5 : ¬ (q = 108 ∧ 0 < a)) (hnq : narrow .char (.int q) = .int q) (hfq : fits .char (.int q) = true) (hno : narrow .boolean (.int o) = .int o) (hfo : fits .boolean (.int o) = true) : ME l D cy ([(ad 0, .inr (14, [.ref (ad 1), .int 1, .ref (ad 2), .ref (ad 3), .int 0, .ref (ad 4), .int 11, .int 0, .ref (ad 5), .ref (ad 7), .ref (ad 9), .ref (ad 13), .ref (ad 17)])), (ad 1, .inl (cy 4, 16, .inr (.inr (.inr (.inr (rw_ 1)))))), (ad (100 + 1), .inr (6, [.int (nI 1), .int 104, .int 0, .int 0, .int 0, .int 0, .int 0, .int 117, .null, .int 0, .int (-1), .int 104, .int (-1), .int 0, .int (-1), .int 0, .int 0, .int 0, .ref (ad (120 + 1)), .ref (ad (140 + 1))]))]) sz yX9_make wsX9_make 1 0 0 22 [.ref (ad 0), .int q, .int a, .int b, .int o, .int z] (some (.int (nI 1))) (fun _ => True) := by
  refine ro_ofW (cc := cX9_make) (maxL := 7) (ret := (some .int)) (lv := [(0, .ref (ad 0)), (1, .int q), (2, .int a), (3, .int b), (4, .int o), (5, .int z)]) (by decide) rfl (Nat.le_of_ble_eq_true rfl) rfl ?_
  intro p e s m below meth c ls hx hb hr hml hown hlocks hname hts hv hl
  have hown : s.vm.findClass RX9 = some m.cls := hown
  obtain ⟨⟨hsz, hP, hD0⟩, hK, hN⟩ := hv
  subst hsz
  have hD := hD0.self (sz := s.heap.size)
  generalize hAe : va_A ([(ad 0, .inr (14, [.ref (ad 1), .int 1, .ref (ad 2), .ref (ad 3), .int 0, .ref (ad 4), .int 11, .int 0, .ref (ad 5), .ref (ad 7), .ref (ad 9), .ref (ad 13), .ref (ad 17)])), (ad 1, .inl (cy 4, 16, .inr (.inr (.inr (.inr (rw_ 1)))))), (ad (100 + 1), .inr (6, [.int (nI 1), .int 104, .int 0, .int 0, .int 0, .int 0, .int 0, .int 117, .null, .int 0, .int (-1), .int 104, .int (-1), .int 0, .int (-1), .int 0, .int 0, .int 0, .ref (ad (120 + 1)), .ref (ad (140 + 1))]))]) s.heap.size = A at hD ⊢
  have hA : ∀ q : Nat, s.heap.size ≤ q → A q := fun q h => by rw [← hAe]; exact Or.inr h
  have hS : va_S A s.heap s.heap [] := va_S.rf
  refine lv_iload_n hx hb dX9_make_0 rfl (lv_at hl 1 rfl) ?_
  refine ro_callS (As := [.int q]) (rest := []) ⟨hx, hb, hml, hown, hts⟩ (c_isSpeed_t l D cy _ q h1) (va_cwS 1 hts gX9_make_X9_isSpeed rfl rfl rfl (by decide +kernel) ⟨by decide, by decide⟩) hK hN hP hS rfl hl.1 rfl (Nat.le_of_ble_eq_true rfl) dX9_make_1 ⟨Nat.le_of_ble_eq_true rfl, Nat.le_of_ble_eq_true rfl⟩ (fun H locs hP hS => ?_)
  refine lv_if_eq (tgt := 36) hx hb dX9_make_4 (by decide) (fun c => absurd c (by decide)) (fun _ => ?_)
  refine lv_iload_n hx hb dX9_make_7 rfl (lv_at hl 2 rfl) ?_
  refine lv_iconst (v := 0) hx hb dX9_make_8 (by decide) ?_
  refine lv_iconst (v := 4) hx hb dX9_make_9 (by decide) ?_
  refine ro_callS (As := [.int a, .int 0, .int 4]) (rest := []) ⟨hx, hb, hml, hown, hts⟩ (c_isWithin_t l D cy _ _ _ _ h2.1 h2.2) (va_cwS 3 hts gX9_make_X9_isWithin rfl rfl rfl (by decide +kernel) ⟨by decide, by decide⟩) hK hN hP hS rfl hl.1 rfl (Nat.le_of_ble_eq_true rfl) dX9_make_10 ⟨Nat.le_of_ble_eq_true rfl, Nat.le_of_ble_eq_true rfl⟩ (fun H locs hP hS => ?_)
  refine lv_if_eq (tgt := 36) hx hb dX9_make_13 (by decide) (fun c => absurd c (by decide)) (fun _ => ?_)
  refine lv_iload_n hx hb dX9_make_16 rfl (lv_at hl 3 rfl) ?_
  refine lv_iconst (v := 1) hx hb dX9_make_17 (by decide) ?_
  refine lv_iconst (v := 5) hx hb dX9_make_18 (by decide) ?_
  refine ro_callS (As := [.int b, .int 1, .int 5]) (rest := []) ⟨hx, hb, hml, hown, hts⟩ (c_isWithin_t l D cy _ _ _ _ h3.1 h3.2) (va_cwS 3 hts gX9_make_X9_isWithin rfl rfl rfl (by decide +kernel) ⟨by decide, by decide⟩) hK hN hP hS rfl hl.1 rfl (Nat.le_of_ble_eq_true rfl) dX9_make_19 ⟨Nat.le_of_ble_eq_true rfl, Nat.le_of_ble_eq_true rfl⟩ (fun H locs hP hS => ?_)
  refine lv_if_eq (tgt := 36) hx hb dX9_make_22 (by decide) (fun c => absurd c (by decide)) (fun _ => ?_)
  refine lv_iload hx hb dX9_make_25 (lv_at hl 5 rfl) ?_
  refine lv_iconst (v := 0) hx hb dX9_make_27 (by decide) ?_
  refine lv_bipush (v := 99) hx hb dX9_make_28 (by decide) ?_
  refine ro_callS (As := [.int z, .int 0, .int 99]) (rest := []) ⟨hx, hb, hml, hown, hts⟩ (c_isWithin_t l D cy _ _ _ _ h4.1 h4.2) (va_cwS 3 hts gX9_make_X9_isWithin rfl rfl rfl (by decide +kernel) ⟨by decide, by decide⟩) hK hN hP hS rfl hl.1 rfl (Nat.le_of_ble_eq_true rfl) dX9_make_30 ⟨Nat.le_of_ble_eq_true rfl, Nat.le_of_ble_eq_true rfl⟩ (fun H locs hP hS => ?_)
  refine lv_if_ne (tgt := 46) hx hb dX9_make_33 (by decide) (fun _ => ?_) (fun c => absurd c (by decide))
  refine lv_iload_n hx hb dX9_make_46 rfl (lv_at hl 1 rfl) ?_
  refine lv_bipush (v := 108) hx hb dX9_make_47 (by decide) ?_
  refine lv_icmp_ne (tgt := 66) hx hb dX9_make_49 (by decide) (fun c49 => ?_) (fun c49 => ?_)
  · refine lv_aload_n hx hb dX9_make_66 rfl (lv_at hl 0 rfl) ?_
    refine va_get (D := D) (ci := 14) (v := .int 1) (C := RX9) (T := TX9) (N := 13) hx hb hts iw_X9_make_RX9 hown hK hP 0 rfl rfl 1 (by decide) (hts (.fieldLink RX9 81 "Hubcascade" "deviceCount" "I") (by decide +kernel)) (fun _ h9 => h9) rfl dX9_make_67 ?_
    refine lv_bipush (v := 16) hx hb dX9_make_70 (by decide) ?_
    refine lv_icmp_lt (tgt := 85) hx hb dX9_make_72 (by decide) (fun _ => ?_) (fun c => absurd (by decide) c)
    refine lv_aload_n hx hb dX9_make_85 rfl (lv_at hl 0 rfl) ?_
    refine va_get (D := D) (ci := 14) (v := .ref (ad 1)) (C := RX9) (T := TX9) (N := 13) hx hb hts iw_X9_make_RX9 hown hK hP 0 rfl rfl 0 (by decide) (hts (.fieldLink RX9 11 "Hubcascade" "devices" "[LHubcascade$Device;") (by decide +kernel)) (fun _ h9 => h9) rfl dX9_make_86 ?_
    refine lv_aload_n hx hb dX9_make_89 rfl (lv_at hl 0 rfl) ?_
    refine va_get (D := D) (ci := 14) (v := .int 1) (C := RX9) (T := TX9) (N := 13) hx hb hts iw_X9_make_RX9 hown hK hP 0 rfl rfl 1 (by decide) (hts (.fieldLink RX9 81 "Hubcascade" "deviceCount" "I") (by decide +kernel)) (fun _ h9 => h9) rfl dX9_make_90 ?_
    refine my_ald hx hb hK hP 1 4 rfl rfl (i := 1) (j := 1) (r := ad (100 + 1)) (by decide) (by decide) (by decide) hr1 dX9_make_93 ?_
    refine lv_astore (lv' := [(6, .ref (ad (100 + 1))), (0, .ref (ad 0)), (1, .int q), (2, .int a), (3, .int b), (4, .int o), (5, .int z)]) hx hb dX9_make_94 hl (by decide) rfl (fun ls hl => ?_)
    refine lv_aload hx hb dX9_make_96 (lv_at hl 0 rfl) ?_
    refine lv_iload_n hx hb dX9_make_98 rfl (lv_at hl 2 rfl) ?_
    refine va_putN (D := D) (ci := 6) (v := .int q) (ty := .char) (C := RX1) (T := TX1) (N := 20) hx hb hts iw_X9_make_RX1 tyX1 tyX1_ok nmX1 hown hK hP hD hS 2 rfl rfl 1 (by decide) (va_Nw.use rfl (hN.1 _ nf_32)) (fun _ h9 => h9) rfl (by decide +kernel) hnq hfq (Nat.le_of_ble_eq_true rfl) dX9_make_99 (fun H locs hP hD hS => ?_)
    have hP : va_P D vwCl ([(ad 0, .inr (14, [.ref (ad 1), .int 1, .ref (ad 2), .ref (ad 3), .int 0, .ref (ad 4), .int 11, .int 0, .ref (ad 5), .ref (ad 7), .ref (ad 9), .ref (ad 13), .ref (ad 17)])), (ad 1, .inl (cy 4, 16, .inr (.inr (.inr (.inr (rw_ 1)))))), (ad (100 + 1), .inr (6, [.int (nI 1), .int q, .int 0, .int 0, .int 0, .int 0, .int 0, .int 117, .null, .int 0, .int (-1), .int 104, .int (-1), .int 0, .int (-1), .int 0, .int 0, .int 0, .ref (ad (120 + 1)), .ref (ad (140 + 1))]))]) H := hP
    have hD : va_D A ([(ad 0, .inr (14, [.ref (ad 1), .int 1, .ref (ad 2), .ref (ad 3), .int 0, .ref (ad 4), .int 11, .int 0, .ref (ad 5), .ref (ad 7), .ref (ad 9), .ref (ad 13), .ref (ad 17)])), (ad 1, .inl (cy 4, 16, .inr (.inr (.inr (.inr (rw_ 1)))))), (ad (100 + 1), .inr (6, [.int (nI 1), .int q, .int 0, .int 0, .int 0, .int 0, .int 0, .int 117, .null, .int 0, .int (-1), .int 104, .int (-1), .int 0, .int (-1), .int 0, .int 0, .int 0, .ref (ad (120 + 1)), .ref (ad (140 + 1))]))]) := hD
    refine lv_aload hx hb dX9_make_102 (lv_at hl 0 rfl) ?_
    refine lv_iload_n hx hb dX9_make_104 rfl (lv_at hl 2 rfl) ?_
    refine va_putN (D := D) (ci := 6) (v := .int q) (ty := .char) (C := RX1) (T := TX1) (N := 20) hx hb hts iw_X9_make_RX1 tyX1 tyX1_ok nmX1 hown hK hP hD hS 2 rfl rfl 11 (by decide) (va_Nw.use rfl (hN.1 _ nf_42)) (fun _ h9 => h9) rfl (by decide +kernel) hnq hfq (Nat.le_of_ble_eq_true rfl) dX9_make_105 (fun H locs hP hD hS => ?_)
    have hP : va_P D vwCl ([(ad 0, .inr (14, [.ref (ad 1), .int 1, .ref (ad 2), .ref (ad 3), .int 0, .ref (ad 4), .int 11, .int 0, .ref (ad 5), .ref (ad 7), .ref (ad 9), .ref (ad 13), .ref (ad 17)])), (ad 1, .inl (cy 4, 16, .inr (.inr (.inr (.inr (rw_ 1)))))), (ad (100 + 1), .inr (6, [.int (nI 1), .int q, .int 0, .int 0, .int 0, .int 0, .int 0, .int 117, .null, .int 0, .int (-1), .int q, .int (-1), .int 0, .int (-1), .int 0, .int 0, .int 0, .ref (ad (120 + 1)), .ref (ad (140 + 1))]))]) H := hP
    have hD : va_D A ([(ad 0, .inr (14, [.ref (ad 1), .int 1, .ref (ad 2), .ref (ad 3), .int 0, .ref (ad 4), .int 11, .int 0, .ref (ad 5), .ref (ad 7), .ref (ad 9), .ref (ad 13), .ref (ad 17)])), (ad 1, .inl (cy 4, 16, .inr (.inr (.inr (.inr (rw_ 1)))))), (ad (100 + 1), .inr (6, [.int (nI 1), .int q, .int 0, .int 0, .int 0, .int 0, .int 0, .int 117, .null, .int 0, .int (-1), .int q, .int (-1), .int 0, .int (-1), .int 0, .int 0, .int 0, .ref (ad (120 + 1)), .ref (ad (140 + 1))]))]) := hD
    refine lv_aload hx hb dX9_make_108 (lv_at hl 0 rfl) ?_
    refine lv_iload_n hx hb dX9_make_110 rfl (lv_at hl 3 rfl) ?_
    refine va_putN (D := D) (ci := 6) (v := .int a) (ty := .int) (C := RX1) (T := TX1) (N := 20) hx hb hts iw_X9_make_RX1 tyX1 tyX1_ok nmX1 hown hK hP hD hS 2 rfl rfl 2 (by decide) (va_Nw.use rfl (hN.1 _ nf_33)) (fun _ h9 => h9) rfl (by decide +kernel) rfl rfl (Nat.le_of_ble_eq_true rfl) dX9_make_111 (fun H locs hP hD hS => ?_)
    have hP : va_P D vwCl ([(ad 0, .inr (14, [.ref (ad 1), .int 1, .ref (ad 2), .ref (ad 3), .int 0, .ref (ad 4), .int 11, .int 0, .ref (ad 5), .ref (ad 7), .ref (ad 9), .ref (ad 13), .ref (ad 17)])), (ad 1, .inl (cy 4, 16, .inr (.inr (.inr (.inr (rw_ 1)))))), (ad (100 + 1), .inr (6, [.int (nI 1), .int q, .int a, .int 0, .int 0, .int 0, .int 0, .int 117, .null, .int 0, .int (-1), .int q, .int (-1), .int 0, .int (-1), .int 0, .int 0, .int 0, .ref (ad (120 + 1)), .ref (ad (140 + 1))]))]) H := hP
    have hD : va_D A ([(ad 0, .inr (14, [.ref (ad 1), .int 1, .ref (ad 2), .ref (ad 3), .int 0, .ref (ad 4), .int 11, .int 0, .ref (ad 5), .ref (ad 7), .ref (ad 9), .ref (ad 13), .ref (ad 17)])), (ad 1, .inl (cy 4, 16, .inr (.inr (.inr (.inr (rw_ 1)))))), (ad (100 + 1), .inr (6, [.int (nI 1), .int q, .int a, .int 0, .int 0, .int 0, .int 0, .int 117, .null, .int 0, .int (-1), .int q, .int (-1), .int 0, .int (-1), .int 0, .int 0, .int 0, .ref (ad (120 + 1)), .ref (ad (140 + 1))]))]) := hD
    refine lv_aload hx hb dX9_make_114 (lv_at hl 0 rfl) ?_
    refine lv_iload_n hx hb dX9_make_116 rfl (lv_at hl 4 rfl) ?_
    refine va_putN (D := D) (ci := 6) (v := .int b) (ty := .int) (C := RX1) (T := TX1) (N := 20) hx hb hts iw_X9_make_RX1 tyX1 tyX1_ok nmX1 hown hK hP hD hS 2 rfl rfl 3 (by decide) (va_Nw.use rfl (hN.1 _ nf_34)) (fun _ h9 => h9) rfl (by decide +kernel) rfl rfl (Nat.le_of_ble_eq_true rfl) dX9_make_117 (fun H locs hP hD hS => ?_)
    have hP : va_P D vwCl ([(ad 0, .inr (14, [.ref (ad 1), .int 1, .ref (ad 2), .ref (ad 3), .int 0, .ref (ad 4), .int 11, .int 0, .ref (ad 5), .ref (ad 7), .ref (ad 9), .ref (ad 13), .ref (ad 17)])), (ad 1, .inl (cy 4, 16, .inr (.inr (.inr (.inr (rw_ 1)))))), (ad (100 + 1), .inr (6, [.int (nI 1), .int q, .int a, .int b, .int 0, .int 0, .int 0, .int 117, .null, .int 0, .int (-1), .int q, .int (-1), .int 0, .int (-1), .int 0, .int 0, .int 0, .ref (ad (120 + 1)), .ref (ad (140 + 1))]))]) H := hP
    have hD : va_D A ([(ad 0, .inr (14, [.ref (ad 1), .int 1, .ref (ad 2), .ref (ad 3), .int 0, .ref (ad 4), .int 11, .int 0, .ref (ad 5), .ref (ad 7), .ref (ad 9), .ref (ad 13), .ref (ad 17)])), (ad 1, .inl (cy 4, 16, .inr (.inr (.inr (.inr (rw_ 1)))))), (ad (100 + 1), .inr (6, [.int (nI 1), .int q, .int a, .int b, .int 0, .int 0, .int 0, .int 117, .null, .int 0, .int (-1), .int q, .int (-1), .int 0, .int (-1), .int 0, .int 0, .int 0, .ref (ad (120 + 1)), .ref (ad (140 + 1))]))]) := hD
    refine lv_aload hx hb dX9_make_120 (lv_at hl 0 rfl) ?_
    refine lv_iload_n hx hb dX9_make_122 rfl (lv_at hl 4 rfl) ?_
    refine va_putN (D := D) (ci := 6) (v := .int b) (ty := .int) (C := RX1) (T := TX1) (N := 20) hx hb hts iw_X9_make_RX1 tyX1 tyX1_ok nmX1 hown hK hP hD hS 2 rfl rfl 6 (by decide) (va_Nw.use rfl (hN.1 _ nf_37)) (fun _ h9 => h9) rfl (by decide +kernel) rfl rfl (Nat.le_of_ble_eq_true rfl) dX9_make_123 (fun H locs hP hD hS => ?_)
    have hP : va_P D vwCl ([(ad 0, .inr (14, [.ref (ad 1), .int 1, .ref (ad 2), .ref (ad 3), .int 0, .ref (ad 4), .int 11, .int 0, .ref (ad 5), .ref (ad 7), .ref (ad 9), .ref (ad 13), .ref (ad 17)])), (ad 1, .inl (cy 4, 16, .inr (.inr (.inr (.inr (rw_ 1)))))), (ad (100 + 1), .inr (6, [.int (nI 1), .int q, .int a, .int b, .int 0, .int 0, .int b, .int 117, .null, .int 0, .int (-1), .int q, .int (-1), .int 0, .int (-1), .int 0, .int 0, .int 0, .ref (ad (120 + 1)), .ref (ad (140 + 1))]))]) H := hP
    have hD : va_D A ([(ad 0, .inr (14, [.ref (ad 1), .int 1, .ref (ad 2), .ref (ad 3), .int 0, .ref (ad 4), .int 11, .int 0, .ref (ad 5), .ref (ad 7), .ref (ad 9), .ref (ad 13), .ref (ad 17)])), (ad 1, .inl (cy 4, 16, .inr (.inr (.inr (.inr (rw_ 1)))))), (ad (100 + 1), .inr (6, [.int (nI 1), .int q, .int a, .int b, .int 0, .int 0, .int b, .int 117, .null, .int 0, .int (-1), .int q, .int (-1), .int 0, .int (-1), .int 0, .int 0, .int 0, .ref (ad (120 + 1)), .ref (ad (140 + 1))]))]) := hD
    refine lv_aload hx hb dX9_make_126 (lv_at hl 0 rfl) ?_
    refine lv_iload hx hb dX9_make_128 (lv_at hl 5 rfl) ?_
    refine va_putN (D := D) (ci := 6) (v := .int o) (ty := .boolean) (C := RX1) (T := TX1) (N := 20) hx hb hts iw_X9_make_RX1 tyX1 tyX1_ok nmX1 hown hK hP hD hS 2 rfl rfl 4 (by decide) (va_Nw.use rfl (hN.1 _ nf_35)) (fun _ h9 => h9) rfl (by decide +kernel) hno hfo (Nat.le_of_ble_eq_true rfl) dX9_make_130 (fun H locs hP hD hS => ?_)
    have hP : va_P D vwCl ([(ad 0, .inr (14, [.ref (ad 1), .int 1, .ref (ad 2), .ref (ad 3), .int 0, .ref (ad 4), .int 11, .int 0, .ref (ad 5), .ref (ad 7), .ref (ad 9), .ref (ad 13), .ref (ad 17)])), (ad 1, .inl (cy 4, 16, .inr (.inr (.inr (.inr (rw_ 1)))))), (ad (100 + 1), .inr (6, [.int (nI 1), .int q, .int a, .int b, .int o, .int 0, .int b, .int 117, .null, .int 0, .int (-1), .int q, .int (-1), .int 0, .int (-1), .int 0, .int 0, .int 0, .ref (ad (120 + 1)), .ref (ad (140 + 1))]))]) H := hP
    have hD : va_D A ([(ad 0, .inr (14, [.ref (ad 1), .int 1, .ref (ad 2), .ref (ad 3), .int 0, .ref (ad 4), .int 11, .int 0, .ref (ad 5), .ref (ad 7), .ref (ad 9), .ref (ad 13), .ref (ad 17)])), (ad 1, .inl (cy 4, 16, .inr (.inr (.inr (.inr (rw_ 1)))))), (ad (100 + 1), .inr (6, [.int (nI 1), .int q, .int a, .int b, .int o, .int 0, .int b, .int 117, .null, .int 0, .int (-1), .int q, .int (-1), .int 0, .int (-1), .int 0, .int 0, .int 0, .ref (ad (120 + 1)), .ref (ad (140 + 1))]))]) := hD
    refine lv_aload hx hb dX9_make_133 (lv_at hl 0 rfl) ?_
    refine lv_iload hx hb dX9_make_135 (lv_at hl 6 rfl) ?_
    refine va_putN (D := D) (ci := 6) (v := .int z) (ty := .int) (C := RX1) (T := TX1) (N := 20) hx hb hts iw_X9_make_RX1 tyX1 tyX1_ok nmX1 hown hK hP hD hS 2 rfl rfl 5 (by decide) (va_Nw.use rfl (hN.1 _ nf_36)) (fun _ h9 => h9) rfl (by decide +kernel) rfl rfl (Nat.le_of_ble_eq_true rfl) dX9_make_137 (fun H locs hP hD hS => ?_)
    have hP : va_P D vwCl ([(ad 0, .inr (14, [.ref (ad 1), .int 1, .ref (ad 2), .ref (ad 3), .int 0, .ref (ad 4), .int 11, .int 0, .ref (ad 5), .ref (ad 7), .ref (ad 9), .ref (ad 13), .ref (ad 17)])), (ad 1, .inl (cy 4, 16, .inr (.inr (.inr (.inr (rw_ 1)))))), (ad (100 + 1), .inr (6, [.int (nI 1), .int q, .int a, .int b, .int o, .int z, .int b, .int 117, .null, .int 0, .int (-1), .int q, .int (-1), .int 0, .int (-1), .int 0, .int 0, .int 0, .ref (ad (120 + 1)), .ref (ad (140 + 1))]))]) H := hP
    have hD : va_D A ([(ad 0, .inr (14, [.ref (ad 1), .int 1, .ref (ad 2), .ref (ad 3), .int 0, .ref (ad 4), .int 11, .int 0, .ref (ad 5), .ref (ad 7), .ref (ad 9), .ref (ad 13), .ref (ad 17)])), (ad 1, .inl (cy 4, 16, .inr (.inr (.inr (.inr (rw_ 1)))))), (ad (100 + 1), .inr (6, [.int (nI 1), .int q, .int a, .int b, .int o, .int z, .int b, .int 117, .null, .int 0, .int (-1), .int q, .int (-1), .int 0, .int (-1), .int 0, .int 0, .int 0, .ref (ad (120 + 1)), .ref (ad (140 + 1))]))]) := hD
    refine lv_aload_n hx hb dX9_make_140 rfl (lv_at hl 1 rfl) ?_
    refine lv_dup hx hb dX9_make_141 rfl ?_
    refine va_get (D := D) (ci := 14) (v := .int 1) (C := RX9) (T := TX9) (N := 13) hx hb hts iw_X9_make_RX9 hown hK hP 0 rfl rfl 1 (by decide) (hts (.fieldLink RX9 81 "Hubcascade" "deviceCount" "I") (by decide +kernel)) (fun _ h9 => h9) rfl dX9_make_142 ?_
    refine lv_iconst (v := 1) hx hb dX9_make_145 (by decide) ?_
    refine lv_iadd hx hb dX9_make_146 ?_
    refine lv_topi (fun y ey => ?_)
    obtain rfl : y = 2 := ey.trans (by decide)
    refine va_put (D := D) (ci := 14) (v := .int 2) (ty := .int) (C := RX9) (T := TX9) (N := 13) hx hb hts iw_X9_make_RX9 tyX9 tyX9_ok nmX9 hown hK hP hD hS 0 rfl rfl 1 (by decide) (hts (.fieldLink RX9 81 "Hubcascade" "deviceCount" "I") (by decide +kernel)) (fun _ h9 => h9) rfl (by decide +kernel) rfl rfl (Nat.le_of_ble_eq_true rfl) dX9_make_147 (fun H locs hP hD hS => ?_)
    have hP : va_P D vwCl ([(ad 0, .inr (14, [.ref (ad 1), .int 2, .ref (ad 2), .ref (ad 3), .int 0, .ref (ad 4), .int 11, .int 0, .ref (ad 5), .ref (ad 7), .ref (ad 9), .ref (ad 13), .ref (ad 17)])), (ad 1, .inl (cy 4, 16, .inr (.inr (.inr (.inr (rw_ 1)))))), (ad (100 + 1), .inr (6, [.int (nI 1), .int q, .int a, .int b, .int o, .int z, .int b, .int 117, .null, .int 0, .int (-1), .int q, .int (-1), .int 0, .int (-1), .int 0, .int 0, .int 0, .ref (ad (120 + 1)), .ref (ad (140 + 1))]))]) H := hP
    have hD : va_D A ([(ad 0, .inr (14, [.ref (ad 1), .int 2, .ref (ad 2), .ref (ad 3), .int 0, .ref (ad 4), .int 11, .int 0, .ref (ad 5), .ref (ad 7), .ref (ad 9), .ref (ad 13), .ref (ad 17)])), (ad 1, .inl (cy 4, 16, .inr (.inr (.inr (.inr (rw_ 1)))))), (ad (100 + 1), .inr (6, [.int (nI 1), .int q, .int a, .int b, .int o, .int z, .int b, .int 117, .null, .int 0, .int (-1), .int q, .int (-1), .int 0, .int (-1), .int 0, .int 0, .int 0, .ref (ad (120 + 1)), .ref (ad (140 + 1))]))]) := hD
    refine lv_aload hx hb dX9_make_150 (lv_at hl 0 rfl) ?_
    refine va_getN (D := D) (ci := 6) (v := .int (nI 1)) (C := RX1) (T := TX1) (N := 20) hx hb hts iw_X9_make_RX1 hown hK hP 2 rfl rfl 0 (by decide) (va_Nw.use rfl (hN.1 _ nf_31)) (fun _ h9 => h9) rfl dX9_make_152 ?_
    refine W.widen (k := 0) (n := 0) (Nat.le_of_ble_eq_true rfl) (Nat.le_of_ble_eq_true rfl) ?_
    exact W.iret hx hb hr (fun t ht hW => ⟨rfl, trivial, hS.F ht⟩) hS.2.2 dX9_make_155
  · refine lv_iload_n hx hb dX9_make_52 rfl (lv_at hl 2 rfl) ?_
    refine lv_if_le (tgt := 66) hx hb dX9_make_53 (by decide) (fun _ => ?_) (fun c => absurd (my_nlt0 (fun y => h5 ⟨c49, y⟩)) c)
    refine lv_aload_n hx hb dX9_make_66 rfl (lv_at hl 0 rfl) ?_
    refine va_get (D := D) (ci := 14) (v := .int 1) (C := RX9) (T := TX9) (N := 13) hx hb hts iw_X9_make_RX9 hown hK hP 0 rfl rfl 1 (by decide) (hts (.fieldLink RX9 81 "Hubcascade" "deviceCount" "I") (by decide +kernel)) (fun _ h9 => h9) rfl dX9_make_67 ?_
    refine lv_bipush (v := 16) hx hb dX9_make_70 (by decide) ?_
    refine lv_icmp_lt (tgt := 85) hx hb dX9_make_72 (by decide) (fun _ => ?_) (fun c => absurd (by decide) c)
    refine lv_aload_n hx hb dX9_make_85 rfl (lv_at hl 0 rfl) ?_
    refine va_get (D := D) (ci := 14) (v := .ref (ad 1)) (C := RX9) (T := TX9) (N := 13) hx hb hts iw_X9_make_RX9 hown hK hP 0 rfl rfl 0 (by decide) (hts (.fieldLink RX9 11 "Hubcascade" "devices" "[LHubcascade$Device;") (by decide +kernel)) (fun _ h9 => h9) rfl dX9_make_86 ?_
    refine lv_aload_n hx hb dX9_make_89 rfl (lv_at hl 0 rfl) ?_
    refine va_get (D := D) (ci := 14) (v := .int 1) (C := RX9) (T := TX9) (N := 13) hx hb hts iw_X9_make_RX9 hown hK hP 0 rfl rfl 1 (by decide) (hts (.fieldLink RX9 81 "Hubcascade" "deviceCount" "I") (by decide +kernel)) (fun _ h9 => h9) rfl dX9_make_90 ?_
    refine my_ald hx hb hK hP 1 4 rfl rfl (i := 1) (j := 1) (r := ad (100 + 1)) (by decide) (by decide) (by decide) hr1 dX9_make_93 ?_
    refine lv_astore (lv' := [(6, .ref (ad (100 + 1))), (0, .ref (ad 0)), (1, .int q), (2, .int a), (3, .int b), (4, .int o), (5, .int z)]) hx hb dX9_make_94 hl (by decide) rfl (fun ls hl => ?_)
    refine lv_aload hx hb dX9_make_96 (lv_at hl 0 rfl) ?_
    refine lv_iload_n hx hb dX9_make_98 rfl (lv_at hl 2 rfl) ?_
    refine va_putN (D := D) (ci := 6) (v := .int q) (ty := .char) (C := RX1) (T := TX1) (N := 20) hx hb hts iw_X9_make_RX1 tyX1 tyX1_ok nmX1 hown hK hP hD hS 2 rfl rfl 1 (by decide) (va_Nw.use rfl (hN.1 _ nf_32)) (fun _ h9 => h9) rfl (by decide +kernel) hnq hfq (Nat.le_of_ble_eq_true rfl) dX9_make_99 (fun H locs hP hD hS => ?_)
    have hP : va_P D vwCl ([(ad 0, .inr (14, [.ref (ad 1), .int 1, .ref (ad 2), .ref (ad 3), .int 0, .ref (ad 4), .int 11, .int 0, .ref (ad 5), .ref (ad 7), .ref (ad 9), .ref (ad 13), .ref (ad 17)])), (ad 1, .inl (cy 4, 16, .inr (.inr (.inr (.inr (rw_ 1)))))), (ad (100 + 1), .inr (6, [.int (nI 1), .int q, .int 0, .int 0, .int 0, .int 0, .int 0, .int 117, .null, .int 0, .int (-1), .int 104, .int (-1), .int 0, .int (-1), .int 0, .int 0, .int 0, .ref (ad (120 + 1)), .ref (ad (140 + 1))]))]) H := hP
    have hD : va_D A ([(ad 0, .inr (14, [.ref (ad 1), .int 1, .ref (ad 2), .ref (ad 3), .int 0, .ref (ad 4), .int 11, .int 0, .ref (ad 5), .ref (ad 7), .ref (ad 9), .ref (ad 13), .ref (ad 17)])), (ad 1, .inl (cy 4, 16, .inr (.inr (.inr (.inr (rw_ 1)))))), (ad (100 + 1), .inr (6, [.int (nI 1), .int q, .int 0, .int 0, .int 0, .int 0, .int 0, .int 117, .null, .int 0, .int (-1), .int 104, .int (-1), .int 0, .int (-1), .int 0, .int 0, .int 0, .ref (ad (120 + 1)), .ref (ad (140 + 1))]))]) := hD
    refine lv_aload hx hb dX9_make_102 (lv_at hl 0 rfl) ?_
    refine lv_iload_n hx hb dX9_make_104 rfl (lv_at hl 2 rfl) ?_
    refine va_putN (D := D) (ci := 6) (v := .int q) (ty := .char) (C := RX1) (T := TX1) (N := 20) hx hb hts iw_X9_make_RX1 tyX1 tyX1_ok nmX1 hown hK hP hD hS 2 rfl rfl 11 (by decide) (va_Nw.use rfl (hN.1 _ nf_42)) (fun _ h9 => h9) rfl (by decide +kernel) hnq hfq (Nat.le_of_ble_eq_true rfl) dX9_make_105 (fun H locs hP hD hS => ?_)
    have hP : va_P D vwCl ([(ad 0, .inr (14, [.ref (ad 1), .int 1, .ref (ad 2), .ref (ad 3), .int 0, .ref (ad 4), .int 11, .int 0, .ref (ad 5), .ref (ad 7), .ref (ad 9), .ref (ad 13), .ref (ad 17)])), (ad 1, .inl (cy 4, 16, .inr (.inr (.inr (.inr (rw_ 1)))))), (ad (100 + 1), .inr (6, [.int (nI 1), .int q, .int 0, .int 0, .int 0, .int 0, .int 0, .int 117, .null, .int 0, .int (-1), .int q, .int (-1), .int 0, .int (-1), .int 0, .int 0, .int 0, .ref (ad (120 + 1)), .ref (ad (140 + 1))]))]) H := hP
    have hD : va_D A ([(ad 0, .inr (14, [.ref (ad 1), .int 1, .ref (ad 2), .ref (ad 3), .int 0, .ref (ad 4), .int 11, .int 0, .ref (ad 5), .ref (ad 7), .ref (ad 9), .ref (ad 13), .ref (ad 17)])), (ad 1, .inl (cy 4, 16, .inr (.inr (.inr (.inr (rw_ 1)))))), (ad (100 + 1), .inr (6, [.int (nI 1), .int q, .int 0, .int 0, .int 0, .int 0, .int 0, .int 117, .null, .int 0, .int (-1), .int q, .int (-1), .int 0, .int (-1), .int 0, .int 0, .int 0, .ref (ad (120 + 1)), .ref (ad (140 + 1))]))]) := hD
    refine lv_aload hx hb dX9_make_108 (lv_at hl 0 rfl) ?_
    refine lv_iload_n hx hb dX9_make_110 rfl (lv_at hl 3 rfl) ?_
    refine va_putN (D := D) (ci := 6) (v := .int a) (ty := .int) (C := RX1) (T := TX1) (N := 20) hx hb hts iw_X9_make_RX1 tyX1 tyX1_ok nmX1 hown hK hP hD hS 2 rfl rfl 2 (by decide) (va_Nw.use rfl (hN.1 _ nf_33)) (fun _ h9 => h9) rfl (by decide +kernel) rfl rfl (Nat.le_of_ble_eq_true rfl) dX9_make_111 (fun H locs hP hD hS => ?_)
    have hP : va_P D vwCl ([(ad 0, .inr (14, [.ref (ad 1), .int 1, .ref (ad 2), .ref (ad 3), .int 0, .ref (ad 4), .int 11, .int 0, .ref (ad 5), .ref (ad 7), .ref (ad 9), .ref (ad 13), .ref (ad 17)])), (ad 1, .inl (cy 4, 16, .inr (.inr (.inr (.inr (rw_ 1)))))), (ad (100 + 1), .inr (6, [.int (nI 1), .int q, .int a, .int 0, .int 0, .int 0, .int 0, .int 117, .null, .int 0, .int (-1), .int q, .int (-1), .int 0, .int (-1), .int 0, .int 0, .int 0, .ref (ad (120 + 1)), .ref (ad (140 + 1))]))]) H := hP
    have hD : va_D A ([(ad 0, .inr (14, [.ref (ad 1), .int 1, .ref (ad 2), .ref (ad 3), .int 0, .ref (ad 4), .int 11, .int 0, .ref (ad 5), .ref (ad 7), .ref (ad 9), .ref (ad 13), .ref (ad 17)])), (ad 1, .inl (cy 4, 16, .inr (.inr (.inr (.inr (rw_ 1)))))), (ad (100 + 1), .inr (6, [.int (nI 1), .int q, .int a, .int 0, .int 0, .int 0, .int 0, .int 117, .null, .int 0, .int (-1), .int q, .int (-1), .int 0, .int (-1), .int 0, .int 0, .int 0, .ref (ad (120 + 1)), .ref (ad (140 + 1))]))]) := hD
    refine lv_aload hx hb dX9_make_114 (lv_at hl 0 rfl) ?_
    refine lv_iload_n hx hb dX9_make_116 rfl (lv_at hl 4 rfl) ?_
    refine va_putN (D := D) (ci := 6) (v := .int b) (ty := .int) (C := RX1) (T := TX1) (N := 20) hx hb hts iw_X9_make_RX1 tyX1 tyX1_ok nmX1 hown hK hP hD hS 2 rfl rfl 3 (by decide) (va_Nw.use rfl (hN.1 _ nf_34)) (fun _ h9 => h9) rfl (by decide +kernel) rfl rfl (Nat.le_of_ble_eq_true rfl) dX9_make_117 (fun H locs hP hD hS => ?_)
    have hP : va_P D vwCl ([(ad 0, .inr (14, [.ref (ad 1), .int 1, .ref (ad 2), .ref (ad 3), .int 0, .ref (ad 4), .int 11, .int 0, .ref (ad 5), .ref (ad 7), .ref (ad 9), .ref (ad 13), .ref (ad 17)])), (ad 1, .inl (cy 4, 16, .inr (.inr (.inr (.inr (rw_ 1)))))), (ad (100 + 1), .inr (6, [.int (nI 1), .int q, .int a, .int b, .int 0, .int 0, .int 0, .int 117, .null, .int 0, .int (-1), .int q, .int (-1), .int 0, .int (-1), .int 0, .int 0, .int 0, .ref (ad (120 + 1)), .ref (ad (140 + 1))]))]) H := hP
    have hD : va_D A ([(ad 0, .inr (14, [.ref (ad 1), .int 1, .ref (ad 2), .ref (ad 3), .int 0, .ref (ad 4), .int 11, .int 0, .ref (ad 5), .ref (ad 7), .ref (ad 9), .ref (ad 13), .ref (ad 17)])), (ad 1, .inl (cy 4, 16, .inr (.inr (.inr (.inr (rw_ 1)))))), (ad (100 + 1), .inr (6, [.int (nI 1), .int q, .int a, .int b, .int 0, .int 0, .int 0, .int 117, .null, .int 0, .int (-1), .int q, .int (-1), .int 0, .int (-1), .int 0, .int 0, .int 0, .ref (ad (120 + 1)), .ref (ad (140 + 1))]))]) := hD
    refine lv_aload hx hb dX9_make_120 (lv_at hl 0 rfl) ?_
    refine lv_iload_n hx hb dX9_make_122 rfl (lv_at hl 4 rfl) ?_
    refine va_putN (D := D) (ci := 6) (v := .int b) (ty := .int) (C := RX1) (T := TX1) (N := 20) hx hb hts iw_X9_make_RX1 tyX1 tyX1_ok nmX1 hown hK hP hD hS 2 rfl rfl 6 (by decide) (va_Nw.use rfl (hN.1 _ nf_37)) (fun _ h9 => h9) rfl (by decide +kernel) rfl rfl (Nat.le_of_ble_eq_true rfl) dX9_make_123 (fun H locs hP hD hS => ?_)
    have hP : va_P D vwCl ([(ad 0, .inr (14, [.ref (ad 1), .int 1, .ref (ad 2), .ref (ad 3), .int 0, .ref (ad 4), .int 11, .int 0, .ref (ad 5), .ref (ad 7), .ref (ad 9), .ref (ad 13), .ref (ad 17)])), (ad 1, .inl (cy 4, 16, .inr (.inr (.inr (.inr (rw_ 1)))))), (ad (100 + 1), .inr (6, [.int (nI 1), .int q, .int a, .int b, .int 0, .int 0, .int b, .int 117, .null, .int 0, .int (-1), .int q, .int (-1), .int 0, .int (-1), .int 0, .int 0, .int 0, .ref (ad (120 + 1)), .ref (ad (140 + 1))]))]) H := hP
    have hD : va_D A ([(ad 0, .inr (14, [.ref (ad 1), .int 1, .ref (ad 2), .ref (ad 3), .int 0, .ref (ad 4), .int 11, .int 0, .ref (ad 5), .ref (ad 7), .ref (ad 9), .ref (ad 13), .ref (ad 17)])), (ad 1, .inl (cy 4, 16, .inr (.inr (.inr (.inr (rw_ 1)))))), (ad (100 + 1), .inr (6, [.int (nI 1), .int q, .int a, .int b, .int 0, .int 0, .int b, .int 117, .null, .int 0, .int (-1), .int q, .int (-1), .int 0, .int (-1), .int 0, .int 0, .int 0, .ref (ad (120 + 1)), .ref (ad (140 + 1))]))]) := hD
    refine lv_aload hx hb dX9_make_126 (lv_at hl 0 rfl) ?_
    refine lv_iload hx hb dX9_make_128 (lv_at hl 5 rfl) ?_
    refine va_putN (D := D) (ci := 6) (v := .int o) (ty := .boolean) (C := RX1) (T := TX1) (N := 20) hx hb hts iw_X9_make_RX1 tyX1 tyX1_ok nmX1 hown hK hP hD hS 2 rfl rfl 4 (by decide) (va_Nw.use rfl (hN.1 _ nf_35)) (fun _ h9 => h9) rfl (by decide +kernel) hno hfo (Nat.le_of_ble_eq_true rfl) dX9_make_130 (fun H locs hP hD hS => ?_)
    have hP : va_P D vwCl ([(ad 0, .inr (14, [.ref (ad 1), .int 1, .ref (ad 2), .ref (ad 3), .int 0, .ref (ad 4), .int 11, .int 0, .ref (ad 5), .ref (ad 7), .ref (ad 9), .ref (ad 13), .ref (ad 17)])), (ad 1, .inl (cy 4, 16, .inr (.inr (.inr (.inr (rw_ 1)))))), (ad (100 + 1), .inr (6, [.int (nI 1), .int q, .int a, .int b, .int o, .int 0, .int b, .int 117, .null, .int 0, .int (-1), .int q, .int (-1), .int 0, .int (-1), .int 0, .int 0, .int 0, .ref (ad (120 + 1)), .ref (ad (140 + 1))]))]) H := hP
    have hD : va_D A ([(ad 0, .inr (14, [.ref (ad 1), .int 1, .ref (ad 2), .ref (ad 3), .int 0, .ref (ad 4), .int 11, .int 0, .ref (ad 5), .ref (ad 7), .ref (ad 9), .ref (ad 13), .ref (ad 17)])), (ad 1, .inl (cy 4, 16, .inr (.inr (.inr (.inr (rw_ 1)))))), (ad (100 + 1), .inr (6, [.int (nI 1), .int q, .int a, .int b, .int o, .int 0, .int b, .int 117, .null, .int 0, .int (-1), .int q, .int (-1), .int 0, .int (-1), .int 0, .int 0, .int 0, .ref (ad (120 + 1)), .ref (ad (140 + 1))]))]) := hD
    refine lv_aload hx hb dX9_make_133 (lv_at hl 0 rfl) ?_
    refine lv_iload hx hb dX9_make_135 (lv_at hl 6 rfl) ?_
    refine va_putN (D := D) (ci := 6) (v := .int z) (ty := .int) (C := RX1) (T := TX1) (N := 20) hx hb hts iw_X9_make_RX1 tyX1 tyX1_ok nmX1 hown hK hP hD hS 2 rfl rfl 5 (by decide) (va_Nw.use rfl (hN.1 _ nf_36)) (fun _ h9 => h9) rfl (by decide +kernel) rfl rfl (Nat.le_of_ble_eq_true rfl) dX9_make_137 (fun H locs hP hD hS => ?_)
    have hP : va_P D vwCl ([(ad 0, .inr (14, [.ref (ad 1), .int 1, .ref (ad 2), .ref (ad 3), .int 0, .ref (ad 4), .int 11, .int 0, .ref (ad 5), .ref (ad 7), .ref (ad 9), .ref (ad 13), .ref (ad 17)])), (ad 1, .inl (cy 4, 16, .inr (.inr (.inr (.inr (rw_ 1)))))), (ad (100 + 1), .inr (6, [.int (nI 1), .int q, .int a, .int b, .int o, .int z, .int b, .int 117, .null, .int 0, .int (-1), .int q, .int (-1), .int 0, .int (-1), .int 0, .int 0, .int 0, .ref (ad (120 + 1)), .ref (ad (140 + 1))]))]) H := hP
    have hD : va_D A ([(ad 0, .inr (14, [.ref (ad 1), .int 1, .ref (ad 2), .ref (ad 3), .int 0, .ref (ad 4), .int 11, .int 0, .ref (ad 5), .ref (ad 7), .ref (ad 9), .ref (ad 13), .ref (ad 17)])), (ad 1, .inl (cy 4, 16, .inr (.inr (.inr (.inr (rw_ 1)))))), (ad (100 + 1), .inr (6, [.int (nI 1), .int q, .int a, .int b, .int o, .int z, .int b, .int 117, .null, .int 0, .int (-1), .int q, .int (-1), .int 0, .int (-1), .int 0, .int 0, .int 0, .ref (ad (120 + 1)), .ref (ad (140 + 1))]))]) := hD
    refine lv_aload_n hx hb dX9_make_140 rfl (lv_at hl 1 rfl) ?_
    refine lv_dup hx hb dX9_make_141 rfl ?_
    refine va_get (D := D) (ci := 14) (v := .int 1) (C := RX9) (T := TX9) (N := 13) hx hb hts iw_X9_make_RX9 hown hK hP 0 rfl rfl 1 (by decide) (hts (.fieldLink RX9 81 "Hubcascade" "deviceCount" "I") (by decide +kernel)) (fun _ h9 => h9) rfl dX9_make_142 ?_
    refine lv_iconst (v := 1) hx hb dX9_make_145 (by decide) ?_
    refine lv_iadd hx hb dX9_make_146 ?_
    refine lv_topi (fun y ey => ?_)
    obtain rfl : y = 2 := ey.trans (by decide)
    refine va_put (D := D) (ci := 14) (v := .int 2) (ty := .int) (C := RX9) (T := TX9) (N := 13) hx hb hts iw_X9_make_RX9 tyX9 tyX9_ok nmX9 hown hK hP hD hS 0 rfl rfl 1 (by decide) (hts (.fieldLink RX9 81 "Hubcascade" "deviceCount" "I") (by decide +kernel)) (fun _ h9 => h9) rfl (by decide +kernel) rfl rfl (Nat.le_of_ble_eq_true rfl) dX9_make_147 (fun H locs hP hD hS => ?_)
    have hP : va_P D vwCl ([(ad 0, .inr (14, [.ref (ad 1), .int 2, .ref (ad 2), .ref (ad 3), .int 0, .ref (ad 4), .int 11, .int 0, .ref (ad 5), .ref (ad 7), .ref (ad 9), .ref (ad 13), .ref (ad 17)])), (ad 1, .inl (cy 4, 16, .inr (.inr (.inr (.inr (rw_ 1)))))), (ad (100 + 1), .inr (6, [.int (nI 1), .int q, .int a, .int b, .int o, .int z, .int b, .int 117, .null, .int 0, .int (-1), .int q, .int (-1), .int 0, .int (-1), .int 0, .int 0, .int 0, .ref (ad (120 + 1)), .ref (ad (140 + 1))]))]) H := hP
    have hD : va_D A ([(ad 0, .inr (14, [.ref (ad 1), .int 2, .ref (ad 2), .ref (ad 3), .int 0, .ref (ad 4), .int 11, .int 0, .ref (ad 5), .ref (ad 7), .ref (ad 9), .ref (ad 13), .ref (ad 17)])), (ad 1, .inl (cy 4, 16, .inr (.inr (.inr (.inr (rw_ 1)))))), (ad (100 + 1), .inr (6, [.int (nI 1), .int q, .int a, .int b, .int o, .int z, .int b, .int 117, .null, .int 0, .int (-1), .int q, .int (-1), .int 0, .int (-1), .int 0, .int 0, .int 0, .ref (ad (120 + 1)), .ref (ad (140 + 1))]))]) := hD
    refine lv_aload hx hb dX9_make_150 (lv_at hl 0 rfl) ?_
    refine va_getN (D := D) (ci := 6) (v := .int (nI 1)) (C := RX1) (T := TX1) (N := 20) hx hb hts iw_X9_make_RX1 hown hK hP 2 rfl rfl 0 (by decide) (va_Nw.use rfl (hN.1 _ nf_31)) (fun _ h9 => h9) rfl dX9_make_152 ?_
    refine W.widen (k := 0) (n := 0) (Nat.le_of_ble_eq_true rfl) (Nat.le_of_ble_eq_true rfl) ?_
    exact W.iret hx hb hr (fun t ht hW => ⟨rfl, trivial, hS.F ht⟩) hS.2.2 dX9_make_155
