abbrev WM (cy : Nat → ClassId) (am : Nat → Nat) (eda : Nat) (th : Int32) : va_W := [(am 0, .inr (19, [.int th, .ref (am 1), .ref (am 4), .ref (am 5), .ref (am 6), .ref (am 7), .ref (am 8), .int 0, .ref (am 9), .int 0, .int (-1), .int 100, .ref (am 10), .long 0, .int 0, .int 0, .int 0, .int 0, .long 0])), (am 1, .inr (4, [.int 1, .ref (am 2), .int 1])), (am 2, .inl (cy 10, 10, .inr (.inr (.inr (.inr (va_up (fun _ => none) 0 (some (am 3)))))))), (am 3, .inr (15, [.int 104, .int 4, .int 0, .int 1, .int 0, .int 0, .int 99, .int (-1), .int 0, .int 0, .int (-1), .int 0, .int 0, .ref (am 11), .ref (am 12), .ref (am 13)])), (am 4, .inl (cy 9, 12, .inr (.inr (.inr (.inr (fun _ => none)))))), (am 5, .inr (4, [.int 0, .ref eda, .int 0])), (am 6, .inr (4, [.int 0, .ref eda, .int 0])), (am 7, .inr (4, [.int 0, .ref eda, .int 0])), (am 8, .inl (cy 0, 0, .inl (fun _ => 0))), (am 9, .inr (4, [.int 0, .ref eda, .int 0])), (am 10, .inl (cy 0, 16, .inl (fun _ => 0))), (am 11, .inl (cy 8, 4, .inr (.inr (.inr (.inr (fun _ => none)))))), (am 12, .inl (cy 1, 4, .inl (fun _ => 0))), (am 13, .inl (cy 0, 4, .inl (fun _ => 0)))]

theorem my_ne0 {d : Int32} (h : ¬ d = 0) : d < 0 ∨ 0 < d := by
  rw [Int32.lt_iff_toInt_lt, Int32.lt_iff_toInt_lt]
  have h0 : ¬ d.toInt = 0 := fun e => h (Int32.toInt_inj.mp (by rw [e]; decide))
  have e0 : (0 : Int32).toInt = 0 := by decide
  omega
theorem my_lastout (n : Int32) : n < 0 ∨ (-1) < n := by
  rw [Int32.lt_iff_toInt_lt, Int32.lt_iff_toInt_lt]
  have e0 : (0 : Int32).toInt = 0 := by decide
  have e1 : (-1 : Int32).toInt = -1 := by decide
  omega

set_option maxRecDepth 100000 in
set_option maxHeartbeats 4000000 in
theorem c_pchk (l : Launch) (D : va_G) (cy : Nat → ClassId) (w : va_W) (i n : Int32) (h1 : ¬ i < 0) (h2 : i < n) : RO l D cy w yJ3_checkIndex_8e157 wsJ3_checkIndex_8e157 0 0 [.int i, .int n, .null] (some (.int i)) := by
  refine ro_ofW (cc := cJ3_checkIndex_8e157) (maxL := 3) (ret := (some .int)) (lv := [(0, .int i), (1, .int n), (2, .null)]) (by decide) rfl (Nat.le_of_ble_eq_true rfl) rfl ?_
  intro p e s m below meth c ls hx hb hr hml hown hlocks hname hts hv hl
  have hown : s.vm.findClass RJ3 = some m.cls := hown
  obtain ⟨hP, hK, hN⟩ := hv
  have hS : va_S (fun _ => False) s.heap s.heap [] := va_S.rf
  refine lv_iload_n hx hb dJ3_checkIndex_8e157_0 rfl (lv_at hl 0 rfl) ?_
  refine lv_if_lt (tgt := 9) hx hb dJ3_checkIndex_8e157_1 (by decide) (fun c => absurd c h1) (fun _ => ?_)
  refine lv_iload_n hx hb dJ3_checkIndex_8e157_4 rfl (lv_at hl 0 rfl) ?_
  refine lv_iload_n hx hb dJ3_checkIndex_8e157_5 rfl (lv_at hl 1 rfl) ?_
  refine lv_icmp_lt (tgt := 16) hx hb dJ3_checkIndex_8e157_6 (by decide) (fun _ => ?_) (fun c => absurd h2 c)
  refine lv_iload_n hx hb dJ3_checkIndex_8e157_16 rfl (lv_at hl 0 rfl) ?_
  exact W.iret hx hb hr (fun t ht hW => ⟨rfl, hS.F ht⟩) hS.2.2 dJ3_checkIndex_8e157_17

set_option maxRecDepth 100000 in
set_option maxHeartbeats 4000000 in
theorem c_ochk (l : Launch) (D : va_G) (cy : Nat → ClassId) (w : va_W) (i n : Int32) (h1 : ¬ i < 0) (h2 : i < n) : RO l D cy w yJ15_checkIndex_7cf53 wsJ15_checkIndex_7cf53 1 22 [.int i, .int n] (some (.int i)) := by
  refine ro_ofW (cc := cJ15_checkIndex_7cf53) (maxL := 2) (ret := (some .int)) (lv := [(0, .int i), (1, .int n)]) (by decide) rfl (Nat.le_of_ble_eq_true rfl) rfl ?_
  intro p e s m below meth c ls hx hb hr hml hown hlocks hname hts hv hl
  have hown : s.vm.findClass RJ15 = some m.cls := hown
  obtain ⟨hP, hK, hN⟩ := hv
  have hS : va_S (fun _ => False) s.heap s.heap [] := va_S.rf
  refine lv_iload_n hx hb dJ15_checkIndex_7cf53_0 rfl (lv_at hl 0 rfl) ?_
  refine lv_iload_n hx hb dJ15_checkIndex_7cf53_1 rfl (lv_at hl 1 rfl) ?_
  refine lv_null hx hb dJ15_checkIndex_7cf53_2 ?_
  refine ro_callS (As := [.int i, .int n, .null]) (rest := []) ⟨hx, hb, hml, hown, hts⟩ (c_pchk l D cy w i n h1 h2) (va_cwS 3 hts gJ15_checkIndex_7cf53_J3_checkIndex_8e157 rfl rfl rfl (by decide +kernel) ⟨by decide, by decide⟩) hK hN hP hS rfl hl.1 rfl (Nat.le_of_ble_eq_true rfl) dJ15_checkIndex_7cf53_3 ⟨Nat.le_of_ble_eq_true rfl, Nat.le_of_ble_eq_true rfl⟩ (fun H locs hP hS => ?_)
  exact W.iret hx hb hr (fun t ht hW => ⟨rfl, hS.F ht⟩) hS.2.2 dJ15_checkIndex_7cf53_6

set_option maxRecDepth 100000 in
set_option maxHeartbeats 4000000 in
theorem c_in_t (l : Launch) (D : va_G) (cy : Nat → ClassId) (w : va_W) (v a b : Int32) (h1 : ¬ v < a) (h2 : ¬ b < v) : RO l D cy w yX14_in wsX14_in 0 0 [.int v, .int a, .int b] (some (.int 1)) := by
  refine ro_ofW (cc := cX14_in) (maxL := 3) (ret := (some .boolean)) (lv := [(0, .int v), (1, .int a), (2, .int b)]) (by decide) rfl (Nat.le_of_ble_eq_true rfl) rfl ?_
  intro p e s m below meth c ls hx hb hr hml hown hlocks hname hts hv hl
  have hown : s.vm.findClass RX14 = some m.cls := hown
  obtain ⟨hP, hK, hN⟩ := hv
  have hS : va_S (fun _ => False) s.heap s.heap [] := va_S.rf
  refine lv_iload_n hx hb dX14_in_0 rfl (lv_at hl 0 rfl) ?_
  refine lv_iload_n hx hb dX14_in_1 rfl (lv_at hl 1 rfl) ?_
  refine lv_icmp_lt (tgt := 14) hx hb dX14_in_2 (by decide) (fun c => absurd c h1) (fun _ => ?_)
  refine lv_iload_n hx hb dX14_in_5 rfl (lv_at hl 0 rfl) ?_
  refine lv_iload_n hx hb dX14_in_6 rfl (lv_at hl 2 rfl) ?_
  refine lv_icmp_gt (tgt := 14) hx hb dX14_in_7 (by decide) (fun c => absurd c h2) (fun _ => ?_)
  refine lv_iconst (v := 1) hx hb dX14_in_10 (by decide) ?_
  refine lv_goto (tgt := 15) hx hb dX14_in_11 (by decide) ?_
  exact W.zret hx hb hr (by decide) (fun t ht hW => ⟨rfl, hS.F ht⟩) hS.2.2 dX14_in_15

set_option maxRecDepth 100000 in
set_option maxHeartbeats 4000000 in
theorem c_in_f (l : Launch) (D : va_G) (cy : Nat → ClassId) (w : va_W) (v a b : Int32) (h : v < a ∨ b < v) : RO l D cy w yX14_in wsX14_in 0 0 [.int v, .int a, .int b] (some (.int 0)) := by
  refine ro_ofW (cc := cX14_in) (maxL := 3) (ret := (some .boolean)) (lv := [(0, .int v), (1, .int a), (2, .int b)]) (by decide) rfl (Nat.le_of_ble_eq_true rfl) rfl ?_
  intro p e s m below meth c ls hx hb hr hml hown hlocks hname hts hv hl
  have hown : s.vm.findClass RX14 = some m.cls := hown
  obtain ⟨hP, hK, hN⟩ := hv
  have hS : va_S (fun _ => False) s.heap s.heap [] := va_S.rf
  refine lv_iload_n hx hb dX14_in_0 rfl (lv_at hl 0 rfl) ?_
  refine lv_iload_n hx hb dX14_in_1 rfl (lv_at hl 1 rfl) ?_
  refine lv_icmp_lt (tgt := 14) hx hb dX14_in_2 (by decide) (fun c2 => ?_) (fun c2 => ?_)
  · refine lv_iconst (v := 0) hx hb dX14_in_14 (by decide) ?_
    exact W.zret hx hb hr (by decide) (fun t ht hW => ⟨rfl, hS.F ht⟩) hS.2.2 dX14_in_15
  · refine lv_iload_n hx hb dX14_in_5 rfl (lv_at hl 0 rfl) ?_
    refine lv_iload_n hx hb dX14_in_6 rfl (lv_at hl 2 rfl) ?_
    refine lv_icmp_gt (tgt := 14) hx hb dX14_in_7 (by decide) (fun _ => ?_) (fun c => absurd (h.resolve_left c2) c)
    refine lv_iconst (v := 0) hx hb dX14_in_14 (by decide) ?_
    exact W.zret hx hb hr (by decide) (fun t ht hW => ⟨rfl, hS.F ht⟩) hS.2.2 dX14_in_15

theorem iw_Jx4a65c_size_8abf5_RJx4a65c : ∀ w ∈ u_ws RJx4a65c TJx4a65c 3, w ∈ wsJx4a65c_size_8abf5 := by decide +kernel
set_option maxRecDepth 100000 in
set_option maxHeartbeats 4000000 in
theorem c_size (l : Launch) (D : va_G) (cy : Nat → ClassId) (w : va_W) (k1 a1 e1 : Nat) (mc n1 : Int32) (h1 : w[k1]? = some (a1, .inr (4, [.int mc, .ref e1, .int n1]))) : RO l D cy w yJx4a65c_size_8abf5 wsJx4a65c_size_8abf5 0 0 [.ref a1] (some (.int n1)) := by
  refine ro_ofW (cc := cJx4a65c_size_8abf5) (maxL := 1) (ret := (some .int)) (lv := [(0, .ref a1)]) (by decide) rfl (Nat.le_of_ble_eq_true rfl) rfl ?_
  intro p e s m below meth c ls hx hb hr hml hown hlocks hname hts hv hl
  have hown : s.vm.findClass RJx4a65c = some m.cls := hown
  obtain ⟨hP, hK, hN⟩ := hv
  have hS : va_S (fun _ => False) s.heap s.heap [] := va_S.rf
  refine lv_aload_n hx hb dJx4a65c_size_8abf5_0 rfl (lv_at hl 0 rfl) ?_
  refine va_get (D := D) (ci := 4) (v := .int n1) (C := RJx4a65c) (T := TJx4a65c) (N := 3) hx hb hts iw_Jx4a65c_size_8abf5_RJx4a65c hown hK hP k1 h1 rfl 2 (by decide) (hts (.fieldLink RJx4a65c 48 "java/util/ArrayList" "size" "I") (by decide +kernel)) (fun _ h9 => h9) rfl dJx4a65c_size_8abf5_1 ?_
  exact W.iret hx hb hr (fun t ht hW => ⟨rfl, hS.F ht⟩) hS.2.2 dJx4a65c_size_8abf5_4

theorem iw_Jx4a65c_isEmpty_aae02_RJx4a65c : ∀ w ∈ u_ws RJx4a65c TJx4a65c 3, w ∈ wsJx4a65c_isEmpty_aae02 := by decide +kernel
set_option maxRecDepth 100000 in
set_option maxHeartbeats 4000000 in
theorem c_isEmpty0 (l : Launch) (D : va_G) (cy : Nat → ClassId) (w : va_W) (k1 a1 e1 : Nat) (mc n1 : Int32) (h1 : w[k1]? = some (a1, .inr (4, [.int mc, .ref e1, .int n1]))) (h0 : n1 = 0) : RO l D cy w yJx4a65c_isEmpty_aae02 wsJx4a65c_isEmpty_aae02 0 0 [.ref a1] (some (.int 1)) := by
  refine ro_ofW (cc := cJx4a65c_isEmpty_aae02) (maxL := 1) (ret := (some .boolean)) (lv := [(0, .ref a1)]) (by decide) rfl (Nat.le_of_ble_eq_true rfl) rfl ?_
  intro p e s m below meth c ls hx hb hr hml hown hlocks hname hts hv hl
  have hown : s.vm.findClass RJx4a65c = some m.cls := hown
  obtain ⟨hP, hK, hN⟩ := hv
  have hS : va_S (fun _ => False) s.heap s.heap [] := va_S.rf
  refine lv_aload_n hx hb dJx4a65c_isEmpty_aae02_0 rfl (lv_at hl 0 rfl) ?_
  refine va_get (D := D) (ci := 4) (v := .int n1) (C := RJx4a65c) (T := TJx4a65c) (N := 3) hx hb hts iw_Jx4a65c_isEmpty_aae02_RJx4a65c hown hK hP k1 h1 rfl 2 (by decide) (hts (.fieldLink RJx4a65c 48 "java/util/ArrayList" "size" "I") (by decide +kernel)) (fun _ h9 => h9) rfl dJx4a65c_isEmpty_aae02_1 ?_
  refine lv_if_ne (tgt := 11) hx hb dJx4a65c_isEmpty_aae02_4 (by decide) (fun c => absurd h0 c) (fun _ => ?_)
  refine lv_iconst (v := 1) hx hb dJx4a65c_isEmpty_aae02_7 (by decide) ?_
  refine lv_goto (tgt := 12) hx hb dJx4a65c_isEmpty_aae02_8 (by decide) ?_
  exact W.zret hx hb hr (by decide) (fun t ht hW => ⟨rfl, hS.F ht⟩) hS.2.2 dJx4a65c_isEmpty_aae02_12

theorem iw_Jx4a65c_elementData_915e3_RJx4a65c : ∀ w ∈ u_ws RJx4a65c TJx4a65c 3, w ∈ wsJx4a65c_elementData_915e3 := by decide +kernel
set_option maxRecDepth 100000 in
set_option maxHeartbeats 4000000 in
theorem c_edata0 (l : Launch) (D : va_G) (cy : Nat → ClassId) {am : Nat → Nat} {eda : Nat} {th : Int32} : RO l D cy (WM cy am eda th) yJx4a65c_elementData_915e3 wsJx4a65c_elementData_915e3 0 0 [.ref (am 1), .int 0] (some (.ref (am 3))) := by
  refine ro_ofW (cc := cJx4a65c_elementData_915e3) (maxL := 2) (ret := (some (.object "java/lang/Object"))) (lv := [(0, .ref (am 1)), (1, .int 0)]) (by decide) rfl (Nat.le_of_ble_eq_true rfl) rfl ?_
  intro p e s m below meth c ls hx hb hr hml hown hlocks hname hts hv hl
  have hown : s.vm.findClass RJx4a65c = some m.cls := hown
  obtain ⟨hP, hK, hN⟩ := hv
  have hS : va_S (fun _ => False) s.heap s.heap [] := va_S.rf
  refine lv_aload_n hx hb dJx4a65c_elementData_915e3_0 rfl (lv_at hl 0 rfl) ?_
  refine va_get (D := D) (ci := 4) (v := .ref (am 2)) (C := RJx4a65c) (T := TJx4a65c) (N := 3) hx hb hts iw_Jx4a65c_elementData_915e3_RJx4a65c hown hK hP 1 rfl rfl 1 (by decide) (hts (.fieldLink RJx4a65c 9 "java/util/ArrayList" "elementData" "[Ljava/lang/Object;") (by decide +kernel)) (fun _ h9 => h9) rfl dJx4a65c_elementData_915e3_1 ?_
  refine lv_iload_n hx hb dJx4a65c_elementData_915e3_4 rfl (lv_at hl 1 rfl) ?_
  refine my_ald hx hb hK hP 2 10 rfl rfl (i := 0) (j := 0) (r := am 3) (by decide) (by decide) (by decide) rfl dJx4a65c_elementData_915e3_5 ?_
  exact W.aret hx hb hr (Or.inl ⟨_, rfl⟩) (Or.inr ⟨_, rfl⟩) (fun t ht hW => ⟨rfl, hS.F ht⟩) hS.2.2 dJx4a65c_elementData_915e3_6

theorem iw_Jx4a65c_get_915e3_RJx4a65c : ∀ w ∈ u_ws RJx4a65c TJx4a65c 3, w ∈ wsJx4a65c_get_915e3 := by decide +kernel
set_option maxRecDepth 100000 in
set_option maxHeartbeats 4000000 in
theorem c_get0 (l : Launch) (D : va_G) (cy : Nat → ClassId) {am : Nat → Nat} {eda : Nat} {th : Int32} : RO l D cy (WM cy am eda th) yJx4a65c_get_915e3 wsJx4a65c_get_915e3 2 43 [.ref (am 1), .int 0] (some (.ref (am 3))) := by
  refine ro_ofW (cc := cJx4a65c_get_915e3) (maxL := 2) (ret := (some (.object "java/lang/Object"))) (lv := [(0, .ref (am 1)), (1, .int 0)]) (by decide) rfl (Nat.le_of_ble_eq_true rfl) rfl ?_
  intro p e s m below meth c ls hx hb hr hml hown hlocks hname hts hv hl
  have hown : s.vm.findClass RJx4a65c = some m.cls := hown
  obtain ⟨hP, hK, hN⟩ := hv
  have hS : va_S (fun _ => False) s.heap s.heap [] := va_S.rf
  refine lv_iload_n hx hb dJx4a65c_get_915e3_0 rfl (lv_at hl 1 rfl) ?_
  refine lv_aload_n hx hb dJx4a65c_get_915e3_1 rfl (lv_at hl 0 rfl) ?_
  refine va_get (D := D) (ci := 4) (v := .int 1) (C := RJx4a65c) (T := TJx4a65c) (N := 3) hx hb hts iw_Jx4a65c_get_915e3_RJx4a65c hown hK hP 1 rfl rfl 2 (by decide) (hts (.fieldLink RJx4a65c 48 "java/util/ArrayList" "size" "I") (by decide +kernel)) (fun _ h9 => h9) rfl dJx4a65c_get_915e3_2 ?_
  refine ro_callS (As := [.int 0, .int 1]) (rest := []) ⟨hx, hb, hml, hown, hts⟩ (c_ochk l D cy _ 0 1 (by decide) (by decide)) (va_cwS 2 hts gJx4a65c_get_915e3_J15_checkIndex_7cf53 rfl rfl rfl (by decide +kernel) ⟨by decide, by decide⟩) hK hN hP hS rfl hl.1 rfl (Nat.le_of_ble_eq_true rfl) dJx4a65c_get_915e3_5 ⟨Nat.le_of_ble_eq_true rfl, Nat.le_of_ble_eq_true rfl⟩ (fun H locs hP hS => ?_)
  refine lv_pop hx hb dJx4a65c_get_915e3_8 rfl ?_
  refine lv_aload_n hx hb dJx4a65c_get_915e3_9 rfl (lv_at hl 0 rfl) ?_
  refine lv_iload_n hx hb dJx4a65c_get_915e3_10 rfl (lv_at hl 1 rfl) ?_
  refine ro_callV (As := [.int 0]) (rest := []) ⟨hx, hb, hml, hown, hts⟩ (c_edata0 l D cy ) (cwV 1 hts gJx4a65c_get_915e3_Jx4a65c_elementData_915e3 rfl rfl rfl (by decide +kernel) ⟨by decide, by decide⟩) hK hN hP hS (ci := 4) (q0 := 1) rfl rfl rfl rfl hl.1 rfl (Nat.le_of_ble_eq_true rfl) dJx4a65c_get_915e3_11 ⟨Nat.le_of_ble_eq_true rfl, Nat.le_of_ble_eq_true rfl⟩ (fun H locs hP hS => ?_)
  exact W.aret hx hb hr (Or.inl ⟨_, rfl⟩) (Or.inr ⟨_, rfl⟩) (fun t ht hW => ⟨rfl, hS.F ht⟩) hS.2.2 dJx4a65c_get_915e3_14

theorem iw_X14_isDevice_RX14 : ∀ w ∈ u_ws RX14 TX14 19, w ∈ wsX14_isDevice := by decide +kernel
set_option maxRecDepth 100000 in
set_option maxHeartbeats 4000000 in
theorem c_isDevice0 (l : Launch) (D : va_G) (cy : Nat → ClassId) {am : Nat → Nat} {eda : Nat} {th : Int32} : RO l D cy (WM cy am eda th) yX14_isDevice wsX14_isDevice 1 22 [.ref (am 0), .int 0] (some (.int 1)) := by
  refine ro_ofW (cc := cX14_isDevice) (maxL := 2) (ret := (some .boolean)) (lv := [(0, .ref (am 0)), (1, .int 0)]) (by decide) rfl (Nat.le_of_ble_eq_true rfl) rfl ?_
  intro p e s m below meth c ls hx hb hr hml hown hlocks hname hts hv hl
  have hown : s.vm.findClass RX14 = some m.cls := hown
  obtain ⟨hP, hK, hN⟩ := hv
  have hS : va_S (fun _ => False) s.heap s.heap [] := va_S.rf
  refine lv_iload_n hx hb dX14_isDevice_0 rfl (lv_at hl 1 rfl) ?_
  refine lv_iconst (v := 0) hx hb dX14_isDevice_1 (by decide) ?_
  refine lv_aload_n hx hb dX14_isDevice_2 rfl (lv_at hl 0 rfl) ?_
  refine va_get (D := D) (ci := 19) (v := .ref (am 1)) (C := RX14) (T := TX14) (N := 19) hx hb hts iw_X14_isDevice_RX14 hown hK hP 0 rfl rfl 1 (by decide) (hts (.fieldLink RX14 10 "HubcascadeModel" "devices" "Ljava/util/ArrayList;") (by decide +kernel)) (fun _ h9 => h9) rfl dX14_isDevice_3 ?_
  refine ro_callV (As := []) (rest := [.int 0, .int 0]) ⟨hx, hb, hml, hown, hts⟩ (c_size l D cy _ 1 (am 1) (am 2) 1 1 rfl) (cwV 0 hts gX14_isDevice_Jx4a65c_size_8abf5 rfl rfl rfl (by decide +kernel) ⟨by decide, by decide⟩) hK hN hP hS (ci := 4) (q0 := 1) rfl rfl rfl rfl hl.1 rfl (Nat.le_of_ble_eq_true rfl) dX14_isDevice_6 ⟨Nat.le_of_ble_eq_true rfl, Nat.le_of_ble_eq_true rfl⟩ (fun H locs hP hS => ?_)
  refine lv_iconst (v := 1) hx hb dX14_isDevice_9 (by decide) ?_
  refine lv_isub hx hb dX14_isDevice_10 ?_
  refine lv_topi (fun y ey => ?_)
  obtain rfl : y = 0 := ey.trans (by decide)
  refine ro_callS (As := [.int 0, .int 0, .int 0]) (rest := []) ⟨hx, hb, hml, hown, hts⟩ (c_in_t l D cy _ 0 0 0 (by decide) (by decide)) (va_cwS 3 hts gX14_isDevice_X14_in rfl rfl rfl (by decide +kernel) ⟨by decide, by decide⟩) hK hN hP hS rfl hl.1 rfl (Nat.le_of_ble_eq_true rfl) dX14_isDevice_11 ⟨Nat.le_of_ble_eq_true rfl, Nat.le_of_ble_eq_true rfl⟩ (fun H locs hP hS => ?_)
  exact W.zret hx hb hr (by decide) (fun t ht hW => ⟨rfl, hS.F ht⟩) hS.2.2 dX14_isDevice_14

set_option maxRecDepth 100000 in
set_option maxHeartbeats 4000000 in
theorem c_isDeviceX (l : Launch) (D : va_G) (cy : Nat → ClassId) {am : Nat → Nat} {eda : Nat} {th : Int32} (d : Int32) (hd : ¬ d = 0) : RO l D cy (WM cy am eda th) yX14_isDevice wsX14_isDevice 1 22 [.ref (am 0), .int d] (some (.int 0)) := by
  refine ro_ofW (cc := cX14_isDevice) (maxL := 2) (ret := (some .boolean)) (lv := [(0, .ref (am 0)), (1, .int d)]) (by decide) rfl (Nat.le_of_ble_eq_true rfl) rfl ?_
  intro p e s m below meth c ls hx hb hr hml hown hlocks hname hts hv hl
  have hown : s.vm.findClass RX14 = some m.cls := hown
  obtain ⟨hP, hK, hN⟩ := hv
  have hS : va_S (fun _ => False) s.heap s.heap [] := va_S.rf
  refine lv_iload_n hx hb dX14_isDevice_0 rfl (lv_at hl 1 rfl) ?_
  refine lv_iconst (v := 0) hx hb dX14_isDevice_1 (by decide) ?_
  refine lv_aload_n hx hb dX14_isDevice_2 rfl (lv_at hl 0 rfl) ?_
  refine va_get (D := D) (ci := 19) (v := .ref (am 1)) (C := RX14) (T := TX14) (N := 19) hx hb hts iw_X14_isDevice_RX14 hown hK hP 0 rfl rfl 1 (by decide) (hts (.fieldLink RX14 10 "HubcascadeModel" "devices" "Ljava/util/ArrayList;") (by decide +kernel)) (fun _ h9 => h9) rfl dX14_isDevice_3 ?_
  refine ro_callV (As := []) (rest := [.int 0, .int d]) ⟨hx, hb, hml, hown, hts⟩ (c_size l D cy _ 1 (am 1) (am 2) 1 1 rfl) (cwV 0 hts gX14_isDevice_Jx4a65c_size_8abf5 rfl rfl rfl (by decide +kernel) ⟨by decide, by decide⟩) hK hN hP hS (ci := 4) (q0 := 1) rfl rfl rfl rfl hl.1 rfl (Nat.le_of_ble_eq_true rfl) dX14_isDevice_6 ⟨Nat.le_of_ble_eq_true rfl, Nat.le_of_ble_eq_true rfl⟩ (fun H locs hP hS => ?_)
  refine lv_iconst (v := 1) hx hb dX14_isDevice_9 (by decide) ?_
  refine lv_isub hx hb dX14_isDevice_10 ?_
  refine lv_topi (fun y ey => ?_)
  obtain rfl : y = 0 := ey.trans (by decide)
  refine ro_callS (As := [.int d, .int 0, .int 0]) (rest := []) ⟨hx, hb, hml, hown, hts⟩ (c_in_f l D cy _ _ _ _ (my_ne0 hd)) (va_cwS 3 hts gX14_isDevice_X14_in rfl rfl rfl (by decide +kernel) ⟨by decide, by decide⟩) hK hN hP hS rfl hl.1 rfl (Nat.le_of_ble_eq_true rfl) dX14_isDevice_11 ⟨Nat.le_of_ble_eq_true rfl, Nat.le_of_ble_eq_true rfl⟩ (fun H locs hP hS => ?_)
  exact W.zret hx hb hr (by decide) (fun t ht hW => ⟨rfl, hS.F ht⟩) hS.2.2 dX14_isDevice_14

theorem iw_X14_isPlugged_RX10 : ∀ w ∈ u_ws RX10 TX10 16, w ∈ wsX14_isPlugged := by decide +kernel
theorem iw_X14_isPlugged_RX14 : ∀ w ∈ u_ws RX14 TX14 19, w ∈ wsX14_isPlugged := by decide +kernel
set_option maxRecDepth 100000 in
set_option maxHeartbeats 4000000 in
theorem c_isPlugged0 (l : Launch) (D : va_G) (cy : Nat → ClassId) {am : Nat → Nat} {eda : Nat} {th : Int32} : RO l D cy (WM cy am eda th) yX14_isPlugged wsX14_isPlugged 3 64 [.ref (am 0), .int 0] (some (.int 1)) := by
  refine ro_ofW (cc := cX14_isPlugged) (maxL := 2) (ret := (some .boolean)) (lv := [(0, .ref (am 0)), (1, .int 0)]) (by decide) rfl (Nat.le_of_ble_eq_true rfl) rfl ?_
  intro p e s m below meth c ls hx hb hr hml hown hlocks hname hts hv hl
  have hown : s.vm.findClass RX14 = some m.cls := hown
  obtain ⟨hP, hK, hN⟩ := hv
  have hS : va_S (fun _ => False) s.heap s.heap [] := va_S.rf
  refine lv_aload_n hx hb dX14_isPlugged_0 rfl (lv_at hl 0 rfl) ?_
  refine va_get (D := D) (ci := 19) (v := .ref (am 1)) (C := RX14) (T := TX14) (N := 19) hx hb hts iw_X14_isPlugged_RX14 hown hK hP 0 rfl rfl 1 (by decide) (hts (.fieldLink RX14 10 "HubcascadeModel" "devices" "Ljava/util/ArrayList;") (by decide +kernel)) (fun _ h9 => h9) rfl dX14_isPlugged_1 ?_
  refine lv_iload_n hx hb dX14_isPlugged_4 rfl (lv_at hl 1 rfl) ?_
  refine ro_callV (As := [.int 0]) (rest := []) ⟨hx, hb, hml, hown, hts⟩ (c_get0 l D cy ) (cwV 1 hts gX14_isPlugged_Jx4a65c_get_915e3 rfl rfl rfl (by decide +kernel) ⟨by decide, by decide⟩) hK hN hP hS (ci := 4) (q0 := 1) rfl rfl rfl rfl hl.1 rfl (Nat.le_of_ble_eq_true rfl) dX14_isPlugged_5 ⟨Nat.le_of_ble_eq_true rfl, Nat.le_of_ble_eq_true rfl⟩ (fun H locs hP hS => ?_)
  refine va_castY hx hb hown (hts (.classLink RX14 48 "HubcascadeModel$Device") (by decide +kernel)) (hN.2.2 ("HubcascadeModel$Device", "HubcascadeModel$Device") (by decide +kernel)) (va_recv hK hP (ci := 15) (q0 := 3) rfl rfl) dX14_isPlugged_8 ?_
  refine va_getN (D := D) (ci := 15) (v := .int 99) (C := RX10) (T := TX10) (N := 16) hx hb hts iw_X14_isPlugged_RX10 hown hK hP 3 rfl rfl 6 (by decide) (va_Nw.use rfl (hN.1 _ nf_83)) (fun _ h9 => h9) rfl dX14_isPlugged_11 ?_
  refine lv_bipush (v := 117) hx hb dX14_isPlugged_14 (by decide) ?_
  refine lv_icmp_eq (tgt := 23) hx hb dX14_isPlugged_16 (by decide) (fun c => absurd c (by decide)) (fun _ => ?_)
  refine lv_iconst (v := 1) hx hb dX14_isPlugged_19 (by decide) ?_
  refine lv_goto (tgt := 24) hx hb dX14_isPlugged_20 (by decide) ?_
  exact W.zret hx hb hr (by decide) (fun t ht hW => ⟨rfl, hS.F ht⟩) hS.2.2 dX14_isPlugged_24

theorem iw_X14_depth_RX10 : ∀ w ∈ u_ws RX10 TX10 16, w ∈ wsX14_depth := by decide +kernel
theorem iw_X14_depth_RX14 : ∀ w ∈ u_ws RX14 TX14 19, w ∈ wsX14_depth := by decide +kernel
set_option maxRecDepth 100000 in
set_option maxHeartbeats 4000000 in
theorem c_depth0 (l : Launch) (D : va_G) (cy : Nat → ClassId) {am : Nat → Nat} {eda : Nat} {th : Int32} : RO l D cy (WM cy am eda th) yX14_depth wsX14_depth 3 64 [.ref (am 0), .int 0] (some (.int 0)) := by
  refine ro_ofW (cc := cX14_depth) (maxL := 4) (ret := (some .int)) (lv := [(0, .ref (am 0)), (1, .int 0)]) (by decide) rfl (Nat.le_of_ble_eq_true rfl) rfl ?_
  intro p e s m below meth c ls hx hb hr hml hown hlocks hname hts hv hl
  have hown : s.vm.findClass RX14 = some m.cls := hown
  obtain ⟨hP, hK, hN⟩ := hv
  have hS : va_S (fun _ => False) s.heap s.heap [] := va_S.rf
  refine lv_iconst (v := 0) hx hb dX14_depth_0 (by decide) ?_
  refine lv_istore_n (lv' := [(2, .int 0), (0, .ref (am 0)), (1, .int 0)]) hx hb dX14_depth_1 rfl hl (by decide) rfl (fun ls hl => ?_)
  refine lv_iload_n hx hb dX14_depth_2 rfl (lv_at hl 2 rfl) ?_
  refine lv_istore_n (lv' := [(3, .int 0), (2, .int 0), (0, .ref (am 0)), (1, .int 0)]) hx hb dX14_depth_3 rfl hl (by decide) rfl (fun ls hl => ?_)
  refine lv_aload_n hx hb dX14_depth_4 rfl (lv_at hl 2 rfl) ?_
  refine va_get (D := D) (ci := 19) (v := .ref (am 1)) (C := RX14) (T := TX14) (N := 19) hx hb hts iw_X14_depth_RX14 hown hK hP 0 rfl rfl 1 (by decide) (hts (.fieldLink RX14 10 "HubcascadeModel" "devices" "Ljava/util/ArrayList;") (by decide +kernel)) (fun _ h9 => h9) rfl dX14_depth_5 ?_
  refine lv_iload_n hx hb dX14_depth_8 rfl (lv_at hl 0 rfl) ?_
  refine ro_callV (As := [.int 0]) (rest := []) ⟨hx, hb, hml, hown, hts⟩ (c_get0 l D cy ) (cwV 1 hts gX14_depth_Jx4a65c_get_915e3 rfl rfl rfl (by decide +kernel) ⟨by decide, by decide⟩) hK hN hP hS (ci := 4) (q0 := 1) rfl rfl rfl rfl hl.1 rfl (Nat.le_of_ble_eq_true rfl) dX14_depth_9 ⟨Nat.le_of_ble_eq_true rfl, Nat.le_of_ble_eq_true rfl⟩ (fun H locs hP hS => ?_)
  refine va_castY hx hb hown (hts (.classLink RX14 48 "HubcascadeModel$Device") (by decide +kernel)) (hN.2.2 ("HubcascadeModel$Device", "HubcascadeModel$Device") (by decide +kernel)) (va_recv hK hP (ci := 15) (q0 := 3) rfl rfl) dX14_depth_12 ?_
  refine va_getN (D := D) (ci := 15) (v := .int (-1)) (C := RX10) (T := TX10) (N := 16) hx hb hts iw_X14_depth_RX10 hown hK hP 3 rfl rfl 7 (by decide) (va_Nw.use rfl (hN.1 _ nf_84)) (fun _ h9 => h9) rfl dX14_depth_15 ?_
  refine lv_iconst (v := (-1)) hx hb dX14_depth_18 (by decide) ?_
  refine lv_icmp_eq (tgt := 43) hx hb dX14_depth_19 (by decide) (fun _ => ?_) (fun c => absurd (by decide) c)
  refine lv_iload_n hx hb dX14_depth_43 rfl (lv_at hl 1 rfl) ?_
  exact W.iret hx hb hr (fun t ht hW => ⟨rfl, hS.F ht⟩) hS.2.2 dX14_depth_44

theorem iw_X14_runs_RX10 : ∀ w ∈ u_ws RX10 TX10 16, w ∈ wsX14_runs := by decide +kernel
theorem iw_X14_runs_RX14 : ∀ w ∈ u_ws RX14 TX14 19, w ∈ wsX14_runs := by decide +kernel
set_option maxRecDepth 100000 in
set_option maxHeartbeats 4000000 in
theorem c_runs0 (l : Launch) (D : va_G) (cy : Nat → ClassId) {am : Nat → Nat} {eda : Nat} {th : Int32} : RO l D cy (WM cy am eda th) yX14_runs wsX14_runs 3 64 [.ref (am 0), .int 0] (some (.int 104)) := by
  refine ro_ofW (cc := cX14_runs) (maxL := 5) (ret := (some .char)) (lv := [(0, .ref (am 0)), (1, .int 0)]) (by decide) rfl (Nat.le_of_ble_eq_true rfl) rfl ?_
  intro p e s m below meth c ls hx hb hr hml hown hlocks hname hts hv hl
  have hown : s.vm.findClass RX14 = some m.cls := hown
  obtain ⟨hP, hK, hN⟩ := hv
  have hS : va_S (fun _ => False) s.heap s.heap [] := va_S.rf
  refine lv_bipush (v := 104) hx hb dX14_runs_0 (by decide) ?_
  refine lv_istore_n (lv' := [(2, .int 104), (0, .ref (am 0)), (1, .int 0)]) hx hb dX14_runs_2 rfl hl (by decide) rfl (fun ls hl => ?_)
  refine lv_iload_n hx hb dX14_runs_3 rfl (lv_at hl 2 rfl) ?_
  refine lv_istore_n (lv' := [(3, .int 0), (2, .int 104), (0, .ref (am 0)), (1, .int 0)]) hx hb dX14_runs_4 rfl hl (by decide) rfl (fun ls hl => ?_)
  refine lv_iload_n hx hb dX14_runs_5 rfl (lv_at hl 0 rfl) ?_
  refine lv_iconst (v := (-1)) hx hb dX14_runs_6 (by decide) ?_
  refine lv_icmp_eq (tgt := 76) hx hb dX14_runs_7 (by decide) (fun c => absurd c (by decide)) (fun _ => ?_)
  refine lv_aload_n hx hb dX14_runs_10 rfl (lv_at hl 2 rfl) ?_
  refine va_get (D := D) (ci := 19) (v := .ref (am 1)) (C := RX14) (T := TX14) (N := 19) hx hb hts iw_X14_runs_RX14 hown hK hP 0 rfl rfl 1 (by decide) (hts (.fieldLink RX14 10 "HubcascadeModel" "devices" "Ljava/util/ArrayList;") (by decide +kernel)) (fun _ h9 => h9) rfl dX14_runs_11 ?_
  refine lv_iload_n hx hb dX14_runs_14 rfl (lv_at hl 0 rfl) ?_
  refine ro_callV (As := [.int 0]) (rest := []) ⟨hx, hb, hml, hown, hts⟩ (c_get0 l D cy ) (cwV 1 hts gX14_runs_Jx4a65c_get_915e3 rfl rfl rfl (by decide +kernel) ⟨by decide, by decide⟩) hK hN hP hS (ci := 4) (q0 := 1) rfl rfl rfl rfl hl.1 rfl (Nat.le_of_ble_eq_true rfl) dX14_runs_15 ⟨Nat.le_of_ble_eq_true rfl, Nat.le_of_ble_eq_true rfl⟩ (fun H locs hP hS => ?_)
  refine va_castY hx hb hown (hts (.classLink RX14 48 "HubcascadeModel$Device") (by decide +kernel)) (hN.2.2 ("HubcascadeModel$Device", "HubcascadeModel$Device") (by decide +kernel)) (va_recv hK hP (ci := 15) (q0 := 3) rfl rfl) dX14_runs_18 ?_
  refine va_getN (D := D) (ci := 15) (v := .int 104) (C := RX10) (T := TX10) (N := 16) hx hb hts iw_X14_runs_RX10 hown hK hP 3 rfl rfl 0 (by decide) (va_Nw.use rfl (hN.1 _ nf_77)) (fun _ h9 => h9) rfl dX14_runs_21 ?_
  refine lv_istore (lv' := [(4, .int 104), (3, .int 0), (2, .int 104), (0, .ref (am 0)), (1, .int 0)]) hx hb dX14_runs_24 hl (by decide) rfl (fun ls hl => ?_)
  refine lv_iload hx hb dX14_runs_26 (lv_at hl 0 rfl) ?_
  refine lv_bipush (v := 108) hx hb dX14_runs_28 (by decide) ?_
  refine lv_icmp_eq (tgt := 39) hx hb dX14_runs_30 (by decide) (fun c => absurd c (by decide)) (fun _ => ?_)
  refine lv_iload_n hx hb dX14_runs_33 rfl (lv_at hl 2 rfl) ?_
  refine lv_bipush (v := 108) hx hb dX14_runs_34 (by decide) ?_
  refine lv_icmp_ne (tgt := 44) hx hb dX14_runs_36 (by decide) (fun _ => ?_) (fun c => absurd c (by decide))
  refine lv_iload hx hb dX14_runs_44 (lv_at hl 0 rfl) ?_
  refine lv_bipush (v := 102) hx hb dX14_runs_46 (by decide) ?_
  refine lv_icmp_ne (tgt := 56) hx hb dX14_runs_48 (by decide) (fun _ => ?_) (fun c => absurd c (by decide))
  refine lv_iload_n hx hb dX14_runs_56 rfl (lv_at hl 2 rfl) ?_
  refine lv_istore_n (lv' := [(2, .int 104), (4, .int 104), (3, .int 0), (0, .ref (am 0)), (1, .int 0)]) hx hb dX14_runs_57 rfl hl (by decide) rfl (fun ls hl => ?_)
  refine lv_aload_n hx hb dX14_runs_58 rfl (lv_at hl 3 rfl) ?_
  refine va_get (D := D) (ci := 19) (v := .ref (am 1)) (C := RX14) (T := TX14) (N := 19) hx hb hts iw_X14_runs_RX14 hown hK hP 0 rfl rfl 1 (by decide) (hts (.fieldLink RX14 10 "HubcascadeModel" "devices" "Ljava/util/ArrayList;") (by decide +kernel)) (fun _ h9 => h9) rfl dX14_runs_59 ?_
  refine lv_iload_n hx hb dX14_runs_62 rfl (lv_at hl 2 rfl) ?_
  refine ro_callV (As := [.int 0]) (rest := []) ⟨hx, hb, hml, hown, hts⟩ (c_get0 l D cy ) (cwV 1 hts gX14_runs_Jx4a65c_get_915e3 rfl rfl rfl (by decide +kernel) ⟨by decide, by decide⟩) hK hN hP hS (ci := 4) (q0 := 1) rfl rfl rfl rfl hl.1 rfl (Nat.le_of_ble_eq_true rfl) dX14_runs_63 ⟨Nat.le_of_ble_eq_true rfl, Nat.le_of_ble_eq_true rfl⟩ (fun H locs hP hS => ?_)
  refine va_castY hx hb hown (hts (.classLink RX14 48 "HubcascadeModel$Device") (by decide +kernel)) (hN.2.2 ("HubcascadeModel$Device", "HubcascadeModel$Device") (by decide +kernel)) (va_recv hK hP (ci := 15) (q0 := 3) rfl rfl) dX14_runs_66 ?_
  refine va_getN (D := D) (ci := 15) (v := .int (-1)) (C := RX10) (T := TX10) (N := 16) hx hb hts iw_X14_runs_RX10 hown hK hP 3 rfl rfl 7 (by decide) (va_Nw.use rfl (hN.1 _ nf_84)) (fun _ h9 => h9) rfl dX14_runs_69 ?_
  refine lv_istore_n (lv' := [(3, .int (-1)), (2, .int 104), (4, .int 104), (0, .ref (am 0)), (1, .int 0)]) hx hb dX14_runs_72 rfl hl (by decide) rfl (fun ls hl => ?_)
  refine lv_goto (tgt := 5) hx hb dX14_runs_73 (by decide) ?_
  refine lv_iload_n hx hb dX14_runs_5 rfl (lv_at hl 0 rfl) ?_
  refine lv_iconst (v := (-1)) hx hb dX14_runs_6 (by decide) ?_
  refine lv_icmp_eq (tgt := 76) hx hb dX14_runs_7 (by decide) (fun _ => ?_) (fun c => absurd (by decide) c)
  refine lv_iload_n hx hb dX14_runs_76 rfl (lv_at hl 1 rfl) ?_
  exact W.zret hx hb hr (by decide) (fun t ht hW => ⟨rfl, hS.F ht⟩) hS.2.2 dX14_runs_77

theorem iw_X14_isEnd_RX10 : ∀ w ∈ u_ws RX10 TX10 16, w ∈ wsX14_isEnd := by decide +kernel
theorem iw_X14_isEnd_RX14 : ∀ w ∈ u_ws RX14 TX14 19, w ∈ wsX14_isEnd := by decide +kernel
set_option maxRecDepth 100000 in
set_option maxHeartbeats 4000000 in
theorem c_isEnd (l : Launch) (D : va_G) (cy : Nat → ClassId) {am : Nat → Nat} {eda : Nat} {th : Int32} (d n : Int32) : RO l D cy (WM cy am eda th) yX14_isEnd wsX14_isEnd 3 64 [.ref (am 0), .int d, .int n] (some (.int 0)) := by
  refine ro_ofW (cc := cX14_isEnd) (maxL := 3) (ret := (some .boolean)) (lv := [(0, .ref (am 0)), (1, .int d), (2, .int n)]) (by decide) rfl (Nat.le_of_ble_eq_true rfl) rfl ?_
  intro p e s m below meth c ls hx hb hr hml hown hlocks hname hts hv hl
  have hown : s.vm.findClass RX14 = some m.cls := hown
  obtain ⟨hP, hK, hN⟩ := hv
  have hS : va_S (fun _ => False) s.heap s.heap [] := va_S.rf
  refine lv_aload_n hx hb dX14_isEnd_0 rfl (lv_at hl 0 rfl) ?_
  refine lv_iload_n hx hb dX14_isEnd_1 rfl (lv_at hl 1 rfl) ?_
  by_cases hd : d = 0
  · subst hd
    refine ro_callV (As := [.int 0]) (rest := []) ⟨hx, hb, hml, hown, hts⟩ (c_isDevice0 l D cy ) (cwV 1 hts gX14_isEnd_X14_isDevice rfl rfl rfl (by decide +kernel) ⟨by decide, by decide⟩) hK hN hP hS (ci := 19) (q0 := 0) rfl rfl rfl rfl hl.1 rfl (Nat.le_of_ble_eq_true rfl) dX14_isEnd_2 ⟨Nat.le_of_ble_eq_true rfl, Nat.le_of_ble_eq_true rfl⟩ (fun H locs hP hS => ?_)
    refine lv_if_eq (tgt := 40) hx hb dX14_isEnd_5 (by decide) (fun c => absurd c (by decide)) (fun _ => ?_)
    refine lv_iload_n hx hb dX14_isEnd_8 rfl (lv_at hl 2 rfl) ?_
    refine lv_iconst (v := 1) hx hb dX14_isEnd_9 (by decide) ?_
    refine lv_iconst (v := 3) hx hb dX14_isEnd_10 (by decide) ?_
    by_cases hw : (¬ n < 1 ∧ ¬ 3 < n)
    · obtain ⟨j, hj, rfl⟩ := my_r13 hw
      refine ro_callS (As := [.int (nI (j + 1)), .int 1, .int 3]) (rest := []) ⟨hx, hb, hml, hown, hts⟩ (c_in_t l D cy _ _ _ _ hw.1 hw.2) (va_cwS 3 hts gX14_isEnd_X14_in rfl rfl rfl (by decide +kernel) ⟨by decide, by decide⟩) hK hN hP hS rfl hl.1 rfl (Nat.le_of_ble_eq_true rfl) dX14_isEnd_11 ⟨Nat.le_of_ble_eq_true rfl, Nat.le_of_ble_eq_true rfl⟩ (fun H locs hP hS => ?_)
      refine lv_if_eq (tgt := 40) hx hb dX14_isEnd_14 (by decide) (fun c => absurd c (by decide)) (fun _ => ?_)
      refine lv_aload_n hx hb dX14_isEnd_17 rfl (lv_at hl 0 rfl) ?_
      refine va_get (D := D) (ci := 19) (v := .ref (am 1)) (C := RX14) (T := TX14) (N := 19) hx hb hts iw_X14_isEnd_RX14 hown hK hP 0 rfl rfl 1 (by decide) (hts (.fieldLink RX14 10 "HubcascadeModel" "devices" "Ljava/util/ArrayList;") (by decide +kernel)) (fun _ h9 => h9) rfl dX14_isEnd_18 ?_
      refine lv_iload_n hx hb dX14_isEnd_21 rfl (lv_at hl 1 rfl) ?_
      refine ro_callV (As := [.int 0]) (rest := []) ⟨hx, hb, hml, hown, hts⟩ (c_get0 l D cy ) (cwV 1 hts gX14_isEnd_Jx4a65c_get_915e3 rfl rfl rfl (by decide +kernel) ⟨by decide, by decide⟩) hK hN hP hS (ci := 4) (q0 := 1) rfl rfl rfl rfl hl.1 rfl (Nat.le_of_ble_eq_true rfl) dX14_isEnd_22 ⟨Nat.le_of_ble_eq_true rfl, Nat.le_of_ble_eq_true rfl⟩ (fun H locs hP hS => ?_)
      refine va_castY hx hb hown (hts (.classLink RX14 48 "HubcascadeModel$Device") (by decide +kernel)) (hN.2.2 ("HubcascadeModel$Device", "HubcascadeModel$Device") (by decide +kernel)) (va_recv hK hP (ci := 15) (q0 := 3) rfl rfl) dX14_isEnd_25 ?_
      refine va_getN (D := D) (ci := 15) (v := .ref (am 11)) (C := RX10) (T := TX10) (N := 16) hx hb hts iw_X14_isEnd_RX10 hown hK hP 3 rfl rfl 13 (by decide) (va_Nw.use rfl (hN.1 _ nf_90)) (fun _ h9 => h9) rfl dX14_isEnd_28 ?_
      refine lv_iload_n hx hb dX14_isEnd_31 rfl (lv_at hl 2 rfl) ?_
      refine my_aldN hx hb hK hP 11 8 rfl rfl (i := nI (j + 1)) (j := (j + 1)) rfl (by omega) (by decide) rfl dX14_isEnd_32 ?_
      refine lv_ifnullN (tgt := 40) hx hb dX14_isEnd_33 (by decide) ?_
      refine lv_iconst (v := 0) hx hb dX14_isEnd_40 (by decide) ?_
      exact W.zret hx hb hr (by decide) (fun t ht hW => ⟨rfl, hS.F ht⟩) hS.2.2 dX14_isEnd_41
    · refine ro_callS (As := [.int n, .int 1, .int 3]) (rest := []) ⟨hx, hb, hml, hown, hts⟩ (c_in_f l D cy _ _ _ _ (my_out hw)) (va_cwS 3 hts gX14_isEnd_X14_in rfl rfl rfl (by decide +kernel) ⟨by decide, by decide⟩) hK hN hP hS rfl hl.1 rfl (Nat.le_of_ble_eq_true rfl) dX14_isEnd_11 ⟨Nat.le_of_ble_eq_true rfl, Nat.le_of_ble_eq_true rfl⟩ (fun H locs hP hS => ?_)
      refine lv_if_eq (tgt := 40) hx hb dX14_isEnd_14 (by decide) (fun _ => ?_) (fun c => absurd (by decide) c)
      refine lv_iconst (v := 0) hx hb dX14_isEnd_40 (by decide) ?_
      exact W.zret hx hb hr (by decide) (fun t ht hW => ⟨rfl, hS.F ht⟩) hS.2.2 dX14_isEnd_41
  · refine ro_callV (As := [.int d]) (rest := []) ⟨hx, hb, hml, hown, hts⟩ (c_isDeviceX l D cy d hd) (cwV 1 hts gX14_isEnd_X14_isDevice rfl rfl rfl (by decide +kernel) ⟨by decide, by decide⟩) hK hN hP hS (ci := 19) (q0 := 0) rfl rfl rfl rfl hl.1 rfl (Nat.le_of_ble_eq_true rfl) dX14_isEnd_2 ⟨Nat.le_of_ble_eq_true rfl, Nat.le_of_ble_eq_true rfl⟩ (fun H locs hP hS => ?_)
    refine lv_if_eq (tgt := 40) hx hb dX14_isEnd_5 (by decide) (fun _ => ?_) (fun c => absurd (by decide) c)
    refine lv_iconst (v := 0) hx hb dX14_isEnd_40 (by decide) ?_
    exact W.zret hx hb hr (by decide) (fun t ht hW => ⟨rfl, hS.F ht⟩) hS.2.2 dX14_isEnd_41

set_option maxRecDepth 100000 in
set_option maxHeartbeats 4000000 in
theorem c_isOther (l : Launch) (D : va_G) (cy : Nat → ClassId) {am : Nat → Nat} {eda : Nat} {th : Int32} (d : Int32) : RO l D cy (WM cy am eda th) yX14_isOther wsX14_isOther 2 43 [.ref (am 0), .int d] (some (.int 0)) := by
  refine ro_ofW (cc := cX14_isOther) (maxL := 2) (ret := (some .boolean)) (lv := [(0, .ref (am 0)), (1, .int d)]) (by decide) rfl (Nat.le_of_ble_eq_true rfl) rfl ?_
  intro p e s m below meth c ls hx hb hr hml hown hlocks hname hts hv hl
  have hown : s.vm.findClass RX14 = some m.cls := hown
  obtain ⟨hP, hK, hN⟩ := hv
  have hS : va_S (fun _ => False) s.heap s.heap [] := va_S.rf
  refine lv_iload_n hx hb dX14_isOther_0 rfl (lv_at hl 1 rfl) ?_
  refine lv_if_eq (tgt := 16) hx hb dX14_isOther_1 (by decide) (fun c1 => ?_) (fun c1 => ?_)
  · refine lv_iconst (v := 0) hx hb dX14_isOther_16 (by decide) ?_
    exact W.zret hx hb hr (by decide) (fun t ht hW => ⟨rfl, hS.F ht⟩) hS.2.2 dX14_isOther_17
  · refine lv_aload_n hx hb dX14_isOther_4 rfl (lv_at hl 0 rfl) ?_
    refine lv_iload_n hx hb dX14_isOther_5 rfl (lv_at hl 1 rfl) ?_
    refine ro_callV (As := [.int d]) (rest := []) ⟨hx, hb, hml, hown, hts⟩ (c_isDeviceX l D cy d c1) (cwV 1 hts gX14_isOther_X14_isDevice rfl rfl rfl (by decide +kernel) ⟨by decide, by decide⟩) hK hN hP hS (ci := 19) (q0 := 0) rfl rfl rfl rfl hl.1 rfl (Nat.le_of_ble_eq_true rfl) dX14_isOther_6 ⟨Nat.le_of_ble_eq_true rfl, Nat.le_of_ble_eq_true rfl⟩ (fun H locs hP hS => ?_)
    refine lv_if_eq (tgt := 16) hx hb dX14_isOther_9 (by decide) (fun _ => ?_) (fun c => absurd (by decide) c)
    refine lv_iconst (v := 0) hx hb dX14_isOther_16 (by decide) ?_
    exact W.zret hx hb hr (by decide) (fun t ht hW => ⟨rfl, hS.F ht⟩) hS.2.2 dX14_isOther_17

theorem iw_X14_reservedIn_RX14 : ∀ w ∈ u_ws RX14 TX14 19, w ∈ wsX14_reservedIn := by decide +kernel
set_option maxRecDepth 100000 in
set_option maxHeartbeats 4000000 in
theorem c_resIn (l : Launch) (D : va_G) (cy : Nat → ClassId) {am : Nat → Nat} {eda : Nat} {th : Int32} (a b : Int32) : RO l D cy (WM cy am eda th) yX14_reservedIn wsX14_reservedIn 0 0 [.ref (am 0), .int a, .int b] (some (.int 0)) := by
  refine ro_ofW (cc := cX14_reservedIn) (maxL := 10) (ret := (some .int)) (lv := [(0, .ref (am 0)), (1, .int a), (2, .int b)]) (by decide) rfl (Nat.le_of_ble_eq_true rfl) rfl ?_
  intro p e s m below meth c ls hx hb hr hml hown hlocks hname hts hv hl
  have hown : s.vm.findClass RX14 = some m.cls := hown
  obtain ⟨hP, hK, hN⟩ := hv
  have hS : va_S (fun _ => False) s.heap s.heap [] := va_S.rf
  refine lv_iconst (v := 0) hx hb dX14_reservedIn_0 (by decide) ?_
  refine lv_istore_n (lv' := [(3, .int 0), (0, .ref (am 0)), (1, .int a), (2, .int b)]) hx hb dX14_reservedIn_1 rfl hl (by decide) rfl (fun ls hl => ?_)
  refine lv_aload_n hx hb dX14_reservedIn_2 rfl (lv_at hl 1 rfl) ?_
  refine va_get (D := D) (ci := 19) (v := .ref (am 4)) (C := RX14) (T := TX14) (N := 19) hx hb hts iw_X14_reservedIn_RX14 hown hK hP 0 rfl rfl 2 (by decide) (hts (.fieldLink RX14 18 "HubcascadeModel" "pipes" "[LHubcascadeModel$Pipe;") (by decide +kernel)) (fun _ h9 => h9) rfl dX14_reservedIn_3 ?_
  refine lv_astore (lv' := [(4, .ref (am 4)), (3, .int 0), (0, .ref (am 0)), (1, .int a), (2, .int b)]) hx hb dX14_reservedIn_6 hl (by decide) rfl (fun ls hl => ?_)
  refine lv_aload hx hb dX14_reservedIn_8 (lv_at hl 0 rfl) ?_
  refine va_alen (v := 12) hx hb hK hP 4 9 rfl rfl (by decide) dX14_reservedIn_10 ?_
  refine lv_istore (lv' := [(5, .int 12), (4, .ref (am 4)), (3, .int 0), (0, .ref (am 0)), (1, .int a), (2, .int b)]) hx hb dX14_reservedIn_11 hl (by decide) rfl (fun ls hl => ?_)
  refine lv_iconst (v := 0) hx hb dX14_reservedIn_13 (by decide) ?_
  refine lv_istore (lv' := [(6, .int 0), (5, .int 12), (4, .ref (am 4)), (3, .int 0), (0, .ref (am 0)), (1, .int a), (2, .int b)]) hx hb dX14_reservedIn_14 hl (by decide) rfl (fun ls hl => ?_)
  refine ro_loop (w := WM cy am eda th) 12 0 (fun i => [(6, .int (nI i)), (5, .int 12), (4, .ref (am 4)), (3, .int 0), (0, .ref (am 0)), (1, .int a), (2, .int b)]) ?_ (by decide) hP hS (lv_sub hl [0, 1, 2, 3, 4, 5, 6] rfl)
  intro i hi0 hi ih_i H locs ls hP hS hl
  refine lv_iload hx hb dX14_reservedIn_16 (lv_at hl 0 rfl) ?_
  refine lv_iload hx hb dX14_reservedIn_18 (lv_at hl 1 rfl) ?_
  refine lv_icmp_ge (tgt := 167) hx hb dX14_reservedIn_20 (by decide) (fun c20 => ?_) (fun c20 => ?_)
  · obtain rfl : i = 12 := my_exit (N := 12) (by decide) (by decide) hi c20
    refine lv_iload_n hx hb dX14_reservedIn_167 rfl (lv_at hl 3 rfl) ?_
    exact W.iret hx hb hr (fun t ht hW => ⟨rfl, hS.F ht⟩) hS.2.2 dX14_reservedIn_168
  · have hi : i < 12 := my_cont (N := 12) (by decide) (by decide) hi c20
    refine lv_aload hx hb dX14_reservedIn_23 (lv_at hl 2 rfl) ?_
    refine lv_iload hx hb dX14_reservedIn_25 (lv_at hl 0 rfl) ?_
    refine my_aldN hx hb hK hP 4 9 rfl rfl (i := nI i) (j := i) rfl hi (by decide) rfl dX14_reservedIn_27 ?_
    refine lv_astoreN (lv' := [(7, .null), (6, .int (nI i)), (5, .int 12), (4, .ref (am 4)), (3, .int 0), (0, .ref (am 0)), (1, .int a), (2, .int b)]) hx hb dX14_reservedIn_28 hl (by decide) rfl (fun ls hl => ?_)
    refine lv_aloadN hx hb dX14_reservedIn_30 (lv_at hl 0 rfl) ?_
    refine lv_ifnullN (tgt := 161) hx hb dX14_reservedIn_32 (by decide) ?_
    refine lv_iinc (v := nI (i + 1)) (lv' := [(6, .int (nI (i + 1))), (7, .null), (5, .int 12), (4, .ref (am 4)), (3, .int 0), (0, .ref (am 0)), (1, .int a), (2, .int b)]) hx hb dX14_reservedIn_161 hl (k := 1) rfl (nI_1 _) (by decide) rfl (fun ls hl => ?_)
    refine lv_goto (tgt := 16) hx hb dX14_reservedIn_164 (by decide) ?_
    exact ih_i hi _ _ _ hP hS (lv_sub hl [0, 2, 3, 4, 5, 6, 7] rfl)

set_option maxRecDepth 100000 in
set_option maxHeartbeats 4000000 in
theorem c_check5 (l : Launch) (D : va_G) (cy : Nat → ClassId) (w : va_W) (a b : Int32) : RO l D cy w yX14_check wsX14_check 0 0 [.int a, .int b, .int 5, .int 5] (some (.int (ck5 a b))) := by
  refine ro_ofW (cc := cX14_check) (maxL := 6) (ret := (some .int)) (lv := [(0, .int a), (1, .int b), (2, .int 5), (3, .int 5)]) (by decide) rfl (Nat.le_of_ble_eq_true rfl) rfl ?_
  intro p e s m below meth c ls hx hb hr hml hown hlocks hname hts hv hl
  have hown : s.vm.findClass RX14 = some m.cls := hown
  obtain ⟨hP, hK, hN⟩ := hv
  have hS : va_S (fun _ => False) s.heap s.heap [] := va_S.rf
  refine lv_iload_n hx hb dX14_check_0 rfl (lv_at hl 0 rfl) ?_
  refine lv_iload_n hx hb dX14_check_1 rfl (lv_at hl 2 rfl) ?_
  refine lv_iconst (v := 1) hx hb dX14_check_2 (by decide) ?_
  refine lv_isub hx hb dX14_check_3 ?_
  refine lv_topi (fun y ey => ?_)
  obtain rfl : y = 4 := ey.trans (by decide)
  refine lv_ishr hx hb dX14_check_4 ?_
  refine lv_topi (fun y ey => ?_)
  obtain rfl : y = a >>> ((4 : Int32) &&& 31) := ey.trans rfl
  refine lv_iconst (v := 1) hx hb dX14_check_5 (by decide) ?_
  refine lv_iand hx hb dX14_check_6 ?_
  refine lv_topi (fun y ey => ?_)
  obtain rfl : y = (a >>> ((4 : Int32) &&& 31)) &&& 1 := ey.trans rfl
  refine lv_istore (lv' := [(4, .int ((a >>> ((4 : Int32) &&& 31)) &&& 1)), (0, .int a), (1, .int b), (2, .int 5), (3, .int 5)]) hx hb dX14_check_7 hl (by decide) rfl (fun ls hl => ?_)
  refine lv_iload_n hx hb dX14_check_9 rfl (lv_at hl 1 rfl) ?_
  refine lv_iconst (v := 1) hx hb dX14_check_10 (by decide) ?_
  refine lv_ishl hx hb dX14_check_11 ?_
  refine lv_topi (fun y ey => ?_)
  obtain rfl : y = a <<< ((1 : Int32) &&& 31) := ey.trans rfl
  refine lv_iconst (v := 1) hx hb dX14_check_12 (by decide) ?_
  refine lv_iload_n hx hb dX14_check_13 rfl (lv_at hl 3 rfl) ?_
  refine lv_ishl hx hb dX14_check_14 ?_
  refine lv_topi (fun y ey => ?_)
  obtain rfl : y = 32 := ey.trans (by decide)
  refine lv_iconst (v := 1) hx hb dX14_check_15 (by decide) ?_
  refine lv_isub hx hb dX14_check_16 ?_
  refine lv_topi (fun y ey => ?_)
  obtain rfl : y = 31 := ey.trans (by decide)
  refine lv_iand hx hb dX14_check_17 ?_
  refine lv_topi (fun y ey => ?_)
  obtain rfl : y = (a <<< ((1 : Int32) &&& 31)) &&& 31 := ey.trans rfl
  refine lv_istore (lv' := [(5, .int ((a <<< ((1 : Int32) &&& 31)) &&& 31)), (4, .int ((a >>> ((4 : Int32) &&& 31)) &&& 1)), (0, .int a), (1, .int b), (2, .int 5), (3, .int 5)]) hx hb dX14_check_18 hl (by decide) rfl (fun ls hl => ?_)
  refine lv_iload hx hb dX14_check_20 (lv_at hl 1 rfl) ?_
  refine lv_iload_n hx hb dX14_check_22 rfl (lv_at hl 3 rfl) ?_
  refine lv_icmp_ne (tgt := 31) hx hb dX14_check_23 (by decide) (fun c23 => ?_) (fun c23 => ?_)
  · refine lv_iload hx hb dX14_check_31 (lv_at hl 0 rfl) ?_
    refine lv_iload_n hx hb dX14_check_33 rfl (lv_at hl 5 rfl) ?_
    refine lv_ixor hx hb dX14_check_34 ?_
    refine lv_topi (fun y ey => ?_)
    obtain rfl : y = ((a <<< ((1 : Int32) &&& 31)) &&& 31) ^^^ 5 := ey.trans rfl
    rw [show (((a <<< ((1 : Int32) &&& 31)) &&& 31) ^^^ 5) = (ck5 a b) from (by unfold ck5; first | rw [if_neg c23] | rw [if_pos c23])]
    exact W.iret hx hb hr (fun t ht hW => ⟨rfl, hS.F ht⟩) hS.2.2 dX14_check_35
  · refine lv_iload hx hb dX14_check_26 (lv_at hl 0 rfl) ?_
    refine lv_goto (tgt := 35) hx hb dX14_check_28 (by decide) ?_
    rw [show ((a <<< ((1 : Int32) &&& 31)) &&& 31) = (ck5 a b) from (by unfold ck5; first | rw [if_neg c23] | rw [if_pos c23])]
    exact W.iret hx hb hr (fun t ht hW => ⟨rfl, hS.F ht⟩) hS.2.2 dX14_check_35

theorem iw_X14_noDevice_RX14 : ∀ w ∈ u_ws RX14 TX14 19, w ∈ wsX14_noDevice := by decide +kernel
set_option maxRecDepth 100000 in
set_option maxHeartbeats 4000000 in
theorem m_noDevice0 (l : Launch) (D : va_G) (cy : Nat → ClassId) {am : Nat → Nat} {eda : Nat} {th : Int32} (sz : Nat) : ME l D cy (WM cy am eda th) sz yX14_noDevice wsX14_noDevice 2 0 0 43 [.ref (am 0), .int 0] (some (.int 0)) (fun H => va_P D vwCl (WM cy am eda 0) H ∧ va_D (va_A (WM cy am eda th) sz) (WM cy am eda 0)) := by
  refine ro_ofW (cc := cX14_noDevice) (maxL := 2) (ret := (some .boolean)) (lv := [(0, .ref (am 0)), (1, .int 0)]) (by decide) rfl (Nat.le_of_ble_eq_true rfl) rfl ?_
  intro p e s m below meth c ls hx hb hr hml hown hlocks hname hts hv hl
  have hown : s.vm.findClass RX14 = some m.cls := hown
  obtain ⟨⟨hsz, hP, hD0⟩, hK, hN⟩ := hv
  subst hsz
  have hD := hD0.self (sz := s.heap.size)
  generalize hAe : va_A (WM cy am eda th) s.heap.size = A at hD ⊢
  have hA : ∀ q : Nat, s.heap.size ≤ q → A q := fun q h => by rw [← hAe]; exact Or.inr h
  have hS : va_S A s.heap s.heap [] := va_S.rf
  refine lv_aload_n hx hb dX14_noDevice_0 rfl (lv_at hl 0 rfl) ?_
  refine lv_aload_n hx hb dX14_noDevice_1 rfl (lv_at hl 0 rfl) ?_
  refine lv_iload_n hx hb dX14_noDevice_2 rfl (lv_at hl 1 rfl) ?_
  refine ro_callV (As := [.int 0]) (rest := [.ref (am 0)]) ⟨hx, hb, hml, hown, hts⟩ (c_isDevice0 l D cy ) (cwV 1 hts gX14_noDevice_X14_isDevice rfl rfl rfl (by decide +kernel) ⟨by decide, by decide⟩) hK hN hP hS (ci := 19) (q0 := 0) rfl rfl rfl rfl hl.1 rfl (Nat.le_of_ble_eq_true rfl) dX14_noDevice_3 ⟨Nat.le_of_ble_eq_true rfl, Nat.le_of_ble_eq_true rfl⟩ (fun H locs hP hS => ?_)
  refine lv_if_eq (tgt := 13) hx hb dX14_noDevice_6 (by decide) (fun c => absurd c (by decide)) (fun _ => ?_)
  refine lv_iconst (v := 0) hx hb dX14_noDevice_9 (by decide) ?_
  refine lv_goto (tgt := 14) hx hb dX14_noDevice_10 (by decide) ?_
  refine va_put (D := D) (ci := 19) (v := .int 0) (ty := .int) (C := RX14) (T := TX14) (N := 19) hx hb hts iw_X14_noDevice_RX14 tyX14 tyX14_ok nmX14 hown hK hP hD hS 0 rfl rfl 0 (by decide) (hts (.fieldLink RX14 61 "HubcascadeModel" "thrown" "I") (by decide +kernel)) (fun _ h9 => h9) rfl (by decide +kernel) rfl rfl (Nat.le_of_ble_eq_true rfl) dX14_noDevice_14 (fun H locs hP hD hS => ?_)
  have hP : va_P D vwCl (WM cy am eda 0) H := hP
  have hD : va_D A (WM cy am eda 0) := hD
  refine lv_aload_n hx hb dX14_noDevice_17 rfl (lv_at hl 0 rfl) ?_
  refine va_get (D := D) (ci := 19) (v := .int 0) (C := RX14) (T := TX14) (N := 19) hx hb hts iw_X14_noDevice_RX14 hown hK hP 0 rfl rfl 0 (by decide) (hts (.fieldLink RX14 61 "HubcascadeModel" "thrown" "I") (by decide +kernel)) (fun _ h9 => h9) rfl dX14_noDevice_18 ?_
  refine lv_if_le (tgt := 28) hx hb dX14_noDevice_21 (by decide) (fun _ => ?_) (fun c => absurd (by decide) c)
  refine lv_iconst (v := 0) hx hb dX14_noDevice_28 (by decide) ?_
  refine W.widen (k := 0) (n := 0) (Nat.le_of_ble_eq_true rfl) (Nat.le_of_ble_eq_true rfl) ?_
  have hP9 := hP.sub (ws' := WM cy am eda 0) [0, 1, 2, 3, 4, 5, 6, 7, 8, 9, 10, 11, 12, 13] rfl
  have hD9 := hD.sub (ws' := WM cy am eda 0) [0, 1, 2, 3, 4, 5, 6, 7, 8, 9, 10, 11, 12, 13] (by decide) rfl
  exact W.zret hx hb hr (by decide) (fun t ht hW => ⟨rfl, ⟨by rw [ht]; exact hP9, hD9⟩, hS.F ht⟩) hS.2.2 dX14_noDevice_29

set_option maxRecDepth 100000 in
set_option maxHeartbeats 4000000 in
theorem m_noDeviceX (l : Launch) (D : va_G) (cy : Nat → ClassId) {am : Nat → Nat} {eda : Nat} {th : Int32} (sz : Nat) (d : Int32) (hd : ¬ d = 0) : ME l D cy (WM cy am eda th) sz yX14_noDevice wsX14_noDevice 2 0 0 43 [.ref (am 0), .int d] (some (.int 1)) (fun H => va_P D vwCl (WM cy am eda 1) H ∧ va_D (va_A (WM cy am eda th) sz) (WM cy am eda 1)) := by
  refine ro_ofW (cc := cX14_noDevice) (maxL := 2) (ret := (some .boolean)) (lv := [(0, .ref (am 0)), (1, .int d)]) (by decide) rfl (Nat.le_of_ble_eq_true rfl) rfl ?_
  intro p e s m below meth c ls hx hb hr hml hown hlocks hname hts hv hl
  have hown : s.vm.findClass RX14 = some m.cls := hown
  obtain ⟨⟨hsz, hP, hD0⟩, hK, hN⟩ := hv
  subst hsz
  have hD := hD0.self (sz := s.heap.size)
  generalize hAe : va_A (WM cy am eda th) s.heap.size = A at hD ⊢
  have hA : ∀ q : Nat, s.heap.size ≤ q → A q := fun q h => by rw [← hAe]; exact Or.inr h
  have hS : va_S A s.heap s.heap [] := va_S.rf
  refine lv_aload_n hx hb dX14_noDevice_0 rfl (lv_at hl 0 rfl) ?_
  refine lv_aload_n hx hb dX14_noDevice_1 rfl (lv_at hl 0 rfl) ?_
  refine lv_iload_n hx hb dX14_noDevice_2 rfl (lv_at hl 1 rfl) ?_
  refine ro_callV (As := [.int d]) (rest := [.ref (am 0)]) ⟨hx, hb, hml, hown, hts⟩ (c_isDeviceX l D cy d hd) (cwV 1 hts gX14_noDevice_X14_isDevice rfl rfl rfl (by decide +kernel) ⟨by decide, by decide⟩) hK hN hP hS (ci := 19) (q0 := 0) rfl rfl rfl rfl hl.1 rfl (Nat.le_of_ble_eq_true rfl) dX14_noDevice_3 ⟨Nat.le_of_ble_eq_true rfl, Nat.le_of_ble_eq_true rfl⟩ (fun H locs hP hS => ?_)
  refine lv_if_eq (tgt := 13) hx hb dX14_noDevice_6 (by decide) (fun _ => ?_) (fun c => absurd (by decide) c)
  refine lv_iconst (v := 1) hx hb dX14_noDevice_13 (by decide) ?_
  refine va_put (D := D) (ci := 19) (v := .int 1) (ty := .int) (C := RX14) (T := TX14) (N := 19) hx hb hts iw_X14_noDevice_RX14 tyX14 tyX14_ok nmX14 hown hK hP hD hS 0 rfl rfl 0 (by decide) (hts (.fieldLink RX14 61 "HubcascadeModel" "thrown" "I") (by decide +kernel)) (fun _ h9 => h9) rfl (by decide +kernel) rfl rfl (Nat.le_of_ble_eq_true rfl) dX14_noDevice_14 (fun H locs hP hD hS => ?_)
  have hP : va_P D vwCl (WM cy am eda 1) H := hP
  have hD : va_D A (WM cy am eda 1) := hD
  refine lv_aload_n hx hb dX14_noDevice_17 rfl (lv_at hl 0 rfl) ?_
  refine va_get (D := D) (ci := 19) (v := .int 1) (C := RX14) (T := TX14) (N := 19) hx hb hts iw_X14_noDevice_RX14 hown hK hP 0 rfl rfl 0 (by decide) (hts (.fieldLink RX14 61 "HubcascadeModel" "thrown" "I") (by decide +kernel)) (fun _ h9 => h9) rfl dX14_noDevice_18 ?_
  refine lv_if_le (tgt := 28) hx hb dX14_noDevice_21 (by decide) (fun c => absurd c (by decide)) (fun _ => ?_)
  refine lv_iconst (v := 1) hx hb dX14_noDevice_24 (by decide) ?_
  refine lv_goto (tgt := 29) hx hb dX14_noDevice_25 (by decide) ?_
  refine W.widen (k := 0) (n := 0) (Nat.le_of_ble_eq_true rfl) (Nat.le_of_ble_eq_true rfl) ?_
  have hP9 := hP.sub (ws' := WM cy am eda 1) [0, 1, 2, 3, 4, 5, 6, 7, 8, 9, 10, 11, 12, 13] rfl
  have hD9 := hD.sub (ws' := WM cy am eda 1) [0, 1, 2, 3, 4, 5, 6, 7, 8, 9, 10, 11, 12, 13] (by decide) rfl
  exact W.zret hx hb hr (by decide) (fun t ht hW => ⟨rfl, ⟨by rw [ht]; exact hP9, hD9⟩, hS.F ht⟩) hS.2.2 dX14_noDevice_29

theorem iw_X14_noPipe_RX14 : ∀ w ∈ u_ws RX14 TX14 19, w ∈ wsX14_noPipe := by decide +kernel
set_option maxRecDepth 100000 in
set_option maxHeartbeats 4000000 in
theorem m_noPipe (l : Launch) (D : va_G) (cy : Nat → ClassId) {am : Nat → Nat} {eda : Nat} {th : Int32} (sz : Nat) (n : Int32) : ME l D cy (WM cy am eda th) sz yX14_noPipe wsX14_noPipe 1 0 0 22 [.ref (am 0), .int n] (some (.int 1)) (fun H => va_P D vwCl (WM cy am eda 1) H ∧ va_D (va_A (WM cy am eda th) sz) (WM cy am eda 1)) := by
  refine ro_ofW (cc := cX14_noPipe) (maxL := 2) (ret := (some .boolean)) (lv := [(0, .ref (am 0)), (1, .int n)]) (by decide) rfl (Nat.le_of_ble_eq_true rfl) rfl ?_
  intro p e s m below meth c ls hx hb hr hml hown hlocks hname hts hv hl
  have hown : s.vm.findClass RX14 = some m.cls := hown
  obtain ⟨⟨hsz, hP, hD0⟩, hK, hN⟩ := hv
  subst hsz
  have hD := hD0.self (sz := s.heap.size)
  generalize hAe : va_A (WM cy am eda th) s.heap.size = A at hD ⊢
  have hA : ∀ q : Nat, s.heap.size ≤ q → A q := fun q h => by rw [← hAe]; exact Or.inr h
  have hS : va_S A s.heap s.heap [] := va_S.rf
  refine lv_aload_n hx hb dX14_noPipe_0 rfl (lv_at hl 0 rfl) ?_
  refine lv_iload_n hx hb dX14_noPipe_1 rfl (lv_at hl 1 rfl) ?_
  refine lv_iconst (v := 0) hx hb dX14_noPipe_2 (by decide) ?_
  refine lv_bipush (v := 11) hx hb dX14_noPipe_3 (by decide) ?_
  by_cases hw : (¬ n < 0 ∧ ¬ 11 < n)
  · obtain ⟨j, hj, rfl⟩ := my_r011 hw
    refine ro_callS (As := [.int (nI j), .int 0, .int 11]) (rest := [.ref (am 0)]) ⟨hx, hb, hml, hown, hts⟩ (c_in_t l D cy _ _ _ _ hw.1 hw.2) (va_cwS 3 hts gX14_noPipe_X14_in rfl rfl rfl (by decide +kernel) ⟨by decide, by decide⟩) hK hN hP hS rfl hl.1 rfl (Nat.le_of_ble_eq_true rfl) dX14_noPipe_5 ⟨Nat.le_of_ble_eq_true rfl, Nat.le_of_ble_eq_true rfl⟩ (fun H locs hP hS => ?_)
    refine lv_if_eq (tgt := 24) hx hb dX14_noPipe_8 (by decide) (fun c => absurd c (by decide)) (fun _ => ?_)
    refine lv_aload_n hx hb dX14_noPipe_11 rfl (lv_at hl 0 rfl) ?_
    refine va_get (D := D) (ci := 19) (v := .ref (am 4)) (C := RX14) (T := TX14) (N := 19) hx hb hts iw_X14_noPipe_RX14 hown hK hP 0 rfl rfl 2 (by decide) (hts (.fieldLink RX14 18 "HubcascadeModel" "pipes" "[LHubcascadeModel$Pipe;") (by decide +kernel)) (fun _ h9 => h9) rfl dX14_noPipe_12 ?_
    refine lv_iload_n hx hb dX14_noPipe_15 rfl (lv_at hl 1 rfl) ?_
    refine my_aldN hx hb hK hP 4 9 rfl rfl (i := nI j) (j := j) rfl hj (by decide) rfl dX14_noPipe_16 ?_
    refine lv_ifnullN (tgt := 24) hx hb dX14_noPipe_17 (by decide) ?_
    refine lv_iconst (v := 1) hx hb dX14_noPipe_24 (by decide) ?_
    refine va_put (D := D) (ci := 19) (v := .int 1) (ty := .int) (C := RX14) (T := TX14) (N := 19) hx hb hts iw_X14_noPipe_RX14 tyX14 tyX14_ok nmX14 hown hK hP hD hS 0 rfl rfl 0 (by decide) (hts (.fieldLink RX14 61 "HubcascadeModel" "thrown" "I") (by decide +kernel)) (fun _ h9 => h9) rfl (by decide +kernel) rfl rfl (Nat.le_of_ble_eq_true rfl) dX14_noPipe_25 (fun H locs hP hD hS => ?_)
    have hP : va_P D vwCl (WM cy am eda 1) H := hP
    have hD : va_D A (WM cy am eda 1) := hD
    refine lv_aload_n hx hb dX14_noPipe_28 rfl (lv_at hl 0 rfl) ?_
    refine va_get (D := D) (ci := 19) (v := .int 1) (C := RX14) (T := TX14) (N := 19) hx hb hts iw_X14_noPipe_RX14 hown hK hP 0 rfl rfl 0 (by decide) (hts (.fieldLink RX14 61 "HubcascadeModel" "thrown" "I") (by decide +kernel)) (fun _ h9 => h9) rfl dX14_noPipe_29 ?_
    refine lv_if_le (tgt := 39) hx hb dX14_noPipe_32 (by decide) (fun c => absurd c (by decide)) (fun _ => ?_)
    refine lv_iconst (v := 1) hx hb dX14_noPipe_35 (by decide) ?_
    refine lv_goto (tgt := 40) hx hb dX14_noPipe_36 (by decide) ?_
    refine W.widen (k := 0) (n := 0) (Nat.le_of_ble_eq_true rfl) (Nat.le_of_ble_eq_true rfl) ?_
    have hP9 := hP.sub (ws' := WM cy am eda 1) [0, 1, 2, 3, 4, 5, 6, 7, 8, 9, 10, 11, 12, 13] rfl
    have hD9 := hD.sub (ws' := WM cy am eda 1) [0, 1, 2, 3, 4, 5, 6, 7, 8, 9, 10, 11, 12, 13] (by decide) rfl
    exact W.zret hx hb hr (by decide) (fun t ht hW => ⟨rfl, ⟨by rw [ht]; exact hP9, hD9⟩, hS.F ht⟩) hS.2.2 dX14_noPipe_40
  · refine ro_callS (As := [.int n, .int 0, .int 11]) (rest := [.ref (am 0)]) ⟨hx, hb, hml, hown, hts⟩ (c_in_f l D cy _ _ _ _ (my_out hw)) (va_cwS 3 hts gX14_noPipe_X14_in rfl rfl rfl (by decide +kernel) ⟨by decide, by decide⟩) hK hN hP hS rfl hl.1 rfl (Nat.le_of_ble_eq_true rfl) dX14_noPipe_5 ⟨Nat.le_of_ble_eq_true rfl, Nat.le_of_ble_eq_true rfl⟩ (fun H locs hP hS => ?_)
    refine lv_if_eq (tgt := 24) hx hb dX14_noPipe_8 (by decide) (fun _ => ?_) (fun c => absurd (by decide) c)
    refine lv_iconst (v := 1) hx hb dX14_noPipe_24 (by decide) ?_
    refine va_put (D := D) (ci := 19) (v := .int 1) (ty := .int) (C := RX14) (T := TX14) (N := 19) hx hb hts iw_X14_noPipe_RX14 tyX14 tyX14_ok nmX14 hown hK hP hD hS 0 rfl rfl 0 (by decide) (hts (.fieldLink RX14 61 "HubcascadeModel" "thrown" "I") (by decide +kernel)) (fun _ h9 => h9) rfl (by decide +kernel) rfl rfl (Nat.le_of_ble_eq_true rfl) dX14_noPipe_25 (fun H locs hP hD hS => ?_)
    have hP : va_P D vwCl (WM cy am eda 1) H := hP
    have hD : va_D A (WM cy am eda 1) := hD
    refine lv_aload_n hx hb dX14_noPipe_28 rfl (lv_at hl 0 rfl) ?_
    refine va_get (D := D) (ci := 19) (v := .int 1) (C := RX14) (T := TX14) (N := 19) hx hb hts iw_X14_noPipe_RX14 hown hK hP 0 rfl rfl 0 (by decide) (hts (.fieldLink RX14 61 "HubcascadeModel" "thrown" "I") (by decide +kernel)) (fun _ h9 => h9) rfl dX14_noPipe_29 ?_
    refine lv_if_le (tgt := 39) hx hb dX14_noPipe_32 (by decide) (fun c => absurd c (by decide)) (fun _ => ?_)
    refine lv_iconst (v := 1) hx hb dX14_noPipe_35 (by decide) ?_
    refine lv_goto (tgt := 40) hx hb dX14_noPipe_36 (by decide) ?_
    refine W.widen (k := 0) (n := 0) (Nat.le_of_ble_eq_true rfl) (Nat.le_of_ble_eq_true rfl) ?_
    have hP9 := hP.sub (ws' := WM cy am eda 1) [0, 1, 2, 3, 4, 5, 6, 7, 8, 9, 10, 11, 12, 13] rfl
    have hD9 := hD.sub (ws' := WM cy am eda 1) [0, 1, 2, 3, 4, 5, 6, 7, 8, 9, 10, 11, 12, 13] (by decide) rfl
    exact W.zret hx hb hr (by decide) (fun t ht hW => ⟨rfl, ⟨by rw [ht]; exact hP9, hD9⟩, hS.F ht⟩) hS.2.2 dX14_noPipe_40

theorem iw_X14_noEnd_RX14 : ∀ w ∈ u_ws RX14 TX14 19, w ∈ wsX14_noEnd := by decide +kernel
set_option maxRecDepth 100000 in
set_option maxHeartbeats 4000000 in
theorem m_noEnd (l : Launch) (D : va_G) (cy : Nat → ClassId) {am : Nat → Nat} {eda : Nat} {th : Int32} (sz : Nat) (d n o : Int32) : ME l D cy (WM cy am eda th) sz yX14_noEnd wsX14_noEnd 4 0 0 86 [.ref (am 0), .int d, .int n, .int o] (some (.int 1)) (fun H => va_P D vwCl (WM cy am eda 1) H ∧ va_D (va_A (WM cy am eda th) sz) (WM cy am eda 1)) := by
  refine ro_ofW (cc := cX14_noEnd) (maxL := 4) (ret := (some .boolean)) (lv := [(0, .ref (am 0)), (1, .int d), (2, .int n), (3, .int o)]) (by decide) rfl (Nat.le_of_ble_eq_true rfl) rfl ?_
  intro p e s m below meth c ls hx hb hr hml hown hlocks hname hts hv hl
  have hown : s.vm.findClass RX14 = some m.cls := hown
  obtain ⟨⟨hsz, hP, hD0⟩, hK, hN⟩ := hv
  subst hsz
  have hD := hD0.self (sz := s.heap.size)
  generalize hAe : va_A (WM cy am eda th) s.heap.size = A at hD ⊢
  have hA : ∀ q : Nat, s.heap.size ≤ q → A q := fun q h => by rw [← hAe]; exact Or.inr h
  have hS : va_S A s.heap s.heap [] := va_S.rf
  refine lv_aload_n hx hb dX14_noEnd_0 rfl (lv_at hl 0 rfl) ?_
  refine lv_aload_n hx hb dX14_noEnd_1 rfl (lv_at hl 0 rfl) ?_
  refine lv_iload_n hx hb dX14_noEnd_2 rfl (lv_at hl 1 rfl) ?_
  refine lv_iload_n hx hb dX14_noEnd_3 rfl (lv_at hl 2 rfl) ?_
  refine ro_callV (As := [.int d, .int n]) (rest := [.ref (am 0)]) ⟨hx, hb, hml, hown, hts⟩ (c_isEnd l D cy d n) (cwV 2 hts gX14_noEnd_X14_isEnd rfl rfl rfl (by decide +kernel) ⟨by decide, by decide⟩) hK hN hP hS (ci := 19) (q0 := 0) rfl rfl rfl rfl hl.1 rfl (Nat.le_of_ble_eq_true rfl) dX14_noEnd_4 ⟨Nat.le_of_ble_eq_true rfl, Nat.le_of_ble_eq_true rfl⟩ (fun H locs hP hS => ?_)
  refine lv_if_ne (tgt := 14) hx hb dX14_noEnd_7 (by decide) (fun c => absurd (by decide) c) (fun _ => ?_)
  refine lv_iconst (v := 1) hx hb dX14_noEnd_10 (by decide) ?_
  refine lv_goto (tgt := 42) hx hb dX14_noEnd_11 (by decide) ?_
  refine va_put (D := D) (ci := 19) (v := .int 1) (ty := .int) (C := RX14) (T := TX14) (N := 19) hx hb hts iw_X14_noEnd_RX14 tyX14 tyX14_ok nmX14 hown hK hP hD hS 0 rfl rfl 0 (by decide) (hts (.fieldLink RX14 61 "HubcascadeModel" "thrown" "I") (by decide +kernel)) (fun _ h9 => h9) rfl (by decide +kernel) rfl rfl (Nat.le_of_ble_eq_true rfl) dX14_noEnd_42 (fun H locs hP hD hS => ?_)
  have hP : va_P D vwCl (WM cy am eda 1) H := hP
  have hD : va_D A (WM cy am eda 1) := hD
  refine lv_aload_n hx hb dX14_noEnd_45 rfl (lv_at hl 0 rfl) ?_
  refine va_get (D := D) (ci := 19) (v := .int 1) (C := RX14) (T := TX14) (N := 19) hx hb hts iw_X14_noEnd_RX14 hown hK hP 0 rfl rfl 0 (by decide) (hts (.fieldLink RX14 61 "HubcascadeModel" "thrown" "I") (by decide +kernel)) (fun _ h9 => h9) rfl dX14_noEnd_46 ?_
  refine lv_if_le (tgt := 56) hx hb dX14_noEnd_49 (by decide) (fun c => absurd c (by decide)) (fun _ => ?_)
  refine lv_iconst (v := 1) hx hb dX14_noEnd_52 (by decide) ?_
  refine lv_goto (tgt := 57) hx hb dX14_noEnd_53 (by decide) ?_
  refine W.widen (k := 0) (n := 0) (Nat.le_of_ble_eq_true rfl) (Nat.le_of_ble_eq_true rfl) ?_
  have hP9 := hP.sub (ws' := WM cy am eda 1) [0, 1, 2, 3, 4, 5, 6, 7, 8, 9, 10, 11, 12, 13] rfl
  have hD9 := hD.sub (ws' := WM cy am eda 1) [0, 1, 2, 3, 4, 5, 6, 7, 8, 9, 10, 11, 12, 13] (by decide) rfl
  exact W.zret hx hb hr (by decide) (fun t ht hW => ⟨rfl, ⟨by rw [ht]; exact hP9, hD9⟩, hS.F ht⟩) hS.2.2 dX14_noEnd_57

theorem iw_X14_raises_RX14 : ∀ w ∈ u_ws RX14 TX14 19, w ∈ wsX14_raises := by decide +kernel
set_option maxRecDepth 100000 in
set_option maxHeartbeats 4000000 in
theorem m_raises (l : Launch) (D : va_G) (cy : Nat → ClassId) {am : Nat → Nat} {eda : Nat} {th : Int32} (sz : Nat) : ME l D cy (WM cy am eda th) sz yX14_raises wsX14_raises 0 0 0 0 [.ref (am 0), .int 1] (some (.int 0)) (fun H => va_P D vwCl (WM cy am eda 1) H ∧ va_D (va_A (WM cy am eda th) sz) (WM cy am eda 1)) := by
  refine ro_ofW (cc := cX14_raises) (maxL := 2) (ret := (some .int)) (lv := [(0, .ref (am 0)), (1, .int 1)]) (by decide) rfl (Nat.le_of_ble_eq_true rfl) rfl ?_
  intro p e s m below meth c ls hx hb hr hml hown hlocks hname hts hv hl
  have hown : s.vm.findClass RX14 = some m.cls := hown
  obtain ⟨⟨hsz, hP, hD0⟩, hK, hN⟩ := hv
  subst hsz
  have hD := hD0.self (sz := s.heap.size)
  generalize hAe : va_A (WM cy am eda th) s.heap.size = A at hD ⊢
  have hA : ∀ q : Nat, s.heap.size ≤ q → A q := fun q h => by rw [← hAe]; exact Or.inr h
  have hS : va_S A s.heap s.heap [] := va_S.rf
  refine lv_aload_n hx hb dX14_raises_0 rfl (lv_at hl 0 rfl) ?_
  refine lv_iload_n hx hb dX14_raises_1 rfl (lv_at hl 1 rfl) ?_
  refine va_put (D := D) (ci := 19) (v := .int 1) (ty := .int) (C := RX14) (T := TX14) (N := 19) hx hb hts iw_X14_raises_RX14 tyX14 tyX14_ok nmX14 hown hK hP hD hS 0 rfl rfl 0 (by decide) (hts (.fieldLink RX14 61 "HubcascadeModel" "thrown" "I") (by decide +kernel)) (fun _ h9 => h9) rfl (by decide +kernel) rfl rfl (Nat.le_of_ble_eq_true rfl) dX14_raises_2 (fun H locs hP hD hS => ?_)
  have hP : va_P D vwCl (WM cy am eda 1) H := hP
  have hD : va_D A (WM cy am eda 1) := hD
  refine lv_iconst (v := 0) hx hb dX14_raises_5 (by decide) ?_
  refine W.widen (k := 0) (n := 0) (Nat.le_of_ble_eq_true rfl) (Nat.le_of_ble_eq_true rfl) ?_
  have hP9 := hP.sub (ws' := WM cy am eda 1) [0, 1, 2, 3, 4, 5, 6, 7, 8, 9, 10, 11, 12, 13] rfl
  have hD9 := hD.sub (ws' := WM cy am eda 1) [0, 1, 2, 3, 4, 5, 6, 7, 8, 9, 10, 11, 12, 13] (by decide) rfl
  exact W.iret hx hb hr (fun t ht hW => ⟨rfl, ⟨by rw [ht]; exact hP9, hD9⟩, hS.F ht⟩) hS.2.2 dX14_raises_6

theorem iw_X14_lastOf_RX14 : ∀ w ∈ u_ws RX14 TX14 19, w ∈ wsX14_lastOf := by decide +kernel
set_option maxRecDepth 100000 in
set_option maxHeartbeats 4000000 in
theorem m_lastOf (l : Launch) (D : va_G) (cy : Nat → ClassId) {am : Nat → Nat} {eda : Nat} {th : Int32} (sz : Nat) (n : Int32) : ME l D cy (WM cy am eda th) sz yX14_lastOf wsX14_lastOf 1 0 0 22 [.ref (am 0), .ref (am 9), .int n, .int 1] (some (.int 0)) (fun H => va_P D vwCl (WM cy am eda 1) H ∧ va_D (va_A (WM cy am eda th) sz) (WM cy am eda 1)) := by
  refine ro_ofW (cc := cX14_lastOf) (maxL := 4) (ret := (some .int)) (lv := [(0, .ref (am 0)), (1, .ref (am 9)), (2, .int n), (3, .int 1)]) (by decide) rfl (Nat.le_of_ble_eq_true rfl) rfl ?_
  intro p e s m below meth c ls hx hb hr hml hown hlocks hname hts hv hl
  have hown : s.vm.findClass RX14 = some m.cls := hown
  obtain ⟨⟨hsz, hP, hD0⟩, hK, hN⟩ := hv
  subst hsz
  have hD := hD0.self (sz := s.heap.size)
  generalize hAe : va_A (WM cy am eda th) s.heap.size = A at hD ⊢
  have hA : ∀ q : Nat, s.heap.size ≤ q → A q := fun q h => by rw [← hAe]; exact Or.inr h
  have hS : va_S A s.heap s.heap [] := va_S.rf
  refine lv_aload_n hx hb dX14_lastOf_0 rfl (lv_at hl 0 rfl) ?_
  refine lv_iload_n hx hb dX14_lastOf_1 rfl (lv_at hl 2 rfl) ?_
  refine lv_iconst (v := 0) hx hb dX14_lastOf_2 (by decide) ?_
  refine lv_bipush (v := 32) hx hb dX14_lastOf_3 (by decide) ?_
  refine lv_aload_n hx hb dX14_lastOf_5 rfl (lv_at hl 1 rfl) ?_
  refine ro_callV (As := []) (rest := [.int 32, .int 0, .int n, .ref (am 0)]) ⟨hx, hb, hml, hown, hts⟩ (c_size l D cy _ 9 (am 9) eda 0 0 rfl) (cwV 0 hts gX14_lastOf_Jx4a65c_size_8abf5 rfl rfl rfl (by decide +kernel) ⟨by decide, by decide⟩) hK hN hP hS (ci := 4) (q0 := 9) rfl rfl rfl rfl hl.1 rfl (Nat.le_of_ble_eq_true rfl) dX14_lastOf_6 ⟨Nat.le_of_ble_eq_true rfl, Nat.le_of_ble_eq_true rfl⟩ (fun H locs hP hS => ?_)
  refine va_mmin hx hb (hml.trans hl.1.symm) hown (hts (.methodLink RX14 341 Lib.Math.min.name) (by decide +kernel)) (hts (.static Lib.Math.min.name) (by decide +kernel)) (hts (.initialized "java/lang/Math") (by decide +kernel)) (hts (.code Lib.Math.min.name Lib.Math.min.code 2 (some .int)) (by decide +kernel)) (Nat.le_of_ble_eq_true rfl) (Nat.le_of_ble_eq_true rfl) (Nat.le_of_ble_eq_true rfl) (Nat.le_of_ble_eq_true rfl) dX14_lastOf_9 ?_
  refine lv_topi (fun y ey => ?_)
  obtain rfl : y = 0 := ey.trans (by decide)
  refine lv_iconst (v := 1) hx hb dX14_lastOf_12 (by decide) ?_
  refine lv_isub hx hb dX14_lastOf_13 ?_
  refine lv_topi (fun y ey => ?_)
  obtain rfl : y = (-1) := ey.trans (by decide)
  refine ro_callS (As := [.int n, .int 0, .int (-1)]) (rest := [.ref (am 0)]) ⟨hx, hb, hml, hown, hts⟩ (c_in_f l D cy _ _ _ _ (my_lastout n)) (va_cwS 3 hts gX14_lastOf_X14_in rfl rfl rfl (by decide +kernel) ⟨by decide, by decide⟩) hK hN hP hS rfl hl.1 rfl (Nat.le_of_ble_eq_true rfl) dX14_lastOf_14 ⟨Nat.le_of_ble_eq_true rfl, Nat.le_of_ble_eq_true rfl⟩ (fun H locs hP hS => ?_)
  refine lv_if_eq (tgt := 24) hx hb dX14_lastOf_17 (by decide) (fun _ => ?_) (fun c => absurd (by decide) c)
  refine lv_iload_n hx hb dX14_lastOf_24 rfl (lv_at hl 3 rfl) ?_
  refine va_put (D := D) (ci := 19) (v := .int 1) (ty := .int) (C := RX14) (T := TX14) (N := 19) hx hb hts iw_X14_lastOf_RX14 tyX14 tyX14_ok nmX14 hown hK hP hD hS 0 rfl rfl 0 (by decide) (hts (.fieldLink RX14 61 "HubcascadeModel" "thrown" "I") (by decide +kernel)) (fun _ h9 => h9) rfl (by decide +kernel) rfl rfl (Nat.le_of_ble_eq_true rfl) dX14_lastOf_25 (fun H locs hP hD hS => ?_)
  have hP : va_P D vwCl (WM cy am eda 1) H := hP
  have hD : va_D A (WM cy am eda 1) := hD
  refine lv_aload_n hx hb dX14_lastOf_28 rfl (lv_at hl 0 rfl) ?_
  refine va_get (D := D) (ci := 19) (v := .int 1) (C := RX14) (T := TX14) (N := 19) hx hb hts iw_X14_lastOf_RX14 hown hK hP 0 rfl rfl 0 (by decide) (hts (.fieldLink RX14 61 "HubcascadeModel" "thrown" "I") (by decide +kernel)) (fun _ h9 => h9) rfl dX14_lastOf_29 ?_
  refine lv_if_le (tgt := 39) hx hb dX14_lastOf_32 (by decide) (fun c => absurd c (by decide)) (fun _ => ?_)
  refine lv_iconst (v := 0) hx hb dX14_lastOf_35 (by decide) ?_
  refine lv_goto (tgt := 57) hx hb dX14_lastOf_36 (by decide) ?_
  refine W.widen (k := 0) (n := 0) (Nat.le_of_ble_eq_true rfl) (Nat.le_of_ble_eq_true rfl) ?_
  have hP9 := hP.sub (ws' := WM cy am eda 1) [0, 1, 2, 3, 4, 5, 6, 7, 8, 9, 10, 11, 12, 13] rfl
  have hD9 := hD.sub (ws' := WM cy am eda 1) [0, 1, 2, 3, 4, 5, 6, 7, 8, 9, 10, 11, 12, 13] (by decide) rfl
  exact W.iret hx hb hr (fun t ht hW => ⟨rfl, ⟨by rw [ht]; exact hP9, hD9⟩, hS.F ht⟩) hS.2.2 dX14_lastOf_57
