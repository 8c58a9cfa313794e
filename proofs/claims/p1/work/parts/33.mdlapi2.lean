theorem iw_X14_five_RX14 : ∀ w ∈ u_ws RX14 TX14 19, w ∈ wsX14_five := by decide +kernel
set_option maxRecDepth 100000 in
set_option maxHeartbeats 4000000 in
theorem a_five_0 (l : Launch) (D : va_G) (cy : Nat → ClassId) {ca : Nat} {ia : Nat → Nat} {am : Nat → Nat} {eda : Nat} {th : Int32} (sz : Nat) (n : Int32) (hw : ¬ n < 0 ∧ ¬ 2047 < n) : MJ l D cy eda ca ia (WM cy am eda th) sz yX14_five wsX14_five 1 0 0 25 [.ref (am 0), .int n] (some (.int (31 - ck5s n 11))) (fun H => va_P D vwCl ([(am 0, .inr (19, [.int 0, .ref (am 1), .ref (am 4), .ref (am 5), .ref (am 6), .ref (am 7), .ref (am 8), .int 0, .ref (am 9), .int 0, .int (-1), .int 100, .ref (am 10), .long 0, .int 0, .int 0, .int 0, .int 0, .long 0]))]) H ∧ va_D (va_A (WM cy am eda th) sz) ([(am 0, .inr (19, [.int 0, .ref (am 1), .ref (am 4), .ref (am 5), .ref (am 6), .ref (am 7), .ref (am 8), .int 0, .ref (am 9), .int 0, .int (-1), .int 100, .ref (am 10), .long 0, .int 0, .int 0, .int 0, .int 0, .long 0]))])) := by
  refine ro_ofW (cc := cX14_five) (maxL := 4) (ret := (some .int)) (lv := [(0, .ref (am 0)), (1, .int n)]) (by decide) rfl (Nat.le_of_ble_eq_true rfl) rfl ?_
  intro p e s m below meth c ls hx hb hr hml hown hlocks hname hts hv hl
  have hown : s.vm.findClass RX14 = some m.cls := hown
  obtain ⟨⟨⟨hsz, hP, hD0⟩, hK, hN⟩, hJS⟩ := hv
  subst hsz
  have hD := hD0.self (sz := s.heap.size)
  generalize hAe : va_A (WM cy am eda th) s.heap.size = A at hD hJS ⊢
  have hA : ∀ q : Nat, s.heap.size ≤ q → A q := fun q h => by rw [← hAe]; exact Or.inr h
  have hS : va_S A s.heap s.heap [] := va_S.rf
  refine lv_aload_n hx hb dX14_five_0 rfl (lv_at hl 0 rfl) ?_
  refine lv_iload_n hx hb dX14_five_1 rfl (lv_at hl 1 rfl) ?_
  refine lv_iconst (v := 0) hx hb dX14_five_2 (by decide) ?_
  refine lv_sipush (v := 2047) hx hb dX14_five_3 (by decide) ?_
  refine ro_callS (As := [.int n, .int 0, .int 2047]) (rest := [.ref (am 0)]) ⟨hx, hb, hml, hown, hts⟩ (c_in_t l D cy _ _ _ _ hw.1 hw.2) (va_cwS 3 hts gX14_five_X14_in rfl rfl rfl (by decide +kernel) ⟨by decide, by decide⟩) hK hN hP hS rfl hl.1 rfl (Nat.le_of_ble_eq_true rfl) dX14_five_6 ⟨Nat.le_of_ble_eq_true rfl, Nat.le_of_ble_eq_true rfl⟩ (fun H locs hP hS => ?_)
  refine lv_if_eq (tgt := 16) hx hb dX14_five_9 (by decide) (fun c => absurd c (by decide)) (fun _ => ?_)
  refine lv_iconst (v := 0) hx hb dX14_five_12 (by decide) ?_
  refine lv_goto (tgt := 17) hx hb dX14_five_13 (by decide) ?_
  refine va_put (D := D) (ci := 19) (v := .int 0) (ty := .int) (C := RX14) (T := TX14) (N := 19) hx hb hts iw_X14_five_RX14 tyX14 tyX14_ok nmX14 hown hK hP hD hS 0 rfl rfl 0 (by decide) (hts (.fieldLink RX14 61 "HubcascadeModel" "thrown" "I") (by decide +kernel)) (fun _ h9 => h9) rfl (by decide +kernel) rfl rfl (Nat.le_of_ble_eq_true rfl) dX14_five_17 (fun H locs hP hD hS => ?_)
  have hP : va_P D vwCl (WM cy am eda 0) H := hP
  have hD : va_D A (WM cy am eda 0) := hD
  refine lv_bipush (v := 31) hx hb dX14_five_20 (by decide) ?_
  refine lv_istore_n (lv' := [(2, .int 31), (0, .ref (am 0)), (1, .int n)]) hx hb dX14_five_22 rfl hl (by decide) rfl (fun ls hl => ?_)
  refine lv_iconst (v := 0) hx hb dX14_five_23 (by decide) ?_
  refine lv_istore_n (lv' := [(3, .int 0), (2, .int 31), (0, .ref (am 0)), (1, .int n)]) hx hb dX14_five_24 rfl hl (by decide) rfl (fun ls hl => ?_)
  refine ro_loop (w := WM cy am eda 0) 11 0 (fun i => [(3, .int (nI i)), (2, .int (ck5s n i)), (0, .ref (am 0)), (1, .int n)]) ?_ (by decide) hP hS (lv_sub hl [0, 1, 2, 3] rfl)
  intro i hi0 hi ih_i H locs ls hP hS hl
  refine lv_iload_n hx hb dX14_five_25 rfl (lv_at hl 0 rfl) ?_
  refine lv_bipush (v := 11) hx hb dX14_five_26 (by decide) ?_
  refine lv_icmp_ge (tgt := 49) hx hb dX14_five_28 (by decide) (fun c28 => ?_) (fun c28 => ?_)
  · obtain rfl : i = 11 := my_exit (N := 11) (by decide) (by decide) hi c28
    refine lv_aload_n hx hb dX14_five_49 rfl (lv_at hl 2 rfl) ?_
    refine va_get (D := D) (ci := 19) (v := .int 0) (C := RX14) (T := TX14) (N := 19) hx hb hts iw_X14_five_RX14 hown hK hP 0 rfl rfl 0 (by decide) (hts (.fieldLink RX14 61 "HubcascadeModel" "thrown" "I") (by decide +kernel)) (fun _ h9 => h9) rfl dX14_five_50 ?_
    refine lv_if_le (tgt := 60) hx hb dX14_five_53 (by decide) (fun _ => ?_) (fun c => absurd (by decide) c)
    refine lv_bipush (v := 31) hx hb dX14_five_60 (by decide) ?_
    refine lv_iload_n hx hb dX14_five_62 rfl (lv_at hl 1 rfl) ?_
    refine lv_isub hx hb dX14_five_63 ?_
    refine lv_topi (fun y ey => ?_)
    obtain rfl : y = 31 - ck5s n 11 := ey.trans rfl
    refine W.widen (k := 0) (n := 0) (Nat.le_of_ble_eq_true rfl) (Nat.le_of_ble_eq_true rfl) ?_
    have hP9 := hP.sub (ws' := [(am 0, .inr (19, [.int 0, .ref (am 1), .ref (am 4), .ref (am 5), .ref (am 6), .ref (am 7), .ref (am 8), .int 0, .ref (am 9), .int 0, .int (-1), .int 100, .ref (am 10), .long 0, .int 0, .int 0, .int 0, .int 0, .long 0]))]) [0] rfl
    have hD9 := hD.sub (ws' := [(am 0, .inr (19, [.int 0, .ref (am 1), .ref (am 4), .ref (am 5), .ref (am 6), .ref (am 7), .ref (am 8), .int 0, .ref (am 9), .int 0, .int (-1), .int 100, .ref (am 10), .long 0, .int 0, .int 0, .int 0, .int 0, .long 0]))]) [0] (by decide) rfl
    exact W.iret hx hb hr (fun t ht hW => ⟨rfl, ⟨by rw [ht]; exact hP9, hD9⟩, hS.F ht⟩) hS.2.2 dX14_five_64
  · have hi : i < 11 := my_cont (N := 11) (by decide) (by decide) hi c28
    refine lv_iload_n hx hb dX14_five_31 rfl (lv_at hl 1 rfl) ?_
    refine lv_iload_n hx hb dX14_five_32 rfl (lv_at hl 3 rfl) ?_
    refine lv_iload_n hx hb dX14_five_33 rfl (lv_at hl 0 rfl) ?_
    refine lv_ishr hx hb dX14_five_34 ?_
    refine lv_topi (fun y ey => ?_)
    obtain rfl : y = n >>> (nI i &&& 31) := ey.trans rfl
    refine lv_iconst (v := 1) hx hb dX14_five_35 (by decide) ?_
    refine lv_iand hx hb dX14_five_36 ?_
    refine lv_topi (fun y ey => ?_)
    obtain rfl : y = (n >>> (nI i &&& 31)) &&& 1 := ey.trans rfl
    refine lv_iconst (v := 5) hx hb dX14_five_37 (by decide) ?_
    refine lv_iconst (v := 5) hx hb dX14_five_38 (by decide) ?_
    refine ro_callS (As := [.int (ck5s n i), .int ((n >>> (nI i &&& 31)) &&& 1), .int 5, .int 5]) (rest := []) ⟨hx, hb, hml, hown, hts⟩ (c_check5 l D cy _ (ck5s n i) ((n >>> (nI i &&& 31)) &&& 1)) (va_cwS 4 hts gX14_five_X14_check rfl rfl rfl (by decide +kernel) ⟨by decide, by decide⟩) hK hN hP hS rfl hl.1 rfl (Nat.le_of_ble_eq_true rfl) dX14_five_39 ⟨Nat.le_of_ble_eq_true rfl, Nat.le_of_ble_eq_true rfl⟩ (fun H locs hP hS => ?_)
    refine lv_istore_n (lv' := [(2, .int (ck5 (ck5s n i) ((n >>> (nI i &&& 31)) &&& 1))), (3, .int (nI i)), (0, .ref (am 0)), (1, .int n)]) hx hb dX14_five_42 rfl hl (by decide) rfl (fun ls hl => ?_)
    refine lv_iinc (v := nI (i + 1)) (lv' := [(3, .int (nI (i + 1))), (2, .int (ck5 (ck5s n i) ((n >>> (nI i &&& 31)) &&& 1))), (0, .ref (am 0)), (1, .int n)]) hx hb dX14_five_43 hl (k := 1) rfl (nI_1 _) (by decide) rfl (fun ls hl => ?_)
    refine lv_goto (tgt := 25) hx hb dX14_five_46 (by decide) ?_
    exact ih_i hi _ _ _ hP hS (lv_sub hl [0, 1, 2, 3] rfl)

set_option maxRecDepth 100000 in
set_option maxHeartbeats 4000000 in
theorem a_five_1 (l : Launch) (D : va_G) (cy : Nat → ClassId) {ca : Nat} {ia : Nat → Nat} {am : Nat → Nat} {eda : Nat} {th : Int32} (sz : Nat) (n : Int32) (hw : ¬ (¬ n < 0 ∧ ¬ 2047 < n)) : MJ l D cy eda ca ia (WM cy am eda th) sz yX14_five wsX14_five 1 0 0 25 [.ref (am 0), .int n] (some (.int 0)) (fun H => va_P D vwCl ([(am 0, .inr (19, [.int 1, .ref (am 1), .ref (am 4), .ref (am 5), .ref (am 6), .ref (am 7), .ref (am 8), .int 0, .ref (am 9), .int 0, .int (-1), .int 100, .ref (am 10), .long 0, .int 0, .int 0, .int 0, .int 0, .long 0]))]) H ∧ va_D (va_A (WM cy am eda th) sz) ([(am 0, .inr (19, [.int 1, .ref (am 1), .ref (am 4), .ref (am 5), .ref (am 6), .ref (am 7), .ref (am 8), .int 0, .ref (am 9), .int 0, .int (-1), .int 100, .ref (am 10), .long 0, .int 0, .int 0, .int 0, .int 0, .long 0]))])) := by
  refine ro_ofW (cc := cX14_five) (maxL := 4) (ret := (some .int)) (lv := [(0, .ref (am 0)), (1, .int n)]) (by decide) rfl (Nat.le_of_ble_eq_true rfl) rfl ?_
  intro p e s m below meth c ls hx hb hr hml hown hlocks hname hts hv hl
  have hown : s.vm.findClass RX14 = some m.cls := hown
  obtain ⟨⟨⟨hsz, hP, hD0⟩, hK, hN⟩, hJS⟩ := hv
  subst hsz
  have hD := hD0.self (sz := s.heap.size)
  generalize hAe : va_A (WM cy am eda th) s.heap.size = A at hD hJS ⊢
  have hA : ∀ q : Nat, s.heap.size ≤ q → A q := fun q h => by rw [← hAe]; exact Or.inr h
  have hS : va_S A s.heap s.heap [] := va_S.rf
  refine lv_aload_n hx hb dX14_five_0 rfl (lv_at hl 0 rfl) ?_
  refine lv_iload_n hx hb dX14_five_1 rfl (lv_at hl 1 rfl) ?_
  refine lv_iconst (v := 0) hx hb dX14_five_2 (by decide) ?_
  refine lv_sipush (v := 2047) hx hb dX14_five_3 (by decide) ?_
  refine ro_callS (As := [.int n, .int 0, .int 2047]) (rest := [.ref (am 0)]) ⟨hx, hb, hml, hown, hts⟩ (c_in_f l D cy _ _ _ _ (my_out hw)) (va_cwS 3 hts gX14_five_X14_in rfl rfl rfl (by decide +kernel) ⟨by decide, by decide⟩) hK hN hP hS rfl hl.1 rfl (Nat.le_of_ble_eq_true rfl) dX14_five_6 ⟨Nat.le_of_ble_eq_true rfl, Nat.le_of_ble_eq_true rfl⟩ (fun H locs hP hS => ?_)
  refine lv_if_eq (tgt := 16) hx hb dX14_five_9 (by decide) (fun _ => ?_) (fun c => absurd (by decide) c)
  refine lv_iconst (v := 1) hx hb dX14_five_16 (by decide) ?_
  refine va_put (D := D) (ci := 19) (v := .int 1) (ty := .int) (C := RX14) (T := TX14) (N := 19) hx hb hts iw_X14_five_RX14 tyX14 tyX14_ok nmX14 hown hK hP hD hS 0 rfl rfl 0 (by decide) (hts (.fieldLink RX14 61 "HubcascadeModel" "thrown" "I") (by decide +kernel)) (fun _ h9 => h9) rfl (by decide +kernel) rfl rfl (Nat.le_of_ble_eq_true rfl) dX14_five_17 (fun H locs hP hD hS => ?_)
  have hP : va_P D vwCl (WM cy am eda 1) H := hP
  have hD : va_D A (WM cy am eda 1) := hD
  refine lv_bipush (v := 31) hx hb dX14_five_20 (by decide) ?_
  refine lv_istore_n (lv' := [(2, .int 31), (0, .ref (am 0)), (1, .int n)]) hx hb dX14_five_22 rfl hl (by decide) rfl (fun ls hl => ?_)
  refine lv_iconst (v := 0) hx hb dX14_five_23 (by decide) ?_
  refine lv_istore_n (lv' := [(3, .int 0), (2, .int 31), (0, .ref (am 0)), (1, .int n)]) hx hb dX14_five_24 rfl hl (by decide) rfl (fun ls hl => ?_)
  refine ro_loop (w := WM cy am eda 1) 11 0 (fun i => [(3, .int (nI i)), (2, .int (ck5s n i)), (0, .ref (am 0)), (1, .int n)]) ?_ (by decide) hP hS (lv_sub hl [0, 1, 2, 3] rfl)
  intro i hi0 hi ih_i H locs ls hP hS hl
  refine lv_iload_n hx hb dX14_five_25 rfl (lv_at hl 0 rfl) ?_
  refine lv_bipush (v := 11) hx hb dX14_five_26 (by decide) ?_
  refine lv_icmp_ge (tgt := 49) hx hb dX14_five_28 (by decide) (fun c28 => ?_) (fun c28 => ?_)
  · obtain rfl : i = 11 := my_exit (N := 11) (by decide) (by decide) hi c28
    refine lv_aload_n hx hb dX14_five_49 rfl (lv_at hl 2 rfl) ?_
    refine va_get (D := D) (ci := 19) (v := .int 1) (C := RX14) (T := TX14) (N := 19) hx hb hts iw_X14_five_RX14 hown hK hP 0 rfl rfl 0 (by decide) (hts (.fieldLink RX14 61 "HubcascadeModel" "thrown" "I") (by decide +kernel)) (fun _ h9 => h9) rfl dX14_five_50 ?_
    refine lv_if_le (tgt := 60) hx hb dX14_five_53 (by decide) (fun c => absurd c (by decide)) (fun _ => ?_)
    refine lv_iconst (v := 0) hx hb dX14_five_56 (by decide) ?_
    refine lv_goto (tgt := 64) hx hb dX14_five_57 (by decide) ?_
    refine W.widen (k := 0) (n := 0) (Nat.le_of_ble_eq_true rfl) (Nat.le_of_ble_eq_true rfl) ?_
    have hP9 := hP.sub (ws' := [(am 0, .inr (19, [.int 1, .ref (am 1), .ref (am 4), .ref (am 5), .ref (am 6), .ref (am 7), .ref (am 8), .int 0, .ref (am 9), .int 0, .int (-1), .int 100, .ref (am 10), .long 0, .int 0, .int 0, .int 0, .int 0, .long 0]))]) [0] rfl
    have hD9 := hD.sub (ws' := [(am 0, .inr (19, [.int 1, .ref (am 1), .ref (am 4), .ref (am 5), .ref (am 6), .ref (am 7), .ref (am 8), .int 0, .ref (am 9), .int 0, .int (-1), .int 100, .ref (am 10), .long 0, .int 0, .int 0, .int 0, .int 0, .long 0]))]) [0] (by decide) rfl
    exact W.iret hx hb hr (fun t ht hW => ⟨rfl, ⟨by rw [ht]; exact hP9, hD9⟩, hS.F ht⟩) hS.2.2 dX14_five_64
  · have hi : i < 11 := my_cont (N := 11) (by decide) (by decide) hi c28
    refine lv_iload_n hx hb dX14_five_31 rfl (lv_at hl 1 rfl) ?_
    refine lv_iload_n hx hb dX14_five_32 rfl (lv_at hl 3 rfl) ?_
    refine lv_iload_n hx hb dX14_five_33 rfl (lv_at hl 0 rfl) ?_
    refine lv_ishr hx hb dX14_five_34 ?_
    refine lv_topi (fun y ey => ?_)
    obtain rfl : y = n >>> (nI i &&& 31) := ey.trans rfl
    refine lv_iconst (v := 1) hx hb dX14_five_35 (by decide) ?_
    refine lv_iand hx hb dX14_five_36 ?_
    refine lv_topi (fun y ey => ?_)
    obtain rfl : y = (n >>> (nI i &&& 31)) &&& 1 := ey.trans rfl
    refine lv_iconst (v := 5) hx hb dX14_five_37 (by decide) ?_
    refine lv_iconst (v := 5) hx hb dX14_five_38 (by decide) ?_
    refine ro_callS (As := [.int (ck5s n i), .int ((n >>> (nI i &&& 31)) &&& 1), .int 5, .int 5]) (rest := []) ⟨hx, hb, hml, hown, hts⟩ (c_check5 l D cy _ (ck5s n i) ((n >>> (nI i &&& 31)) &&& 1)) (va_cwS 4 hts gX14_five_X14_check rfl rfl rfl (by decide +kernel) ⟨by decide, by decide⟩) hK hN hP hS rfl hl.1 rfl (Nat.le_of_ble_eq_true rfl) dX14_five_39 ⟨Nat.le_of_ble_eq_true rfl, Nat.le_of_ble_eq_true rfl⟩ (fun H locs hP hS => ?_)
    refine lv_istore_n (lv' := [(2, .int (ck5 (ck5s n i) ((n >>> (nI i &&& 31)) &&& 1))), (3, .int (nI i)), (0, .ref (am 0)), (1, .int n)]) hx hb dX14_five_42 rfl hl (by decide) rfl (fun ls hl => ?_)
    refine lv_iinc (v := nI (i + 1)) (lv' := [(3, .int (nI (i + 1))), (2, .int (ck5 (ck5s n i) ((n >>> (nI i &&& 31)) &&& 1))), (0, .ref (am 0)), (1, .int n)]) hx hb dX14_five_43 hl (k := 1) rfl (nI_1 _) (by decide) rfl (fun ls hl => ?_)
    refine lv_goto (tgt := 25) hx hb dX14_five_46 (by decide) ?_
    exact ih_i hi _ _ _ hP hS (lv_sub hl [0, 1, 2, 3] rfl)

theorem iw_Jx4a65c_clear_da8c8_RJx4a65c : ∀ w ∈ u_ws RJx4a65c TJx4a65c 3, w ∈ wsJx4a65c_clear_da8c8 := by decide +kernel
set_option maxRecDepth 100000 in
set_option maxHeartbeats 4000000 in
theorem m_clear (l : Launch) (D : va_G) (cy : Nat → ClassId) (a1 e1 : Nat) (sz : Nat) (mc : Int32) : ME l D cy ([(a1, .inr (4, [.int mc, .ref e1, .int 0]))]) sz yJx4a65c_clear_da8c8 wsJx4a65c_clear_da8c8 0 0 0 0 [.ref a1] none (fun H => va_P D vwCl ([(a1, .inr (4, [.int (mc + 1), .ref e1, .int 0]))]) H ∧ va_D (va_A ([(a1, .inr (4, [.int mc, .ref e1, .int 0]))]) sz) ([(a1, .inr (4, [.int (mc + 1), .ref e1, .int 0]))])) := by
  refine ro_ofW (cc := cJx4a65c_clear_da8c8) (maxL := 4) (ret := none) (lv := [(0, .ref a1)]) (by decide) rfl (Nat.le_of_ble_eq_true rfl) rfl ?_
  intro p e s m below meth c ls hx hb hr hml hown hlocks hname hts hv hl
  have hown : s.vm.findClass RJx4a65c = some m.cls := hown
  obtain ⟨⟨hsz, hP, hD0⟩, hK, hN⟩ := hv
  subst hsz
  have hD := hD0.self (sz := s.heap.size)
  generalize hAe : va_A ([(a1, .inr (4, [.int mc, .ref e1, .int 0]))]) s.heap.size = A at hD ⊢
  have hA : ∀ q : Nat, s.heap.size ≤ q → A q := fun q h => by rw [← hAe]; exact Or.inr h
  have hS : va_S A s.heap s.heap [] := va_S.rf
  refine lv_aload_n hx hb dJx4a65c_clear_da8c8_0 rfl (lv_at hl 0 rfl) ?_
  refine lv_dup hx hb dJx4a65c_clear_da8c8_1 rfl ?_
  refine va_get (D := D) (ci := 4) (v := .int mc) (C := RJx4a65c) (T := TJx4a65c) (N := 3) hx hb hts iw_Jx4a65c_clear_da8c8_RJx4a65c hown hK hP 0 rfl rfl 0 (by decide) (hts (.fieldLink RJx4a65c 63 "java/util/ArrayList" "modCount" "I") (by decide +kernel)) (fun x9 h9 => u_same (hts (.sameField "java/util/ArrayList" "java/util/AbstractList" "modCount" "I") (by decide +kernel)) x9 h9) rfl dJx4a65c_clear_da8c8_2 ?_
  refine lv_iconst (v := 1) hx hb dJx4a65c_clear_da8c8_5 (by decide) ?_
  refine lv_iadd hx hb dJx4a65c_clear_da8c8_6 ?_
  refine lv_topi (fun y ey => ?_)
  obtain rfl : y = mc + 1 := ey.trans rfl
  refine va_put (D := D) (ci := 4) (v := .int (mc + 1)) (ty := .int) (C := RJx4a65c) (T := TJx4a65c) (N := 3) hx hb hts iw_Jx4a65c_clear_da8c8_RJx4a65c tyJx4a65c tyJx4a65c_ok nmJx4a65c hown hK hP hD hS 0 rfl rfl 0 (by decide) (hts (.fieldLink RJx4a65c 63 "java/util/ArrayList" "modCount" "I") (by decide +kernel)) (fun x9 h9 => u_same (hts (.sameField "java/util/ArrayList" "java/util/AbstractList" "modCount" "I") (by decide +kernel)) x9 h9) rfl (by decide +kernel) rfl rfl (Nat.le_of_ble_eq_true rfl) dJx4a65c_clear_da8c8_7 (fun H locs hP hD hS => ?_)
  have hP : va_P D vwCl ([(a1, .inr (4, [.int (mc + 1), .ref e1, .int 0]))]) H := hP
  have hD : va_D A ([(a1, .inr (4, [.int (mc + 1), .ref e1, .int 0]))]) := hD
  refine lv_aload_n hx hb dJx4a65c_clear_da8c8_10 rfl (lv_at hl 0 rfl) ?_
  refine va_get (D := D) (ci := 4) (v := .ref e1) (C := RJx4a65c) (T := TJx4a65c) (N := 3) hx hb hts iw_Jx4a65c_clear_da8c8_RJx4a65c hown hK hP 0 rfl rfl 1 (by decide) (hts (.fieldLink RJx4a65c 9 "java/util/ArrayList" "elementData" "[Ljava/lang/Object;") (by decide +kernel)) (fun _ h9 => h9) rfl dJx4a65c_clear_da8c8_11 ?_
  refine lv_astore_n (lv' := [(1, .ref e1), (0, .ref a1)]) hx hb dJx4a65c_clear_da8c8_14 rfl hl (by decide) rfl (fun ls hl => ?_)
  refine lv_aload_n hx hb dJx4a65c_clear_da8c8_15 rfl (lv_at hl 1 rfl) ?_
  refine va_get (D := D) (ci := 4) (v := .int 0) (C := RJx4a65c) (T := TJx4a65c) (N := 3) hx hb hts iw_Jx4a65c_clear_da8c8_RJx4a65c hown hK hP 0 rfl rfl 2 (by decide) (hts (.fieldLink RJx4a65c 48 "java/util/ArrayList" "size" "I") (by decide +kernel)) (fun _ h9 => h9) rfl dJx4a65c_clear_da8c8_16 ?_
  refine lv_istore_n (lv' := [(2, .int 0), (1, .ref e1), (0, .ref a1)]) hx hb dJx4a65c_clear_da8c8_19 rfl hl (by decide) rfl (fun ls hl => ?_)
  refine lv_aload_n hx hb dJx4a65c_clear_da8c8_20 rfl (lv_at hl 2 rfl) ?_
  refine lv_iconst (v := 0) hx hb dJx4a65c_clear_da8c8_21 (by decide) ?_
  refine lv_dup_x1 hx hb dJx4a65c_clear_da8c8_22 rfl rfl ?_
  refine va_put (D := D) (ci := 4) (v := .int 0) (ty := .int) (C := RJx4a65c) (T := TJx4a65c) (N := 3) hx hb hts iw_Jx4a65c_clear_da8c8_RJx4a65c tyJx4a65c tyJx4a65c_ok nmJx4a65c hown hK hP hD hS 0 rfl rfl 2 (by decide) (hts (.fieldLink RJx4a65c 48 "java/util/ArrayList" "size" "I") (by decide +kernel)) (fun _ h9 => h9) rfl (by decide +kernel) rfl rfl (Nat.le_of_ble_eq_true rfl) dJx4a65c_clear_da8c8_23 (fun H locs hP hD hS => ?_)
  have hP : va_P D vwCl ([(a1, .inr (4, [.int (mc + 1), .ref e1, .int 0]))]) H := hP
  have hD : va_D A ([(a1, .inr (4, [.int (mc + 1), .ref e1, .int 0]))]) := hD
  refine lv_istore_n (lv' := [(3, .int 0), (2, .int 0), (1, .ref e1), (0, .ref a1)]) hx hb dJx4a65c_clear_da8c8_26 rfl hl (by decide) rfl (fun ls hl => ?_)
  refine lv_iload_n hx hb dJx4a65c_clear_da8c8_27 rfl (lv_at hl 0 rfl) ?_
  refine lv_iload_n hx hb dJx4a65c_clear_da8c8_28 rfl (lv_at hl 1 rfl) ?_
  refine lv_icmp_ge (tgt := 42) hx hb dJx4a65c_clear_da8c8_29 (by decide) (fun _ => ?_) (fun c => absurd (by decide) c)
  refine W.widen (k := 0) (n := 0) (Nat.le_of_ble_eq_true rfl) (Nat.le_of_ble_eq_true rfl) ?_
  have hP9 := hP.sub (ws' := [(a1, .inr (4, [.int (mc + 1), .ref e1, .int 0]))]) [0] rfl
  have hD9 := hD.sub (ws' := [(a1, .inr (4, [.int (mc + 1), .ref e1, .int 0]))]) [0] (by decide) rfl
  exact W.vret hx hb hr (fun t ht hW => ⟨rfl, ⟨by rw [ht]; exact hP9, hD9⟩, hS.F ht⟩) hS.2.2 dJx4a65c_clear_da8c8_42

theorem iw_X14_wipe_RX14 : ∀ w ∈ u_ws RX14 TX14 19, w ∈ wsX14_wipe := by decide +kernel
set_option maxRecDepth 100000 in
set_option maxHeartbeats 4000000 in
theorem a_wipe (l : Launch) (D : va_G) (cy : Nat → ClassId) {ca : Nat} {ia : Nat → Nat} {am : Nat → Nat} {eda : Nat} {th : Int32} (sz : Nat) : MJ l D cy eda ca ia (WM cy am eda th) sz yX14_wipe wsX14_wipe 1 0 0 23 [.ref (am 0)] (some (.int 0)) (fun H => va_P D vwCl ([(am 0, .inr (19, [.int 0, .ref (am 1), .ref (am 4), .ref (am 5), .ref (am 6), .ref (am 7), .ref (am 8), .int 0, .ref (am 9), .int 0, .int (-1), .int 100, .ref (am 10), .long 0, .int 0, .int 0, .int 0, .int 0, .long 0]))]) H ∧ va_D (va_A (WM cy am eda th) sz) ([(am 0, .inr (19, [.int 0, .ref (am 1), .ref (am 4), .ref (am 5), .ref (am 6), .ref (am 7), .ref (am 8), .int 0, .ref (am 9), .int 0, .int (-1), .int 100, .ref (am 10), .long 0, .int 0, .int 0, .int 0, .int 0, .long 0]))])) := by
  refine ro_ofW (cc := cX14_wipe) (maxL := 2) (ret := (some .int)) (lv := [(0, .ref (am 0))]) (by decide) rfl (Nat.le_of_ble_eq_true rfl) rfl ?_
  intro p e s m below meth c ls hx hb hr hml hown hlocks hname hts hv hl
  have hown : s.vm.findClass RX14 = some m.cls := hown
  obtain ⟨⟨⟨hsz, hP, hD0⟩, hK, hN⟩, hJS⟩ := hv
  subst hsz
  have hD := hD0.self (sz := s.heap.size)
  generalize hAe : va_A (WM cy am eda th) s.heap.size = A at hD hJS ⊢
  have hA : ∀ q : Nat, s.heap.size ≤ q → A q := fun q h => by rw [← hAe]; exact Or.inr h
  have hS : va_S A s.heap s.heap [] := va_S.rf
  refine lv_aload_n hx hb dX14_wipe_0 rfl (lv_at hl 0 rfl) ?_
  refine lv_iconst (v := 0) hx hb dX14_wipe_1 (by decide) ?_
  refine va_put (D := D) (ci := 19) (v := .int 0) (ty := .int) (C := RX14) (T := TX14) (N := 19) hx hb hts iw_X14_wipe_RX14 tyX14 tyX14_ok nmX14 hown hK hP hD hS 0 rfl rfl 0 (by decide) (hts (.fieldLink RX14 61 "HubcascadeModel" "thrown" "I") (by decide +kernel)) (fun _ h9 => h9) rfl (by decide +kernel) rfl rfl (Nat.le_of_ble_eq_true rfl) dX14_wipe_2 (fun H locs hP hD hS => ?_)
  have hP : va_P D vwCl (WM cy am eda 0) H := hP
  have hD : va_D A (WM cy am eda 0) := hD
  refine lv_aload_n hx hb dX14_wipe_5 rfl (lv_at hl 0 rfl) ?_
  refine va_get (D := D) (ci := 19) (v := .ref (am 6)) (C := RX14) (T := TX14) (N := 19) hx hb hts iw_X14_wipe_RX14 hown hK hP 0 rfl rfl 4 (by decide) (hts (.fieldLink RX14 25 "HubcascadeModel" "typed" "Ljava/util/ArrayList;") (by decide +kernel)) (fun _ h9 => h9) rfl dX14_wipe_6 ?_
  refine ro_callV (As := []) (rest := []) ⟨hx, hb, hml, hown, hts⟩ (c_size l D cy _ 6 (am 6) eda 0 0 rfl) (cwV 0 hts gX14_wipe_Jx4a65c_size_8abf5 rfl rfl rfl (by decide +kernel) ⟨by decide, by decide⟩) hK hN hP hS (ci := 4) (q0 := 6) rfl rfl rfl rfl hl.1 rfl (Nat.le_of_ble_eq_true rfl) dX14_wipe_9 ⟨Nat.le_of_ble_eq_true rfl, Nat.le_of_ble_eq_true rfl⟩ (fun H locs hP hS => ?_)
  refine lv_istore_n (lv' := [(1, .int 0), (0, .ref (am 0))]) hx hb dX14_wipe_12 rfl hl (by decide) rfl (fun ls hl => ?_)
  refine lv_aload_n hx hb dX14_wipe_13 rfl (lv_at hl 1 rfl) ?_
  refine va_get (D := D) (ci := 19) (v := .ref (am 6)) (C := RX14) (T := TX14) (N := 19) hx hb hts iw_X14_wipe_RX14 hown hK hP 0 rfl rfl 4 (by decide) (hts (.fieldLink RX14 25 "HubcascadeModel" "typed" "Ljava/util/ArrayList;") (by decide +kernel)) (fun _ h9 => h9) rfl dX14_wipe_14 ?_
  have hP := hP.sub (ws' := [(am 0, .inr (19, [.int 0, .ref (am 1), .ref (am 4), .ref (am 5), .ref (am 6), .ref (am 7), .ref (am 8), .int 0, .ref (am 9), .int 0, .int (-1), .int 100, .ref (am 10), .long 0, .int 0, .int 0, .int 0, .int 0, .long 0])), (am 1, .inr (4, [.int 1, .ref (am 2), .int 1])), (am 2, .inl (cy 10, 10, .inr (.inr (.inr (.inr (va_up (fun _ => none) 0 (some (am 3)))))))), (am 3, .inr (15, [.int 104, .int 4, .int 0, .int 1, .int 0, .int 0, .int 99, .int (-1), .int 0, .int 0, .int (-1), .int 0, .int 0, .ref (am 11), .ref (am 12), .ref (am 13)])), (am 4, .inl (cy 9, 12, .inr (.inr (.inr (.inr (fun _ => none)))))), (am 5, .inr (4, [.int 0, .ref eda, .int 0])), (am 7, .inr (4, [.int 0, .ref eda, .int 0])), (am 8, .inl (cy 0, 0, .inl (fun _ => 0))), (am 9, .inr (4, [.int 0, .ref eda, .int 0])), (am 10, .inl (cy 0, 16, .inl (fun _ => 0))), (am 11, .inl (cy 8, 4, .inr (.inr (.inr (.inr (fun _ => none)))))), (am 12, .inl (cy 1, 4, .inl (fun _ => 0))), (am 13, .inl (cy 0, 4, .inl (fun _ => 0))), (am 6, .inr (4, [.int 0, .ref eda, .int 0]))]) [0, 1, 2, 3, 4, 5, 7, 8, 9, 10, 11, 12, 13, 6] rfl
  have hD := hD.sub (ws' := [(am 0, .inr (19, [.int 0, .ref (am 1), .ref (am 4), .ref (am 5), .ref (am 6), .ref (am 7), .ref (am 8), .int 0, .ref (am 9), .int 0, .int (-1), .int 100, .ref (am 10), .long 0, .int 0, .int 0, .int 0, .int 0, .long 0])), (am 1, .inr (4, [.int 1, .ref (am 2), .int 1])), (am 2, .inl (cy 10, 10, .inr (.inr (.inr (.inr (va_up (fun _ => none) 0 (some (am 3)))))))), (am 3, .inr (15, [.int 104, .int 4, .int 0, .int 1, .int 0, .int 0, .int 99, .int (-1), .int 0, .int 0, .int (-1), .int 0, .int 0, .ref (am 11), .ref (am 12), .ref (am 13)])), (am 4, .inl (cy 9, 12, .inr (.inr (.inr (.inr (fun _ => none)))))), (am 5, .inr (4, [.int 0, .ref eda, .int 0])), (am 7, .inr (4, [.int 0, .ref eda, .int 0])), (am 8, .inl (cy 0, 0, .inl (fun _ => 0))), (am 9, .inr (4, [.int 0, .ref eda, .int 0])), (am 10, .inl (cy 0, 16, .inl (fun _ => 0))), (am 11, .inl (cy 8, 4, .inr (.inr (.inr (.inr (fun _ => none)))))), (am 12, .inl (cy 1, 4, .inl (fun _ => 0))), (am 13, .inl (cy 0, 4, .inl (fun _ => 0))), (am 6, .inr (4, [.int 0, .ref eda, .int 0]))]) [0, 1, 2, 3, 4, 5, 7, 8, 9, 10, 11, 12, 13, 6] (by decide) rfl
  refine me_callV (wr := [(am 0, .inr (19, [.int 0, .ref (am 1), .ref (am 4), .ref (am 5), .ref (am 6), .ref (am 7), .ref (am 8), .int 0, .ref (am 9), .int 0, .int (-1), .int 100, .ref (am 10), .long 0, .int 0, .int 0, .int 0, .int 0, .long 0])), (am 1, .inr (4, [.int 1, .ref (am 2), .int 1])), (am 2, .inl (cy 10, 10, .inr (.inr (.inr (.inr (va_up (fun _ => none) 0 (some (am 3)))))))), (am 3, .inr (15, [.int 104, .int 4, .int 0, .int 1, .int 0, .int 0, .int 99, .int (-1), .int 0, .int 0, .int (-1), .int 0, .int 0, .ref (am 11), .ref (am 12), .ref (am 13)])), (am 4, .inl (cy 9, 12, .inr (.inr (.inr (.inr (fun _ => none)))))), (am 5, .inr (4, [.int 0, .ref eda, .int 0])), (am 7, .inr (4, [.int 0, .ref eda, .int 0])), (am 8, .inl (cy 0, 0, .inl (fun _ => 0))), (am 9, .inr (4, [.int 0, .ref eda, .int 0])), (am 10, .inl (cy 0, 16, .inl (fun _ => 0))), (am 11, .inl (cy 8, 4, .inr (.inr (.inr (.inr (fun _ => none)))))), (am 12, .inl (cy 1, 4, .inl (fun _ => 0))), (am 13, .inl (cy 0, 4, .inl (fun _ => 0)))]) (wc := [(am 6, .inr (4, [.int 0, .ref eda, .int 0]))]) (As := []) (rest := []) ⟨hx, hb, hml, hown, hts⟩ (m_clear l D cy (am 6) eda _ 0 ) (cwV 0 hts gX14_wipe_Jx4a65c_clear_da8c8 rfl rfl rfl (by decide +kernel) ⟨by decide, by decide⟩) hK hN hP hD hS hA (ci := 4) (q0 := 0) rfl rfl rfl rfl hl.1 rfl (Nat.le_of_ble_eq_true rfl) dX14_wipe_17 ⟨Nat.le_of_ble_eq_true rfl, Nat.le_of_ble_eq_true rfl⟩ (fun H locs hB hJ hS => ?_)
  obtain ⟨hP1, hD1⟩ := hB
  obtain ⟨hP, hD⟩ := hJ _ hP1 hD1
  have hP : va_P D vwCl ([(am 0, .inr (19, [.int 0, .ref (am 1), .ref (am 4), .ref (am 5), .ref (am 6), .ref (am 7), .ref (am 8), .int 0, .ref (am 9), .int 0, .int (-1), .int 100, .ref (am 10), .long 0, .int 0, .int 0, .int 0, .int 0, .long 0])), (am 1, .inr (4, [.int 1, .ref (am 2), .int 1])), (am 2, .inl (cy 10, 10, .inr (.inr (.inr (.inr (va_up (fun _ => none) 0 (some (am 3)))))))), (am 3, .inr (15, [.int 104, .int 4, .int 0, .int 1, .int 0, .int 0, .int 99, .int (-1), .int 0, .int 0, .int (-1), .int 0, .int 0, .ref (am 11), .ref (am 12), .ref (am 13)])), (am 4, .inl (cy 9, 12, .inr (.inr (.inr (.inr (fun _ => none)))))), (am 5, .inr (4, [.int 0, .ref eda, .int 0])), (am 7, .inr (4, [.int 0, .ref eda, .int 0])), (am 8, .inl (cy 0, 0, .inl (fun _ => 0))), (am 9, .inr (4, [.int 0, .ref eda, .int 0])), (am 10, .inl (cy 0, 16, .inl (fun _ => 0))), (am 11, .inl (cy 8, 4, .inr (.inr (.inr (.inr (fun _ => none)))))), (am 12, .inl (cy 1, 4, .inl (fun _ => 0))), (am 13, .inl (cy 0, 4, .inl (fun _ => 0))), (am 6, .inr (4, [.int 1, .ref eda, .int 0]))]) H := hP
  have hD : va_D A ([(am 0, .inr (19, [.int 0, .ref (am 1), .ref (am 4), .ref (am 5), .ref (am 6), .ref (am 7), .ref (am 8), .int 0, .ref (am 9), .int 0, .int (-1), .int 100, .ref (am 10), .long 0, .int 0, .int 0, .int 0, .int 0, .long 0])), (am 1, .inr (4, [.int 1, .ref (am 2), .int 1])), (am 2, .inl (cy 10, 10, .inr (.inr (.inr (.inr (va_up (fun _ => none) 0 (some (am 3)))))))), (am 3, .inr (15, [.int 104, .int 4, .int 0, .int 1, .int 0, .int 0, .int 99, .int (-1), .int 0, .int 0, .int (-1), .int 0, .int 0, .ref (am 11), .ref (am 12), .ref (am 13)])), (am 4, .inl (cy 9, 12, .inr (.inr (.inr (.inr (fun _ => none)))))), (am 5, .inr (4, [.int 0, .ref eda, .int 0])), (am 7, .inr (4, [.int 0, .ref eda, .int 0])), (am 8, .inl (cy 0, 0, .inl (fun _ => 0))), (am 9, .inr (4, [.int 0, .ref eda, .int 0])), (am 10, .inl (cy 0, 16, .inl (fun _ => 0))), (am 11, .inl (cy 8, 4, .inr (.inr (.inr (.inr (fun _ => none)))))), (am 12, .inl (cy 1, 4, .inl (fun _ => 0))), (am 13, .inl (cy 0, 4, .inl (fun _ => 0))), (am 6, .inr (4, [.int 1, .ref eda, .int 0]))]) := hD
  refine lv_iload_n hx hb dX14_wipe_20 rfl (lv_at hl 0 rfl) ?_
  refine W.widen (k := 0) (n := 0) (Nat.le_of_ble_eq_true rfl) (Nat.le_of_ble_eq_true rfl) ?_
  have hP9 := hP.sub (ws' := [(am 0, .inr (19, [.int 0, .ref (am 1), .ref (am 4), .ref (am 5), .ref (am 6), .ref (am 7), .ref (am 8), .int 0, .ref (am 9), .int 0, .int (-1), .int 100, .ref (am 10), .long 0, .int 0, .int 0, .int 0, .int 0, .long 0]))]) [0] rfl
  have hD9 := hD.sub (ws' := [(am 0, .inr (19, [.int 0, .ref (am 1), .ref (am 4), .ref (am 5), .ref (am 6), .ref (am 7), .ref (am 8), .int 0, .ref (am 9), .int 0, .int (-1), .int 100, .ref (am 10), .long 0, .int 0, .int 0, .int 0, .int 0, .long 0]))]) [0] (by decide) rfl
  exact W.iret hx hb hr (fun t ht hW => ⟨rfl, ⟨by rw [ht]; exact hP9, hD9⟩, hS.F ht⟩) hS.2.2 dX14_wipe_21

theorem iw_X14_sixteen_RX14 : ∀ w ∈ u_ws RX14 TX14 19, w ∈ wsX14_sixteen := by decide +kernel
set_option maxRecDepth 100000 in
set_option maxHeartbeats 4000000 in
theorem a_sixteen (l : Launch) (D : va_G) (cy : Nat → ClassId) {ca : Nat} {ia : Nat → Nat} {am : Nat → Nat} {eda : Nat} {th : Int32} (sz : Nat) : MJ l D cy eda ca ia (WM cy am eda th) sz yX14_sixteen wsX14_sixteen 3 1 4 53 [.ref (am 0)] (some (.int 0)) (fun H => va_P D vwCl ([(am 0, .inr (19, [.int 0, .ref (am 1), .ref (am 4), .ref (am 5), .ref (am 6), .ref (am 7), .ref (am 8), .int 0, .ref (am 9), .int 0, .int (-1), .int 100, .ref (am 10), .long 0, .int 0, .int 0, .int 0, .int 0, .long 0]))]) H ∧ va_D (va_A (WM cy am eda th) sz) ([(am 0, .inr (19, [.int 0, .ref (am 1), .ref (am 4), .ref (am 5), .ref (am 6), .ref (am 7), .ref (am 8), .int 0, .ref (am 9), .int 0, .int (-1), .int 100, .ref (am 10), .long 0, .int 0, .int 0, .int 0, .int 0, .long 0]))])) := by
  refine ro_ofW (cc := cX14_sixteen) (maxL := 5) (ret := (some .int)) (lv := [(0, .ref (am 0))]) (by decide) rfl (Nat.le_of_ble_eq_true rfl) rfl ?_
  intro p e s m below meth c ls hx hb hr hml hown hlocks hname hts hv hl
  have hown : s.vm.findClass RX14 = some m.cls := hown
  obtain ⟨⟨⟨hsz, hP, hD0⟩, hK, hN⟩, hJS⟩ := hv
  subst hsz
  have hD := hD0.self (sz := s.heap.size)
  generalize hAe : va_A (WM cy am eda th) s.heap.size = A at hD hJS ⊢
  have hA : ∀ q : Nat, s.heap.size ≤ q → A q := fun q h => by rw [← hAe]; exact Or.inr h
  have hS : va_S A s.heap s.heap [] := va_S.rf
  refine lv_aload_n hx hb dX14_sixteen_0 rfl (lv_at hl 0 rfl) ?_
  refine lv_iconst (v := 0) hx hb dX14_sixteen_1 (by decide) ?_
  refine va_put (D := D) (ci := 19) (v := .int 0) (ty := .int) (C := RX14) (T := TX14) (N := 19) hx hb hts iw_X14_sixteen_RX14 tyX14 tyX14_ok nmX14 hown hK hP hD hS 0 rfl rfl 0 (by decide) (hts (.fieldLink RX14 61 "HubcascadeModel" "thrown" "I") (by decide +kernel)) (fun _ h9 => h9) rfl (by decide +kernel) rfl rfl (Nat.le_of_ble_eq_true rfl) dX14_sixteen_2 (fun H locs hP hD hS => ?_)
  have hP : va_P D vwCl (WM cy am eda 0) H := hP
  have hD : va_D A (WM cy am eda 0) := hD
  refine lv_ldc hx hb hown (hts (.constant RX14 221 (65535)) (by decide +kernel)) dX14_sixteen_5 ?_
  refine lv_istore_n (lv' := [(1, .int 65535), (0, .ref (am 0))]) hx hb dX14_sixteen_7 rfl hl (by decide) rfl (fun ls hl => ?_)
  refine lv_aload_n hx hb dX14_sixteen_8 rfl (lv_at hl 1 rfl) ?_
  refine va_get (D := D) (ci := 19) (v := .ref (am 6)) (C := RX14) (T := TX14) (N := 19) hx hb hts iw_X14_sixteen_RX14 hown hK hP 0 rfl rfl 4 (by decide) (hts (.fieldLink RX14 25 "HubcascadeModel" "typed" "Ljava/util/ArrayList;") (by decide +kernel)) (fun _ h9 => h9) rfl dX14_sixteen_9 ?_
  have hP := hP.sub (ws' := [(am 0, .inr (19, [.int 0, .ref (am 1), .ref (am 4), .ref (am 5), .ref (am 6), .ref (am 7), .ref (am 8), .int 0, .ref (am 9), .int 0, .int (-1), .int 100, .ref (am 10), .long 0, .int 0, .int 0, .int 0, .int 0, .long 0])), (am 1, .inr (4, [.int 1, .ref (am 2), .int 1])), (am 2, .inl (cy 10, 10, .inr (.inr (.inr (.inr (va_up (fun _ => none) 0 (some (am 3)))))))), (am 3, .inr (15, [.int 104, .int 4, .int 0, .int 1, .int 0, .int 0, .int 99, .int (-1), .int 0, .int 0, .int (-1), .int 0, .int 0, .ref (am 11), .ref (am 12), .ref (am 13)])), (am 4, .inl (cy 9, 12, .inr (.inr (.inr (.inr (fun _ => none)))))), (am 5, .inr (4, [.int 0, .ref eda, .int 0])), (am 7, .inr (4, [.int 0, .ref eda, .int 0])), (am 8, .inl (cy 0, 0, .inl (fun _ => 0))), (am 9, .inr (4, [.int 0, .ref eda, .int 0])), (am 10, .inl (cy 0, 16, .inl (fun _ => 0))), (am 11, .inl (cy 8, 4, .inr (.inr (.inr (.inr (fun _ => none)))))), (am 12, .inl (cy 1, 4, .inl (fun _ => 0))), (am 13, .inl (cy 0, 4, .inl (fun _ => 0))), (am 6, .inr (4, [.int 0, .ref eda, .int 0]))]) [0, 1, 2, 3, 4, 5, 7, 8, 9, 10, 11, 12, 13, 6] rfl
  have hD := hD.sub (ws' := [(am 0, .inr (19, [.int 0, .ref (am 1), .ref (am 4), .ref (am 5), .ref (am 6), .ref (am 7), .ref (am 8), .int 0, .ref (am 9), .int 0, .int (-1), .int 100, .ref (am 10), .long 0, .int 0, .int 0, .int 0, .int 0, .long 0])), (am 1, .inr (4, [.int 1, .ref (am 2), .int 1])), (am 2, .inl (cy 10, 10, .inr (.inr (.inr (.inr (va_up (fun _ => none) 0 (some (am 3)))))))), (am 3, .inr (15, [.int 104, .int 4, .int 0, .int 1, .int 0, .int 0, .int 99, .int (-1), .int 0, .int 0, .int (-1), .int 0, .int 0, .ref (am 11), .ref (am 12), .ref (am 13)])), (am 4, .inl (cy 9, 12, .inr (.inr (.inr (.inr (fun _ => none)))))), (am 5, .inr (4, [.int 0, .ref eda, .int 0])), (am 7, .inr (4, [.int 0, .ref eda, .int 0])), (am 8, .inl (cy 0, 0, .inl (fun _ => 0))), (am 9, .inr (4, [.int 0, .ref eda, .int 0])), (am 10, .inl (cy 0, 16, .inl (fun _ => 0))), (am 11, .inl (cy 8, 4, .inr (.inr (.inr (.inr (fun _ => none)))))), (am 12, .inl (cy 1, 4, .inl (fun _ => 0))), (am 13, .inl (cy 0, 4, .inl (fun _ => 0))), (am 6, .inr (4, [.int 0, .ref eda, .int 0]))]) [0, 1, 2, 3, 4, 5, 7, 8, 9, 10, 11, 12, 13, 6] (by decide) rfl
  refine mr_callV (wr := [(am 0, .inr (19, [.int 0, .ref (am 1), .ref (am 4), .ref (am 5), .ref (am 6), .ref (am 7), .ref (am 8), .int 0, .ref (am 9), .int 0, .int (-1), .int 100, .ref (am 10), .long 0, .int 0, .int 0, .int 0, .int 0, .long 0])), (am 1, .inr (4, [.int 1, .ref (am 2), .int 1])), (am 2, .inl (cy 10, 10, .inr (.inr (.inr (.inr (va_up (fun _ => none) 0 (some (am 3)))))))), (am 3, .inr (15, [.int 104, .int 4, .int 0, .int 1, .int 0, .int 0, .int 99, .int (-1), .int 0, .int 0, .int (-1), .int 0, .int 0, .ref (am 11), .ref (am 12), .ref (am 13)])), (am 4, .inl (cy 9, 12, .inr (.inr (.inr (.inr (fun _ => none)))))), (am 5, .inr (4, [.int 0, .ref eda, .int 0])), (am 7, .inr (4, [.int 0, .ref eda, .int 0])), (am 8, .inl (cy 0, 0, .inl (fun _ => 0))), (am 9, .inr (4, [.int 0, .ref eda, .int 0])), (am 10, .inl (cy 0, 16, .inl (fun _ => 0))), (am 11, .inl (cy 8, 4, .inr (.inr (.inr (.inr (fun _ => none)))))), (am 12, .inl (cy 1, 4, .inl (fun _ => 0))), (am 13, .inl (cy 0, 4, .inl (fun _ => 0)))]) (wc := [(am 6, .inr (4, [.int 0, .ref eda, .int 0]))]) (As := []) (rest := []) ⟨hx, hb, hml, hown, hts⟩ (m_iter l D cy (am 6) eda _ 0 0 ) (cwV 0 hts gX14_sixteen_Jx4a65c_iterator_32c93 rfl rfl rfl (by decide +kernel) ⟨by decide, by decide⟩) hK hN hP hD hS hA hJS (ci := 4) (q0 := 0) rfl rfl rfl rfl hl.1 rfl (Nat.le_of_ble_eq_true rfl) dX14_sixteen_12 ⟨Nat.le_of_ble_eq_true rfl, Nat.le_of_ble_eq_true rfl⟩ (fun q1 H locs hB hJ hS => ?_)
  obtain ⟨hP1, hD1⟩ := hB
  obtain ⟨hP, hD⟩ := hJ _ hP1 hD1
  have hP : va_P D vwCl ([(am 0, .inr (19, [.int 0, .ref (am 1), .ref (am 4), .ref (am 5), .ref (am 6), .ref (am 7), .ref (am 8), .int 0, .ref (am 9), .int 0, .int (-1), .int 100, .ref (am 10), .long 0, .int 0, .int 0, .int 0, .int 0, .long 0])), (am 1, .inr (4, [.int 1, .ref (am 2), .int 1])), (am 2, .inl (cy 10, 10, .inr (.inr (.inr (.inr (va_up (fun _ => none) 0 (some (am 3)))))))), (am 3, .inr (15, [.int 104, .int 4, .int 0, .int 1, .int 0, .int 0, .int 99, .int (-1), .int 0, .int 0, .int (-1), .int 0, .int 0, .ref (am 11), .ref (am 12), .ref (am 13)])), (am 4, .inl (cy 9, 12, .inr (.inr (.inr (.inr (fun _ => none)))))), (am 5, .inr (4, [.int 0, .ref eda, .int 0])), (am 7, .inr (4, [.int 0, .ref eda, .int 0])), (am 8, .inl (cy 0, 0, .inl (fun _ => 0))), (am 9, .inr (4, [.int 0, .ref eda, .int 0])), (am 10, .inl (cy 0, 16, .inl (fun _ => 0))), (am 11, .inl (cy 8, 4, .inr (.inr (.inr (.inr (fun _ => none)))))), (am 12, .inl (cy 1, 4, .inl (fun _ => 0))), (am 13, .inl (cy 0, 4, .inl (fun _ => 0))), (am 6, .inr (4, [.int 0, .ref eda, .int 0])), (q1, .inr (3, [.int 0, .int (-1), .int 0, .ref (am 6)]))]) H := hP
  have hD : va_D A ([(am 0, .inr (19, [.int 0, .ref (am 1), .ref (am 4), .ref (am 5), .ref (am 6), .ref (am 7), .ref (am 8), .int 0, .ref (am 9), .int 0, .int (-1), .int 100, .ref (am 10), .long 0, .int 0, .int 0, .int 0, .int 0, .long 0])), (am 1, .inr (4, [.int 1, .ref (am 2), .int 1])), (am 2, .inl (cy 10, 10, .inr (.inr (.inr (.inr (va_up (fun _ => none) 0 (some (am 3)))))))), (am 3, .inr (15, [.int 104, .int 4, .int 0, .int 1, .int 0, .int 0, .int 99, .int (-1), .int 0, .int 0, .int (-1), .int 0, .int 0, .ref (am 11), .ref (am 12), .ref (am 13)])), (am 4, .inl (cy 9, 12, .inr (.inr (.inr (.inr (fun _ => none)))))), (am 5, .inr (4, [.int 0, .ref eda, .int 0])), (am 7, .inr (4, [.int 0, .ref eda, .int 0])), (am 8, .inl (cy 0, 0, .inl (fun _ => 0))), (am 9, .inr (4, [.int 0, .ref eda, .int 0])), (am 10, .inl (cy 0, 16, .inl (fun _ => 0))), (am 11, .inl (cy 8, 4, .inr (.inr (.inr (.inr (fun _ => none)))))), (am 12, .inl (cy 1, 4, .inl (fun _ => 0))), (am 13, .inl (cy 0, 4, .inl (fun _ => 0))), (am 6, .inr (4, [.int 0, .ref eda, .int 0])), (q1, .inr (3, [.int 0, .int (-1), .int 0, .ref (am 6)]))]) := hD
  refine lv_astore_n (lv' := [(2, .ref q1), (1, .int 65535), (0, .ref (am 0))]) hx hb dX14_sixteen_15 rfl hl (by decide) rfl (fun ls hl => ?_)
  refine lv_aload_n hx hb dX14_sixteen_16 rfl (lv_at hl 0 rfl) ?_
  refine ro_callF (As := []) (rest := []) ⟨hx, hb, hml, hown, hts⟩ (c_hasNext0 l D cy _ 14 13 q1 (am 6) eda 0 (-1) 0 0 0 rfl rfl (by decide)) (va_cwF 0 hts gX14_sixteen_Jx35411_hasNext_aae02_f112Jx35411 rfl rfl rfl hJS.2.2.2.2.2.2.1 (by decide +kernel) ⟨by decide, by decide⟩) hK hN hP hS (ci := 3) (q0 := 14) rfl rfl rfl rfl hl.1 rfl (Nat.le_of_ble_eq_true rfl) dX14_sixteen_17 ⟨Nat.le_of_ble_eq_true rfl, Nat.le_of_ble_eq_true rfl⟩ (fun H locs hP hS => ?_)
  refine lv_if_eq (tgt := 72) hx hb dX14_sixteen_22 (by decide) (fun _ => ?_) (fun c => absurd (by decide) c)
  refine lv_ldc hx hb hown (hts (.constant RX14 221 (65535)) (by decide +kernel)) dX14_sixteen_72 ?_
  refine lv_iload_n hx hb dX14_sixteen_74 rfl (lv_at hl 1 rfl) ?_
  refine lv_isub hx hb dX14_sixteen_75 ?_
  refine lv_topi (fun y ey => ?_)
  obtain rfl : y = 0 := ey.trans (by decide)
  refine W.widen (k := 1) (n := 4) (Nat.le_of_ble_eq_true rfl) (Nat.le_of_ble_eq_true rfl) ?_
  have hP9 := hP.sub (ws' := [(am 0, .inr (19, [.int 0, .ref (am 1), .ref (am 4), .ref (am 5), .ref (am 6), .ref (am 7), .ref (am 8), .int 0, .ref (am 9), .int 0, .int (-1), .int 100, .ref (am 10), .long 0, .int 0, .int 0, .int 0, .int 0, .long 0]))]) [0] rfl
  have hD9 := hD.sub (ws' := [(am 0, .inr (19, [.int 0, .ref (am 1), .ref (am 4), .ref (am 5), .ref (am 6), .ref (am 7), .ref (am 8), .int 0, .ref (am 9), .int 0, .int (-1), .int 100, .ref (am 10), .long 0, .int 0, .int 0, .int 0, .int 0, .long 0]))]) [0] (by decide) rfl
  exact W.iret hx hb hr (fun t ht hW => ⟨rfl, ⟨by rw [ht]; exact hP9, hD9⟩, hS.F ht⟩) hS.2.2 dX14_sixteen_76

theorem iw_X14_stuffed_RX14 : ∀ w ∈ u_ws RX14 TX14 19, w ∈ wsX14_stuffed := by decide +kernel
set_option maxRecDepth 100000 in
set_option maxHeartbeats 4000000 in
theorem a_stuffed (l : Launch) (D : va_G) (cy : Nat → ClassId) {ca : Nat} {ia : Nat → Nat} {am : Nat → Nat} {eda : Nat} {th : Int32} (sz : Nat) : MJ l D cy eda ca ia (WM cy am eda th) sz yX14_stuffed wsX14_stuffed 3 1 4 53 [.ref (am 0)] (some (.int 0)) (fun H => va_P D vwCl ([(am 0, .inr (19, [.int 0, .ref (am 1), .ref (am 4), .ref (am 5), .ref (am 6), .ref (am 7), .ref (am 8), .int 0, .ref (am 9), .int 0, .int (-1), .int 100, .ref (am 10), .long 0, .int 0, .int 0, .int 0, .int 0, .long 0]))]) H ∧ va_D (va_A (WM cy am eda th) sz) ([(am 0, .inr (19, [.int 0, .ref (am 1), .ref (am 4), .ref (am 5), .ref (am 6), .ref (am 7), .ref (am 8), .int 0, .ref (am 9), .int 0, .int (-1), .int 100, .ref (am 10), .long 0, .int 0, .int 0, .int 0, .int 0, .long 0]))])) := by
  refine ro_ofW (cc := cX14_stuffed) (maxL := 6) (ret := (some .int)) (lv := [(0, .ref (am 0))]) (by decide) rfl (Nat.le_of_ble_eq_true rfl) rfl ?_
  intro p e s m below meth c ls hx hb hr hml hown hlocks hname hts hv hl
  have hown : s.vm.findClass RX14 = some m.cls := hown
  obtain ⟨⟨⟨hsz, hP, hD0⟩, hK, hN⟩, hJS⟩ := hv
  subst hsz
  have hD := hD0.self (sz := s.heap.size)
  generalize hAe : va_A (WM cy am eda th) s.heap.size = A at hD hJS ⊢
  have hA : ∀ q : Nat, s.heap.size ≤ q → A q := fun q h => by rw [← hAe]; exact Or.inr h
  have hS : va_S A s.heap s.heap [] := va_S.rf
  refine lv_aload_n hx hb dX14_stuffed_0 rfl (lv_at hl 0 rfl) ?_
  refine lv_iconst (v := 0) hx hb dX14_stuffed_1 (by decide) ?_
  refine va_put (D := D) (ci := 19) (v := .int 0) (ty := .int) (C := RX14) (T := TX14) (N := 19) hx hb hts iw_X14_stuffed_RX14 tyX14 tyX14_ok nmX14 hown hK hP hD hS 0 rfl rfl 0 (by decide) (hts (.fieldLink RX14 61 "HubcascadeModel" "thrown" "I") (by decide +kernel)) (fun _ h9 => h9) rfl (by decide +kernel) rfl rfl (Nat.le_of_ble_eq_true rfl) dX14_stuffed_2 (fun H locs hP hD hS => ?_)
  have hP : va_P D vwCl (WM cy am eda 0) H := hP
  have hD : va_D A (WM cy am eda 0) := hD
  refine lv_iconst (v := 0) hx hb dX14_stuffed_5 (by decide) ?_
  refine lv_istore_n (lv' := [(1, .int 0), (0, .ref (am 0))]) hx hb dX14_stuffed_6 rfl hl (by decide) rfl (fun ls hl => ?_)
  refine lv_iconst (v := 0) hx hb dX14_stuffed_7 (by decide) ?_
  refine lv_istore_n (lv' := [(2, .int 0), (1, .int 0), (0, .ref (am 0))]) hx hb dX14_stuffed_8 rfl hl (by decide) rfl (fun ls hl => ?_)
  refine lv_aload_n hx hb dX14_stuffed_9 rfl (lv_at hl 2 rfl) ?_
  refine va_get (D := D) (ci := 19) (v := .ref (am 6)) (C := RX14) (T := TX14) (N := 19) hx hb hts iw_X14_stuffed_RX14 hown hK hP 0 rfl rfl 4 (by decide) (hts (.fieldLink RX14 25 "HubcascadeModel" "typed" "Ljava/util/ArrayList;") (by decide +kernel)) (fun _ h9 => h9) rfl dX14_stuffed_10 ?_
  have hP := hP.sub (ws' := [(am 0, .inr (19, [.int 0, .ref (am 1), .ref (am 4), .ref (am 5), .ref (am 6), .ref (am 7), .ref (am 8), .int 0, .ref (am 9), .int 0, .int (-1), .int 100, .ref (am 10), .long 0, .int 0, .int 0, .int 0, .int 0, .long 0])), (am 1, .inr (4, [.int 1, .ref (am 2), .int 1])), (am 2, .inl (cy 10, 10, .inr (.inr (.inr (.inr (va_up (fun _ => none) 0 (some (am 3)))))))), (am 3, .inr (15, [.int 104, .int 4, .int 0, .int 1, .int 0, .int 0, .int 99, .int (-1), .int 0, .int 0, .int (-1), .int 0, .int 0, .ref (am 11), .ref (am 12), .ref (am 13)])), (am 4, .inl (cy 9, 12, .inr (.inr (.inr (.inr (fun _ => none)))))), (am 5, .inr (4, [.int 0, .ref eda, .int 0])), (am 7, .inr (4, [.int 0, .ref eda, .int 0])), (am 8, .inl (cy 0, 0, .inl (fun _ => 0))), (am 9, .inr (4, [.int 0, .ref eda, .int 0])), (am 10, .inl (cy 0, 16, .inl (fun _ => 0))), (am 11, .inl (cy 8, 4, .inr (.inr (.inr (.inr (fun _ => none)))))), (am 12, .inl (cy 1, 4, .inl (fun _ => 0))), (am 13, .inl (cy 0, 4, .inl (fun _ => 0))), (am 6, .inr (4, [.int 0, .ref eda, .int 0]))]) [0, 1, 2, 3, 4, 5, 7, 8, 9, 10, 11, 12, 13, 6] rfl
  have hD := hD.sub (ws' := [(am 0, .inr (19, [.int 0, .ref (am 1), .ref (am 4), .ref (am 5), .ref (am 6), .ref (am 7), .ref (am 8), .int 0, .ref (am 9), .int 0, .int (-1), .int 100, .ref (am 10), .long 0, .int 0, .int 0, .int 0, .int 0, .long 0])), (am 1, .inr (4, [.int 1, .ref (am 2), .int 1])), (am 2, .inl (cy 10, 10, .inr (.inr (.inr (.inr (va_up (fun _ => none) 0 (some (am 3)))))))), (am 3, .inr (15, [.int 104, .int 4, .int 0, .int 1, .int 0, .int 0, .int 99, .int (-1), .int 0, .int 0, .int (-1), .int 0, .int 0, .ref (am 11), .ref (am 12), .ref (am 13)])), (am 4, .inl (cy 9, 12, .inr (.inr (.inr (.inr (fun _ => none)))))), (am 5, .inr (4, [.int 0, .ref eda, .int 0])), (am 7, .inr (4, [.int 0, .ref eda, .int 0])), (am 8, .inl (cy 0, 0, .inl (fun _ => 0))), (am 9, .inr (4, [.int 0, .ref eda, .int 0])), (am 10, .inl (cy 0, 16, .inl (fun _ => 0))), (am 11, .inl (cy 8, 4, .inr (.inr (.inr (.inr (fun _ => none)))))), (am 12, .inl (cy 1, 4, .inl (fun _ => 0))), (am 13, .inl (cy 0, 4, .inl (fun _ => 0))), (am 6, .inr (4, [.int 0, .ref eda, .int 0]))]) [0, 1, 2, 3, 4, 5, 7, 8, 9, 10, 11, 12, 13, 6] (by decide) rfl
  refine mr_callV (wr := [(am 0, .inr (19, [.int 0, .ref (am 1), .ref (am 4), .ref (am 5), .ref (am 6), .ref (am 7), .ref (am 8), .int 0, .ref (am 9), .int 0, .int (-1), .int 100, .ref (am 10), .long 0, .int 0, .int 0, .int 0, .int 0, .long 0])), (am 1, .inr (4, [.int 1, .ref (am 2), .int 1])), (am 2, .inl (cy 10, 10, .inr (.inr (.inr (.inr (va_up (fun _ => none) 0 (some (am 3)))))))), (am 3, .inr (15, [.int 104, .int 4, .int 0, .int 1, .int 0, .int 0, .int 99, .int (-1), .int 0, .int 0, .int (-1), .int 0, .int 0, .ref (am 11), .ref (am 12), .ref (am 13)])), (am 4, .inl (cy 9, 12, .inr (.inr (.inr (.inr (fun _ => none)))))), (am 5, .inr (4, [.int 0, .ref eda, .int 0])), (am 7, .inr (4, [.int 0, .ref eda, .int 0])), (am 8, .inl (cy 0, 0, .inl (fun _ => 0))), (am 9, .inr (4, [.int 0, .ref eda, .int 0])), (am 10, .inl (cy 0, 16, .inl (fun _ => 0))), (am 11, .inl (cy 8, 4, .inr (.inr (.inr (.inr (fun _ => none)))))), (am 12, .inl (cy 1, 4, .inl (fun _ => 0))), (am 13, .inl (cy 0, 4, .inl (fun _ => 0)))]) (wc := [(am 6, .inr (4, [.int 0, .ref eda, .int 0]))]) (As := []) (rest := []) ⟨hx, hb, hml, hown, hts⟩ (m_iter l D cy (am 6) eda _ 0 0 ) (cwV 0 hts gX14_stuffed_Jx4a65c_iterator_32c93 rfl rfl rfl (by decide +kernel) ⟨by decide, by decide⟩) hK hN hP hD hS hA hJS (ci := 4) (q0 := 0) rfl rfl rfl rfl hl.1 rfl (Nat.le_of_ble_eq_true rfl) dX14_stuffed_13 ⟨Nat.le_of_ble_eq_true rfl, Nat.le_of_ble_eq_true rfl⟩ (fun q1 H locs hB hJ hS => ?_)
  obtain ⟨hP1, hD1⟩ := hB
  obtain ⟨hP, hD⟩ := hJ _ hP1 hD1
  have hP : va_P D vwCl ([(am 0, .inr (19, [.int 0, .ref (am 1), .ref (am 4), .ref (am 5), .ref (am 6), .ref (am 7), .ref (am 8), .int 0, .ref (am 9), .int 0, .int (-1), .int 100, .ref (am 10), .long 0, .int 0, .int 0, .int 0, .int 0, .long 0])), (am 1, .inr (4, [.int 1, .ref (am 2), .int 1])), (am 2, .inl (cy 10, 10, .inr (.inr (.inr (.inr (va_up (fun _ => none) 0 (some (am 3)))))))), (am 3, .inr (15, [.int 104, .int 4, .int 0, .int 1, .int 0, .int 0, .int 99, .int (-1), .int 0, .int 0, .int (-1), .int 0, .int 0, .ref (am 11), .ref (am 12), .ref (am 13)])), (am 4, .inl (cy 9, 12, .inr (.inr (.inr (.inr (fun _ => none)))))), (am 5, .inr (4, [.int 0, .ref eda, .int 0])), (am 7, .inr (4, [.int 0, .ref eda, .int 0])), (am 8, .inl (cy 0, 0, .inl (fun _ => 0))), (am 9, .inr (4, [.int 0, .ref eda, .int 0])), (am 10, .inl (cy 0, 16, .inl (fun _ => 0))), (am 11, .inl (cy 8, 4, .inr (.inr (.inr (.inr (fun _ => none)))))), (am 12, .inl (cy 1, 4, .inl (fun _ => 0))), (am 13, .inl (cy 0, 4, .inl (fun _ => 0))), (am 6, .inr (4, [.int 0, .ref eda, .int 0])), (q1, .inr (3, [.int 0, .int (-1), .int 0, .ref (am 6)]))]) H := hP
  have hD : va_D A ([(am 0, .inr (19, [.int 0, .ref (am 1), .ref (am 4), .ref (am 5), .ref (am 6), .ref (am 7), .ref (am 8), .int 0, .ref (am 9), .int 0, .int (-1), .int 100, .ref (am 10), .long 0, .int 0, .int 0, .int 0, .int 0, .long 0])), (am 1, .inr (4, [.int 1, .ref (am 2), .int 1])), (am 2, .inl (cy 10, 10, .inr (.inr (.inr (.inr (va_up (fun _ => none) 0 (some (am 3)))))))), (am 3, .inr (15, [.int 104, .int 4, .int 0, .int 1, .int 0, .int 0, .int 99, .int (-1), .int 0, .int 0, .int (-1), .int 0, .int 0, .ref (am 11), .ref (am 12), .ref (am 13)])), (am 4, .inl (cy 9, 12, .inr (.inr (.inr (.inr (fun _ => none)))))), (am 5, .inr (4, [.int 0, .ref eda, .int 0])), (am 7, .inr (4, [.int 0, .ref eda, .int 0])), (am 8, .inl (cy 0, 0, .inl (fun _ => 0))), (am 9, .inr (4, [.int 0, .ref eda, .int 0])), (am 10, .inl (cy 0, 16, .inl (fun _ => 0))), (am 11, .inl (cy 8, 4, .inr (.inr (.inr (.inr (fun _ => none)))))), (am 12, .inl (cy 1, 4, .inl (fun _ => 0))), (am 13, .inl (cy 0, 4, .inl (fun _ => 0))), (am 6, .inr (4, [.int 0, .ref eda, .int 0])), (q1, .inr (3, [.int 0, .int (-1), .int 0, .ref (am 6)]))]) := hD
  refine lv_astore_n (lv' := [(3, .ref q1), (2, .int 0), (1, .int 0), (0, .ref (am 0))]) hx hb dX14_stuffed_16 rfl hl (by decide) rfl (fun ls hl => ?_)
  refine lv_aload_n hx hb dX14_stuffed_17 rfl (lv_at hl 0 rfl) ?_
  refine ro_callF (As := []) (rest := []) ⟨hx, hb, hml, hown, hts⟩ (c_hasNext0 l D cy _ 14 13 q1 (am 6) eda 0 (-1) 0 0 0 rfl rfl (by decide)) (va_cwF 0 hts gX14_stuffed_Jx35411_hasNext_aae02_f112Jx35411 rfl rfl rfl hJS.2.2.2.2.2.2.1 (by decide +kernel) ⟨by decide, by decide⟩) hK hN hP hS (ci := 3) (q0 := 14) rfl rfl rfl rfl hl.1 rfl (Nat.le_of_ble_eq_true rfl) dX14_stuffed_18 ⟨Nat.le_of_ble_eq_true rfl, Nat.le_of_ble_eq_true rfl⟩ (fun H locs hP hS => ?_)
  refine lv_if_eq (tgt := 107) hx hb dX14_stuffed_23 (by decide) (fun _ => ?_) (fun c => absurd (by decide) c)
  refine lv_iload_n hx hb dX14_stuffed_107 rfl (lv_at hl 2 rfl) ?_
  refine W.widen (k := 1) (n := 4) (Nat.le_of_ble_eq_true rfl) (Nat.le_of_ble_eq_true rfl) ?_
  have hP9 := hP.sub (ws' := [(am 0, .inr (19, [.int 0, .ref (am 1), .ref (am 4), .ref (am 5), .ref (am 6), .ref (am 7), .ref (am 8), .int 0, .ref (am 9), .int 0, .int (-1), .int 100, .ref (am 10), .long 0, .int 0, .int 0, .int 0, .int 0, .long 0]))]) [0] rfl
  have hD9 := hD.sub (ws' := [(am 0, .inr (19, [.int 0, .ref (am 1), .ref (am 4), .ref (am 5), .ref (am 6), .ref (am 7), .ref (am 8), .int 0, .ref (am 9), .int 0, .int (-1), .int 100, .ref (am 10), .long 0, .int 0, .int 0, .int 0, .int 0, .long 0]))]) [0] (by decide) rfl
  exact W.iret hx hb hr (fun t ht hW => ⟨rfl, ⟨by rw [ht]; exact hP9, hD9⟩, hS.F ht⟩) hS.2.2 dX14_stuffed_108

theorem iw_X14_open_RX14 : ∀ w ∈ u_ws RX14 TX14 19, w ∈ wsX14_open := by decide +kernel
set_option maxRecDepth 100000 in
set_option maxHeartbeats 4000000 in
theorem a_open_1 (l : Launch) (D : va_G) (cy : Nat → ClassId) {ca : Nat} {ia : Nat → Nat} {am : Nat → Nat} {eda : Nat} {th : Int32} (sz : Nat) (d n q z : Int32) : MJ l D cy eda ca ia (WM cy am eda th) sz yX14_open wsX14_open 4 0 0 86 [.ref (am 0), .int d, .int n, .int q, .int z] (some (.int 0)) (fun H => va_P D vwCl ([(am 0, .inr (19, [.int 1, .ref (am 1), .ref (am 4), .ref (am 5), .ref (am 6), .ref (am 7), .ref (am 8), .int 0, .ref (am 9), .int 0, .int (-1), .int 100, .ref (am 10), .long 0, .int 0, .int 0, .int 0, .int 0, .long 0]))]) H ∧ va_D (va_A (WM cy am eda th) sz) ([(am 0, .inr (19, [.int 1, .ref (am 1), .ref (am 4), .ref (am 5), .ref (am 6), .ref (am 7), .ref (am 8), .int 0, .ref (am 9), .int 0, .int (-1), .int 100, .ref (am 10), .long 0, .int 0, .int 0, .int 0, .int 0, .long 0]))])) := by
  refine ro_ofW (cc := cX14_open) (maxL := 10) (ret := (some .int)) (lv := [(0, .ref (am 0)), (1, .int d), (2, .int n), (3, .int q), (4, .int z)]) (by decide) rfl (Nat.le_of_ble_eq_true rfl) rfl ?_
  intro p e s m below meth c ls hx hb hr hml hown hlocks hname hts hv hl
  have hown : s.vm.findClass RX14 = some m.cls := hown
  obtain ⟨⟨⟨hsz, hP, hD0⟩, hK, hN⟩, hJS⟩ := hv
  subst hsz
  have hD := hD0.self (sz := s.heap.size)
  generalize hAe : va_A (WM cy am eda th) s.heap.size = A at hD hJS ⊢
  have hA : ∀ q : Nat, s.heap.size ≤ q → A q := fun q h => by rw [← hAe]; exact Or.inr h
  have hS : va_S A s.heap s.heap [] := va_S.rf
  refine lv_iload hx hb dX14_open_0 (lv_at hl 4 rfl) ?_
  refine lv_iconst (v := 1) hx hb dX14_open_2 (by decide) ?_
  refine lv_icmp_eq (tgt := 25) hx hb dX14_open_3 (by decide) (fun c3 => ?_) (fun c3 => ?_)
  · refine lv_iconst (v := 1) hx hb dX14_open_25 (by decide) ?_
    refine lv_goto (tgt := 30) hx hb dX14_open_26 (by decide) ?_
    refine lv_istore (lv' := [(5, .int 1), (0, .ref (am 0)), (1, .int d), (2, .int n), (3, .int q), (4, .int z)]) hx hb dX14_open_30 hl (by decide) rfl (fun ls hl => ?_)
    refine lv_iload_n hx hb dX14_open_32 rfl (lv_at hl 4 rfl) ?_
    refine lv_bipush (v := 98) hx hb dX14_open_33 (by decide) ?_
    refine lv_icmp_eq (tgt := 55) hx hb dX14_open_35 (by decide) (fun c35 => ?_) (fun c35 => ?_)
    · refine lv_iconst (v := 1) hx hb dX14_open_55 (by decide) ?_
      refine lv_goto (tgt := 60) hx hb dX14_open_56 (by decide) ?_
      refine lv_istore (lv' := [(6, .int 1), (5, .int 1), (0, .ref (am 0)), (1, .int d), (2, .int n), (3, .int q), (4, .int z)]) hx hb dX14_open_60 hl (by decide) rfl (fun ls hl => ?_)
      refine lv_aload_n hx hb dX14_open_62 rfl (lv_at hl 2 rfl) ?_
      refine lv_aload_n hx hb dX14_open_63 rfl (lv_at hl 2 rfl) ?_
      refine lv_iload_n hx hb dX14_open_64 rfl (lv_at hl 3 rfl) ?_
      refine lv_iload_n hx hb dX14_open_65 rfl (lv_at hl 4 rfl) ?_
      refine ro_callV (As := [.int d, .int n]) (rest := [.ref (am 0)]) ⟨hx, hb, hml, hown, hts⟩ (c_isEnd l D cy d n) (cwV 2 hts gX14_open_X14_isEnd rfl rfl rfl (by decide +kernel) ⟨by decide, by decide⟩) hK hN hP hS (ci := 19) (q0 := 0) rfl rfl rfl rfl hl.1 rfl (Nat.le_of_ble_eq_true rfl) dX14_open_66 ⟨Nat.le_of_ble_eq_true rfl, Nat.le_of_ble_eq_true rfl⟩ (fun H locs hP hS => ?_)
      refine lv_if_ne (tgt := 76) hx hb dX14_open_69 (by decide) (fun c => absurd (by decide) c) (fun _ => ?_)
      refine lv_iconst (v := 1) hx hb dX14_open_72 (by decide) ?_
      refine lv_goto (tgt := 109) hx hb dX14_open_73 (by decide) ?_
      refine va_put (D := D) (ci := 19) (v := .int 1) (ty := .int) (C := RX14) (T := TX14) (N := 19) hx hb hts iw_X14_open_RX14 tyX14 tyX14_ok nmX14 hown hK hP hD hS 0 rfl rfl 0 (by decide) (hts (.fieldLink RX14 61 "HubcascadeModel" "thrown" "I") (by decide +kernel)) (fun _ h9 => h9) rfl (by decide +kernel) rfl rfl (Nat.le_of_ble_eq_true rfl) dX14_open_109 (fun H locs hP hD hS => ?_)
      have hP : va_P D vwCl (WM cy am eda 1) H := hP
      have hD : va_D A (WM cy am eda 1) := hD
      refine lv_iconst (v := (-1)) hx hb dX14_open_112 (by decide) ?_
      refine lv_istore (lv' := [(7, .int (-1)), (6, .int 1), (5, .int 1), (0, .ref (am 0)), (1, .int d), (2, .int n), (3, .int q), (4, .int z)]) hx hb dX14_open_113 hl (by decide) rfl (fun ls hl => ?_)
      refine lv_bipush (v := 11) hx hb dX14_open_115 (by decide) ?_
      refine lv_istore (lv' := [(8, .int 11), (7, .int (-1)), (6, .int 1), (5, .int 1), (0, .ref (am 0)), (1, .int d), (2, .int n), (3, .int q), (4, .int z)]) hx hb dX14_open_117 hl (by decide) rfl (fun ls hl => ?_)
      refine lv_iload hx hb dX14_open_119 (lv_at hl 0 rfl) ?_
      refine lv_if_lt (tgt := 203) hx hb dX14_open_121 (by decide) (fun c => absurd c (by decide)) (fun _ => ?_)
      refine lv_aload_n hx hb dX14_open_124 rfl (lv_at hl 4 rfl) ?_
      refine va_get (D := D) (ci := 19) (v := .int 1) (C := RX14) (T := TX14) (N := 19) hx hb hts iw_X14_open_RX14 hown hK hP 0 rfl rfl 0 (by decide) (hts (.fieldLink RX14 61 "HubcascadeModel" "thrown" "I") (by decide +kernel)) (fun _ h9 => h9) rfl dX14_open_125 ?_
      refine lv_if_ne (tgt := 203) hx hb dX14_open_128 (by decide) (fun _ => ?_) (fun c => absurd c (by decide))
      refine lv_aload_n hx hb dX14_open_203 rfl (lv_at hl 4 rfl) ?_
      refine va_get (D := D) (ci := 19) (v := .int 1) (C := RX14) (T := TX14) (N := 19) hx hb hts iw_X14_open_RX14 hown hK hP 0 rfl rfl 0 (by decide) (hts (.fieldLink RX14 61 "HubcascadeModel" "thrown" "I") (by decide +kernel)) (fun _ h9 => h9) rfl dX14_open_204 ?_
      refine lv_if_le (tgt := 212) hx hb dX14_open_207 (by decide) (fun c => absurd c (by decide)) (fun _ => ?_)
      refine lv_iconst (v := 0) hx hb dX14_open_210 (by decide) ?_
      refine W.widen (k := 0) (n := 0) (Nat.le_of_ble_eq_true rfl) (Nat.le_of_ble_eq_true rfl) ?_
      have hP9 := hP.sub (ws' := [(am 0, .inr (19, [.int 1, .ref (am 1), .ref (am 4), .ref (am 5), .ref (am 6), .ref (am 7), .ref (am 8), .int 0, .ref (am 9), .int 0, .int (-1), .int 100, .ref (am 10), .long 0, .int 0, .int 0, .int 0, .int 0, .long 0]))]) [0] rfl
      have hD9 := hD.sub (ws' := [(am 0, .inr (19, [.int 1, .ref (am 1), .ref (am 4), .ref (am 5), .ref (am 6), .ref (am 7), .ref (am 8), .int 0, .ref (am 9), .int 0, .int (-1), .int 100, .ref (am 10), .long 0, .int 0, .int 0, .int 0, .int 0, .long 0]))]) [0] (by decide) rfl
      exact W.iret hx hb hr (fun t ht hW => ⟨rfl, ⟨by rw [ht]; exact hP9, hD9⟩, hS.F ht⟩) hS.2.2 dX14_open_211
    · refine lv_iload_n hx hb dX14_open_38 rfl (lv_at hl 4 rfl) ?_
      refine lv_bipush (v := 105) hx hb dX14_open_39 (by decide) ?_
      refine lv_icmp_eq (tgt := 50) hx hb dX14_open_41 (by decide) (fun c41 => ?_) (fun c41 => ?_)
      · refine lv_iload hx hb dX14_open_50 (lv_at hl 0 rfl) ?_
        refine lv_if_eq (tgt := 59) hx hb dX14_open_52 (by decide) (fun c => absurd c (by decide)) (fun _ => ?_)
        refine lv_iconst (v := 1) hx hb dX14_open_55 (by decide) ?_
        refine lv_goto (tgt := 60) hx hb dX14_open_56 (by decide) ?_
        refine lv_istore (lv' := [(6, .int 1), (5, .int 1), (0, .ref (am 0)), (1, .int d), (2, .int n), (3, .int q), (4, .int z)]) hx hb dX14_open_60 hl (by decide) rfl (fun ls hl => ?_)
        refine lv_aload_n hx hb dX14_open_62 rfl (lv_at hl 2 rfl) ?_
        refine lv_aload_n hx hb dX14_open_63 rfl (lv_at hl 2 rfl) ?_
        refine lv_iload_n hx hb dX14_open_64 rfl (lv_at hl 3 rfl) ?_
        refine lv_iload_n hx hb dX14_open_65 rfl (lv_at hl 4 rfl) ?_
        refine ro_callV (As := [.int d, .int n]) (rest := [.ref (am 0)]) ⟨hx, hb, hml, hown, hts⟩ (c_isEnd l D cy d n) (cwV 2 hts gX14_open_X14_isEnd rfl rfl rfl (by decide +kernel) ⟨by decide, by decide⟩) hK hN hP hS (ci := 19) (q0 := 0) rfl rfl rfl rfl hl.1 rfl (Nat.le_of_ble_eq_true rfl) dX14_open_66 ⟨Nat.le_of_ble_eq_true rfl, Nat.le_of_ble_eq_true rfl⟩ (fun H locs hP hS => ?_)
        refine lv_if_ne (tgt := 76) hx hb dX14_open_69 (by decide) (fun c => absurd (by decide) c) (fun _ => ?_)
        refine lv_iconst (v := 1) hx hb dX14_open_72 (by decide) ?_
        refine lv_goto (tgt := 109) hx hb dX14_open_73 (by decide) ?_
        refine va_put (D := D) (ci := 19) (v := .int 1) (ty := .int) (C := RX14) (T := TX14) (N := 19) hx hb hts iw_X14_open_RX14 tyX14 tyX14_ok nmX14 hown hK hP hD hS 0 rfl rfl 0 (by decide) (hts (.fieldLink RX14 61 "HubcascadeModel" "thrown" "I") (by decide +kernel)) (fun _ h9 => h9) rfl (by decide +kernel) rfl rfl (Nat.le_of_ble_eq_true rfl) dX14_open_109 (fun H locs hP hD hS => ?_)
        have hP : va_P D vwCl (WM cy am eda 1) H := hP
        have hD : va_D A (WM cy am eda 1) := hD
        refine lv_iconst (v := (-1)) hx hb dX14_open_112 (by decide) ?_
        refine lv_istore (lv' := [(7, .int (-1)), (6, .int 1), (5, .int 1), (0, .ref (am 0)), (1, .int d), (2, .int n), (3, .int q), (4, .int z)]) hx hb dX14_open_113 hl (by decide) rfl (fun ls hl => ?_)
        refine lv_bipush (v := 11) hx hb dX14_open_115 (by decide) ?_
        refine lv_istore (lv' := [(8, .int 11), (7, .int (-1)), (6, .int 1), (5, .int 1), (0, .ref (am 0)), (1, .int d), (2, .int n), (3, .int q), (4, .int z)]) hx hb dX14_open_117 hl (by decide) rfl (fun ls hl => ?_)
        refine lv_iload hx hb dX14_open_119 (lv_at hl 0 rfl) ?_
        refine lv_if_lt (tgt := 203) hx hb dX14_open_121 (by decide) (fun c => absurd c (by decide)) (fun _ => ?_)
        refine lv_aload_n hx hb dX14_open_124 rfl (lv_at hl 4 rfl) ?_
        refine va_get (D := D) (ci := 19) (v := .int 1) (C := RX14) (T := TX14) (N := 19) hx hb hts iw_X14_open_RX14 hown hK hP 0 rfl rfl 0 (by decide) (hts (.fieldLink RX14 61 "HubcascadeModel" "thrown" "I") (by decide +kernel)) (fun _ h9 => h9) rfl dX14_open_125 ?_
        refine lv_if_ne (tgt := 203) hx hb dX14_open_128 (by decide) (fun _ => ?_) (fun c => absurd c (by decide))
        refine lv_aload_n hx hb dX14_open_203 rfl (lv_at hl 4 rfl) ?_
        refine va_get (D := D) (ci := 19) (v := .int 1) (C := RX14) (T := TX14) (N := 19) hx hb hts iw_X14_open_RX14 hown hK hP 0 rfl rfl 0 (by decide) (hts (.fieldLink RX14 61 "HubcascadeModel" "thrown" "I") (by decide +kernel)) (fun _ h9 => h9) rfl dX14_open_204 ?_
        refine lv_if_le (tgt := 212) hx hb dX14_open_207 (by decide) (fun c => absurd c (by decide)) (fun _ => ?_)
        refine lv_iconst (v := 0) hx hb dX14_open_210 (by decide) ?_
        refine W.widen (k := 0) (n := 0) (Nat.le_of_ble_eq_true rfl) (Nat.le_of_ble_eq_true rfl) ?_
        have hP9 := hP.sub (ws' := [(am 0, .inr (19, [.int 1, .ref (am 1), .ref (am 4), .ref (am 5), .ref (am 6), .ref (am 7), .ref (am 8), .int 0, .ref (am 9), .int 0, .int (-1), .int 100, .ref (am 10), .long 0, .int 0, .int 0, .int 0, .int 0, .long 0]))]) [0] rfl
        have hD9 := hD.sub (ws' := [(am 0, .inr (19, [.int 1, .ref (am 1), .ref (am 4), .ref (am 5), .ref (am 6), .ref (am 7), .ref (am 8), .int 0, .ref (am 9), .int 0, .int (-1), .int 100, .ref (am 10), .long 0, .int 0, .int 0, .int 0, .int 0, .long 0]))]) [0] (by decide) rfl
        exact W.iret hx hb hr (fun t ht hW => ⟨rfl, ⟨by rw [ht]; exact hP9, hD9⟩, hS.F ht⟩) hS.2.2 dX14_open_211
      · refine lv_iload_n hx hb dX14_open_44 rfl (lv_at hl 4 rfl) ?_
        refine lv_bipush (v := 115) hx hb dX14_open_45 (by decide) ?_
        refine lv_icmp_ne (tgt := 59) hx hb dX14_open_47 (by decide) (fun c47 => ?_) (fun c47 => ?_)
        · refine lv_iconst (v := 0) hx hb dX14_open_59 (by decide) ?_
          refine lv_istore (lv' := [(6, .int 0), (5, .int 1), (0, .ref (am 0)), (1, .int d), (2, .int n), (3, .int q), (4, .int z)]) hx hb dX14_open_60 hl (by decide) rfl (fun ls hl => ?_)
          refine lv_aload_n hx hb dX14_open_62 rfl (lv_at hl 2 rfl) ?_
          refine lv_aload_n hx hb dX14_open_63 rfl (lv_at hl 2 rfl) ?_
          refine lv_iload_n hx hb dX14_open_64 rfl (lv_at hl 3 rfl) ?_
          refine lv_iload_n hx hb dX14_open_65 rfl (lv_at hl 4 rfl) ?_
          refine ro_callV (As := [.int d, .int n]) (rest := [.ref (am 0)]) ⟨hx, hb, hml, hown, hts⟩ (c_isEnd l D cy d n) (cwV 2 hts gX14_open_X14_isEnd rfl rfl rfl (by decide +kernel) ⟨by decide, by decide⟩) hK hN hP hS (ci := 19) (q0 := 0) rfl rfl rfl rfl hl.1 rfl (Nat.le_of_ble_eq_true rfl) dX14_open_66 ⟨Nat.le_of_ble_eq_true rfl, Nat.le_of_ble_eq_true rfl⟩ (fun H locs hP hS => ?_)
          refine lv_if_ne (tgt := 76) hx hb dX14_open_69 (by decide) (fun c => absurd (by decide) c) (fun _ => ?_)
          refine lv_iconst (v := 1) hx hb dX14_open_72 (by decide) ?_
          refine lv_goto (tgt := 109) hx hb dX14_open_73 (by decide) ?_
          refine va_put (D := D) (ci := 19) (v := .int 1) (ty := .int) (C := RX14) (T := TX14) (N := 19) hx hb hts iw_X14_open_RX14 tyX14 tyX14_ok nmX14 hown hK hP hD hS 0 rfl rfl 0 (by decide) (hts (.fieldLink RX14 61 "HubcascadeModel" "thrown" "I") (by decide +kernel)) (fun _ h9 => h9) rfl (by decide +kernel) rfl rfl (Nat.le_of_ble_eq_true rfl) dX14_open_109 (fun H locs hP hD hS => ?_)
          have hP : va_P D vwCl (WM cy am eda 1) H := hP
          have hD : va_D A (WM cy am eda 1) := hD
          refine lv_iconst (v := (-1)) hx hb dX14_open_112 (by decide) ?_
          refine lv_istore (lv' := [(7, .int (-1)), (6, .int 0), (5, .int 1), (0, .ref (am 0)), (1, .int d), (2, .int n), (3, .int q), (4, .int z)]) hx hb dX14_open_113 hl (by decide) rfl (fun ls hl => ?_)
          refine lv_bipush (v := 11) hx hb dX14_open_115 (by decide) ?_
          refine lv_istore (lv' := [(8, .int 11), (7, .int (-1)), (6, .int 0), (5, .int 1), (0, .ref (am 0)), (1, .int d), (2, .int n), (3, .int q), (4, .int z)]) hx hb dX14_open_117 hl (by decide) rfl (fun ls hl => ?_)
          refine lv_iload hx hb dX14_open_119 (lv_at hl 0 rfl) ?_
          refine lv_if_lt (tgt := 203) hx hb dX14_open_121 (by decide) (fun c => absurd c (by decide)) (fun _ => ?_)
          refine lv_aload_n hx hb dX14_open_124 rfl (lv_at hl 4 rfl) ?_
          refine va_get (D := D) (ci := 19) (v := .int 1) (C := RX14) (T := TX14) (N := 19) hx hb hts iw_X14_open_RX14 hown hK hP 0 rfl rfl 0 (by decide) (hts (.fieldLink RX14 61 "HubcascadeModel" "thrown" "I") (by decide +kernel)) (fun _ h9 => h9) rfl dX14_open_125 ?_
          refine lv_if_ne (tgt := 203) hx hb dX14_open_128 (by decide) (fun _ => ?_) (fun c => absurd c (by decide))
          refine lv_aload_n hx hb dX14_open_203 rfl (lv_at hl 4 rfl) ?_
          refine va_get (D := D) (ci := 19) (v := .int 1) (C := RX14) (T := TX14) (N := 19) hx hb hts iw_X14_open_RX14 hown hK hP 0 rfl rfl 0 (by decide) (hts (.fieldLink RX14 61 "HubcascadeModel" "thrown" "I") (by decide +kernel)) (fun _ h9 => h9) rfl dX14_open_204 ?_
          refine lv_if_le (tgt := 212) hx hb dX14_open_207 (by decide) (fun c => absurd c (by decide)) (fun _ => ?_)
          refine lv_iconst (v := 0) hx hb dX14_open_210 (by decide) ?_
          refine W.widen (k := 0) (n := 0) (Nat.le_of_ble_eq_true rfl) (Nat.le_of_ble_eq_true rfl) ?_
          have hP9 := hP.sub (ws' := [(am 0, .inr (19, [.int 1, .ref (am 1), .ref (am 4), .ref (am 5), .ref (am 6), .ref (am 7), .ref (am 8), .int 0, .ref (am 9), .int 0, .int (-1), .int 100, .ref (am 10), .long 0, .int 0, .int 0, .int 0, .int 0, .long 0]))]) [0] rfl
          have hD9 := hD.sub (ws' := [(am 0, .inr (19, [.int 1, .ref (am 1), .ref (am 4), .ref (am 5), .ref (am 6), .ref (am 7), .ref (am 8), .int 0, .ref (am 9), .int 0, .int (-1), .int 100, .ref (am 10), .long 0, .int 0, .int 0, .int 0, .int 0, .long 0]))]) [0] (by decide) rfl
          exact W.iret hx hb hr (fun t ht hW => ⟨rfl, ⟨by rw [ht]; exact hP9, hD9⟩, hS.F ht⟩) hS.2.2 dX14_open_211
        · refine lv_iload hx hb dX14_open_50 (lv_at hl 0 rfl) ?_
          refine lv_if_eq (tgt := 59) hx hb dX14_open_52 (by decide) (fun c => absurd c (by decide)) (fun _ => ?_)
          refine lv_iconst (v := 1) hx hb dX14_open_55 (by decide) ?_
          refine lv_goto (tgt := 60) hx hb dX14_open_56 (by decide) ?_
          refine lv_istore (lv' := [(6, .int 1), (5, .int 1), (0, .ref (am 0)), (1, .int d), (2, .int n), (3, .int q), (4, .int z)]) hx hb dX14_open_60 hl (by decide) rfl (fun ls hl => ?_)
          refine lv_aload_n hx hb dX14_open_62 rfl (lv_at hl 2 rfl) ?_
          refine lv_aload_n hx hb dX14_open_63 rfl (lv_at hl 2 rfl) ?_
          refine lv_iload_n hx hb dX14_open_64 rfl (lv_at hl 3 rfl) ?_
          refine lv_iload_n hx hb dX14_open_65 rfl (lv_at hl 4 rfl) ?_
          refine ro_callV (As := [.int d, .int n]) (rest := [.ref (am 0)]) ⟨hx, hb, hml, hown, hts⟩ (c_isEnd l D cy d n) (cwV 2 hts gX14_open_X14_isEnd rfl rfl rfl (by decide +kernel) ⟨by decide, by decide⟩) hK hN hP hS (ci := 19) (q0 := 0) rfl rfl rfl rfl hl.1 rfl (Nat.le_of_ble_eq_true rfl) dX14_open_66 ⟨Nat.le_of_ble_eq_true rfl, Nat.le_of_ble_eq_true rfl⟩ (fun H locs hP hS => ?_)
          refine lv_if_ne (tgt := 76) hx hb dX14_open_69 (by decide) (fun c => absurd (by decide) c) (fun _ => ?_)
          refine lv_iconst (v := 1) hx hb dX14_open_72 (by decide) ?_
          refine lv_goto (tgt := 109) hx hb dX14_open_73 (by decide) ?_
          refine va_put (D := D) (ci := 19) (v := .int 1) (ty := .int) (C := RX14) (T := TX14) (N := 19) hx hb hts iw_X14_open_RX14 tyX14 tyX14_ok nmX14 hown hK hP hD hS 0 rfl rfl 0 (by decide) (hts (.fieldLink RX14 61 "HubcascadeModel" "thrown" "I") (by decide +kernel)) (fun _ h9 => h9) rfl (by decide +kernel) rfl rfl (Nat.le_of_ble_eq_true rfl) dX14_open_109 (fun H locs hP hD hS => ?_)
          have hP : va_P D vwCl (WM cy am eda 1) H := hP
          have hD : va_D A (WM cy am eda 1) := hD
          refine lv_iconst (v := (-1)) hx hb dX14_open_112 (by decide) ?_
          refine lv_istore (lv' := [(7, .int (-1)), (6, .int 1), (5, .int 1), (0, .ref (am 0)), (1, .int d), (2, .int n), (3, .int q), (4, .int z)]) hx hb dX14_open_113 hl (by decide) rfl (fun ls hl => ?_)
          refine lv_bipush (v := 11) hx hb dX14_open_115 (by decide) ?_
          refine lv_istore (lv' := [(8, .int 11), (7, .int (-1)), (6, .int 1), (5, .int 1), (0, .ref (am 0)), (1, .int d), (2, .int n), (3, .int q), (4, .int z)]) hx hb dX14_open_117 hl (by decide) rfl (fun ls hl => ?_)
          refine lv_iload hx hb dX14_open_119 (lv_at hl 0 rfl) ?_
          refine lv_if_lt (tgt := 203) hx hb dX14_open_121 (by decide) (fun c => absurd c (by decide)) (fun _ => ?_)
          refine lv_aload_n hx hb dX14_open_124 rfl (lv_at hl 4 rfl) ?_
          refine va_get (D := D) (ci := 19) (v := .int 1) (C := RX14) (T := TX14) (N := 19) hx hb hts iw_X14_open_RX14 hown hK hP 0 rfl rfl 0 (by decide) (hts (.fieldLink RX14 61 "HubcascadeModel" "thrown" "I") (by decide +kernel)) (fun _ h9 => h9) rfl dX14_open_125 ?_
          refine lv_if_ne (tgt := 203) hx hb dX14_open_128 (by decide) (fun _ => ?_) (fun c => absurd c (by decide))
          refine lv_aload_n hx hb dX14_open_203 rfl (lv_at hl 4 rfl) ?_
          refine va_get (D := D) (ci := 19) (v := .int 1) (C := RX14) (T := TX14) (N := 19) hx hb hts iw_X14_open_RX14 hown hK hP 0 rfl rfl 0 (by decide) (hts (.fieldLink RX14 61 "HubcascadeModel" "thrown" "I") (by decide +kernel)) (fun _ h9 => h9) rfl dX14_open_204 ?_
          refine lv_if_le (tgt := 212) hx hb dX14_open_207 (by decide) (fun c => absurd c (by decide)) (fun _ => ?_)
          refine lv_iconst (v := 0) hx hb dX14_open_210 (by decide) ?_
          refine W.widen (k := 0) (n := 0) (Nat.le_of_ble_eq_true rfl) (Nat.le_of_ble_eq_true rfl) ?_
          have hP9 := hP.sub (ws' := [(am 0, .inr (19, [.int 1, .ref (am 1), .ref (am 4), .ref (am 5), .ref (am 6), .ref (am 7), .ref (am 8), .int 0, .ref (am 9), .int 0, .int (-1), .int 100, .ref (am 10), .long 0, .int 0, .int 0, .int 0, .int 0, .long 0]))]) [0] rfl
          have hD9 := hD.sub (ws' := [(am 0, .inr (19, [.int 1, .ref (am 1), .ref (am 4), .ref (am 5), .ref (am 6), .ref (am 7), .ref (am 8), .int 0, .ref (am 9), .int 0, .int (-1), .int 100, .ref (am 10), .long 0, .int 0, .int 0, .int 0, .int 0, .long 0]))]) [0] (by decide) rfl
          exact W.iret hx hb hr (fun t ht hW => ⟨rfl, ⟨by rw [ht]; exact hP9, hD9⟩, hS.F ht⟩) hS.2.2 dX14_open_211
  · refine lv_iload hx hb dX14_open_6 (lv_at hl 4 rfl) ?_
    refine lv_iconst (v := 2) hx hb dX14_open_8 (by decide) ?_
    refine lv_icmp_eq (tgt := 25) hx hb dX14_open_9 (by decide) (fun c9 => ?_) (fun c9 => ?_)
    · refine lv_iconst (v := 1) hx hb dX14_open_25 (by decide) ?_
      refine lv_goto (tgt := 30) hx hb dX14_open_26 (by decide) ?_
      refine lv_istore (lv' := [(5, .int 1), (0, .ref (am 0)), (1, .int d), (2, .int n), (3, .int q), (4, .int z)]) hx hb dX14_open_30 hl (by decide) rfl (fun ls hl => ?_)
      refine lv_iload_n hx hb dX14_open_32 rfl (lv_at hl 4 rfl) ?_
      refine lv_bipush (v := 98) hx hb dX14_open_33 (by decide) ?_
      refine lv_icmp_eq (tgt := 55) hx hb dX14_open_35 (by decide) (fun c35 => ?_) (fun c35 => ?_)
      · refine lv_iconst (v := 1) hx hb dX14_open_55 (by decide) ?_
        refine lv_goto (tgt := 60) hx hb dX14_open_56 (by decide) ?_
        refine lv_istore (lv' := [(6, .int 1), (5, .int 1), (0, .ref (am 0)), (1, .int d), (2, .int n), (3, .int q), (4, .int z)]) hx hb dX14_open_60 hl (by decide) rfl (fun ls hl => ?_)
        refine lv_aload_n hx hb dX14_open_62 rfl (lv_at hl 2 rfl) ?_
        refine lv_aload_n hx hb dX14_open_63 rfl (lv_at hl 2 rfl) ?_
        refine lv_iload_n hx hb dX14_open_64 rfl (lv_at hl 3 rfl) ?_
        refine lv_iload_n hx hb dX14_open_65 rfl (lv_at hl 4 rfl) ?_
        refine ro_callV (As := [.int d, .int n]) (rest := [.ref (am 0)]) ⟨hx, hb, hml, hown, hts⟩ (c_isEnd l D cy d n) (cwV 2 hts gX14_open_X14_isEnd rfl rfl rfl (by decide +kernel) ⟨by decide, by decide⟩) hK hN hP hS (ci := 19) (q0 := 0) rfl rfl rfl rfl hl.1 rfl (Nat.le_of_ble_eq_true rfl) dX14_open_66 ⟨Nat.le_of_ble_eq_true rfl, Nat.le_of_ble_eq_true rfl⟩ (fun H locs hP hS => ?_)
        refine lv_if_ne (tgt := 76) hx hb dX14_open_69 (by decide) (fun c => absurd (by decide) c) (fun _ => ?_)
        refine lv_iconst (v := 1) hx hb dX14_open_72 (by decide) ?_
        refine lv_goto (tgt := 109) hx hb dX14_open_73 (by decide) ?_
        refine va_put (D := D) (ci := 19) (v := .int 1) (ty := .int) (C := RX14) (T := TX14) (N := 19) hx hb hts iw_X14_open_RX14 tyX14 tyX14_ok nmX14 hown hK hP hD hS 0 rfl rfl 0 (by decide) (hts (.fieldLink RX14 61 "HubcascadeModel" "thrown" "I") (by decide +kernel)) (fun _ h9 => h9) rfl (by decide +kernel) rfl rfl (Nat.le_of_ble_eq_true rfl) dX14_open_109 (fun H locs hP hD hS => ?_)
        have hP : va_P D vwCl (WM cy am eda 1) H := hP
        have hD : va_D A (WM cy am eda 1) := hD
        refine lv_iconst (v := (-1)) hx hb dX14_open_112 (by decide) ?_
        refine lv_istore (lv' := [(7, .int (-1)), (6, .int 1), (5, .int 1), (0, .ref (am 0)), (1, .int d), (2, .int n), (3, .int q), (4, .int z)]) hx hb dX14_open_113 hl (by decide) rfl (fun ls hl => ?_)
        refine lv_bipush (v := 11) hx hb dX14_open_115 (by decide) ?_
        refine lv_istore (lv' := [(8, .int 11), (7, .int (-1)), (6, .int 1), (5, .int 1), (0, .ref (am 0)), (1, .int d), (2, .int n), (3, .int q), (4, .int z)]) hx hb dX14_open_117 hl (by decide) rfl (fun ls hl => ?_)
        refine lv_iload hx hb dX14_open_119 (lv_at hl 0 rfl) ?_
        refine lv_if_lt (tgt := 203) hx hb dX14_open_121 (by decide) (fun c => absurd c (by decide)) (fun _ => ?_)
        refine lv_aload_n hx hb dX14_open_124 rfl (lv_at hl 4 rfl) ?_
        refine va_get (D := D) (ci := 19) (v := .int 1) (C := RX14) (T := TX14) (N := 19) hx hb hts iw_X14_open_RX14 hown hK hP 0 rfl rfl 0 (by decide) (hts (.fieldLink RX14 61 "HubcascadeModel" "thrown" "I") (by decide +kernel)) (fun _ h9 => h9) rfl dX14_open_125 ?_
        refine lv_if_ne (tgt := 203) hx hb dX14_open_128 (by decide) (fun _ => ?_) (fun c => absurd c (by decide))
        refine lv_aload_n hx hb dX14_open_203 rfl (lv_at hl 4 rfl) ?_
        refine va_get (D := D) (ci := 19) (v := .int 1) (C := RX14) (T := TX14) (N := 19) hx hb hts iw_X14_open_RX14 hown hK hP 0 rfl rfl 0 (by decide) (hts (.fieldLink RX14 61 "HubcascadeModel" "thrown" "I") (by decide +kernel)) (fun _ h9 => h9) rfl dX14_open_204 ?_
        refine lv_if_le (tgt := 212) hx hb dX14_open_207 (by decide) (fun c => absurd c (by decide)) (fun _ => ?_)
        refine lv_iconst (v := 0) hx hb dX14_open_210 (by decide) ?_
        refine W.widen (k := 0) (n := 0) (Nat.le_of_ble_eq_true rfl) (Nat.le_of_ble_eq_true rfl) ?_
        have hP9 := hP.sub (ws' := [(am 0, .inr (19, [.int 1, .ref (am 1), .ref (am 4), .ref (am 5), .ref (am 6), .ref (am 7), .ref (am 8), .int 0, .ref (am 9), .int 0, .int (-1), .int 100, .ref (am 10), .long 0, .int 0, .int 0, .int 0, .int 0, .long 0]))]) [0] rfl
        have hD9 := hD.sub (ws' := [(am 0, .inr (19, [.int 1, .ref (am 1), .ref (am 4), .ref (am 5), .ref (am 6), .ref (am 7), .ref (am 8), .int 0, .ref (am 9), .int 0, .int (-1), .int 100, .ref (am 10), .long 0, .int 0, .int 0, .int 0, .int 0, .long 0]))]) [0] (by decide) rfl
        exact W.iret hx hb hr (fun t ht hW => ⟨rfl, ⟨by rw [ht]; exact hP9, hD9⟩, hS.F ht⟩) hS.2.2 dX14_open_211
      · refine lv_iload_n hx hb dX14_open_38 rfl (lv_at hl 4 rfl) ?_
        refine lv_bipush (v := 105) hx hb dX14_open_39 (by decide) ?_
        refine lv_icmp_eq (tgt := 50) hx hb dX14_open_41 (by decide) (fun c41 => ?_) (fun c41 => ?_)
        · refine lv_iload hx hb dX14_open_50 (lv_at hl 0 rfl) ?_
          refine lv_if_eq (tgt := 59) hx hb dX14_open_52 (by decide) (fun c => absurd c (by decide)) (fun _ => ?_)
          refine lv_iconst (v := 1) hx hb dX14_open_55 (by decide) ?_
          refine lv_goto (tgt := 60) hx hb dX14_open_56 (by decide) ?_
          refine lv_istore (lv' := [(6, .int 1), (5, .int 1), (0, .ref (am 0)), (1, .int d), (2, .int n), (3, .int q), (4, .int z)]) hx hb dX14_open_60 hl (by decide) rfl (fun ls hl => ?_)
          refine lv_aload_n hx hb dX14_open_62 rfl (lv_at hl 2 rfl) ?_
          refine lv_aload_n hx hb dX14_open_63 rfl (lv_at hl 2 rfl) ?_
          refine lv_iload_n hx hb dX14_open_64 rfl (lv_at hl 3 rfl) ?_
          refine lv_iload_n hx hb dX14_open_65 rfl (lv_at hl 4 rfl) ?_
          refine ro_callV (As := [.int d, .int n]) (rest := [.ref (am 0)]) ⟨hx, hb, hml, hown, hts⟩ (c_isEnd l D cy d n) (cwV 2 hts gX14_open_X14_isEnd rfl rfl rfl (by decide +kernel) ⟨by decide, by decide⟩) hK hN hP hS (ci := 19) (q0 := 0) rfl rfl rfl rfl hl.1 rfl (Nat.le_of_ble_eq_true rfl) dX14_open_66 ⟨Nat.le_of_ble_eq_true rfl, Nat.le_of_ble_eq_true rfl⟩ (fun H locs hP hS => ?_)
          refine lv_if_ne (tgt := 76) hx hb dX14_open_69 (by decide) (fun c => absurd (by decide) c) (fun _ => ?_)
          refine lv_iconst (v := 1) hx hb dX14_open_72 (by decide) ?_
          refine lv_goto (tgt := 109) hx hb dX14_open_73 (by decide) ?_
          refine va_put (D := D) (ci := 19) (v := .int 1) (ty := .int) (C := RX14) (T := TX14) (N := 19) hx hb hts iw_X14_open_RX14 tyX14 tyX14_ok nmX14 hown hK hP hD hS 0 rfl rfl 0 (by decide) (hts (.fieldLink RX14 61 "HubcascadeModel" "thrown" "I") (by decide +kernel)) (fun _ h9 => h9) rfl (by decide +kernel) rfl rfl (Nat.le_of_ble_eq_true rfl) dX14_open_109 (fun H locs hP hD hS => ?_)
          have hP : va_P D vwCl (WM cy am eda 1) H := hP
          have hD : va_D A (WM cy am eda 1) := hD
          refine lv_iconst (v := (-1)) hx hb dX14_open_112 (by decide) ?_
          refine lv_istore (lv' := [(7, .int (-1)), (6, .int 1), (5, .int 1), (0, .ref (am 0)), (1, .int d), (2, .int n), (3, .int q), (4, .int z)]) hx hb dX14_open_113 hl (by decide) rfl (fun ls hl => ?_)
          refine lv_bipush (v := 11) hx hb dX14_open_115 (by decide) ?_
          refine lv_istore (lv' := [(8, .int 11), (7, .int (-1)), (6, .int 1), (5, .int 1), (0, .ref (am 0)), (1, .int d), (2, .int n), (3, .int q), (4, .int z)]) hx hb dX14_open_117 hl (by decide) rfl (fun ls hl => ?_)
          refine lv_iload hx hb dX14_open_119 (lv_at hl 0 rfl) ?_
          refine lv_if_lt (tgt := 203) hx hb dX14_open_121 (by decide) (fun c => absurd c (by decide)) (fun _ => ?_)
          refine lv_aload_n hx hb dX14_open_124 rfl (lv_at hl 4 rfl) ?_
          refine va_get (D := D) (ci := 19) (v := .int 1) (C := RX14) (T := TX14) (N := 19) hx hb hts iw_X14_open_RX14 hown hK hP 0 rfl rfl 0 (by decide) (hts (.fieldLink RX14 61 "HubcascadeModel" "thrown" "I") (by decide +kernel)) (fun _ h9 => h9) rfl dX14_open_125 ?_
          refine lv_if_ne (tgt := 203) hx hb dX14_open_128 (by decide) (fun _ => ?_) (fun c => absurd c (by decide))
          refine lv_aload_n hx hb dX14_open_203 rfl (lv_at hl 4 rfl) ?_
          refine va_get (D := D) (ci := 19) (v := .int 1) (C := RX14) (T := TX14) (N := 19) hx hb hts iw_X14_open_RX14 hown hK hP 0 rfl rfl 0 (by decide) (hts (.fieldLink RX14 61 "HubcascadeModel" "thrown" "I") (by decide +kernel)) (fun _ h9 => h9) rfl dX14_open_204 ?_
          refine lv_if_le (tgt := 212) hx hb dX14_open_207 (by decide) (fun c => absurd c (by decide)) (fun _ => ?_)
          refine lv_iconst (v := 0) hx hb dX14_open_210 (by decide) ?_
          refine W.widen (k := 0) (n := 0) (Nat.le_of_ble_eq_true rfl) (Nat.le_of_ble_eq_true rfl) ?_
          have hP9 := hP.sub (ws' := [(am 0, .inr (19, [.int 1, .ref (am 1), .ref (am 4), .ref (am 5), .ref (am 6), .ref (am 7), .ref (am 8), .int 0, .ref (am 9), .int 0, .int (-1), .int 100, .ref (am 10), .long 0, .int 0, .int 0, .int 0, .int 0, .long 0]))]) [0] rfl
          have hD9 := hD.sub (ws' := [(am 0, .inr (19, [.int 1, .ref (am 1), .ref (am 4), .ref (am 5), .ref (am 6), .ref (am 7), .ref (am 8), .int 0, .ref (am 9), .int 0, .int (-1), .int 100, .ref (am 10), .long 0, .int 0, .int 0, .int 0, .int 0, .long 0]))]) [0] (by decide) rfl
          exact W.iret hx hb hr (fun t ht hW => ⟨rfl, ⟨by rw [ht]; exact hP9, hD9⟩, hS.F ht⟩) hS.2.2 dX14_open_211
        · refine lv_iload_n hx hb dX14_open_44 rfl (lv_at hl 4 rfl) ?_
          refine lv_bipush (v := 115) hx hb dX14_open_45 (by decide) ?_
          refine lv_icmp_ne (tgt := 59) hx hb dX14_open_47 (by decide) (fun c47 => ?_) (fun c47 => ?_)
          · refine lv_iconst (v := 0) hx hb dX14_open_59 (by decide) ?_
            refine lv_istore (lv' := [(6, .int 0), (5, .int 1), (0, .ref (am 0)), (1, .int d), (2, .int n), (3, .int q), (4, .int z)]) hx hb dX14_open_60 hl (by decide) rfl (fun ls hl => ?_)
            refine lv_aload_n hx hb dX14_open_62 rfl (lv_at hl 2 rfl) ?_
            refine lv_aload_n hx hb dX14_open_63 rfl (lv_at hl 2 rfl) ?_
            refine lv_iload_n hx hb dX14_open_64 rfl (lv_at hl 3 rfl) ?_
            refine lv_iload_n hx hb dX14_open_65 rfl (lv_at hl 4 rfl) ?_
            refine ro_callV (As := [.int d, .int n]) (rest := [.ref (am 0)]) ⟨hx, hb, hml, hown, hts⟩ (c_isEnd l D cy d n) (cwV 2 hts gX14_open_X14_isEnd rfl rfl rfl (by decide +kernel) ⟨by decide, by decide⟩) hK hN hP hS (ci := 19) (q0 := 0) rfl rfl rfl rfl hl.1 rfl (Nat.le_of_ble_eq_true rfl) dX14_open_66 ⟨Nat.le_of_ble_eq_true rfl, Nat.le_of_ble_eq_true rfl⟩ (fun H locs hP hS => ?_)
            refine lv_if_ne (tgt := 76) hx hb dX14_open_69 (by decide) (fun c => absurd (by decide) c) (fun _ => ?_)
            refine lv_iconst (v := 1) hx hb dX14_open_72 (by decide) ?_
            refine lv_goto (tgt := 109) hx hb dX14_open_73 (by decide) ?_
            refine va_put (D := D) (ci := 19) (v := .int 1) (ty := .int) (C := RX14) (T := TX14) (N := 19) hx hb hts iw_X14_open_RX14 tyX14 tyX14_ok nmX14 hown hK hP hD hS 0 rfl rfl 0 (by decide) (hts (.fieldLink RX14 61 "HubcascadeModel" "thrown" "I") (by decide +kernel)) (fun _ h9 => h9) rfl (by decide +kernel) rfl rfl (Nat.le_of_ble_eq_true rfl) dX14_open_109 (fun H locs hP hD hS => ?_)
            have hP : va_P D vwCl (WM cy am eda 1) H := hP
            have hD : va_D A (WM cy am eda 1) := hD
            refine lv_iconst (v := (-1)) hx hb dX14_open_112 (by decide) ?_
            refine lv_istore (lv' := [(7, .int (-1)), (6, .int 0), (5, .int 1), (0, .ref (am 0)), (1, .int d), (2, .int n), (3, .int q), (4, .int z)]) hx hb dX14_open_113 hl (by decide) rfl (fun ls hl => ?_)
            refine lv_bipush (v := 11) hx hb dX14_open_115 (by decide) ?_
            refine lv_istore (lv' := [(8, .int 11), (7, .int (-1)), (6, .int 0), (5, .int 1), (0, .ref (am 0)), (1, .int d), (2, .int n), (3, .int q), (4, .int z)]) hx hb dX14_open_117 hl (by decide) rfl (fun ls hl => ?_)
            refine lv_iload hx hb dX14_open_119 (lv_at hl 0 rfl) ?_
            refine lv_if_lt (tgt := 203) hx hb dX14_open_121 (by decide) (fun c => absurd c (by decide)) (fun _ => ?_)
            refine lv_aload_n hx hb dX14_open_124 rfl (lv_at hl 4 rfl) ?_
            refine va_get (D := D) (ci := 19) (v := .int 1) (C := RX14) (T := TX14) (N := 19) hx hb hts iw_X14_open_RX14 hown hK hP 0 rfl rfl 0 (by decide) (hts (.fieldLink RX14 61 "HubcascadeModel" "thrown" "I") (by decide +kernel)) (fun _ h9 => h9) rfl dX14_open_125 ?_
            refine lv_if_ne (tgt := 203) hx hb dX14_open_128 (by decide) (fun _ => ?_) (fun c => absurd c (by decide))
            refine lv_aload_n hx hb dX14_open_203 rfl (lv_at hl 4 rfl) ?_
            refine va_get (D := D) (ci := 19) (v := .int 1) (C := RX14) (T := TX14) (N := 19) hx hb hts iw_X14_open_RX14 hown hK hP 0 rfl rfl 0 (by decide) (hts (.fieldLink RX14 61 "HubcascadeModel" "thrown" "I") (by decide +kernel)) (fun _ h9 => h9) rfl dX14_open_204 ?_
            refine lv_if_le (tgt := 212) hx hb dX14_open_207 (by decide) (fun c => absurd c (by decide)) (fun _ => ?_)
            refine lv_iconst (v := 0) hx hb dX14_open_210 (by decide) ?_
            refine W.widen (k := 0) (n := 0) (Nat.le_of_ble_eq_true rfl) (Nat.le_of_ble_eq_true rfl) ?_
            have hP9 := hP.sub (ws' := [(am 0, .inr (19, [.int 1, .ref (am 1), .ref (am 4), .ref (am 5), .ref (am 6), .ref (am 7), .ref (am 8), .int 0, .ref (am 9), .int 0, .int (-1), .int 100, .ref (am 10), .long 0, .int 0, .int 0, .int 0, .int 0, .long 0]))]) [0] rfl
            have hD9 := hD.sub (ws' := [(am 0, .inr (19, [.int 1, .ref (am 1), .ref (am 4), .ref (am 5), .ref (am 6), .ref (am 7), .ref (am 8), .int 0, .ref (am 9), .int 0, .int (-1), .int 100, .ref (am 10), .long 0, .int 0, .int 0, .int 0, .int 0, .long 0]))]) [0] (by decide) rfl
            exact W.iret hx hb hr (fun t ht hW => ⟨rfl, ⟨by rw [ht]; exact hP9, hD9⟩, hS.F ht⟩) hS.2.2 dX14_open_211
          · refine lv_iload hx hb dX14_open_50 (lv_at hl 0 rfl) ?_
            refine lv_if_eq (tgt := 59) hx hb dX14_open_52 (by decide) (fun c => absurd c (by decide)) (fun _ => ?_)
            refine lv_iconst (v := 1) hx hb dX14_open_55 (by decide) ?_
            refine lv_goto (tgt := 60) hx hb dX14_open_56 (by decide) ?_
            refine lv_istore (lv' := [(6, .int 1), (5, .int 1), (0, .ref (am 0)), (1, .int d), (2, .int n), (3, .int q), (4, .int z)]) hx hb dX14_open_60 hl (by decide) rfl (fun ls hl => ?_)
            refine lv_aload_n hx hb dX14_open_62 rfl (lv_at hl 2 rfl) ?_
            refine lv_aload_n hx hb dX14_open_63 rfl (lv_at hl 2 rfl) ?_
            refine lv_iload_n hx hb dX14_open_64 rfl (lv_at hl 3 rfl) ?_
            refine lv_iload_n hx hb dX14_open_65 rfl (lv_at hl 4 rfl) ?_
            refine ro_callV (As := [.int d, .int n]) (rest := [.ref (am 0)]) ⟨hx, hb, hml, hown, hts⟩ (c_isEnd l D cy d n) (cwV 2 hts gX14_open_X14_isEnd rfl rfl rfl (by decide +kernel) ⟨by decide, by decide⟩) hK hN hP hS (ci := 19) (q0 := 0) rfl rfl rfl rfl hl.1 rfl (Nat.le_of_ble_eq_true rfl) dX14_open_66 ⟨Nat.le_of_ble_eq_true rfl, Nat.le_of_ble_eq_true rfl⟩ (fun H locs hP hS => ?_)
            refine lv_if_ne (tgt := 76) hx hb dX14_open_69 (by decide) (fun c => absurd (by decide) c) (fun _ => ?_)
            refine lv_iconst (v := 1) hx hb dX14_open_72 (by decide) ?_
            refine lv_goto (tgt := 109) hx hb dX14_open_73 (by decide) ?_
            refine va_put (D := D) (ci := 19) (v := .int 1) (ty := .int) (C := RX14) (T := TX14) (N := 19) hx hb hts iw_X14_open_RX14 tyX14 tyX14_ok nmX14 hown hK hP hD hS 0 rfl rfl 0 (by decide) (hts (.fieldLink RX14 61 "HubcascadeModel" "thrown" "I") (by decide +kernel)) (fun _ h9 => h9) rfl (by decide +kernel) rfl rfl (Nat.le_of_ble_eq_true rfl) dX14_open_109 (fun H locs hP hD hS => ?_)
            have hP : va_P D vwCl (WM cy am eda 1) H := hP
            have hD : va_D A (WM cy am eda 1) := hD
            refine lv_iconst (v := (-1)) hx hb dX14_open_112 (by decide) ?_
            refine lv_istore (lv' := [(7, .int (-1)), (6, .int 1), (5, .int 1), (0, .ref (am 0)), (1, .int d), (2, .int n), (3, .int q), (4, .int z)]) hx hb dX14_open_113 hl (by decide) rfl (fun ls hl => ?_)
            refine lv_bipush (v := 11) hx hb dX14_open_115 (by decide) ?_
            refine lv_istore (lv' := [(8, .int 11), (7, .int (-1)), (6, .int 1), (5, .int 1), (0, .ref (am 0)), (1, .int d), (2, .int n), (3, .int q), (4, .int z)]) hx hb dX14_open_117 hl (by decide) rfl (fun ls hl => ?_)
            refine lv_iload hx hb dX14_open_119 (lv_at hl 0 rfl) ?_
            refine lv_if_lt (tgt := 203) hx hb dX14_open_121 (by decide) (fun c => absurd c (by decide)) (fun _ => ?_)
            refine lv_aload_n hx hb dX14_open_124 rfl (lv_at hl 4 rfl) ?_
            refine va_get (D := D) (ci := 19) (v := .int 1) (C := RX14) (T := TX14) (N := 19) hx hb hts iw_X14_open_RX14 hown hK hP 0 rfl rfl 0 (by decide) (hts (.fieldLink RX14 61 "HubcascadeModel" "thrown" "I") (by decide +kernel)) (fun _ h9 => h9) rfl dX14_open_125 ?_
            refine lv_if_ne (tgt := 203) hx hb dX14_open_128 (by decide) (fun _ => ?_) (fun c => absurd c (by decide))
            refine lv_aload_n hx hb dX14_open_203 rfl (lv_at hl 4 rfl) ?_
            refine va_get (D := D) (ci := 19) (v := .int 1) (C := RX14) (T := TX14) (N := 19) hx hb hts iw_X14_open_RX14 hown hK hP 0 rfl rfl 0 (by decide) (hts (.fieldLink RX14 61 "HubcascadeModel" "thrown" "I") (by decide +kernel)) (fun _ h9 => h9) rfl dX14_open_204 ?_
            refine lv_if_le (tgt := 212) hx hb dX14_open_207 (by decide) (fun c => absurd c (by decide)) (fun _ => ?_)
            refine lv_iconst (v := 0) hx hb dX14_open_210 (by decide) ?_
            refine W.widen (k := 0) (n := 0) (Nat.le_of_ble_eq_true rfl) (Nat.le_of_ble_eq_true rfl) ?_
            have hP9 := hP.sub (ws' := [(am 0, .inr (19, [.int 1, .ref (am 1), .ref (am 4), .ref (am 5), .ref (am 6), .ref (am 7), .ref (am 8), .int 0, .ref (am 9), .int 0, .int (-1), .int 100, .ref (am 10), .long 0, .int 0, .int 0, .int 0, .int 0, .long 0]))]) [0] rfl
            have hD9 := hD.sub (ws' := [(am 0, .inr (19, [.int 1, .ref (am 1), .ref (am 4), .ref (am 5), .ref (am 6), .ref (am 7), .ref (am 8), .int 0, .ref (am 9), .int 0, .int (-1), .int 100, .ref (am 10), .long 0, .int 0, .int 0, .int 0, .int 0, .long 0]))]) [0] (by decide) rfl
            exact W.iret hx hb hr (fun t ht hW => ⟨rfl, ⟨by rw [ht]; exact hP9, hD9⟩, hS.F ht⟩) hS.2.2 dX14_open_211
    · refine lv_iload hx hb dX14_open_12 (lv_at hl 4 rfl) ?_
      refine lv_iconst (v := 4) hx hb dX14_open_14 (by decide) ?_
      refine lv_icmp_eq (tgt := 25) hx hb dX14_open_15 (by decide) (fun c15 => ?_) (fun c15 => ?_)
      · refine lv_iconst (v := 1) hx hb dX14_open_25 (by decide) ?_
        refine lv_goto (tgt := 30) hx hb dX14_open_26 (by decide) ?_
        refine lv_istore (lv' := [(5, .int 1), (0, .ref (am 0)), (1, .int d), (2, .int n), (3, .int q), (4, .int z)]) hx hb dX14_open_30 hl (by decide) rfl (fun ls hl => ?_)
        refine lv_iload_n hx hb dX14_open_32 rfl (lv_at hl 4 rfl) ?_
        refine lv_bipush (v := 98) hx hb dX14_open_33 (by decide) ?_
        refine lv_icmp_eq (tgt := 55) hx hb dX14_open_35 (by decide) (fun c35 => ?_) (fun c35 => ?_)
        · refine lv_iconst (v := 1) hx hb dX14_open_55 (by decide) ?_
          refine lv_goto (tgt := 60) hx hb dX14_open_56 (by decide) ?_
          refine lv_istore (lv' := [(6, .int 1), (5, .int 1), (0, .ref (am 0)), (1, .int d), (2, .int n), (3, .int q), (4, .int z)]) hx hb dX14_open_60 hl (by decide) rfl (fun ls hl => ?_)
          refine lv_aload_n hx hb dX14_open_62 rfl (lv_at hl 2 rfl) ?_
          refine lv_aload_n hx hb dX14_open_63 rfl (lv_at hl 2 rfl) ?_
          refine lv_iload_n hx hb dX14_open_64 rfl (lv_at hl 3 rfl) ?_
          refine lv_iload_n hx hb dX14_open_65 rfl (lv_at hl 4 rfl) ?_
          refine ro_callV (As := [.int d, .int n]) (rest := [.ref (am 0)]) ⟨hx, hb, hml, hown, hts⟩ (c_isEnd l D cy d n) (cwV 2 hts gX14_open_X14_isEnd rfl rfl rfl (by decide +kernel) ⟨by decide, by decide⟩) hK hN hP hS (ci := 19) (q0 := 0) rfl rfl rfl rfl hl.1 rfl (Nat.le_of_ble_eq_true rfl) dX14_open_66 ⟨Nat.le_of_ble_eq_true rfl, Nat.le_of_ble_eq_true rfl⟩ (fun H locs hP hS => ?_)
          refine lv_if_ne (tgt := 76) hx hb dX14_open_69 (by decide) (fun c => absurd (by decide) c) (fun _ => ?_)
          refine lv_iconst (v := 1) hx hb dX14_open_72 (by decide) ?_
          refine lv_goto (tgt := 109) hx hb dX14_open_73 (by decide) ?_
          refine va_put (D := D) (ci := 19) (v := .int 1) (ty := .int) (C := RX14) (T := TX14) (N := 19) hx hb hts iw_X14_open_RX14 tyX14 tyX14_ok nmX14 hown hK hP hD hS 0 rfl rfl 0 (by decide) (hts (.fieldLink RX14 61 "HubcascadeModel" "thrown" "I") (by decide +kernel)) (fun _ h9 => h9) rfl (by decide +kernel) rfl rfl (Nat.le_of_ble_eq_true rfl) dX14_open_109 (fun H locs hP hD hS => ?_)
          have hP : va_P D vwCl (WM cy am eda 1) H := hP
          have hD : va_D A (WM cy am eda 1) := hD
          refine lv_iconst (v := (-1)) hx hb dX14_open_112 (by decide) ?_
          refine lv_istore (lv' := [(7, .int (-1)), (6, .int 1), (5, .int 1), (0, .ref (am 0)), (1, .int d), (2, .int n), (3, .int q), (4, .int z)]) hx hb dX14_open_113 hl (by decide) rfl (fun ls hl => ?_)
          refine lv_bipush (v := 11) hx hb dX14_open_115 (by decide) ?_
          refine lv_istore (lv' := [(8, .int 11), (7, .int (-1)), (6, .int 1), (5, .int 1), (0, .ref (am 0)), (1, .int d), (2, .int n), (3, .int q), (4, .int z)]) hx hb dX14_open_117 hl (by decide) rfl (fun ls hl => ?_)
          refine lv_iload hx hb dX14_open_119 (lv_at hl 0 rfl) ?_
          refine lv_if_lt (tgt := 203) hx hb dX14_open_121 (by decide) (fun c => absurd c (by decide)) (fun _ => ?_)
          refine lv_aload_n hx hb dX14_open_124 rfl (lv_at hl 4 rfl) ?_
          refine va_get (D := D) (ci := 19) (v := .int 1) (C := RX14) (T := TX14) (N := 19) hx hb hts iw_X14_open_RX14 hown hK hP 0 rfl rfl 0 (by decide) (hts (.fieldLink RX14 61 "HubcascadeModel" "thrown" "I") (by decide +kernel)) (fun _ h9 => h9) rfl dX14_open_125 ?_
          refine lv_if_ne (tgt := 203) hx hb dX14_open_128 (by decide) (fun _ => ?_) (fun c => absurd c (by decide))
          refine lv_aload_n hx hb dX14_open_203 rfl (lv_at hl 4 rfl) ?_
          refine va_get (D := D) (ci := 19) (v := .int 1) (C := RX14) (T := TX14) (N := 19) hx hb hts iw_X14_open_RX14 hown hK hP 0 rfl rfl 0 (by decide) (hts (.fieldLink RX14 61 "HubcascadeModel" "thrown" "I") (by decide +kernel)) (fun _ h9 => h9) rfl dX14_open_204 ?_
          refine lv_if_le (tgt := 212) hx hb dX14_open_207 (by decide) (fun c => absurd c (by decide)) (fun _ => ?_)
          refine lv_iconst (v := 0) hx hb dX14_open_210 (by decide) ?_
          refine W.widen (k := 0) (n := 0) (Nat.le_of_ble_eq_true rfl) (Nat.le_of_ble_eq_true rfl) ?_
          have hP9 := hP.sub (ws' := [(am 0, .inr (19, [.int 1, .ref (am 1), .ref (am 4), .ref (am 5), .ref (am 6), .ref (am 7), .ref (am 8), .int 0, .ref (am 9), .int 0, .int (-1), .int 100, .ref (am 10), .long 0, .int 0, .int 0, .int 0, .int 0, .long 0]))]) [0] rfl
          have hD9 := hD.sub (ws' := [(am 0, .inr (19, [.int 1, .ref (am 1), .ref (am 4), .ref (am 5), .ref (am 6), .ref (am 7), .ref (am 8), .int 0, .ref (am 9), .int 0, .int (-1), .int 100, .ref (am 10), .long 0, .int 0, .int 0, .int 0, .int 0, .long 0]))]) [0] (by decide) rfl
          exact W.iret hx hb hr (fun t ht hW => ⟨rfl, ⟨by rw [ht]; exact hP9, hD9⟩, hS.F ht⟩) hS.2.2 dX14_open_211
        · refine lv_iload_n hx hb dX14_open_38 rfl (lv_at hl 4 rfl) ?_
          refine lv_bipush (v := 105) hx hb dX14_open_39 (by decide) ?_
          refine lv_icmp_eq (tgt := 50) hx hb dX14_open_41 (by decide) (fun c41 => ?_) (fun c41 => ?_)
          · refine lv_iload hx hb dX14_open_50 (lv_at hl 0 rfl) ?_
            refine lv_if_eq (tgt := 59) hx hb dX14_open_52 (by decide) (fun c => absurd c (by decide)) (fun _ => ?_)
            refine lv_iconst (v := 1) hx hb dX14_open_55 (by decide) ?_
            refine lv_goto (tgt := 60) hx hb dX14_open_56 (by decide) ?_
            refine lv_istore (lv' := [(6, .int 1), (5, .int 1), (0, .ref (am 0)), (1, .int d), (2, .int n), (3, .int q), (4, .int z)]) hx hb dX14_open_60 hl (by decide) rfl (fun ls hl => ?_)
            refine lv_aload_n hx hb dX14_open_62 rfl (lv_at hl 2 rfl) ?_
            refine lv_aload_n hx hb dX14_open_63 rfl (lv_at hl 2 rfl) ?_
            refine lv_iload_n hx hb dX14_open_64 rfl (lv_at hl 3 rfl) ?_
            refine lv_iload_n hx hb dX14_open_65 rfl (lv_at hl 4 rfl) ?_
            refine ro_callV (As := [.int d, .int n]) (rest := [.ref (am 0)]) ⟨hx, hb, hml, hown, hts⟩ (c_isEnd l D cy d n) (cwV 2 hts gX14_open_X14_isEnd rfl rfl rfl (by decide +kernel) ⟨by decide, by decide⟩) hK hN hP hS (ci := 19) (q0 := 0) rfl rfl rfl rfl hl.1 rfl (Nat.le_of_ble_eq_true rfl) dX14_open_66 ⟨Nat.le_of_ble_eq_true rfl, Nat.le_of_ble_eq_true rfl⟩ (fun H locs hP hS => ?_)
            refine lv_if_ne (tgt := 76) hx hb dX14_open_69 (by decide) (fun c => absurd (by decide) c) (fun _ => ?_)
            refine lv_iconst (v := 1) hx hb dX14_open_72 (by decide) ?_
            refine lv_goto (tgt := 109) hx hb dX14_open_73 (by decide) ?_
            refine va_put (D := D) (ci := 19) (v := .int 1) (ty := .int) (C := RX14) (T := TX14) (N := 19) hx hb hts iw_X14_open_RX14 tyX14 tyX14_ok nmX14 hown hK hP hD hS 0 rfl rfl 0 (by decide) (hts (.fieldLink RX14 61 "HubcascadeModel" "thrown" "I") (by decide +kernel)) (fun _ h9 => h9) rfl (by decide +kernel) rfl rfl (Nat.le_of_ble_eq_true rfl) dX14_open_109 (fun H locs hP hD hS => ?_)
            have hP : va_P D vwCl (WM cy am eda 1) H := hP
            have hD : va_D A (WM cy am eda 1) := hD
            refine lv_iconst (v := (-1)) hx hb dX14_open_112 (by decide) ?_
            refine lv_istore (lv' := [(7, .int (-1)), (6, .int 1), (5, .int 1), (0, .ref (am 0)), (1, .int d), (2, .int n), (3, .int q), (4, .int z)]) hx hb dX14_open_113 hl (by decide) rfl (fun ls hl => ?_)
            refine lv_bipush (v := 11) hx hb dX14_open_115 (by decide) ?_
            refine lv_istore (lv' := [(8, .int 11), (7, .int (-1)), (6, .int 1), (5, .int 1), (0, .ref (am 0)), (1, .int d), (2, .int n), (3, .int q), (4, .int z)]) hx hb dX14_open_117 hl (by decide) rfl (fun ls hl => ?_)
            refine lv_iload hx hb dX14_open_119 (lv_at hl 0 rfl) ?_
            refine lv_if_lt (tgt := 203) hx hb dX14_open_121 (by decide) (fun c => absurd c (by decide)) (fun _ => ?_)
            refine lv_aload_n hx hb dX14_open_124 rfl (lv_at hl 4 rfl) ?_
            refine va_get (D := D) (ci := 19) (v := .int 1) (C := RX14) (T := TX14) (N := 19) hx hb hts iw_X14_open_RX14 hown hK hP 0 rfl rfl 0 (by decide) (hts (.fieldLink RX14 61 "HubcascadeModel" "thrown" "I") (by decide +kernel)) (fun _ h9 => h9) rfl dX14_open_125 ?_
            refine lv_if_ne (tgt := 203) hx hb dX14_open_128 (by decide) (fun _ => ?_) (fun c => absurd c (by decide))
            refine lv_aload_n hx hb dX14_open_203 rfl (lv_at hl 4 rfl) ?_
            refine va_get (D := D) (ci := 19) (v := .int 1) (C := RX14) (T := TX14) (N := 19) hx hb hts iw_X14_open_RX14 hown hK hP 0 rfl rfl 0 (by decide) (hts (.fieldLink RX14 61 "HubcascadeModel" "thrown" "I") (by decide +kernel)) (fun _ h9 => h9) rfl dX14_open_204 ?_
            refine lv_if_le (tgt := 212) hx hb dX14_open_207 (by decide) (fun c => absurd c (by decide)) (fun _ => ?_)
            refine lv_iconst (v := 0) hx hb dX14_open_210 (by decide) ?_
            refine W.widen (k := 0) (n := 0) (Nat.le_of_ble_eq_true rfl) (Nat.le_of_ble_eq_true rfl) ?_
            have hP9 := hP.sub (ws' := [(am 0, .inr (19, [.int 1, .ref (am 1), .ref (am 4), .ref (am 5), .ref (am 6), .ref (am 7), .ref (am 8), .int 0, .ref (am 9), .int 0, .int (-1), .int 100, .ref (am 10), .long 0, .int 0, .int 0, .int 0, .int 0, .long 0]))]) [0] rfl
            have hD9 := hD.sub (ws' := [(am 0, .inr (19, [.int 1, .ref (am 1), .ref (am 4), .ref (am 5), .ref (am 6), .ref (am 7), .ref (am 8), .int 0, .ref (am 9), .int 0, .int (-1), .int 100, .ref (am 10), .long 0, .int 0, .int 0, .int 0, .int 0, .long 0]))]) [0] (by decide) rfl
            exact W.iret hx hb hr (fun t ht hW => ⟨rfl, ⟨by rw [ht]; exact hP9, hD9⟩, hS.F ht⟩) hS.2.2 dX14_open_211
          · refine lv_iload_n hx hb dX14_open_44 rfl (lv_at hl 4 rfl) ?_
            refine lv_bipush (v := 115) hx hb dX14_open_45 (by decide) ?_
            refine lv_icmp_ne (tgt := 59) hx hb dX14_open_47 (by decide) (fun c47 => ?_) (fun c47 => ?_)
            · refine lv_iconst (v := 0) hx hb dX14_open_59 (by decide) ?_
              refine lv_istore (lv' := [(6, .int 0), (5, .int 1), (0, .ref (am 0)), (1, .int d), (2, .int n), (3, .int q), (4, .int z)]) hx hb dX14_open_60 hl (by decide) rfl (fun ls hl => ?_)
              refine lv_aload_n hx hb dX14_open_62 rfl (lv_at hl 2 rfl) ?_
              refine lv_aload_n hx hb dX14_open_63 rfl (lv_at hl 2 rfl) ?_
              refine lv_iload_n hx hb dX14_open_64 rfl (lv_at hl 3 rfl) ?_
              refine lv_iload_n hx hb dX14_open_65 rfl (lv_at hl 4 rfl) ?_
              refine ro_callV (As := [.int d, .int n]) (rest := [.ref (am 0)]) ⟨hx, hb, hml, hown, hts⟩ (c_isEnd l D cy d n) (cwV 2 hts gX14_open_X14_isEnd rfl rfl rfl (by decide +kernel) ⟨by decide, by decide⟩) hK hN hP hS (ci := 19) (q0 := 0) rfl rfl rfl rfl hl.1 rfl (Nat.le_of_ble_eq_true rfl) dX14_open_66 ⟨Nat.le_of_ble_eq_true rfl, Nat.le_of_ble_eq_true rfl⟩ (fun H locs hP hS => ?_)
              refine lv_if_ne (tgt := 76) hx hb dX14_open_69 (by decide) (fun c => absurd (by decide) c) (fun _ => ?_)
              refine lv_iconst (v := 1) hx hb dX14_open_72 (by decide) ?_
              refine lv_goto (tgt := 109) hx hb dX14_open_73 (by decide) ?_
              refine va_put (D := D) (ci := 19) (v := .int 1) (ty := .int) (C := RX14) (T := TX14) (N := 19) hx hb hts iw_X14_open_RX14 tyX14 tyX14_ok nmX14 hown hK hP hD hS 0 rfl rfl 0 (by decide) (hts (.fieldLink RX14 61 "HubcascadeModel" "thrown" "I") (by decide +kernel)) (fun _ h9 => h9) rfl (by decide +kernel) rfl rfl (Nat.le_of_ble_eq_true rfl) dX14_open_109 (fun H locs hP hD hS => ?_)
              have hP : va_P D vwCl (WM cy am eda 1) H := hP
              have hD : va_D A (WM cy am eda 1) := hD
              refine lv_iconst (v := (-1)) hx hb dX14_open_112 (by decide) ?_
              refine lv_istore (lv' := [(7, .int (-1)), (6, .int 0), (5, .int 1), (0, .ref (am 0)), (1, .int d), (2, .int n), (3, .int q), (4, .int z)]) hx hb dX14_open_113 hl (by decide) rfl (fun ls hl => ?_)
              refine lv_bipush (v := 11) hx hb dX14_open_115 (by decide) ?_
              refine lv_istore (lv' := [(8, .int 11), (7, .int (-1)), (6, .int 0), (5, .int 1), (0, .ref (am 0)), (1, .int d), (2, .int n), (3, .int q), (4, .int z)]) hx hb dX14_open_117 hl (by decide) rfl (fun ls hl => ?_)
              refine lv_iload hx hb dX14_open_119 (lv_at hl 0 rfl) ?_
              refine lv_if_lt (tgt := 203) hx hb dX14_open_121 (by decide) (fun c => absurd c (by decide)) (fun _ => ?_)
              refine lv_aload_n hx hb dX14_open_124 rfl (lv_at hl 4 rfl) ?_
              refine va_get (D := D) (ci := 19) (v := .int 1) (C := RX14) (T := TX14) (N := 19) hx hb hts iw_X14_open_RX14 hown hK hP 0 rfl rfl 0 (by decide) (hts (.fieldLink RX14 61 "HubcascadeModel" "thrown" "I") (by decide +kernel)) (fun _ h9 => h9) rfl dX14_open_125 ?_
              refine lv_if_ne (tgt := 203) hx hb dX14_open_128 (by decide) (fun _ => ?_) (fun c => absurd c (by decide))
              refine lv_aload_n hx hb dX14_open_203 rfl (lv_at hl 4 rfl) ?_
              refine va_get (D := D) (ci := 19) (v := .int 1) (C := RX14) (T := TX14) (N := 19) hx hb hts iw_X14_open_RX14 hown hK hP 0 rfl rfl 0 (by decide) (hts (.fieldLink RX14 61 "HubcascadeModel" "thrown" "I") (by decide +kernel)) (fun _ h9 => h9) rfl dX14_open_204 ?_
              refine lv_if_le (tgt := 212) hx hb dX14_open_207 (by decide) (fun c => absurd c (by decide)) (fun _ => ?_)
              refine lv_iconst (v := 0) hx hb dX14_open_210 (by decide) ?_
              refine W.widen (k := 0) (n := 0) (Nat.le_of_ble_eq_true rfl) (Nat.le_of_ble_eq_true rfl) ?_
              have hP9 := hP.sub (ws' := [(am 0, .inr (19, [.int 1, .ref (am 1), .ref (am 4), .ref (am 5), .ref (am 6), .ref (am 7), .ref (am 8), .int 0, .ref (am 9), .int 0, .int (-1), .int 100, .ref (am 10), .long 0, .int 0, .int 0, .int 0, .int 0, .long 0]))]) [0] rfl
              have hD9 := hD.sub (ws' := [(am 0, .inr (19, [.int 1, .ref (am 1), .ref (am 4), .ref (am 5), .ref (am 6), .ref (am 7), .ref (am 8), .int 0, .ref (am 9), .int 0, .int (-1), .int 100, .ref (am 10), .long 0, .int 0, .int 0, .int 0, .int 0, .long 0]))]) [0] (by decide) rfl
              exact W.iret hx hb hr (fun t ht hW => ⟨rfl, ⟨by rw [ht]; exact hP9, hD9⟩, hS.F ht⟩) hS.2.2 dX14_open_211
            · refine lv_iload hx hb dX14_open_50 (lv_at hl 0 rfl) ?_
              refine lv_if_eq (tgt := 59) hx hb dX14_open_52 (by decide) (fun c => absurd c (by decide)) (fun _ => ?_)
              refine lv_iconst (v := 1) hx hb dX14_open_55 (by decide) ?_
              refine lv_goto (tgt := 60) hx hb dX14_open_56 (by decide) ?_
              refine lv_istore (lv' := [(6, .int 1), (5, .int 1), (0, .ref (am 0)), (1, .int d), (2, .int n), (3, .int q), (4, .int z)]) hx hb dX14_open_60 hl (by decide) rfl (fun ls hl => ?_)
              refine lv_aload_n hx hb dX14_open_62 rfl (lv_at hl 2 rfl) ?_
              refine lv_aload_n hx hb dX14_open_63 rfl (lv_at hl 2 rfl) ?_
              refine lv_iload_n hx hb dX14_open_64 rfl (lv_at hl 3 rfl) ?_
              refine lv_iload_n hx hb dX14_open_65 rfl (lv_at hl 4 rfl) ?_
              refine ro_callV (As := [.int d, .int n]) (rest := [.ref (am 0)]) ⟨hx, hb, hml, hown, hts⟩ (c_isEnd l D cy d n) (cwV 2 hts gX14_open_X14_isEnd rfl rfl rfl (by decide +kernel) ⟨by decide, by decide⟩) hK hN hP hS (ci := 19) (q0 := 0) rfl rfl rfl rfl hl.1 rfl (Nat.le_of_ble_eq_true rfl) dX14_open_66 ⟨Nat.le_of_ble_eq_true rfl, Nat.le_of_ble_eq_true rfl⟩ (fun H locs hP hS => ?_)
              refine lv_if_ne (tgt := 76) hx hb dX14_open_69 (by decide) (fun c => absurd (by decide) c) (fun _ => ?_)
              refine lv_iconst (v := 1) hx hb dX14_open_72 (by decide) ?_
              refine lv_goto (tgt := 109) hx hb dX14_open_73 (by decide) ?_
              refine va_put (D := D) (ci := 19) (v := .int 1) (ty := .int) (C := RX14) (T := TX14) (N := 19) hx hb hts iw_X14_open_RX14 tyX14 tyX14_ok nmX14 hown hK hP hD hS 0 rfl rfl 0 (by decide) (hts (.fieldLink RX14 61 "HubcascadeModel" "thrown" "I") (by decide +kernel)) (fun _ h9 => h9) rfl (by decide +kernel) rfl rfl (Nat.le_of_ble_eq_true rfl) dX14_open_109 (fun H locs hP hD hS => ?_)
              have hP : va_P D vwCl (WM cy am eda 1) H := hP
              have hD : va_D A (WM cy am eda 1) := hD
              refine lv_iconst (v := (-1)) hx hb dX14_open_112 (by decide) ?_
              refine lv_istore (lv' := [(7, .int (-1)), (6, .int 1), (5, .int 1), (0, .ref (am 0)), (1, .int d), (2, .int n), (3, .int q), (4, .int z)]) hx hb dX14_open_113 hl (by decide) rfl (fun ls hl => ?_)
              refine lv_bipush (v := 11) hx hb dX14_open_115 (by decide) ?_
              refine lv_istore (lv' := [(8, .int 11), (7, .int (-1)), (6, .int 1), (5, .int 1), (0, .ref (am 0)), (1, .int d), (2, .int n), (3, .int q), (4, .int z)]) hx hb dX14_open_117 hl (by decide) rfl (fun ls hl => ?_)
              refine lv_iload hx hb dX14_open_119 (lv_at hl 0 rfl) ?_
              refine lv_if_lt (tgt := 203) hx hb dX14_open_121 (by decide) (fun c => absurd c (by decide)) (fun _ => ?_)
              refine lv_aload_n hx hb dX14_open_124 rfl (lv_at hl 4 rfl) ?_
              refine va_get (D := D) (ci := 19) (v := .int 1) (C := RX14) (T := TX14) (N := 19) hx hb hts iw_X14_open_RX14 hown hK hP 0 rfl rfl 0 (by decide) (hts (.fieldLink RX14 61 "HubcascadeModel" "thrown" "I") (by decide +kernel)) (fun _ h9 => h9) rfl dX14_open_125 ?_
              refine lv_if_ne (tgt := 203) hx hb dX14_open_128 (by decide) (fun _ => ?_) (fun c => absurd c (by decide))
              refine lv_aload_n hx hb dX14_open_203 rfl (lv_at hl 4 rfl) ?_
              refine va_get (D := D) (ci := 19) (v := .int 1) (C := RX14) (T := TX14) (N := 19) hx hb hts iw_X14_open_RX14 hown hK hP 0 rfl rfl 0 (by decide) (hts (.fieldLink RX14 61 "HubcascadeModel" "thrown" "I") (by decide +kernel)) (fun _ h9 => h9) rfl dX14_open_204 ?_
              refine lv_if_le (tgt := 212) hx hb dX14_open_207 (by decide) (fun c => absurd c (by decide)) (fun _ => ?_)
              refine lv_iconst (v := 0) hx hb dX14_open_210 (by decide) ?_
              refine W.widen (k := 0) (n := 0) (Nat.le_of_ble_eq_true rfl) (Nat.le_of_ble_eq_true rfl) ?_
              have hP9 := hP.sub (ws' := [(am 0, .inr (19, [.int 1, .ref (am 1), .ref (am 4), .ref (am 5), .ref (am 6), .ref (am 7), .ref (am 8), .int 0, .ref (am 9), .int 0, .int (-1), .int 100, .ref (am 10), .long 0, .int 0, .int 0, .int 0, .int 0, .long 0]))]) [0] rfl
              have hD9 := hD.sub (ws' := [(am 0, .inr (19, [.int 1, .ref (am 1), .ref (am 4), .ref (am 5), .ref (am 6), .ref (am 7), .ref (am 8), .int 0, .ref (am 9), .int 0, .int (-1), .int 100, .ref (am 10), .long 0, .int 0, .int 0, .int 0, .int 0, .long 0]))]) [0] (by decide) rfl
              exact W.iret hx hb hr (fun t ht hW => ⟨rfl, ⟨by rw [ht]; exact hP9, hD9⟩, hS.F ht⟩) hS.2.2 dX14_open_211
      · refine lv_iload hx hb dX14_open_18 (lv_at hl 4 rfl) ?_
        refine lv_bipush (v := 8) hx hb dX14_open_20 (by decide) ?_
        refine lv_icmp_ne (tgt := 29) hx hb dX14_open_22 (by decide) (fun c22 => ?_) (fun c22 => ?_)
        · refine lv_iconst (v := 0) hx hb dX14_open_29 (by decide) ?_
          refine lv_istore (lv' := [(5, .int 0), (0, .ref (am 0)), (1, .int d), (2, .int n), (3, .int q), (4, .int z)]) hx hb dX14_open_30 hl (by decide) rfl (fun ls hl => ?_)
          refine lv_iload_n hx hb dX14_open_32 rfl (lv_at hl 4 rfl) ?_
          refine lv_bipush (v := 98) hx hb dX14_open_33 (by decide) ?_
          refine lv_icmp_eq (tgt := 55) hx hb dX14_open_35 (by decide) (fun c35 => ?_) (fun c35 => ?_)
          · refine lv_iconst (v := 1) hx hb dX14_open_55 (by decide) ?_
            refine lv_goto (tgt := 60) hx hb dX14_open_56 (by decide) ?_
            refine lv_istore (lv' := [(6, .int 1), (5, .int 0), (0, .ref (am 0)), (1, .int d), (2, .int n), (3, .int q), (4, .int z)]) hx hb dX14_open_60 hl (by decide) rfl (fun ls hl => ?_)
            refine lv_aload_n hx hb dX14_open_62 rfl (lv_at hl 2 rfl) ?_
            refine lv_aload_n hx hb dX14_open_63 rfl (lv_at hl 2 rfl) ?_
            refine lv_iload_n hx hb dX14_open_64 rfl (lv_at hl 3 rfl) ?_
            refine lv_iload_n hx hb dX14_open_65 rfl (lv_at hl 4 rfl) ?_
            refine ro_callV (As := [.int d, .int n]) (rest := [.ref (am 0)]) ⟨hx, hb, hml, hown, hts⟩ (c_isEnd l D cy d n) (cwV 2 hts gX14_open_X14_isEnd rfl rfl rfl (by decide +kernel) ⟨by decide, by decide⟩) hK hN hP hS (ci := 19) (q0 := 0) rfl rfl rfl rfl hl.1 rfl (Nat.le_of_ble_eq_true rfl) dX14_open_66 ⟨Nat.le_of_ble_eq_true rfl, Nat.le_of_ble_eq_true rfl⟩ (fun H locs hP hS => ?_)
            refine lv_if_ne (tgt := 76) hx hb dX14_open_69 (by decide) (fun c => absurd (by decide) c) (fun _ => ?_)
            refine lv_iconst (v := 1) hx hb dX14_open_72 (by decide) ?_
            refine lv_goto (tgt := 109) hx hb dX14_open_73 (by decide) ?_
            refine va_put (D := D) (ci := 19) (v := .int 1) (ty := .int) (C := RX14) (T := TX14) (N := 19) hx hb hts iw_X14_open_RX14 tyX14 tyX14_ok nmX14 hown hK hP hD hS 0 rfl rfl 0 (by decide) (hts (.fieldLink RX14 61 "HubcascadeModel" "thrown" "I") (by decide +kernel)) (fun _ h9 => h9) rfl (by decide +kernel) rfl rfl (Nat.le_of_ble_eq_true rfl) dX14_open_109 (fun H locs hP hD hS => ?_)
            have hP : va_P D vwCl (WM cy am eda 1) H := hP
            have hD : va_D A (WM cy am eda 1) := hD
            refine lv_iconst (v := (-1)) hx hb dX14_open_112 (by decide) ?_
            refine lv_istore (lv' := [(7, .int (-1)), (6, .int 1), (5, .int 0), (0, .ref (am 0)), (1, .int d), (2, .int n), (3, .int q), (4, .int z)]) hx hb dX14_open_113 hl (by decide) rfl (fun ls hl => ?_)
            refine lv_bipush (v := 11) hx hb dX14_open_115 (by decide) ?_
            refine lv_istore (lv' := [(8, .int 11), (7, .int (-1)), (6, .int 1), (5, .int 0), (0, .ref (am 0)), (1, .int d), (2, .int n), (3, .int q), (4, .int z)]) hx hb dX14_open_117 hl (by decide) rfl (fun ls hl => ?_)
            refine lv_iload hx hb dX14_open_119 (lv_at hl 0 rfl) ?_
            refine lv_if_lt (tgt := 203) hx hb dX14_open_121 (by decide) (fun c => absurd c (by decide)) (fun _ => ?_)
            refine lv_aload_n hx hb dX14_open_124 rfl (lv_at hl 4 rfl) ?_
            refine va_get (D := D) (ci := 19) (v := .int 1) (C := RX14) (T := TX14) (N := 19) hx hb hts iw_X14_open_RX14 hown hK hP 0 rfl rfl 0 (by decide) (hts (.fieldLink RX14 61 "HubcascadeModel" "thrown" "I") (by decide +kernel)) (fun _ h9 => h9) rfl dX14_open_125 ?_
            refine lv_if_ne (tgt := 203) hx hb dX14_open_128 (by decide) (fun _ => ?_) (fun c => absurd c (by decide))
            refine lv_aload_n hx hb dX14_open_203 rfl (lv_at hl 4 rfl) ?_
            refine va_get (D := D) (ci := 19) (v := .int 1) (C := RX14) (T := TX14) (N := 19) hx hb hts iw_X14_open_RX14 hown hK hP 0 rfl rfl 0 (by decide) (hts (.fieldLink RX14 61 "HubcascadeModel" "thrown" "I") (by decide +kernel)) (fun _ h9 => h9) rfl dX14_open_204 ?_
            refine lv_if_le (tgt := 212) hx hb dX14_open_207 (by decide) (fun c => absurd c (by decide)) (fun _ => ?_)
            refine lv_iconst (v := 0) hx hb dX14_open_210 (by decide) ?_
            refine W.widen (k := 0) (n := 0) (Nat.le_of_ble_eq_true rfl) (Nat.le_of_ble_eq_true rfl) ?_
            have hP9 := hP.sub (ws' := [(am 0, .inr (19, [.int 1, .ref (am 1), .ref (am 4), .ref (am 5), .ref (am 6), .ref (am 7), .ref (am 8), .int 0, .ref (am 9), .int 0, .int (-1), .int 100, .ref (am 10), .long 0, .int 0, .int 0, .int 0, .int 0, .long 0]))]) [0] rfl
            have hD9 := hD.sub (ws' := [(am 0, .inr (19, [.int 1, .ref (am 1), .ref (am 4), .ref (am 5), .ref (am 6), .ref (am 7), .ref (am 8), .int 0, .ref (am 9), .int 0, .int (-1), .int 100, .ref (am 10), .long 0, .int 0, .int 0, .int 0, .int 0, .long 0]))]) [0] (by decide) rfl
            exact W.iret hx hb hr (fun t ht hW => ⟨rfl, ⟨by rw [ht]; exact hP9, hD9⟩, hS.F ht⟩) hS.2.2 dX14_open_211
          · refine lv_iload_n hx hb dX14_open_38 rfl (lv_at hl 4 rfl) ?_
            refine lv_bipush (v := 105) hx hb dX14_open_39 (by decide) ?_
            refine lv_icmp_eq (tgt := 50) hx hb dX14_open_41 (by decide) (fun c41 => ?_) (fun c41 => ?_)
            · refine lv_iload hx hb dX14_open_50 (lv_at hl 0 rfl) ?_
              refine lv_if_eq (tgt := 59) hx hb dX14_open_52 (by decide) (fun _ => ?_) (fun c => absurd (by decide) c)
              refine lv_iconst (v := 0) hx hb dX14_open_59 (by decide) ?_
              refine lv_istore (lv' := [(6, .int 0), (5, .int 0), (0, .ref (am 0)), (1, .int d), (2, .int n), (3, .int q), (4, .int z)]) hx hb dX14_open_60 hl (by decide) rfl (fun ls hl => ?_)
              refine lv_aload_n hx hb dX14_open_62 rfl (lv_at hl 2 rfl) ?_
              refine lv_aload_n hx hb dX14_open_63 rfl (lv_at hl 2 rfl) ?_
              refine lv_iload_n hx hb dX14_open_64 rfl (lv_at hl 3 rfl) ?_
              refine lv_iload_n hx hb dX14_open_65 rfl (lv_at hl 4 rfl) ?_
              refine ro_callV (As := [.int d, .int n]) (rest := [.ref (am 0)]) ⟨hx, hb, hml, hown, hts⟩ (c_isEnd l D cy d n) (cwV 2 hts gX14_open_X14_isEnd rfl rfl rfl (by decide +kernel) ⟨by decide, by decide⟩) hK hN hP hS (ci := 19) (q0 := 0) rfl rfl rfl rfl hl.1 rfl (Nat.le_of_ble_eq_true rfl) dX14_open_66 ⟨Nat.le_of_ble_eq_true rfl, Nat.le_of_ble_eq_true rfl⟩ (fun H locs hP hS => ?_)
              refine lv_if_ne (tgt := 76) hx hb dX14_open_69 (by decide) (fun c => absurd (by decide) c) (fun _ => ?_)
              refine lv_iconst (v := 1) hx hb dX14_open_72 (by decide) ?_
              refine lv_goto (tgt := 109) hx hb dX14_open_73 (by decide) ?_
              refine va_put (D := D) (ci := 19) (v := .int 1) (ty := .int) (C := RX14) (T := TX14) (N := 19) hx hb hts iw_X14_open_RX14 tyX14 tyX14_ok nmX14 hown hK hP hD hS 0 rfl rfl 0 (by decide) (hts (.fieldLink RX14 61 "HubcascadeModel" "thrown" "I") (by decide +kernel)) (fun _ h9 => h9) rfl (by decide +kernel) rfl rfl (Nat.le_of_ble_eq_true rfl) dX14_open_109 (fun H locs hP hD hS => ?_)
              have hP : va_P D vwCl (WM cy am eda 1) H := hP
              have hD : va_D A (WM cy am eda 1) := hD
              refine lv_iconst (v := (-1)) hx hb dX14_open_112 (by decide) ?_
              refine lv_istore (lv' := [(7, .int (-1)), (6, .int 0), (5, .int 0), (0, .ref (am 0)), (1, .int d), (2, .int n), (3, .int q), (4, .int z)]) hx hb dX14_open_113 hl (by decide) rfl (fun ls hl => ?_)
              refine lv_bipush (v := 11) hx hb dX14_open_115 (by decide) ?_
              refine lv_istore (lv' := [(8, .int 11), (7, .int (-1)), (6, .int 0), (5, .int 0), (0, .ref (am 0)), (1, .int d), (2, .int n), (3, .int q), (4, .int z)]) hx hb dX14_open_117 hl (by decide) rfl (fun ls hl => ?_)
              refine lv_iload hx hb dX14_open_119 (lv_at hl 0 rfl) ?_
              refine lv_if_lt (tgt := 203) hx hb dX14_open_121 (by decide) (fun c => absurd c (by decide)) (fun _ => ?_)
              refine lv_aload_n hx hb dX14_open_124 rfl (lv_at hl 4 rfl) ?_
              refine va_get (D := D) (ci := 19) (v := .int 1) (C := RX14) (T := TX14) (N := 19) hx hb hts iw_X14_open_RX14 hown hK hP 0 rfl rfl 0 (by decide) (hts (.fieldLink RX14 61 "HubcascadeModel" "thrown" "I") (by decide +kernel)) (fun _ h9 => h9) rfl dX14_open_125 ?_
              refine lv_if_ne (tgt := 203) hx hb dX14_open_128 (by decide) (fun _ => ?_) (fun c => absurd c (by decide))
              refine lv_aload_n hx hb dX14_open_203 rfl (lv_at hl 4 rfl) ?_
              refine va_get (D := D) (ci := 19) (v := .int 1) (C := RX14) (T := TX14) (N := 19) hx hb hts iw_X14_open_RX14 hown hK hP 0 rfl rfl 0 (by decide) (hts (.fieldLink RX14 61 "HubcascadeModel" "thrown" "I") (by decide +kernel)) (fun _ h9 => h9) rfl dX14_open_204 ?_
              refine lv_if_le (tgt := 212) hx hb dX14_open_207 (by decide) (fun c => absurd c (by decide)) (fun _ => ?_)
              refine lv_iconst (v := 0) hx hb dX14_open_210 (by decide) ?_
              refine W.widen (k := 0) (n := 0) (Nat.le_of_ble_eq_true rfl) (Nat.le_of_ble_eq_true rfl) ?_
              have hP9 := hP.sub (ws' := [(am 0, .inr (19, [.int 1, .ref (am 1), .ref (am 4), .ref (am 5), .ref (am 6), .ref (am 7), .ref (am 8), .int 0, .ref (am 9), .int 0, .int (-1), .int 100, .ref (am 10), .long 0, .int 0, .int 0, .int 0, .int 0, .long 0]))]) [0] rfl
              have hD9 := hD.sub (ws' := [(am 0, .inr (19, [.int 1, .ref (am 1), .ref (am 4), .ref (am 5), .ref (am 6), .ref (am 7), .ref (am 8), .int 0, .ref (am 9), .int 0, .int (-1), .int 100, .ref (am 10), .long 0, .int 0, .int 0, .int 0, .int 0, .long 0]))]) [0] (by decide) rfl
              exact W.iret hx hb hr (fun t ht hW => ⟨rfl, ⟨by rw [ht]; exact hP9, hD9⟩, hS.F ht⟩) hS.2.2 dX14_open_211
            · refine lv_iload_n hx hb dX14_open_44 rfl (lv_at hl 4 rfl) ?_
              refine lv_bipush (v := 115) hx hb dX14_open_45 (by decide) ?_
              refine lv_icmp_ne (tgt := 59) hx hb dX14_open_47 (by decide) (fun c47 => ?_) (fun c47 => ?_)
              · refine lv_iconst (v := 0) hx hb dX14_open_59 (by decide) ?_
                refine lv_istore (lv' := [(6, .int 0), (5, .int 0), (0, .ref (am 0)), (1, .int d), (2, .int n), (3, .int q), (4, .int z)]) hx hb dX14_open_60 hl (by decide) rfl (fun ls hl => ?_)
                refine lv_aload_n hx hb dX14_open_62 rfl (lv_at hl 2 rfl) ?_
                refine lv_aload_n hx hb dX14_open_63 rfl (lv_at hl 2 rfl) ?_
                refine lv_iload_n hx hb dX14_open_64 rfl (lv_at hl 3 rfl) ?_
                refine lv_iload_n hx hb dX14_open_65 rfl (lv_at hl 4 rfl) ?_
                refine ro_callV (As := [.int d, .int n]) (rest := [.ref (am 0)]) ⟨hx, hb, hml, hown, hts⟩ (c_isEnd l D cy d n) (cwV 2 hts gX14_open_X14_isEnd rfl rfl rfl (by decide +kernel) ⟨by decide, by decide⟩) hK hN hP hS (ci := 19) (q0 := 0) rfl rfl rfl rfl hl.1 rfl (Nat.le_of_ble_eq_true rfl) dX14_open_66 ⟨Nat.le_of_ble_eq_true rfl, Nat.le_of_ble_eq_true rfl⟩ (fun H locs hP hS => ?_)
                refine lv_if_ne (tgt := 76) hx hb dX14_open_69 (by decide) (fun c => absurd (by decide) c) (fun _ => ?_)
                refine lv_iconst (v := 1) hx hb dX14_open_72 (by decide) ?_
                refine lv_goto (tgt := 109) hx hb dX14_open_73 (by decide) ?_
                refine va_put (D := D) (ci := 19) (v := .int 1) (ty := .int) (C := RX14) (T := TX14) (N := 19) hx hb hts iw_X14_open_RX14 tyX14 tyX14_ok nmX14 hown hK hP hD hS 0 rfl rfl 0 (by decide) (hts (.fieldLink RX14 61 "HubcascadeModel" "thrown" "I") (by decide +kernel)) (fun _ h9 => h9) rfl (by decide +kernel) rfl rfl (Nat.le_of_ble_eq_true rfl) dX14_open_109 (fun H locs hP hD hS => ?_)
                have hP : va_P D vwCl (WM cy am eda 1) H := hP
                have hD : va_D A (WM cy am eda 1) := hD
                refine lv_iconst (v := (-1)) hx hb dX14_open_112 (by decide) ?_
                refine lv_istore (lv' := [(7, .int (-1)), (6, .int 0), (5, .int 0), (0, .ref (am 0)), (1, .int d), (2, .int n), (3, .int q), (4, .int z)]) hx hb dX14_open_113 hl (by decide) rfl (fun ls hl => ?_)
                refine lv_bipush (v := 11) hx hb dX14_open_115 (by decide) ?_
                refine lv_istore (lv' := [(8, .int 11), (7, .int (-1)), (6, .int 0), (5, .int 0), (0, .ref (am 0)), (1, .int d), (2, .int n), (3, .int q), (4, .int z)]) hx hb dX14_open_117 hl (by decide) rfl (fun ls hl => ?_)
                refine lv_iload hx hb dX14_open_119 (lv_at hl 0 rfl) ?_
                refine lv_if_lt (tgt := 203) hx hb dX14_open_121 (by decide) (fun c => absurd c (by decide)) (fun _ => ?_)
                refine lv_aload_n hx hb dX14_open_124 rfl (lv_at hl 4 rfl) ?_
                refine va_get (D := D) (ci := 19) (v := .int 1) (C := RX14) (T := TX14) (N := 19) hx hb hts iw_X14_open_RX14 hown hK hP 0 rfl rfl 0 (by decide) (hts (.fieldLink RX14 61 "HubcascadeModel" "thrown" "I") (by decide +kernel)) (fun _ h9 => h9) rfl dX14_open_125 ?_
                refine lv_if_ne (tgt := 203) hx hb dX14_open_128 (by decide) (fun _ => ?_) (fun c => absurd c (by decide))
                refine lv_aload_n hx hb dX14_open_203 rfl (lv_at hl 4 rfl) ?_
                refine va_get (D := D) (ci := 19) (v := .int 1) (C := RX14) (T := TX14) (N := 19) hx hb hts iw_X14_open_RX14 hown hK hP 0 rfl rfl 0 (by decide) (hts (.fieldLink RX14 61 "HubcascadeModel" "thrown" "I") (by decide +kernel)) (fun _ h9 => h9) rfl dX14_open_204 ?_
                refine lv_if_le (tgt := 212) hx hb dX14_open_207 (by decide) (fun c => absurd c (by decide)) (fun _ => ?_)
                refine lv_iconst (v := 0) hx hb dX14_open_210 (by decide) ?_
                refine W.widen (k := 0) (n := 0) (Nat.le_of_ble_eq_true rfl) (Nat.le_of_ble_eq_true rfl) ?_
                have hP9 := hP.sub (ws' := [(am 0, .inr (19, [.int 1, .ref (am 1), .ref (am 4), .ref (am 5), .ref (am 6), .ref (am 7), .ref (am 8), .int 0, .ref (am 9), .int 0, .int (-1), .int 100, .ref (am 10), .long 0, .int 0, .int 0, .int 0, .int 0, .long 0]))]) [0] rfl
                have hD9 := hD.sub (ws' := [(am 0, .inr (19, [.int 1, .ref (am 1), .ref (am 4), .ref (am 5), .ref (am 6), .ref (am 7), .ref (am 8), .int 0, .ref (am 9), .int 0, .int (-1), .int 100, .ref (am 10), .long 0, .int 0, .int 0, .int 0, .int 0, .long 0]))]) [0] (by decide) rfl
                exact W.iret hx hb hr (fun t ht hW => ⟨rfl, ⟨by rw [ht]; exact hP9, hD9⟩, hS.F ht⟩) hS.2.2 dX14_open_211
              · refine lv_iload hx hb dX14_open_50 (lv_at hl 0 rfl) ?_
                refine lv_if_eq (tgt := 59) hx hb dX14_open_52 (by decide) (fun _ => ?_) (fun c => absurd (by decide) c)
                refine lv_iconst (v := 0) hx hb dX14_open_59 (by decide) ?_
                refine lv_istore (lv' := [(6, .int 0), (5, .int 0), (0, .ref (am 0)), (1, .int d), (2, .int n), (3, .int q), (4, .int z)]) hx hb dX14_open_60 hl (by decide) rfl (fun ls hl => ?_)
                refine lv_aload_n hx hb dX14_open_62 rfl (lv_at hl 2 rfl) ?_
                refine lv_aload_n hx hb dX14_open_63 rfl (lv_at hl 2 rfl) ?_
                refine lv_iload_n hx hb dX14_open_64 rfl (lv_at hl 3 rfl) ?_
                refine lv_iload_n hx hb dX14_open_65 rfl (lv_at hl 4 rfl) ?_
                refine ro_callV (As := [.int d, .int n]) (rest := [.ref (am 0)]) ⟨hx, hb, hml, hown, hts⟩ (c_isEnd l D cy d n) (cwV 2 hts gX14_open_X14_isEnd rfl rfl rfl (by decide +kernel) ⟨by decide, by decide⟩) hK hN hP hS (ci := 19) (q0 := 0) rfl rfl rfl rfl hl.1 rfl (Nat.le_of_ble_eq_true rfl) dX14_open_66 ⟨Nat.le_of_ble_eq_true rfl, Nat.le_of_ble_eq_true rfl⟩ (fun H locs hP hS => ?_)
                refine lv_if_ne (tgt := 76) hx hb dX14_open_69 (by decide) (fun c => absurd (by decide) c) (fun _ => ?_)
                refine lv_iconst (v := 1) hx hb dX14_open_72 (by decide) ?_
                refine lv_goto (tgt := 109) hx hb dX14_open_73 (by decide) ?_
                refine va_put (D := D) (ci := 19) (v := .int 1) (ty := .int) (C := RX14) (T := TX14) (N := 19) hx hb hts iw_X14_open_RX14 tyX14 tyX14_ok nmX14 hown hK hP hD hS 0 rfl rfl 0 (by decide) (hts (.fieldLink RX14 61 "HubcascadeModel" "thrown" "I") (by decide +kernel)) (fun _ h9 => h9) rfl (by decide +kernel) rfl rfl (Nat.le_of_ble_eq_true rfl) dX14_open_109 (fun H locs hP hD hS => ?_)
                have hP : va_P D vwCl (WM cy am eda 1) H := hP
                have hD : va_D A (WM cy am eda 1) := hD
                refine lv_iconst (v := (-1)) hx hb dX14_open_112 (by decide) ?_
                refine lv_istore (lv' := [(7, .int (-1)), (6, .int 0), (5, .int 0), (0, .ref (am 0)), (1, .int d), (2, .int n), (3, .int q), (4, .int z)]) hx hb dX14_open_113 hl (by decide) rfl (fun ls hl => ?_)
                refine lv_bipush (v := 11) hx hb dX14_open_115 (by decide) ?_
                refine lv_istore (lv' := [(8, .int 11), (7, .int (-1)), (6, .int 0), (5, .int 0), (0, .ref (am 0)), (1, .int d), (2, .int n), (3, .int q), (4, .int z)]) hx hb dX14_open_117 hl (by decide) rfl (fun ls hl => ?_)
                refine lv_iload hx hb dX14_open_119 (lv_at hl 0 rfl) ?_
                refine lv_if_lt (tgt := 203) hx hb dX14_open_121 (by decide) (fun c => absurd c (by decide)) (fun _ => ?_)
                refine lv_aload_n hx hb dX14_open_124 rfl (lv_at hl 4 rfl) ?_
                refine va_get (D := D) (ci := 19) (v := .int 1) (C := RX14) (T := TX14) (N := 19) hx hb hts iw_X14_open_RX14 hown hK hP 0 rfl rfl 0 (by decide) (hts (.fieldLink RX14 61 "HubcascadeModel" "thrown" "I") (by decide +kernel)) (fun _ h9 => h9) rfl dX14_open_125 ?_
                refine lv_if_ne (tgt := 203) hx hb dX14_open_128 (by decide) (fun _ => ?_) (fun c => absurd c (by decide))
                refine lv_aload_n hx hb dX14_open_203 rfl (lv_at hl 4 rfl) ?_
                refine va_get (D := D) (ci := 19) (v := .int 1) (C := RX14) (T := TX14) (N := 19) hx hb hts iw_X14_open_RX14 hown hK hP 0 rfl rfl 0 (by decide) (hts (.fieldLink RX14 61 "HubcascadeModel" "thrown" "I") (by decide +kernel)) (fun _ h9 => h9) rfl dX14_open_204 ?_
                refine lv_if_le (tgt := 212) hx hb dX14_open_207 (by decide) (fun c => absurd c (by decide)) (fun _ => ?_)
                refine lv_iconst (v := 0) hx hb dX14_open_210 (by decide) ?_
                refine W.widen (k := 0) (n := 0) (Nat.le_of_ble_eq_true rfl) (Nat.le_of_ble_eq_true rfl) ?_
                have hP9 := hP.sub (ws' := [(am 0, .inr (19, [.int 1, .ref (am 1), .ref (am 4), .ref (am 5), .ref (am 6), .ref (am 7), .ref (am 8), .int 0, .ref (am 9), .int 0, .int (-1), .int 100, .ref (am 10), .long 0, .int 0, .int 0, .int 0, .int 0, .long 0]))]) [0] rfl
                have hD9 := hD.sub (ws' := [(am 0, .inr (19, [.int 1, .ref (am 1), .ref (am 4), .ref (am 5), .ref (am 6), .ref (am 7), .ref (am 8), .int 0, .ref (am 9), .int 0, .int (-1), .int 100, .ref (am 10), .long 0, .int 0, .int 0, .int 0, .int 0, .long 0]))]) [0] (by decide) rfl
                exact W.iret hx hb hr (fun t ht hW => ⟨rfl, ⟨by rw [ht]; exact hP9, hD9⟩, hS.F ht⟩) hS.2.2 dX14_open_211
        · refine lv_iconst (v := 1) hx hb dX14_open_25 (by decide) ?_
          refine lv_goto (tgt := 30) hx hb dX14_open_26 (by decide) ?_
          refine lv_istore (lv' := [(5, .int 1), (0, .ref (am 0)), (1, .int d), (2, .int n), (3, .int q), (4, .int z)]) hx hb dX14_open_30 hl (by decide) rfl (fun ls hl => ?_)
          refine lv_iload_n hx hb dX14_open_32 rfl (lv_at hl 4 rfl) ?_
          refine lv_bipush (v := 98) hx hb dX14_open_33 (by decide) ?_
          refine lv_icmp_eq (tgt := 55) hx hb dX14_open_35 (by decide) (fun c35 => ?_) (fun c35 => ?_)
          · refine lv_iconst (v := 1) hx hb dX14_open_55 (by decide) ?_
            refine lv_goto (tgt := 60) hx hb dX14_open_56 (by decide) ?_
            refine lv_istore (lv' := [(6, .int 1), (5, .int 1), (0, .ref (am 0)), (1, .int d), (2, .int n), (3, .int q), (4, .int z)]) hx hb dX14_open_60 hl (by decide) rfl (fun ls hl => ?_)
            refine lv_aload_n hx hb dX14_open_62 rfl (lv_at hl 2 rfl) ?_
            refine lv_aload_n hx hb dX14_open_63 rfl (lv_at hl 2 rfl) ?_
            refine lv_iload_n hx hb dX14_open_64 rfl (lv_at hl 3 rfl) ?_
            refine lv_iload_n hx hb dX14_open_65 rfl (lv_at hl 4 rfl) ?_
            refine ro_callV (As := [.int d, .int n]) (rest := [.ref (am 0)]) ⟨hx, hb, hml, hown, hts⟩ (c_isEnd l D cy d n) (cwV 2 hts gX14_open_X14_isEnd rfl rfl rfl (by decide +kernel) ⟨by decide, by decide⟩) hK hN hP hS (ci := 19) (q0 := 0) rfl rfl rfl rfl hl.1 rfl (Nat.le_of_ble_eq_true rfl) dX14_open_66 ⟨Nat.le_of_ble_eq_true rfl, Nat.le_of_ble_eq_true rfl⟩ (fun H locs hP hS => ?_)
            refine lv_if_ne (tgt := 76) hx hb dX14_open_69 (by decide) (fun c => absurd (by decide) c) (fun _ => ?_)
            refine lv_iconst (v := 1) hx hb dX14_open_72 (by decide) ?_
            refine lv_goto (tgt := 109) hx hb dX14_open_73 (by decide) ?_
            refine va_put (D := D) (ci := 19) (v := .int 1) (ty := .int) (C := RX14) (T := TX14) (N := 19) hx hb hts iw_X14_open_RX14 tyX14 tyX14_ok nmX14 hown hK hP hD hS 0 rfl rfl 0 (by decide) (hts (.fieldLink RX14 61 "HubcascadeModel" "thrown" "I") (by decide +kernel)) (fun _ h9 => h9) rfl (by decide +kernel) rfl rfl (Nat.le_of_ble_eq_true rfl) dX14_open_109 (fun H locs hP hD hS => ?_)
            have hP : va_P D vwCl (WM cy am eda 1) H := hP
            have hD : va_D A (WM cy am eda 1) := hD
            refine lv_iconst (v := (-1)) hx hb dX14_open_112 (by decide) ?_
            refine lv_istore (lv' := [(7, .int (-1)), (6, .int 1), (5, .int 1), (0, .ref (am 0)), (1, .int d), (2, .int n), (3, .int q), (4, .int z)]) hx hb dX14_open_113 hl (by decide) rfl (fun ls hl => ?_)
            refine lv_bipush (v := 11) hx hb dX14_open_115 (by decide) ?_
            refine lv_istore (lv' := [(8, .int 11), (7, .int (-1)), (6, .int 1), (5, .int 1), (0, .ref (am 0)), (1, .int d), (2, .int n), (3, .int q), (4, .int z)]) hx hb dX14_open_117 hl (by decide) rfl (fun ls hl => ?_)
            refine lv_iload hx hb dX14_open_119 (lv_at hl 0 rfl) ?_
            refine lv_if_lt (tgt := 203) hx hb dX14_open_121 (by decide) (fun c => absurd c (by decide)) (fun _ => ?_)
            refine lv_aload_n hx hb dX14_open_124 rfl (lv_at hl 4 rfl) ?_
            refine va_get (D := D) (ci := 19) (v := .int 1) (C := RX14) (T := TX14) (N := 19) hx hb hts iw_X14_open_RX14 hown hK hP 0 rfl rfl 0 (by decide) (hts (.fieldLink RX14 61 "HubcascadeModel" "thrown" "I") (by decide +kernel)) (fun _ h9 => h9) rfl dX14_open_125 ?_
            refine lv_if_ne (tgt := 203) hx hb dX14_open_128 (by decide) (fun _ => ?_) (fun c => absurd c (by decide))
            refine lv_aload_n hx hb dX14_open_203 rfl (lv_at hl 4 rfl) ?_
            refine va_get (D := D) (ci := 19) (v := .int 1) (C := RX14) (T := TX14) (N := 19) hx hb hts iw_X14_open_RX14 hown hK hP 0 rfl rfl 0 (by decide) (hts (.fieldLink RX14 61 "HubcascadeModel" "thrown" "I") (by decide +kernel)) (fun _ h9 => h9) rfl dX14_open_204 ?_
            refine lv_if_le (tgt := 212) hx hb dX14_open_207 (by decide) (fun c => absurd c (by decide)) (fun _ => ?_)
            refine lv_iconst (v := 0) hx hb dX14_open_210 (by decide) ?_
            refine W.widen (k := 0) (n := 0) (Nat.le_of_ble_eq_true rfl) (Nat.le_of_ble_eq_true rfl) ?_
            have hP9 := hP.sub (ws' := [(am 0, .inr (19, [.int 1, .ref (am 1), .ref (am 4), .ref (am 5), .ref (am 6), .ref (am 7), .ref (am 8), .int 0, .ref (am 9), .int 0, .int (-1), .int 100, .ref (am 10), .long 0, .int 0, .int 0, .int 0, .int 0, .long 0]))]) [0] rfl
            have hD9 := hD.sub (ws' := [(am 0, .inr (19, [.int 1, .ref (am 1), .ref (am 4), .ref (am 5), .ref (am 6), .ref (am 7), .ref (am 8), .int 0, .ref (am 9), .int 0, .int (-1), .int 100, .ref (am 10), .long 0, .int 0, .int 0, .int 0, .int 0, .long 0]))]) [0] (by decide) rfl
            exact W.iret hx hb hr (fun t ht hW => ⟨rfl, ⟨by rw [ht]; exact hP9, hD9⟩, hS.F ht⟩) hS.2.2 dX14_open_211
          · refine lv_iload_n hx hb dX14_open_38 rfl (lv_at hl 4 rfl) ?_
            refine lv_bipush (v := 105) hx hb dX14_open_39 (by decide) ?_
            refine lv_icmp_eq (tgt := 50) hx hb dX14_open_41 (by decide) (fun c41 => ?_) (fun c41 => ?_)
            · refine lv_iload hx hb dX14_open_50 (lv_at hl 0 rfl) ?_
              refine lv_if_eq (tgt := 59) hx hb dX14_open_52 (by decide) (fun c => absurd c (by decide)) (fun _ => ?_)
              refine lv_iconst (v := 1) hx hb dX14_open_55 (by decide) ?_
              refine lv_goto (tgt := 60) hx hb dX14_open_56 (by decide) ?_
              refine lv_istore (lv' := [(6, .int 1), (5, .int 1), (0, .ref (am 0)), (1, .int d), (2, .int n), (3, .int q), (4, .int z)]) hx hb dX14_open_60 hl (by decide) rfl (fun ls hl => ?_)
              refine lv_aload_n hx hb dX14_open_62 rfl (lv_at hl 2 rfl) ?_
              refine lv_aload_n hx hb dX14_open_63 rfl (lv_at hl 2 rfl) ?_
              refine lv_iload_n hx hb dX14_open_64 rfl (lv_at hl 3 rfl) ?_
              refine lv_iload_n hx hb dX14_open_65 rfl (lv_at hl 4 rfl) ?_
              refine ro_callV (As := [.int d, .int n]) (rest := [.ref (am 0)]) ⟨hx, hb, hml, hown, hts⟩ (c_isEnd l D cy d n) (cwV 2 hts gX14_open_X14_isEnd rfl rfl rfl (by decide +kernel) ⟨by decide, by decide⟩) hK hN hP hS (ci := 19) (q0 := 0) rfl rfl rfl rfl hl.1 rfl (Nat.le_of_ble_eq_true rfl) dX14_open_66 ⟨Nat.le_of_ble_eq_true rfl, Nat.le_of_ble_eq_true rfl⟩ (fun H locs hP hS => ?_)
              refine lv_if_ne (tgt := 76) hx hb dX14_open_69 (by decide) (fun c => absurd (by decide) c) (fun _ => ?_)
              refine lv_iconst (v := 1) hx hb dX14_open_72 (by decide) ?_
              refine lv_goto (tgt := 109) hx hb dX14_open_73 (by decide) ?_
              refine va_put (D := D) (ci := 19) (v := .int 1) (ty := .int) (C := RX14) (T := TX14) (N := 19) hx hb hts iw_X14_open_RX14 tyX14 tyX14_ok nmX14 hown hK hP hD hS 0 rfl rfl 0 (by decide) (hts (.fieldLink RX14 61 "HubcascadeModel" "thrown" "I") (by decide +kernel)) (fun _ h9 => h9) rfl (by decide +kernel) rfl rfl (Nat.le_of_ble_eq_true rfl) dX14_open_109 (fun H locs hP hD hS => ?_)
              have hP : va_P D vwCl (WM cy am eda 1) H := hP
              have hD : va_D A (WM cy am eda 1) := hD
              refine lv_iconst (v := (-1)) hx hb dX14_open_112 (by decide) ?_
              refine lv_istore (lv' := [(7, .int (-1)), (6, .int 1), (5, .int 1), (0, .ref (am 0)), (1, .int d), (2, .int n), (3, .int q), (4, .int z)]) hx hb dX14_open_113 hl (by decide) rfl (fun ls hl => ?_)
              refine lv_bipush (v := 11) hx hb dX14_open_115 (by decide) ?_
              refine lv_istore (lv' := [(8, .int 11), (7, .int (-1)), (6, .int 1), (5, .int 1), (0, .ref (am 0)), (1, .int d), (2, .int n), (3, .int q), (4, .int z)]) hx hb dX14_open_117 hl (by decide) rfl (fun ls hl => ?_)
              refine lv_iload hx hb dX14_open_119 (lv_at hl 0 rfl) ?_
              refine lv_if_lt (tgt := 203) hx hb dX14_open_121 (by decide) (fun c => absurd c (by decide)) (fun _ => ?_)
              refine lv_aload_n hx hb dX14_open_124 rfl (lv_at hl 4 rfl) ?_
              refine va_get (D := D) (ci := 19) (v := .int 1) (C := RX14) (T := TX14) (N := 19) hx hb hts iw_X14_open_RX14 hown hK hP 0 rfl rfl 0 (by decide) (hts (.fieldLink RX14 61 "HubcascadeModel" "thrown" "I") (by decide +kernel)) (fun _ h9 => h9) rfl dX14_open_125 ?_
              refine lv_if_ne (tgt := 203) hx hb dX14_open_128 (by decide) (fun _ => ?_) (fun c => absurd c (by decide))
              refine lv_aload_n hx hb dX14_open_203 rfl (lv_at hl 4 rfl) ?_
              refine va_get (D := D) (ci := 19) (v := .int 1) (C := RX14) (T := TX14) (N := 19) hx hb hts iw_X14_open_RX14 hown hK hP 0 rfl rfl 0 (by decide) (hts (.fieldLink RX14 61 "HubcascadeModel" "thrown" "I") (by decide +kernel)) (fun _ h9 => h9) rfl dX14_open_204 ?_
              refine lv_if_le (tgt := 212) hx hb dX14_open_207 (by decide) (fun c => absurd c (by decide)) (fun _ => ?_)
              refine lv_iconst (v := 0) hx hb dX14_open_210 (by decide) ?_
              refine W.widen (k := 0) (n := 0) (Nat.le_of_ble_eq_true rfl) (Nat.le_of_ble_eq_true rfl) ?_
              have hP9 := hP.sub (ws' := [(am 0, .inr (19, [.int 1, .ref (am 1), .ref (am 4), .ref (am 5), .ref (am 6), .ref (am 7), .ref (am 8), .int 0, .ref (am 9), .int 0, .int (-1), .int 100, .ref (am 10), .long 0, .int 0, .int 0, .int 0, .int 0, .long 0]))]) [0] rfl
              have hD9 := hD.sub (ws' := [(am 0, .inr (19, [.int 1, .ref (am 1), .ref (am 4), .ref (am 5), .ref (am 6), .ref (am 7), .ref (am 8), .int 0, .ref (am 9), .int 0, .int (-1), .int 100, .ref (am 10), .long 0, .int 0, .int 0, .int 0, .int 0, .long 0]))]) [0] (by decide) rfl
              exact W.iret hx hb hr (fun t ht hW => ⟨rfl, ⟨by rw [ht]; exact hP9, hD9⟩, hS.F ht⟩) hS.2.2 dX14_open_211
            · refine lv_iload_n hx hb dX14_open_44 rfl (lv_at hl 4 rfl) ?_
              refine lv_bipush (v := 115) hx hb dX14_open_45 (by decide) ?_
              refine lv_icmp_ne (tgt := 59) hx hb dX14_open_47 (by decide) (fun c47 => ?_) (fun c47 => ?_)
              · refine lv_iconst (v := 0) hx hb dX14_open_59 (by decide) ?_
                refine lv_istore (lv' := [(6, .int 0), (5, .int 1), (0, .ref (am 0)), (1, .int d), (2, .int n), (3, .int q), (4, .int z)]) hx hb dX14_open_60 hl (by decide) rfl (fun ls hl => ?_)
                refine lv_aload_n hx hb dX14_open_62 rfl (lv_at hl 2 rfl) ?_
                refine lv_aload_n hx hb dX14_open_63 rfl (lv_at hl 2 rfl) ?_
                refine lv_iload_n hx hb dX14_open_64 rfl (lv_at hl 3 rfl) ?_
                refine lv_iload_n hx hb dX14_open_65 rfl (lv_at hl 4 rfl) ?_
                refine ro_callV (As := [.int d, .int n]) (rest := [.ref (am 0)]) ⟨hx, hb, hml, hown, hts⟩ (c_isEnd l D cy d n) (cwV 2 hts gX14_open_X14_isEnd rfl rfl rfl (by decide +kernel) ⟨by decide, by decide⟩) hK hN hP hS (ci := 19) (q0 := 0) rfl rfl rfl rfl hl.1 rfl (Nat.le_of_ble_eq_true rfl) dX14_open_66 ⟨Nat.le_of_ble_eq_true rfl, Nat.le_of_ble_eq_true rfl⟩ (fun H locs hP hS => ?_)
                refine lv_if_ne (tgt := 76) hx hb dX14_open_69 (by decide) (fun c => absurd (by decide) c) (fun _ => ?_)
                refine lv_iconst (v := 1) hx hb dX14_open_72 (by decide) ?_
                refine lv_goto (tgt := 109) hx hb dX14_open_73 (by decide) ?_
                refine va_put (D := D) (ci := 19) (v := .int 1) (ty := .int) (C := RX14) (T := TX14) (N := 19) hx hb hts iw_X14_open_RX14 tyX14 tyX14_ok nmX14 hown hK hP hD hS 0 rfl rfl 0 (by decide) (hts (.fieldLink RX14 61 "HubcascadeModel" "thrown" "I") (by decide +kernel)) (fun _ h9 => h9) rfl (by decide +kernel) rfl rfl (Nat.le_of_ble_eq_true rfl) dX14_open_109 (fun H locs hP hD hS => ?_)
                have hP : va_P D vwCl (WM cy am eda 1) H := hP
                have hD : va_D A (WM cy am eda 1) := hD
                refine lv_iconst (v := (-1)) hx hb dX14_open_112 (by decide) ?_
                refine lv_istore (lv' := [(7, .int (-1)), (6, .int 0), (5, .int 1), (0, .ref (am 0)), (1, .int d), (2, .int n), (3, .int q), (4, .int z)]) hx hb dX14_open_113 hl (by decide) rfl (fun ls hl => ?_)
                refine lv_bipush (v := 11) hx hb dX14_open_115 (by decide) ?_
                refine lv_istore (lv' := [(8, .int 11), (7, .int (-1)), (6, .int 0), (5, .int 1), (0, .ref (am 0)), (1, .int d), (2, .int n), (3, .int q), (4, .int z)]) hx hb dX14_open_117 hl (by decide) rfl (fun ls hl => ?_)
                refine lv_iload hx hb dX14_open_119 (lv_at hl 0 rfl) ?_
                refine lv_if_lt (tgt := 203) hx hb dX14_open_121 (by decide) (fun c => absurd c (by decide)) (fun _ => ?_)
                refine lv_aload_n hx hb dX14_open_124 rfl (lv_at hl 4 rfl) ?_
                refine va_get (D := D) (ci := 19) (v := .int 1) (C := RX14) (T := TX14) (N := 19) hx hb hts iw_X14_open_RX14 hown hK hP 0 rfl rfl 0 (by decide) (hts (.fieldLink RX14 61 "HubcascadeModel" "thrown" "I") (by decide +kernel)) (fun _ h9 => h9) rfl dX14_open_125 ?_
                refine lv_if_ne (tgt := 203) hx hb dX14_open_128 (by decide) (fun _ => ?_) (fun c => absurd c (by decide))
                refine lv_aload_n hx hb dX14_open_203 rfl (lv_at hl 4 rfl) ?_
                refine va_get (D := D) (ci := 19) (v := .int 1) (C := RX14) (T := TX14) (N := 19) hx hb hts iw_X14_open_RX14 hown hK hP 0 rfl rfl 0 (by decide) (hts (.fieldLink RX14 61 "HubcascadeModel" "thrown" "I") (by decide +kernel)) (fun _ h9 => h9) rfl dX14_open_204 ?_
                refine lv_if_le (tgt := 212) hx hb dX14_open_207 (by decide) (fun c => absurd c (by decide)) (fun _ => ?_)
                refine lv_iconst (v := 0) hx hb dX14_open_210 (by decide) ?_
                refine W.widen (k := 0) (n := 0) (Nat.le_of_ble_eq_true rfl) (Nat.le_of_ble_eq_true rfl) ?_
                have hP9 := hP.sub (ws' := [(am 0, .inr (19, [.int 1, .ref (am 1), .ref (am 4), .ref (am 5), .ref (am 6), .ref (am 7), .ref (am 8), .int 0, .ref (am 9), .int 0, .int (-1), .int 100, .ref (am 10), .long 0, .int 0, .int 0, .int 0, .int 0, .long 0]))]) [0] rfl
                have hD9 := hD.sub (ws' := [(am 0, .inr (19, [.int 1, .ref (am 1), .ref (am 4), .ref (am 5), .ref (am 6), .ref (am 7), .ref (am 8), .int 0, .ref (am 9), .int 0, .int (-1), .int 100, .ref (am 10), .long 0, .int 0, .int 0, .int 0, .int 0, .long 0]))]) [0] (by decide) rfl
                exact W.iret hx hb hr (fun t ht hW => ⟨rfl, ⟨by rw [ht]; exact hP9, hD9⟩, hS.F ht⟩) hS.2.2 dX14_open_211
              · refine lv_iload hx hb dX14_open_50 (lv_at hl 0 rfl) ?_
                refine lv_if_eq (tgt := 59) hx hb dX14_open_52 (by decide) (fun c => absurd c (by decide)) (fun _ => ?_)
                refine lv_iconst (v := 1) hx hb dX14_open_55 (by decide) ?_
                refine lv_goto (tgt := 60) hx hb dX14_open_56 (by decide) ?_
                refine lv_istore (lv' := [(6, .int 1), (5, .int 1), (0, .ref (am 0)), (1, .int d), (2, .int n), (3, .int q), (4, .int z)]) hx hb dX14_open_60 hl (by decide) rfl (fun ls hl => ?_)
                refine lv_aload_n hx hb dX14_open_62 rfl (lv_at hl 2 rfl) ?_
                refine lv_aload_n hx hb dX14_open_63 rfl (lv_at hl 2 rfl) ?_
                refine lv_iload_n hx hb dX14_open_64 rfl (lv_at hl 3 rfl) ?_
                refine lv_iload_n hx hb dX14_open_65 rfl (lv_at hl 4 rfl) ?_
                refine ro_callV (As := [.int d, .int n]) (rest := [.ref (am 0)]) ⟨hx, hb, hml, hown, hts⟩ (c_isEnd l D cy d n) (cwV 2 hts gX14_open_X14_isEnd rfl rfl rfl (by decide +kernel) ⟨by decide, by decide⟩) hK hN hP hS (ci := 19) (q0 := 0) rfl rfl rfl rfl hl.1 rfl (Nat.le_of_ble_eq_true rfl) dX14_open_66 ⟨Nat.le_of_ble_eq_true rfl, Nat.le_of_ble_eq_true rfl⟩ (fun H locs hP hS => ?_)
                refine lv_if_ne (tgt := 76) hx hb dX14_open_69 (by decide) (fun c => absurd (by decide) c) (fun _ => ?_)
                refine lv_iconst (v := 1) hx hb dX14_open_72 (by decide) ?_
                refine lv_goto (tgt := 109) hx hb dX14_open_73 (by decide) ?_
                refine va_put (D := D) (ci := 19) (v := .int 1) (ty := .int) (C := RX14) (T := TX14) (N := 19) hx hb hts iw_X14_open_RX14 tyX14 tyX14_ok nmX14 hown hK hP hD hS 0 rfl rfl 0 (by decide) (hts (.fieldLink RX14 61 "HubcascadeModel" "thrown" "I") (by decide +kernel)) (fun _ h9 => h9) rfl (by decide +kernel) rfl rfl (Nat.le_of_ble_eq_true rfl) dX14_open_109 (fun H locs hP hD hS => ?_)
                have hP : va_P D vwCl (WM cy am eda 1) H := hP
                have hD : va_D A (WM cy am eda 1) := hD
                refine lv_iconst (v := (-1)) hx hb dX14_open_112 (by decide) ?_
                refine lv_istore (lv' := [(7, .int (-1)), (6, .int 1), (5, .int 1), (0, .ref (am 0)), (1, .int d), (2, .int n), (3, .int q), (4, .int z)]) hx hb dX14_open_113 hl (by decide) rfl (fun ls hl => ?_)
                refine lv_bipush (v := 11) hx hb dX14_open_115 (by decide) ?_
                refine lv_istore (lv' := [(8, .int 11), (7, .int (-1)), (6, .int 1), (5, .int 1), (0, .ref (am 0)), (1, .int d), (2, .int n), (3, .int q), (4, .int z)]) hx hb dX14_open_117 hl (by decide) rfl (fun ls hl => ?_)
                refine lv_iload hx hb dX14_open_119 (lv_at hl 0 rfl) ?_
                refine lv_if_lt (tgt := 203) hx hb dX14_open_121 (by decide) (fun c => absurd c (by decide)) (fun _ => ?_)
                refine lv_aload_n hx hb dX14_open_124 rfl (lv_at hl 4 rfl) ?_
                refine va_get (D := D) (ci := 19) (v := .int 1) (C := RX14) (T := TX14) (N := 19) hx hb hts iw_X14_open_RX14 hown hK hP 0 rfl rfl 0 (by decide) (hts (.fieldLink RX14 61 "HubcascadeModel" "thrown" "I") (by decide +kernel)) (fun _ h9 => h9) rfl dX14_open_125 ?_
                refine lv_if_ne (tgt := 203) hx hb dX14_open_128 (by decide) (fun _ => ?_) (fun c => absurd c (by decide))
                refine lv_aload_n hx hb dX14_open_203 rfl (lv_at hl 4 rfl) ?_
                refine va_get (D := D) (ci := 19) (v := .int 1) (C := RX14) (T := TX14) (N := 19) hx hb hts iw_X14_open_RX14 hown hK hP 0 rfl rfl 0 (by decide) (hts (.fieldLink RX14 61 "HubcascadeModel" "thrown" "I") (by decide +kernel)) (fun _ h9 => h9) rfl dX14_open_204 ?_
                refine lv_if_le (tgt := 212) hx hb dX14_open_207 (by decide) (fun c => absurd c (by decide)) (fun _ => ?_)
                refine lv_iconst (v := 0) hx hb dX14_open_210 (by decide) ?_
                refine W.widen (k := 0) (n := 0) (Nat.le_of_ble_eq_true rfl) (Nat.le_of_ble_eq_true rfl) ?_
                have hP9 := hP.sub (ws' := [(am 0, .inr (19, [.int 1, .ref (am 1), .ref (am 4), .ref (am 5), .ref (am 6), .ref (am 7), .ref (am 8), .int 0, .ref (am 9), .int 0, .int (-1), .int 100, .ref (am 10), .long 0, .int 0, .int 0, .int 0, .int 0, .long 0]))]) [0] rfl
                have hD9 := hD.sub (ws' := [(am 0, .inr (19, [.int 1, .ref (am 1), .ref (am 4), .ref (am 5), .ref (am 6), .ref (am 7), .ref (am 8), .int 0, .ref (am 9), .int 0, .int (-1), .int 100, .ref (am 10), .long 0, .int 0, .int 0, .int 0, .int 0, .long 0]))]) [0] (by decide) rfl
                exact W.iret hx hb hr (fun t ht hW => ⟨rfl, ⟨by rw [ht]; exact hP9, hD9⟩, hS.F ht⟩) hS.2.2 dX14_open_211

set_option maxRecDepth 100000 in
set_option maxHeartbeats 4000000 in
theorem a_close_1 (l : Launch) (D : va_G) (cy : Nat → ClassId) {ca : Nat} {ia : Nat → Nat} {am : Nat → Nat} {eda : Nat} {th : Int32} (sz : Nat) (n : Int32) : MJ l D cy eda ca ia (WM cy am eda th) sz yX14_close wsX14_close 2 0 0 43 [.ref (am 0), .int n] (some (.int 0)) (fun H => va_P D vwCl ([(am 0, .inr (19, [.int 1, .ref (am 1), .ref (am 4), .ref (am 5), .ref (am 6), .ref (am 7), .ref (am 8), .int 0, .ref (am 9), .int 0, .int (-1), .int 100, .ref (am 10), .long 0, .int 0, .int 0, .int 0, .int 0, .long 0]))]) H ∧ va_D (va_A (WM cy am eda th) sz) ([(am 0, .inr (19, [.int 1, .ref (am 1), .ref (am 4), .ref (am 5), .ref (am 6), .ref (am 7), .ref (am 8), .int 0, .ref (am 9), .int 0, .int (-1), .int 100, .ref (am 10), .long 0, .int 0, .int 0, .int 0, .int 0, .long 0]))])) := by
  refine ro_ofW (cc := cX14_close) (maxL := 2) (ret := (some .int)) (lv := [(0, .ref (am 0)), (1, .int n)]) (by decide) rfl (Nat.le_of_ble_eq_true rfl) rfl ?_
  intro p e s m below meth c ls hx hb hr hml hown hlocks hname hts hv hl
  have hown : s.vm.findClass RX14 = some m.cls := hown
  obtain ⟨⟨⟨hsz, hP, hD0⟩, hK, hN⟩, hJS⟩ := hv
  subst hsz
  have hD := hD0.self (sz := s.heap.size)
  generalize hAe : va_A (WM cy am eda th) s.heap.size = A at hD hJS ⊢
  have hA : ∀ q : Nat, s.heap.size ≤ q → A q := fun q h => by rw [← hAe]; exact Or.inr h
  have hS : va_S A s.heap s.heap [] := va_S.rf
  refine lv_aload_n hx hb dX14_close_0 rfl (lv_at hl 0 rfl) ?_
  refine lv_iload_n hx hb dX14_close_1 rfl (lv_at hl 1 rfl) ?_
  refine me_callV (wr := []) (wc := WM cy am eda th) (As := [.int n]) (rest := []) ⟨hx, hb, hml, hown, hts⟩ (m_noPipe l D cy  _ n ) (cwV 1 hts gX14_close_X14_noPipe rfl rfl rfl (by decide +kernel) ⟨by decide, by decide⟩) hK hN hP hD hS hA (ci := 19) (q0 := 0) rfl rfl rfl rfl hl.1 rfl (Nat.le_of_ble_eq_true rfl) dX14_close_2 ⟨Nat.le_of_ble_eq_true rfl, Nat.le_of_ble_eq_true rfl⟩ (fun H locs hB hJ hS => ?_)
  obtain ⟨hP1, hD1⟩ := hB
  obtain ⟨hP, hD⟩ := hJ _ hP1 hD1
  have hP : va_P D vwCl (WM cy am eda 1) H := hP
  have hD : va_D A (WM cy am eda 1) := hD
  refine lv_if_eq (tgt := 12) hx hb dX14_close_5 (by decide) (fun c => absurd c (by decide)) (fun _ => ?_)
  refine lv_iconst (v := 0) hx hb dX14_close_8 (by decide) ?_
  refine lv_goto (tgt := 19) hx hb dX14_close_9 (by decide) ?_
  refine W.widen (k := 0) (n := 0) (Nat.le_of_ble_eq_true rfl) (Nat.le_of_ble_eq_true rfl) ?_
  have hP9 := hP.sub (ws' := [(am 0, .inr (19, [.int 1, .ref (am 1), .ref (am 4), .ref (am 5), .ref (am 6), .ref (am 7), .ref (am 8), .int 0, .ref (am 9), .int 0, .int (-1), .int 100, .ref (am 10), .long 0, .int 0, .int 0, .int 0, .int 0, .long 0]))]) [0] rfl
  have hD9 := hD.sub (ws' := [(am 0, .inr (19, [.int 1, .ref (am 1), .ref (am 4), .ref (am 5), .ref (am 6), .ref (am 7), .ref (am 8), .int 0, .ref (am 9), .int 0, .int (-1), .int 100, .ref (am 10), .long 0, .int 0, .int 0, .int 0, .int 0, .long 0]))]) [0] (by decide) rfl
  exact W.iret hx hb hr (fun t ht hW => ⟨rfl, ⟨by rw [ht]; exact hP9, hD9⟩, hS.F ht⟩) hS.2.2 dX14_close_19

set_option maxRecDepth 100000 in
set_option maxHeartbeats 4000000 in
theorem a_phaseOf_1 (l : Launch) (D : va_G) (cy : Nat → ClassId) {ca : Nat} {ia : Nat → Nat} {am : Nat → Nat} {eda : Nat} {th : Int32} (sz : Nat) (n : Int32) : MJ l D cy eda ca ia (WM cy am eda th) sz yX14_phaseOf wsX14_phaseOf 2 0 0 43 [.ref (am 0), .int n] (some (.int 0)) (fun H => va_P D vwCl ([(am 0, .inr (19, [.int 1, .ref (am 1), .ref (am 4), .ref (am 5), .ref (am 6), .ref (am 7), .ref (am 8), .int 0, .ref (am 9), .int 0, .int (-1), .int 100, .ref (am 10), .long 0, .int 0, .int 0, .int 0, .int 0, .long 0]))]) H ∧ va_D (va_A (WM cy am eda th) sz) ([(am 0, .inr (19, [.int 1, .ref (am 1), .ref (am 4), .ref (am 5), .ref (am 6), .ref (am 7), .ref (am 8), .int 0, .ref (am 9), .int 0, .int (-1), .int 100, .ref (am 10), .long 0, .int 0, .int 0, .int 0, .int 0, .long 0]))])) := by
  refine ro_ofW (cc := cX14_phaseOf) (maxL := 2) (ret := (some .int)) (lv := [(0, .ref (am 0)), (1, .int n)]) (by decide) rfl (Nat.le_of_ble_eq_true rfl) rfl ?_
  intro p e s m below meth c ls hx hb hr hml hown hlocks hname hts hv hl
  have hown : s.vm.findClass RX14 = some m.cls := hown
  obtain ⟨⟨⟨hsz, hP, hD0⟩, hK, hN⟩, hJS⟩ := hv
  subst hsz
  have hD := hD0.self (sz := s.heap.size)
  generalize hAe : va_A (WM cy am eda th) s.heap.size = A at hD hJS ⊢
  have hA : ∀ q : Nat, s.heap.size ≤ q → A q := fun q h => by rw [← hAe]; exact Or.inr h
  have hS : va_S A s.heap s.heap [] := va_S.rf
  refine lv_aload_n hx hb dX14_phaseOf_0 rfl (lv_at hl 0 rfl) ?_
  refine lv_iload_n hx hb dX14_phaseOf_1 rfl (lv_at hl 1 rfl) ?_
  refine me_callV (wr := []) (wc := WM cy am eda th) (As := [.int n]) (rest := []) ⟨hx, hb, hml, hown, hts⟩ (m_noPipe l D cy  _ n ) (cwV 1 hts gX14_phaseOf_X14_noPipe rfl rfl rfl (by decide +kernel) ⟨by decide, by decide⟩) hK hN hP hD hS hA (ci := 19) (q0 := 0) rfl rfl rfl rfl hl.1 rfl (Nat.le_of_ble_eq_true rfl) dX14_phaseOf_2 ⟨Nat.le_of_ble_eq_true rfl, Nat.le_of_ble_eq_true rfl⟩ (fun H locs hB hJ hS => ?_)
  obtain ⟨hP1, hD1⟩ := hB
  obtain ⟨hP, hD⟩ := hJ _ hP1 hD1
  have hP : va_P D vwCl (WM cy am eda 1) H := hP
  have hD : va_D A (WM cy am eda 1) := hD
  refine lv_if_eq (tgt := 12) hx hb dX14_phaseOf_5 (by decide) (fun c => absurd c (by decide)) (fun _ => ?_)
  refine lv_iconst (v := 0) hx hb dX14_phaseOf_8 (by decide) ?_
  refine lv_goto (tgt := 21) hx hb dX14_phaseOf_9 (by decide) ?_
  refine W.widen (k := 0) (n := 0) (Nat.le_of_ble_eq_true rfl) (Nat.le_of_ble_eq_true rfl) ?_
  have hP9 := hP.sub (ws' := [(am 0, .inr (19, [.int 1, .ref (am 1), .ref (am 4), .ref (am 5), .ref (am 6), .ref (am 7), .ref (am 8), .int 0, .ref (am 9), .int 0, .int (-1), .int 100, .ref (am 10), .long 0, .int 0, .int 0, .int 0, .int 0, .long 0]))]) [0] rfl
  have hD9 := hD.sub (ws' := [(am 0, .inr (19, [.int 1, .ref (am 1), .ref (am 4), .ref (am 5), .ref (am 6), .ref (am 7), .ref (am 8), .int 0, .ref (am 9), .int 0, .int (-1), .int 100, .ref (am 10), .long 0, .int 0, .int 0, .int 0, .int 0, .long 0]))]) [0] (by decide) rfl
  exact W.iret hx hb hr (fun t ht hW => ⟨rfl, ⟨by rw [ht]; exact hP9, hD9⟩, hS.F ht⟩) hS.2.2 dX14_phaseOf_21

set_option maxRecDepth 100000 in
set_option maxHeartbeats 4000000 in
theorem a_send_1 (l : Launch) (D : va_G) (cy : Nat → ClassId) {ca : Nat} {ia : Nat → Nat} {am : Nat → Nat} {eda : Nat} {th : Int32} (sz : Nat) (n : Int32) : MJ l D cy eda ca ia (WM cy am eda th) sz yX14_send wsX14_send 2 0 0 43 [.ref (am 0), .int n] (some (.int 0)) (fun H => va_P D vwCl ([(am 0, .inr (19, [.int 1, .ref (am 1), .ref (am 4), .ref (am 5), .ref (am 6), .ref (am 7), .ref (am 8), .int 0, .ref (am 9), .int 0, .int (-1), .int 100, .ref (am 10), .long 0, .int 0, .int 0, .int 0, .int 0, .long 0]))]) H ∧ va_D (va_A (WM cy am eda th) sz) ([(am 0, .inr (19, [.int 1, .ref (am 1), .ref (am 4), .ref (am 5), .ref (am 6), .ref (am 7), .ref (am 8), .int 0, .ref (am 9), .int 0, .int (-1), .int 100, .ref (am 10), .long 0, .int 0, .int 0, .int 0, .int 0, .long 0]))])) := by
  refine ro_ofW (cc := cX14_send) (maxL := 3) (ret := (some .int)) (lv := [(0, .ref (am 0)), (1, .int n)]) (by decide) rfl (Nat.le_of_ble_eq_true rfl) rfl ?_
  intro p e s m below meth c ls hx hb hr hml hown hlocks hname hts hv hl
  have hown : s.vm.findClass RX14 = some m.cls := hown
  obtain ⟨⟨⟨hsz, hP, hD0⟩, hK, hN⟩, hJS⟩ := hv
  subst hsz
  have hD := hD0.self (sz := s.heap.size)
  generalize hAe : va_A (WM cy am eda th) s.heap.size = A at hD hJS ⊢
  have hA : ∀ q : Nat, s.heap.size ≤ q → A q := fun q h => by rw [← hAe]; exact Or.inr h
  have hS : va_S A s.heap s.heap [] := va_S.rf
  refine lv_aload_n hx hb dX14_send_0 rfl (lv_at hl 0 rfl) ?_
  refine lv_iload_n hx hb dX14_send_1 rfl (lv_at hl 1 rfl) ?_
  refine me_callV (wr := []) (wc := WM cy am eda th) (As := [.int n]) (rest := []) ⟨hx, hb, hml, hown, hts⟩ (m_noPipe l D cy  _ n ) (cwV 1 hts gX14_send_X14_noPipe rfl rfl rfl (by decide +kernel) ⟨by decide, by decide⟩) hK hN hP hD hS hA (ci := 19) (q0 := 0) rfl rfl rfl rfl hl.1 rfl (Nat.le_of_ble_eq_true rfl) dX14_send_2 ⟨Nat.le_of_ble_eq_true rfl, Nat.le_of_ble_eq_true rfl⟩ (fun H locs hB hJ hS => ?_)
  obtain ⟨hP1, hD1⟩ := hB
  obtain ⟨hP, hD⟩ := hJ _ hP1 hD1
  have hP : va_P D vwCl (WM cy am eda 1) H := hP
  have hD : va_D A (WM cy am eda 1) := hD
  refine lv_if_eq (tgt := 10) hx hb dX14_send_5 (by decide) (fun c => absurd c (by decide)) (fun _ => ?_)
  refine lv_iconst (v := 0) hx hb dX14_send_8 (by decide) ?_
  refine W.widen (k := 0) (n := 0) (Nat.le_of_ble_eq_true rfl) (Nat.le_of_ble_eq_true rfl) ?_
  have hP9 := hP.sub (ws' := [(am 0, .inr (19, [.int 1, .ref (am 1), .ref (am 4), .ref (am 5), .ref (am 6), .ref (am 7), .ref (am 8), .int 0, .ref (am 9), .int 0, .int (-1), .int 100, .ref (am 10), .long 0, .int 0, .int 0, .int 0, .int 0, .long 0]))]) [0] rfl
  have hD9 := hD.sub (ws' := [(am 0, .inr (19, [.int 1, .ref (am 1), .ref (am 4), .ref (am 5), .ref (am 6), .ref (am 7), .ref (am 8), .int 0, .ref (am 9), .int 0, .int (-1), .int 100, .ref (am 10), .long 0, .int 0, .int 0, .int 0, .int 0, .long 0]))]) [0] (by decide) rfl
  exact W.iret hx hb hr (fun t ht hW => ⟨rfl, ⟨by rw [ht]; exact hP9, hD9⟩, hS.F ht⟩) hS.2.2 dX14_send_9

set_option maxRecDepth 100000 in
set_option maxHeartbeats 4000000 in
theorem a_ring_1 (l : Launch) (D : va_G) (cy : Nat → ClassId) {ca : Nat} {ia : Nat → Nat} {am : Nat → Nat} {eda : Nat} {th : Int32} (sz : Nat) (n : Int32) : MJ l D cy eda ca ia (WM cy am eda th) sz yX14_ring wsX14_ring 2 0 0 43 [.ref (am 0), .int n] (some (.int 0)) (fun H => va_P D vwCl ([(am 0, .inr (19, [.int 1, .ref (am 1), .ref (am 4), .ref (am 5), .ref (am 6), .ref (am 7), .ref (am 8), .int 0, .ref (am 9), .int 0, .int (-1), .int 100, .ref (am 10), .long 0, .int 0, .int 0, .int 0, .int 0, .long 0]))]) H ∧ va_D (va_A (WM cy am eda th) sz) ([(am 0, .inr (19, [.int 1, .ref (am 1), .ref (am 4), .ref (am 5), .ref (am 6), .ref (am 7), .ref (am 8), .int 0, .ref (am 9), .int 0, .int (-1), .int 100, .ref (am 10), .long 0, .int 0, .int 0, .int 0, .int 0, .long 0]))])) := by
  refine ro_ofW (cc := cX14_ring) (maxL := 5) (ret := (some .int)) (lv := [(0, .ref (am 0)), (1, .int n)]) (by decide) rfl (Nat.le_of_ble_eq_true rfl) rfl ?_
  intro p e s m below meth c ls hx hb hr hml hown hlocks hname hts hv hl
  have hown : s.vm.findClass RX14 = some m.cls := hown
  obtain ⟨⟨⟨hsz, hP, hD0⟩, hK, hN⟩, hJS⟩ := hv
  subst hsz
  have hD := hD0.self (sz := s.heap.size)
  generalize hAe : va_A (WM cy am eda th) s.heap.size = A at hD hJS ⊢
  have hA : ∀ q : Nat, s.heap.size ≤ q → A q := fun q h => by rw [← hAe]; exact Or.inr h
  have hS : va_S A s.heap s.heap [] := va_S.rf
  refine lv_iconst (v := 0) hx hb dX14_ring_0 (by decide) ?_
  refine lv_istore_n (lv' := [(2, .int 0), (0, .ref (am 0)), (1, .int n)]) hx hb dX14_ring_1 rfl hl (by decide) rfl (fun ls hl => ?_)
  refine lv_aload_n hx hb dX14_ring_2 rfl (lv_at hl 1 rfl) ?_
  refine lv_iload_n hx hb dX14_ring_3 rfl (lv_at hl 2 rfl) ?_
  refine me_callV (wr := []) (wc := WM cy am eda th) (As := [.int n]) (rest := []) ⟨hx, hb, hml, hown, hts⟩ (m_noPipe l D cy  _ n ) (cwV 1 hts gX14_ring_X14_noPipe rfl rfl rfl (by decide +kernel) ⟨by decide, by decide⟩) hK hN hP hD hS hA (ci := 19) (q0 := 0) rfl rfl rfl rfl hl.1 rfl (Nat.le_of_ble_eq_true rfl) dX14_ring_4 ⟨Nat.le_of_ble_eq_true rfl, Nat.le_of_ble_eq_true rfl⟩ (fun H locs hB hJ hS => ?_)
  obtain ⟨hP1, hD1⟩ := hB
  obtain ⟨hP, hD⟩ := hJ _ hP1 hD1
  have hP : va_P D vwCl (WM cy am eda 1) H := hP
  have hD : va_D A (WM cy am eda 1) := hD
  refine lv_if_ne (tgt := 68) hx hb dX14_ring_7 (by decide) (fun _ => ?_) (fun c => absurd c (by decide))
  refine lv_iload_n hx hb dX14_ring_68 rfl (lv_at hl 0 rfl) ?_
  refine W.widen (k := 0) (n := 0) (Nat.le_of_ble_eq_true rfl) (Nat.le_of_ble_eq_true rfl) ?_
  have hP9 := hP.sub (ws' := [(am 0, .inr (19, [.int 1, .ref (am 1), .ref (am 4), .ref (am 5), .ref (am 6), .ref (am 7), .ref (am 8), .int 0, .ref (am 9), .int 0, .int (-1), .int 100, .ref (am 10), .long 0, .int 0, .int 0, .int 0, .int 0, .long 0]))]) [0] rfl
  have hD9 := hD.sub (ws' := [(am 0, .inr (19, [.int 1, .ref (am 1), .ref (am 4), .ref (am 5), .ref (am 6), .ref (am 7), .ref (am 8), .int 0, .ref (am 9), .int 0, .int (-1), .int 100, .ref (am 10), .long 0, .int 0, .int 0, .int 0, .int 0, .long 0]))]) [0] (by decide) rfl
  exact W.iret hx hb hr (fun t ht hW => ⟨rfl, ⟨by rw [ht]; exact hP9, hD9⟩, hS.F ht⟩) hS.2.2 dX14_ring_69

set_option maxRecDepth 100000 in
set_option maxHeartbeats 4000000 in
theorem a_isHalted_1 (l : Launch) (D : va_G) (cy : Nat → ClassId) {ca : Nat} {ia : Nat → Nat} {am : Nat → Nat} {eda : Nat} {th : Int32} (sz : Nat) (n : Int32) : MJ l D cy eda ca ia (WM cy am eda th) sz yX14_isHalted wsX14_isHalted 2 0 0 43 [.ref (am 0), .int n] (some (.int 0)) (fun H => va_P D vwCl ([(am 0, .inr (19, [.int 1, .ref (am 1), .ref (am 4), .ref (am 5), .ref (am 6), .ref (am 7), .ref (am 8), .int 0, .ref (am 9), .int 0, .int (-1), .int 100, .ref (am 10), .long 0, .int 0, .int 0, .int 0, .int 0, .long 0]))]) H ∧ va_D (va_A (WM cy am eda th) sz) ([(am 0, .inr (19, [.int 1, .ref (am 1), .ref (am 4), .ref (am 5), .ref (am 6), .ref (am 7), .ref (am 8), .int 0, .ref (am 9), .int 0, .int (-1), .int 100, .ref (am 10), .long 0, .int 0, .int 0, .int 0, .int 0, .long 0]))])) := by
  refine ro_ofW (cc := cX14_isHalted) (maxL := 2) (ret := (some .boolean)) (lv := [(0, .ref (am 0)), (1, .int n)]) (by decide) rfl (Nat.le_of_ble_eq_true rfl) rfl ?_
  intro p e s m below meth c ls hx hb hr hml hown hlocks hname hts hv hl
  have hown : s.vm.findClass RX14 = some m.cls := hown
  obtain ⟨⟨⟨hsz, hP, hD0⟩, hK, hN⟩, hJS⟩ := hv
  subst hsz
  have hD := hD0.self (sz := s.heap.size)
  generalize hAe : va_A (WM cy am eda th) s.heap.size = A at hD hJS ⊢
  have hA : ∀ q : Nat, s.heap.size ≤ q → A q := fun q h => by rw [← hAe]; exact Or.inr h
  have hS : va_S A s.heap s.heap [] := va_S.rf
  refine lv_aload_n hx hb dX14_isHalted_0 rfl (lv_at hl 0 rfl) ?_
  refine lv_iload_n hx hb dX14_isHalted_1 rfl (lv_at hl 1 rfl) ?_
  refine me_callV (wr := []) (wc := WM cy am eda th) (As := [.int n]) (rest := []) ⟨hx, hb, hml, hown, hts⟩ (m_noPipe l D cy  _ n ) (cwV 1 hts gX14_isHalted_X14_noPipe rfl rfl rfl (by decide +kernel) ⟨by decide, by decide⟩) hK hN hP hD hS hA (ci := 19) (q0 := 0) rfl rfl rfl rfl hl.1 rfl (Nat.le_of_ble_eq_true rfl) dX14_isHalted_2 ⟨Nat.le_of_ble_eq_true rfl, Nat.le_of_ble_eq_true rfl⟩ (fun H locs hB hJ hS => ?_)
  obtain ⟨hP1, hD1⟩ := hB
  obtain ⟨hP, hD⟩ := hJ _ hP1 hD1
  have hP : va_P D vwCl (WM cy am eda 1) H := hP
  have hD : va_D A (WM cy am eda 1) := hD
  refine lv_if_ne (tgt := 24) hx hb dX14_isHalted_5 (by decide) (fun _ => ?_) (fun c => absurd c (by decide))
  refine lv_iconst (v := 0) hx hb dX14_isHalted_24 (by decide) ?_
  refine W.widen (k := 0) (n := 0) (Nat.le_of_ble_eq_true rfl) (Nat.le_of_ble_eq_true rfl) ?_
  have hP9 := hP.sub (ws' := [(am 0, .inr (19, [.int 1, .ref (am 1), .ref (am 4), .ref (am 5), .ref (am 6), .ref (am 7), .ref (am 8), .int 0, .ref (am 9), .int 0, .int (-1), .int 100, .ref (am 10), .long 0, .int 0, .int 0, .int 0, .int 0, .long 0]))]) [0] rfl
  have hD9 := hD.sub (ws' := [(am 0, .inr (19, [.int 1, .ref (am 1), .ref (am 4), .ref (am 5), .ref (am 6), .ref (am 7), .ref (am 8), .int 0, .ref (am 9), .int 0, .int (-1), .int 100, .ref (am 10), .long 0, .int 0, .int 0, .int 0, .int 0, .long 0]))]) [0] (by decide) rfl
  exact W.zret hx hb hr (by decide) (fun t ht hW => ⟨rfl, ⟨by rw [ht]; exact hP9, hD9⟩, hS.F ht⟩) hS.2.2 dX14_isHalted_25

set_option maxRecDepth 100000 in
set_option maxHeartbeats 4000000 in
theorem a_clear_1 (l : Launch) (D : va_G) (cy : Nat → ClassId) {ca : Nat} {ia : Nat → Nat} {am : Nat → Nat} {eda : Nat} {th : Int32} (sz : Nat) (n : Int32) : MJ l D cy eda ca ia (WM cy am eda th) sz yX14_clear wsX14_clear 2 0 0 43 [.ref (am 0), .int n] (some (.int 0)) (fun H => va_P D vwCl ([(am 0, .inr (19, [.int 1, .ref (am 1), .ref (am 4), .ref (am 5), .ref (am 6), .ref (am 7), .ref (am 8), .int 0, .ref (am 9), .int 0, .int (-1), .int 100, .ref (am 10), .long 0, .int 0, .int 0, .int 0, .int 0, .long 0]))]) H ∧ va_D (va_A (WM cy am eda th) sz) ([(am 0, .inr (19, [.int 1, .ref (am 1), .ref (am 4), .ref (am 5), .ref (am 6), .ref (am 7), .ref (am 8), .int 0, .ref (am 9), .int 0, .int (-1), .int 100, .ref (am 10), .long 0, .int 0, .int 0, .int 0, .int 0, .long 0]))])) := by
  refine ro_ofW (cc := cX14_clear) (maxL := 3) (ret := (some .int)) (lv := [(0, .ref (am 0)), (1, .int n)]) (by decide) rfl (Nat.le_of_ble_eq_true rfl) rfl ?_
  intro p e s m below meth c ls hx hb hr hml hown hlocks hname hts hv hl
  have hown : s.vm.findClass RX14 = some m.cls := hown
  obtain ⟨⟨⟨hsz, hP, hD0⟩, hK, hN⟩, hJS⟩ := hv
  subst hsz
  have hD := hD0.self (sz := s.heap.size)
  generalize hAe : va_A (WM cy am eda th) s.heap.size = A at hD hJS ⊢
  have hA : ∀ q : Nat, s.heap.size ≤ q → A q := fun q h => by rw [← hAe]; exact Or.inr h
  have hS : va_S A s.heap s.heap [] := va_S.rf
  refine lv_aload_n hx hb dX14_clear_0 rfl (lv_at hl 0 rfl) ?_
  refine lv_iload_n hx hb dX14_clear_1 rfl (lv_at hl 1 rfl) ?_
  refine me_callV (wr := []) (wc := WM cy am eda th) (As := [.int n]) (rest := []) ⟨hx, hb, hml, hown, hts⟩ (m_noPipe l D cy  _ n ) (cwV 1 hts gX14_clear_X14_noPipe rfl rfl rfl (by decide +kernel) ⟨by decide, by decide⟩) hK hN hP hD hS hA (ci := 19) (q0 := 0) rfl rfl rfl rfl hl.1 rfl (Nat.le_of_ble_eq_true rfl) dX14_clear_2 ⟨Nat.le_of_ble_eq_true rfl, Nat.le_of_ble_eq_true rfl⟩ (fun H locs hB hJ hS => ?_)
  obtain ⟨hP1, hD1⟩ := hB
  obtain ⟨hP, hD⟩ := hJ _ hP1 hD1
  have hP : va_P D vwCl (WM cy am eda 1) H := hP
  have hD : va_D A (WM cy am eda 1) := hD
  refine lv_if_eq (tgt := 10) hx hb dX14_clear_5 (by decide) (fun c => absurd c (by decide)) (fun _ => ?_)
  refine lv_iconst (v := 0) hx hb dX14_clear_8 (by decide) ?_
  refine W.widen (k := 0) (n := 0) (Nat.le_of_ble_eq_true rfl) (Nat.le_of_ble_eq_true rfl) ?_
  have hP9 := hP.sub (ws' := [(am 0, .inr (19, [.int 1, .ref (am 1), .ref (am 4), .ref (am 5), .ref (am 6), .ref (am 7), .ref (am 8), .int 0, .ref (am 9), .int 0, .int (-1), .int 100, .ref (am 10), .long 0, .int 0, .int 0, .int 0, .int 0, .long 0]))]) [0] rfl
  have hD9 := hD.sub (ws' := [(am 0, .inr (19, [.int 1, .ref (am 1), .ref (am 4), .ref (am 5), .ref (am 6), .ref (am 7), .ref (am 8), .int 0, .ref (am 9), .int 0, .int (-1), .int 100, .ref (am 10), .long 0, .int 0, .int 0, .int 0, .int 0, .long 0]))]) [0] (by decide) rfl
  exact W.iret hx hb hr (fun t ht hW => ⟨rfl, ⟨by rw [ht]; exact hP9, hD9⟩, hS.F ht⟩) hS.2.2 dX14_clear_9

set_option maxRecDepth 100000 in
set_option maxHeartbeats 4000000 in
theorem a_cancel_1 (l : Launch) (D : va_G) (cy : Nat → ClassId) {ca : Nat} {ia : Nat → Nat} {am : Nat → Nat} {eda : Nat} {th : Int32} (sz : Nat) (n : Int32) : MJ l D cy eda ca ia (WM cy am eda th) sz yX14_cancel wsX14_cancel 2 0 0 43 [.ref (am 0), .int n] (some (.int 0)) (fun H => va_P D vwCl ([(am 0, .inr (19, [.int 1, .ref (am 1), .ref (am 4), .ref (am 5), .ref (am 6), .ref (am 7), .ref (am 8), .int 0, .ref (am 9), .int 0, .int (-1), .int 100, .ref (am 10), .long 0, .int 0, .int 0, .int 0, .int 0, .long 0]))]) H ∧ va_D (va_A (WM cy am eda th) sz) ([(am 0, .inr (19, [.int 1, .ref (am 1), .ref (am 4), .ref (am 5), .ref (am 6), .ref (am 7), .ref (am 8), .int 0, .ref (am 9), .int 0, .int (-1), .int 100, .ref (am 10), .long 0, .int 0, .int 0, .int 0, .int 0, .long 0]))])) := by
  refine ro_ofW (cc := cX14_cancel) (maxL := 4) (ret := (some .int)) (lv := [(0, .ref (am 0)), (1, .int n)]) (by decide) rfl (Nat.le_of_ble_eq_true rfl) rfl ?_
  intro p e s m below meth c ls hx hb hr hml hown hlocks hname hts hv hl
  have hown : s.vm.findClass RX14 = some m.cls := hown
  obtain ⟨⟨⟨hsz, hP, hD0⟩, hK, hN⟩, hJS⟩ := hv
  subst hsz
  have hD := hD0.self (sz := s.heap.size)
  generalize hAe : va_A (WM cy am eda th) s.heap.size = A at hD hJS ⊢
  have hA : ∀ q : Nat, s.heap.size ≤ q → A q := fun q h => by rw [← hAe]; exact Or.inr h
  have hS : va_S A s.heap s.heap [] := va_S.rf
  refine lv_aload_n hx hb dX14_cancel_0 rfl (lv_at hl 0 rfl) ?_
  refine lv_iload_n hx hb dX14_cancel_1 rfl (lv_at hl 1 rfl) ?_
  refine me_callV (wr := []) (wc := WM cy am eda th) (As := [.int n]) (rest := []) ⟨hx, hb, hml, hown, hts⟩ (m_noPipe l D cy  _ n ) (cwV 1 hts gX14_cancel_X14_noPipe rfl rfl rfl (by decide +kernel) ⟨by decide, by decide⟩) hK hN hP hD hS hA (ci := 19) (q0 := 0) rfl rfl rfl rfl hl.1 rfl (Nat.le_of_ble_eq_true rfl) dX14_cancel_2 ⟨Nat.le_of_ble_eq_true rfl, Nat.le_of_ble_eq_true rfl⟩ (fun H locs hB hJ hS => ?_)
  obtain ⟨hP1, hD1⟩ := hB
  obtain ⟨hP, hD⟩ := hJ _ hP1 hD1
  have hP : va_P D vwCl (WM cy am eda 1) H := hP
  have hD : va_D A (WM cy am eda 1) := hD
  refine lv_if_eq (tgt := 10) hx hb dX14_cancel_5 (by decide) (fun c => absurd c (by decide)) (fun _ => ?_)
  refine lv_iconst (v := 0) hx hb dX14_cancel_8 (by decide) ?_
  refine W.widen (k := 0) (n := 0) (Nat.le_of_ble_eq_true rfl) (Nat.le_of_ble_eq_true rfl) ?_
  have hP9 := hP.sub (ws' := [(am 0, .inr (19, [.int 1, .ref (am 1), .ref (am 4), .ref (am 5), .ref (am 6), .ref (am 7), .ref (am 8), .int 0, .ref (am 9), .int 0, .int (-1), .int 100, .ref (am 10), .long 0, .int 0, .int 0, .int 0, .int 0, .long 0]))]) [0] rfl
  have hD9 := hD.sub (ws' := [(am 0, .inr (19, [.int 1, .ref (am 1), .ref (am 4), .ref (am 5), .ref (am 6), .ref (am 7), .ref (am 8), .int 0, .ref (am 9), .int 0, .int (-1), .int 100, .ref (am 10), .long 0, .int 0, .int 0, .int 0, .int 0, .long 0]))]) [0] (by decide) rfl
  exact W.iret hx hb hr (fun t ht hW => ⟨rfl, ⟨by rw [ht]; exact hP9, hD9⟩, hS.F ht⟩) hS.2.2 dX14_cancel_9

set_option maxRecDepth 100000 in
set_option maxHeartbeats 4000000 in
theorem a_causeOf_1 (l : Launch) (D : va_G) (cy : Nat → ClassId) {ca : Nat} {ia : Nat → Nat} {am : Nat → Nat} {eda : Nat} {th : Int32} (sz : Nat) (n : Int32) : MJ l D cy eda ca ia (WM cy am eda th) sz yX14_causeOf wsX14_causeOf 2 0 0 43 [.ref (am 0), .int n] (some (.int 32)) (fun H => va_P D vwCl ([(am 0, .inr (19, [.int 1, .ref (am 1), .ref (am 4), .ref (am 5), .ref (am 6), .ref (am 7), .ref (am 8), .int 0, .ref (am 9), .int 0, .int (-1), .int 100, .ref (am 10), .long 0, .int 0, .int 0, .int 0, .int 0, .long 0]))]) H ∧ va_D (va_A (WM cy am eda th) sz) ([(am 0, .inr (19, [.int 1, .ref (am 1), .ref (am 4), .ref (am 5), .ref (am 6), .ref (am 7), .ref (am 8), .int 0, .ref (am 9), .int 0, .int (-1), .int 100, .ref (am 10), .long 0, .int 0, .int 0, .int 0, .int 0, .long 0]))])) := by
  refine ro_ofW (cc := cX14_causeOf) (maxL := 2) (ret := (some .char)) (lv := [(0, .ref (am 0)), (1, .int n)]) (by decide) rfl (Nat.le_of_ble_eq_true rfl) rfl ?_
  intro p e s m below meth c ls hx hb hr hml hown hlocks hname hts hv hl
  have hown : s.vm.findClass RX14 = some m.cls := hown
  obtain ⟨⟨⟨hsz, hP, hD0⟩, hK, hN⟩, hJS⟩ := hv
  subst hsz
  have hD := hD0.self (sz := s.heap.size)
  generalize hAe : va_A (WM cy am eda th) s.heap.size = A at hD hJS ⊢
  have hA : ∀ q : Nat, s.heap.size ≤ q → A q := fun q h => by rw [← hAe]; exact Or.inr h
  have hS : va_S A s.heap s.heap [] := va_S.rf
  refine lv_aload_n hx hb dX14_causeOf_0 rfl (lv_at hl 0 rfl) ?_
  refine lv_iload_n hx hb dX14_causeOf_1 rfl (lv_at hl 1 rfl) ?_
  refine me_callV (wr := []) (wc := WM cy am eda th) (As := [.int n]) (rest := []) ⟨hx, hb, hml, hown, hts⟩ (m_noPipe l D cy  _ n ) (cwV 1 hts gX14_causeOf_X14_noPipe rfl rfl rfl (by decide +kernel) ⟨by decide, by decide⟩) hK hN hP hD hS hA (ci := 19) (q0 := 0) rfl rfl rfl rfl hl.1 rfl (Nat.le_of_ble_eq_true rfl) dX14_causeOf_2 ⟨Nat.le_of_ble_eq_true rfl, Nat.le_of_ble_eq_true rfl⟩ (fun H locs hB hJ hS => ?_)
  obtain ⟨hP1, hD1⟩ := hB
  obtain ⟨hP, hD⟩ := hJ _ hP1 hD1
  have hP : va_P D vwCl (WM cy am eda 1) H := hP
  have hD : va_D A (WM cy am eda 1) := hD
  refine lv_if_eq (tgt := 11) hx hb dX14_causeOf_5 (by decide) (fun c => absurd c (by decide)) (fun _ => ?_)
  refine lv_bipush (v := 32) hx hb dX14_causeOf_8 (by decide) ?_
  refine W.widen (k := 0) (n := 0) (Nat.le_of_ble_eq_true rfl) (Nat.le_of_ble_eq_true rfl) ?_
  have hP9 := hP.sub (ws' := [(am 0, .inr (19, [.int 1, .ref (am 1), .ref (am 4), .ref (am 5), .ref (am 6), .ref (am 7), .ref (am 8), .int 0, .ref (am 9), .int 0, .int (-1), .int 100, .ref (am 10), .long 0, .int 0, .int 0, .int 0, .int 0, .long 0]))]) [0] rfl
  have hD9 := hD.sub (ws' := [(am 0, .inr (19, [.int 1, .ref (am 1), .ref (am 4), .ref (am 5), .ref (am 6), .ref (am 7), .ref (am 8), .int 0, .ref (am 9), .int 0, .int (-1), .int 100, .ref (am 10), .long 0, .int 0, .int 0, .int 0, .int 0, .long 0]))]) [0] (by decide) rfl
  exact W.zret hx hb hr (by decide) (fun t ht hW => ⟨rfl, ⟨by rw [ht]; exact hP9, hD9⟩, hS.F ht⟩) hS.2.2 dX14_causeOf_10

set_option maxRecDepth 100000 in
set_option maxHeartbeats 4000000 in
theorem a_ask_1 (l : Launch) (D : va_G) (cy : Nat → ClassId) {ca : Nat} {ia : Nat → Nat} {am : Nat → Nat} {eda : Nat} {th : Int32} (sz : Nat) (n z : Int32) : MJ l D cy eda ca ia (WM cy am eda th) sz yX14_ask wsX14_ask 2 0 0 43 [.ref (am 0), .int n, .int z] (some (.int 0)) (fun H => va_P D vwCl ([(am 0, .inr (19, [.int 1, .ref (am 1), .ref (am 4), .ref (am 5), .ref (am 6), .ref (am 7), .ref (am 8), .int 0, .ref (am 9), .int 0, .int (-1), .int 100, .ref (am 10), .long 0, .int 0, .int 0, .int 0, .int 0, .long 0]))]) H ∧ va_D (va_A (WM cy am eda th) sz) ([(am 0, .inr (19, [.int 1, .ref (am 1), .ref (am 4), .ref (am 5), .ref (am 6), .ref (am 7), .ref (am 8), .int 0, .ref (am 9), .int 0, .int (-1), .int 100, .ref (am 10), .long 0, .int 0, .int 0, .int 0, .int 0, .long 0]))])) := by
  refine ro_ofW (cc := cX14_ask) (maxL := 4) (ret := (some .int)) (lv := [(0, .ref (am 0)), (1, .int n), (2, .int z)]) (by decide) rfl (Nat.le_of_ble_eq_true rfl) rfl ?_
  intro p e s m below meth c ls hx hb hr hml hown hlocks hname hts hv hl
  have hown : s.vm.findClass RX14 = some m.cls := hown
  obtain ⟨⟨⟨hsz, hP, hD0⟩, hK, hN⟩, hJS⟩ := hv
  subst hsz
  have hD := hD0.self (sz := s.heap.size)
  generalize hAe : va_A (WM cy am eda th) s.heap.size = A at hD hJS ⊢
  have hA : ∀ q : Nat, s.heap.size ≤ q → A q := fun q h => by rw [← hAe]; exact Or.inr h
  have hS : va_S A s.heap s.heap [] := va_S.rf
  refine lv_aload_n hx hb dX14_ask_0 rfl (lv_at hl 0 rfl) ?_
  refine lv_iload_n hx hb dX14_ask_1 rfl (lv_at hl 1 rfl) ?_
  refine me_callV (wr := []) (wc := WM cy am eda th) (As := [.int n]) (rest := []) ⟨hx, hb, hml, hown, hts⟩ (m_noPipe l D cy  _ n ) (cwV 1 hts gX14_ask_X14_noPipe rfl rfl rfl (by decide +kernel) ⟨by decide, by decide⟩) hK hN hP hD hS hA (ci := 19) (q0 := 0) rfl rfl rfl rfl hl.1 rfl (Nat.le_of_ble_eq_true rfl) dX14_ask_2 ⟨Nat.le_of_ble_eq_true rfl, Nat.le_of_ble_eq_true rfl⟩ (fun H locs hB hJ hS => ?_)
  obtain ⟨hP1, hD1⟩ := hB
  obtain ⟨hP, hD⟩ := hJ _ hP1 hD1
  have hP : va_P D vwCl (WM cy am eda 1) H := hP
  have hD : va_D A (WM cy am eda 1) := hD
  refine lv_if_eq (tgt := 10) hx hb dX14_ask_5 (by decide) (fun c => absurd c (by decide)) (fun _ => ?_)
  refine lv_iconst (v := 0) hx hb dX14_ask_8 (by decide) ?_
  refine W.widen (k := 0) (n := 0) (Nat.le_of_ble_eq_true rfl) (Nat.le_of_ble_eq_true rfl) ?_
  have hP9 := hP.sub (ws' := [(am 0, .inr (19, [.int 1, .ref (am 1), .ref (am 4), .ref (am 5), .ref (am 6), .ref (am 7), .ref (am 8), .int 0, .ref (am 9), .int 0, .int (-1), .int 100, .ref (am 10), .long 0, .int 0, .int 0, .int 0, .int 0, .long 0]))]) [0] rfl
  have hD9 := hD.sub (ws' := [(am 0, .inr (19, [.int 1, .ref (am 1), .ref (am 4), .ref (am 5), .ref (am 6), .ref (am 7), .ref (am 8), .int 0, .ref (am 9), .int 0, .int (-1), .int 100, .ref (am 10), .long 0, .int 0, .int 0, .int 0, .int 0, .long 0]))]) [0] (by decide) rfl
  exact W.iret hx hb hr (fun t ht hW => ⟨rfl, ⟨by rw [ht]; exact hP9, hD9⟩, hS.F ht⟩) hS.2.2 dX14_ask_9

theorem iw_X14_load_RX14 : ∀ w ∈ u_ws RX14 TX14 19, w ∈ wsX14_load := by decide +kernel
set_option maxRecDepth 100000 in
set_option maxHeartbeats 4000000 in
theorem a_load_1 (l : Launch) (D : va_G) (cy : Nat → ClassId) {ca : Nat} {ia : Nat → Nat} {am : Nat → Nat} {eda : Nat} {th : Int32} (sz : Nat) (d n : Int32) : MJ l D cy eda ca ia (WM cy am eda th) sz yX14_load wsX14_load 4 0 0 86 [.ref (am 0), .int d, .int n] (some (.int 0)) (fun H => va_P D vwCl ([(am 0, .inr (19, [.int 1, .ref (am 1), .ref (am 4), .ref (am 5), .ref (am 6), .ref (am 7), .ref (am 8), .int 0, .ref (am 9), .int 0, .int (-1), .int 100, .ref (am 10), .long 0, .int 0, .int 0, .int 0, .int 0, .long 0]))]) H ∧ va_D (va_A (WM cy am eda th) sz) ([(am 0, .inr (19, [.int 1, .ref (am 1), .ref (am 4), .ref (am 5), .ref (am 6), .ref (am 7), .ref (am 8), .int 0, .ref (am 9), .int 0, .int (-1), .int 100, .ref (am 10), .long 0, .int 0, .int 0, .int 0, .int 0, .long 0]))])) := by
  refine ro_ofW (cc := cX14_load) (maxL := 4) (ret := (some .int)) (lv := [(0, .ref (am 0)), (1, .int d), (2, .int n)]) (by decide) rfl (Nat.le_of_ble_eq_true rfl) rfl ?_
  intro p e s m below meth c ls hx hb hr hml hown hlocks hname hts hv hl
  have hown : s.vm.findClass RX14 = some m.cls := hown
  obtain ⟨⟨⟨hsz, hP, hD0⟩, hK, hN⟩, hJS⟩ := hv
  subst hsz
  have hD := hD0.self (sz := s.heap.size)
  generalize hAe : va_A (WM cy am eda th) s.heap.size = A at hD hJS ⊢
  have hA : ∀ q : Nat, s.heap.size ≤ q → A q := fun q h => by rw [← hAe]; exact Or.inr h
  have hS : va_S A s.heap s.heap [] := va_S.rf
  refine lv_aload_n hx hb dX14_load_0 rfl (lv_at hl 0 rfl) ?_
  refine lv_aload_n hx hb dX14_load_1 rfl (lv_at hl 0 rfl) ?_
  refine lv_iload_n hx hb dX14_load_2 rfl (lv_at hl 1 rfl) ?_
  refine lv_iload_n hx hb dX14_load_3 rfl (lv_at hl 2 rfl) ?_
  refine ro_callV (As := [.int d, .int n]) (rest := [.ref (am 0)]) ⟨hx, hb, hml, hown, hts⟩ (c_isEnd l D cy d n) (cwV 2 hts gX14_load_X14_isEnd rfl rfl rfl (by decide +kernel) ⟨by decide, by decide⟩) hK hN hP hS (ci := 19) (q0 := 0) rfl rfl rfl rfl hl.1 rfl (Nat.le_of_ble_eq_true rfl) dX14_load_4 ⟨Nat.le_of_ble_eq_true rfl, Nat.le_of_ble_eq_true rfl⟩ (fun H locs hP hS => ?_)
  refine lv_if_ne (tgt := 14) hx hb dX14_load_7 (by decide) (fun c => absurd (by decide) c) (fun _ => ?_)
  refine lv_iconst (v := 1) hx hb dX14_load_10 (by decide) ?_
  refine lv_goto (tgt := 15) hx hb dX14_load_11 (by decide) ?_
  refine va_put (D := D) (ci := 19) (v := .int 1) (ty := .int) (C := RX14) (T := TX14) (N := 19) hx hb hts iw_X14_load_RX14 tyX14 tyX14_ok nmX14 hown hK hP hD hS 0 rfl rfl 0 (by decide) (hts (.fieldLink RX14 61 "HubcascadeModel" "thrown" "I") (by decide +kernel)) (fun _ h9 => h9) rfl (by decide +kernel) rfl rfl (Nat.le_of_ble_eq_true rfl) dX14_load_15 (fun H locs hP hD hS => ?_)
  have hP : va_P D vwCl (WM cy am eda 1) H := hP
  have hD : va_D A (WM cy am eda 1) := hD
  refine lv_aload_n hx hb dX14_load_18 rfl (lv_at hl 0 rfl) ?_
  refine va_get (D := D) (ci := 19) (v := .int 1) (C := RX14) (T := TX14) (N := 19) hx hb hts iw_X14_load_RX14 hown hK hP 0 rfl rfl 0 (by decide) (hts (.fieldLink RX14 61 "HubcascadeModel" "thrown" "I") (by decide +kernel)) (fun _ h9 => h9) rfl dX14_load_19 ?_
  refine lv_if_le (tgt := 27) hx hb dX14_load_22 (by decide) (fun c => absurd c (by decide)) (fun _ => ?_)
  refine lv_iconst (v := 0) hx hb dX14_load_25 (by decide) ?_
  refine W.widen (k := 0) (n := 0) (Nat.le_of_ble_eq_true rfl) (Nat.le_of_ble_eq_true rfl) ?_
  have hP9 := hP.sub (ws' := [(am 0, .inr (19, [.int 1, .ref (am 1), .ref (am 4), .ref (am 5), .ref (am 6), .ref (am 7), .ref (am 8), .int 0, .ref (am 9), .int 0, .int (-1), .int 100, .ref (am 10), .long 0, .int 0, .int 0, .int 0, .int 0, .long 0]))]) [0] rfl
  have hD9 := hD.sub (ws' := [(am 0, .inr (19, [.int 1, .ref (am 1), .ref (am 4), .ref (am 5), .ref (am 6), .ref (am 7), .ref (am 8), .int 0, .ref (am 9), .int 0, .int (-1), .int 100, .ref (am 10), .long 0, .int 0, .int 0, .int 0, .int 0, .long 0]))]) [0] (by decide) rfl
  exact W.iret hx hb hr (fun t ht hW => ⟨rfl, ⟨by rw [ht]; exact hP9, hD9⟩, hS.F ht⟩) hS.2.2 dX14_load_26

theorem iw_X14_fault_RX14 : ∀ w ∈ u_ws RX14 TX14 19, w ∈ wsX14_fault := by decide +kernel
set_option maxRecDepth 100000 in
set_option maxHeartbeats 4000000 in
theorem a_fault_1 (l : Launch) (D : va_G) (cy : Nat → ClassId) {ca : Nat} {ia : Nat → Nat} {am : Nat → Nat} {eda : Nat} {th : Int32} (sz : Nat) (d n q z : Int32) : MJ l D cy eda ca ia (WM cy am eda th) sz yX14_fault wsX14_fault 3 0 0 64 [.ref (am 0), .int d, .int n, .int q, .int z] (some (.int 0)) (fun H => va_P D vwCl ([(am 0, .inr (19, [.int 1, .ref (am 1), .ref (am 4), .ref (am 5), .ref (am 6), .ref (am 7), .ref (am 8), .int 0, .ref (am 9), .int 0, .int (-1), .int 100, .ref (am 10), .long 0, .int 0, .int 0, .int 0, .int 0, .long 0]))]) H ∧ va_D (va_A (WM cy am eda th) sz) ([(am 0, .inr (19, [.int 1, .ref (am 1), .ref (am 4), .ref (am 5), .ref (am 6), .ref (am 7), .ref (am 8), .int 0, .ref (am 9), .int 0, .int (-1), .int 100, .ref (am 10), .long 0, .int 0, .int 0, .int 0, .int 0, .long 0]))])) := by
  refine ro_ofW (cc := cX14_fault) (maxL := 8) (ret := (some .int)) (lv := [(0, .ref (am 0)), (1, .int d), (2, .int n), (3, .int q), (4, .int z)]) (by decide) rfl (Nat.le_of_ble_eq_true rfl) rfl ?_
  intro p e s m below meth c ls hx hb hr hml hown hlocks hname hts hv hl
  have hown : s.vm.findClass RX14 = some m.cls := hown
  obtain ⟨⟨⟨hsz, hP, hD0⟩, hK, hN⟩, hJS⟩ := hv
  subst hsz
  have hD := hD0.self (sz := s.heap.size)
  generalize hAe : va_A (WM cy am eda th) s.heap.size = A at hD hJS ⊢
  have hA : ∀ q : Nat, s.heap.size ≤ q → A q := fun q h => by rw [← hAe]; exact Or.inr h
  have hS : va_S A s.heap s.heap [] := va_S.rf
  refine lv_aload_n hx hb dX14_fault_0 rfl (lv_at hl 0 rfl) ?_
  refine lv_iload_n hx hb dX14_fault_1 rfl (lv_at hl 1 rfl) ?_
  refine ro_callV (As := [.int d]) (rest := []) ⟨hx, hb, hml, hown, hts⟩ (c_isOther l D cy d) (cwV 1 hts gX14_fault_X14_isOther rfl rfl rfl (by decide +kernel) ⟨by decide, by decide⟩) hK hN hP hS (ci := 19) (q0 := 0) rfl rfl rfl rfl hl.1 rfl (Nat.le_of_ble_eq_true rfl) dX14_fault_2 ⟨Nat.le_of_ble_eq_true rfl, Nat.le_of_ble_eq_true rfl⟩ (fun H locs hP hS => ?_)
  refine lv_if_eq (tgt := 25) hx hb dX14_fault_5 (by decide) (fun _ => ?_) (fun c => absurd (by decide) c)
  refine lv_iconst (v := 0) hx hb dX14_fault_25 (by decide) ?_
  refine lv_istore (lv' := [(5, .int 0), (0, .ref (am 0)), (1, .int d), (2, .int n), (3, .int q), (4, .int z)]) hx hb dX14_fault_26 hl (by decide) rfl (fun ls hl => ?_)
  refine lv_aload_n hx hb dX14_fault_28 rfl (lv_at hl 1 rfl) ?_
  refine lv_iload hx hb dX14_fault_29 (lv_at hl 0 rfl) ?_
  refine lv_if_ne (tgt := 38) hx hb dX14_fault_31 (by decide) (fun c => absurd (by decide) c) (fun _ => ?_)
  refine lv_iconst (v := 1) hx hb dX14_fault_34 (by decide) ?_
  refine lv_goto (tgt := 64) hx hb dX14_fault_35 (by decide) ?_
  refine va_put (D := D) (ci := 19) (v := .int 1) (ty := .int) (C := RX14) (T := TX14) (N := 19) hx hb hts iw_X14_fault_RX14 tyX14 tyX14_ok nmX14 hown hK hP hD hS 0 rfl rfl 0 (by decide) (hts (.fieldLink RX14 61 "HubcascadeModel" "thrown" "I") (by decide +kernel)) (fun _ h9 => h9) rfl (by decide +kernel) rfl rfl (Nat.le_of_ble_eq_true rfl) dX14_fault_64 (fun H locs hP hD hS => ?_)
  have hP : va_P D vwCl (WM cy am eda 1) H := hP
  have hD : va_D A (WM cy am eda 1) := hD
  refine lv_aload_n hx hb dX14_fault_67 rfl (lv_at hl 1 rfl) ?_
  refine va_get (D := D) (ci := 19) (v := .int 1) (C := RX14) (T := TX14) (N := 19) hx hb hts iw_X14_fault_RX14 hown hK hP 0 rfl rfl 0 (by decide) (hts (.fieldLink RX14 61 "HubcascadeModel" "thrown" "I") (by decide +kernel)) (fun _ h9 => h9) rfl dX14_fault_68 ?_
  refine lv_if_le (tgt := 76) hx hb dX14_fault_71 (by decide) (fun c => absurd c (by decide)) (fun _ => ?_)
  refine lv_iconst (v := 0) hx hb dX14_fault_74 (by decide) ?_
  refine W.widen (k := 0) (n := 0) (Nat.le_of_ble_eq_true rfl) (Nat.le_of_ble_eq_true rfl) ?_
  have hP9 := hP.sub (ws' := [(am 0, .inr (19, [.int 1, .ref (am 1), .ref (am 4), .ref (am 5), .ref (am 6), .ref (am 7), .ref (am 8), .int 0, .ref (am 9), .int 0, .int (-1), .int 100, .ref (am 10), .long 0, .int 0, .int 0, .int 0, .int 0, .long 0]))]) [0] rfl
  have hD9 := hD.sub (ws' := [(am 0, .inr (19, [.int 1, .ref (am 1), .ref (am 4), .ref (am 5), .ref (am 6), .ref (am 7), .ref (am 8), .int 0, .ref (am 9), .int 0, .int (-1), .int 100, .ref (am 10), .long 0, .int 0, .int 0, .int 0, .int 0, .long 0]))]) [0] (by decide) rfl
  exact W.iret hx hb hr (fun t ht hW => ⟨rfl, ⟨by rw [ht]; exact hP9, hD9⟩, hS.F ht⟩) hS.2.2 dX14_fault_75

theorem iw_X14_reserved_RX14 : ∀ w ∈ u_ws RX14 TX14 19, w ∈ wsX14_reserved := by decide +kernel
set_option maxRecDepth 100000 in
set_option maxHeartbeats 4000000 in
theorem a_reserved_1 (l : Launch) (D : va_G) (cy : Nat → ClassId) {ca : Nat} {ia : Nat → Nat} {am : Nat → Nat} {eda : Nat} {th : Int32} (sz : Nat) (n d : Int32) (hw : ¬ (¬ n < 0 ∧ ¬ 7 < n)) : MJ l D cy eda ca ia (WM cy am eda th) sz yX14_reserved wsX14_reserved 1 0 0 22 [.ref (am 0), .int n, .int d] (some (.int 0)) (fun H => va_P D vwCl ([(am 0, .inr (19, [.int 1, .ref (am 1), .ref (am 4), .ref (am 5), .ref (am 6), .ref (am 7), .ref (am 8), .int 0, .ref (am 9), .int 0, .int (-1), .int 100, .ref (am 10), .long 0, .int 0, .int 0, .int 0, .int 0, .long 0]))]) H ∧ va_D (va_A (WM cy am eda th) sz) ([(am 0, .inr (19, [.int 1, .ref (am 1), .ref (am 4), .ref (am 5), .ref (am 6), .ref (am 7), .ref (am 8), .int 0, .ref (am 9), .int 0, .int (-1), .int 100, .ref (am 10), .long 0, .int 0, .int 0, .int 0, .int 0, .long 0]))])) := by
  refine ro_ofW (cc := cX14_reserved) (maxL := 3) (ret := (some .int)) (lv := [(0, .ref (am 0)), (1, .int n), (2, .int d)]) (by decide) rfl (Nat.le_of_ble_eq_true rfl) rfl ?_
  intro p e s m below meth c ls hx hb hr hml hown hlocks hname hts hv hl
  have hown : s.vm.findClass RX14 = some m.cls := hown
  obtain ⟨⟨⟨hsz, hP, hD0⟩, hK, hN⟩, hJS⟩ := hv
  subst hsz
  have hD := hD0.self (sz := s.heap.size)
  generalize hAe : va_A (WM cy am eda th) s.heap.size = A at hD hJS ⊢
  have hA : ∀ q : Nat, s.heap.size ≤ q → A q := fun q h => by rw [← hAe]; exact Or.inr h
  have hS : va_S A s.heap s.heap [] := va_S.rf
  refine lv_aload_n hx hb dX14_reserved_0 rfl (lv_at hl 0 rfl) ?_
  refine lv_iload_n hx hb dX14_reserved_1 rfl (lv_at hl 1 rfl) ?_
  refine lv_iconst (v := 0) hx hb dX14_reserved_2 (by decide) ?_
  refine lv_bipush (v := 7) hx hb dX14_reserved_3 (by decide) ?_
  refine ro_callS (As := [.int n, .int 0, .int 7]) (rest := [.ref (am 0)]) ⟨hx, hb, hml, hown, hts⟩ (c_in_f l D cy _ _ _ _ (my_out hw)) (va_cwS 3 hts gX14_reserved_X14_in rfl rfl rfl (by decide +kernel) ⟨by decide, by decide⟩) hK hN hP hS rfl hl.1 rfl (Nat.le_of_ble_eq_true rfl) dX14_reserved_5 ⟨Nat.le_of_ble_eq_true rfl, Nat.le_of_ble_eq_true rfl⟩ (fun H locs hP hS => ?_)
  refine lv_if_ne (tgt := 15) hx hb dX14_reserved_8 (by decide) (fun c => absurd (by decide) c) (fun _ => ?_)
  refine lv_iconst (v := 1) hx hb dX14_reserved_11 (by decide) ?_
  refine lv_goto (tgt := 33) hx hb dX14_reserved_12 (by decide) ?_
  refine va_put (D := D) (ci := 19) (v := .int 1) (ty := .int) (C := RX14) (T := TX14) (N := 19) hx hb hts iw_X14_reserved_RX14 tyX14 tyX14_ok nmX14 hown hK hP hD hS 0 rfl rfl 0 (by decide) (hts (.fieldLink RX14 61 "HubcascadeModel" "thrown" "I") (by decide +kernel)) (fun _ h9 => h9) rfl (by decide +kernel) rfl rfl (Nat.le_of_ble_eq_true rfl) dX14_reserved_33 (fun H locs hP hD hS => ?_)
  have hP : va_P D vwCl (WM cy am eda 1) H := hP
  have hD : va_D A (WM cy am eda 1) := hD
  refine lv_aload_n hx hb dX14_reserved_36 rfl (lv_at hl 0 rfl) ?_
  refine va_get (D := D) (ci := 19) (v := .int 1) (C := RX14) (T := TX14) (N := 19) hx hb hts iw_X14_reserved_RX14 hown hK hP 0 rfl rfl 0 (by decide) (hts (.fieldLink RX14 61 "HubcascadeModel" "thrown" "I") (by decide +kernel)) (fun _ h9 => h9) rfl dX14_reserved_37 ?_
  refine lv_if_le (tgt := 47) hx hb dX14_reserved_40 (by decide) (fun c => absurd c (by decide)) (fun _ => ?_)
  refine lv_iconst (v := 0) hx hb dX14_reserved_43 (by decide) ?_
  refine lv_goto (tgt := 53) hx hb dX14_reserved_44 (by decide) ?_
  refine W.widen (k := 0) (n := 0) (Nat.le_of_ble_eq_true rfl) (Nat.le_of_ble_eq_true rfl) ?_
  have hP9 := hP.sub (ws' := [(am 0, .inr (19, [.int 1, .ref (am 1), .ref (am 4), .ref (am 5), .ref (am 6), .ref (am 7), .ref (am 8), .int 0, .ref (am 9), .int 0, .int (-1), .int 100, .ref (am 10), .long 0, .int 0, .int 0, .int 0, .int 0, .long 0]))]) [0] rfl
  have hD9 := hD.sub (ws' := [(am 0, .inr (19, [.int 1, .ref (am 1), .ref (am 4), .ref (am 5), .ref (am 6), .ref (am 7), .ref (am 8), .int 0, .ref (am 9), .int 0, .int (-1), .int 100, .ref (am 10), .long 0, .int 0, .int 0, .int 0, .int 0, .long 0]))]) [0] (by decide) rfl
  exact W.iret hx hb hr (fun t ht hW => ⟨rfl, ⟨by rw [ht]; exact hP9, hD9⟩, hS.F ht⟩) hS.2.2 dX14_reserved_53

set_option maxRecDepth 100000 in
set_option maxHeartbeats 4000000 in
theorem a_reserved_0m (l : Launch) (D : va_G) (cy : Nat → ClassId) {ca : Nat} {ia : Nat → Nat} {am : Nat → Nat} {eda : Nat} {th : Int32} (sz : Nat) (j : Nat) (hj : j < 8) : MJ l D cy eda ca ia (WM cy am eda th) sz yX14_reserved wsX14_reserved 1 0 0 29 [.ref (am 0), .int (nI j), .int (-1)] (some (.int 0)) (fun H => va_P D vwCl ([(am 0, .inr (19, [.int 0, .ref (am 1), .ref (am 4), .ref (am 5), .ref (am 6), .ref (am 7), .ref (am 8), .int 0, .ref (am 9), .int 0, .int (-1), .int 100, .ref (am 10), .long 0, .int 0, .int 0, .int 0, .int 0, .long 0]))]) H ∧ va_D (va_A (WM cy am eda th) sz) ([(am 0, .inr (19, [.int 0, .ref (am 1), .ref (am 4), .ref (am 5), .ref (am 6), .ref (am 7), .ref (am 8), .int 0, .ref (am 9), .int 0, .int (-1), .int 100, .ref (am 10), .long 0, .int 0, .int 0, .int 0, .int 0, .long 0]))])) := by
  refine ro_ofW (cc := cX14_reserved) (maxL := 3) (ret := (some .int)) (lv := [(0, .ref (am 0)), (1, .int (nI j)), (2, .int (-1))]) (by decide) rfl (Nat.le_of_ble_eq_true rfl) rfl ?_
  intro p e s m below meth c ls hx hb hr hml hown hlocks hname hts hv hl
  have hown : s.vm.findClass RX14 = some m.cls := hown
  obtain ⟨⟨⟨hsz, hP, hD0⟩, hK, hN⟩, hJS⟩ := hv
  subst hsz
  have hD := hD0.self (sz := s.heap.size)
  generalize hAe : va_A (WM cy am eda th) s.heap.size = A at hD hJS ⊢
  have hA : ∀ q : Nat, s.heap.size ≤ q → A q := fun q h => by rw [← hAe]; exact Or.inr h
  have hS : va_S A s.heap s.heap [] := va_S.rf
  refine lv_aload_n hx hb dX14_reserved_0 rfl (lv_at hl 0 rfl) ?_
  refine lv_iload_n hx hb dX14_reserved_1 rfl (lv_at hl 1 rfl) ?_
  refine lv_iconst (v := 0) hx hb dX14_reserved_2 (by decide) ?_
  refine lv_bipush (v := 7) hx hb dX14_reserved_3 (by decide) ?_
  refine ro_callS (As := [.int (nI j), .int 0, .int 7]) (rest := [.ref (am 0)]) ⟨hx, hb, hml, hown, hts⟩ (c_in_t l D cy _ _ _ _ (my_lo (k := 0) (by decide) (by omega) (by omega)) (my_hi (k := 7) (by decide) (by omega) (by decide))) (va_cwS 3 hts gX14_reserved_X14_in rfl rfl rfl (by decide +kernel) ⟨by decide, by decide⟩) hK hN hP hS rfl hl.1 rfl (Nat.le_of_ble_eq_true rfl) dX14_reserved_5 ⟨Nat.le_of_ble_eq_true rfl, Nat.le_of_ble_eq_true rfl⟩ (fun H locs hP hS => ?_)
  refine lv_if_ne (tgt := 15) hx hb dX14_reserved_8 (by decide) (fun _ => ?_) (fun c => absurd c (by decide))
  refine lv_iload_n hx hb dX14_reserved_15 rfl (lv_at hl 2 rfl) ?_
  refine lv_iconst (v := (-1)) hx hb dX14_reserved_16 (by decide) ?_
  refine lv_icmp_eq (tgt := 32) hx hb dX14_reserved_17 (by decide) (fun _ => ?_) (fun c => absurd (by decide) c)
  refine lv_iconst (v := 0) hx hb dX14_reserved_32 (by decide) ?_
  refine va_put (D := D) (ci := 19) (v := .int 0) (ty := .int) (C := RX14) (T := TX14) (N := 19) hx hb hts iw_X14_reserved_RX14 tyX14 tyX14_ok nmX14 hown hK hP hD hS 0 rfl rfl 0 (by decide) (hts (.fieldLink RX14 61 "HubcascadeModel" "thrown" "I") (by decide +kernel)) (fun _ h9 => h9) rfl (by decide +kernel) rfl rfl (Nat.le_of_ble_eq_true rfl) dX14_reserved_33 (fun H locs hP hD hS => ?_)
  have hP : va_P D vwCl (WM cy am eda 0) H := hP
  have hD : va_D A (WM cy am eda 0) := hD
  refine lv_aload_n hx hb dX14_reserved_36 rfl (lv_at hl 0 rfl) ?_
  refine va_get (D := D) (ci := 19) (v := .int 0) (C := RX14) (T := TX14) (N := 19) hx hb hts iw_X14_reserved_RX14 hown hK hP 0 rfl rfl 0 (by decide) (hts (.fieldLink RX14 61 "HubcascadeModel" "thrown" "I") (by decide +kernel)) (fun _ h9 => h9) rfl dX14_reserved_37 ?_
  refine lv_if_le (tgt := 47) hx hb dX14_reserved_40 (by decide) (fun _ => ?_) (fun c => absurd (by decide) c)
  refine lv_aload_n hx hb dX14_reserved_47 rfl (lv_at hl 0 rfl) ?_
  refine lv_iload_n hx hb dX14_reserved_48 rfl (lv_at hl 1 rfl) ?_
  refine lv_iload_n hx hb dX14_reserved_49 rfl (lv_at hl 2 rfl) ?_
  refine ro_callV (As := [.int (nI j), .int (-1)]) (rest := []) ⟨hx, hb, hml, hown, hts⟩ (c_resIn l D cy (nI j) (-1)) (cwV 2 hts gX14_reserved_X14_reservedIn rfl rfl rfl (by decide +kernel) ⟨by decide, by decide⟩) hK hN hP hS (ci := 19) (q0 := 0) rfl rfl rfl rfl hl.1 rfl (Nat.le_of_ble_eq_true rfl) dX14_reserved_50 ⟨Nat.le_of_ble_eq_true rfl, Nat.le_of_ble_eq_true rfl⟩ (fun H locs hP hS => ?_)
  refine W.widen (k := 0) (n := 0) (Nat.le_of_ble_eq_true rfl) (Nat.le_of_ble_eq_true rfl) ?_
  have hP9 := hP.sub (ws' := [(am 0, .inr (19, [.int 0, .ref (am 1), .ref (am 4), .ref (am 5), .ref (am 6), .ref (am 7), .ref (am 8), .int 0, .ref (am 9), .int 0, .int (-1), .int 100, .ref (am 10), .long 0, .int 0, .int 0, .int 0, .int 0, .long 0]))]) [0] rfl
  have hD9 := hD.sub (ws' := [(am 0, .inr (19, [.int 0, .ref (am 1), .ref (am 4), .ref (am 5), .ref (am 6), .ref (am 7), .ref (am 8), .int 0, .ref (am 9), .int 0, .int (-1), .int 100, .ref (am 10), .long 0, .int 0, .int 0, .int 0, .int 0, .long 0]))]) [0] (by decide) rfl
  exact W.iret hx hb hr (fun t ht hW => ⟨rfl, ⟨by rw [ht]; exact hP9, hD9⟩, hS.F ht⟩) hS.2.2 dX14_reserved_53

set_option maxRecDepth 100000 in
set_option maxHeartbeats 4000000 in
theorem a_reserved_00 (l : Launch) (D : va_G) (cy : Nat → ClassId) {ca : Nat} {ia : Nat → Nat} {am : Nat → Nat} {eda : Nat} {th : Int32} (sz : Nat) (j : Nat) (hj : j < 8) : MJ l D cy eda ca ia (WM cy am eda th) sz yX14_reserved wsX14_reserved 2 0 0 43 [.ref (am 0), .int (nI j), .int 0] (some (.int 0)) (fun H => va_P D vwCl ([(am 0, .inr (19, [.int 0, .ref (am 1), .ref (am 4), .ref (am 5), .ref (am 6), .ref (am 7), .ref (am 8), .int 0, .ref (am 9), .int 0, .int (-1), .int 100, .ref (am 10), .long 0, .int 0, .int 0, .int 0, .int 0, .long 0]))]) H ∧ va_D (va_A (WM cy am eda th) sz) ([(am 0, .inr (19, [.int 0, .ref (am 1), .ref (am 4), .ref (am 5), .ref (am 6), .ref (am 7), .ref (am 8), .int 0, .ref (am 9), .int 0, .int (-1), .int 100, .ref (am 10), .long 0, .int 0, .int 0, .int 0, .int 0, .long 0]))])) := by
  refine ro_ofW (cc := cX14_reserved) (maxL := 3) (ret := (some .int)) (lv := [(0, .ref (am 0)), (1, .int (nI j)), (2, .int 0)]) (by decide) rfl (Nat.le_of_ble_eq_true rfl) rfl ?_
  intro p e s m below meth c ls hx hb hr hml hown hlocks hname hts hv hl
  have hown : s.vm.findClass RX14 = some m.cls := hown
  obtain ⟨⟨⟨hsz, hP, hD0⟩, hK, hN⟩, hJS⟩ := hv
  subst hsz
  have hD := hD0.self (sz := s.heap.size)
  generalize hAe : va_A (WM cy am eda th) s.heap.size = A at hD hJS ⊢
  have hA : ∀ q : Nat, s.heap.size ≤ q → A q := fun q h => by rw [← hAe]; exact Or.inr h
  have hS : va_S A s.heap s.heap [] := va_S.rf
  refine lv_aload_n hx hb dX14_reserved_0 rfl (lv_at hl 0 rfl) ?_
  refine lv_iload_n hx hb dX14_reserved_1 rfl (lv_at hl 1 rfl) ?_
  refine lv_iconst (v := 0) hx hb dX14_reserved_2 (by decide) ?_
  refine lv_bipush (v := 7) hx hb dX14_reserved_3 (by decide) ?_
  refine ro_callS (As := [.int (nI j), .int 0, .int 7]) (rest := [.ref (am 0)]) ⟨hx, hb, hml, hown, hts⟩ (c_in_t l D cy _ _ _ _ (my_lo (k := 0) (by decide) (by omega) (by omega)) (my_hi (k := 7) (by decide) (by omega) (by decide))) (va_cwS 3 hts gX14_reserved_X14_in rfl rfl rfl (by decide +kernel) ⟨by decide, by decide⟩) hK hN hP hS rfl hl.1 rfl (Nat.le_of_ble_eq_true rfl) dX14_reserved_5 ⟨Nat.le_of_ble_eq_true rfl, Nat.le_of_ble_eq_true rfl⟩ (fun H locs hP hS => ?_)
  refine lv_if_ne (tgt := 15) hx hb dX14_reserved_8 (by decide) (fun _ => ?_) (fun c => absurd c (by decide))
  refine lv_iload_n hx hb dX14_reserved_15 rfl (lv_at hl 2 rfl) ?_
  refine lv_iconst (v := (-1)) hx hb dX14_reserved_16 (by decide) ?_
  refine lv_icmp_eq (tgt := 32) hx hb dX14_reserved_17 (by decide) (fun c => absurd c (by decide)) (fun _ => ?_)
  refine lv_aload_n hx hb dX14_reserved_20 rfl (lv_at hl 0 rfl) ?_
  refine lv_iload_n hx hb dX14_reserved_21 rfl (lv_at hl 2 rfl) ?_
  refine ro_callV (As := [.int 0]) (rest := [.ref (am 0)]) ⟨hx, hb, hml, hown, hts⟩ (c_isDevice0 l D cy ) (cwV 1 hts gX14_reserved_X14_isDevice rfl rfl rfl (by decide +kernel) ⟨by decide, by decide⟩) hK hN hP hS (ci := 19) (q0 := 0) rfl rfl rfl rfl hl.1 rfl (Nat.le_of_ble_eq_true rfl) dX14_reserved_22 ⟨Nat.le_of_ble_eq_true rfl, Nat.le_of_ble_eq_true rfl⟩ (fun H locs hP hS => ?_)
  refine lv_if_ne (tgt := 32) hx hb dX14_reserved_25 (by decide) (fun _ => ?_) (fun c => absurd c (by decide))
  refine lv_iconst (v := 0) hx hb dX14_reserved_32 (by decide) ?_
  refine va_put (D := D) (ci := 19) (v := .int 0) (ty := .int) (C := RX14) (T := TX14) (N := 19) hx hb hts iw_X14_reserved_RX14 tyX14 tyX14_ok nmX14 hown hK hP hD hS 0 rfl rfl 0 (by decide) (hts (.fieldLink RX14 61 "HubcascadeModel" "thrown" "I") (by decide +kernel)) (fun _ h9 => h9) rfl (by decide +kernel) rfl rfl (Nat.le_of_ble_eq_true rfl) dX14_reserved_33 (fun H locs hP hD hS => ?_)
  have hP : va_P D vwCl (WM cy am eda 0) H := hP
  have hD : va_D A (WM cy am eda 0) := hD
  refine lv_aload_n hx hb dX14_reserved_36 rfl (lv_at hl 0 rfl) ?_
  refine va_get (D := D) (ci := 19) (v := .int 0) (C := RX14) (T := TX14) (N := 19) hx hb hts iw_X14_reserved_RX14 hown hK hP 0 rfl rfl 0 (by decide) (hts (.fieldLink RX14 61 "HubcascadeModel" "thrown" "I") (by decide +kernel)) (fun _ h9 => h9) rfl dX14_reserved_37 ?_
  refine lv_if_le (tgt := 47) hx hb dX14_reserved_40 (by decide) (fun _ => ?_) (fun c => absurd (by decide) c)
  refine lv_aload_n hx hb dX14_reserved_47 rfl (lv_at hl 0 rfl) ?_
  refine lv_iload_n hx hb dX14_reserved_48 rfl (lv_at hl 1 rfl) ?_
  refine lv_iload_n hx hb dX14_reserved_49 rfl (lv_at hl 2 rfl) ?_
  refine ro_callV (As := [.int (nI j), .int 0]) (rest := []) ⟨hx, hb, hml, hown, hts⟩ (c_resIn l D cy (nI j) 0) (cwV 2 hts gX14_reserved_X14_reservedIn rfl rfl rfl (by decide +kernel) ⟨by decide, by decide⟩) hK hN hP hS (ci := 19) (q0 := 0) rfl rfl rfl rfl hl.1 rfl (Nat.le_of_ble_eq_true rfl) dX14_reserved_50 ⟨Nat.le_of_ble_eq_true rfl, Nat.le_of_ble_eq_true rfl⟩ (fun H locs hP hS => ?_)
  refine W.widen (k := 0) (n := 0) (Nat.le_of_ble_eq_true rfl) (Nat.le_of_ble_eq_true rfl) ?_
  have hP9 := hP.sub (ws' := [(am 0, .inr (19, [.int 0, .ref (am 1), .ref (am 4), .ref (am 5), .ref (am 6), .ref (am 7), .ref (am 8), .int 0, .ref (am 9), .int 0, .int (-1), .int 100, .ref (am 10), .long 0, .int 0, .int 0, .int 0, .int 0, .long 0]))]) [0] rfl
  have hD9 := hD.sub (ws' := [(am 0, .inr (19, [.int 0, .ref (am 1), .ref (am 4), .ref (am 5), .ref (am 6), .ref (am 7), .ref (am 8), .int 0, .ref (am 9), .int 0, .int (-1), .int 100, .ref (am 10), .long 0, .int 0, .int 0, .int 0, .int 0, .long 0]))]) [0] (by decide) rfl
  exact W.iret hx hb hr (fun t ht hW => ⟨rfl, ⟨by rw [ht]; exact hP9, hD9⟩, hS.F ht⟩) hS.2.2 dX14_reserved_53

set_option maxRecDepth 100000 in
set_option maxHeartbeats 4000000 in
theorem a_reserved_2 (l : Launch) (D : va_G) (cy : Nat → ClassId) {ca : Nat} {ia : Nat → Nat} {am : Nat → Nat} {eda : Nat} {th : Int32} (sz : Nat) (j : Nat) (d : Int32) (hj : j < 8) (hm : ¬ d = -1) (hd : ¬ d = 0) : MJ l D cy eda ca ia (WM cy am eda th) sz yX14_reserved wsX14_reserved 2 0 0 43 [.ref (am 0), .int (nI j), .int d] (some (.int 0)) (fun H => va_P D vwCl ([(am 0, .inr (19, [.int 2, .ref (am 1), .ref (am 4), .ref (am 5), .ref (am 6), .ref (am 7), .ref (am 8), .int 0, .ref (am 9), .int 0, .int (-1), .int 100, .ref (am 10), .long 0, .int 0, .int 0, .int 0, .int 0, .long 0]))]) H ∧ va_D (va_A (WM cy am eda th) sz) ([(am 0, .inr (19, [.int 2, .ref (am 1), .ref (am 4), .ref (am 5), .ref (am 6), .ref (am 7), .ref (am 8), .int 0, .ref (am 9), .int 0, .int (-1), .int 100, .ref (am 10), .long 0, .int 0, .int 0, .int 0, .int 0, .long 0]))])) := by
  refine ro_ofW (cc := cX14_reserved) (maxL := 3) (ret := (some .int)) (lv := [(0, .ref (am 0)), (1, .int (nI j)), (2, .int d)]) (by decide) rfl (Nat.le_of_ble_eq_true rfl) rfl ?_
  intro p e s m below meth c ls hx hb hr hml hown hlocks hname hts hv hl
  have hown : s.vm.findClass RX14 = some m.cls := hown
  obtain ⟨⟨⟨hsz, hP, hD0⟩, hK, hN⟩, hJS⟩ := hv
  subst hsz
  have hD := hD0.self (sz := s.heap.size)
  generalize hAe : va_A (WM cy am eda th) s.heap.size = A at hD hJS ⊢
  have hA : ∀ q : Nat, s.heap.size ≤ q → A q := fun q h => by rw [← hAe]; exact Or.inr h
  have hS : va_S A s.heap s.heap [] := va_S.rf
  refine lv_aload_n hx hb dX14_reserved_0 rfl (lv_at hl 0 rfl) ?_
  refine lv_iload_n hx hb dX14_reserved_1 rfl (lv_at hl 1 rfl) ?_
  refine lv_iconst (v := 0) hx hb dX14_reserved_2 (by decide) ?_
  refine lv_bipush (v := 7) hx hb dX14_reserved_3 (by decide) ?_
  refine ro_callS (As := [.int (nI j), .int 0, .int 7]) (rest := [.ref (am 0)]) ⟨hx, hb, hml, hown, hts⟩ (c_in_t l D cy _ _ _ _ (my_lo (k := 0) (by decide) (by omega) (by omega)) (my_hi (k := 7) (by decide) (by omega) (by decide))) (va_cwS 3 hts gX14_reserved_X14_in rfl rfl rfl (by decide +kernel) ⟨by decide, by decide⟩) hK hN hP hS rfl hl.1 rfl (Nat.le_of_ble_eq_true rfl) dX14_reserved_5 ⟨Nat.le_of_ble_eq_true rfl, Nat.le_of_ble_eq_true rfl⟩ (fun H locs hP hS => ?_)
  refine lv_if_ne (tgt := 15) hx hb dX14_reserved_8 (by decide) (fun _ => ?_) (fun c => absurd c (by decide))
  refine lv_iload_n hx hb dX14_reserved_15 rfl (lv_at hl 2 rfl) ?_
  refine lv_iconst (v := (-1)) hx hb dX14_reserved_16 (by decide) ?_
  refine lv_icmp_eq (tgt := 32) hx hb dX14_reserved_17 (by decide) (fun c => absurd c hm) (fun _ => ?_)
  refine lv_aload_n hx hb dX14_reserved_20 rfl (lv_at hl 0 rfl) ?_
  refine lv_iload_n hx hb dX14_reserved_21 rfl (lv_at hl 2 rfl) ?_
  refine ro_callV (As := [.int d]) (rest := [.ref (am 0)]) ⟨hx, hb, hml, hown, hts⟩ (c_isDeviceX l D cy d hd) (cwV 1 hts gX14_reserved_X14_isDevice rfl rfl rfl (by decide +kernel) ⟨by decide, by decide⟩) hK hN hP hS (ci := 19) (q0 := 0) rfl rfl rfl rfl hl.1 rfl (Nat.le_of_ble_eq_true rfl) dX14_reserved_22 ⟨Nat.le_of_ble_eq_true rfl, Nat.le_of_ble_eq_true rfl⟩ (fun H locs hP hS => ?_)
  refine lv_if_ne (tgt := 32) hx hb dX14_reserved_25 (by decide) (fun c => absurd (by decide) c) (fun _ => ?_)
  refine lv_iconst (v := 2) hx hb dX14_reserved_28 (by decide) ?_
  refine lv_goto (tgt := 33) hx hb dX14_reserved_29 (by decide) ?_
  refine va_put (D := D) (ci := 19) (v := .int 2) (ty := .int) (C := RX14) (T := TX14) (N := 19) hx hb hts iw_X14_reserved_RX14 tyX14 tyX14_ok nmX14 hown hK hP hD hS 0 rfl rfl 0 (by decide) (hts (.fieldLink RX14 61 "HubcascadeModel" "thrown" "I") (by decide +kernel)) (fun _ h9 => h9) rfl (by decide +kernel) rfl rfl (Nat.le_of_ble_eq_true rfl) dX14_reserved_33 (fun H locs hP hD hS => ?_)
  have hP : va_P D vwCl (WM cy am eda 2) H := hP
  have hD : va_D A (WM cy am eda 2) := hD
  refine lv_aload_n hx hb dX14_reserved_36 rfl (lv_at hl 0 rfl) ?_
  refine va_get (D := D) (ci := 19) (v := .int 2) (C := RX14) (T := TX14) (N := 19) hx hb hts iw_X14_reserved_RX14 hown hK hP 0 rfl rfl 0 (by decide) (hts (.fieldLink RX14 61 "HubcascadeModel" "thrown" "I") (by decide +kernel)) (fun _ h9 => h9) rfl dX14_reserved_37 ?_
  refine lv_if_le (tgt := 47) hx hb dX14_reserved_40 (by decide) (fun c => absurd c (by decide)) (fun _ => ?_)
  refine lv_iconst (v := 0) hx hb dX14_reserved_43 (by decide) ?_
  refine lv_goto (tgt := 53) hx hb dX14_reserved_44 (by decide) ?_
  refine W.widen (k := 0) (n := 0) (Nat.le_of_ble_eq_true rfl) (Nat.le_of_ble_eq_true rfl) ?_
  have hP9 := hP.sub (ws' := [(am 0, .inr (19, [.int 2, .ref (am 1), .ref (am 4), .ref (am 5), .ref (am 6), .ref (am 7), .ref (am 8), .int 0, .ref (am 9), .int 0, .int (-1), .int 100, .ref (am 10), .long 0, .int 0, .int 0, .int 0, .int 0, .long 0]))]) [0] rfl
  have hD9 := hD.sub (ws' := [(am 0, .inr (19, [.int 2, .ref (am 1), .ref (am 4), .ref (am 5), .ref (am 6), .ref (am 7), .ref (am 8), .int 0, .ref (am 9), .int 0, .int (-1), .int 100, .ref (am 10), .long 0, .int 0, .int 0, .int 0, .int 0, .long 0]))]) [0] (by decide) rfl
  exact W.iret hx hb hr (fun t ht hW => ⟨rfl, ⟨by rw [ht]; exact hP9, hD9⟩, hS.F ht⟩) hS.2.2 dX14_reserved_53

theorem iw_X14_left_RX14 : ∀ w ∈ u_ws RX14 TX14 19, w ∈ wsX14_left := by decide +kernel
set_option maxRecDepth 100000 in
set_option maxHeartbeats 4000000 in
theorem a_left_1 (l : Launch) (D : va_G) (cy : Nat → ClassId) {ca : Nat} {ia : Nat → Nat} {am : Nat → Nat} {eda : Nat} {th : Int32} (sz : Nat) (d : Int32) (hm : ¬ d = -1) (hd : ¬ d = 0) : MJ l D cy eda ca ia (WM cy am eda th) sz yX14_left wsX14_left 2 0 0 43 [.ref (am 0), .int d] (some (.int 0)) (fun H => va_P D vwCl ([(am 0, .inr (19, [.int 1, .ref (am 1), .ref (am 4), .ref (am 5), .ref (am 6), .ref (am 7), .ref (am 8), .int 0, .ref (am 9), .int 0, .int (-1), .int 100, .ref (am 10), .long 0, .int 0, .int 0, .int 0, .int 0, .long 0]))]) H ∧ va_D (va_A (WM cy am eda th) sz) ([(am 0, .inr (19, [.int 1, .ref (am 1), .ref (am 4), .ref (am 5), .ref (am 6), .ref (am 7), .ref (am 8), .int 0, .ref (am 9), .int 0, .int (-1), .int 100, .ref (am 10), .long 0, .int 0, .int 0, .int 0, .int 0, .long 0]))])) := by
  refine ro_ofW (cc := cX14_left) (maxL := 2) (ret := (some .int)) (lv := [(0, .ref (am 0)), (1, .int d)]) (by decide) rfl (Nat.le_of_ble_eq_true rfl) rfl ?_
  intro p e s m below meth c ls hx hb hr hml hown hlocks hname hts hv hl
  have hown : s.vm.findClass RX14 = some m.cls := hown
  obtain ⟨⟨⟨hsz, hP, hD0⟩, hK, hN⟩, hJS⟩ := hv
  subst hsz
  have hD := hD0.self (sz := s.heap.size)
  generalize hAe : va_A (WM cy am eda th) s.heap.size = A at hD hJS ⊢
  have hA : ∀ q : Nat, s.heap.size ≤ q → A q := fun q h => by rw [← hAe]; exact Or.inr h
  have hS : va_S A s.heap s.heap [] := va_S.rf
  refine lv_aload_n hx hb dX14_left_0 rfl (lv_at hl 0 rfl) ?_
  refine lv_iload_n hx hb dX14_left_1 rfl (lv_at hl 1 rfl) ?_
  refine lv_iconst (v := (-1)) hx hb dX14_left_2 (by decide) ?_
  refine lv_icmp_eq (tgt := 18) hx hb dX14_left_3 (by decide) (fun c => absurd c hm) (fun _ => ?_)
  refine lv_aload_n hx hb dX14_left_6 rfl (lv_at hl 0 rfl) ?_
  refine lv_iload_n hx hb dX14_left_7 rfl (lv_at hl 1 rfl) ?_
  refine ro_callV (As := [.int d]) (rest := [.ref (am 0)]) ⟨hx, hb, hml, hown, hts⟩ (c_isDeviceX l D cy d hd) (cwV 1 hts gX14_left_X14_isDevice rfl rfl rfl (by decide +kernel) ⟨by decide, by decide⟩) hK hN hP hS (ci := 19) (q0 := 0) rfl rfl rfl rfl hl.1 rfl (Nat.le_of_ble_eq_true rfl) dX14_left_8 ⟨Nat.le_of_ble_eq_true rfl, Nat.le_of_ble_eq_true rfl⟩ (fun H locs hP hS => ?_)
  refine lv_if_ne (tgt := 18) hx hb dX14_left_11 (by decide) (fun c => absurd (by decide) c) (fun _ => ?_)
  refine lv_iconst (v := 1) hx hb dX14_left_14 (by decide) ?_
  refine lv_goto (tgt := 30) hx hb dX14_left_15 (by decide) ?_
  refine va_put (D := D) (ci := 19) (v := .int 1) (ty := .int) (C := RX14) (T := TX14) (N := 19) hx hb hts iw_X14_left_RX14 tyX14 tyX14_ok nmX14 hown hK hP hD hS 0 rfl rfl 0 (by decide) (hts (.fieldLink RX14 61 "HubcascadeModel" "thrown" "I") (by decide +kernel)) (fun _ h9 => h9) rfl (by decide +kernel) rfl rfl (Nat.le_of_ble_eq_true rfl) dX14_left_30 (fun H locs hP hD hS => ?_)
  have hP : va_P D vwCl (WM cy am eda 1) H := hP
  have hD : va_D A (WM cy am eda 1) := hD
  refine lv_aload_n hx hb dX14_left_33 rfl (lv_at hl 0 rfl) ?_
  refine va_get (D := D) (ci := 19) (v := .int 1) (C := RX14) (T := TX14) (N := 19) hx hb hts iw_X14_left_RX14 hown hK hP 0 rfl rfl 0 (by decide) (hts (.fieldLink RX14 61 "HubcascadeModel" "thrown" "I") (by decide +kernel)) (fun _ h9 => h9) rfl dX14_left_34 ?_
  refine lv_if_le (tgt := 44) hx hb dX14_left_37 (by decide) (fun c => absurd c (by decide)) (fun _ => ?_)
  refine lv_iconst (v := 0) hx hb dX14_left_40 (by decide) ?_
  refine lv_goto (tgt := 62) hx hb dX14_left_41 (by decide) ?_
  refine W.widen (k := 0) (n := 0) (Nat.le_of_ble_eq_true rfl) (Nat.le_of_ble_eq_true rfl) ?_
  have hP9 := hP.sub (ws' := [(am 0, .inr (19, [.int 1, .ref (am 1), .ref (am 4), .ref (am 5), .ref (am 6), .ref (am 7), .ref (am 8), .int 0, .ref (am 9), .int 0, .int (-1), .int 100, .ref (am 10), .long 0, .int 0, .int 0, .int 0, .int 0, .long 0]))]) [0] rfl
  have hD9 := hD.sub (ws' := [(am 0, .inr (19, [.int 1, .ref (am 1), .ref (am 4), .ref (am 5), .ref (am 6), .ref (am 7), .ref (am 8), .int 0, .ref (am 9), .int 0, .int (-1), .int 100, .ref (am 10), .long 0, .int 0, .int 0, .int 0, .int 0, .long 0]))]) [0] (by decide) rfl
  exact W.iret hx hb hr (fun t ht hW => ⟨rfl, ⟨by rw [ht]; exact hP9, hD9⟩, hS.F ht⟩) hS.2.2 dX14_left_62

set_option maxRecDepth 100000 in
set_option maxHeartbeats 4000000 in
theorem a_left_2a (l : Launch) (D : va_G) (cy : Nat → ClassId) {ca : Nat} {ia : Nat → Nat} {am : Nat → Nat} {eda : Nat} {th : Int32} (sz : Nat) : MJ l D cy eda ca ia (WM cy am eda th) sz yX14_left wsX14_left 0 0 0 0 [.ref (am 0), .int (-1)] (some (.int 0)) (fun H => va_P D vwCl ([(am 0, .inr (19, [.int 2, .ref (am 1), .ref (am 4), .ref (am 5), .ref (am 6), .ref (am 7), .ref (am 8), .int 0, .ref (am 9), .int 0, .int (-1), .int 100, .ref (am 10), .long 0, .int 0, .int 0, .int 0, .int 0, .long 0]))]) H ∧ va_D (va_A (WM cy am eda th) sz) ([(am 0, .inr (19, [.int 2, .ref (am 1), .ref (am 4), .ref (am 5), .ref (am 6), .ref (am 7), .ref (am 8), .int 0, .ref (am 9), .int 0, .int (-1), .int 100, .ref (am 10), .long 0, .int 0, .int 0, .int 0, .int 0, .long 0]))])) := by
  refine ro_ofW (cc := cX14_left) (maxL := 2) (ret := (some .int)) (lv := [(0, .ref (am 0)), (1, .int (-1))]) (by decide) rfl (Nat.le_of_ble_eq_true rfl) rfl ?_
  intro p e s m below meth c ls hx hb hr hml hown hlocks hname hts hv hl
  have hown : s.vm.findClass RX14 = some m.cls := hown
  obtain ⟨⟨⟨hsz, hP, hD0⟩, hK, hN⟩, hJS⟩ := hv
  subst hsz
  have hD := hD0.self (sz := s.heap.size)
  generalize hAe : va_A (WM cy am eda th) s.heap.size = A at hD hJS ⊢
  have hA : ∀ q : Nat, s.heap.size ≤ q → A q := fun q h => by rw [← hAe]; exact Or.inr h
  have hS : va_S A s.heap s.heap [] := va_S.rf
  refine lv_aload_n hx hb dX14_left_0 rfl (lv_at hl 0 rfl) ?_
  refine lv_iload_n hx hb dX14_left_1 rfl (lv_at hl 1 rfl) ?_
  refine lv_iconst (v := (-1)) hx hb dX14_left_2 (by decide) ?_
  refine lv_icmp_eq (tgt := 18) hx hb dX14_left_3 (by decide) (fun _ => ?_) (fun c => absurd (by decide) c)
  refine lv_aload_n hx hb dX14_left_18 rfl (lv_at hl 0 rfl) ?_
  refine va_get (D := D) (ci := 19) (v := .int 0) (C := RX14) (T := TX14) (N := 19) hx hb hts iw_X14_left_RX14 hown hK hP 0 rfl rfl 9 (by decide) (hts (.fieldLink RX14 205 "HubcascadeModel" "frame" "I") (by decide +kernel)) (fun _ h9 => h9) rfl dX14_left_19 ?_
  refine lv_if_ne (tgt := 29) hx hb dX14_left_22 (by decide) (fun c => absurd (by decide) c) (fun _ => ?_)
  refine lv_iconst (v := 2) hx hb dX14_left_25 (by decide) ?_
  refine lv_goto (tgt := 30) hx hb dX14_left_26 (by decide) ?_
  refine va_put (D := D) (ci := 19) (v := .int 2) (ty := .int) (C := RX14) (T := TX14) (N := 19) hx hb hts iw_X14_left_RX14 tyX14 tyX14_ok nmX14 hown hK hP hD hS 0 rfl rfl 0 (by decide) (hts (.fieldLink RX14 61 "HubcascadeModel" "thrown" "I") (by decide +kernel)) (fun _ h9 => h9) rfl (by decide +kernel) rfl rfl (Nat.le_of_ble_eq_true rfl) dX14_left_30 (fun H locs hP hD hS => ?_)
  have hP : va_P D vwCl (WM cy am eda 2) H := hP
  have hD : va_D A (WM cy am eda 2) := hD
  refine lv_aload_n hx hb dX14_left_33 rfl (lv_at hl 0 rfl) ?_
  refine va_get (D := D) (ci := 19) (v := .int 2) (C := RX14) (T := TX14) (N := 19) hx hb hts iw_X14_left_RX14 hown hK hP 0 rfl rfl 0 (by decide) (hts (.fieldLink RX14 61 "HubcascadeModel" "thrown" "I") (by decide +kernel)) (fun _ h9 => h9) rfl dX14_left_34 ?_
  refine lv_if_le (tgt := 44) hx hb dX14_left_37 (by decide) (fun c => absurd c (by decide)) (fun _ => ?_)
  refine lv_iconst (v := 0) hx hb dX14_left_40 (by decide) ?_
  refine lv_goto (tgt := 62) hx hb dX14_left_41 (by decide) ?_
  refine W.widen (k := 0) (n := 0) (Nat.le_of_ble_eq_true rfl) (Nat.le_of_ble_eq_true rfl) ?_
  have hP9 := hP.sub (ws' := [(am 0, .inr (19, [.int 2, .ref (am 1), .ref (am 4), .ref (am 5), .ref (am 6), .ref (am 7), .ref (am 8), .int 0, .ref (am 9), .int 0, .int (-1), .int 100, .ref (am 10), .long 0, .int 0, .int 0, .int 0, .int 0, .long 0]))]) [0] rfl
  have hD9 := hD.sub (ws' := [(am 0, .inr (19, [.int 2, .ref (am 1), .ref (am 4), .ref (am 5), .ref (am 6), .ref (am 7), .ref (am 8), .int 0, .ref (am 9), .int 0, .int (-1), .int 100, .ref (am 10), .long 0, .int 0, .int 0, .int 0, .int 0, .long 0]))]) [0] (by decide) rfl
  exact W.iret hx hb hr (fun t ht hW => ⟨rfl, ⟨by rw [ht]; exact hP9, hD9⟩, hS.F ht⟩) hS.2.2 dX14_left_62

set_option maxRecDepth 100000 in
set_option maxHeartbeats 4000000 in
theorem a_left_2b (l : Launch) (D : va_G) (cy : Nat → ClassId) {ca : Nat} {ia : Nat → Nat} {am : Nat → Nat} {eda : Nat} {th : Int32} (sz : Nat) : MJ l D cy eda ca ia (WM cy am eda th) sz yX14_left wsX14_left 2 0 0 43 [.ref (am 0), .int 0] (some (.int 0)) (fun H => va_P D vwCl ([(am 0, .inr (19, [.int 2, .ref (am 1), .ref (am 4), .ref (am 5), .ref (am 6), .ref (am 7), .ref (am 8), .int 0, .ref (am 9), .int 0, .int (-1), .int 100, .ref (am 10), .long 0, .int 0, .int 0, .int 0, .int 0, .long 0]))]) H ∧ va_D (va_A (WM cy am eda th) sz) ([(am 0, .inr (19, [.int 2, .ref (am 1), .ref (am 4), .ref (am 5), .ref (am 6), .ref (am 7), .ref (am 8), .int 0, .ref (am 9), .int 0, .int (-1), .int 100, .ref (am 10), .long 0, .int 0, .int 0, .int 0, .int 0, .long 0]))])) := by
  refine ro_ofW (cc := cX14_left) (maxL := 2) (ret := (some .int)) (lv := [(0, .ref (am 0)), (1, .int 0)]) (by decide) rfl (Nat.le_of_ble_eq_true rfl) rfl ?_
  intro p e s m below meth c ls hx hb hr hml hown hlocks hname hts hv hl
  have hown : s.vm.findClass RX14 = some m.cls := hown
  obtain ⟨⟨⟨hsz, hP, hD0⟩, hK, hN⟩, hJS⟩ := hv
  subst hsz
  have hD := hD0.self (sz := s.heap.size)
  generalize hAe : va_A (WM cy am eda th) s.heap.size = A at hD hJS ⊢
  have hA : ∀ q : Nat, s.heap.size ≤ q → A q := fun q h => by rw [← hAe]; exact Or.inr h
  have hS : va_S A s.heap s.heap [] := va_S.rf
  refine lv_aload_n hx hb dX14_left_0 rfl (lv_at hl 0 rfl) ?_
  refine lv_iload_n hx hb dX14_left_1 rfl (lv_at hl 1 rfl) ?_
  refine lv_iconst (v := (-1)) hx hb dX14_left_2 (by decide) ?_
  refine lv_icmp_eq (tgt := 18) hx hb dX14_left_3 (by decide) (fun c => absurd c (by decide)) (fun _ => ?_)
  refine lv_aload_n hx hb dX14_left_6 rfl (lv_at hl 0 rfl) ?_
  refine lv_iload_n hx hb dX14_left_7 rfl (lv_at hl 1 rfl) ?_
  refine ro_callV (As := [.int 0]) (rest := [.ref (am 0)]) ⟨hx, hb, hml, hown, hts⟩ (c_isDevice0 l D cy ) (cwV 1 hts gX14_left_X14_isDevice rfl rfl rfl (by decide +kernel) ⟨by decide, by decide⟩) hK hN hP hS (ci := 19) (q0 := 0) rfl rfl rfl rfl hl.1 rfl (Nat.le_of_ble_eq_true rfl) dX14_left_8 ⟨Nat.le_of_ble_eq_true rfl, Nat.le_of_ble_eq_true rfl⟩ (fun H locs hP hS => ?_)
  refine lv_if_ne (tgt := 18) hx hb dX14_left_11 (by decide) (fun _ => ?_) (fun c => absurd c (by decide))
  refine lv_aload_n hx hb dX14_left_18 rfl (lv_at hl 0 rfl) ?_
  refine va_get (D := D) (ci := 19) (v := .int 0) (C := RX14) (T := TX14) (N := 19) hx hb hts iw_X14_left_RX14 hown hK hP 0 rfl rfl 9 (by decide) (hts (.fieldLink RX14 205 "HubcascadeModel" "frame" "I") (by decide +kernel)) (fun _ h9 => h9) rfl dX14_left_19 ?_
  refine lv_if_ne (tgt := 29) hx hb dX14_left_22 (by decide) (fun c => absurd (by decide) c) (fun _ => ?_)
  refine lv_iconst (v := 2) hx hb dX14_left_25 (by decide) ?_
  refine lv_goto (tgt := 30) hx hb dX14_left_26 (by decide) ?_
  refine va_put (D := D) (ci := 19) (v := .int 2) (ty := .int) (C := RX14) (T := TX14) (N := 19) hx hb hts iw_X14_left_RX14 tyX14 tyX14_ok nmX14 hown hK hP hD hS 0 rfl rfl 0 (by decide) (hts (.fieldLink RX14 61 "HubcascadeModel" "thrown" "I") (by decide +kernel)) (fun _ h9 => h9) rfl (by decide +kernel) rfl rfl (Nat.le_of_ble_eq_true rfl) dX14_left_30 (fun H locs hP hD hS => ?_)
  have hP : va_P D vwCl (WM cy am eda 2) H := hP
  have hD : va_D A (WM cy am eda 2) := hD
  refine lv_aload_n hx hb dX14_left_33 rfl (lv_at hl 0 rfl) ?_
  refine va_get (D := D) (ci := 19) (v := .int 2) (C := RX14) (T := TX14) (N := 19) hx hb hts iw_X14_left_RX14 hown hK hP 0 rfl rfl 0 (by decide) (hts (.fieldLink RX14 61 "HubcascadeModel" "thrown" "I") (by decide +kernel)) (fun _ h9 => h9) rfl dX14_left_34 ?_
  refine lv_if_le (tgt := 44) hx hb dX14_left_37 (by decide) (fun c => absurd c (by decide)) (fun _ => ?_)
  refine lv_iconst (v := 0) hx hb dX14_left_40 (by decide) ?_
  refine lv_goto (tgt := 62) hx hb dX14_left_41 (by decide) ?_
  refine W.widen (k := 0) (n := 0) (Nat.le_of_ble_eq_true rfl) (Nat.le_of_ble_eq_true rfl) ?_
  have hP9 := hP.sub (ws' := [(am 0, .inr (19, [.int 2, .ref (am 1), .ref (am 4), .ref (am 5), .ref (am 6), .ref (am 7), .ref (am 8), .int 0, .ref (am 9), .int 0, .int (-1), .int 100, .ref (am 10), .long 0, .int 0, .int 0, .int 0, .int 0, .long 0]))]) [0] rfl
  have hD9 := hD.sub (ws' := [(am 0, .inr (19, [.int 2, .ref (am 1), .ref (am 4), .ref (am 5), .ref (am 6), .ref (am 7), .ref (am 8), .int 0, .ref (am 9), .int 0, .int (-1), .int 100, .ref (am 10), .long 0, .int 0, .int 0, .int 0, .int 0, .long 0]))]) [0] (by decide) rfl
  exact W.iret hx hb hr (fun t ht hW => ⟨rfl, ⟨by rw [ht]; exact hP9, hD9⟩, hS.F ht⟩) hS.2.2 dX14_left_62

theorem iw_X14_event_RX14 : ∀ w ∈ u_ws RX14 TX14 19, w ∈ wsX14_event := by decide +kernel
set_option maxRecDepth 100000 in
set_option maxHeartbeats 4000000 in
theorem a_event_1 (l : Launch) (D : va_G) (cy : Nat → ClassId) {ca : Nat} {ia : Nat → Nat} {am : Nat → Nat} {eda : Nat} {th : Int32} (sz : Nat) : MJ l D cy eda ca ia (WM cy am eda th) sz yX14_event wsX14_event 1 0 0 20 [.ref (am 0)] (some (.int 32)) (fun H => va_P D vwCl ([(am 0, .inr (19, [.int 1, .ref (am 1), .ref (am 4), .ref (am 5), .ref (am 6), .ref (am 7), .ref (am 8), .int 0, .ref (am 9), .int 0, .int (-1), .int 100, .ref (am 10), .long 0, .int 0, .int 0, .int 0, .int 0, .long 0]))]) H ∧ va_D (va_A (WM cy am eda th) sz) ([(am 0, .inr (19, [.int 1, .ref (am 1), .ref (am 4), .ref (am 5), .ref (am 6), .ref (am 7), .ref (am 8), .int 0, .ref (am 9), .int 0, .int (-1), .int 100, .ref (am 10), .long 0, .int 0, .int 0, .int 0, .int 0, .long 0]))])) := by
  refine ro_ofW (cc := cX14_event) (maxL := 1) (ret := (some .char)) (lv := [(0, .ref (am 0))]) (by decide) rfl (Nat.le_of_ble_eq_true rfl) rfl ?_
  intro p e s m below meth c ls hx hb hr hml hown hlocks hname hts hv hl
  have hown : s.vm.findClass RX14 = some m.cls := hown
  obtain ⟨⟨⟨hsz, hP, hD0⟩, hK, hN⟩, hJS⟩ := hv
  subst hsz
  have hD := hD0.self (sz := s.heap.size)
  generalize hAe : va_A (WM cy am eda th) s.heap.size = A at hD hJS ⊢
  have hA : ∀ q : Nat, s.heap.size ≤ q → A q := fun q h => by rw [← hAe]; exact Or.inr h
  have hS : va_S A s.heap s.heap [] := va_S.rf
  refine lv_aload_n hx hb dX14_event_0 rfl (lv_at hl 0 rfl) ?_
  refine lv_aload_n hx hb dX14_event_1 rfl (lv_at hl 0 rfl) ?_
  refine va_get (D := D) (ci := 19) (v := .ref (am 7)) (C := RX14) (T := TX14) (N := 19) hx hb hts iw_X14_event_RX14 hown hK hP 0 rfl rfl 5 (by decide) (hts (.fieldLink RX14 28 "HubcascadeModel" "events" "Ljava/util/ArrayList;") (by decide +kernel)) (fun _ h9 => h9) rfl dX14_event_2 ?_
  refine ro_callV (As := []) (rest := [.ref (am 0)]) ⟨hx, hb, hml, hown, hts⟩ (c_isEmpty0 l D cy _ 7 (am 7) eda 0 0 rfl rfl) (cwV 0 hts gX14_event_Jx4a65c_isEmpty_aae02 rfl rfl rfl (by decide +kernel) ⟨by decide, by decide⟩) hK hN hP hS (ci := 4) (q0 := 7) rfl rfl rfl rfl hl.1 rfl (Nat.le_of_ble_eq_true rfl) dX14_event_5 ⟨Nat.le_of_ble_eq_true rfl, Nat.le_of_ble_eq_true rfl⟩ (fun H locs hP hS => ?_)
  refine lv_if_eq (tgt := 15) hx hb dX14_event_8 (by decide) (fun c => absurd c (by decide)) (fun _ => ?_)
  refine lv_iconst (v := 1) hx hb dX14_event_11 (by decide) ?_
  refine lv_goto (tgt := 16) hx hb dX14_event_12 (by decide) ?_
  refine va_put (D := D) (ci := 19) (v := .int 1) (ty := .int) (C := RX14) (T := TX14) (N := 19) hx hb hts iw_X14_event_RX14 tyX14 tyX14_ok nmX14 hown hK hP hD hS 0 rfl rfl 0 (by decide) (hts (.fieldLink RX14 61 "HubcascadeModel" "thrown" "I") (by decide +kernel)) (fun _ h9 => h9) rfl (by decide +kernel) rfl rfl (Nat.le_of_ble_eq_true rfl) dX14_event_16 (fun H locs hP hD hS => ?_)
  have hP : va_P D vwCl (WM cy am eda 1) H := hP
  have hD : va_D A (WM cy am eda 1) := hD
  refine lv_aload_n hx hb dX14_event_19 rfl (lv_at hl 0 rfl) ?_
  refine va_get (D := D) (ci := 19) (v := .int 1) (C := RX14) (T := TX14) (N := 19) hx hb hts iw_X14_event_RX14 hown hK hP 0 rfl rfl 0 (by decide) (hts (.fieldLink RX14 61 "HubcascadeModel" "thrown" "I") (by decide +kernel)) (fun _ h9 => h9) rfl dX14_event_20 ?_
  refine lv_if_le (tgt := 29) hx hb dX14_event_23 (by decide) (fun c => absurd c (by decide)) (fun _ => ?_)
  refine lv_bipush (v := 32) hx hb dX14_event_26 (by decide) ?_
  refine W.widen (k := 0) (n := 0) (Nat.le_of_ble_eq_true rfl) (Nat.le_of_ble_eq_true rfl) ?_
  have hP9 := hP.sub (ws' := [(am 0, .inr (19, [.int 1, .ref (am 1), .ref (am 4), .ref (am 5), .ref (am 6), .ref (am 7), .ref (am 8), .int 0, .ref (am 9), .int 0, .int (-1), .int 100, .ref (am 10), .long 0, .int 0, .int 0, .int 0, .int 0, .long 0]))]) [0] rfl
  have hD9 := hD.sub (ws' := [(am 0, .inr (19, [.int 1, .ref (am 1), .ref (am 4), .ref (am 5), .ref (am 6), .ref (am 7), .ref (am 8), .int 0, .ref (am 9), .int 0, .int (-1), .int 100, .ref (am 10), .long 0, .int 0, .int 0, .int 0, .int 0, .long 0]))]) [0] (by decide) rfl
  exact W.zret hx hb hr (by decide) (fun t ht hW => ⟨rfl, ⟨by rw [ht]; exact hP9, hD9⟩, hS.F ht⟩) hS.2.2 dX14_event_28

theorem iw_X14_eventPipe_RX14 : ∀ w ∈ u_ws RX14 TX14 19, w ∈ wsX14_eventPipe := by decide +kernel
set_option maxRecDepth 100000 in
set_option maxHeartbeats 4000000 in
theorem a_eventPipe_1 (l : Launch) (D : va_G) (cy : Nat → ClassId) {ca : Nat} {ia : Nat → Nat} {am : Nat → Nat} {eda : Nat} {th : Int32} (sz : Nat) : MJ l D cy eda ca ia (WM cy am eda th) sz yX14_eventPipe wsX14_eventPipe 0 0 0 0 [.ref (am 0)] (some (.int 0)) (fun H => va_P D vwCl ([(am 0, .inr (19, [.int 1, .ref (am 1), .ref (am 4), .ref (am 5), .ref (am 6), .ref (am 7), .ref (am 8), .int 0, .ref (am 9), .int 0, .int (-1), .int 100, .ref (am 10), .long 0, .int 0, .int 0, .int 0, .int 0, .long 0]))]) H ∧ va_D (va_A (WM cy am eda th) sz) ([(am 0, .inr (19, [.int 1, .ref (am 1), .ref (am 4), .ref (am 5), .ref (am 6), .ref (am 7), .ref (am 8), .int 0, .ref (am 9), .int 0, .int (-1), .int 100, .ref (am 10), .long 0, .int 0, .int 0, .int 0, .int 0, .long 0]))])) := by
  refine ro_ofW (cc := cX14_eventPipe) (maxL := 1) (ret := (some .int)) (lv := [(0, .ref (am 0))]) (by decide) rfl (Nat.le_of_ble_eq_true rfl) rfl ?_
  intro p e s m below meth c ls hx hb hr hml hown hlocks hname hts hv hl
  have hown : s.vm.findClass RX14 = some m.cls := hown
  obtain ⟨⟨⟨hsz, hP, hD0⟩, hK, hN⟩, hJS⟩ := hv
  subst hsz
  have hD := hD0.self (sz := s.heap.size)
  generalize hAe : va_A (WM cy am eda th) s.heap.size = A at hD hJS ⊢
  have hA : ∀ q : Nat, s.heap.size ≤ q → A q := fun q h => by rw [← hAe]; exact Or.inr h
  have hS : va_S A s.heap s.heap [] := va_S.rf
  refine lv_aload_n hx hb dX14_eventPipe_0 rfl (lv_at hl 0 rfl) ?_
  refine lv_aload_n hx hb dX14_eventPipe_1 rfl (lv_at hl 0 rfl) ?_
  refine va_get (D := D) (ci := 19) (v := .ref (am 8)) (C := RX14) (T := TX14) (N := 19) hx hb hts iw_X14_eventPipe_RX14 hown hK hP 0 rfl rfl 6 (by decide) (hts (.fieldLink RX14 31 "HubcascadeModel" "event" "[I") (by decide +kernel)) (fun _ h9 => h9) rfl dX14_eventPipe_2 ?_
  refine va_alen (v := 0) hx hb hK hP 8 0 rfl rfl rfl dX14_eventPipe_5 ?_
  refine lv_if_ne (tgt := 13) hx hb dX14_eventPipe_6 (by decide) (fun c => absurd (by decide) c) (fun _ => ?_)
  refine lv_iconst (v := 1) hx hb dX14_eventPipe_9 (by decide) ?_
  refine lv_goto (tgt := 14) hx hb dX14_eventPipe_10 (by decide) ?_
  refine va_put (D := D) (ci := 19) (v := .int 1) (ty := .int) (C := RX14) (T := TX14) (N := 19) hx hb hts iw_X14_eventPipe_RX14 tyX14 tyX14_ok nmX14 hown hK hP hD hS 0 rfl rfl 0 (by decide) (hts (.fieldLink RX14 61 "HubcascadeModel" "thrown" "I") (by decide +kernel)) (fun _ h9 => h9) rfl (by decide +kernel) rfl rfl (Nat.le_of_ble_eq_true rfl) dX14_eventPipe_14 (fun H locs hP hD hS => ?_)
  have hP : va_P D vwCl (WM cy am eda 1) H := hP
  have hD : va_D A (WM cy am eda 1) := hD
  refine lv_aload_n hx hb dX14_eventPipe_17 rfl (lv_at hl 0 rfl) ?_
  refine va_get (D := D) (ci := 19) (v := .int 1) (C := RX14) (T := TX14) (N := 19) hx hb hts iw_X14_eventPipe_RX14 hown hK hP 0 rfl rfl 0 (by decide) (hts (.fieldLink RX14 61 "HubcascadeModel" "thrown" "I") (by decide +kernel)) (fun _ h9 => h9) rfl dX14_eventPipe_18 ?_
  refine lv_if_le (tgt := 28) hx hb dX14_eventPipe_21 (by decide) (fun c => absurd c (by decide)) (fun _ => ?_)
  refine lv_iconst (v := 0) hx hb dX14_eventPipe_24 (by decide) ?_
  refine lv_goto (tgt := 34) hx hb dX14_eventPipe_25 (by decide) ?_
  refine W.widen (k := 0) (n := 0) (Nat.le_of_ble_eq_true rfl) (Nat.le_of_ble_eq_true rfl) ?_
  have hP9 := hP.sub (ws' := [(am 0, .inr (19, [.int 1, .ref (am 1), .ref (am 4), .ref (am 5), .ref (am 6), .ref (am 7), .ref (am 8), .int 0, .ref (am 9), .int 0, .int (-1), .int 100, .ref (am 10), .long 0, .int 0, .int 0, .int 0, .int 0, .long 0]))]) [0] rfl
  have hD9 := hD.sub (ws' := [(am 0, .inr (19, [.int 1, .ref (am 1), .ref (am 4), .ref (am 5), .ref (am 6), .ref (am 7), .ref (am 8), .int 0, .ref (am 9), .int 0, .int (-1), .int 100, .ref (am 10), .long 0, .int 0, .int 0, .int 0, .int 0, .long 0]))]) [0] (by decide) rfl
  exact W.iret hx hb hr (fun t ht hW => ⟨rfl, ⟨by rw [ht]; exact hP9, hD9⟩, hS.F ht⟩) hS.2.2 dX14_eventPipe_34

theorem iw_X14_eventBytes_RX14 : ∀ w ∈ u_ws RX14 TX14 19, w ∈ wsX14_eventBytes := by decide +kernel
set_option maxRecDepth 100000 in
set_option maxHeartbeats 4000000 in
theorem a_eventBytes_1 (l : Launch) (D : va_G) (cy : Nat → ClassId) {ca : Nat} {ia : Nat → Nat} {am : Nat → Nat} {eda : Nat} {th : Int32} (sz : Nat) : MJ l D cy eda ca ia (WM cy am eda th) sz yX14_eventBytes wsX14_eventBytes 0 0 0 0 [.ref (am 0)] (some (.int 0)) (fun H => va_P D vwCl ([(am 0, .inr (19, [.int 1, .ref (am 1), .ref (am 4), .ref (am 5), .ref (am 6), .ref (am 7), .ref (am 8), .int 0, .ref (am 9), .int 0, .int (-1), .int 100, .ref (am 10), .long 0, .int 0, .int 0, .int 0, .int 0, .long 0]))]) H ∧ va_D (va_A (WM cy am eda th) sz) ([(am 0, .inr (19, [.int 1, .ref (am 1), .ref (am 4), .ref (am 5), .ref (am 6), .ref (am 7), .ref (am 8), .int 0, .ref (am 9), .int 0, .int (-1), .int 100, .ref (am 10), .long 0, .int 0, .int 0, .int 0, .int 0, .long 0]))])) := by
  refine ro_ofW (cc := cX14_eventBytes) (maxL := 1) (ret := (some .int)) (lv := [(0, .ref (am 0))]) (by decide) rfl (Nat.le_of_ble_eq_true rfl) rfl ?_
  intro p e s m below meth c ls hx hb hr hml hown hlocks hname hts hv hl
  have hown : s.vm.findClass RX14 = some m.cls := hown
  obtain ⟨⟨⟨hsz, hP, hD0⟩, hK, hN⟩, hJS⟩ := hv
  subst hsz
  have hD := hD0.self (sz := s.heap.size)
  generalize hAe : va_A (WM cy am eda th) s.heap.size = A at hD hJS ⊢
  have hA : ∀ q : Nat, s.heap.size ≤ q → A q := fun q h => by rw [← hAe]; exact Or.inr h
  have hS : va_S A s.heap s.heap [] := va_S.rf
  refine lv_aload_n hx hb dX14_eventBytes_0 rfl (lv_at hl 0 rfl) ?_
  refine lv_aload_n hx hb dX14_eventBytes_1 rfl (lv_at hl 0 rfl) ?_
  refine va_get (D := D) (ci := 19) (v := .ref (am 8)) (C := RX14) (T := TX14) (N := 19) hx hb hts iw_X14_eventBytes_RX14 hown hK hP 0 rfl rfl 6 (by decide) (hts (.fieldLink RX14 31 "HubcascadeModel" "event" "[I") (by decide +kernel)) (fun _ h9 => h9) rfl dX14_eventBytes_2 ?_
  refine va_alen (v := 0) hx hb hK hP 8 0 rfl rfl rfl dX14_eventBytes_5 ?_
  refine lv_if_ne (tgt := 13) hx hb dX14_eventBytes_6 (by decide) (fun c => absurd (by decide) c) (fun _ => ?_)
  refine lv_iconst (v := 1) hx hb dX14_eventBytes_9 (by decide) ?_
  refine lv_goto (tgt := 14) hx hb dX14_eventBytes_10 (by decide) ?_
  refine va_put (D := D) (ci := 19) (v := .int 1) (ty := .int) (C := RX14) (T := TX14) (N := 19) hx hb hts iw_X14_eventBytes_RX14 tyX14 tyX14_ok nmX14 hown hK hP hD hS 0 rfl rfl 0 (by decide) (hts (.fieldLink RX14 61 "HubcascadeModel" "thrown" "I") (by decide +kernel)) (fun _ h9 => h9) rfl (by decide +kernel) rfl rfl (Nat.le_of_ble_eq_true rfl) dX14_eventBytes_14 (fun H locs hP hD hS => ?_)
  have hP : va_P D vwCl (WM cy am eda 1) H := hP
  have hD : va_D A (WM cy am eda 1) := hD
  refine lv_aload_n hx hb dX14_eventBytes_17 rfl (lv_at hl 0 rfl) ?_
  refine va_get (D := D) (ci := 19) (v := .int 1) (C := RX14) (T := TX14) (N := 19) hx hb hts iw_X14_eventBytes_RX14 hown hK hP 0 rfl rfl 0 (by decide) (hts (.fieldLink RX14 61 "HubcascadeModel" "thrown" "I") (by decide +kernel)) (fun _ h9 => h9) rfl dX14_eventBytes_18 ?_
  refine lv_if_le (tgt := 28) hx hb dX14_eventBytes_21 (by decide) (fun c => absurd c (by decide)) (fun _ => ?_)
  refine lv_iconst (v := 0) hx hb dX14_eventBytes_24 (by decide) ?_
  refine lv_goto (tgt := 34) hx hb dX14_eventBytes_25 (by decide) ?_
  refine W.widen (k := 0) (n := 0) (Nat.le_of_ble_eq_true rfl) (Nat.le_of_ble_eq_true rfl) ?_
  have hP9 := hP.sub (ws' := [(am 0, .inr (19, [.int 1, .ref (am 1), .ref (am 4), .ref (am 5), .ref (am 6), .ref (am 7), .ref (am 8), .int 0, .ref (am 9), .int 0, .int (-1), .int 100, .ref (am 10), .long 0, .int 0, .int 0, .int 0, .int 0, .long 0]))]) [0] rfl
  have hD9 := hD.sub (ws' := [(am 0, .inr (19, [.int 1, .ref (am 1), .ref (am 4), .ref (am 5), .ref (am 6), .ref (am 7), .ref (am 8), .int 0, .ref (am 9), .int 0, .int (-1), .int 100, .ref (am 10), .long 0, .int 0, .int 0, .int 0, .int 0, .long 0]))]) [0] (by decide) rfl
  exact W.iret hx hb hr (fun t ht hW => ⟨rfl, ⟨by rw [ht]; exact hP9, hD9⟩, hS.F ht⟩) hS.2.2 dX14_eventBytes_34

theorem iw_X14_frames_RX14 : ∀ w ∈ u_ws RX14 TX14 19, w ∈ wsX14_frames := by decide +kernel
set_option maxRecDepth 100000 in
set_option maxHeartbeats 4000000 in
theorem a_frames (l : Launch) (D : va_G) (cy : Nat → ClassId) {ca : Nat} {ia : Nat → Nat} {am : Nat → Nat} {eda : Nat} {th : Int32} (sz : Nat) : MJ l D cy eda ca ia (WM cy am eda th) sz yX14_frames wsX14_frames 0 0 0 0 [.ref (am 0)] (some (.int 0)) (fun H => va_P D vwCl ([(am 0, .inr (19, [.int 0, .ref (am 1), .ref (am 4), .ref (am 5), .ref (am 6), .ref (am 7), .ref (am 8), .int 0, .ref (am 9), .int 0, .int (-1), .int 100, .ref (am 10), .long 0, .int 0, .int 0, .int 0, .int 0, .long 0]))]) H ∧ va_D (va_A (WM cy am eda th) sz) ([(am 0, .inr (19, [.int 0, .ref (am 1), .ref (am 4), .ref (am 5), .ref (am 6), .ref (am 7), .ref (am 8), .int 0, .ref (am 9), .int 0, .int (-1), .int 100, .ref (am 10), .long 0, .int 0, .int 0, .int 0, .int 0, .long 0]))])) := by
  refine ro_ofW (cc := cX14_frames) (maxL := 1) (ret := (some .int)) (lv := [(0, .ref (am 0))]) (by decide) rfl (Nat.le_of_ble_eq_true rfl) rfl ?_
  intro p e s m below meth c ls hx hb hr hml hown hlocks hname hts hv hl
  have hown : s.vm.findClass RX14 = some m.cls := hown
  obtain ⟨⟨⟨hsz, hP, hD0⟩, hK, hN⟩, hJS⟩ := hv
  subst hsz
  have hD := hD0.self (sz := s.heap.size)
  generalize hAe : va_A (WM cy am eda th) s.heap.size = A at hD hJS ⊢
  have hA : ∀ q : Nat, s.heap.size ≤ q → A q := fun q h => by rw [← hAe]; exact Or.inr h
  have hS : va_S A s.heap s.heap [] := va_S.rf
  refine lv_aload_n hx hb dX14_frames_0 rfl (lv_at hl 0 rfl) ?_
  refine lv_iconst (v := 0) hx hb dX14_frames_1 (by decide) ?_
  refine va_put (D := D) (ci := 19) (v := .int 0) (ty := .int) (C := RX14) (T := TX14) (N := 19) hx hb hts iw_X14_frames_RX14 tyX14 tyX14_ok nmX14 hown hK hP hD hS 0 rfl rfl 0 (by decide) (hts (.fieldLink RX14 61 "HubcascadeModel" "thrown" "I") (by decide +kernel)) (fun _ h9 => h9) rfl (by decide +kernel) rfl rfl (Nat.le_of_ble_eq_true rfl) dX14_frames_2 (fun H locs hP hD hS => ?_)
  have hP : va_P D vwCl (WM cy am eda 0) H := hP
  have hD : va_D A (WM cy am eda 0) := hD
  refine lv_aload_n hx hb dX14_frames_5 rfl (lv_at hl 0 rfl) ?_
  refine va_get (D := D) (ci := 19) (v := .int 0) (C := RX14) (T := TX14) (N := 19) hx hb hts iw_X14_frames_RX14 hown hK hP 0 rfl rfl 9 (by decide) (hts (.fieldLink RX14 205 "HubcascadeModel" "frame" "I") (by decide +kernel)) (fun _ h9 => h9) rfl dX14_frames_6 ?_
  refine W.widen (k := 0) (n := 0) (Nat.le_of_ble_eq_true rfl) (Nat.le_of_ble_eq_true rfl) ?_
  have hP9 := hP.sub (ws' := [(am 0, .inr (19, [.int 0, .ref (am 1), .ref (am 4), .ref (am 5), .ref (am 6), .ref (am 7), .ref (am 8), .int 0, .ref (am 9), .int 0, .int (-1), .int 100, .ref (am 10), .long 0, .int 0, .int 0, .int 0, .int 0, .long 0]))]) [0] rfl
  have hD9 := hD.sub (ws' := [(am 0, .inr (19, [.int 0, .ref (am 1), .ref (am 4), .ref (am 5), .ref (am 6), .ref (am 7), .ref (am 8), .int 0, .ref (am 9), .int 0, .int (-1), .int 100, .ref (am 10), .long 0, .int 0, .int 0, .int 0, .int 0, .long 0]))]) [0] (by decide) rfl
  exact W.iret hx hb hr (fun t ht hW => ⟨rfl, ⟨by rw [ht]; exact hP9, hD9⟩, hS.F ht⟩) hS.2.2 dX14_frames_9

theorem iw_X14_events_RX14 : ∀ w ∈ u_ws RX14 TX14 19, w ∈ wsX14_events := by decide +kernel
set_option maxRecDepth 100000 in
set_option maxHeartbeats 4000000 in
theorem a_events (l : Launch) (D : va_G) (cy : Nat → ClassId) {ca : Nat} {ia : Nat → Nat} {am : Nat → Nat} {eda : Nat} {th : Int32} (sz : Nat) : MJ l D cy eda ca ia (WM cy am eda th) sz yX14_events wsX14_events 1 0 0 20 [.ref (am 0)] (some (.int 0)) (fun H => va_P D vwCl ([(am 0, .inr (19, [.int 0, .ref (am 1), .ref (am 4), .ref (am 5), .ref (am 6), .ref (am 7), .ref (am 8), .int 0, .ref (am 9), .int 0, .int (-1), .int 100, .ref (am 10), .long 0, .int 0, .int 0, .int 0, .int 0, .long 0]))]) H ∧ va_D (va_A (WM cy am eda th) sz) ([(am 0, .inr (19, [.int 0, .ref (am 1), .ref (am 4), .ref (am 5), .ref (am 6), .ref (am 7), .ref (am 8), .int 0, .ref (am 9), .int 0, .int (-1), .int 100, .ref (am 10), .long 0, .int 0, .int 0, .int 0, .int 0, .long 0]))])) := by
  refine ro_ofW (cc := cX14_events) (maxL := 1) (ret := (some .int)) (lv := [(0, .ref (am 0))]) (by decide) rfl (Nat.le_of_ble_eq_true rfl) rfl ?_
  intro p e s m below meth c ls hx hb hr hml hown hlocks hname hts hv hl
  have hown : s.vm.findClass RX14 = some m.cls := hown
  obtain ⟨⟨⟨hsz, hP, hD0⟩, hK, hN⟩, hJS⟩ := hv
  subst hsz
  have hD := hD0.self (sz := s.heap.size)
  generalize hAe : va_A (WM cy am eda th) s.heap.size = A at hD hJS ⊢
  have hA : ∀ q : Nat, s.heap.size ≤ q → A q := fun q h => by rw [← hAe]; exact Or.inr h
  have hS : va_S A s.heap s.heap [] := va_S.rf
  refine lv_aload_n hx hb dX14_events_0 rfl (lv_at hl 0 rfl) ?_
  refine lv_iconst (v := 0) hx hb dX14_events_1 (by decide) ?_
  refine va_put (D := D) (ci := 19) (v := .int 0) (ty := .int) (C := RX14) (T := TX14) (N := 19) hx hb hts iw_X14_events_RX14 tyX14 tyX14_ok nmX14 hown hK hP hD hS 0 rfl rfl 0 (by decide) (hts (.fieldLink RX14 61 "HubcascadeModel" "thrown" "I") (by decide +kernel)) (fun _ h9 => h9) rfl (by decide +kernel) rfl rfl (Nat.le_of_ble_eq_true rfl) dX14_events_2 (fun H locs hP hD hS => ?_)
  have hP : va_P D vwCl (WM cy am eda 0) H := hP
  have hD : va_D A (WM cy am eda 0) := hD
  refine lv_aload_n hx hb dX14_events_5 rfl (lv_at hl 0 rfl) ?_
  refine va_get (D := D) (ci := 19) (v := .ref (am 7)) (C := RX14) (T := TX14) (N := 19) hx hb hts iw_X14_events_RX14 hown hK hP 0 rfl rfl 5 (by decide) (hts (.fieldLink RX14 28 "HubcascadeModel" "events" "Ljava/util/ArrayList;") (by decide +kernel)) (fun _ h9 => h9) rfl dX14_events_6 ?_
  refine ro_callV (As := []) (rest := []) ⟨hx, hb, hml, hown, hts⟩ (c_size l D cy _ 7 (am 7) eda 0 0 rfl) (cwV 0 hts gX14_events_Jx4a65c_size_8abf5 rfl rfl rfl (by decide +kernel) ⟨by decide, by decide⟩) hK hN hP hS (ci := 4) (q0 := 7) rfl rfl rfl rfl hl.1 rfl (Nat.le_of_ble_eq_true rfl) dX14_events_9 ⟨Nat.le_of_ble_eq_true rfl, Nat.le_of_ble_eq_true rfl⟩ (fun H locs hP hS => ?_)
  refine W.widen (k := 0) (n := 0) (Nat.le_of_ble_eq_true rfl) (Nat.le_of_ble_eq_true rfl) ?_
  have hP9 := hP.sub (ws' := [(am 0, .inr (19, [.int 0, .ref (am 1), .ref (am 4), .ref (am 5), .ref (am 6), .ref (am 7), .ref (am 8), .int 0, .ref (am 9), .int 0, .int (-1), .int 100, .ref (am 10), .long 0, .int 0, .int 0, .int 0, .int 0, .long 0]))]) [0] rfl
  have hD9 := hD.sub (ws' := [(am 0, .inr (19, [.int 0, .ref (am 1), .ref (am 4), .ref (am 5), .ref (am 6), .ref (am 7), .ref (am 8), .int 0, .ref (am 9), .int 0, .int (-1), .int 100, .ref (am 10), .long 0, .int 0, .int 0, .int 0, .int 0, .long 0]))]) [0] (by decide) rfl
  exact W.iret hx hb hr (fun t ht hW => ⟨rfl, ⟨by rw [ht]; exact hP9, hD9⟩, hS.F ht⟩) hS.2.2 dX14_events_12

theorem iw_X14_missed_RX14 : ∀ w ∈ u_ws RX14 TX14 19, w ∈ wsX14_missed := by decide +kernel
set_option maxRecDepth 100000 in
set_option maxHeartbeats 4000000 in
theorem a_missed (l : Launch) (D : va_G) (cy : Nat → ClassId) {ca : Nat} {ia : Nat → Nat} {am : Nat → Nat} {eda : Nat} {th : Int32} (sz : Nat) : MJ l D cy eda ca ia (WM cy am eda th) sz yX14_missed wsX14_missed 0 0 0 0 [.ref (am 0)] (some (.int 0)) (fun H => va_P D vwCl ([(am 0, .inr (19, [.int 0, .ref (am 1), .ref (am 4), .ref (am 5), .ref (am 6), .ref (am 7), .ref (am 8), .int 0, .ref (am 9), .int 0, .int (-1), .int 100, .ref (am 10), .long 0, .int 0, .int 0, .int 0, .int 0, .long 0]))]) H ∧ va_D (va_A (WM cy am eda th) sz) ([(am 0, .inr (19, [.int 0, .ref (am 1), .ref (am 4), .ref (am 5), .ref (am 6), .ref (am 7), .ref (am 8), .int 0, .ref (am 9), .int 0, .int (-1), .int 100, .ref (am 10), .long 0, .int 0, .int 0, .int 0, .int 0, .long 0]))])) := by
  refine ro_ofW (cc := cX14_missed) (maxL := 1) (ret := (some .int)) (lv := [(0, .ref (am 0))]) (by decide) rfl (Nat.le_of_ble_eq_true rfl) rfl ?_
  intro p e s m below meth c ls hx hb hr hml hown hlocks hname hts hv hl
  have hown : s.vm.findClass RX14 = some m.cls := hown
  obtain ⟨⟨⟨hsz, hP, hD0⟩, hK, hN⟩, hJS⟩ := hv
  subst hsz
  have hD := hD0.self (sz := s.heap.size)
  generalize hAe : va_A (WM cy am eda th) s.heap.size = A at hD hJS ⊢
  have hA : ∀ q : Nat, s.heap.size ≤ q → A q := fun q h => by rw [← hAe]; exact Or.inr h
  have hS : va_S A s.heap s.heap [] := va_S.rf
  refine lv_aload_n hx hb dX14_missed_0 rfl (lv_at hl 0 rfl) ?_
  refine lv_iconst (v := 0) hx hb dX14_missed_1 (by decide) ?_
  refine va_put (D := D) (ci := 19) (v := .int 0) (ty := .int) (C := RX14) (T := TX14) (N := 19) hx hb hts iw_X14_missed_RX14 tyX14 tyX14_ok nmX14 hown hK hP hD hS 0 rfl rfl 0 (by decide) (hts (.fieldLink RX14 61 "HubcascadeModel" "thrown" "I") (by decide +kernel)) (fun _ h9 => h9) rfl (by decide +kernel) rfl rfl (Nat.le_of_ble_eq_true rfl) dX14_missed_2 (fun H locs hP hD hS => ?_)
  have hP : va_P D vwCl (WM cy am eda 0) H := hP
  have hD : va_D A (WM cy am eda 0) := hD
  refine lv_aload_n hx hb dX14_missed_5 rfl (lv_at hl 0 rfl) ?_
  refine va_get (D := D) (ci := 19) (v := .int 0) (C := RX14) (T := TX14) (N := 19) hx hb hts iw_X14_missed_RX14 hown hK hP 0 rfl rfl 7 (by decide) (hts (.fieldLink RX14 287 "HubcascadeModel" "missed" "I") (by decide +kernel)) (fun _ h9 => h9) rfl dX14_missed_6 ?_
  refine W.widen (k := 0) (n := 0) (Nat.le_of_ble_eq_true rfl) (Nat.le_of_ble_eq_true rfl) ?_
  have hP9 := hP.sub (ws' := [(am 0, .inr (19, [.int 0, .ref (am 1), .ref (am 4), .ref (am 5), .ref (am 6), .ref (am 7), .ref (am 8), .int 0, .ref (am 9), .int 0, .int (-1), .int 100, .ref (am 10), .long 0, .int 0, .int 0, .int 0, .int 0, .long 0]))]) [0] rfl
  have hD9 := hD.sub (ws' := [(am 0, .inr (19, [.int 0, .ref (am 1), .ref (am 4), .ref (am 5), .ref (am 6), .ref (am 7), .ref (am 8), .int 0, .ref (am 9), .int 0, .int (-1), .int 100, .ref (am 10), .long 0, .int 0, .int 0, .int 0, .int 0, .long 0]))]) [0] (by decide) rfl
  exact W.iret hx hb hr (fun t ht hW => ⟨rfl, ⟨by rw [ht]; exact hP9, hD9⟩, hS.F ht⟩) hS.2.2 dX14_missed_9

theorem iw_X14_got_RX14 : ∀ w ∈ u_ws RX14 TX14 19, w ∈ wsX14_got := by decide +kernel
set_option maxRecDepth 100000 in
set_option maxHeartbeats 4000000 in
theorem a_got (l : Launch) (D : va_G) (cy : Nat → ClassId) {ca : Nat} {ia : Nat → Nat} {am : Nat → Nat} {eda : Nat} {th : Int32} (sz : Nat) : MJ l D cy eda ca ia (WM cy am eda th) sz yX14_got wsX14_got 1 0 0 20 [.ref (am 0)] (some (.int 0)) (fun H => va_P D vwCl ([(am 0, .inr (19, [.int 0, .ref (am 1), .ref (am 4), .ref (am 5), .ref (am 6), .ref (am 7), .ref (am 8), .int 0, .ref (am 9), .int 0, .int (-1), .int 100, .ref (am 10), .long 0, .int 0, .int 0, .int 0, .int 0, .long 0]))]) H ∧ va_D (va_A (WM cy am eda th) sz) ([(am 0, .inr (19, [.int 0, .ref (am 1), .ref (am 4), .ref (am 5), .ref (am 6), .ref (am 7), .ref (am 8), .int 0, .ref (am 9), .int 0, .int (-1), .int 100, .ref (am 10), .long 0, .int 0, .int 0, .int 0, .int 0, .long 0]))])) := by
  refine ro_ofW (cc := cX14_got) (maxL := 1) (ret := (some .int)) (lv := [(0, .ref (am 0))]) (by decide) rfl (Nat.le_of_ble_eq_true rfl) rfl ?_
  intro p e s m below meth c ls hx hb hr hml hown hlocks hname hts hv hl
  have hown : s.vm.findClass RX14 = some m.cls := hown
  obtain ⟨⟨⟨hsz, hP, hD0⟩, hK, hN⟩, hJS⟩ := hv
  subst hsz
  have hD := hD0.self (sz := s.heap.size)
  generalize hAe : va_A (WM cy am eda th) s.heap.size = A at hD hJS ⊢
  have hA : ∀ q : Nat, s.heap.size ≤ q → A q := fun q h => by rw [← hAe]; exact Or.inr h
  have hS : va_S A s.heap s.heap [] := va_S.rf
  refine lv_aload_n hx hb dX14_got_0 rfl (lv_at hl 0 rfl) ?_
  refine lv_iconst (v := 0) hx hb dX14_got_1 (by decide) ?_
  refine va_put (D := D) (ci := 19) (v := .int 0) (ty := .int) (C := RX14) (T := TX14) (N := 19) hx hb hts iw_X14_got_RX14 tyX14 tyX14_ok nmX14 hown hK hP hD hS 0 rfl rfl 0 (by decide) (hts (.fieldLink RX14 61 "HubcascadeModel" "thrown" "I") (by decide +kernel)) (fun _ h9 => h9) rfl (by decide +kernel) rfl rfl (Nat.le_of_ble_eq_true rfl) dX14_got_2 (fun H locs hP hD hS => ?_)
  have hP : va_P D vwCl (WM cy am eda 0) H := hP
  have hD : va_D A (WM cy am eda 0) := hD
  refine lv_aload_n hx hb dX14_got_5 rfl (lv_at hl 0 rfl) ?_
  refine va_get (D := D) (ci := 19) (v := .ref (am 9)) (C := RX14) (T := TX14) (N := 19) hx hb hts iw_X14_got_RX14 hown hK hP 0 rfl rfl 8 (by decide) (hts (.fieldLink RX14 35 "HubcascadeModel" "got" "Ljava/util/ArrayList;") (by decide +kernel)) (fun _ h9 => h9) rfl dX14_got_6 ?_
  refine ro_callV (As := []) (rest := []) ⟨hx, hb, hml, hown, hts⟩ (c_size l D cy _ 9 (am 9) eda 0 0 rfl) (cwV 0 hts gX14_got_Jx4a65c_size_8abf5 rfl rfl rfl (by decide +kernel) ⟨by decide, by decide⟩) hK hN hP hS (ci := 4) (q0 := 9) rfl rfl rfl rfl hl.1 rfl (Nat.le_of_ble_eq_true rfl) dX14_got_9 ⟨Nat.le_of_ble_eq_true rfl, Nat.le_of_ble_eq_true rfl⟩ (fun H locs hP hS => ?_)
  refine W.widen (k := 0) (n := 0) (Nat.le_of_ble_eq_true rfl) (Nat.le_of_ble_eq_true rfl) ?_
  have hP9 := hP.sub (ws' := [(am 0, .inr (19, [.int 0, .ref (am 1), .ref (am 4), .ref (am 5), .ref (am 6), .ref (am 7), .ref (am 8), .int 0, .ref (am 9), .int 0, .int (-1), .int 100, .ref (am 10), .long 0, .int 0, .int 0, .int 0, .int 0, .long 0]))]) [0] rfl
  have hD9 := hD.sub (ws' := [(am 0, .inr (19, [.int 0, .ref (am 1), .ref (am 4), .ref (am 5), .ref (am 6), .ref (am 7), .ref (am 8), .int 0, .ref (am 9), .int 0, .int (-1), .int 100, .ref (am 10), .long 0, .int 0, .int 0, .int 0, .int 0, .long 0]))]) [0] (by decide) rfl
  exact W.iret hx hb hr (fun t ht hW => ⟨rfl, ⟨by rw [ht]; exact hP9, hD9⟩, hS.F ht⟩) hS.2.2 dX14_got_12

set_option maxRecDepth 100000 in
set_option maxHeartbeats 4000000 in
theorem a_taken_1 (l : Launch) (D : va_G) (cy : Nat → ClassId) {ca : Nat} {ia : Nat → Nat} {am : Nat → Nat} {eda : Nat} {th : Int32} (sz : Nat) (d n : Int32) : MJ l D cy eda ca ia (WM cy am eda th) sz yX14_taken_ wsX14_taken_ 5 0 0 109 [.ref (am 0), .int d, .int n] (some (.int 0)) (fun H => va_P D vwCl ([(am 0, .inr (19, [.int 1, .ref (am 1), .ref (am 4), .ref (am 5), .ref (am 6), .ref (am 7), .ref (am 8), .int 0, .ref (am 9), .int 0, .int (-1), .int 100, .ref (am 10), .long 0, .int 0, .int 0, .int 0, .int 0, .long 0]))]) H ∧ va_D (va_A (WM cy am eda th) sz) ([(am 0, .inr (19, [.int 1, .ref (am 1), .ref (am 4), .ref (am 5), .ref (am 6), .ref (am 7), .ref (am 8), .int 0, .ref (am 9), .int 0, .int (-1), .int 100, .ref (am 10), .long 0, .int 0, .int 0, .int 0, .int 0, .long 0]))])) := by
  refine ro_ofW (cc := cX14_taken_) (maxL := 3) (ret := (some .int)) (lv := [(0, .ref (am 0)), (1, .int d), (2, .int n)]) (by decide) rfl (Nat.le_of_ble_eq_true rfl) rfl ?_
  intro p e s m below meth c ls hx hb hr hml hown hlocks hname hts hv hl
  have hown : s.vm.findClass RX14 = some m.cls := hown
  obtain ⟨⟨⟨hsz, hP, hD0⟩, hK, hN⟩, hJS⟩ := hv
  subst hsz
  have hD := hD0.self (sz := s.heap.size)
  generalize hAe : va_A (WM cy am eda th) s.heap.size = A at hD hJS ⊢
  have hA : ∀ q : Nat, s.heap.size ≤ q → A q := fun q h => by rw [← hAe]; exact Or.inr h
  have hS : va_S A s.heap s.heap [] := va_S.rf
  refine lv_aload_n hx hb dX14_taken__0 rfl (lv_at hl 0 rfl) ?_
  refine lv_iload_n hx hb dX14_taken__1 rfl (lv_at hl 1 rfl) ?_
  refine lv_iload_n hx hb dX14_taken__2 rfl (lv_at hl 2 rfl) ?_
  refine lv_iconst (v := 0) hx hb dX14_taken__3 (by decide) ?_
  refine me_callV (wr := []) (wc := WM cy am eda th) (As := [.int d, .int n, .int 0]) (rest := []) ⟨hx, hb, hml, hown, hts⟩ (m_noEnd l D cy  _ d n 0 ) (cwV 3 hts gX14_taken__X14_noEnd rfl rfl rfl (by decide +kernel) ⟨by decide, by decide⟩) hK hN hP hD hS hA (ci := 19) (q0 := 0) rfl rfl rfl rfl hl.1 rfl (Nat.le_of_ble_eq_true rfl) dX14_taken__4 ⟨Nat.le_of_ble_eq_true rfl, Nat.le_of_ble_eq_true rfl⟩ (fun H locs hB hJ hS => ?_)
  obtain ⟨hP1, hD1⟩ := hB
  obtain ⟨hP, hD⟩ := hJ _ hP1 hD1
  have hP : va_P D vwCl (WM cy am eda 1) H := hP
  have hD : va_D A (WM cy am eda 1) := hD
  refine lv_if_eq (tgt := 14) hx hb dX14_taken__7 (by decide) (fun c => absurd c (by decide)) (fun _ => ?_)
  refine lv_iconst (v := 0) hx hb dX14_taken__10 (by decide) ?_
  refine lv_goto (tgt := 36) hx hb dX14_taken__11 (by decide) ?_
  refine W.widen (k := 0) (n := 0) (Nat.le_of_ble_eq_true rfl) (Nat.le_of_ble_eq_true rfl) ?_
  have hP9 := hP.sub (ws' := [(am 0, .inr (19, [.int 1, .ref (am 1), .ref (am 4), .ref (am 5), .ref (am 6), .ref (am 7), .ref (am 8), .int 0, .ref (am 9), .int 0, .int (-1), .int 100, .ref (am 10), .long 0, .int 0, .int 0, .int 0, .int 0, .long 0]))]) [0] rfl
  have hD9 := hD.sub (ws' := [(am 0, .inr (19, [.int 1, .ref (am 1), .ref (am 4), .ref (am 5), .ref (am 6), .ref (am 7), .ref (am 8), .int 0, .ref (am 9), .int 0, .int (-1), .int 100, .ref (am 10), .long 0, .int 0, .int 0, .int 0, .int 0, .long 0]))]) [0] (by decide) rfl
  exact W.iret hx hb hr (fun t ht hW => ⟨rfl, ⟨by rw [ht]; exact hP9, hD9⟩, hS.F ht⟩) hS.2.2 dX14_taken__36

set_option maxRecDepth 100000 in
set_option maxHeartbeats 4000000 in
theorem a_waiting_1 (l : Launch) (D : va_G) (cy : Nat → ClassId) {ca : Nat} {ia : Nat → Nat} {am : Nat → Nat} {eda : Nat} {th : Int32} (sz : Nat) (d n : Int32) : MJ l D cy eda ca ia (WM cy am eda th) sz yX14_waiting wsX14_waiting 5 0 0 109 [.ref (am 0), .int d, .int n] (some (.int 0)) (fun H => va_P D vwCl ([(am 0, .inr (19, [.int 1, .ref (am 1), .ref (am 4), .ref (am 5), .ref (am 6), .ref (am 7), .ref (am 8), .int 0, .ref (am 9), .int 0, .int (-1), .int 100, .ref (am 10), .long 0, .int 0, .int 0, .int 0, .int 0, .long 0]))]) H ∧ va_D (va_A (WM cy am eda th) sz) ([(am 0, .inr (19, [.int 1, .ref (am 1), .ref (am 4), .ref (am 5), .ref (am 6), .ref (am 7), .ref (am 8), .int 0, .ref (am 9), .int 0, .int (-1), .int 100, .ref (am 10), .long 0, .int 0, .int 0, .int 0, .int 0, .long 0]))])) := by
  refine ro_ofW (cc := cX14_waiting) (maxL := 3) (ret := (some .int)) (lv := [(0, .ref (am 0)), (1, .int d), (2, .int n)]) (by decide) rfl (Nat.le_of_ble_eq_true rfl) rfl ?_
  intro p e s m below meth c ls hx hb hr hml hown hlocks hname hts hv hl
  have hown : s.vm.findClass RX14 = some m.cls := hown
  obtain ⟨⟨⟨hsz, hP, hD0⟩, hK, hN⟩, hJS⟩ := hv
  subst hsz
  have hD := hD0.self (sz := s.heap.size)
  generalize hAe : va_A (WM cy am eda th) s.heap.size = A at hD hJS ⊢
  have hA : ∀ q : Nat, s.heap.size ≤ q → A q := fun q h => by rw [← hAe]; exact Or.inr h
  have hS : va_S A s.heap s.heap [] := va_S.rf
  refine lv_aload_n hx hb dX14_waiting_0 rfl (lv_at hl 0 rfl) ?_
  refine lv_iload_n hx hb dX14_waiting_1 rfl (lv_at hl 1 rfl) ?_
  refine lv_iload_n hx hb dX14_waiting_2 rfl (lv_at hl 2 rfl) ?_
  refine lv_iconst (v := 1) hx hb dX14_waiting_3 (by decide) ?_
  refine me_callV (wr := []) (wc := WM cy am eda th) (As := [.int d, .int n, .int 1]) (rest := []) ⟨hx, hb, hml, hown, hts⟩ (m_noEnd l D cy  _ d n 1 ) (cwV 3 hts gX14_waiting_X14_noEnd rfl rfl rfl (by decide +kernel) ⟨by decide, by decide⟩) hK hN hP hD hS hA (ci := 19) (q0 := 0) rfl rfl rfl rfl hl.1 rfl (Nat.le_of_ble_eq_true rfl) dX14_waiting_4 ⟨Nat.le_of_ble_eq_true rfl, Nat.le_of_ble_eq_true rfl⟩ (fun H locs hB hJ hS => ?_)
  obtain ⟨hP1, hD1⟩ := hB
  obtain ⟨hP, hD⟩ := hJ _ hP1 hD1
  have hP : va_P D vwCl (WM cy am eda 1) H := hP
  have hD : va_D A (WM cy am eda 1) := hD
  refine lv_if_eq (tgt := 14) hx hb dX14_waiting_7 (by decide) (fun c => absurd c (by decide)) (fun _ => ?_)
  refine lv_iconst (v := 0) hx hb dX14_waiting_10 (by decide) ?_
  refine lv_goto (tgt := 36) hx hb dX14_waiting_11 (by decide) ?_
  refine W.widen (k := 0) (n := 0) (Nat.le_of_ble_eq_true rfl) (Nat.le_of_ble_eq_true rfl) ?_
  have hP9 := hP.sub (ws' := [(am 0, .inr (19, [.int 1, .ref (am 1), .ref (am 4), .ref (am 5), .ref (am 6), .ref (am 7), .ref (am 8), .int 0, .ref (am 9), .int 0, .int (-1), .int 100, .ref (am 10), .long 0, .int 0, .int 0, .int 0, .int 0, .long 0]))]) [0] rfl
  have hD9 := hD.sub (ws' := [(am 0, .inr (19, [.int 1, .ref (am 1), .ref (am 4), .ref (am 5), .ref (am 6), .ref (am 7), .ref (am 8), .int 0, .ref (am 9), .int 0, .int (-1), .int 100, .ref (am 10), .long 0, .int 0, .int 0, .int 0, .int 0, .long 0]))]) [0] (by decide) rfl
  exact W.iret hx hb hr (fun t ht hW => ⟨rfl, ⟨by rw [ht]; exact hP9, hD9⟩, hS.F ht⟩) hS.2.2 dX14_waiting_36

set_option maxRecDepth 100000 in
set_option maxHeartbeats 4000000 in
theorem a_takenAt_1 (l : Launch) (D : va_G) (cy : Nat → ClassId) {ca : Nat} {ia : Nat → Nat} {am : Nat → Nat} {eda : Nat} {th : Int32} (sz : Nat) (d n z : Int32) : MJ l D cy eda ca ia (WM cy am eda th) sz yX14_takenAt wsX14_takenAt 5 0 0 109 [.ref (am 0), .int d, .int n, .int z] (some (.int 0)) (fun H => va_P D vwCl ([(am 0, .inr (19, [.int 1, .ref (am 1), .ref (am 4), .ref (am 5), .ref (am 6), .ref (am 7), .ref (am 8), .int 0, .ref (am 9), .int 0, .int (-1), .int 100, .ref (am 10), .long 0, .int 0, .int 0, .int 0, .int 0, .long 0]))]) H ∧ va_D (va_A (WM cy am eda th) sz) ([(am 0, .inr (19, [.int 1, .ref (am 1), .ref (am 4), .ref (am 5), .ref (am 6), .ref (am 7), .ref (am 8), .int 0, .ref (am 9), .int 0, .int (-1), .int 100, .ref (am 10), .long 0, .int 0, .int 0, .int 0, .int 0, .long 0]))])) := by
  refine ro_ofW (cc := cX14_takenAt) (maxL := 4) (ret := (some .int)) (lv := [(0, .ref (am 0)), (1, .int d), (2, .int n), (3, .int z)]) (by decide) rfl (Nat.le_of_ble_eq_true rfl) rfl ?_
  intro p e s m below meth c ls hx hb hr hml hown hlocks hname hts hv hl
  have hown : s.vm.findClass RX14 = some m.cls := hown
  obtain ⟨⟨⟨hsz, hP, hD0⟩, hK, hN⟩, hJS⟩ := hv
  subst hsz
  have hD := hD0.self (sz := s.heap.size)
  generalize hAe : va_A (WM cy am eda th) s.heap.size = A at hD hJS ⊢
  have hA : ∀ q : Nat, s.heap.size ≤ q → A q := fun q h => by rw [← hAe]; exact Or.inr h
  have hS : va_S A s.heap s.heap [] := va_S.rf
  refine lv_aload_n hx hb dX14_takenAt_0 rfl (lv_at hl 0 rfl) ?_
  refine lv_iload_n hx hb dX14_takenAt_1 rfl (lv_at hl 1 rfl) ?_
  refine lv_iload_n hx hb dX14_takenAt_2 rfl (lv_at hl 2 rfl) ?_
  refine lv_iconst (v := 0) hx hb dX14_takenAt_3 (by decide) ?_
  refine me_callV (wr := []) (wc := WM cy am eda th) (As := [.int d, .int n, .int 0]) (rest := []) ⟨hx, hb, hml, hown, hts⟩ (m_noEnd l D cy  _ d n 0 ) (cwV 3 hts gX14_takenAt_X14_noEnd rfl rfl rfl (by decide +kernel) ⟨by decide, by decide⟩) hK hN hP hD hS hA (ci := 19) (q0 := 0) rfl rfl rfl rfl hl.1 rfl (Nat.le_of_ble_eq_true rfl) dX14_takenAt_4 ⟨Nat.le_of_ble_eq_true rfl, Nat.le_of_ble_eq_true rfl⟩ (fun H locs hB hJ hS => ?_)
  obtain ⟨hP1, hD1⟩ := hB
  obtain ⟨hP, hD⟩ := hJ _ hP1 hD1
  have hP : va_P D vwCl (WM cy am eda 1) H := hP
  have hD : va_D A (WM cy am eda 1) := hD
  refine lv_if_eq (tgt := 14) hx hb dX14_takenAt_7 (by decide) (fun c => absurd c (by decide)) (fun _ => ?_)
  refine lv_iconst (v := 0) hx hb dX14_takenAt_10 (by decide) ?_
  refine lv_goto (tgt := 39) hx hb dX14_takenAt_11 (by decide) ?_
  refine W.widen (k := 0) (n := 0) (Nat.le_of_ble_eq_true rfl) (Nat.le_of_ble_eq_true rfl) ?_
  have hP9 := hP.sub (ws' := [(am 0, .inr (19, [.int 1, .ref (am 1), .ref (am 4), .ref (am 5), .ref (am 6), .ref (am 7), .ref (am 8), .int 0, .ref (am 9), .int 0, .int (-1), .int 100, .ref (am 10), .long 0, .int 0, .int 0, .int 0, .int 0, .long 0]))]) [0] rfl
  have hD9 := hD.sub (ws' := [(am 0, .inr (19, [.int 1, .ref (am 1), .ref (am 4), .ref (am 5), .ref (am 6), .ref (am 7), .ref (am 8), .int 0, .ref (am 9), .int 0, .int (-1), .int 100, .ref (am 10), .long 0, .int 0, .int 0, .int 0, .int 0, .long 0]))]) [0] (by decide) rfl
  exact W.iret hx hb hr (fun t ht hW => ⟨rfl, ⟨by rw [ht]; exact hP9, hD9⟩, hS.F ht⟩) hS.2.2 dX14_takenAt_39

theorem iw_X14_gotAt_RX14 : ∀ w ∈ u_ws RX14 TX14 19, w ∈ wsX14_gotAt := by decide +kernel
set_option maxRecDepth 100000 in
set_option maxHeartbeats 4000000 in
theorem a_gotAt_1 (l : Launch) (D : va_G) (cy : Nat → ClassId) {ca : Nat} {ia : Nat → Nat} {am : Nat → Nat} {eda : Nat} {th : Int32} (sz : Nat) (n : Int32) : MJ l D cy eda ca ia (WM cy am eda th) sz yX14_gotAt wsX14_gotAt 2 0 0 45 [.ref (am 0), .int n] (some (.int 0)) (fun H => va_P D vwCl ([(am 0, .inr (19, [.int 1, .ref (am 1), .ref (am 4), .ref (am 5), .ref (am 6), .ref (am 7), .ref (am 8), .int 0, .ref (am 9), .int 0, .int (-1), .int 100, .ref (am 10), .long 0, .int 0, .int 0, .int 0, .int 0, .long 0]))]) H ∧ va_D (va_A (WM cy am eda th) sz) ([(am 0, .inr (19, [.int 1, .ref (am 1), .ref (am 4), .ref (am 5), .ref (am 6), .ref (am 7), .ref (am 8), .int 0, .ref (am 9), .int 0, .int (-1), .int 100, .ref (am 10), .long 0, .int 0, .int 0, .int 0, .int 0, .long 0]))])) := by
  refine ro_ofW (cc := cX14_gotAt) (maxL := 2) (ret := (some .int)) (lv := [(0, .ref (am 0)), (1, .int n)]) (by decide) rfl (Nat.le_of_ble_eq_true rfl) rfl ?_
  intro p e s m below meth c ls hx hb hr hml hown hlocks hname hts hv hl
  have hown : s.vm.findClass RX14 = some m.cls := hown
  obtain ⟨⟨⟨hsz, hP, hD0⟩, hK, hN⟩, hJS⟩ := hv
  subst hsz
  have hD := hD0.self (sz := s.heap.size)
  generalize hAe : va_A (WM cy am eda th) s.heap.size = A at hD hJS ⊢
  have hA : ∀ q : Nat, s.heap.size ≤ q → A q := fun q h => by rw [← hAe]; exact Or.inr h
  have hS : va_S A s.heap s.heap [] := va_S.rf
  refine lv_aload_n hx hb dX14_gotAt_0 rfl (lv_at hl 0 rfl) ?_
  refine lv_aload_n hx hb dX14_gotAt_1 rfl (lv_at hl 0 rfl) ?_
  refine va_get (D := D) (ci := 19) (v := .ref (am 9)) (C := RX14) (T := TX14) (N := 19) hx hb hts iw_X14_gotAt_RX14 hown hK hP 0 rfl rfl 8 (by decide) (hts (.fieldLink RX14 35 "HubcascadeModel" "got" "Ljava/util/ArrayList;") (by decide +kernel)) (fun _ h9 => h9) rfl dX14_gotAt_2 ?_
  refine lv_iload_n hx hb dX14_gotAt_5 rfl (lv_at hl 1 rfl) ?_
  refine lv_iconst (v := 1) hx hb dX14_gotAt_6 (by decide) ?_
  refine me_callV (wr := []) (wc := WM cy am eda th) (As := [.ref (am 9), .int n, .int 1]) (rest := []) ⟨hx, hb, hml, hown, hts⟩ (m_lastOf l D cy  _ n ) (cwV 3 hts gX14_gotAt_X14_lastOf rfl rfl rfl (by decide +kernel) ⟨by decide, by decide⟩) hK hN hP hD hS hA (ci := 19) (q0 := 0) rfl rfl rfl rfl hl.1 rfl (Nat.le_of_ble_eq_true rfl) dX14_gotAt_7 ⟨Nat.le_of_ble_eq_true rfl, Nat.le_of_ble_eq_true rfl⟩ (fun H locs hB hJ hS => ?_)
  obtain ⟨hP1, hD1⟩ := hB
  obtain ⟨hP, hD⟩ := hJ _ hP1 hD1
  have hP : va_P D vwCl (WM cy am eda 1) H := hP
  have hD : va_D A (WM cy am eda 1) := hD
  refine W.widen (k := 0) (n := 0) (Nat.le_of_ble_eq_true rfl) (Nat.le_of_ble_eq_true rfl) ?_
  have hP9 := hP.sub (ws' := [(am 0, .inr (19, [.int 1, .ref (am 1), .ref (am 4), .ref (am 5), .ref (am 6), .ref (am 7), .ref (am 8), .int 0, .ref (am 9), .int 0, .int (-1), .int 100, .ref (am 10), .long 0, .int 0, .int 0, .int 0, .int 0, .long 0]))]) [0] rfl
  have hD9 := hD.sub (ws' := [(am 0, .inr (19, [.int 1, .ref (am 1), .ref (am 4), .ref (am 5), .ref (am 6), .ref (am 7), .ref (am 8), .int 0, .ref (am 9), .int 0, .int (-1), .int 100, .ref (am 10), .long 0, .int 0, .int 0, .int 0, .int 0, .long 0]))]) [0] (by decide) rfl
  exact W.iret hx hb hr (fun t ht hW => ⟨rfl, ⟨by rw [ht]; exact hP9, hD9⟩, hS.F ht⟩) hS.2.2 dX14_gotAt_10

theorem iw_X14_packets_RX14 : ∀ w ∈ u_ws RX14 TX14 19, w ∈ wsX14_packets := by decide +kernel
set_option maxRecDepth 100000 in
set_option maxHeartbeats 4000000 in
theorem a_packets_t (l : Launch) (D : va_G) (cy : Nat → ClassId) {ca : Nat} {ia : Nat → Nat} {am : Nat → Nat} {eda : Nat} {th : Int32} (sz : Nat) : MJ l D cy eda ca ia (WM cy am eda th) sz yX14_packets wsX14_packets 0 0 0 0 [.ref (am 0), .int 116] (some (.int 0)) (fun H => va_P D vwCl ([(am 0, .inr (19, [.int 0, .ref (am 1), .ref (am 4), .ref (am 5), .ref (am 6), .ref (am 7), .ref (am 8), .int 0, .ref (am 9), .int 0, .int (-1), .int 100, .ref (am 10), .long 0, .int 0, .int 0, .int 0, .int 0, .long 0]))]) H ∧ va_D (va_A (WM cy am eda th) sz) ([(am 0, .inr (19, [.int 0, .ref (am 1), .ref (am 4), .ref (am 5), .ref (am 6), .ref (am 7), .ref (am 8), .int 0, .ref (am 9), .int 0, .int (-1), .int 100, .ref (am 10), .long 0, .int 0, .int 0, .int 0, .int 0, .long 0]))])) := by
  refine ro_ofW (cc := cX14_packets) (maxL := 2) (ret := (some .int)) (lv := [(0, .ref (am 0)), (1, .int 116)]) (by decide) rfl (Nat.le_of_ble_eq_true rfl) rfl ?_
  intro p e s m below meth c ls hx hb hr hml hown hlocks hname hts hv hl
  have hown : s.vm.findClass RX14 = some m.cls := hown
  obtain ⟨⟨⟨hsz, hP, hD0⟩, hK, hN⟩, hJS⟩ := hv
  subst hsz
  have hD := hD0.self (sz := s.heap.size)
  generalize hAe : va_A (WM cy am eda th) s.heap.size = A at hD hJS ⊢
  have hA : ∀ q : Nat, s.heap.size ≤ q → A q := fun q h => by rw [← hAe]; exact Or.inr h
  have hS : va_S A s.heap s.heap [] := va_S.rf
  refine lv_aload_n hx hb dX14_packets_0 rfl (lv_at hl 0 rfl) ?_
  refine lv_iload_n hx hb dX14_packets_1 rfl (lv_at hl 1 rfl) ?_
  refine lv_bipush (v := 116) hx hb dX14_packets_2 (by decide) ?_
  refine lv_icmp_eq (tgt := 19) hx hb dX14_packets_4 (by decide) (fun _ => ?_) (fun c => absurd (by decide) c)
  refine lv_iconst (v := 0) hx hb dX14_packets_19 (by decide) ?_
  refine lv_goto (tgt := 24) hx hb dX14_packets_20 (by decide) ?_
  refine va_put (D := D) (ci := 19) (v := .int 0) (ty := .int) (C := RX14) (T := TX14) (N := 19) hx hb hts iw_X14_packets_RX14 tyX14 tyX14_ok nmX14 hown hK hP hD hS 0 rfl rfl 0 (by decide) (hts (.fieldLink RX14 61 "HubcascadeModel" "thrown" "I") (by decide +kernel)) (fun _ h9 => h9) rfl (by decide +kernel) rfl rfl (Nat.le_of_ble_eq_true rfl) dX14_packets_24 (fun H locs hP hD hS => ?_)
  have hP : va_P D vwCl (WM cy am eda 0) H := hP
  have hD : va_D A (WM cy am eda 0) := hD
  refine lv_aload_n hx hb dX14_packets_27 rfl (lv_at hl 0 rfl) ?_
  refine va_get (D := D) (ci := 19) (v := .int 0) (C := RX14) (T := TX14) (N := 19) hx hb hts iw_X14_packets_RX14 hown hK hP 0 rfl rfl 0 (by decide) (hts (.fieldLink RX14 61 "HubcascadeModel" "thrown" "I") (by decide +kernel)) (fun _ h9 => h9) rfl dX14_packets_28 ?_
  refine lv_if_le (tgt := 38) hx hb dX14_packets_31 (by decide) (fun _ => ?_) (fun c => absurd (by decide) c)
  refine lv_iload_n hx hb dX14_packets_38 rfl (lv_at hl 1 rfl) ?_
  refine lv_bipush (v := 116) hx hb dX14_packets_39 (by decide) ?_
  refine lv_icmp_ne (tgt := 51) hx hb dX14_packets_41 (by decide) (fun c => absurd (by decide) c) (fun _ => ?_)
  refine lv_aload_n hx hb dX14_packets_44 rfl (lv_at hl 0 rfl) ?_
  refine va_get (D := D) (ci := 19) (v := .int 0) (C := RX14) (T := TX14) (N := 19) hx hb hts iw_X14_packets_RX14 hown hK hP 0 rfl rfl 14 (by decide) (hts (.fieldLink RX14 163 "HubcascadeModel" "tokens" "I") (by decide +kernel)) (fun _ h9 => h9) rfl dX14_packets_45 ?_
  refine lv_goto (tgt := 68) hx hb dX14_packets_48 (by decide) ?_
  refine W.widen (k := 0) (n := 0) (Nat.le_of_ble_eq_true rfl) (Nat.le_of_ble_eq_true rfl) ?_
  have hP9 := hP.sub (ws' := [(am 0, .inr (19, [.int 0, .ref (am 1), .ref (am 4), .ref (am 5), .ref (am 6), .ref (am 7), .ref (am 8), .int 0, .ref (am 9), .int 0, .int (-1), .int 100, .ref (am 10), .long 0, .int 0, .int 0, .int 0, .int 0, .long 0]))]) [0] rfl
  have hD9 := hD.sub (ws' := [(am 0, .inr (19, [.int 0, .ref (am 1), .ref (am 4), .ref (am 5), .ref (am 6), .ref (am 7), .ref (am 8), .int 0, .ref (am 9), .int 0, .int (-1), .int 100, .ref (am 10), .long 0, .int 0, .int 0, .int 0, .int 0, .long 0]))]) [0] (by decide) rfl
  exact W.iret hx hb hr (fun t ht hW => ⟨rfl, ⟨by rw [ht]; exact hP9, hD9⟩, hS.F ht⟩) hS.2.2 dX14_packets_68

set_option maxRecDepth 100000 in
set_option maxHeartbeats 4000000 in
theorem a_packets_d (l : Launch) (D : va_G) (cy : Nat → ClassId) {ca : Nat} {ia : Nat → Nat} {am : Nat → Nat} {eda : Nat} {th : Int32} (sz : Nat) : MJ l D cy eda ca ia (WM cy am eda th) sz yX14_packets wsX14_packets 0 0 0 0 [.ref (am 0), .int 100] (some (.int 0)) (fun H => va_P D vwCl ([(am 0, .inr (19, [.int 0, .ref (am 1), .ref (am 4), .ref (am 5), .ref (am 6), .ref (am 7), .ref (am 8), .int 0, .ref (am 9), .int 0, .int (-1), .int 100, .ref (am 10), .long 0, .int 0, .int 0, .int 0, .int 0, .long 0]))]) H ∧ va_D (va_A (WM cy am eda th) sz) ([(am 0, .inr (19, [.int 0, .ref (am 1), .ref (am 4), .ref (am 5), .ref (am 6), .ref (am 7), .ref (am 8), .int 0, .ref (am 9), .int 0, .int (-1), .int 100, .ref (am 10), .long 0, .int 0, .int 0, .int 0, .int 0, .long 0]))])) := by
  refine ro_ofW (cc := cX14_packets) (maxL := 2) (ret := (some .int)) (lv := [(0, .ref (am 0)), (1, .int 100)]) (by decide) rfl (Nat.le_of_ble_eq_true rfl) rfl ?_
  intro p e s m below meth c ls hx hb hr hml hown hlocks hname hts hv hl
  have hown : s.vm.findClass RX14 = some m.cls := hown
  obtain ⟨⟨⟨hsz, hP, hD0⟩, hK, hN⟩, hJS⟩ := hv
  subst hsz
  have hD := hD0.self (sz := s.heap.size)
  generalize hAe : va_A (WM cy am eda th) s.heap.size = A at hD hJS ⊢
  have hA : ∀ q : Nat, s.heap.size ≤ q → A q := fun q h => by rw [← hAe]; exact Or.inr h
  have hS : va_S A s.heap s.heap [] := va_S.rf
  refine lv_aload_n hx hb dX14_packets_0 rfl (lv_at hl 0 rfl) ?_
  refine lv_iload_n hx hb dX14_packets_1 rfl (lv_at hl 1 rfl) ?_
  refine lv_bipush (v := 116) hx hb dX14_packets_2 (by decide) ?_
  refine lv_icmp_eq (tgt := 19) hx hb dX14_packets_4 (by decide) (fun c => absurd c (by decide)) (fun _ => ?_)
  refine lv_iload_n hx hb dX14_packets_7 rfl (lv_at hl 1 rfl) ?_
  refine lv_bipush (v := 100) hx hb dX14_packets_8 (by decide) ?_
  refine lv_icmp_eq (tgt := 19) hx hb dX14_packets_10 (by decide) (fun _ => ?_) (fun c => absurd (by decide) c)
  refine lv_iconst (v := 0) hx hb dX14_packets_19 (by decide) ?_
  refine lv_goto (tgt := 24) hx hb dX14_packets_20 (by decide) ?_
  refine va_put (D := D) (ci := 19) (v := .int 0) (ty := .int) (C := RX14) (T := TX14) (N := 19) hx hb hts iw_X14_packets_RX14 tyX14 tyX14_ok nmX14 hown hK hP hD hS 0 rfl rfl 0 (by decide) (hts (.fieldLink RX14 61 "HubcascadeModel" "thrown" "I") (by decide +kernel)) (fun _ h9 => h9) rfl (by decide +kernel) rfl rfl (Nat.le_of_ble_eq_true rfl) dX14_packets_24 (fun H locs hP hD hS => ?_)
  have hP : va_P D vwCl (WM cy am eda 0) H := hP
  have hD : va_D A (WM cy am eda 0) := hD
  refine lv_aload_n hx hb dX14_packets_27 rfl (lv_at hl 0 rfl) ?_
  refine va_get (D := D) (ci := 19) (v := .int 0) (C := RX14) (T := TX14) (N := 19) hx hb hts iw_X14_packets_RX14 hown hK hP 0 rfl rfl 0 (by decide) (hts (.fieldLink RX14 61 "HubcascadeModel" "thrown" "I") (by decide +kernel)) (fun _ h9 => h9) rfl dX14_packets_28 ?_
  refine lv_if_le (tgt := 38) hx hb dX14_packets_31 (by decide) (fun _ => ?_) (fun c => absurd (by decide) c)
  refine lv_iload_n hx hb dX14_packets_38 rfl (lv_at hl 1 rfl) ?_
  refine lv_bipush (v := 116) hx hb dX14_packets_39 (by decide) ?_
  refine lv_icmp_ne (tgt := 51) hx hb dX14_packets_41 (by decide) (fun _ => ?_) (fun c => absurd c (by decide))
  refine lv_iload_n hx hb dX14_packets_51 rfl (lv_at hl 1 rfl) ?_
  refine lv_bipush (v := 100) hx hb dX14_packets_52 (by decide) ?_
  refine lv_icmp_ne (tgt := 64) hx hb dX14_packets_54 (by decide) (fun c => absurd (by decide) c) (fun _ => ?_)
  refine lv_aload_n hx hb dX14_packets_57 rfl (lv_at hl 0 rfl) ?_
  refine va_get (D := D) (ci := 19) (v := .int 0) (C := RX14) (T := TX14) (N := 19) hx hb hts iw_X14_packets_RX14 hown hK hP 0 rfl rfl 15 (by decide) (hts (.fieldLink RX14 366 "HubcascadeModel" "data" "I") (by decide +kernel)) (fun _ h9 => h9) rfl dX14_packets_58 ?_
  refine lv_goto (tgt := 68) hx hb dX14_packets_61 (by decide) ?_
  refine W.widen (k := 0) (n := 0) (Nat.le_of_ble_eq_true rfl) (Nat.le_of_ble_eq_true rfl) ?_
  have hP9 := hP.sub (ws' := [(am 0, .inr (19, [.int 0, .ref (am 1), .ref (am 4), .ref (am 5), .ref (am 6), .ref (am 7), .ref (am 8), .int 0, .ref (am 9), .int 0, .int (-1), .int 100, .ref (am 10), .long 0, .int 0, .int 0, .int 0, .int 0, .long 0]))]) [0] rfl
  have hD9 := hD.sub (ws' := [(am 0, .inr (19, [.int 0, .ref (am 1), .ref (am 4), .ref (am 5), .ref (am 6), .ref (am 7), .ref (am 8), .int 0, .ref (am 9), .int 0, .int (-1), .int 100, .ref (am 10), .long 0, .int 0, .int 0, .int 0, .int 0, .long 0]))]) [0] (by decide) rfl
  exact W.iret hx hb hr (fun t ht hW => ⟨rfl, ⟨by rw [ht]; exact hP9, hD9⟩, hS.F ht⟩) hS.2.2 dX14_packets_68

set_option maxRecDepth 100000 in
set_option maxHeartbeats 4000000 in
theorem a_packets_h (l : Launch) (D : va_G) (cy : Nat → ClassId) {ca : Nat} {ia : Nat → Nat} {am : Nat → Nat} {eda : Nat} {th : Int32} (sz : Nat) : MJ l D cy eda ca ia (WM cy am eda th) sz yX14_packets wsX14_packets 0 0 0 0 [.ref (am 0), .int 104] (some (.int 0)) (fun H => va_P D vwCl ([(am 0, .inr (19, [.int 0, .ref (am 1), .ref (am 4), .ref (am 5), .ref (am 6), .ref (am 7), .ref (am 8), .int 0, .ref (am 9), .int 0, .int (-1), .int 100, .ref (am 10), .long 0, .int 0, .int 0, .int 0, .int 0, .long 0]))]) H ∧ va_D (va_A (WM cy am eda th) sz) ([(am 0, .inr (19, [.int 0, .ref (am 1), .ref (am 4), .ref (am 5), .ref (am 6), .ref (am 7), .ref (am 8), .int 0, .ref (am 9), .int 0, .int (-1), .int 100, .ref (am 10), .long 0, .int 0, .int 0, .int 0, .int 0, .long 0]))])) := by
  refine ro_ofW (cc := cX14_packets) (maxL := 2) (ret := (some .int)) (lv := [(0, .ref (am 0)), (1, .int 104)]) (by decide) rfl (Nat.le_of_ble_eq_true rfl) rfl ?_
  intro p e s m below meth c ls hx hb hr hml hown hlocks hname hts hv hl
  have hown : s.vm.findClass RX14 = some m.cls := hown
  obtain ⟨⟨⟨hsz, hP, hD0⟩, hK, hN⟩, hJS⟩ := hv
  subst hsz
  have hD := hD0.self (sz := s.heap.size)
  generalize hAe : va_A (WM cy am eda th) s.heap.size = A at hD hJS ⊢
  have hA : ∀ q : Nat, s.heap.size ≤ q → A q := fun q h => by rw [← hAe]; exact Or.inr h
  have hS : va_S A s.heap s.heap [] := va_S.rf
  refine lv_aload_n hx hb dX14_packets_0 rfl (lv_at hl 0 rfl) ?_
  refine lv_iload_n hx hb dX14_packets_1 rfl (lv_at hl 1 rfl) ?_
  refine lv_bipush (v := 116) hx hb dX14_packets_2 (by decide) ?_
  refine lv_icmp_eq (tgt := 19) hx hb dX14_packets_4 (by decide) (fun c => absurd c (by decide)) (fun _ => ?_)
  refine lv_iload_n hx hb dX14_packets_7 rfl (lv_at hl 1 rfl) ?_
  refine lv_bipush (v := 100) hx hb dX14_packets_8 (by decide) ?_
  refine lv_icmp_eq (tgt := 19) hx hb dX14_packets_10 (by decide) (fun c => absurd c (by decide)) (fun _ => ?_)
  refine lv_iload_n hx hb dX14_packets_13 rfl (lv_at hl 1 rfl) ?_
  refine lv_bipush (v := 104) hx hb dX14_packets_14 (by decide) ?_
  refine lv_icmp_ne (tgt := 23) hx hb dX14_packets_16 (by decide) (fun c => absurd (by decide) c) (fun _ => ?_)
  refine lv_iconst (v := 0) hx hb dX14_packets_19 (by decide) ?_
  refine lv_goto (tgt := 24) hx hb dX14_packets_20 (by decide) ?_
  refine va_put (D := D) (ci := 19) (v := .int 0) (ty := .int) (C := RX14) (T := TX14) (N := 19) hx hb hts iw_X14_packets_RX14 tyX14 tyX14_ok nmX14 hown hK hP hD hS 0 rfl rfl 0 (by decide) (hts (.fieldLink RX14 61 "HubcascadeModel" "thrown" "I") (by decide +kernel)) (fun _ h9 => h9) rfl (by decide +kernel) rfl rfl (Nat.le_of_ble_eq_true rfl) dX14_packets_24 (fun H locs hP hD hS => ?_)
  have hP : va_P D vwCl (WM cy am eda 0) H := hP
  have hD : va_D A (WM cy am eda 0) := hD
  refine lv_aload_n hx hb dX14_packets_27 rfl (lv_at hl 0 rfl) ?_
  refine va_get (D := D) (ci := 19) (v := .int 0) (C := RX14) (T := TX14) (N := 19) hx hb hts iw_X14_packets_RX14 hown hK hP 0 rfl rfl 0 (by decide) (hts (.fieldLink RX14 61 "HubcascadeModel" "thrown" "I") (by decide +kernel)) (fun _ h9 => h9) rfl dX14_packets_28 ?_
  refine lv_if_le (tgt := 38) hx hb dX14_packets_31 (by decide) (fun _ => ?_) (fun c => absurd (by decide) c)
  refine lv_iload_n hx hb dX14_packets_38 rfl (lv_at hl 1 rfl) ?_
  refine lv_bipush (v := 116) hx hb dX14_packets_39 (by decide) ?_
  refine lv_icmp_ne (tgt := 51) hx hb dX14_packets_41 (by decide) (fun _ => ?_) (fun c => absurd c (by decide))
  refine lv_iload_n hx hb dX14_packets_51 rfl (lv_at hl 1 rfl) ?_
  refine lv_bipush (v := 100) hx hb dX14_packets_52 (by decide) ?_
  refine lv_icmp_ne (tgt := 64) hx hb dX14_packets_54 (by decide) (fun _ => ?_) (fun c => absurd c (by decide))
  refine lv_aload_n hx hb dX14_packets_64 rfl (lv_at hl 0 rfl) ?_
  refine va_get (D := D) (ci := 19) (v := .int 0) (C := RX14) (T := TX14) (N := 19) hx hb hts iw_X14_packets_RX14 hown hK hP 0 rfl rfl 16 (by decide) (hts (.fieldLink RX14 381 "HubcascadeModel" "handshakes" "I") (by decide +kernel)) (fun _ h9 => h9) rfl dX14_packets_65 ?_
  refine W.widen (k := 0) (n := 0) (Nat.le_of_ble_eq_true rfl) (Nat.le_of_ble_eq_true rfl) ?_
  have hP9 := hP.sub (ws' := [(am 0, .inr (19, [.int 0, .ref (am 1), .ref (am 4), .ref (am 5), .ref (am 6), .ref (am 7), .ref (am 8), .int 0, .ref (am 9), .int 0, .int (-1), .int 100, .ref (am 10), .long 0, .int 0, .int 0, .int 0, .int 0, .long 0]))]) [0] rfl
  have hD9 := hD.sub (ws' := [(am 0, .inr (19, [.int 0, .ref (am 1), .ref (am 4), .ref (am 5), .ref (am 6), .ref (am 7), .ref (am 8), .int 0, .ref (am 9), .int 0, .int (-1), .int 100, .ref (am 10), .long 0, .int 0, .int 0, .int 0, .int 0, .long 0]))]) [0] (by decide) rfl
  exact W.iret hx hb hr (fun t ht hW => ⟨rfl, ⟨by rw [ht]; exact hP9, hD9⟩, hS.F ht⟩) hS.2.2 dX14_packets_68

set_option maxRecDepth 100000 in
set_option maxHeartbeats 4000000 in
theorem a_packets_1 (l : Launch) (D : va_G) (cy : Nat → ClassId) {ca : Nat} {ia : Nat → Nat} {am : Nat → Nat} {eda : Nat} {th : Int32} (sz : Nat) (q : Int32) (h1 : ¬ q = 116) (h2 : ¬ q = 100) (h3 : ¬ q = 104) : MJ l D cy eda ca ia (WM cy am eda th) sz yX14_packets wsX14_packets 0 0 0 0 [.ref (am 0), .int q] (some (.int 0)) (fun H => va_P D vwCl ([(am 0, .inr (19, [.int 1, .ref (am 1), .ref (am 4), .ref (am 5), .ref (am 6), .ref (am 7), .ref (am 8), .int 0, .ref (am 9), .int 0, .int (-1), .int 100, .ref (am 10), .long 0, .int 0, .int 0, .int 0, .int 0, .long 0]))]) H ∧ va_D (va_A (WM cy am eda th) sz) ([(am 0, .inr (19, [.int 1, .ref (am 1), .ref (am 4), .ref (am 5), .ref (am 6), .ref (am 7), .ref (am 8), .int 0, .ref (am 9), .int 0, .int (-1), .int 100, .ref (am 10), .long 0, .int 0, .int 0, .int 0, .int 0, .long 0]))])) := by
  refine ro_ofW (cc := cX14_packets) (maxL := 2) (ret := (some .int)) (lv := [(0, .ref (am 0)), (1, .int q)]) (by decide) rfl (Nat.le_of_ble_eq_true rfl) rfl ?_
  intro p e s m below meth c ls hx hb hr hml hown hlocks hname hts hv hl
  have hown : s.vm.findClass RX14 = some m.cls := hown
  obtain ⟨⟨⟨hsz, hP, hD0⟩, hK, hN⟩, hJS⟩ := hv
  subst hsz
  have hD := hD0.self (sz := s.heap.size)
  generalize hAe : va_A (WM cy am eda th) s.heap.size = A at hD hJS ⊢
  have hA : ∀ q : Nat, s.heap.size ≤ q → A q := fun q h => by rw [← hAe]; exact Or.inr h
  have hS : va_S A s.heap s.heap [] := va_S.rf
  refine lv_aload_n hx hb dX14_packets_0 rfl (lv_at hl 0 rfl) ?_
  refine lv_iload_n hx hb dX14_packets_1 rfl (lv_at hl 1 rfl) ?_
  refine lv_bipush (v := 116) hx hb dX14_packets_2 (by decide) ?_
  refine lv_icmp_eq (tgt := 19) hx hb dX14_packets_4 (by decide) (fun c => absurd c h1) (fun _ => ?_)
  refine lv_iload_n hx hb dX14_packets_7 rfl (lv_at hl 1 rfl) ?_
  refine lv_bipush (v := 100) hx hb dX14_packets_8 (by decide) ?_
  refine lv_icmp_eq (tgt := 19) hx hb dX14_packets_10 (by decide) (fun c => absurd c h2) (fun _ => ?_)
  refine lv_iload_n hx hb dX14_packets_13 rfl (lv_at hl 1 rfl) ?_
  refine lv_bipush (v := 104) hx hb dX14_packets_14 (by decide) ?_
  refine lv_icmp_ne (tgt := 23) hx hb dX14_packets_16 (by decide) (fun _ => ?_) (fun c => absurd c h3)
  refine lv_iconst (v := 1) hx hb dX14_packets_23 (by decide) ?_
  refine va_put (D := D) (ci := 19) (v := .int 1) (ty := .int) (C := RX14) (T := TX14) (N := 19) hx hb hts iw_X14_packets_RX14 tyX14 tyX14_ok nmX14 hown hK hP hD hS 0 rfl rfl 0 (by decide) (hts (.fieldLink RX14 61 "HubcascadeModel" "thrown" "I") (by decide +kernel)) (fun _ h9 => h9) rfl (by decide +kernel) rfl rfl (Nat.le_of_ble_eq_true rfl) dX14_packets_24 (fun H locs hP hD hS => ?_)
  have hP : va_P D vwCl (WM cy am eda 1) H := hP
  have hD : va_D A (WM cy am eda 1) := hD
  refine lv_aload_n hx hb dX14_packets_27 rfl (lv_at hl 0 rfl) ?_
  refine va_get (D := D) (ci := 19) (v := .int 1) (C := RX14) (T := TX14) (N := 19) hx hb hts iw_X14_packets_RX14 hown hK hP 0 rfl rfl 0 (by decide) (hts (.fieldLink RX14 61 "HubcascadeModel" "thrown" "I") (by decide +kernel)) (fun _ h9 => h9) rfl dX14_packets_28 ?_
  refine lv_if_le (tgt := 38) hx hb dX14_packets_31 (by decide) (fun c => absurd c (by decide)) (fun _ => ?_)
  refine lv_iconst (v := 0) hx hb dX14_packets_34 (by decide) ?_
  refine lv_goto (tgt := 68) hx hb dX14_packets_35 (by decide) ?_
  refine W.widen (k := 0) (n := 0) (Nat.le_of_ble_eq_true rfl) (Nat.le_of_ble_eq_true rfl) ?_
  have hP9 := hP.sub (ws' := [(am 0, .inr (19, [.int 1, .ref (am 1), .ref (am 4), .ref (am 5), .ref (am 6), .ref (am 7), .ref (am 8), .int 0, .ref (am 9), .int 0, .int (-1), .int 100, .ref (am 10), .long 0, .int 0, .int 0, .int 0, .int 0, .long 0]))]) [0] rfl
  have hD9 := hD.sub (ws' := [(am 0, .inr (19, [.int 1, .ref (am 1), .ref (am 4), .ref (am 5), .ref (am 6), .ref (am 7), .ref (am 8), .int 0, .ref (am 9), .int 0, .int (-1), .int 100, .ref (am 10), .long 0, .int 0, .int 0, .int 0, .int 0, .long 0]))]) [0] (by decide) rfl
  exact W.iret hx hb hr (fun t ht hW => ⟨rfl, ⟨by rw [ht]; exact hP9, hD9⟩, hS.F ht⟩) hS.2.2 dX14_packets_68

theorem iw_X14_busyShare_RX14 : ∀ w ∈ u_ws RX14 TX14 19, w ∈ wsX14_busyShare := by decide +kernel
set_option maxRecDepth 100000 in
set_option maxHeartbeats 4000000 in
theorem a_busyShare_1 (l : Launch) (D : va_G) (cy : Nat → ClassId) {ca : Nat} {ia : Nat → Nat} {am : Nat → Nat} {eda : Nat} {th : Int32} (sz : Nat) : MJ l D cy eda ca ia (WM cy am eda th) sz yX14_busyShare wsX14_busyShare 0 0 0 0 [.ref (am 0)] (some (.float FP.fconst0)) (fun H => va_P D vwCl ([(am 0, .inr (19, [.int 1, .ref (am 1), .ref (am 4), .ref (am 5), .ref (am 6), .ref (am 7), .ref (am 8), .int 0, .ref (am 9), .int 0, .int (-1), .int 100, .ref (am 10), .long 0, .int 0, .int 0, .int 0, .int 0, .long 0]))]) H ∧ va_D (va_A (WM cy am eda th) sz) ([(am 0, .inr (19, [.int 1, .ref (am 1), .ref (am 4), .ref (am 5), .ref (am 6), .ref (am 7), .ref (am 8), .int 0, .ref (am 9), .int 0, .int (-1), .int 100, .ref (am 10), .long 0, .int 0, .int 0, .int 0, .int 0, .long 0]))])) := by
  refine ro_ofW (cc := cX14_busyShare) (maxL := 1) (ret := (some .float)) (lv := [(0, .ref (am 0))]) (by decide) rfl (Nat.le_of_ble_eq_true rfl) rfl ?_
  intro p e s m below meth c ls hx hb hr hml hown hlocks hname hts hv hl
  have hown : s.vm.findClass RX14 = some m.cls := hown
  obtain ⟨⟨⟨hsz, hP, hD0⟩, hK, hN⟩, hJS⟩ := hv
  subst hsz
  have hD := hD0.self (sz := s.heap.size)
  generalize hAe : va_A (WM cy am eda th) s.heap.size = A at hD hJS ⊢
  have hA : ∀ q : Nat, s.heap.size ≤ q → A q := fun q h => by rw [← hAe]; exact Or.inr h
  have hS : va_S A s.heap s.heap [] := va_S.rf
  refine lv_aload_n hx hb dX14_busyShare_0 rfl (lv_at hl 0 rfl) ?_
  refine lv_aload_n hx hb dX14_busyShare_1 rfl (lv_at hl 0 rfl) ?_
  refine va_get (D := D) (ci := 19) (v := .int 0) (C := RX14) (T := TX14) (N := 19) hx hb hts iw_X14_busyShare_RX14 hown hK hP 0 rfl rfl 9 (by decide) (hts (.fieldLink RX14 205 "HubcascadeModel" "frame" "I") (by decide +kernel)) (fun _ h9 => h9) rfl dX14_busyShare_2 ?_
  refine lv_if_ne (tgt := 12) hx hb dX14_busyShare_5 (by decide) (fun c => absurd (by decide) c) (fun _ => ?_)
  refine lv_iconst (v := 1) hx hb dX14_busyShare_8 (by decide) ?_
  refine lv_goto (tgt := 13) hx hb dX14_busyShare_9 (by decide) ?_
  refine va_put (D := D) (ci := 19) (v := .int 1) (ty := .int) (C := RX14) (T := TX14) (N := 19) hx hb hts iw_X14_busyShare_RX14 tyX14 tyX14_ok nmX14 hown hK hP hD hS 0 rfl rfl 0 (by decide) (hts (.fieldLink RX14 61 "HubcascadeModel" "thrown" "I") (by decide +kernel)) (fun _ h9 => h9) rfl (by decide +kernel) rfl rfl (Nat.le_of_ble_eq_true rfl) dX14_busyShare_13 (fun H locs hP hD hS => ?_)
  have hP : va_P D vwCl (WM cy am eda 1) H := hP
  have hD : va_D A (WM cy am eda 1) := hD
  refine lv_aload_n hx hb dX14_busyShare_16 rfl (lv_at hl 0 rfl) ?_
  refine va_get (D := D) (ci := 19) (v := .int 1) (C := RX14) (T := TX14) (N := 19) hx hb hts iw_X14_busyShare_RX14 hown hK hP 0 rfl rfl 0 (by decide) (hts (.fieldLink RX14 61 "HubcascadeModel" "thrown" "I") (by decide +kernel)) (fun _ h9 => h9) rfl dX14_busyShare_17 ?_
  refine lv_if_le (tgt := 27) hx hb dX14_busyShare_20 (by decide) (fun c => absurd c (by decide)) (fun _ => ?_)
  refine lv_fconst0 hx hb dX14_busyShare_23 ?_
  refine lv_goto (tgt := 41) hx hb dX14_busyShare_24 (by decide) ?_
  refine W.widen (k := 0) (n := 0) (Nat.le_of_ble_eq_true rfl) (Nat.le_of_ble_eq_true rfl) ?_
  have hP9 := hP.sub (ws' := [(am 0, .inr (19, [.int 1, .ref (am 1), .ref (am 4), .ref (am 5), .ref (am 6), .ref (am 7), .ref (am 8), .int 0, .ref (am 9), .int 0, .int (-1), .int 100, .ref (am 10), .long 0, .int 0, .int 0, .int 0, .int 0, .long 0]))]) [0] rfl
  have hD9 := hD.sub (ws' := [(am 0, .inr (19, [.int 1, .ref (am 1), .ref (am 4), .ref (am 5), .ref (am 6), .ref (am 7), .ref (am 8), .int 0, .ref (am 9), .int 0, .int (-1), .int 100, .ref (am 10), .long 0, .int 0, .int 0, .int 0, .int 0, .long 0]))]) [0] (by decide) rfl
  exact W.fret hx hb hr (fun t ht hW => ⟨rfl, ⟨by rw [ht]; exact hP9, hD9⟩, hS.F ht⟩) hS.2.2 dX14_busyShare_41

theorem iw_X14_meanBytes_RX14 : ∀ w ∈ u_ws RX14 TX14 19, w ∈ wsX14_meanBytes := by decide +kernel
set_option maxRecDepth 100000 in
set_option maxHeartbeats 4000000 in
theorem a_meanBytes_1 (l : Launch) (D : va_G) (cy : Nat → ClassId) {ca : Nat} {ia : Nat → Nat} {am : Nat → Nat} {eda : Nat} {th : Int32} (sz : Nat) : MJ l D cy eda ca ia (WM cy am eda th) sz yX14_meanBytes wsX14_meanBytes 0 0 0 0 [.ref (am 0)] (some (.double FP.dconst0)) (fun H => va_P D vwCl ([(am 0, .inr (19, [.int 1, .ref (am 1), .ref (am 4), .ref (am 5), .ref (am 6), .ref (am 7), .ref (am 8), .int 0, .ref (am 9), .int 0, .int (-1), .int 100, .ref (am 10), .long 0, .int 0, .int 0, .int 0, .int 0, .long 0]))]) H ∧ va_D (va_A (WM cy am eda th) sz) ([(am 0, .inr (19, [.int 1, .ref (am 1), .ref (am 4), .ref (am 5), .ref (am 6), .ref (am 7), .ref (am 8), .int 0, .ref (am 9), .int 0, .int (-1), .int 100, .ref (am 10), .long 0, .int 0, .int 0, .int 0, .int 0, .long 0]))])) := by
  refine ro_ofW (cc := cX14_meanBytes) (maxL := 1) (ret := (some .double)) (lv := [(0, .ref (am 0))]) (by decide) rfl (Nat.le_of_ble_eq_true rfl) rfl ?_
  intro p e s m below meth c ls hx hb hr hml hown hlocks hname hts hv hl
  have hown : s.vm.findClass RX14 = some m.cls := hown
  obtain ⟨⟨⟨hsz, hP, hD0⟩, hK, hN⟩, hJS⟩ := hv
  subst hsz
  have hD := hD0.self (sz := s.heap.size)
  generalize hAe : va_A (WM cy am eda th) s.heap.size = A at hD hJS ⊢
  have hA : ∀ q : Nat, s.heap.size ≤ q → A q := fun q h => by rw [← hAe]; exact Or.inr h
  have hS : va_S A s.heap s.heap [] := va_S.rf
  refine lv_aload_n hx hb dX14_meanBytes_0 rfl (lv_at hl 0 rfl) ?_
  refine lv_aload_n hx hb dX14_meanBytes_1 rfl (lv_at hl 0 rfl) ?_
  refine va_get (D := D) (ci := 19) (v := .int 0) (C := RX14) (T := TX14) (N := 19) hx hb hts iw_X14_meanBytes_RX14 hown hK hP 0 rfl rfl 17 (by decide) (hts (.fieldLink RX14 277 "HubcascadeModel" "overs" "I") (by decide +kernel)) (fun _ h9 => h9) rfl dX14_meanBytes_2 ?_
  refine lv_if_ne (tgt := 12) hx hb dX14_meanBytes_5 (by decide) (fun c => absurd (by decide) c) (fun _ => ?_)
  refine lv_iconst (v := 1) hx hb dX14_meanBytes_8 (by decide) ?_
  refine lv_goto (tgt := 13) hx hb dX14_meanBytes_9 (by decide) ?_
  refine va_put (D := D) (ci := 19) (v := .int 1) (ty := .int) (C := RX14) (T := TX14) (N := 19) hx hb hts iw_X14_meanBytes_RX14 tyX14 tyX14_ok nmX14 hown hK hP hD hS 0 rfl rfl 0 (by decide) (hts (.fieldLink RX14 61 "HubcascadeModel" "thrown" "I") (by decide +kernel)) (fun _ h9 => h9) rfl (by decide +kernel) rfl rfl (Nat.le_of_ble_eq_true rfl) dX14_meanBytes_13 (fun H locs hP hD hS => ?_)
  have hP : va_P D vwCl (WM cy am eda 1) H := hP
  have hD : va_D A (WM cy am eda 1) := hD
  refine lv_aload_n hx hb dX14_meanBytes_16 rfl (lv_at hl 0 rfl) ?_
  refine va_get (D := D) (ci := 19) (v := .int 1) (C := RX14) (T := TX14) (N := 19) hx hb hts iw_X14_meanBytes_RX14 hown hK hP 0 rfl rfl 0 (by decide) (hts (.fieldLink RX14 61 "HubcascadeModel" "thrown" "I") (by decide +kernel)) (fun _ h9 => h9) rfl dX14_meanBytes_17 ?_
  refine lv_if_le (tgt := 27) hx hb dX14_meanBytes_20 (by decide) (fun c => absurd c (by decide)) (fun _ => ?_)
  refine lv_dconst0 hx hb dX14_meanBytes_23 ?_
  refine lv_goto (tgt := 38) hx hb dX14_meanBytes_24 (by decide) ?_
  refine W.widen (k := 0) (n := 0) (Nat.le_of_ble_eq_true rfl) (Nat.le_of_ble_eq_true rfl) ?_
  have hP9 := hP.sub (ws' := [(am 0, .inr (19, [.int 1, .ref (am 1), .ref (am 4), .ref (am 5), .ref (am 6), .ref (am 7), .ref (am 8), .int 0, .ref (am 9), .int 0, .int (-1), .int 100, .ref (am 10), .long 0, .int 0, .int 0, .int 0, .int 0, .long 0]))]) [0] rfl
  have hD9 := hD.sub (ws' := [(am 0, .inr (19, [.int 1, .ref (am 1), .ref (am 4), .ref (am 5), .ref (am 6), .ref (am 7), .ref (am 8), .int 0, .ref (am 9), .int 0, .int (-1), .int 100, .ref (am 10), .long 0, .int 0, .int 0, .int 0, .int 0, .long 0]))]) [0] (by decide) rfl
  exact W.dret hx hb hr (fun t ht hW => ⟨rfl, ⟨by rw [ht]; exact hP9, hD9⟩, hS.F ht⟩) hS.2.2 dX14_meanBytes_38

theorem iw_X14_checksum_RX10 : ∀ w ∈ u_ws RX10 TX10 16, w ∈ wsX14_checksum := by decide +kernel
theorem iw_X14_checksum_RX14 : ∀ w ∈ u_ws RX14 TX14 19, w ∈ wsX14_checksum := by decide +kernel
set_option maxRecDepth 100000 in
set_option maxHeartbeats 4000000 in
theorem a_checksum (l : Launch) (D : va_G) (cy : Nat → ClassId) {ca : Nat} {ia : Nat → Nat} {am : Nat → Nat} {eda : Nat} {th : Int32} (sz : Nat) : MJ l D cy eda ca ia (WM cy am eda th) sz yX14_checksum wsX14_checksum 3 1 4 53 [.ref (am 0)] (some (.long 316)) (fun H => va_P D vwCl ([(am 0, .inr (19, [.int 0, .ref (am 1), .ref (am 4), .ref (am 5), .ref (am 6), .ref (am 7), .ref (am 8), .int 0, .ref (am 9), .int 0, .int (-1), .int 100, .ref (am 10), .long 0, .int 0, .int 0, .int 0, .int 0, .long 0]))]) H ∧ va_D (va_A (WM cy am eda th) sz) ([(am 0, .inr (19, [.int 0, .ref (am 1), .ref (am 4), .ref (am 5), .ref (am 6), .ref (am 7), .ref (am 8), .int 0, .ref (am 9), .int 0, .int (-1), .int 100, .ref (am 10), .long 0, .int 0, .int 0, .int 0, .int 0, .long 0]))])) := by
  refine ro_ofW (cc := cX14_checksum) (maxL := 5) (ret := (some .long)) (lv := [(0, .ref (am 0))]) (by decide) rfl (Nat.le_of_ble_eq_true rfl) rfl ?_
  intro p e s m below meth c ls hx hb hr hml hown hlocks hname hts hv hl
  have hown : s.vm.findClass RX14 = some m.cls := hown
  obtain ⟨⟨⟨hsz, hP, hD0⟩, hK, hN⟩, hJS⟩ := hv
  subst hsz
  have hD := hD0.self (sz := s.heap.size)
  generalize hAe : va_A (WM cy am eda th) s.heap.size = A at hD hJS ⊢
  have hA : ∀ q : Nat, s.heap.size ≤ q → A q := fun q h => by rw [← hAe]; exact Or.inr h
  have hS : va_S A s.heap s.heap [] := va_S.rf
  refine lv_aload_n hx hb dX14_checksum_0 rfl (lv_at hl 0 rfl) ?_
  refine lv_iconst (v := 0) hx hb dX14_checksum_1 (by decide) ?_
  refine va_put (D := D) (ci := 19) (v := .int 0) (ty := .int) (C := RX14) (T := TX14) (N := 19) hx hb hts iw_X14_checksum_RX14 tyX14 tyX14_ok nmX14 hown hK hP hD hS 0 rfl rfl 0 (by decide) (hts (.fieldLink RX14 61 "HubcascadeModel" "thrown" "I") (by decide +kernel)) (fun _ h9 => h9) rfl (by decide +kernel) rfl rfl (Nat.le_of_ble_eq_true rfl) dX14_checksum_2 (fun H locs hP hD hS => ?_)
  have hP : va_P D vwCl (WM cy am eda 0) H := hP
  have hD : va_D A (WM cy am eda 0) := hD
  refine lv_ldc2 hx hb hown (hts (.constantLong RX14 411 (7)) (by decide +kernel)) dX14_checksum_5 ?_
  refine lv_lstore_n (lv' := [(1, .long 7), (0, .ref (am 0))]) hx hb dX14_checksum_8 rfl hl (by decide) rfl (fun ls hl => ?_)
  refine lv_aload_n hx hb dX14_checksum_9 rfl (lv_at hl 1 rfl) ?_
  refine va_get (D := D) (ci := 19) (v := .ref (am 1)) (C := RX14) (T := TX14) (N := 19) hx hb hts iw_X14_checksum_RX14 hown hK hP 0 rfl rfl 1 (by decide) (hts (.fieldLink RX14 10 "HubcascadeModel" "devices" "Ljava/util/ArrayList;") (by decide +kernel)) (fun _ h9 => h9) rfl dX14_checksum_10 ?_
  have hP := hP.sub (ws' := [(am 0, .inr (19, [.int 0, .ref (am 1), .ref (am 4), .ref (am 5), .ref (am 6), .ref (am 7), .ref (am 8), .int 0, .ref (am 9), .int 0, .int (-1), .int 100, .ref (am 10), .long 0, .int 0, .int 0, .int 0, .int 0, .long 0])), (am 2, .inl (cy 10, 10, .inr (.inr (.inr (.inr (va_up (fun _ => none) 0 (some (am 3)))))))), (am 3, .inr (15, [.int 104, .int 4, .int 0, .int 1, .int 0, .int 0, .int 99, .int (-1), .int 0, .int 0, .int (-1), .int 0, .int 0, .ref (am 11), .ref (am 12), .ref (am 13)])), (am 4, .inl (cy 9, 12, .inr (.inr (.inr (.inr (fun _ => none)))))), (am 5, .inr (4, [.int 0, .ref eda, .int 0])), (am 6, .inr (4, [.int 0, .ref eda, .int 0])), (am 7, .inr (4, [.int 0, .ref eda, .int 0])), (am 8, .inl (cy 0, 0, .inl (fun _ => 0))), (am 9, .inr (4, [.int 0, .ref eda, .int 0])), (am 10, .inl (cy 0, 16, .inl (fun _ => 0))), (am 11, .inl (cy 8, 4, .inr (.inr (.inr (.inr (fun _ => none)))))), (am 12, .inl (cy 1, 4, .inl (fun _ => 0))), (am 13, .inl (cy 0, 4, .inl (fun _ => 0))), (am 1, .inr (4, [.int 1, .ref (am 2), .int 1]))]) [0, 2, 3, 4, 5, 6, 7, 8, 9, 10, 11, 12, 13, 1] rfl
  have hD := hD.sub (ws' := [(am 0, .inr (19, [.int 0, .ref (am 1), .ref (am 4), .ref (am 5), .ref (am 6), .ref (am 7), .ref (am 8), .int 0, .ref (am 9), .int 0, .int (-1), .int 100, .ref (am 10), .long 0, .int 0, .int 0, .int 0, .int 0, .long 0])), (am 2, .inl (cy 10, 10, .inr (.inr (.inr (.inr (va_up (fun _ => none) 0 (some (am 3)))))))), (am 3, .inr (15, [.int 104, .int 4, .int 0, .int 1, .int 0, .int 0, .int 99, .int (-1), .int 0, .int 0, .int (-1), .int 0, .int 0, .ref (am 11), .ref (am 12), .ref (am 13)])), (am 4, .inl (cy 9, 12, .inr (.inr (.inr (.inr (fun _ => none)))))), (am 5, .inr (4, [.int 0, .ref eda, .int 0])), (am 6, .inr (4, [.int 0, .ref eda, .int 0])), (am 7, .inr (4, [.int 0, .ref eda, .int 0])), (am 8, .inl (cy 0, 0, .inl (fun _ => 0))), (am 9, .inr (4, [.int 0, .ref eda, .int 0])), (am 10, .inl (cy 0, 16, .inl (fun _ => 0))), (am 11, .inl (cy 8, 4, .inr (.inr (.inr (.inr (fun _ => none)))))), (am 12, .inl (cy 1, 4, .inl (fun _ => 0))), (am 13, .inl (cy 0, 4, .inl (fun _ => 0))), (am 1, .inr (4, [.int 1, .ref (am 2), .int 1]))]) [0, 2, 3, 4, 5, 6, 7, 8, 9, 10, 11, 12, 13, 1] (by decide) rfl
  refine mr_callV (wr := [(am 0, .inr (19, [.int 0, .ref (am 1), .ref (am 4), .ref (am 5), .ref (am 6), .ref (am 7), .ref (am 8), .int 0, .ref (am 9), .int 0, .int (-1), .int 100, .ref (am 10), .long 0, .int 0, .int 0, .int 0, .int 0, .long 0])), (am 2, .inl (cy 10, 10, .inr (.inr (.inr (.inr (va_up (fun _ => none) 0 (some (am 3)))))))), (am 3, .inr (15, [.int 104, .int 4, .int 0, .int 1, .int 0, .int 0, .int 99, .int (-1), .int 0, .int 0, .int (-1), .int 0, .int 0, .ref (am 11), .ref (am 12), .ref (am 13)])), (am 4, .inl (cy 9, 12, .inr (.inr (.inr (.inr (fun _ => none)))))), (am 5, .inr (4, [.int 0, .ref eda, .int 0])), (am 6, .inr (4, [.int 0, .ref eda, .int 0])), (am 7, .inr (4, [.int 0, .ref eda, .int 0])), (am 8, .inl (cy 0, 0, .inl (fun _ => 0))), (am 9, .inr (4, [.int 0, .ref eda, .int 0])), (am 10, .inl (cy 0, 16, .inl (fun _ => 0))), (am 11, .inl (cy 8, 4, .inr (.inr (.inr (.inr (fun _ => none)))))), (am 12, .inl (cy 1, 4, .inl (fun _ => 0))), (am 13, .inl (cy 0, 4, .inl (fun _ => 0)))]) (wc := [(am 1, .inr (4, [.int 1, .ref (am 2), .int 1]))]) (As := []) (rest := []) ⟨hx, hb, hml, hown, hts⟩ (m_iter l D cy (am 1) (am 2) _ 1 1 ) (cwV 0 hts gX14_checksum_Jx4a65c_iterator_32c93 rfl rfl rfl (by decide +kernel) ⟨by decide, by decide⟩) hK hN hP hD hS hA hJS (ci := 4) (q0 := 0) rfl rfl rfl rfl hl.1 rfl (Nat.le_of_ble_eq_true rfl) dX14_checksum_13 ⟨Nat.le_of_ble_eq_true rfl, Nat.le_of_ble_eq_true rfl⟩ (fun q1 H locs hB hJ hS => ?_)
  obtain ⟨hP1, hD1⟩ := hB
  obtain ⟨hP, hD⟩ := hJ _ hP1 hD1
  have hP : va_P D vwCl ([(am 0, .inr (19, [.int 0, .ref (am 1), .ref (am 4), .ref (am 5), .ref (am 6), .ref (am 7), .ref (am 8), .int 0, .ref (am 9), .int 0, .int (-1), .int 100, .ref (am 10), .long 0, .int 0, .int 0, .int 0, .int 0, .long 0])), (am 2, .inl (cy 10, 10, .inr (.inr (.inr (.inr (va_up (fun _ => none) 0 (some (am 3)))))))), (am 3, .inr (15, [.int 104, .int 4, .int 0, .int 1, .int 0, .int 0, .int 99, .int (-1), .int 0, .int 0, .int (-1), .int 0, .int 0, .ref (am 11), .ref (am 12), .ref (am 13)])), (am 4, .inl (cy 9, 12, .inr (.inr (.inr (.inr (fun _ => none)))))), (am 5, .inr (4, [.int 0, .ref eda, .int 0])), (am 6, .inr (4, [.int 0, .ref eda, .int 0])), (am 7, .inr (4, [.int 0, .ref eda, .int 0])), (am 8, .inl (cy 0, 0, .inl (fun _ => 0))), (am 9, .inr (4, [.int 0, .ref eda, .int 0])), (am 10, .inl (cy 0, 16, .inl (fun _ => 0))), (am 11, .inl (cy 8, 4, .inr (.inr (.inr (.inr (fun _ => none)))))), (am 12, .inl (cy 1, 4, .inl (fun _ => 0))), (am 13, .inl (cy 0, 4, .inl (fun _ => 0))), (am 1, .inr (4, [.int 1, .ref (am 2), .int 1])), (q1, .inr (3, [.int 0, .int (-1), .int 1, .ref (am 1)]))]) H := hP
  have hD : va_D A ([(am 0, .inr (19, [.int 0, .ref (am 1), .ref (am 4), .ref (am 5), .ref (am 6), .ref (am 7), .ref (am 8), .int 0, .ref (am 9), .int 0, .int (-1), .int 100, .ref (am 10), .long 0, .int 0, .int 0, .int 0, .int 0, .long 0])), (am 2, .inl (cy 10, 10, .inr (.inr (.inr (.inr (va_up (fun _ => none) 0 (some (am 3)))))))), (am 3, .inr (15, [.int 104, .int 4, .int 0, .int 1, .int 0, .int 0, .int 99, .int (-1), .int 0, .int 0, .int (-1), .int 0, .int 0, .ref (am 11), .ref (am 12), .ref (am 13)])), (am 4, .inl (cy 9, 12, .inr (.inr (.inr (.inr (fun _ => none)))))), (am 5, .inr (4, [.int 0, .ref eda, .int 0])), (am 6, .inr (4, [.int 0, .ref eda, .int 0])), (am 7, .inr (4, [.int 0, .ref eda, .int 0])), (am 8, .inl (cy 0, 0, .inl (fun _ => 0))), (am 9, .inr (4, [.int 0, .ref eda, .int 0])), (am 10, .inl (cy 0, 16, .inl (fun _ => 0))), (am 11, .inl (cy 8, 4, .inr (.inr (.inr (.inr (fun _ => none)))))), (am 12, .inl (cy 1, 4, .inl (fun _ => 0))), (am 13, .inl (cy 0, 4, .inl (fun _ => 0))), (am 1, .inr (4, [.int 1, .ref (am 2), .int 1])), (q1, .inr (3, [.int 0, .int (-1), .int 1, .ref (am 1)]))]) := hD
  refine lv_astore_n (lv' := [(3, .ref q1), (1, .long 7), (0, .ref (am 0))]) hx hb dX14_checksum_16 rfl hl (by decide) rfl (fun ls hl => ?_)
  refine lv_aload_n hx hb dX14_checksum_17 rfl (lv_at hl 0 rfl) ?_
  refine ro_callF (As := []) (rest := []) ⟨hx, hb, hml, hown, hts⟩ (c_hasNext1 l D cy _ 14 13 q1 (am 1) (am 2) 0 (-1) 1 1 1 rfl rfl (by decide)) (va_cwF 0 hts gX14_checksum_Jx35411_hasNext_aae02_f112Jx35411 rfl rfl rfl hJS.2.2.2.2.2.2.1 (by decide +kernel) ⟨by decide, by decide⟩) hK hN hP hS (ci := 3) (q0 := 14) rfl rfl rfl rfl hl.1 rfl (Nat.le_of_ble_eq_true rfl) dX14_checksum_18 ⟨Nat.le_of_ble_eq_true rfl, Nat.le_of_ble_eq_true rfl⟩ (fun H locs hP hS => ?_)
  refine lv_if_eq (tgt := 71) hx hb dX14_checksum_23 (by decide) (fun c => absurd c (by decide)) (fun _ => ?_)
  refine lv_aload_n hx hb dX14_checksum_26 rfl (lv_at hl 0 rfl) ?_
  have hP := hP.sub (ws' := [(am 0, .inr (19, [.int 0, .ref (am 1), .ref (am 4), .ref (am 5), .ref (am 6), .ref (am 7), .ref (am 8), .int 0, .ref (am 9), .int 0, .int (-1), .int 100, .ref (am 10), .long 0, .int 0, .int 0, .int 0, .int 0, .long 0])), (am 3, .inr (15, [.int 104, .int 4, .int 0, .int 1, .int 0, .int 0, .int 99, .int (-1), .int 0, .int 0, .int (-1), .int 0, .int 0, .ref (am 11), .ref (am 12), .ref (am 13)])), (am 4, .inl (cy 9, 12, .inr (.inr (.inr (.inr (fun _ => none)))))), (am 5, .inr (4, [.int 0, .ref eda, .int 0])), (am 6, .inr (4, [.int 0, .ref eda, .int 0])), (am 7, .inr (4, [.int 0, .ref eda, .int 0])), (am 8, .inl (cy 0, 0, .inl (fun _ => 0))), (am 9, .inr (4, [.int 0, .ref eda, .int 0])), (am 10, .inl (cy 0, 16, .inl (fun _ => 0))), (am 11, .inl (cy 8, 4, .inr (.inr (.inr (.inr (fun _ => none)))))), (am 12, .inl (cy 1, 4, .inl (fun _ => 0))), (am 13, .inl (cy 0, 4, .inl (fun _ => 0))), (q1, .inr (3, [.int 0, .int (-1), .int 1, .ref (am 1)])), (am 1, .inr (4, [.int 1, .ref (am 2), .int 1])), (am 2, .inl (cy 10, 10, .inr (.inr (.inr (.inr (va_up (fun _ => none) 0 (some (am 3))))))))]) [0, 2, 3, 4, 5, 6, 7, 8, 9, 10, 11, 12, 14, 13, 1] rfl
  have hD := hD.sub (ws' := [(am 0, .inr (19, [.int 0, .ref (am 1), .ref (am 4), .ref (am 5), .ref (am 6), .ref (am 7), .ref (am 8), .int 0, .ref (am 9), .int 0, .int (-1), .int 100, .ref (am 10), .long 0, .int 0, .int 0, .int 0, .int 0, .long 0])), (am 3, .inr (15, [.int 104, .int 4, .int 0, .int 1, .int 0, .int 0, .int 99, .int (-1), .int 0, .int 0, .int (-1), .int 0, .int 0, .ref (am 11), .ref (am 12), .ref (am 13)])), (am 4, .inl (cy 9, 12, .inr (.inr (.inr (.inr (fun _ => none)))))), (am 5, .inr (4, [.int 0, .ref eda, .int 0])), (am 6, .inr (4, [.int 0, .ref eda, .int 0])), (am 7, .inr (4, [.int 0, .ref eda, .int 0])), (am 8, .inl (cy 0, 0, .inl (fun _ => 0))), (am 9, .inr (4, [.int 0, .ref eda, .int 0])), (am 10, .inl (cy 0, 16, .inl (fun _ => 0))), (am 11, .inl (cy 8, 4, .inr (.inr (.inr (.inr (fun _ => none)))))), (am 12, .inl (cy 1, 4, .inl (fun _ => 0))), (am 13, .inl (cy 0, 4, .inl (fun _ => 0))), (q1, .inr (3, [.int 0, .int (-1), .int 1, .ref (am 1)])), (am 1, .inr (4, [.int 1, .ref (am 2), .int 1])), (am 2, .inl (cy 10, 10, .inr (.inr (.inr (.inr (va_up (fun _ => none) 0 (some (am 3))))))))]) [0, 2, 3, 4, 5, 6, 7, 8, 9, 10, 11, 12, 14, 13, 1] (by decide) rfl
  refine me_callF (wr := [(am 0, .inr (19, [.int 0, .ref (am 1), .ref (am 4), .ref (am 5), .ref (am 6), .ref (am 7), .ref (am 8), .int 0, .ref (am 9), .int 0, .int (-1), .int 100, .ref (am 10), .long 0, .int 0, .int 0, .int 0, .int 0, .long 0])), (am 3, .inr (15, [.int 104, .int 4, .int 0, .int 1, .int 0, .int 0, .int 99, .int (-1), .int 0, .int 0, .int (-1), .int 0, .int 0, .ref (am 11), .ref (am 12), .ref (am 13)])), (am 4, .inl (cy 9, 12, .inr (.inr (.inr (.inr (fun _ => none)))))), (am 5, .inr (4, [.int 0, .ref eda, .int 0])), (am 6, .inr (4, [.int 0, .ref eda, .int 0])), (am 7, .inr (4, [.int 0, .ref eda, .int 0])), (am 8, .inl (cy 0, 0, .inl (fun _ => 0))), (am 9, .inr (4, [.int 0, .ref eda, .int 0])), (am 10, .inl (cy 0, 16, .inl (fun _ => 0))), (am 11, .inl (cy 8, 4, .inr (.inr (.inr (.inr (fun _ => none)))))), (am 12, .inl (cy 1, 4, .inl (fun _ => 0))), (am 13, .inl (cy 0, 4, .inl (fun _ => 0)))]) (wc := [(q1, .inr (3, [.int 0, .int (-1), .int 1, .ref (am 1)])), (am 1, .inr (4, [.int 1, .ref (am 2), .int 1])), (am 2, .inl (cy 10, 10, .inr (.inr (.inr (.inr (va_up (fun _ => none) 0 (some (am 3))))))))]) (As := []) (rest := []) ⟨hx, hb, hml, hown, hts⟩ (m_next0 l D cy q1 (am 1) (am 2) (am 3) _ 1) (va_cwF 0 hts gX14_checksum_Jx35411_next_0502b_f118Jx35411 rfl rfl rfl hJS.2.2.2.2.2.2.2 (by decide +kernel) ⟨by decide, by decide⟩) hK hN hP hD hS hA (ci := 3) (q0 := 0) rfl rfl rfl rfl hl.1 rfl (Nat.le_of_ble_eq_true rfl) dX14_checksum_27 ⟨Nat.le_of_ble_eq_true rfl, Nat.le_of_ble_eq_true rfl⟩ (fun H locs hB hJ hS => ?_)
  obtain ⟨hP1, hD1⟩ := hB
  obtain ⟨hP, hD⟩ := hJ _ hP1 hD1
  have hP := hP.sub (ws' := [(am 0, .inr (19, [.int 0, .ref (am 1), .ref (am 4), .ref (am 5), .ref (am 6), .ref (am 7), .ref (am 8), .int 0, .ref (am 9), .int 0, .int (-1), .int 100, .ref (am 10), .long 0, .int 0, .int 0, .int 0, .int 0, .long 0])), (am 1, .inr (4, [.int 1, .ref (am 2), .int 1])), (am 2, .inl (cy 10, 10, .inr (.inr (.inr (.inr (va_up (fun _ => none) 0 (some (am 3)))))))), (am 3, .inr (15, [.int 104, .int 4, .int 0, .int 1, .int 0, .int 0, .int 99, .int (-1), .int 0, .int 0, .int (-1), .int 0, .int 0, .ref (am 11), .ref (am 12), .ref (am 13)])), (am 4, .inl (cy 9, 12, .inr (.inr (.inr (.inr (fun _ => none)))))), (am 5, .inr (4, [.int 0, .ref eda, .int 0])), (am 6, .inr (4, [.int 0, .ref eda, .int 0])), (am 7, .inr (4, [.int 0, .ref eda, .int 0])), (am 8, .inl (cy 0, 0, .inl (fun _ => 0))), (am 9, .inr (4, [.int 0, .ref eda, .int 0])), (am 10, .inl (cy 0, 16, .inl (fun _ => 0))), (am 11, .inl (cy 8, 4, .inr (.inr (.inr (.inr (fun _ => none)))))), (am 12, .inl (cy 1, 4, .inl (fun _ => 0))), (am 13, .inl (cy 0, 4, .inl (fun _ => 0))), (q1, .inr (3, [.int 1, .int 0, .int 1, .ref (am 1)]))]) [0, 13, 14, 1, 2, 3, 4, 5, 6, 7, 8, 9, 10, 11, 12] rfl
  have hD := hD.sub (ws' := [(am 0, .inr (19, [.int 0, .ref (am 1), .ref (am 4), .ref (am 5), .ref (am 6), .ref (am 7), .ref (am 8), .int 0, .ref (am 9), .int 0, .int (-1), .int 100, .ref (am 10), .long 0, .int 0, .int 0, .int 0, .int 0, .long 0])), (am 1, .inr (4, [.int 1, .ref (am 2), .int 1])), (am 2, .inl (cy 10, 10, .inr (.inr (.inr (.inr (va_up (fun _ => none) 0 (some (am 3)))))))), (am 3, .inr (15, [.int 104, .int 4, .int 0, .int 1, .int 0, .int 0, .int 99, .int (-1), .int 0, .int 0, .int (-1), .int 0, .int 0, .ref (am 11), .ref (am 12), .ref (am 13)])), (am 4, .inl (cy 9, 12, .inr (.inr (.inr (.inr (fun _ => none)))))), (am 5, .inr (4, [.int 0, .ref eda, .int 0])), (am 6, .inr (4, [.int 0, .ref eda, .int 0])), (am 7, .inr (4, [.int 0, .ref eda, .int 0])), (am 8, .inl (cy 0, 0, .inl (fun _ => 0))), (am 9, .inr (4, [.int 0, .ref eda, .int 0])), (am 10, .inl (cy 0, 16, .inl (fun _ => 0))), (am 11, .inl (cy 8, 4, .inr (.inr (.inr (.inr (fun _ => none)))))), (am 12, .inl (cy 1, 4, .inl (fun _ => 0))), (am 13, .inl (cy 0, 4, .inl (fun _ => 0))), (q1, .inr (3, [.int 1, .int 0, .int 1, .ref (am 1)]))]) [0, 13, 14, 1, 2, 3, 4, 5, 6, 7, 8, 9, 10, 11, 12] (by decide) rfl
  refine va_castY hx hb hown (hts (.classLink RX14 48 "HubcascadeModel$Device") (by decide +kernel)) (hN.2.2 ("HubcascadeModel$Device", "HubcascadeModel$Device") (by decide +kernel)) (va_recv hK hP (ci := 15) (q0 := 3) rfl rfl) dX14_checksum_32 ?_
  refine lv_astore (lv' := [(4, .ref (am 3)), (3, .ref q1), (1, .long 7), (0, .ref (am 0))]) hx hb dX14_checksum_35 hl (by decide) rfl (fun ls hl => ?_)
  refine lv_ldc2 hx hb hown (hts (.constantLong RX14 413 (31)) (by decide +kernel)) dX14_checksum_37 ?_
  refine lv_lload_n hx hb dX14_checksum_40 rfl (lv_at hl 2 rfl) ?_
  refine lv_lmul hx hb dX14_checksum_41 ?_
  refine lv_topl (fun y ey => ?_)
  obtain rfl : y = 217 := ey.trans (by decide)
  refine lv_aload hx hb dX14_checksum_42 (lv_at hl 0 rfl) ?_
  refine va_getN (D := D) (ci := 15) (v := .int 99) (C := RX10) (T := TX10) (N := 16) hx hb hts iw_X14_checksum_RX10 hown hK hP 3 rfl rfl 6 (by decide) (va_Nw.use rfl (hN.1 _ nf_83)) (fun _ h9 => h9) rfl dX14_checksum_44 ?_
  refine lv_i2l (v := 99) hx hb dX14_checksum_47 (by decide) ?_
  refine lv_ladd hx hb dX14_checksum_48 ?_
  refine lv_topl (fun y ey => ?_)
  obtain rfl : y = 316 := ey.trans (by decide)
  refine lv_aload hx hb dX14_checksum_49 (lv_at hl 0 rfl) ?_
  refine va_getN (D := D) (ci := 15) (v := .int 0) (C := RX10) (T := TX10) (N := 16) hx hb hts iw_X14_checksum_RX10 hown hK hP 3 rfl rfl 9 (by decide) (va_Nw.use rfl (hN.1 _ nf_86)) (fun _ h9 => h9) rfl dX14_checksum_51 ?_
  refine lv_i2l (v := 0) hx hb dX14_checksum_54 (by decide) ?_
  refine lv_ladd hx hb dX14_checksum_55 ?_
  refine lv_topl (fun y ey => ?_)
  obtain rfl : y = 316 := ey.trans (by decide)
  refine lv_ldc2 hx hb hown (hts (.constantLong RX14 415 (100)) (by decide +kernel)) dX14_checksum_56 ?_
  refine lv_aload hx hb dX14_checksum_59 (lv_at hl 0 rfl) ?_
  refine va_getN (D := D) (ci := 15) (v := .int 0) (C := RX10) (T := TX10) (N := 16) hx hb hts iw_X14_checksum_RX10 hown hK hP 3 rfl rfl 11 (by decide) (va_Nw.use rfl (hN.1 _ nf_88)) (fun _ h9 => h9) rfl dX14_checksum_61 ?_
  refine lv_i2l (v := 0) hx hb dX14_checksum_64 (by decide) ?_
  refine lv_lmul hx hb dX14_checksum_65 ?_
  refine lv_topl (fun y ey => ?_)
  obtain rfl : y = 0 := ey.trans (by decide)
  refine lv_ladd hx hb dX14_checksum_66 ?_
  refine lv_topl (fun y ey => ?_)
  obtain rfl : y = 316 := ey.trans (by decide)
  refine lv_lstore_n (lv' := [(1, .long 316), (4, .ref (am 3)), (3, .ref q1), (0, .ref (am 0))]) hx hb dX14_checksum_67 rfl hl (by decide) rfl (fun ls hl => ?_)
  refine lv_goto (tgt := 17) hx hb dX14_checksum_68 (by decide) ?_
  refine lv_aload_n hx hb dX14_checksum_17 rfl (lv_at hl 2 rfl) ?_
  refine ro_callF (As := []) (rest := []) ⟨hx, hb, hml, hown, hts⟩ (c_hasNext0 l D cy _ 14 1 q1 (am 1) (am 2) 1 0 1 1 1 rfl rfl (by decide)) (va_cwF 0 hts gX14_checksum_Jx35411_hasNext_aae02_f112Jx35411 rfl rfl rfl hJS.2.2.2.2.2.2.1 (by decide +kernel) ⟨by decide, by decide⟩) hK hN hP hS (ci := 3) (q0 := 14) rfl rfl rfl rfl hl.1 rfl (Nat.le_of_ble_eq_true rfl) dX14_checksum_18 ⟨Nat.le_of_ble_eq_true rfl, Nat.le_of_ble_eq_true rfl⟩ (fun H locs hP hS => ?_)
  refine lv_if_eq (tgt := 71) hx hb dX14_checksum_23 (by decide) (fun _ => ?_) (fun c => absurd (by decide) c)
  have hP := hP.sub (ws' := WM cy am eda 0) [0, 1, 2, 3, 4, 5, 6, 7, 8, 9, 10, 11, 12, 13] rfl
  have hD := hD.sub (ws' := WM cy am eda 0) [0, 1, 2, 3, 4, 5, 6, 7, 8, 9, 10, 11, 12, 13] (by decide) rfl
  refine lv_iconst (v := 0) hx hb dX14_checksum_71 (by decide) ?_
  refine lv_aload_n hx hb dX14_checksum_72 rfl (lv_at hl 3 rfl) ?_
  refine va_get (D := D) (ci := 19) (v := .ref (am 9)) (C := RX14) (T := TX14) (N := 19) hx hb hts iw_X14_checksum_RX14 hown hK hP 0 rfl rfl 8 (by decide) (hts (.fieldLink RX14 35 "HubcascadeModel" "got" "Ljava/util/ArrayList;") (by decide +kernel)) (fun _ h9 => h9) rfl dX14_checksum_73 ?_
  refine ro_callV (As := []) (rest := [.int 0]) ⟨hx, hb, hml, hown, hts⟩ (c_size l D cy _ 9 (am 9) eda 0 0 rfl) (cwV 0 hts gX14_checksum_Jx4a65c_size_8abf5 rfl rfl rfl (by decide +kernel) ⟨by decide, by decide⟩) hK hN hP hS (ci := 4) (q0 := 9) rfl rfl rfl rfl hl.1 rfl (Nat.le_of_ble_eq_true rfl) dX14_checksum_76 ⟨Nat.le_of_ble_eq_true rfl, Nat.le_of_ble_eq_true rfl⟩ (fun H locs hP hS => ?_)
  refine lv_bipush (v := 32) hx hb dX14_checksum_79 (by decide) ?_
  refine lv_isub hx hb dX14_checksum_81 ?_
  refine lv_topi (fun y ey => ?_)
  obtain rfl : y = (-32) := ey.trans (by decide)
  refine va_mmax hx hb (hml.trans hl.1.symm) hown (hts (.methodLink RX14 251 Lib.Math.max.name) (by decide +kernel)) (hts (.static Lib.Math.max.name) (by decide +kernel)) (hts (.initialized "java/lang/Math") (by decide +kernel)) (hts (.code Lib.Math.max.name Lib.Math.max.code 2 (some .int)) (by decide +kernel)) (Nat.le_of_ble_eq_true rfl) (Nat.le_of_ble_eq_true rfl) (Nat.le_of_ble_eq_true rfl) (Nat.le_of_ble_eq_true rfl) dX14_checksum_82 ?_
  refine lv_topi (fun y ey => ?_)
  obtain rfl : y = 0 := ey.trans (by decide)
  refine lv_istore_n (lv' := [(3, .int 0), (1, .long 316), (4, .ref (am 3)), (0, .ref (am 0))]) hx hb dX14_checksum_85 rfl hl (by decide) rfl (fun ls hl => ?_)
  refine lv_iload_n hx hb dX14_checksum_86 rfl (lv_at hl 0 rfl) ?_
  refine lv_aload_n hx hb dX14_checksum_87 rfl (lv_at hl 3 rfl) ?_
  refine va_get (D := D) (ci := 19) (v := .ref (am 9)) (C := RX14) (T := TX14) (N := 19) hx hb hts iw_X14_checksum_RX14 hown hK hP 0 rfl rfl 8 (by decide) (hts (.fieldLink RX14 35 "HubcascadeModel" "got" "Ljava/util/ArrayList;") (by decide +kernel)) (fun _ h9 => h9) rfl dX14_checksum_88 ?_
  refine ro_callV (As := []) (rest := [.int 0]) ⟨hx, hb, hml, hown, hts⟩ (c_size l D cy _ 9 (am 9) eda 0 0 rfl) (cwV 0 hts gX14_checksum_Jx4a65c_size_8abf5 rfl rfl rfl (by decide +kernel) ⟨by decide, by decide⟩) hK hN hP hS (ci := 4) (q0 := 9) rfl rfl rfl rfl hl.1 rfl (Nat.le_of_ble_eq_true rfl) dX14_checksum_91 ⟨Nat.le_of_ble_eq_true rfl, Nat.le_of_ble_eq_true rfl⟩ (fun H locs hP hS => ?_)
  refine lv_icmp_ge (tgt := 125) hx hb dX14_checksum_94 (by decide) (fun _ => ?_) (fun c => absurd (by decide) c)
  refine lv_lload_n hx hb dX14_checksum_125 rfl (lv_at hl 1 rfl) ?_
  refine W.widen (k := 1) (n := 4) (Nat.le_of_ble_eq_true rfl) (Nat.le_of_ble_eq_true rfl) ?_
  have hP9 := hP.sub (ws' := [(am 0, .inr (19, [.int 0, .ref (am 1), .ref (am 4), .ref (am 5), .ref (am 6), .ref (am 7), .ref (am 8), .int 0, .ref (am 9), .int 0, .int (-1), .int 100, .ref (am 10), .long 0, .int 0, .int 0, .int 0, .int 0, .long 0]))]) [0] rfl
  have hD9 := hD.sub (ws' := [(am 0, .inr (19, [.int 0, .ref (am 1), .ref (am 4), .ref (am 5), .ref (am 6), .ref (am 7), .ref (am 8), .int 0, .ref (am 9), .int 0, .int (-1), .int 100, .ref (am 10), .long 0, .int 0, .int 0, .int 0, .int 0, .long 0]))]) [0] (by decide) rfl
  exact W.lret hx hb hr (fun t ht hW => ⟨rfl, ⟨by rw [ht]; exact hP9, hD9⟩, hS.F ht⟩) hS.2.2 dX14_checksum_126

theorem iw_X14_isSound_RX14 : ∀ w ∈ u_ws RX14 TX14 19, w ∈ wsX14_isSound := by decide +kernel
set_option maxRecDepth 100000 in
set_option maxHeartbeats 4000000 in
theorem a_isSound (l : Launch) (D : va_G) (cy : Nat → ClassId) {ca : Nat} {ia : Nat → Nat} {am : Nat → Nat} {eda : Nat} {th : Int32} (sz : Nat) : MJ l D cy eda ca ia (WM cy am eda th) sz yX14_isSound wsX14_isSound 0 0 0 0 [.ref (am 0)] (some (.int 1)) (fun H => va_P D vwCl ([(am 0, .inr (19, [.int 0, .ref (am 1), .ref (am 4), .ref (am 5), .ref (am 6), .ref (am 7), .ref (am 8), .int 0, .ref (am 9), .int 0, .int (-1), .int 100, .ref (am 10), .long 0, .int 0, .int 0, .int 0, .int 0, .long 0]))]) H ∧ va_D (va_A (WM cy am eda th) sz) ([(am 0, .inr (19, [.int 0, .ref (am 1), .ref (am 4), .ref (am 5), .ref (am 6), .ref (am 7), .ref (am 8), .int 0, .ref (am 9), .int 0, .int (-1), .int 100, .ref (am 10), .long 0, .int 0, .int 0, .int 0, .int 0, .long 0]))])) := by
  refine ro_ofW (cc := cX14_isSound) (maxL := 1) (ret := (some .boolean)) (lv := [(0, .ref (am 0))]) (by decide) rfl (Nat.le_of_ble_eq_true rfl) rfl ?_
  intro p e s m below meth c ls hx hb hr hml hown hlocks hname hts hv hl
  have hown : s.vm.findClass RX14 = some m.cls := hown
  obtain ⟨⟨⟨hsz, hP, hD0⟩, hK, hN⟩, hJS⟩ := hv
  subst hsz
  have hD := hD0.self (sz := s.heap.size)
  generalize hAe : va_A (WM cy am eda th) s.heap.size = A at hD hJS ⊢
  have hA : ∀ q : Nat, s.heap.size ≤ q → A q := fun q h => by rw [← hAe]; exact Or.inr h
  have hS : va_S A s.heap s.heap [] := va_S.rf
  refine lv_aload_n hx hb dX14_isSound_0 rfl (lv_at hl 0 rfl) ?_
  refine lv_iconst (v := 0) hx hb dX14_isSound_1 (by decide) ?_
  refine va_put (D := D) (ci := 19) (v := .int 0) (ty := .int) (C := RX14) (T := TX14) (N := 19) hx hb hts iw_X14_isSound_RX14 tyX14 tyX14_ok nmX14 hown hK hP hD hS 0 rfl rfl 0 (by decide) (hts (.fieldLink RX14 61 "HubcascadeModel" "thrown" "I") (by decide +kernel)) (fun _ h9 => h9) rfl (by decide +kernel) rfl rfl (Nat.le_of_ble_eq_true rfl) dX14_isSound_2 (fun H locs hP hD hS => ?_)
  have hP : va_P D vwCl (WM cy am eda 0) H := hP
  have hD : va_D A (WM cy am eda 0) := hD
  refine lv_iconst (v := 1) hx hb dX14_isSound_5 (by decide) ?_
  refine W.widen (k := 0) (n := 0) (Nat.le_of_ble_eq_true rfl) (Nat.le_of_ble_eq_true rfl) ?_
  have hP9 := hP.sub (ws' := [(am 0, .inr (19, [.int 0, .ref (am 1), .ref (am 4), .ref (am 5), .ref (am 6), .ref (am 7), .ref (am 8), .int 0, .ref (am 9), .int 0, .int (-1), .int 100, .ref (am 10), .long 0, .int 0, .int 0, .int 0, .int 0, .long 0]))]) [0] rfl
  have hD9 := hD.sub (ws' := [(am 0, .inr (19, [.int 0, .ref (am 1), .ref (am 4), .ref (am 5), .ref (am 6), .ref (am 7), .ref (am 8), .int 0, .ref (am 9), .int 0, .int (-1), .int 100, .ref (am 10), .long 0, .int 0, .int 0, .int 0, .int 0, .long 0]))]) [0] (by decide) rfl
  exact W.zret hx hb hr (by decide) (fun t ht hW => ⟨rfl, ⟨by rw [ht]; exact hP9, hD9⟩, hS.F ht⟩) hS.2.2 dX14_isSound_6
