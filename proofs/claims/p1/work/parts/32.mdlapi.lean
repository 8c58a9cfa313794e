theorem iw_X14_make_RX14 : ∀ w ∈ u_ws RX14 TX14 19, w ∈ wsX14_make := by decide +kernel
set_option maxRecDepth 100000 in
set_option maxHeartbeats 4000000 in
theorem a_make_1 (l : Launch) (D : va_G) (cy : Nat → ClassId) {ca : Nat} {ia : Nat → Nat} {am : Nat → Nat} {eda : Nat} {th : Int32} (sz : Nat) (q a b o z : Int32) (h : ¬ ((q = 108 ∨ q = 102 ∨ q = 104) ∧ (¬ a < 0 ∧ ¬ 4 < a) ∧ (¬ b < 1 ∧ ¬ 5 < b) ∧ (¬ z < 0 ∧ ¬ 99 < z) ∧ ¬ (q = 108 ∧ 0 < a))) : MJ l D cy eda ca ia (WM cy am eda th) sz yX14_make wsX14_make 1 0 0 22 [.ref (am 0), .int q, .int a, .int b, .int o, .int z] (some (.int 0)) (fun H => va_P D vwCl ([(am 0, .inr (19, [.int 1, .ref (am 1), .ref (am 4), .ref (am 5), .ref (am 6), .ref (am 7), .ref (am 8), .int 0, .ref (am 9), .int 0, .int (-1), .int 100, .ref (am 10), .long 0, .int 0, .int 0, .int 0, .int 0, .long 0]))]) H ∧ va_D (va_A (WM cy am eda th) sz) ([(am 0, .inr (19, [.int 1, .ref (am 1), .ref (am 4), .ref (am 5), .ref (am 6), .ref (am 7), .ref (am 8), .int 0, .ref (am 9), .int 0, .int (-1), .int 100, .ref (am 10), .long 0, .int 0, .int 0, .int 0, .int 0, .long 0]))])) := by
  refine ro_ofW (cc := cX14_make) (maxL := 7) (ret := (some .int)) (lv := [(0, .ref (am 0)), (1, .int q), (2, .int a), (3, .int b), (4, .int o), (5, .int z)]) (by decide) rfl (Nat.le_of_ble_eq_true rfl) rfl ?_
  intro p e s m below meth c ls hx hb hr hml hown hlocks hname hts hv hl
  have hown : s.vm.findClass RX14 = some m.cls := hown
  obtain ⟨⟨⟨hsz, hP, hD0⟩, hK, hN⟩, hJS⟩ := hv
  subst hsz
  have hD := hD0.self (sz := s.heap.size)
  generalize hAe : va_A (WM cy am eda th) s.heap.size = A at hD hJS ⊢
  have hA : ∀ q : Nat, s.heap.size ≤ q → A q := fun q h => by rw [← hAe]; exact Or.inr h
  have hS : va_S A s.heap s.heap [] := va_S.rf
  refine lv_iload_n hx hb dX14_make_0 rfl (lv_at hl 1 rfl) ?_
  refine lv_bipush (v := 108) hx hb dX14_make_1 (by decide) ?_
  refine lv_icmp_eq (tgt := 18) hx hb dX14_make_3 (by decide) (fun c3 => ?_) (fun c3 => ?_)
  · refine lv_iload_n hx hb dX14_make_18 rfl (lv_at hl 2 rfl) ?_
    refine lv_iconst (v := 0) hx hb dX14_make_19 (by decide) ?_
    refine lv_iconst (v := 4) hx hb dX14_make_20 (by decide) ?_
    by_cases h2 : (¬ a < 0 ∧ ¬ 4 < a)
    · refine ro_callS (As := [.int a, .int 0, .int 4]) (rest := []) ⟨hx, hb, hml, hown, hts⟩ (c_in_t l D cy _ _ _ _ h2.1 h2.2) (va_cwS 3 hts gX14_make_X14_in rfl rfl rfl (by decide +kernel) ⟨by decide, by decide⟩) hK hN hP hS rfl hl.1 rfl (Nat.le_of_ble_eq_true rfl) dX14_make_21 ⟨Nat.le_of_ble_eq_true rfl, Nat.le_of_ble_eq_true rfl⟩ (fun H locs hP hS => ?_)
      refine lv_if_eq (tgt := 51) hx hb dX14_make_24 (by decide) (fun c => absurd c (by decide)) (fun _ => ?_)
      refine lv_iload_n hx hb dX14_make_27 rfl (lv_at hl 3 rfl) ?_
      refine lv_iconst (v := 1) hx hb dX14_make_28 (by decide) ?_
      refine lv_iconst (v := 5) hx hb dX14_make_29 (by decide) ?_
      by_cases h3 : (¬ b < 1 ∧ ¬ 5 < b)
      · refine ro_callS (As := [.int b, .int 1, .int 5]) (rest := []) ⟨hx, hb, hml, hown, hts⟩ (c_in_t l D cy _ _ _ _ h3.1 h3.2) (va_cwS 3 hts gX14_make_X14_in rfl rfl rfl (by decide +kernel) ⟨by decide, by decide⟩) hK hN hP hS rfl hl.1 rfl (Nat.le_of_ble_eq_true rfl) dX14_make_30 ⟨Nat.le_of_ble_eq_true rfl, Nat.le_of_ble_eq_true rfl⟩ (fun H locs hP hS => ?_)
        refine lv_if_eq (tgt := 51) hx hb dX14_make_33 (by decide) (fun c => absurd c (by decide)) (fun _ => ?_)
        refine lv_iload hx hb dX14_make_36 (lv_at hl 5 rfl) ?_
        refine lv_iconst (v := 0) hx hb dX14_make_38 (by decide) ?_
        refine lv_bipush (v := 99) hx hb dX14_make_39 (by decide) ?_
        by_cases h4 : (¬ z < 0 ∧ ¬ 99 < z)
        · refine ro_callS (As := [.int z, .int 0, .int 99]) (rest := []) ⟨hx, hb, hml, hown, hts⟩ (c_in_t l D cy _ _ _ _ h4.1 h4.2) (va_cwS 3 hts gX14_make_X14_in rfl rfl rfl (by decide +kernel) ⟨by decide, by decide⟩) hK hN hP hS rfl hl.1 rfl (Nat.le_of_ble_eq_true rfl) dX14_make_41 ⟨Nat.le_of_ble_eq_true rfl, Nat.le_of_ble_eq_true rfl⟩ (fun H locs hP hS => ?_)
          refine lv_if_eq (tgt := 51) hx hb dX14_make_44 (by decide) (fun c => absurd c (by decide)) (fun _ => ?_)
          refine lv_iconst (v := 1) hx hb dX14_make_47 (by decide) ?_
          refine lv_goto (tgt := 52) hx hb dX14_make_48 (by decide) ?_
          refine lv_istore (lv' := [(6, .int 1), (0, .ref (am 0)), (1, .int q), (2, .int a), (3, .int b), (4, .int o), (5, .int z)]) hx hb dX14_make_52 hl (by decide) rfl (fun ls hl => ?_)
          refine lv_aload_n hx hb dX14_make_54 rfl (lv_at hl 1 rfl) ?_
          refine lv_iload hx hb dX14_make_55 (lv_at hl 0 rfl) ?_
          refine lv_if_eq (tgt := 70) hx hb dX14_make_57 (by decide) (fun c => absurd c (by decide)) (fun _ => ?_)
          refine lv_iload_n hx hb dX14_make_60 rfl (lv_at hl 2 rfl) ?_
          refine lv_bipush (v := 108) hx hb dX14_make_61 (by decide) ?_
          refine lv_icmp_ne (tgt := 74) hx hb dX14_make_63 (by decide) (fun c63 => ?_) (fun c63 => ?_)
          · exact absurd ⟨by first | exact Or.inl c3 | exact Or.inr (Or.inl c9) | exact Or.inr (Or.inr c15), h2, h3, h4, fun y => by first | exact c63 y.1 | exact my_nlt_le c67 y.2⟩ h
          · refine lv_iload_n hx hb dX14_make_66 rfl (lv_at hl 3 rfl) ?_
            refine lv_if_le (tgt := 74) hx hb dX14_make_67 (by decide) (fun c67 => ?_) (fun c67 => ?_)
            · exact absurd ⟨by first | exact Or.inl c3 | exact Or.inr (Or.inl c9) | exact Or.inr (Or.inr c15), h2, h3, h4, fun y => by first | exact c63 y.1 | exact my_nlt_le c67 y.2⟩ h
            · refine lv_iconst (v := 1) hx hb dX14_make_70 (by decide) ?_
              refine lv_goto (tgt := 91) hx hb dX14_make_71 (by decide) ?_
              refine va_put (D := D) (ci := 19) (v := .int 1) (ty := .int) (C := RX14) (T := TX14) (N := 19) hx hb hts iw_X14_make_RX14 tyX14 tyX14_ok nmX14 hown hK hP hD hS 0 rfl rfl 0 (by decide) (hts (.fieldLink RX14 61 "HubcascadeModel" "thrown" "I") (by decide +kernel)) (fun _ h9 => h9) rfl (by decide +kernel) rfl rfl (Nat.le_of_ble_eq_true rfl) dX14_make_91 (fun H locs hP hD hS => ?_)
              have hP : va_P D vwCl (WM cy am eda 1) H := hP
              have hD : va_D A (WM cy am eda 1) := hD
              refine lv_aload_n hx hb dX14_make_94 rfl (lv_at hl 1 rfl) ?_
              refine va_get (D := D) (ci := 19) (v := .int 1) (C := RX14) (T := TX14) (N := 19) hx hb hts iw_X14_make_RX14 hown hK hP 0 rfl rfl 0 (by decide) (hts (.fieldLink RX14 61 "HubcascadeModel" "thrown" "I") (by decide +kernel)) (fun _ h9 => h9) rfl dX14_make_95 ?_
              refine lv_if_le (tgt := 103) hx hb dX14_make_98 (by decide) (fun c => absurd c (by decide)) (fun _ => ?_)
              refine lv_iconst (v := 0) hx hb dX14_make_101 (by decide) ?_
              refine W.widen (k := 0) (n := 0) (Nat.le_of_ble_eq_true rfl) (Nat.le_of_ble_eq_true rfl) ?_
              have hP9 := hP.sub (ws' := [(am 0, .inr (19, [.int 1, .ref (am 1), .ref (am 4), .ref (am 5), .ref (am 6), .ref (am 7), .ref (am 8), .int 0, .ref (am 9), .int 0, .int (-1), .int 100, .ref (am 10), .long 0, .int 0, .int 0, .int 0, .int 0, .long 0]))]) [0] rfl
              have hD9 := hD.sub (ws' := [(am 0, .inr (19, [.int 1, .ref (am 1), .ref (am 4), .ref (am 5), .ref (am 6), .ref (am 7), .ref (am 8), .int 0, .ref (am 9), .int 0, .int (-1), .int 100, .ref (am 10), .long 0, .int 0, .int 0, .int 0, .int 0, .long 0]))]) [0] (by decide) rfl
              exact W.iret hx hb hr (fun t ht hW => ⟨rfl, ⟨by rw [ht]; exact hP9, hD9⟩, hS.F ht⟩) hS.2.2 dX14_make_102
        · refine ro_callS (As := [.int z, .int 0, .int 99]) (rest := []) ⟨hx, hb, hml, hown, hts⟩ (c_in_f l D cy _ _ _ _ (my_out h4)) (va_cwS 3 hts gX14_make_X14_in rfl rfl rfl (by decide +kernel) ⟨by decide, by decide⟩) hK hN hP hS rfl hl.1 rfl (Nat.le_of_ble_eq_true rfl) dX14_make_41 ⟨Nat.le_of_ble_eq_true rfl, Nat.le_of_ble_eq_true rfl⟩ (fun H locs hP hS => ?_)
          refine lv_if_eq (tgt := 51) hx hb dX14_make_44 (by decide) (fun _ => ?_) (fun c => absurd (by decide) c)
          refine lv_iconst (v := 0) hx hb dX14_make_51 (by decide) ?_
          refine lv_istore (lv' := [(6, .int 0), (0, .ref (am 0)), (1, .int q), (2, .int a), (3, .int b), (4, .int o), (5, .int z)]) hx hb dX14_make_52 hl (by decide) rfl (fun ls hl => ?_)
          refine lv_aload_n hx hb dX14_make_54 rfl (lv_at hl 1 rfl) ?_
          refine lv_iload hx hb dX14_make_55 (lv_at hl 0 rfl) ?_
          refine lv_if_eq (tgt := 70) hx hb dX14_make_57 (by decide) (fun _ => ?_) (fun c => absurd (by decide) c)
          refine lv_iconst (v := 1) hx hb dX14_make_70 (by decide) ?_
          refine lv_goto (tgt := 91) hx hb dX14_make_71 (by decide) ?_
          refine va_put (D := D) (ci := 19) (v := .int 1) (ty := .int) (C := RX14) (T := TX14) (N := 19) hx hb hts iw_X14_make_RX14 tyX14 tyX14_ok nmX14 hown hK hP hD hS 0 rfl rfl 0 (by decide) (hts (.fieldLink RX14 61 "HubcascadeModel" "thrown" "I") (by decide +kernel)) (fun _ h9 => h9) rfl (by decide +kernel) rfl rfl (Nat.le_of_ble_eq_true rfl) dX14_make_91 (fun H locs hP hD hS => ?_)
          have hP : va_P D vwCl (WM cy am eda 1) H := hP
          have hD : va_D A (WM cy am eda 1) := hD
          refine lv_aload_n hx hb dX14_make_94 rfl (lv_at hl 1 rfl) ?_
          refine va_get (D := D) (ci := 19) (v := .int 1) (C := RX14) (T := TX14) (N := 19) hx hb hts iw_X14_make_RX14 hown hK hP 0 rfl rfl 0 (by decide) (hts (.fieldLink RX14 61 "HubcascadeModel" "thrown" "I") (by decide +kernel)) (fun _ h9 => h9) rfl dX14_make_95 ?_
          refine lv_if_le (tgt := 103) hx hb dX14_make_98 (by decide) (fun c => absurd c (by decide)) (fun _ => ?_)
          refine lv_iconst (v := 0) hx hb dX14_make_101 (by decide) ?_
          refine W.widen (k := 0) (n := 0) (Nat.le_of_ble_eq_true rfl) (Nat.le_of_ble_eq_true rfl) ?_
          have hP9 := hP.sub (ws' := [(am 0, .inr (19, [.int 1, .ref (am 1), .ref (am 4), .ref (am 5), .ref (am 6), .ref (am 7), .ref (am 8), .int 0, .ref (am 9), .int 0, .int (-1), .int 100, .ref (am 10), .long 0, .int 0, .int 0, .int 0, .int 0, .long 0]))]) [0] rfl
          have hD9 := hD.sub (ws' := [(am 0, .inr (19, [.int 1, .ref (am 1), .ref (am 4), .ref (am 5), .ref (am 6), .ref (am 7), .ref (am 8), .int 0, .ref (am 9), .int 0, .int (-1), .int 100, .ref (am 10), .long 0, .int 0, .int 0, .int 0, .int 0, .long 0]))]) [0] (by decide) rfl
          exact W.iret hx hb hr (fun t ht hW => ⟨rfl, ⟨by rw [ht]; exact hP9, hD9⟩, hS.F ht⟩) hS.2.2 dX14_make_102
      · refine ro_callS (As := [.int b, .int 1, .int 5]) (rest := []) ⟨hx, hb, hml, hown, hts⟩ (c_in_f l D cy _ _ _ _ (my_out h3)) (va_cwS 3 hts gX14_make_X14_in rfl rfl rfl (by decide +kernel) ⟨by decide, by decide⟩) hK hN hP hS rfl hl.1 rfl (Nat.le_of_ble_eq_true rfl) dX14_make_30 ⟨Nat.le_of_ble_eq_true rfl, Nat.le_of_ble_eq_true rfl⟩ (fun H locs hP hS => ?_)
        refine lv_if_eq (tgt := 51) hx hb dX14_make_33 (by decide) (fun _ => ?_) (fun c => absurd (by decide) c)
        refine lv_iconst (v := 0) hx hb dX14_make_51 (by decide) ?_
        refine lv_istore (lv' := [(6, .int 0), (0, .ref (am 0)), (1, .int q), (2, .int a), (3, .int b), (4, .int o), (5, .int z)]) hx hb dX14_make_52 hl (by decide) rfl (fun ls hl => ?_)
        refine lv_aload_n hx hb dX14_make_54 rfl (lv_at hl 1 rfl) ?_
        refine lv_iload hx hb dX14_make_55 (lv_at hl 0 rfl) ?_
        refine lv_if_eq (tgt := 70) hx hb dX14_make_57 (by decide) (fun _ => ?_) (fun c => absurd (by decide) c)
        refine lv_iconst (v := 1) hx hb dX14_make_70 (by decide) ?_
        refine lv_goto (tgt := 91) hx hb dX14_make_71 (by decide) ?_
        refine va_put (D := D) (ci := 19) (v := .int 1) (ty := .int) (C := RX14) (T := TX14) (N := 19) hx hb hts iw_X14_make_RX14 tyX14 tyX14_ok nmX14 hown hK hP hD hS 0 rfl rfl 0 (by decide) (hts (.fieldLink RX14 61 "HubcascadeModel" "thrown" "I") (by decide +kernel)) (fun _ h9 => h9) rfl (by decide +kernel) rfl rfl (Nat.le_of_ble_eq_true rfl) dX14_make_91 (fun H locs hP hD hS => ?_)
        have hP : va_P D vwCl (WM cy am eda 1) H := hP
        have hD : va_D A (WM cy am eda 1) := hD
        refine lv_aload_n hx hb dX14_make_94 rfl (lv_at hl 1 rfl) ?_
        refine va_get (D := D) (ci := 19) (v := .int 1) (C := RX14) (T := TX14) (N := 19) hx hb hts iw_X14_make_RX14 hown hK hP 0 rfl rfl 0 (by decide) (hts (.fieldLink RX14 61 "HubcascadeModel" "thrown" "I") (by decide +kernel)) (fun _ h9 => h9) rfl dX14_make_95 ?_
        refine lv_if_le (tgt := 103) hx hb dX14_make_98 (by decide) (fun c => absurd c (by decide)) (fun _ => ?_)
        refine lv_iconst (v := 0) hx hb dX14_make_101 (by decide) ?_
        refine W.widen (k := 0) (n := 0) (Nat.le_of_ble_eq_true rfl) (Nat.le_of_ble_eq_true rfl) ?_
        have hP9 := hP.sub (ws' := [(am 0, .inr (19, [.int 1, .ref (am 1), .ref (am 4), .ref (am 5), .ref (am 6), .ref (am 7), .ref (am 8), .int 0, .ref (am 9), .int 0, .int (-1), .int 100, .ref (am 10), .long 0, .int 0, .int 0, .int 0, .int 0, .long 0]))]) [0] rfl
        have hD9 := hD.sub (ws' := [(am 0, .inr (19, [.int 1, .ref (am 1), .ref (am 4), .ref (am 5), .ref (am 6), .ref (am 7), .ref (am 8), .int 0, .ref (am 9), .int 0, .int (-1), .int 100, .ref (am 10), .long 0, .int 0, .int 0, .int 0, .int 0, .long 0]))]) [0] (by decide) rfl
        exact W.iret hx hb hr (fun t ht hW => ⟨rfl, ⟨by rw [ht]; exact hP9, hD9⟩, hS.F ht⟩) hS.2.2 dX14_make_102
    · refine ro_callS (As := [.int a, .int 0, .int 4]) (rest := []) ⟨hx, hb, hml, hown, hts⟩ (c_in_f l D cy _ _ _ _ (my_out h2)) (va_cwS 3 hts gX14_make_X14_in rfl rfl rfl (by decide +kernel) ⟨by decide, by decide⟩) hK hN hP hS rfl hl.1 rfl (Nat.le_of_ble_eq_true rfl) dX14_make_21 ⟨Nat.le_of_ble_eq_true rfl, Nat.le_of_ble_eq_true rfl⟩ (fun H locs hP hS => ?_)
      refine lv_if_eq (tgt := 51) hx hb dX14_make_24 (by decide) (fun _ => ?_) (fun c => absurd (by decide) c)
      refine lv_iconst (v := 0) hx hb dX14_make_51 (by decide) ?_
      refine lv_istore (lv' := [(6, .int 0), (0, .ref (am 0)), (1, .int q), (2, .int a), (3, .int b), (4, .int o), (5, .int z)]) hx hb dX14_make_52 hl (by decide) rfl (fun ls hl => ?_)
      refine lv_aload_n hx hb dX14_make_54 rfl (lv_at hl 1 rfl) ?_
      refine lv_iload hx hb dX14_make_55 (lv_at hl 0 rfl) ?_
      refine lv_if_eq (tgt := 70) hx hb dX14_make_57 (by decide) (fun _ => ?_) (fun c => absurd (by decide) c)
      refine lv_iconst (v := 1) hx hb dX14_make_70 (by decide) ?_
      refine lv_goto (tgt := 91) hx hb dX14_make_71 (by decide) ?_
      refine va_put (D := D) (ci := 19) (v := .int 1) (ty := .int) (C := RX14) (T := TX14) (N := 19) hx hb hts iw_X14_make_RX14 tyX14 tyX14_ok nmX14 hown hK hP hD hS 0 rfl rfl 0 (by decide) (hts (.fieldLink RX14 61 "HubcascadeModel" "thrown" "I") (by decide +kernel)) (fun _ h9 => h9) rfl (by decide +kernel) rfl rfl (Nat.le_of_ble_eq_true rfl) dX14_make_91 (fun H locs hP hD hS => ?_)
      have hP : va_P D vwCl (WM cy am eda 1) H := hP
      have hD : va_D A (WM cy am eda 1) := hD
      refine lv_aload_n hx hb dX14_make_94 rfl (lv_at hl 1 rfl) ?_
      refine va_get (D := D) (ci := 19) (v := .int 1) (C := RX14) (T := TX14) (N := 19) hx hb hts iw_X14_make_RX14 hown hK hP 0 rfl rfl 0 (by decide) (hts (.fieldLink RX14 61 "HubcascadeModel" "thrown" "I") (by decide +kernel)) (fun _ h9 => h9) rfl dX14_make_95 ?_
      refine lv_if_le (tgt := 103) hx hb dX14_make_98 (by decide) (fun c => absurd c (by decide)) (fun _ => ?_)
      refine lv_iconst (v := 0) hx hb dX14_make_101 (by decide) ?_
      refine W.widen (k := 0) (n := 0) (Nat.le_of_ble_eq_true rfl) (Nat.le_of_ble_eq_true rfl) ?_
      have hP9 := hP.sub (ws' := [(am 0, .inr (19, [.int 1, .ref (am 1), .ref (am 4), .ref (am 5), .ref (am 6), .ref (am 7), .ref (am 8), .int 0, .ref (am 9), .int 0, .int (-1), .int 100, .ref (am 10), .long 0, .int 0, .int 0, .int 0, .int 0, .long 0]))]) [0] rfl
      have hD9 := hD.sub (ws' := [(am 0, .inr (19, [.int 1, .ref (am 1), .ref (am 4), .ref (am 5), .ref (am 6), .ref (am 7), .ref (am 8), .int 0, .ref (am 9), .int 0, .int (-1), .int 100, .ref (am 10), .long 0, .int 0, .int 0, .int 0, .int 0, .long 0]))]) [0] (by decide) rfl
      exact W.iret hx hb hr (fun t ht hW => ⟨rfl, ⟨by rw [ht]; exact hP9, hD9⟩, hS.F ht⟩) hS.2.2 dX14_make_102
  · refine lv_iload_n hx hb dX14_make_6 rfl (lv_at hl 1 rfl) ?_
    refine lv_bipush (v := 102) hx hb dX14_make_7 (by decide) ?_
    refine lv_icmp_eq (tgt := 18) hx hb dX14_make_9 (by decide) (fun c9 => ?_) (fun c9 => ?_)
    · refine lv_iload_n hx hb dX14_make_18 rfl (lv_at hl 2 rfl) ?_
      refine lv_iconst (v := 0) hx hb dX14_make_19 (by decide) ?_
      refine lv_iconst (v := 4) hx hb dX14_make_20 (by decide) ?_
      by_cases h2 : (¬ a < 0 ∧ ¬ 4 < a)
      · refine ro_callS (As := [.int a, .int 0, .int 4]) (rest := []) ⟨hx, hb, hml, hown, hts⟩ (c_in_t l D cy _ _ _ _ h2.1 h2.2) (va_cwS 3 hts gX14_make_X14_in rfl rfl rfl (by decide +kernel) ⟨by decide, by decide⟩) hK hN hP hS rfl hl.1 rfl (Nat.le_of_ble_eq_true rfl) dX14_make_21 ⟨Nat.le_of_ble_eq_true rfl, Nat.le_of_ble_eq_true rfl⟩ (fun H locs hP hS => ?_)
        refine lv_if_eq (tgt := 51) hx hb dX14_make_24 (by decide) (fun c => absurd c (by decide)) (fun _ => ?_)
        refine lv_iload_n hx hb dX14_make_27 rfl (lv_at hl 3 rfl) ?_
        refine lv_iconst (v := 1) hx hb dX14_make_28 (by decide) ?_
        refine lv_iconst (v := 5) hx hb dX14_make_29 (by decide) ?_
        by_cases h3 : (¬ b < 1 ∧ ¬ 5 < b)
        · refine ro_callS (As := [.int b, .int 1, .int 5]) (rest := []) ⟨hx, hb, hml, hown, hts⟩ (c_in_t l D cy _ _ _ _ h3.1 h3.2) (va_cwS 3 hts gX14_make_X14_in rfl rfl rfl (by decide +kernel) ⟨by decide, by decide⟩) hK hN hP hS rfl hl.1 rfl (Nat.le_of_ble_eq_true rfl) dX14_make_30 ⟨Nat.le_of_ble_eq_true rfl, Nat.le_of_ble_eq_true rfl⟩ (fun H locs hP hS => ?_)
          refine lv_if_eq (tgt := 51) hx hb dX14_make_33 (by decide) (fun c => absurd c (by decide)) (fun _ => ?_)
          refine lv_iload hx hb dX14_make_36 (lv_at hl 5 rfl) ?_
          refine lv_iconst (v := 0) hx hb dX14_make_38 (by decide) ?_
          refine lv_bipush (v := 99) hx hb dX14_make_39 (by decide) ?_
          by_cases h4 : (¬ z < 0 ∧ ¬ 99 < z)
          · refine ro_callS (As := [.int z, .int 0, .int 99]) (rest := []) ⟨hx, hb, hml, hown, hts⟩ (c_in_t l D cy _ _ _ _ h4.1 h4.2) (va_cwS 3 hts gX14_make_X14_in rfl rfl rfl (by decide +kernel) ⟨by decide, by decide⟩) hK hN hP hS rfl hl.1 rfl (Nat.le_of_ble_eq_true rfl) dX14_make_41 ⟨Nat.le_of_ble_eq_true rfl, Nat.le_of_ble_eq_true rfl⟩ (fun H locs hP hS => ?_)
            refine lv_if_eq (tgt := 51) hx hb dX14_make_44 (by decide) (fun c => absurd c (by decide)) (fun _ => ?_)
            refine lv_iconst (v := 1) hx hb dX14_make_47 (by decide) ?_
            refine lv_goto (tgt := 52) hx hb dX14_make_48 (by decide) ?_
            refine lv_istore (lv' := [(6, .int 1), (0, .ref (am 0)), (1, .int q), (2, .int a), (3, .int b), (4, .int o), (5, .int z)]) hx hb dX14_make_52 hl (by decide) rfl (fun ls hl => ?_)
            refine lv_aload_n hx hb dX14_make_54 rfl (lv_at hl 1 rfl) ?_
            refine lv_iload hx hb dX14_make_55 (lv_at hl 0 rfl) ?_
            refine lv_if_eq (tgt := 70) hx hb dX14_make_57 (by decide) (fun c => absurd c (by decide)) (fun _ => ?_)
            refine lv_iload_n hx hb dX14_make_60 rfl (lv_at hl 2 rfl) ?_
            refine lv_bipush (v := 108) hx hb dX14_make_61 (by decide) ?_
            refine lv_icmp_ne (tgt := 74) hx hb dX14_make_63 (by decide) (fun c63 => ?_) (fun c63 => ?_)
            · exact absurd ⟨by first | exact Or.inl c3 | exact Or.inr (Or.inl c9) | exact Or.inr (Or.inr c15), h2, h3, h4, fun y => by first | exact c63 y.1 | exact my_nlt_le c67 y.2⟩ h
            · refine lv_iload_n hx hb dX14_make_66 rfl (lv_at hl 3 rfl) ?_
              refine lv_if_le (tgt := 74) hx hb dX14_make_67 (by decide) (fun c67 => ?_) (fun c67 => ?_)
              · exact absurd ⟨by first | exact Or.inl c3 | exact Or.inr (Or.inl c9) | exact Or.inr (Or.inr c15), h2, h3, h4, fun y => by first | exact c63 y.1 | exact my_nlt_le c67 y.2⟩ h
              · refine lv_iconst (v := 1) hx hb dX14_make_70 (by decide) ?_
                refine lv_goto (tgt := 91) hx hb dX14_make_71 (by decide) ?_
                refine va_put (D := D) (ci := 19) (v := .int 1) (ty := .int) (C := RX14) (T := TX14) (N := 19) hx hb hts iw_X14_make_RX14 tyX14 tyX14_ok nmX14 hown hK hP hD hS 0 rfl rfl 0 (by decide) (hts (.fieldLink RX14 61 "HubcascadeModel" "thrown" "I") (by decide +kernel)) (fun _ h9 => h9) rfl (by decide +kernel) rfl rfl (Nat.le_of_ble_eq_true rfl) dX14_make_91 (fun H locs hP hD hS => ?_)
                have hP : va_P D vwCl (WM cy am eda 1) H := hP
                have hD : va_D A (WM cy am eda 1) := hD
                refine lv_aload_n hx hb dX14_make_94 rfl (lv_at hl 1 rfl) ?_
                refine va_get (D := D) (ci := 19) (v := .int 1) (C := RX14) (T := TX14) (N := 19) hx hb hts iw_X14_make_RX14 hown hK hP 0 rfl rfl 0 (by decide) (hts (.fieldLink RX14 61 "HubcascadeModel" "thrown" "I") (by decide +kernel)) (fun _ h9 => h9) rfl dX14_make_95 ?_
                refine lv_if_le (tgt := 103) hx hb dX14_make_98 (by decide) (fun c => absurd c (by decide)) (fun _ => ?_)
                refine lv_iconst (v := 0) hx hb dX14_make_101 (by decide) ?_
                refine W.widen (k := 0) (n := 0) (Nat.le_of_ble_eq_true rfl) (Nat.le_of_ble_eq_true rfl) ?_
                have hP9 := hP.sub (ws' := [(am 0, .inr (19, [.int 1, .ref (am 1), .ref (am 4), .ref (am 5), .ref (am 6), .ref (am 7), .ref (am 8), .int 0, .ref (am 9), .int 0, .int (-1), .int 100, .ref (am 10), .long 0, .int 0, .int 0, .int 0, .int 0, .long 0]))]) [0] rfl
                have hD9 := hD.sub (ws' := [(am 0, .inr (19, [.int 1, .ref (am 1), .ref (am 4), .ref (am 5), .ref (am 6), .ref (am 7), .ref (am 8), .int 0, .ref (am 9), .int 0, .int (-1), .int 100, .ref (am 10), .long 0, .int 0, .int 0, .int 0, .int 0, .long 0]))]) [0] (by decide) rfl
                exact W.iret hx hb hr (fun t ht hW => ⟨rfl, ⟨by rw [ht]; exact hP9, hD9⟩, hS.F ht⟩) hS.2.2 dX14_make_102
          · refine ro_callS (As := [.int z, .int 0, .int 99]) (rest := []) ⟨hx, hb, hml, hown, hts⟩ (c_in_f l D cy _ _ _ _ (my_out h4)) (va_cwS 3 hts gX14_make_X14_in rfl rfl rfl (by decide +kernel) ⟨by decide, by decide⟩) hK hN hP hS rfl hl.1 rfl (Nat.le_of_ble_eq_true rfl) dX14_make_41 ⟨Nat.le_of_ble_eq_true rfl, Nat.le_of_ble_eq_true rfl⟩ (fun H locs hP hS => ?_)
            refine lv_if_eq (tgt := 51) hx hb dX14_make_44 (by decide) (fun _ => ?_) (fun c => absurd (by decide) c)
            refine lv_iconst (v := 0) hx hb dX14_make_51 (by decide) ?_
            refine lv_istore (lv' := [(6, .int 0), (0, .ref (am 0)), (1, .int q), (2, .int a), (3, .int b), (4, .int o), (5, .int z)]) hx hb dX14_make_52 hl (by decide) rfl (fun ls hl => ?_)
            refine lv_aload_n hx hb dX14_make_54 rfl (lv_at hl 1 rfl) ?_
            refine lv_iload hx hb dX14_make_55 (lv_at hl 0 rfl) ?_
            refine lv_if_eq (tgt := 70) hx hb dX14_make_57 (by decide) (fun _ => ?_) (fun c => absurd (by decide) c)
            refine lv_iconst (v := 1) hx hb dX14_make_70 (by decide) ?_
            refine lv_goto (tgt := 91) hx hb dX14_make_71 (by decide) ?_
            refine va_put (D := D) (ci := 19) (v := .int 1) (ty := .int) (C := RX14) (T := TX14) (N := 19) hx hb hts iw_X14_make_RX14 tyX14 tyX14_ok nmX14 hown hK hP hD hS 0 rfl rfl 0 (by decide) (hts (.fieldLink RX14 61 "HubcascadeModel" "thrown" "I") (by decide +kernel)) (fun _ h9 => h9) rfl (by decide +kernel) rfl rfl (Nat.le_of_ble_eq_true rfl) dX14_make_91 (fun H locs hP hD hS => ?_)
            have hP : va_P D vwCl (WM cy am eda 1) H := hP
            have hD : va_D A (WM cy am eda 1) := hD
            refine lv_aload_n hx hb dX14_make_94 rfl (lv_at hl 1 rfl) ?_
            refine va_get (D := D) (ci := 19) (v := .int 1) (C := RX14) (T := TX14) (N := 19) hx hb hts iw_X14_make_RX14 hown hK hP 0 rfl rfl 0 (by decide) (hts (.fieldLink RX14 61 "HubcascadeModel" "thrown" "I") (by decide +kernel)) (fun _ h9 => h9) rfl dX14_make_95 ?_
            refine lv_if_le (tgt := 103) hx hb dX14_make_98 (by decide) (fun c => absurd c (by decide)) (fun _ => ?_)
            refine lv_iconst (v := 0) hx hb dX14_make_101 (by decide) ?_
            refine W.widen (k := 0) (n := 0) (Nat.le_of_ble_eq_true rfl) (Nat.le_of_ble_eq_true rfl) ?_
            have hP9 := hP.sub (ws' := [(am 0, .inr (19, [.int 1, .ref (am 1), .ref (am 4), .ref (am 5), .ref (am 6), .ref (am 7), .ref (am 8), .int 0, .ref (am 9), .int 0, .int (-1), .int 100, .ref (am 10), .long 0, .int 0, .int 0, .int 0, .int 0, .long 0]))]) [0] rfl
            have hD9 := hD.sub (ws' := [(am 0, .inr (19, [.int 1, .ref (am 1), .ref (am 4), .ref (am 5), .ref (am 6), .ref (am 7), .ref (am 8), .int 0, .ref (am 9), .int 0, .int (-1), .int 100, .ref (am 10), .long 0, .int 0, .int 0, .int 0, .int 0, .long 0]))]) [0] (by decide) rfl
            exact W.iret hx hb hr (fun t ht hW => ⟨rfl, ⟨by rw [ht]; exact hP9, hD9⟩, hS.F ht⟩) hS.2.2 dX14_make_102
        · refine ro_callS (As := [.int b, .int 1, .int 5]) (rest := []) ⟨hx, hb, hml, hown, hts⟩ (c_in_f l D cy _ _ _ _ (my_out h3)) (va_cwS 3 hts gX14_make_X14_in rfl rfl rfl (by decide +kernel) ⟨by decide, by decide⟩) hK hN hP hS rfl hl.1 rfl (Nat.le_of_ble_eq_true rfl) dX14_make_30 ⟨Nat.le_of_ble_eq_true rfl, Nat.le_of_ble_eq_true rfl⟩ (fun H locs hP hS => ?_)
          refine lv_if_eq (tgt := 51) hx hb dX14_make_33 (by decide) (fun _ => ?_) (fun c => absurd (by decide) c)
          refine lv_iconst (v := 0) hx hb dX14_make_51 (by decide) ?_
          refine lv_istore (lv' := [(6, .int 0), (0, .ref (am 0)), (1, .int q), (2, .int a), (3, .int b), (4, .int o), (5, .int z)]) hx hb dX14_make_52 hl (by decide) rfl (fun ls hl => ?_)
          refine lv_aload_n hx hb dX14_make_54 rfl (lv_at hl 1 rfl) ?_
          refine lv_iload hx hb dX14_make_55 (lv_at hl 0 rfl) ?_
          refine lv_if_eq (tgt := 70) hx hb dX14_make_57 (by decide) (fun _ => ?_) (fun c => absurd (by decide) c)
          refine lv_iconst (v := 1) hx hb dX14_make_70 (by decide) ?_
          refine lv_goto (tgt := 91) hx hb dX14_make_71 (by decide) ?_
          refine va_put (D := D) (ci := 19) (v := .int 1) (ty := .int) (C := RX14) (T := TX14) (N := 19) hx hb hts iw_X14_make_RX14 tyX14 tyX14_ok nmX14 hown hK hP hD hS 0 rfl rfl 0 (by decide) (hts (.fieldLink RX14 61 "HubcascadeModel" "thrown" "I") (by decide +kernel)) (fun _ h9 => h9) rfl (by decide +kernel) rfl rfl (Nat.le_of_ble_eq_true rfl) dX14_make_91 (fun H locs hP hD hS => ?_)
          have hP : va_P D vwCl (WM cy am eda 1) H := hP
          have hD : va_D A (WM cy am eda 1) := hD
          refine lv_aload_n hx hb dX14_make_94 rfl (lv_at hl 1 rfl) ?_
          refine va_get (D := D) (ci := 19) (v := .int 1) (C := RX14) (T := TX14) (N := 19) hx hb hts iw_X14_make_RX14 hown hK hP 0 rfl rfl 0 (by decide) (hts (.fieldLink RX14 61 "HubcascadeModel" "thrown" "I") (by decide +kernel)) (fun _ h9 => h9) rfl dX14_make_95 ?_
          refine lv_if_le (tgt := 103) hx hb dX14_make_98 (by decide) (fun c => absurd c (by decide)) (fun _ => ?_)
          refine lv_iconst (v := 0) hx hb dX14_make_101 (by decide) ?_
          refine W.widen (k := 0) (n := 0) (Nat.le_of_ble_eq_true rfl) (Nat.le_of_ble_eq_true rfl) ?_
          have hP9 := hP.sub (ws' := [(am 0, .inr (19, [.int 1, .ref (am 1), .ref (am 4), .ref (am 5), .ref (am 6), .ref (am 7), .ref (am 8), .int 0, .ref (am 9), .int 0, .int (-1), .int 100, .ref (am 10), .long 0, .int 0, .int 0, .int 0, .int 0, .long 0]))]) [0] rfl
          have hD9 := hD.sub (ws' := [(am 0, .inr (19, [.int 1, .ref (am 1), .ref (am 4), .ref (am 5), .ref (am 6), .ref (am 7), .ref (am 8), .int 0, .ref (am 9), .int 0, .int (-1), .int 100, .ref (am 10), .long 0, .int 0, .int 0, .int 0, .int 0, .long 0]))]) [0] (by decide) rfl
          exact W.iret hx hb hr (fun t ht hW => ⟨rfl, ⟨by rw [ht]; exact hP9, hD9⟩, hS.F ht⟩) hS.2.2 dX14_make_102
      · refine ro_callS (As := [.int a, .int 0, .int 4]) (rest := []) ⟨hx, hb, hml, hown, hts⟩ (c_in_f l D cy _ _ _ _ (my_out h2)) (va_cwS 3 hts gX14_make_X14_in rfl rfl rfl (by decide +kernel) ⟨by decide, by decide⟩) hK hN hP hS rfl hl.1 rfl (Nat.le_of_ble_eq_true rfl) dX14_make_21 ⟨Nat.le_of_ble_eq_true rfl, Nat.le_of_ble_eq_true rfl⟩ (fun H locs hP hS => ?_)
        refine lv_if_eq (tgt := 51) hx hb dX14_make_24 (by decide) (fun _ => ?_) (fun c => absurd (by decide) c)
        refine lv_iconst (v := 0) hx hb dX14_make_51 (by decide) ?_
        refine lv_istore (lv' := [(6, .int 0), (0, .ref (am 0)), (1, .int q), (2, .int a), (3, .int b), (4, .int o), (5, .int z)]) hx hb dX14_make_52 hl (by decide) rfl (fun ls hl => ?_)
        refine lv_aload_n hx hb dX14_make_54 rfl (lv_at hl 1 rfl) ?_
        refine lv_iload hx hb dX14_make_55 (lv_at hl 0 rfl) ?_
        refine lv_if_eq (tgt := 70) hx hb dX14_make_57 (by decide) (fun _ => ?_) (fun c => absurd (by decide) c)
        refine lv_iconst (v := 1) hx hb dX14_make_70 (by decide) ?_
        refine lv_goto (tgt := 91) hx hb dX14_make_71 (by decide) ?_
        refine va_put (D := D) (ci := 19) (v := .int 1) (ty := .int) (C := RX14) (T := TX14) (N := 19) hx hb hts iw_X14_make_RX14 tyX14 tyX14_ok nmX14 hown hK hP hD hS 0 rfl rfl 0 (by decide) (hts (.fieldLink RX14 61 "HubcascadeModel" "thrown" "I") (by decide +kernel)) (fun _ h9 => h9) rfl (by decide +kernel) rfl rfl (Nat.le_of_ble_eq_true rfl) dX14_make_91 (fun H locs hP hD hS => ?_)
        have hP : va_P D vwCl (WM cy am eda 1) H := hP
        have hD : va_D A (WM cy am eda 1) := hD
        refine lv_aload_n hx hb dX14_make_94 rfl (lv_at hl 1 rfl) ?_
        refine va_get (D := D) (ci := 19) (v := .int 1) (C := RX14) (T := TX14) (N := 19) hx hb hts iw_X14_make_RX14 hown hK hP 0 rfl rfl 0 (by decide) (hts (.fieldLink RX14 61 "HubcascadeModel" "thrown" "I") (by decide +kernel)) (fun _ h9 => h9) rfl dX14_make_95 ?_
        refine lv_if_le (tgt := 103) hx hb dX14_make_98 (by decide) (fun c => absurd c (by decide)) (fun _ => ?_)
        refine lv_iconst (v := 0) hx hb dX14_make_101 (by decide) ?_
        refine W.widen (k := 0) (n := 0) (Nat.le_of_ble_eq_true rfl) (Nat.le_of_ble_eq_true rfl) ?_
        have hP9 := hP.sub (ws' := [(am 0, .inr (19, [.int 1, .ref (am 1), .ref (am 4), .ref (am 5), .ref (am 6), .ref (am 7), .ref (am 8), .int 0, .ref (am 9), .int 0, .int (-1), .int 100, .ref (am 10), .long 0, .int 0, .int 0, .int 0, .int 0, .long 0]))]) [0] rfl
        have hD9 := hD.sub (ws' := [(am 0, .inr (19, [.int 1, .ref (am 1), .ref (am 4), .ref (am 5), .ref (am 6), .ref (am 7), .ref (am 8), .int 0, .ref (am 9), .int 0, .int (-1), .int 100, .ref (am 10), .long 0, .int 0, .int 0, .int 0, .int 0, .long 0]))]) [0] (by decide) rfl
        exact W.iret hx hb hr (fun t ht hW => ⟨rfl, ⟨by rw [ht]; exact hP9, hD9⟩, hS.F ht⟩) hS.2.2 dX14_make_102
    · refine lv_iload_n hx hb dX14_make_12 rfl (lv_at hl 1 rfl) ?_
      refine lv_bipush (v := 104) hx hb dX14_make_13 (by decide) ?_
      refine lv_icmp_ne (tgt := 51) hx hb dX14_make_15 (by decide) (fun c15 => ?_) (fun c15 => ?_)
      · refine lv_iconst (v := 0) hx hb dX14_make_51 (by decide) ?_
        refine lv_istore (lv' := [(6, .int 0), (0, .ref (am 0)), (1, .int q), (2, .int a), (3, .int b), (4, .int o), (5, .int z)]) hx hb dX14_make_52 hl (by decide) rfl (fun ls hl => ?_)
        refine lv_aload_n hx hb dX14_make_54 rfl (lv_at hl 1 rfl) ?_
        refine lv_iload hx hb dX14_make_55 (lv_at hl 0 rfl) ?_
        refine lv_if_eq (tgt := 70) hx hb dX14_make_57 (by decide) (fun _ => ?_) (fun c => absurd (by decide) c)
        refine lv_iconst (v := 1) hx hb dX14_make_70 (by decide) ?_
        refine lv_goto (tgt := 91) hx hb dX14_make_71 (by decide) ?_
        refine va_put (D := D) (ci := 19) (v := .int 1) (ty := .int) (C := RX14) (T := TX14) (N := 19) hx hb hts iw_X14_make_RX14 tyX14 tyX14_ok nmX14 hown hK hP hD hS 0 rfl rfl 0 (by decide) (hts (.fieldLink RX14 61 "HubcascadeModel" "thrown" "I") (by decide +kernel)) (fun _ h9 => h9) rfl (by decide +kernel) rfl rfl (Nat.le_of_ble_eq_true rfl) dX14_make_91 (fun H locs hP hD hS => ?_)
        have hP : va_P D vwCl (WM cy am eda 1) H := hP
        have hD : va_D A (WM cy am eda 1) := hD
        refine lv_aload_n hx hb dX14_make_94 rfl (lv_at hl 1 rfl) ?_
        refine va_get (D := D) (ci := 19) (v := .int 1) (C := RX14) (T := TX14) (N := 19) hx hb hts iw_X14_make_RX14 hown hK hP 0 rfl rfl 0 (by decide) (hts (.fieldLink RX14 61 "HubcascadeModel" "thrown" "I") (by decide +kernel)) (fun _ h9 => h9) rfl dX14_make_95 ?_
        refine lv_if_le (tgt := 103) hx hb dX14_make_98 (by decide) (fun c => absurd c (by decide)) (fun _ => ?_)
        refine lv_iconst (v := 0) hx hb dX14_make_101 (by decide) ?_
        refine W.widen (k := 0) (n := 0) (Nat.le_of_ble_eq_true rfl) (Nat.le_of_ble_eq_true rfl) ?_
        have hP9 := hP.sub (ws' := [(am 0, .inr (19, [.int 1, .ref (am 1), .ref (am 4), .ref (am 5), .ref (am 6), .ref (am 7), .ref (am 8), .int 0, .ref (am 9), .int 0, .int (-1), .int 100, .ref (am 10), .long 0, .int 0, .int 0, .int 0, .int 0, .long 0]))]) [0] rfl
        have hD9 := hD.sub (ws' := [(am 0, .inr (19, [.int 1, .ref (am 1), .ref (am 4), .ref (am 5), .ref (am 6), .ref (am 7), .ref (am 8), .int 0, .ref (am 9), .int 0, .int (-1), .int 100, .ref (am 10), .long 0, .int 0, .int 0, .int 0, .int 0, .long 0]))]) [0] (by decide) rfl
        exact W.iret hx hb hr (fun t ht hW => ⟨rfl, ⟨by rw [ht]; exact hP9, hD9⟩, hS.F ht⟩) hS.2.2 dX14_make_102
      · refine lv_iload_n hx hb dX14_make_18 rfl (lv_at hl 2 rfl) ?_
        refine lv_iconst (v := 0) hx hb dX14_make_19 (by decide) ?_
        refine lv_iconst (v := 4) hx hb dX14_make_20 (by decide) ?_
        by_cases h2 : (¬ a < 0 ∧ ¬ 4 < a)
        · refine ro_callS (As := [.int a, .int 0, .int 4]) (rest := []) ⟨hx, hb, hml, hown, hts⟩ (c_in_t l D cy _ _ _ _ h2.1 h2.2) (va_cwS 3 hts gX14_make_X14_in rfl rfl rfl (by decide +kernel) ⟨by decide, by decide⟩) hK hN hP hS rfl hl.1 rfl (Nat.le_of_ble_eq_true rfl) dX14_make_21 ⟨Nat.le_of_ble_eq_true rfl, Nat.le_of_ble_eq_true rfl⟩ (fun H locs hP hS => ?_)
          refine lv_if_eq (tgt := 51) hx hb dX14_make_24 (by decide) (fun c => absurd c (by decide)) (fun _ => ?_)
          refine lv_iload_n hx hb dX14_make_27 rfl (lv_at hl 3 rfl) ?_
          refine lv_iconst (v := 1) hx hb dX14_make_28 (by decide) ?_
          refine lv_iconst (v := 5) hx hb dX14_make_29 (by decide) ?_
          by_cases h3 : (¬ b < 1 ∧ ¬ 5 < b)
          · refine ro_callS (As := [.int b, .int 1, .int 5]) (rest := []) ⟨hx, hb, hml, hown, hts⟩ (c_in_t l D cy _ _ _ _ h3.1 h3.2) (va_cwS 3 hts gX14_make_X14_in rfl rfl rfl (by decide +kernel) ⟨by decide, by decide⟩) hK hN hP hS rfl hl.1 rfl (Nat.le_of_ble_eq_true rfl) dX14_make_30 ⟨Nat.le_of_ble_eq_true rfl, Nat.le_of_ble_eq_true rfl⟩ (fun H locs hP hS => ?_)
            refine lv_if_eq (tgt := 51) hx hb dX14_make_33 (by decide) (fun c => absurd c (by decide)) (fun _ => ?_)
            refine lv_iload hx hb dX14_make_36 (lv_at hl 5 rfl) ?_
            refine lv_iconst (v := 0) hx hb dX14_make_38 (by decide) ?_
            refine lv_bipush (v := 99) hx hb dX14_make_39 (by decide) ?_
            by_cases h4 : (¬ z < 0 ∧ ¬ 99 < z)
            · refine ro_callS (As := [.int z, .int 0, .int 99]) (rest := []) ⟨hx, hb, hml, hown, hts⟩ (c_in_t l D cy _ _ _ _ h4.1 h4.2) (va_cwS 3 hts gX14_make_X14_in rfl rfl rfl (by decide +kernel) ⟨by decide, by decide⟩) hK hN hP hS rfl hl.1 rfl (Nat.le_of_ble_eq_true rfl) dX14_make_41 ⟨Nat.le_of_ble_eq_true rfl, Nat.le_of_ble_eq_true rfl⟩ (fun H locs hP hS => ?_)
              refine lv_if_eq (tgt := 51) hx hb dX14_make_44 (by decide) (fun c => absurd c (by decide)) (fun _ => ?_)
              refine lv_iconst (v := 1) hx hb dX14_make_47 (by decide) ?_
              refine lv_goto (tgt := 52) hx hb dX14_make_48 (by decide) ?_
              refine lv_istore (lv' := [(6, .int 1), (0, .ref (am 0)), (1, .int q), (2, .int a), (3, .int b), (4, .int o), (5, .int z)]) hx hb dX14_make_52 hl (by decide) rfl (fun ls hl => ?_)
              refine lv_aload_n hx hb dX14_make_54 rfl (lv_at hl 1 rfl) ?_
              refine lv_iload hx hb dX14_make_55 (lv_at hl 0 rfl) ?_
              refine lv_if_eq (tgt := 70) hx hb dX14_make_57 (by decide) (fun c => absurd c (by decide)) (fun _ => ?_)
              refine lv_iload_n hx hb dX14_make_60 rfl (lv_at hl 2 rfl) ?_
              refine lv_bipush (v := 108) hx hb dX14_make_61 (by decide) ?_
              refine lv_icmp_ne (tgt := 74) hx hb dX14_make_63 (by decide) (fun c63 => ?_) (fun c63 => ?_)
              · exact absurd ⟨by first | exact Or.inl c3 | exact Or.inr (Or.inl c9) | exact Or.inr (Or.inr c15), h2, h3, h4, fun y => by first | exact c63 y.1 | exact my_nlt_le c67 y.2⟩ h
              · refine lv_iload_n hx hb dX14_make_66 rfl (lv_at hl 3 rfl) ?_
                refine lv_if_le (tgt := 74) hx hb dX14_make_67 (by decide) (fun c67 => ?_) (fun c67 => ?_)
                · exact absurd ⟨by first | exact Or.inl c3 | exact Or.inr (Or.inl c9) | exact Or.inr (Or.inr c15), h2, h3, h4, fun y => by first | exact c63 y.1 | exact my_nlt_le c67 y.2⟩ h
                · refine lv_iconst (v := 1) hx hb dX14_make_70 (by decide) ?_
                  refine lv_goto (tgt := 91) hx hb dX14_make_71 (by decide) ?_
                  refine va_put (D := D) (ci := 19) (v := .int 1) (ty := .int) (C := RX14) (T := TX14) (N := 19) hx hb hts iw_X14_make_RX14 tyX14 tyX14_ok nmX14 hown hK hP hD hS 0 rfl rfl 0 (by decide) (hts (.fieldLink RX14 61 "HubcascadeModel" "thrown" "I") (by decide +kernel)) (fun _ h9 => h9) rfl (by decide +kernel) rfl rfl (Nat.le_of_ble_eq_true rfl) dX14_make_91 (fun H locs hP hD hS => ?_)
                  have hP : va_P D vwCl (WM cy am eda 1) H := hP
                  have hD : va_D A (WM cy am eda 1) := hD
                  refine lv_aload_n hx hb dX14_make_94 rfl (lv_at hl 1 rfl) ?_
                  refine va_get (D := D) (ci := 19) (v := .int 1) (C := RX14) (T := TX14) (N := 19) hx hb hts iw_X14_make_RX14 hown hK hP 0 rfl rfl 0 (by decide) (hts (.fieldLink RX14 61 "HubcascadeModel" "thrown" "I") (by decide +kernel)) (fun _ h9 => h9) rfl dX14_make_95 ?_
                  refine lv_if_le (tgt := 103) hx hb dX14_make_98 (by decide) (fun c => absurd c (by decide)) (fun _ => ?_)
                  refine lv_iconst (v := 0) hx hb dX14_make_101 (by decide) ?_
                  refine W.widen (k := 0) (n := 0) (Nat.le_of_ble_eq_true rfl) (Nat.le_of_ble_eq_true rfl) ?_
                  have hP9 := hP.sub (ws' := [(am 0, .inr (19, [.int 1, .ref (am 1), .ref (am 4), .ref (am 5), .ref (am 6), .ref (am 7), .ref (am 8), .int 0, .ref (am 9), .int 0, .int (-1), .int 100, .ref (am 10), .long 0, .int 0, .int 0, .int 0, .int 0, .long 0]))]) [0] rfl
                  have hD9 := hD.sub (ws' := [(am 0, .inr (19, [.int 1, .ref (am 1), .ref (am 4), .ref (am 5), .ref (am 6), .ref (am 7), .ref (am 8), .int 0, .ref (am 9), .int 0, .int (-1), .int 100, .ref (am 10), .long 0, .int 0, .int 0, .int 0, .int 0, .long 0]))]) [0] (by decide) rfl
                  exact W.iret hx hb hr (fun t ht hW => ⟨rfl, ⟨by rw [ht]; exact hP9, hD9⟩, hS.F ht⟩) hS.2.2 dX14_make_102
            · refine ro_callS (As := [.int z, .int 0, .int 99]) (rest := []) ⟨hx, hb, hml, hown, hts⟩ (c_in_f l D cy _ _ _ _ (my_out h4)) (va_cwS 3 hts gX14_make_X14_in rfl rfl rfl (by decide +kernel) ⟨by decide, by decide⟩) hK hN hP hS rfl hl.1 rfl (Nat.le_of_ble_eq_true rfl) dX14_make_41 ⟨Nat.le_of_ble_eq_true rfl, Nat.le_of_ble_eq_true rfl⟩ (fun H locs hP hS => ?_)
              refine lv_if_eq (tgt := 51) hx hb dX14_make_44 (by decide) (fun _ => ?_) (fun c => absurd (by decide) c)
              refine lv_iconst (v := 0) hx hb dX14_make_51 (by decide) ?_
              refine lv_istore (lv' := [(6, .int 0), (0, .ref (am 0)), (1, .int q), (2, .int a), (3, .int b), (4, .int o), (5, .int z)]) hx hb dX14_make_52 hl (by decide) rfl (fun ls hl => ?_)
              refine lv_aload_n hx hb dX14_make_54 rfl (lv_at hl 1 rfl) ?_
              refine lv_iload hx hb dX14_make_55 (lv_at hl 0 rfl) ?_
              refine lv_if_eq (tgt := 70) hx hb dX14_make_57 (by decide) (fun _ => ?_) (fun c => absurd (by decide) c)
              refine lv_iconst (v := 1) hx hb dX14_make_70 (by decide) ?_
              refine lv_goto (tgt := 91) hx hb dX14_make_71 (by decide) ?_
              refine va_put (D := D) (ci := 19) (v := .int 1) (ty := .int) (C := RX14) (T := TX14) (N := 19) hx hb hts iw_X14_make_RX14 tyX14 tyX14_ok nmX14 hown hK hP hD hS 0 rfl rfl 0 (by decide) (hts (.fieldLink RX14 61 "HubcascadeModel" "thrown" "I") (by decide +kernel)) (fun _ h9 => h9) rfl (by decide +kernel) rfl rfl (Nat.le_of_ble_eq_true rfl) dX14_make_91 (fun H locs hP hD hS => ?_)
              have hP : va_P D vwCl (WM cy am eda 1) H := hP
              have hD : va_D A (WM cy am eda 1) := hD
              refine lv_aload_n hx hb dX14_make_94 rfl (lv_at hl 1 rfl) ?_
              refine va_get (D := D) (ci := 19) (v := .int 1) (C := RX14) (T := TX14) (N := 19) hx hb hts iw_X14_make_RX14 hown hK hP 0 rfl rfl 0 (by decide) (hts (.fieldLink RX14 61 "HubcascadeModel" "thrown" "I") (by decide +kernel)) (fun _ h9 => h9) rfl dX14_make_95 ?_
              refine lv_if_le (tgt := 103) hx hb dX14_make_98 (by decide) (fun c => absurd c (by decide)) (fun _ => ?_)
              refine lv_iconst (v := 0) hx hb dX14_make_101 (by decide) ?_
              refine W.widen (k := 0) (n := 0) (Nat.le_of_ble_eq_true rfl) (Nat.le_of_ble_eq_true rfl) ?_
              have hP9 := hP.sub (ws' := [(am 0, .inr (19, [.int 1, .ref (am 1), .ref (am 4), .ref (am 5), .ref (am 6), .ref (am 7), .ref (am 8), .int 0, .ref (am 9), .int 0, .int (-1), .int 100, .ref (am 10), .long 0, .int 0, .int 0, .int 0, .int 0, .long 0]))]) [0] rfl
              have hD9 := hD.sub (ws' := [(am 0, .inr (19, [.int 1, .ref (am 1), .ref (am 4), .ref (am 5), .ref (am 6), .ref (am 7), .ref (am 8), .int 0, .ref (am 9), .int 0, .int (-1), .int 100, .ref (am 10), .long 0, .int 0, .int 0, .int 0, .int 0, .long 0]))]) [0] (by decide) rfl
              exact W.iret hx hb hr (fun t ht hW => ⟨rfl, ⟨by rw [ht]; exact hP9, hD9⟩, hS.F ht⟩) hS.2.2 dX14_make_102
          · refine ro_callS (As := [.int b, .int 1, .int 5]) (rest := []) ⟨hx, hb, hml, hown, hts⟩ (c_in_f l D cy _ _ _ _ (my_out h3)) (va_cwS 3 hts gX14_make_X14_in rfl rfl rfl (by decide +kernel) ⟨by decide, by decide⟩) hK hN hP hS rfl hl.1 rfl (Nat.le_of_ble_eq_true rfl) dX14_make_30 ⟨Nat.le_of_ble_eq_true rfl, Nat.le_of_ble_eq_true rfl⟩ (fun H locs hP hS => ?_)
            refine lv_if_eq (tgt := 51) hx hb dX14_make_33 (by decide) (fun _ => ?_) (fun c => absurd (by decide) c)
            refine lv_iconst (v := 0) hx hb dX14_make_51 (by decide) ?_
            refine lv_istore (lv' := [(6, .int 0), (0, .ref (am 0)), (1, .int q), (2, .int a), (3, .int b), (4, .int o), (5, .int z)]) hx hb dX14_make_52 hl (by decide) rfl (fun ls hl => ?_)
            refine lv_aload_n hx hb dX14_make_54 rfl (lv_at hl 1 rfl) ?_
            refine lv_iload hx hb dX14_make_55 (lv_at hl 0 rfl) ?_
            refine lv_if_eq (tgt := 70) hx hb dX14_make_57 (by decide) (fun _ => ?_) (fun c => absurd (by decide) c)
            refine lv_iconst (v := 1) hx hb dX14_make_70 (by decide) ?_
            refine lv_goto (tgt := 91) hx hb dX14_make_71 (by decide) ?_
            refine va_put (D := D) (ci := 19) (v := .int 1) (ty := .int) (C := RX14) (T := TX14) (N := 19) hx hb hts iw_X14_make_RX14 tyX14 tyX14_ok nmX14 hown hK hP hD hS 0 rfl rfl 0 (by decide) (hts (.fieldLink RX14 61 "HubcascadeModel" "thrown" "I") (by decide +kernel)) (fun _ h9 => h9) rfl (by decide +kernel) rfl rfl (Nat.le_of_ble_eq_true rfl) dX14_make_91 (fun H locs hP hD hS => ?_)
            have hP : va_P D vwCl (WM cy am eda 1) H := hP
            have hD : va_D A (WM cy am eda 1) := hD
            refine lv_aload_n hx hb dX14_make_94 rfl (lv_at hl 1 rfl) ?_
            refine va_get (D := D) (ci := 19) (v := .int 1) (C := RX14) (T := TX14) (N := 19) hx hb hts iw_X14_make_RX14 hown hK hP 0 rfl rfl 0 (by decide) (hts (.fieldLink RX14 61 "HubcascadeModel" "thrown" "I") (by decide +kernel)) (fun _ h9 => h9) rfl dX14_make_95 ?_
            refine lv_if_le (tgt := 103) hx hb dX14_make_98 (by decide) (fun c => absurd c (by decide)) (fun _ => ?_)
            refine lv_iconst (v := 0) hx hb dX14_make_101 (by decide) ?_
            refine W.widen (k := 0) (n := 0) (Nat.le_of_ble_eq_true rfl) (Nat.le_of_ble_eq_true rfl) ?_
            have hP9 := hP.sub (ws' := [(am 0, .inr (19, [.int 1, .ref (am 1), .ref (am 4), .ref (am 5), .ref (am 6), .ref (am 7), .ref (am 8), .int 0, .ref (am 9), .int 0, .int (-1), .int 100, .ref (am 10), .long 0, .int 0, .int 0, .int 0, .int 0, .long 0]))]) [0] rfl
            have hD9 := hD.sub (ws' := [(am 0, .inr (19, [.int 1, .ref (am 1), .ref (am 4), .ref (am 5), .ref (am 6), .ref (am 7), .ref (am 8), .int 0, .ref (am 9), .int 0, .int (-1), .int 100, .ref (am 10), .long 0, .int 0, .int 0, .int 0, .int 0, .long 0]))]) [0] (by decide) rfl
            exact W.iret hx hb hr (fun t ht hW => ⟨rfl, ⟨by rw [ht]; exact hP9, hD9⟩, hS.F ht⟩) hS.2.2 dX14_make_102
        · refine ro_callS (As := [.int a, .int 0, .int 4]) (rest := []) ⟨hx, hb, hml, hown, hts⟩ (c_in_f l D cy _ _ _ _ (my_out h2)) (va_cwS 3 hts gX14_make_X14_in rfl rfl rfl (by decide +kernel) ⟨by decide, by decide⟩) hK hN hP hS rfl hl.1 rfl (Nat.le_of_ble_eq_true rfl) dX14_make_21 ⟨Nat.le_of_ble_eq_true rfl, Nat.le_of_ble_eq_true rfl⟩ (fun H locs hP hS => ?_)
          refine lv_if_eq (tgt := 51) hx hb dX14_make_24 (by decide) (fun _ => ?_) (fun c => absurd (by decide) c)
          refine lv_iconst (v := 0) hx hb dX14_make_51 (by decide) ?_
          refine lv_istore (lv' := [(6, .int 0), (0, .ref (am 0)), (1, .int q), (2, .int a), (3, .int b), (4, .int o), (5, .int z)]) hx hb dX14_make_52 hl (by decide) rfl (fun ls hl => ?_)
          refine lv_aload_n hx hb dX14_make_54 rfl (lv_at hl 1 rfl) ?_
          refine lv_iload hx hb dX14_make_55 (lv_at hl 0 rfl) ?_
          refine lv_if_eq (tgt := 70) hx hb dX14_make_57 (by decide) (fun _ => ?_) (fun c => absurd (by decide) c)
          refine lv_iconst (v := 1) hx hb dX14_make_70 (by decide) ?_
          refine lv_goto (tgt := 91) hx hb dX14_make_71 (by decide) ?_
          refine va_put (D := D) (ci := 19) (v := .int 1) (ty := .int) (C := RX14) (T := TX14) (N := 19) hx hb hts iw_X14_make_RX14 tyX14 tyX14_ok nmX14 hown hK hP hD hS 0 rfl rfl 0 (by decide) (hts (.fieldLink RX14 61 "HubcascadeModel" "thrown" "I") (by decide +kernel)) (fun _ h9 => h9) rfl (by decide +kernel) rfl rfl (Nat.le_of_ble_eq_true rfl) dX14_make_91 (fun H locs hP hD hS => ?_)
          have hP : va_P D vwCl (WM cy am eda 1) H := hP
          have hD : va_D A (WM cy am eda 1) := hD
          refine lv_aload_n hx hb dX14_make_94 rfl (lv_at hl 1 rfl) ?_
          refine va_get (D := D) (ci := 19) (v := .int 1) (C := RX14) (T := TX14) (N := 19) hx hb hts iw_X14_make_RX14 hown hK hP 0 rfl rfl 0 (by decide) (hts (.fieldLink RX14 61 "HubcascadeModel" "thrown" "I") (by decide +kernel)) (fun _ h9 => h9) rfl dX14_make_95 ?_
          refine lv_if_le (tgt := 103) hx hb dX14_make_98 (by decide) (fun c => absurd c (by decide)) (fun _ => ?_)
          refine lv_iconst (v := 0) hx hb dX14_make_101 (by decide) ?_
          refine W.widen (k := 0) (n := 0) (Nat.le_of_ble_eq_true rfl) (Nat.le_of_ble_eq_true rfl) ?_
          have hP9 := hP.sub (ws' := [(am 0, .inr (19, [.int 1, .ref (am 1), .ref (am 4), .ref (am 5), .ref (am 6), .ref (am 7), .ref (am 8), .int 0, .ref (am 9), .int 0, .int (-1), .int 100, .ref (am 10), .long 0, .int 0, .int 0, .int 0, .int 0, .long 0]))]) [0] rfl
          have hD9 := hD.sub (ws' := [(am 0, .inr (19, [.int 1, .ref (am 1), .ref (am 4), .ref (am 5), .ref (am 6), .ref (am 7), .ref (am 8), .int 0, .ref (am 9), .int 0, .int (-1), .int 100, .ref (am 10), .long 0, .int 0, .int 0, .int 0, .int 0, .long 0]))]) [0] (by decide) rfl
          exact W.iret hx hb hr (fun t ht hW => ⟨rfl, ⟨by rw [ht]; exact hP9, hD9⟩, hS.F ht⟩) hS.2.2 dX14_make_102

theorem iw_X14_make_RX10 : ∀ w ∈ u_ws RX10 TX10 16, w ∈ wsX14_make := by decide +kernel
theorem df_RX10 : ∀ j, j < 16 → defaultValue (tyX10 j) = vp_V [.int 0, .int 0, .int 0, .int 0, .int 0, .int 0, .int 0, .int 0, .int 0, .int 0, .int 0, .int 0, .int 0, .null, .null, .null] j := by decide +kernel
set_option maxRecDepth 100000 in
set_option maxHeartbeats 4000000 in
theorem a_make_0 (l : Launch) (D : va_G) (cy : Nat → ClassId) {ca : Nat} {ia : Nat → Nat} {am : Nat → Nat} {eda : Nat} {th : Int32} (sz : Nat) (q a b o z : Int32) (h1 : (q = 108 ∨ q = 102 ∨ q = 104)) (h2 : ¬ a < 0 ∧ ¬ 4 < a) (h3 : ¬ b < 1 ∧ ¬ 5 < b) (h4 : ¬ z < 0 ∧ ¬ 99 < z) (h5 : ¬ (q = 108 ∧ 0 < a)) (hnq : narrow .char (.int q) = .int q) (hfq : fits .char (.int q) = true) (hno : narrow .boolean (.int o) = .int o) (hfo : fits .boolean (.int o) = true) : MJ l D cy eda ca ia (WM cy am eda th) sz yX14_make wsX14_make 2 4 28 44 [.ref (am 0), .int q, .int a, .int b, .int o, .int z] (some (.int 1)) (fun H => va_P D vwCl ([(am 0, .inr (19, [.int 0, .ref (am 1), .ref (am 4), .ref (am 5), .ref (am 6), .ref (am 7), .ref (am 8), .int 0, .ref (am 9), .int 0, .int (-1), .int 100, .ref (am 10), .long 0, .int 0, .int 0, .int 0, .int 0, .long 0]))]) H ∧ va_D (va_A (WM cy am eda th) sz) ([(am 0, .inr (19, [.int 0, .ref (am 1), .ref (am 4), .ref (am 5), .ref (am 6), .ref (am 7), .ref (am 8), .int 0, .ref (am 9), .int 0, .int (-1), .int 100, .ref (am 10), .long 0, .int 0, .int 0, .int 0, .int 0, .long 0]))])) := by
  refine ro_ofW (cc := cX14_make) (maxL := 7) (ret := (some .int)) (lv := [(0, .ref (am 0)), (1, .int q), (2, .int a), (3, .int b), (4, .int o), (5, .int z)]) (by decide) rfl (Nat.le_of_ble_eq_true rfl) rfl ?_
  intro p e s m below meth c ls hx hb hr hml hown hlocks hname hts hv hl
  have hown : s.vm.findClass RX14 = some m.cls := hown
  obtain ⟨⟨⟨hsz, hP, hD0⟩, hK, hN⟩, hJS⟩ := hv
  subst hsz
  have hD := hD0.self (sz := s.heap.size)
  generalize hAe : va_A (WM cy am eda th) s.heap.size = A at hD hJS ⊢
  have hA : ∀ q : Nat, s.heap.size ≤ q → A q := fun q h => by rw [← hAe]; exact Or.inr h
  have hS : va_S A s.heap s.heap [] := va_S.rf
  refine lv_iload_n hx hb dX14_make_0 rfl (lv_at hl 1 rfl) ?_
  refine lv_bipush (v := 108) hx hb dX14_make_1 (by decide) ?_
  refine lv_icmp_eq (tgt := 18) hx hb dX14_make_3 (by decide) (fun c3 => ?_) (fun c3 => ?_)
  · refine lv_iload_n hx hb dX14_make_18 rfl (lv_at hl 2 rfl) ?_
    refine lv_iconst (v := 0) hx hb dX14_make_19 (by decide) ?_
    refine lv_iconst (v := 4) hx hb dX14_make_20 (by decide) ?_
    refine ro_callS (As := [.int a, .int 0, .int 4]) (rest := []) ⟨hx, hb, hml, hown, hts⟩ (c_in_t l D cy _ _ _ _ h2.1 h2.2) (va_cwS 3 hts gX14_make_X14_in rfl rfl rfl (by decide +kernel) ⟨by decide, by decide⟩) hK hN hP hS rfl hl.1 rfl (Nat.le_of_ble_eq_true rfl) dX14_make_21 ⟨Nat.le_of_ble_eq_true rfl, Nat.le_of_ble_eq_true rfl⟩ (fun H locs hP hS => ?_)
    refine lv_if_eq (tgt := 51) hx hb dX14_make_24 (by decide) (fun c => absurd c (by decide)) (fun _ => ?_)
    refine lv_iload_n hx hb dX14_make_27 rfl (lv_at hl 3 rfl) ?_
    refine lv_iconst (v := 1) hx hb dX14_make_28 (by decide) ?_
    refine lv_iconst (v := 5) hx hb dX14_make_29 (by decide) ?_
    refine ro_callS (As := [.int b, .int 1, .int 5]) (rest := []) ⟨hx, hb, hml, hown, hts⟩ (c_in_t l D cy _ _ _ _ h3.1 h3.2) (va_cwS 3 hts gX14_make_X14_in rfl rfl rfl (by decide +kernel) ⟨by decide, by decide⟩) hK hN hP hS rfl hl.1 rfl (Nat.le_of_ble_eq_true rfl) dX14_make_30 ⟨Nat.le_of_ble_eq_true rfl, Nat.le_of_ble_eq_true rfl⟩ (fun H locs hP hS => ?_)
    refine lv_if_eq (tgt := 51) hx hb dX14_make_33 (by decide) (fun c => absurd c (by decide)) (fun _ => ?_)
    refine lv_iload hx hb dX14_make_36 (lv_at hl 5 rfl) ?_
    refine lv_iconst (v := 0) hx hb dX14_make_38 (by decide) ?_
    refine lv_bipush (v := 99) hx hb dX14_make_39 (by decide) ?_
    refine ro_callS (As := [.int z, .int 0, .int 99]) (rest := []) ⟨hx, hb, hml, hown, hts⟩ (c_in_t l D cy _ _ _ _ h4.1 h4.2) (va_cwS 3 hts gX14_make_X14_in rfl rfl rfl (by decide +kernel) ⟨by decide, by decide⟩) hK hN hP hS rfl hl.1 rfl (Nat.le_of_ble_eq_true rfl) dX14_make_41 ⟨Nat.le_of_ble_eq_true rfl, Nat.le_of_ble_eq_true rfl⟩ (fun H locs hP hS => ?_)
    refine lv_if_eq (tgt := 51) hx hb dX14_make_44 (by decide) (fun c => absurd c (by decide)) (fun _ => ?_)
    refine lv_iconst (v := 1) hx hb dX14_make_47 (by decide) ?_
    refine lv_goto (tgt := 52) hx hb dX14_make_48 (by decide) ?_
    refine lv_istore (lv' := [(6, .int 1), (0, .ref (am 0)), (1, .int q), (2, .int a), (3, .int b), (4, .int o), (5, .int z)]) hx hb dX14_make_52 hl (by decide) rfl (fun ls hl => ?_)
    refine lv_aload_n hx hb dX14_make_54 rfl (lv_at hl 1 rfl) ?_
    refine lv_iload hx hb dX14_make_55 (lv_at hl 0 rfl) ?_
    refine lv_if_eq (tgt := 70) hx hb dX14_make_57 (by decide) (fun c => absurd c (by decide)) (fun _ => ?_)
    refine lv_iload_n hx hb dX14_make_60 rfl (lv_at hl 2 rfl) ?_
    refine lv_bipush (v := 108) hx hb dX14_make_61 (by decide) ?_
    refine lv_icmp_ne (tgt := 74) hx hb dX14_make_63 (by decide) (fun c63 => ?_) (fun c63 => ?_)
    · refine lv_aload_n hx hb dX14_make_74 rfl (lv_at hl 1 rfl) ?_
      refine va_get (D := D) (ci := 19) (v := .ref (am 1)) (C := RX14) (T := TX14) (N := 19) hx hb hts iw_X14_make_RX14 hown hK hP 0 rfl rfl 1 (by decide) (hts (.fieldLink RX14 10 "HubcascadeModel" "devices" "Ljava/util/ArrayList;") (by decide +kernel)) (fun _ h9 => h9) rfl dX14_make_75 ?_
      refine ro_callV (As := []) (rest := [.ref (am 0)]) ⟨hx, hb, hml, hown, hts⟩ (c_size l D cy _ 1 (am 1) (am 2) 1 1 rfl) (cwV 0 hts gX14_make_Jx4a65c_size_8abf5 rfl rfl rfl (by decide +kernel) ⟨by decide, by decide⟩) hK hN hP hS (ci := 4) (q0 := 1) rfl rfl rfl rfl hl.1 rfl (Nat.le_of_ble_eq_true rfl) dX14_make_78 ⟨Nat.le_of_ble_eq_true rfl, Nat.le_of_ble_eq_true rfl⟩ (fun H locs hP hS => ?_)
      refine lv_bipush (v := 16) hx hb dX14_make_81 (by decide) ?_
      refine lv_icmp_ne (tgt := 90) hx hb dX14_make_83 (by decide) (fun _ => ?_) (fun c => absurd c (by decide))
      refine lv_iconst (v := 0) hx hb dX14_make_90 (by decide) ?_
      refine va_put (D := D) (ci := 19) (v := .int 0) (ty := .int) (C := RX14) (T := TX14) (N := 19) hx hb hts iw_X14_make_RX14 tyX14 tyX14_ok nmX14 hown hK hP hD hS 0 rfl rfl 0 (by decide) (hts (.fieldLink RX14 61 "HubcascadeModel" "thrown" "I") (by decide +kernel)) (fun _ h9 => h9) rfl (by decide +kernel) rfl rfl (Nat.le_of_ble_eq_true rfl) dX14_make_91 (fun H locs hP hD hS => ?_)
      have hP : va_P D vwCl (WM cy am eda 0) H := hP
      have hD : va_D A (WM cy am eda 0) := hD
      refine lv_aload_n hx hb dX14_make_94 rfl (lv_at hl 1 rfl) ?_
      refine va_get (D := D) (ci := 19) (v := .int 0) (C := RX14) (T := TX14) (N := 19) hx hb hts iw_X14_make_RX14 hown hK hP 0 rfl rfl 0 (by decide) (hts (.fieldLink RX14 61 "HubcascadeModel" "thrown" "I") (by decide +kernel)) (fun _ h9 => h9) rfl dX14_make_95 ?_
      refine lv_if_le (tgt := 103) hx hb dX14_make_98 (by decide) (fun _ => ?_) (fun c => absurd (by decide) c)
      refine lv_aload_n hx hb dX14_make_103 rfl (lv_at hl 1 rfl) ?_
      refine va_get (D := D) (ci := 19) (v := .ref (am 1)) (C := RX14) (T := TX14) (N := 19) hx hb hts iw_X14_make_RX14 hown hK hP 0 rfl rfl 1 (by decide) (hts (.fieldLink RX14 10 "HubcascadeModel" "devices" "Ljava/util/ArrayList;") (by decide +kernel)) (fun _ h9 => h9) rfl dX14_make_104 ?_
      refine va_new (ci := 15) (fs := [.int 0, .int 0, .int 0, .int 0, .int 0, .int 0, .int 0, .int 0, .int 0, .int 0, .int 0, .int 0, .int 0, .null, .null, .null]) (C := RX10) (T := TX10) (N := 16) hx hb hts iw_X14_make_RX10 tyX10 tyX10_ok hown (hts (.classLink RX14 48 RX10) (by decide +kernel)) (hts (.instantiable RX10 16) (by decide +kernel)) (hts (.initialized RX10) (by decide +kernel)) hK hP hD hS hA rfl df_RX10 (Nat.le_of_ble_eq_true rfl) (Nat.le_of_ble_eq_true rfl) dX14_make_107 (fun q1 H hP hD hS => ?_)
      have hP : va_P D vwCl ([(am 0, .inr (19, [.int 0, .ref (am 1), .ref (am 4), .ref (am 5), .ref (am 6), .ref (am 7), .ref (am 8), .int 0, .ref (am 9), .int 0, .int (-1), .int 100, .ref (am 10), .long 0, .int 0, .int 0, .int 0, .int 0, .long 0])), (am 1, .inr (4, [.int 1, .ref (am 2), .int 1])), (am 2, .inl (cy 10, 10, .inr (.inr (.inr (.inr (va_up (fun _ => none) 0 (some (am 3)))))))), (am 3, .inr (15, [.int 104, .int 4, .int 0, .int 1, .int 0, .int 0, .int 99, .int (-1), .int 0, .int 0, .int (-1), .int 0, .int 0, .ref (am 11), .ref (am 12), .ref (am 13)])), (am 4, .inl (cy 9, 12, .inr (.inr (.inr (.inr (fun _ => none)))))), (am 5, .inr (4, [.int 0, .ref eda, .int 0])), (am 6, .inr (4, [.int 0, .ref eda, .int 0])), (am 7, .inr (4, [.int 0, .ref eda, .int 0])), (am 8, .inl (cy 0, 0, .inl (fun _ => 0))), (am 9, .inr (4, [.int 0, .ref eda, .int 0])), (am 10, .inl (cy 0, 16, .inl (fun _ => 0))), (am 11, .inl (cy 8, 4, .inr (.inr (.inr (.inr (fun _ => none)))))), (am 12, .inl (cy 1, 4, .inl (fun _ => 0))), (am 13, .inl (cy 0, 4, .inl (fun _ => 0))), (q1, .inr (15, [.int 0, .int 0, .int 0, .int 0, .int 0, .int 0, .int 0, .int 0, .int 0, .int 0, .int 0, .int 0, .int 0, .null, .null, .null]))]) H := hP
      have hD : va_D A ([(am 0, .inr (19, [.int 0, .ref (am 1), .ref (am 4), .ref (am 5), .ref (am 6), .ref (am 7), .ref (am 8), .int 0, .ref (am 9), .int 0, .int (-1), .int 100, .ref (am 10), .long 0, .int 0, .int 0, .int 0, .int 0, .long 0])), (am 1, .inr (4, [.int 1, .ref (am 2), .int 1])), (am 2, .inl (cy 10, 10, .inr (.inr (.inr (.inr (va_up (fun _ => none) 0 (some (am 3)))))))), (am 3, .inr (15, [.int 104, .int 4, .int 0, .int 1, .int 0, .int 0, .int 99, .int (-1), .int 0, .int 0, .int (-1), .int 0, .int 0, .ref (am 11), .ref (am 12), .ref (am 13)])), (am 4, .inl (cy 9, 12, .inr (.inr (.inr (.inr (fun _ => none)))))), (am 5, .inr (4, [.int 0, .ref eda, .int 0])), (am 6, .inr (4, [.int 0, .ref eda, .int 0])), (am 7, .inr (4, [.int 0, .ref eda, .int 0])), (am 8, .inl (cy 0, 0, .inl (fun _ => 0))), (am 9, .inr (4, [.int 0, .ref eda, .int 0])), (am 10, .inl (cy 0, 16, .inl (fun _ => 0))), (am 11, .inl (cy 8, 4, .inr (.inr (.inr (.inr (fun _ => none)))))), (am 12, .inl (cy 1, 4, .inl (fun _ => 0))), (am 13, .inl (cy 0, 4, .inl (fun _ => 0))), (q1, .inr (15, [.int 0, .int 0, .int 0, .int 0, .int 0, .int 0, .int 0, .int 0, .int 0, .int 0, .int 0, .int 0, .int 0, .null, .null, .null]))]) := hD
      refine lv_dup hx hb dX14_make_110 rfl ?_
      refine lv_iload_n hx hb dX14_make_111 rfl (lv_at hl 2 rfl) ?_
      refine lv_iload_n hx hb dX14_make_112 rfl (lv_at hl 3 rfl) ?_
      refine lv_iload_n hx hb dX14_make_113 rfl (lv_at hl 4 rfl) ?_
      refine lv_iload hx hb dX14_make_114 (lv_at hl 5 rfl) ?_
      refine lv_iload hx hb dX14_make_116 (lv_at hl 6 rfl) ?_
      refine me_callI (wr := WM cy am eda 0) (wc := [(q1, .inr (15, [.int 0, .int 0, .int 0, .int 0, .int 0, .int 0, .int 0, .int 0, .int 0, .int 0, .int 0, .int 0, .int 0, .null, .null, .null]))]) (As := [.int q, .int a, .int b, .int o, .int z]) (rest := [.ref q1, .ref (am 1)]) ⟨hx, hb, hml, hown, hts⟩ (m_dev_init l D cy q1 _ q a b o z hnq hfq hno hfo) (cwI 5 hts gX14_make_X10_init rfl rfl rfl (hts (.initialized RX10) (by decide +kernel)) (hts (.methodLink RX14 50 yX10_init) (by decide +kernel)) (hts (.instanceMethod yX10_init) (by decide +kernel)) rfl (by decide +kernel) ⟨by decide, by decide⟩) hK hN hP hD hS hA rfl hl.1 rfl (Nat.le_of_ble_eq_true rfl) dX14_make_118 ⟨Nat.le_of_ble_eq_true rfl, Nat.le_of_ble_eq_true rfl⟩ (fun H locs hB hJ hS => ?_)
      obtain ⟨q2, q3, q4, hP1, hD1⟩ := hB
      obtain ⟨hP, hD⟩ := hJ _ hP1 hD1
      have hP : va_P D vwCl ([(am 0, .inr (19, [.int 0, .ref (am 1), .ref (am 4), .ref (am 5), .ref (am 6), .ref (am 7), .ref (am 8), .int 0, .ref (am 9), .int 0, .int (-1), .int 100, .ref (am 10), .long 0, .int 0, .int 0, .int 0, .int 0, .long 0])), (am 1, .inr (4, [.int 1, .ref (am 2), .int 1])), (am 2, .inl (cy 10, 10, .inr (.inr (.inr (.inr (va_up (fun _ => none) 0 (some (am 3)))))))), (am 3, .inr (15, [.int 104, .int 4, .int 0, .int 1, .int 0, .int 0, .int 99, .int (-1), .int 0, .int 0, .int (-1), .int 0, .int 0, .ref (am 11), .ref (am 12), .ref (am 13)])), (am 4, .inl (cy 9, 12, .inr (.inr (.inr (.inr (fun _ => none)))))), (am 5, .inr (4, [.int 0, .ref eda, .int 0])), (am 6, .inr (4, [.int 0, .ref eda, .int 0])), (am 7, .inr (4, [.int 0, .ref eda, .int 0])), (am 8, .inl (cy 0, 0, .inl (fun _ => 0))), (am 9, .inr (4, [.int 0, .ref eda, .int 0])), (am 10, .inl (cy 0, 16, .inl (fun _ => 0))), (am 11, .inl (cy 8, 4, .inr (.inr (.inr (.inr (fun _ => none)))))), (am 12, .inl (cy 1, 4, .inl (fun _ => 0))), (am 13, .inl (cy 0, 4, .inl (fun _ => 0))), (q1, .inr (15, [.int q, .int a, .int b, .int o, .int z, .int b, .int 117, .int (-1), .int 0, .int 0, .int (-1), .int 0, .int 0, .ref q2, .ref q3, .ref q4])), (q2, .inl (cy 8, 4, .inr (.inr (.inr (.inr (fun _ => none)))))), (q3, .inl (cy 1, 4, .inl (fun _ => 0))), (q4, .inl (cy 0, 4, .inl (fun _ => 0)))]) H := hP
      have hD : va_D A ([(am 0, .inr (19, [.int 0, .ref (am 1), .ref (am 4), .ref (am 5), .ref (am 6), .ref (am 7), .ref (am 8), .int 0, .ref (am 9), .int 0, .int (-1), .int 100, .ref (am 10), .long 0, .int 0, .int 0, .int 0, .int 0, .long 0])), (am 1, .inr (4, [.int 1, .ref (am 2), .int 1])), (am 2, .inl (cy 10, 10, .inr (.inr (.inr (.inr (va_up (fun _ => none) 0 (some (am 3)))))))), (am 3, .inr (15, [.int 104, .int 4, .int 0, .int 1, .int 0, .int 0, .int 99, .int (-1), .int 0, .int 0, .int (-1), .int 0, .int 0, .ref (am 11), .ref (am 12), .ref (am 13)])), (am 4, .inl (cy 9, 12, .inr (.inr (.inr (.inr (fun _ => none)))))), (am 5, .inr (4, [.int 0, .ref eda, .int 0])), (am 6, .inr (4, [.int 0, .ref eda, .int 0])), (am 7, .inr (4, [.int 0, .ref eda, .int 0])), (am 8, .inl (cy 0, 0, .inl (fun _ => 0))), (am 9, .inr (4, [.int 0, .ref eda, .int 0])), (am 10, .inl (cy 0, 16, .inl (fun _ => 0))), (am 11, .inl (cy 8, 4, .inr (.inr (.inr (.inr (fun _ => none)))))), (am 12, .inl (cy 1, 4, .inl (fun _ => 0))), (am 13, .inl (cy 0, 4, .inl (fun _ => 0))), (q1, .inr (15, [.int q, .int a, .int b, .int o, .int z, .int b, .int 117, .int (-1), .int 0, .int 0, .int (-1), .int 0, .int 0, .ref q2, .ref q3, .ref q4])), (q2, .inl (cy 8, 4, .inr (.inr (.inr (.inr (fun _ => none)))))), (q3, .inl (cy 1, 4, .inl (fun _ => 0))), (q4, .inl (cy 0, 4, .inl (fun _ => 0)))]) := hD
      have hP := hP.sub (ws' := [(am 0, .inr (19, [.int 0, .ref (am 1), .ref (am 4), .ref (am 5), .ref (am 6), .ref (am 7), .ref (am 8), .int 0, .ref (am 9), .int 0, .int (-1), .int 100, .ref (am 10), .long 0, .int 0, .int 0, .int 0, .int 0, .long 0])), (am 3, .inr (15, [.int 104, .int 4, .int 0, .int 1, .int 0, .int 0, .int 99, .int (-1), .int 0, .int 0, .int (-1), .int 0, .int 0, .ref (am 11), .ref (am 12), .ref (am 13)])), (am 4, .inl (cy 9, 12, .inr (.inr (.inr (.inr (fun _ => none)))))), (am 5, .inr (4, [.int 0, .ref eda, .int 0])), (am 6, .inr (4, [.int 0, .ref eda, .int 0])), (am 7, .inr (4, [.int 0, .ref eda, .int 0])), (am 8, .inl (cy 0, 0, .inl (fun _ => 0))), (am 9, .inr (4, [.int 0, .ref eda, .int 0])), (am 10, .inl (cy 0, 16, .inl (fun _ => 0))), (am 11, .inl (cy 8, 4, .inr (.inr (.inr (.inr (fun _ => none)))))), (am 12, .inl (cy 1, 4, .inl (fun _ => 0))), (am 13, .inl (cy 0, 4, .inl (fun _ => 0))), (q2, .inl (cy 8, 4, .inr (.inr (.inr (.inr (fun _ => none)))))), (q3, .inl (cy 1, 4, .inl (fun _ => 0))), (q4, .inl (cy 0, 4, .inl (fun _ => 0))), (am 1, .inr (4, [.int 1, .ref (am 2), .int 1])), (am 2, .inl (cy 10, 10, .inr (.inr (.inr (.inr (va_up (fun _ => none) 0 (some (am 3)))))))), (q1, .inr (15, [.int q, .int a, .int b, .int o, .int z, .int b, .int 117, .int (-1), .int 0, .int 0, .int (-1), .int 0, .int 0, .ref q2, .ref q3, .ref q4]))]) [0, 3, 4, 5, 6, 7, 8, 9, 10, 11, 12, 13, 15, 16, 17, 1, 2, 14] rfl
      have hD := hD.sub (ws' := [(am 0, .inr (19, [.int 0, .ref (am 1), .ref (am 4), .ref (am 5), .ref (am 6), .ref (am 7), .ref (am 8), .int 0, .ref (am 9), .int 0, .int (-1), .int 100, .ref (am 10), .long 0, .int 0, .int 0, .int 0, .int 0, .long 0])), (am 3, .inr (15, [.int 104, .int 4, .int 0, .int 1, .int 0, .int 0, .int 99, .int (-1), .int 0, .int 0, .int (-1), .int 0, .int 0, .ref (am 11), .ref (am 12), .ref (am 13)])), (am 4, .inl (cy 9, 12, .inr (.inr (.inr (.inr (fun _ => none)))))), (am 5, .inr (4, [.int 0, .ref eda, .int 0])), (am 6, .inr (4, [.int 0, .ref eda, .int 0])), (am 7, .inr (4, [.int 0, .ref eda, .int 0])), (am 8, .inl (cy 0, 0, .inl (fun _ => 0))), (am 9, .inr (4, [.int 0, .ref eda, .int 0])), (am 10, .inl (cy 0, 16, .inl (fun _ => 0))), (am 11, .inl (cy 8, 4, .inr (.inr (.inr (.inr (fun _ => none)))))), (am 12, .inl (cy 1, 4, .inl (fun _ => 0))), (am 13, .inl (cy 0, 4, .inl (fun _ => 0))), (q2, .inl (cy 8, 4, .inr (.inr (.inr (.inr (fun _ => none)))))), (q3, .inl (cy 1, 4, .inl (fun _ => 0))), (q4, .inl (cy 0, 4, .inl (fun _ => 0))), (am 1, .inr (4, [.int 1, .ref (am 2), .int 1])), (am 2, .inl (cy 10, 10, .inr (.inr (.inr (.inr (va_up (fun _ => none) 0 (some (am 3)))))))), (q1, .inr (15, [.int q, .int a, .int b, .int o, .int z, .int b, .int 117, .int (-1), .int 0, .int 0, .int (-1), .int 0, .int 0, .ref q2, .ref q3, .ref q4]))]) [0, 3, 4, 5, 6, 7, 8, 9, 10, 11, 12, 13, 15, 16, 17, 1, 2, 14] (by decide) rfl
      refine mj_callV (wr := [(am 0, .inr (19, [.int 0, .ref (am 1), .ref (am 4), .ref (am 5), .ref (am 6), .ref (am 7), .ref (am 8), .int 0, .ref (am 9), .int 0, .int (-1), .int 100, .ref (am 10), .long 0, .int 0, .int 0, .int 0, .int 0, .long 0])), (am 3, .inr (15, [.int 104, .int 4, .int 0, .int 1, .int 0, .int 0, .int 99, .int (-1), .int 0, .int 0, .int (-1), .int 0, .int 0, .ref (am 11), .ref (am 12), .ref (am 13)])), (am 4, .inl (cy 9, 12, .inr (.inr (.inr (.inr (fun _ => none)))))), (am 5, .inr (4, [.int 0, .ref eda, .int 0])), (am 6, .inr (4, [.int 0, .ref eda, .int 0])), (am 7, .inr (4, [.int 0, .ref eda, .int 0])), (am 8, .inl (cy 0, 0, .inl (fun _ => 0))), (am 9, .inr (4, [.int 0, .ref eda, .int 0])), (am 10, .inl (cy 0, 16, .inl (fun _ => 0))), (am 11, .inl (cy 8, 4, .inr (.inr (.inr (.inr (fun _ => none)))))), (am 12, .inl (cy 1, 4, .inl (fun _ => 0))), (am 13, .inl (cy 0, 4, .inl (fun _ => 0))), (q2, .inl (cy 8, 4, .inr (.inr (.inr (.inr (fun _ => none)))))), (q3, .inl (cy 1, 4, .inl (fun _ => 0))), (q4, .inl (cy 0, 4, .inl (fun _ => 0)))]) (wc := [(am 1, .inr (4, [.int 1, .ref (am 2), .int 1])), (am 2, .inl (cy 10, 10, .inr (.inr (.inr (.inr (va_up (fun _ => none) 0 (some (am 3)))))))), (q1, .inr (15, [.int q, .int a, .int b, .int o, .int z, .int b, .int 117, .int (-1), .int 0, .int 0, .int (-1), .int 0, .int 0, .ref q2, .ref q3, .ref q4]))]) (As := [.ref q1]) (rest := []) ⟨hx, hb, hml, hown, hts⟩ (m_addm l D cy (am 1) (am 2) (am 3) q1 _ 1 ([.int q, .int a, .int b, .int o, .int z, .int b, .int 117, .int (-1), .int 0, .int 0, .int (-1), .int 0, .int 0, .ref q2, .ref q3, .ref q4]) ) (cwV 1 hts gX14_make_Jx4a65c_add_9ea2d rfl rfl rfl (by decide +kernel) ⟨by decide, by decide⟩) hK hN hP hD hS hA hJS (ci := 4) (q0 := 0) rfl rfl rfl rfl hl.1 rfl (Nat.le_of_ble_eq_true rfl) dX14_make_121 ⟨Nat.le_of_ble_eq_true rfl, Nat.le_of_ble_eq_true rfl⟩ (fun H locs hB hJ hS => ?_)
      obtain ⟨hP1, hD1⟩ := hB
      obtain ⟨hP, hD⟩ := hJ _ hP1 hD1
      have hP : va_P D vwCl ([(am 0, .inr (19, [.int 0, .ref (am 1), .ref (am 4), .ref (am 5), .ref (am 6), .ref (am 7), .ref (am 8), .int 0, .ref (am 9), .int 0, .int (-1), .int 100, .ref (am 10), .long 0, .int 0, .int 0, .int 0, .int 0, .long 0])), (am 3, .inr (15, [.int 104, .int 4, .int 0, .int 1, .int 0, .int 0, .int 99, .int (-1), .int 0, .int 0, .int (-1), .int 0, .int 0, .ref (am 11), .ref (am 12), .ref (am 13)])), (am 4, .inl (cy 9, 12, .inr (.inr (.inr (.inr (fun _ => none)))))), (am 5, .inr (4, [.int 0, .ref eda, .int 0])), (am 6, .inr (4, [.int 0, .ref eda, .int 0])), (am 7, .inr (4, [.int 0, .ref eda, .int 0])), (am 8, .inl (cy 0, 0, .inl (fun _ => 0))), (am 9, .inr (4, [.int 0, .ref eda, .int 0])), (am 10, .inl (cy 0, 16, .inl (fun _ => 0))), (am 11, .inl (cy 8, 4, .inr (.inr (.inr (.inr (fun _ => none)))))), (am 12, .inl (cy 1, 4, .inl (fun _ => 0))), (am 13, .inl (cy 0, 4, .inl (fun _ => 0))), (q2, .inl (cy 8, 4, .inr (.inr (.inr (.inr (fun _ => none)))))), (q3, .inl (cy 1, 4, .inl (fun _ => 0))), (q4, .inl (cy 0, 4, .inl (fun _ => 0))), (am 1, .inr (4, [.int 2, .ref (am 2), .int 2])), (am 2, .inl (cy 10, 10, .inr (.inr (.inr (.inr (va_up (va_up (fun _ => none) 0 (some (am 3))) 1 (some q1))))))), (q1, .inr (15, [.int q, .int a, .int b, .int o, .int z, .int b, .int 117, .int (-1), .int 0, .int 0, .int (-1), .int 0, .int 0, .ref q2, .ref q3, .ref q4]))]) H := hP
      have hD : va_D A ([(am 0, .inr (19, [.int 0, .ref (am 1), .ref (am 4), .ref (am 5), .ref (am 6), .ref (am 7), .ref (am 8), .int 0, .ref (am 9), .int 0, .int (-1), .int 100, .ref (am 10), .long 0, .int 0, .int 0, .int 0, .int 0, .long 0])), (am 3, .inr (15, [.int 104, .int 4, .int 0, .int 1, .int 0, .int 0, .int 99, .int (-1), .int 0, .int 0, .int (-1), .int 0, .int 0, .ref (am 11), .ref (am 12), .ref (am 13)])), (am 4, .inl (cy 9, 12, .inr (.inr (.inr (.inr (fun _ => none)))))), (am 5, .inr (4, [.int 0, .ref eda, .int 0])), (am 6, .inr (4, [.int 0, .ref eda, .int 0])), (am 7, .inr (4, [.int 0, .ref eda, .int 0])), (am 8, .inl (cy 0, 0, .inl (fun _ => 0))), (am 9, .inr (4, [.int 0, .ref eda, .int 0])), (am 10, .inl (cy 0, 16, .inl (fun _ => 0))), (am 11, .inl (cy 8, 4, .inr (.inr (.inr (.inr (fun _ => none)))))), (am 12, .inl (cy 1, 4, .inl (fun _ => 0))), (am 13, .inl (cy 0, 4, .inl (fun _ => 0))), (q2, .inl (cy 8, 4, .inr (.inr (.inr (.inr (fun _ => none)))))), (q3, .inl (cy 1, 4, .inl (fun _ => 0))), (q4, .inl (cy 0, 4, .inl (fun _ => 0))), (am 1, .inr (4, [.int 2, .ref (am 2), .int 2])), (am 2, .inl (cy 10, 10, .inr (.inr (.inr (.inr (va_up (va_up (fun _ => none) 0 (some (am 3))) 1 (some q1))))))), (q1, .inr (15, [.int q, .int a, .int b, .int o, .int z, .int b, .int 117, .int (-1), .int 0, .int 0, .int (-1), .int 0, .int 0, .ref q2, .ref q3, .ref q4]))]) := hD
      refine lv_pop hx hb dX14_make_124 rfl ?_
      refine lv_aload_n hx hb dX14_make_125 rfl (lv_at hl 1 rfl) ?_
      refine va_get (D := D) (ci := 19) (v := .ref (am 1)) (C := RX14) (T := TX14) (N := 19) hx hb hts iw_X14_make_RX14 hown hK hP 0 rfl rfl 1 (by decide) (hts (.fieldLink RX14 10 "HubcascadeModel" "devices" "Ljava/util/ArrayList;") (by decide +kernel)) (fun _ h9 => h9) rfl dX14_make_126 ?_
      refine ro_callV (As := []) (rest := []) ⟨hx, hb, hml, hown, hts⟩ (c_size l D cy _ 15 (am 1) (am 2) 2 2 rfl) (cwV 0 hts gX14_make_Jx4a65c_size_8abf5 rfl rfl rfl (by decide +kernel) ⟨by decide, by decide⟩) hK hN hP hS (ci := 4) (q0 := 15) rfl rfl rfl rfl hl.1 rfl (Nat.le_of_ble_eq_true rfl) dX14_make_129 ⟨Nat.le_of_ble_eq_true rfl, Nat.le_of_ble_eq_true rfl⟩ (fun H locs hP hS => ?_)
      refine lv_iconst (v := 1) hx hb dX14_make_132 (by decide) ?_
      refine lv_isub hx hb dX14_make_133 ?_
      refine lv_topi (fun y ey => ?_)
      obtain rfl : y = 1 := ey.trans (by decide)
      refine W.widen (k := 4) (n := 28) (Nat.le_of_ble_eq_true rfl) (Nat.le_of_ble_eq_true rfl) ?_
      have hP9 := hP.sub (ws' := [(am 0, .inr (19, [.int 0, .ref (am 1), .ref (am 4), .ref (am 5), .ref (am 6), .ref (am 7), .ref (am 8), .int 0, .ref (am 9), .int 0, .int (-1), .int 100, .ref (am 10), .long 0, .int 0, .int 0, .int 0, .int 0, .long 0]))]) [0] rfl
      have hD9 := hD.sub (ws' := [(am 0, .inr (19, [.int 0, .ref (am 1), .ref (am 4), .ref (am 5), .ref (am 6), .ref (am 7), .ref (am 8), .int 0, .ref (am 9), .int 0, .int (-1), .int 100, .ref (am 10), .long 0, .int 0, .int 0, .int 0, .int 0, .long 0]))]) [0] (by decide) rfl
      exact W.iret hx hb hr (fun t ht hW => ⟨rfl, ⟨by rw [ht]; exact hP9, hD9⟩, hS.F ht⟩) hS.2.2 dX14_make_134
    · refine lv_iload_n hx hb dX14_make_66 rfl (lv_at hl 3 rfl) ?_
      refine lv_if_le (tgt := 74) hx hb dX14_make_67 (by decide) (fun _ => ?_) (fun c => absurd (my_nlt0 (fun y => h5 ⟨c63, y⟩)) c)
      refine lv_aload_n hx hb dX14_make_74 rfl (lv_at hl 1 rfl) ?_
      refine va_get (D := D) (ci := 19) (v := .ref (am 1)) (C := RX14) (T := TX14) (N := 19) hx hb hts iw_X14_make_RX14 hown hK hP 0 rfl rfl 1 (by decide) (hts (.fieldLink RX14 10 "HubcascadeModel" "devices" "Ljava/util/ArrayList;") (by decide +kernel)) (fun _ h9 => h9) rfl dX14_make_75 ?_
      refine ro_callV (As := []) (rest := [.ref (am 0)]) ⟨hx, hb, hml, hown, hts⟩ (c_size l D cy _ 1 (am 1) (am 2) 1 1 rfl) (cwV 0 hts gX14_make_Jx4a65c_size_8abf5 rfl rfl rfl (by decide +kernel) ⟨by decide, by decide⟩) hK hN hP hS (ci := 4) (q0 := 1) rfl rfl rfl rfl hl.1 rfl (Nat.le_of_ble_eq_true rfl) dX14_make_78 ⟨Nat.le_of_ble_eq_true rfl, Nat.le_of_ble_eq_true rfl⟩ (fun H locs hP hS => ?_)
      refine lv_bipush (v := 16) hx hb dX14_make_81 (by decide) ?_
      refine lv_icmp_ne (tgt := 90) hx hb dX14_make_83 (by decide) (fun _ => ?_) (fun c => absurd c (by decide))
      refine lv_iconst (v := 0) hx hb dX14_make_90 (by decide) ?_
      refine va_put (D := D) (ci := 19) (v := .int 0) (ty := .int) (C := RX14) (T := TX14) (N := 19) hx hb hts iw_X14_make_RX14 tyX14 tyX14_ok nmX14 hown hK hP hD hS 0 rfl rfl 0 (by decide) (hts (.fieldLink RX14 61 "HubcascadeModel" "thrown" "I") (by decide +kernel)) (fun _ h9 => h9) rfl (by decide +kernel) rfl rfl (Nat.le_of_ble_eq_true rfl) dX14_make_91 (fun H locs hP hD hS => ?_)
      have hP : va_P D vwCl (WM cy am eda 0) H := hP
      have hD : va_D A (WM cy am eda 0) := hD
      refine lv_aload_n hx hb dX14_make_94 rfl (lv_at hl 1 rfl) ?_
      refine va_get (D := D) (ci := 19) (v := .int 0) (C := RX14) (T := TX14) (N := 19) hx hb hts iw_X14_make_RX14 hown hK hP 0 rfl rfl 0 (by decide) (hts (.fieldLink RX14 61 "HubcascadeModel" "thrown" "I") (by decide +kernel)) (fun _ h9 => h9) rfl dX14_make_95 ?_
      refine lv_if_le (tgt := 103) hx hb dX14_make_98 (by decide) (fun _ => ?_) (fun c => absurd (by decide) c)
      refine lv_aload_n hx hb dX14_make_103 rfl (lv_at hl 1 rfl) ?_
      refine va_get (D := D) (ci := 19) (v := .ref (am 1)) (C := RX14) (T := TX14) (N := 19) hx hb hts iw_X14_make_RX14 hown hK hP 0 rfl rfl 1 (by decide) (hts (.fieldLink RX14 10 "HubcascadeModel" "devices" "Ljava/util/ArrayList;") (by decide +kernel)) (fun _ h9 => h9) rfl dX14_make_104 ?_
      refine va_new (ci := 15) (fs := [.int 0, .int 0, .int 0, .int 0, .int 0, .int 0, .int 0, .int 0, .int 0, .int 0, .int 0, .int 0, .int 0, .null, .null, .null]) (C := RX10) (T := TX10) (N := 16) hx hb hts iw_X14_make_RX10 tyX10 tyX10_ok hown (hts (.classLink RX14 48 RX10) (by decide +kernel)) (hts (.instantiable RX10 16) (by decide +kernel)) (hts (.initialized RX10) (by decide +kernel)) hK hP hD hS hA rfl df_RX10 (Nat.le_of_ble_eq_true rfl) (Nat.le_of_ble_eq_true rfl) dX14_make_107 (fun q5 H hP hD hS => ?_)
      have hP : va_P D vwCl ([(am 0, .inr (19, [.int 0, .ref (am 1), .ref (am 4), .ref (am 5), .ref (am 6), .ref (am 7), .ref (am 8), .int 0, .ref (am 9), .int 0, .int (-1), .int 100, .ref (am 10), .long 0, .int 0, .int 0, .int 0, .int 0, .long 0])), (am 1, .inr (4, [.int 1, .ref (am 2), .int 1])), (am 2, .inl (cy 10, 10, .inr (.inr (.inr (.inr (va_up (fun _ => none) 0 (some (am 3)))))))), (am 3, .inr (15, [.int 104, .int 4, .int 0, .int 1, .int 0, .int 0, .int 99, .int (-1), .int 0, .int 0, .int (-1), .int 0, .int 0, .ref (am 11), .ref (am 12), .ref (am 13)])), (am 4, .inl (cy 9, 12, .inr (.inr (.inr (.inr (fun _ => none)))))), (am 5, .inr (4, [.int 0, .ref eda, .int 0])), (am 6, .inr (4, [.int 0, .ref eda, .int 0])), (am 7, .inr (4, [.int 0, .ref eda, .int 0])), (am 8, .inl (cy 0, 0, .inl (fun _ => 0))), (am 9, .inr (4, [.int 0, .ref eda, .int 0])), (am 10, .inl (cy 0, 16, .inl (fun _ => 0))), (am 11, .inl (cy 8, 4, .inr (.inr (.inr (.inr (fun _ => none)))))), (am 12, .inl (cy 1, 4, .inl (fun _ => 0))), (am 13, .inl (cy 0, 4, .inl (fun _ => 0))), (q5, .inr (15, [.int 0, .int 0, .int 0, .int 0, .int 0, .int 0, .int 0, .int 0, .int 0, .int 0, .int 0, .int 0, .int 0, .null, .null, .null]))]) H := hP
      have hD : va_D A ([(am 0, .inr (19, [.int 0, .ref (am 1), .ref (am 4), .ref (am 5), .ref (am 6), .ref (am 7), .ref (am 8), .int 0, .ref (am 9), .int 0, .int (-1), .int 100, .ref (am 10), .long 0, .int 0, .int 0, .int 0, .int 0, .long 0])), (am 1, .inr (4, [.int 1, .ref (am 2), .int 1])), (am 2, .inl (cy 10, 10, .inr (.inr (.inr (.inr (va_up (fun _ => none) 0 (some (am 3)))))))), (am 3, .inr (15, [.int 104, .int 4, .int 0, .int 1, .int 0, .int 0, .int 99, .int (-1), .int 0, .int 0, .int (-1), .int 0, .int 0, .ref (am 11), .ref (am 12), .ref (am 13)])), (am 4, .inl (cy 9, 12, .inr (.inr (.inr (.inr (fun _ => none)))))), (am 5, .inr (4, [.int 0, .ref eda, .int 0])), (am 6, .inr (4, [.int 0, .ref eda, .int 0])), (am 7, .inr (4, [.int 0, .ref eda, .int 0])), (am 8, .inl (cy 0, 0, .inl (fun _ => 0))), (am 9, .inr (4, [.int 0, .ref eda, .int 0])), (am 10, .inl (cy 0, 16, .inl (fun _ => 0))), (am 11, .inl (cy 8, 4, .inr (.inr (.inr (.inr (fun _ => none)))))), (am 12, .inl (cy 1, 4, .inl (fun _ => 0))), (am 13, .inl (cy 0, 4, .inl (fun _ => 0))), (q5, .inr (15, [.int 0, .int 0, .int 0, .int 0, .int 0, .int 0, .int 0, .int 0, .int 0, .int 0, .int 0, .int 0, .int 0, .null, .null, .null]))]) := hD
      refine lv_dup hx hb dX14_make_110 rfl ?_
      refine lv_iload_n hx hb dX14_make_111 rfl (lv_at hl 2 rfl) ?_
      refine lv_iload_n hx hb dX14_make_112 rfl (lv_at hl 3 rfl) ?_
      refine lv_iload_n hx hb dX14_make_113 rfl (lv_at hl 4 rfl) ?_
      refine lv_iload hx hb dX14_make_114 (lv_at hl 5 rfl) ?_
      refine lv_iload hx hb dX14_make_116 (lv_at hl 6 rfl) ?_
      refine me_callI (wr := WM cy am eda 0) (wc := [(q5, .inr (15, [.int 0, .int 0, .int 0, .int 0, .int 0, .int 0, .int 0, .int 0, .int 0, .int 0, .int 0, .int 0, .int 0, .null, .null, .null]))]) (As := [.int q, .int a, .int b, .int o, .int z]) (rest := [.ref q5, .ref (am 1)]) ⟨hx, hb, hml, hown, hts⟩ (m_dev_init l D cy q5 _ q a b o z hnq hfq hno hfo) (cwI 5 hts gX14_make_X10_init rfl rfl rfl (hts (.initialized RX10) (by decide +kernel)) (hts (.methodLink RX14 50 yX10_init) (by decide +kernel)) (hts (.instanceMethod yX10_init) (by decide +kernel)) rfl (by decide +kernel) ⟨by decide, by decide⟩) hK hN hP hD hS hA rfl hl.1 rfl (Nat.le_of_ble_eq_true rfl) dX14_make_118 ⟨Nat.le_of_ble_eq_true rfl, Nat.le_of_ble_eq_true rfl⟩ (fun H locs hB hJ hS => ?_)
      obtain ⟨q6, q7, q8, hP1, hD1⟩ := hB
      obtain ⟨hP, hD⟩ := hJ _ hP1 hD1
      have hP : va_P D vwCl ([(am 0, .inr (19, [.int 0, .ref (am 1), .ref (am 4), .ref (am 5), .ref (am 6), .ref (am 7), .ref (am 8), .int 0, .ref (am 9), .int 0, .int (-1), .int 100, .ref (am 10), .long 0, .int 0, .int 0, .int 0, .int 0, .long 0])), (am 1, .inr (4, [.int 1, .ref (am 2), .int 1])), (am 2, .inl (cy 10, 10, .inr (.inr (.inr (.inr (va_up (fun _ => none) 0 (some (am 3)))))))), (am 3, .inr (15, [.int 104, .int 4, .int 0, .int 1, .int 0, .int 0, .int 99, .int (-1), .int 0, .int 0, .int (-1), .int 0, .int 0, .ref (am 11), .ref (am 12), .ref (am 13)])), (am 4, .inl (cy 9, 12, .inr (.inr (.inr (.inr (fun _ => none)))))), (am 5, .inr (4, [.int 0, .ref eda, .int 0])), (am 6, .inr (4, [.int 0, .ref eda, .int 0])), (am 7, .inr (4, [.int 0, .ref eda, .int 0])), (am 8, .inl (cy 0, 0, .inl (fun _ => 0))), (am 9, .inr (4, [.int 0, .ref eda, .int 0])), (am 10, .inl (cy 0, 16, .inl (fun _ => 0))), (am 11, .inl (cy 8, 4, .inr (.inr (.inr (.inr (fun _ => none)))))), (am 12, .inl (cy 1, 4, .inl (fun _ => 0))), (am 13, .inl (cy 0, 4, .inl (fun _ => 0))), (q5, .inr (15, [.int q, .int a, .int b, .int o, .int z, .int b, .int 117, .int (-1), .int 0, .int 0, .int (-1), .int 0, .int 0, .ref q6, .ref q7, .ref q8])), (q6, .inl (cy 8, 4, .inr (.inr (.inr (.inr (fun _ => none)))))), (q7, .inl (cy 1, 4, .inl (fun _ => 0))), (q8, .inl (cy 0, 4, .inl (fun _ => 0)))]) H := hP
      have hD : va_D A ([(am 0, .inr (19, [.int 0, .ref (am 1), .ref (am 4), .ref (am 5), .ref (am 6), .ref (am 7), .ref (am 8), .int 0, .ref (am 9), .int 0, .int (-1), .int 100, .ref (am 10), .long 0, .int 0, .int 0, .int 0, .int 0, .long 0])), (am 1, .inr (4, [.int 1, .ref (am 2), .int 1])), (am 2, .inl (cy 10, 10, .inr (.inr (.inr (.inr (va_up (fun _ => none) 0 (some (am 3)))))))), (am 3, .inr (15, [.int 104, .int 4, .int 0, .int 1, .int 0, .int 0, .int 99, .int (-1), .int 0, .int 0, .int (-1), .int 0, .int 0, .ref (am 11), .ref (am 12), .ref (am 13)])), (am 4, .inl (cy 9, 12, .inr (.inr (.inr (.inr (fun _ => none)))))), (am 5, .inr (4, [.int 0, .ref eda, .int 0])), (am 6, .inr (4, [.int 0, .ref eda, .int 0])), (am 7, .inr (4, [.int 0, .ref eda, .int 0])), (am 8, .inl (cy 0, 0, .inl (fun _ => 0))), (am 9, .inr (4, [.int 0, .ref eda, .int 0])), (am 10, .inl (cy 0, 16, .inl (fun _ => 0))), (am 11, .inl (cy 8, 4, .inr (.inr (.inr (.inr (fun _ => none)))))), (am 12, .inl (cy 1, 4, .inl (fun _ => 0))), (am 13, .inl (cy 0, 4, .inl (fun _ => 0))), (q5, .inr (15, [.int q, .int a, .int b, .int o, .int z, .int b, .int 117, .int (-1), .int 0, .int 0, .int (-1), .int 0, .int 0, .ref q6, .ref q7, .ref q8])), (q6, .inl (cy 8, 4, .inr (.inr (.inr (.inr (fun _ => none)))))), (q7, .inl (cy 1, 4, .inl (fun _ => 0))), (q8, .inl (cy 0, 4, .inl (fun _ => 0)))]) := hD
      have hP := hP.sub (ws' := [(am 0, .inr (19, [.int 0, .ref (am 1), .ref (am 4), .ref (am 5), .ref (am 6), .ref (am 7), .ref (am 8), .int 0, .ref (am 9), .int 0, .int (-1), .int 100, .ref (am 10), .long 0, .int 0, .int 0, .int 0, .int 0, .long 0])), (am 3, .inr (15, [.int 104, .int 4, .int 0, .int 1, .int 0, .int 0, .int 99, .int (-1), .int 0, .int 0, .int (-1), .int 0, .int 0, .ref (am 11), .ref (am 12), .ref (am 13)])), (am 4, .inl (cy 9, 12, .inr (.inr (.inr (.inr (fun _ => none)))))), (am 5, .inr (4, [.int 0, .ref eda, .int 0])), (am 6, .inr (4, [.int 0, .ref eda, .int 0])), (am 7, .inr (4, [.int 0, .ref eda, .int 0])), (am 8, .inl (cy 0, 0, .inl (fun _ => 0))), (am 9, .inr (4, [.int 0, .ref eda, .int 0])), (am 10, .inl (cy 0, 16, .inl (fun _ => 0))), (am 11, .inl (cy 8, 4, .inr (.inr (.inr (.inr (fun _ => none)))))), (am 12, .inl (cy 1, 4, .inl (fun _ => 0))), (am 13, .inl (cy 0, 4, .inl (fun _ => 0))), (q6, .inl (cy 8, 4, .inr (.inr (.inr (.inr (fun _ => none)))))), (q7, .inl (cy 1, 4, .inl (fun _ => 0))), (q8, .inl (cy 0, 4, .inl (fun _ => 0))), (am 1, .inr (4, [.int 1, .ref (am 2), .int 1])), (am 2, .inl (cy 10, 10, .inr (.inr (.inr (.inr (va_up (fun _ => none) 0 (some (am 3)))))))), (q5, .inr (15, [.int q, .int a, .int b, .int o, .int z, .int b, .int 117, .int (-1), .int 0, .int 0, .int (-1), .int 0, .int 0, .ref q6, .ref q7, .ref q8]))]) [0, 3, 4, 5, 6, 7, 8, 9, 10, 11, 12, 13, 15, 16, 17, 1, 2, 14] rfl
      have hD := hD.sub (ws' := [(am 0, .inr (19, [.int 0, .ref (am 1), .ref (am 4), .ref (am 5), .ref (am 6), .ref (am 7), .ref (am 8), .int 0, .ref (am 9), .int 0, .int (-1), .int 100, .ref (am 10), .long 0, .int 0, .int 0, .int 0, .int 0, .long 0])), (am 3, .inr (15, [.int 104, .int 4, .int 0, .int 1, .int 0, .int 0, .int 99, .int (-1), .int 0, .int 0, .int (-1), .int 0, .int 0, .ref (am 11), .ref (am 12), .ref (am 13)])), (am 4, .inl (cy 9, 12, .inr (.inr (.inr (.inr (fun _ => none)))))), (am 5, .inr (4, [.int 0, .ref eda, .int 0])), (am 6, .inr (4, [.int 0, .ref eda, .int 0])), (am 7, .inr (4, [.int 0, .ref eda, .int 0])), (am 8, .inl (cy 0, 0, .inl (fun _ => 0))), (am 9, .inr (4, [.int 0, .ref eda, .int 0])), (am 10, .inl (cy 0, 16, .inl (fun _ => 0))), (am 11, .inl (cy 8, 4, .inr (.inr (.inr (.inr (fun _ => none)))))), (am 12, .inl (cy 1, 4, .inl (fun _ => 0))), (am 13, .inl (cy 0, 4, .inl (fun _ => 0))), (q6, .inl (cy 8, 4, .inr (.inr (.inr (.inr (fun _ => none)))))), (q7, .inl (cy 1, 4, .inl (fun _ => 0))), (q8, .inl (cy 0, 4, .inl (fun _ => 0))), (am 1, .inr (4, [.int 1, .ref (am 2), .int 1])), (am 2, .inl (cy 10, 10, .inr (.inr (.inr (.inr (va_up (fun _ => none) 0 (some (am 3)))))))), (q5, .inr (15, [.int q, .int a, .int b, .int o, .int z, .int b, .int 117, .int (-1), .int 0, .int 0, .int (-1), .int 0, .int 0, .ref q6, .ref q7, .ref q8]))]) [0, 3, 4, 5, 6, 7, 8, 9, 10, 11, 12, 13, 15, 16, 17, 1, 2, 14] (by decide) rfl
      refine mj_callV (wr := [(am 0, .inr (19, [.int 0, .ref (am 1), .ref (am 4), .ref (am 5), .ref (am 6), .ref (am 7), .ref (am 8), .int 0, .ref (am 9), .int 0, .int (-1), .int 100, .ref (am 10), .long 0, .int 0, .int 0, .int 0, .int 0, .long 0])), (am 3, .inr (15, [.int 104, .int 4, .int 0, .int 1, .int 0, .int 0, .int 99, .int (-1), .int 0, .int 0, .int (-1), .int 0, .int 0, .ref (am 11), .ref (am 12), .ref (am 13)])), (am 4, .inl (cy 9, 12, .inr (.inr (.inr (.inr (fun _ => none)))))), (am 5, .inr (4, [.int 0, .ref eda, .int 0])), (am 6, .inr (4, [.int 0, .ref eda, .int 0])), (am 7, .inr (4, [.int 0, .ref eda, .int 0])), (am 8, .inl (cy 0, 0, .inl (fun _ => 0))), (am 9, .inr (4, [.int 0, .ref eda, .int 0])), (am 10, .inl (cy 0, 16, .inl (fun _ => 0))), (am 11, .inl (cy 8, 4, .inr (.inr (.inr (.inr (fun _ => none)))))), (am 12, .inl (cy 1, 4, .inl (fun _ => 0))), (am 13, .inl (cy 0, 4, .inl (fun _ => 0))), (q6, .inl (cy 8, 4, .inr (.inr (.inr (.inr (fun _ => none)))))), (q7, .inl (cy 1, 4, .inl (fun _ => 0))), (q8, .inl (cy 0, 4, .inl (fun _ => 0)))]) (wc := [(am 1, .inr (4, [.int 1, .ref (am 2), .int 1])), (am 2, .inl (cy 10, 10, .inr (.inr (.inr (.inr (va_up (fun _ => none) 0 (some (am 3)))))))), (q5, .inr (15, [.int q, .int a, .int b, .int o, .int z, .int b, .int 117, .int (-1), .int 0, .int 0, .int (-1), .int 0, .int 0, .ref q6, .ref q7, .ref q8]))]) (As := [.ref q5]) (rest := []) ⟨hx, hb, hml, hown, hts⟩ (m_addm l D cy (am 1) (am 2) (am 3) q5 _ 1 ([.int q, .int a, .int b, .int o, .int z, .int b, .int 117, .int (-1), .int 0, .int 0, .int (-1), .int 0, .int 0, .ref q6, .ref q7, .ref q8]) ) (cwV 1 hts gX14_make_Jx4a65c_add_9ea2d rfl rfl rfl (by decide +kernel) ⟨by decide, by decide⟩) hK hN hP hD hS hA hJS (ci := 4) (q0 := 0) rfl rfl rfl rfl hl.1 rfl (Nat.le_of_ble_eq_true rfl) dX14_make_121 ⟨Nat.le_of_ble_eq_true rfl, Nat.le_of_ble_eq_true rfl⟩ (fun H locs hB hJ hS => ?_)
      obtain ⟨hP1, hD1⟩ := hB
      obtain ⟨hP, hD⟩ := hJ _ hP1 hD1
      have hP : va_P D vwCl ([(am 0, .inr (19, [.int 0, .ref (am 1), .ref (am 4), .ref (am 5), .ref (am 6), .ref (am 7), .ref (am 8), .int 0, .ref (am 9), .int 0, .int (-1), .int 100, .ref (am 10), .long 0, .int 0, .int 0, .int 0, .int 0, .long 0])), (am 3, .inr (15, [.int 104, .int 4, .int 0, .int 1, .int 0, .int 0, .int 99, .int (-1), .int 0, .int 0, .int (-1), .int 0, .int 0, .ref (am 11), .ref (am 12), .ref (am 13)])), (am 4, .inl (cy 9, 12, .inr (.inr (.inr (.inr (fun _ => none)))))), (am 5, .inr (4, [.int 0, .ref eda, .int 0])), (am 6, .inr (4, [.int 0, .ref eda, .int 0])), (am 7, .inr (4, [.int 0, .ref eda, .int 0])), (am 8, .inl (cy 0, 0, .inl (fun _ => 0))), (am 9, .inr (4, [.int 0, .ref eda, .int 0])), (am 10, .inl (cy 0, 16, .inl (fun _ => 0))), (am 11, .inl (cy 8, 4, .inr (.inr (.inr (.inr (fun _ => none)))))), (am 12, .inl (cy 1, 4, .inl (fun _ => 0))), (am 13, .inl (cy 0, 4, .inl (fun _ => 0))), (q6, .inl (cy 8, 4, .inr (.inr (.inr (.inr (fun _ => none)))))), (q7, .inl (cy 1, 4, .inl (fun _ => 0))), (q8, .inl (cy 0, 4, .inl (fun _ => 0))), (am 1, .inr (4, [.int 2, .ref (am 2), .int 2])), (am 2, .inl (cy 10, 10, .inr (.inr (.inr (.inr (va_up (va_up (fun _ => none) 0 (some (am 3))) 1 (some q5))))))), (q5, .inr (15, [.int q, .int a, .int b, .int o, .int z, .int b, .int 117, .int (-1), .int 0, .int 0, .int (-1), .int 0, .int 0, .ref q6, .ref q7, .ref q8]))]) H := hP
      have hD : va_D A ([(am 0, .inr (19, [.int 0, .ref (am 1), .ref (am 4), .ref (am 5), .ref (am 6), .ref (am 7), .ref (am 8), .int 0, .ref (am 9), .int 0, .int (-1), .int 100, .ref (am 10), .long 0, .int 0, .int 0, .int 0, .int 0, .long 0])), (am 3, .inr (15, [.int 104, .int 4, .int 0, .int 1, .int 0, .int 0, .int 99, .int (-1), .int 0, .int 0, .int (-1), .int 0, .int 0, .ref (am 11), .ref (am 12), .ref (am 13)])), (am 4, .inl (cy 9, 12, .inr (.inr (.inr (.inr (fun _ => none)))))), (am 5, .inr (4, [.int 0, .ref eda, .int 0])), (am 6, .inr (4, [.int 0, .ref eda, .int 0])), (am 7, .inr (4, [.int 0, .ref eda, .int 0])), (am 8, .inl (cy 0, 0, .inl (fun _ => 0))), (am 9, .inr (4, [.int 0, .ref eda, .int 0])), (am 10, .inl (cy 0, 16, .inl (fun _ => 0))), (am 11, .inl (cy 8, 4, .inr (.inr (.inr (.inr (fun _ => none)))))), (am 12, .inl (cy 1, 4, .inl (fun _ => 0))), (am 13, .inl (cy 0, 4, .inl (fun _ => 0))), (q6, .inl (cy 8, 4, .inr (.inr (.inr (.inr (fun _ => none)))))), (q7, .inl (cy 1, 4, .inl (fun _ => 0))), (q8, .inl (cy 0, 4, .inl (fun _ => 0))), (am 1, .inr (4, [.int 2, .ref (am 2), .int 2])), (am 2, .inl (cy 10, 10, .inr (.inr (.inr (.inr (va_up (va_up (fun _ => none) 0 (some (am 3))) 1 (some q5))))))), (q5, .inr (15, [.int q, .int a, .int b, .int o, .int z, .int b, .int 117, .int (-1), .int 0, .int 0, .int (-1), .int 0, .int 0, .ref q6, .ref q7, .ref q8]))]) := hD
      refine lv_pop hx hb dX14_make_124 rfl ?_
      refine lv_aload_n hx hb dX14_make_125 rfl (lv_at hl 1 rfl) ?_
      refine va_get (D := D) (ci := 19) (v := .ref (am 1)) (C := RX14) (T := TX14) (N := 19) hx hb hts iw_X14_make_RX14 hown hK hP 0 rfl rfl 1 (by decide) (hts (.fieldLink RX14 10 "HubcascadeModel" "devices" "Ljava/util/ArrayList;") (by decide +kernel)) (fun _ h9 => h9) rfl dX14_make_126 ?_
      refine ro_callV (As := []) (rest := []) ⟨hx, hb, hml, hown, hts⟩ (c_size l D cy _ 15 (am 1) (am 2) 2 2 rfl) (cwV 0 hts gX14_make_Jx4a65c_size_8abf5 rfl rfl rfl (by decide +kernel) ⟨by decide, by decide⟩) hK hN hP hS (ci := 4) (q0 := 15) rfl rfl rfl rfl hl.1 rfl (Nat.le_of_ble_eq_true rfl) dX14_make_129 ⟨Nat.le_of_ble_eq_true rfl, Nat.le_of_ble_eq_true rfl⟩ (fun H locs hP hS => ?_)
      refine lv_iconst (v := 1) hx hb dX14_make_132 (by decide) ?_
      refine lv_isub hx hb dX14_make_133 ?_
      refine lv_topi (fun y ey => ?_)
      obtain rfl : y = 1 := ey.trans (by decide)
      refine W.widen (k := 4) (n := 28) (Nat.le_of_ble_eq_true rfl) (Nat.le_of_ble_eq_true rfl) ?_
      have hP9 := hP.sub (ws' := [(am 0, .inr (19, [.int 0, .ref (am 1), .ref (am 4), .ref (am 5), .ref (am 6), .ref (am 7), .ref (am 8), .int 0, .ref (am 9), .int 0, .int (-1), .int 100, .ref (am 10), .long 0, .int 0, .int 0, .int 0, .int 0, .long 0]))]) [0] rfl
      have hD9 := hD.sub (ws' := [(am 0, .inr (19, [.int 0, .ref (am 1), .ref (am 4), .ref (am 5), .ref (am 6), .ref (am 7), .ref (am 8), .int 0, .ref (am 9), .int 0, .int (-1), .int 100, .ref (am 10), .long 0, .int 0, .int 0, .int 0, .int 0, .long 0]))]) [0] (by decide) rfl
      exact W.iret hx hb hr (fun t ht hW => ⟨rfl, ⟨by rw [ht]; exact hP9, hD9⟩, hS.F ht⟩) hS.2.2 dX14_make_134
  · refine lv_iload_n hx hb dX14_make_6 rfl (lv_at hl 1 rfl) ?_
    refine lv_bipush (v := 102) hx hb dX14_make_7 (by decide) ?_
    refine lv_icmp_eq (tgt := 18) hx hb dX14_make_9 (by decide) (fun c9 => ?_) (fun c9 => ?_)
    · refine lv_iload_n hx hb dX14_make_18 rfl (lv_at hl 2 rfl) ?_
      refine lv_iconst (v := 0) hx hb dX14_make_19 (by decide) ?_
      refine lv_iconst (v := 4) hx hb dX14_make_20 (by decide) ?_
      refine ro_callS (As := [.int a, .int 0, .int 4]) (rest := []) ⟨hx, hb, hml, hown, hts⟩ (c_in_t l D cy _ _ _ _ h2.1 h2.2) (va_cwS 3 hts gX14_make_X14_in rfl rfl rfl (by decide +kernel) ⟨by decide, by decide⟩) hK hN hP hS rfl hl.1 rfl (Nat.le_of_ble_eq_true rfl) dX14_make_21 ⟨Nat.le_of_ble_eq_true rfl, Nat.le_of_ble_eq_true rfl⟩ (fun H locs hP hS => ?_)
      refine lv_if_eq (tgt := 51) hx hb dX14_make_24 (by decide) (fun c => absurd c (by decide)) (fun _ => ?_)
      refine lv_iload_n hx hb dX14_make_27 rfl (lv_at hl 3 rfl) ?_
      refine lv_iconst (v := 1) hx hb dX14_make_28 (by decide) ?_
      refine lv_iconst (v := 5) hx hb dX14_make_29 (by decide) ?_
      refine ro_callS (As := [.int b, .int 1, .int 5]) (rest := []) ⟨hx, hb, hml, hown, hts⟩ (c_in_t l D cy _ _ _ _ h3.1 h3.2) (va_cwS 3 hts gX14_make_X14_in rfl rfl rfl (by decide +kernel) ⟨by decide, by decide⟩) hK hN hP hS rfl hl.1 rfl (Nat.le_of_ble_eq_true rfl) dX14_make_30 ⟨Nat.le_of_ble_eq_true rfl, Nat.le_of_ble_eq_true rfl⟩ (fun H locs hP hS => ?_)
      refine lv_if_eq (tgt := 51) hx hb dX14_make_33 (by decide) (fun c => absurd c (by decide)) (fun _ => ?_)
      refine lv_iload hx hb dX14_make_36 (lv_at hl 5 rfl) ?_
      refine lv_iconst (v := 0) hx hb dX14_make_38 (by decide) ?_
      refine lv_bipush (v := 99) hx hb dX14_make_39 (by decide) ?_
      refine ro_callS (As := [.int z, .int 0, .int 99]) (rest := []) ⟨hx, hb, hml, hown, hts⟩ (c_in_t l D cy _ _ _ _ h4.1 h4.2) (va_cwS 3 hts gX14_make_X14_in rfl rfl rfl (by decide +kernel) ⟨by decide, by decide⟩) hK hN hP hS rfl hl.1 rfl (Nat.le_of_ble_eq_true rfl) dX14_make_41 ⟨Nat.le_of_ble_eq_true rfl, Nat.le_of_ble_eq_true rfl⟩ (fun H locs hP hS => ?_)
      refine lv_if_eq (tgt := 51) hx hb dX14_make_44 (by decide) (fun c => absurd c (by decide)) (fun _ => ?_)
      refine lv_iconst (v := 1) hx hb dX14_make_47 (by decide) ?_
      refine lv_goto (tgt := 52) hx hb dX14_make_48 (by decide) ?_
      refine lv_istore (lv' := [(6, .int 1), (0, .ref (am 0)), (1, .int q), (2, .int a), (3, .int b), (4, .int o), (5, .int z)]) hx hb dX14_make_52 hl (by decide) rfl (fun ls hl => ?_)
      refine lv_aload_n hx hb dX14_make_54 rfl (lv_at hl 1 rfl) ?_
      refine lv_iload hx hb dX14_make_55 (lv_at hl 0 rfl) ?_
      refine lv_if_eq (tgt := 70) hx hb dX14_make_57 (by decide) (fun c => absurd c (by decide)) (fun _ => ?_)
      refine lv_iload_n hx hb dX14_make_60 rfl (lv_at hl 2 rfl) ?_
      refine lv_bipush (v := 108) hx hb dX14_make_61 (by decide) ?_
      refine lv_icmp_ne (tgt := 74) hx hb dX14_make_63 (by decide) (fun c63 => ?_) (fun c63 => ?_)
      · refine lv_aload_n hx hb dX14_make_74 rfl (lv_at hl 1 rfl) ?_
        refine va_get (D := D) (ci := 19) (v := .ref (am 1)) (C := RX14) (T := TX14) (N := 19) hx hb hts iw_X14_make_RX14 hown hK hP 0 rfl rfl 1 (by decide) (hts (.fieldLink RX14 10 "HubcascadeModel" "devices" "Ljava/util/ArrayList;") (by decide +kernel)) (fun _ h9 => h9) rfl dX14_make_75 ?_
        refine ro_callV (As := []) (rest := [.ref (am 0)]) ⟨hx, hb, hml, hown, hts⟩ (c_size l D cy _ 1 (am 1) (am 2) 1 1 rfl) (cwV 0 hts gX14_make_Jx4a65c_size_8abf5 rfl rfl rfl (by decide +kernel) ⟨by decide, by decide⟩) hK hN hP hS (ci := 4) (q0 := 1) rfl rfl rfl rfl hl.1 rfl (Nat.le_of_ble_eq_true rfl) dX14_make_78 ⟨Nat.le_of_ble_eq_true rfl, Nat.le_of_ble_eq_true rfl⟩ (fun H locs hP hS => ?_)
        refine lv_bipush (v := 16) hx hb dX14_make_81 (by decide) ?_
        refine lv_icmp_ne (tgt := 90) hx hb dX14_make_83 (by decide) (fun _ => ?_) (fun c => absurd c (by decide))
        refine lv_iconst (v := 0) hx hb dX14_make_90 (by decide) ?_
        refine va_put (D := D) (ci := 19) (v := .int 0) (ty := .int) (C := RX14) (T := TX14) (N := 19) hx hb hts iw_X14_make_RX14 tyX14 tyX14_ok nmX14 hown hK hP hD hS 0 rfl rfl 0 (by decide) (hts (.fieldLink RX14 61 "HubcascadeModel" "thrown" "I") (by decide +kernel)) (fun _ h9 => h9) rfl (by decide +kernel) rfl rfl (Nat.le_of_ble_eq_true rfl) dX14_make_91 (fun H locs hP hD hS => ?_)
        have hP : va_P D vwCl (WM cy am eda 0) H := hP
        have hD : va_D A (WM cy am eda 0) := hD
        refine lv_aload_n hx hb dX14_make_94 rfl (lv_at hl 1 rfl) ?_
        refine va_get (D := D) (ci := 19) (v := .int 0) (C := RX14) (T := TX14) (N := 19) hx hb hts iw_X14_make_RX14 hown hK hP 0 rfl rfl 0 (by decide) (hts (.fieldLink RX14 61 "HubcascadeModel" "thrown" "I") (by decide +kernel)) (fun _ h9 => h9) rfl dX14_make_95 ?_
        refine lv_if_le (tgt := 103) hx hb dX14_make_98 (by decide) (fun _ => ?_) (fun c => absurd (by decide) c)
        refine lv_aload_n hx hb dX14_make_103 rfl (lv_at hl 1 rfl) ?_
        refine va_get (D := D) (ci := 19) (v := .ref (am 1)) (C := RX14) (T := TX14) (N := 19) hx hb hts iw_X14_make_RX14 hown hK hP 0 rfl rfl 1 (by decide) (hts (.fieldLink RX14 10 "HubcascadeModel" "devices" "Ljava/util/ArrayList;") (by decide +kernel)) (fun _ h9 => h9) rfl dX14_make_104 ?_
        refine va_new (ci := 15) (fs := [.int 0, .int 0, .int 0, .int 0, .int 0, .int 0, .int 0, .int 0, .int 0, .int 0, .int 0, .int 0, .int 0, .null, .null, .null]) (C := RX10) (T := TX10) (N := 16) hx hb hts iw_X14_make_RX10 tyX10 tyX10_ok hown (hts (.classLink RX14 48 RX10) (by decide +kernel)) (hts (.instantiable RX10 16) (by decide +kernel)) (hts (.initialized RX10) (by decide +kernel)) hK hP hD hS hA rfl df_RX10 (Nat.le_of_ble_eq_true rfl) (Nat.le_of_ble_eq_true rfl) dX14_make_107 (fun q9 H hP hD hS => ?_)
        have hP : va_P D vwCl ([(am 0, .inr (19, [.int 0, .ref (am 1), .ref (am 4), .ref (am 5), .ref (am 6), .ref (am 7), .ref (am 8), .int 0, .ref (am 9), .int 0, .int (-1), .int 100, .ref (am 10), .long 0, .int 0, .int 0, .int 0, .int 0, .long 0])), (am 1, .inr (4, [.int 1, .ref (am 2), .int 1])), (am 2, .inl (cy 10, 10, .inr (.inr (.inr (.inr (va_up (fun _ => none) 0 (some (am 3)))))))), (am 3, .inr (15, [.int 104, .int 4, .int 0, .int 1, .int 0, .int 0, .int 99, .int (-1), .int 0, .int 0, .int (-1), .int 0, .int 0, .ref (am 11), .ref (am 12), .ref (am 13)])), (am 4, .inl (cy 9, 12, .inr (.inr (.inr (.inr (fun _ => none)))))), (am 5, .inr (4, [.int 0, .ref eda, .int 0])), (am 6, .inr (4, [.int 0, .ref eda, .int 0])), (am 7, .inr (4, [.int 0, .ref eda, .int 0])), (am 8, .inl (cy 0, 0, .inl (fun _ => 0))), (am 9, .inr (4, [.int 0, .ref eda, .int 0])), (am 10, .inl (cy 0, 16, .inl (fun _ => 0))), (am 11, .inl (cy 8, 4, .inr (.inr (.inr (.inr (fun _ => none)))))), (am 12, .inl (cy 1, 4, .inl (fun _ => 0))), (am 13, .inl (cy 0, 4, .inl (fun _ => 0))), (q9, .inr (15, [.int 0, .int 0, .int 0, .int 0, .int 0, .int 0, .int 0, .int 0, .int 0, .int 0, .int 0, .int 0, .int 0, .null, .null, .null]))]) H := hP
        have hD : va_D A ([(am 0, .inr (19, [.int 0, .ref (am 1), .ref (am 4), .ref (am 5), .ref (am 6), .ref (am 7), .ref (am 8), .int 0, .ref (am 9), .int 0, .int (-1), .int 100, .ref (am 10), .long 0, .int 0, .int 0, .int 0, .int 0, .long 0])), (am 1, .inr (4, [.int 1, .ref (am 2), .int 1])), (am 2, .inl (cy 10, 10, .inr (.inr (.inr (.inr (va_up (fun _ => none) 0 (some (am 3)))))))), (am 3, .inr (15, [.int 104, .int 4, .int 0, .int 1, .int 0, .int 0, .int 99, .int (-1), .int 0, .int 0, .int (-1), .int 0, .int 0, .ref (am 11), .ref (am 12), .ref (am 13)])), (am 4, .inl (cy 9, 12, .inr (.inr (.inr (.inr (fun _ => none)))))), (am 5, .inr (4, [.int 0, .ref eda, .int 0])), (am 6, .inr (4, [.int 0, .ref eda, .int 0])), (am 7, .inr (4, [.int 0, .ref eda, .int 0])), (am 8, .inl (cy 0, 0, .inl (fun _ => 0))), (am 9, .inr (4, [.int 0, .ref eda, .int 0])), (am 10, .inl (cy 0, 16, .inl (fun _ => 0))), (am 11, .inl (cy 8, 4, .inr (.inr (.inr (.inr (fun _ => none)))))), (am 12, .inl (cy 1, 4, .inl (fun _ => 0))), (am 13, .inl (cy 0, 4, .inl (fun _ => 0))), (q9, .inr (15, [.int 0, .int 0, .int 0, .int 0, .int 0, .int 0, .int 0, .int 0, .int 0, .int 0, .int 0, .int 0, .int 0, .null, .null, .null]))]) := hD
        refine lv_dup hx hb dX14_make_110 rfl ?_
        refine lv_iload_n hx hb dX14_make_111 rfl (lv_at hl 2 rfl) ?_
        refine lv_iload_n hx hb dX14_make_112 rfl (lv_at hl 3 rfl) ?_
        refine lv_iload_n hx hb dX14_make_113 rfl (lv_at hl 4 rfl) ?_
        refine lv_iload hx hb dX14_make_114 (lv_at hl 5 rfl) ?_
        refine lv_iload hx hb dX14_make_116 (lv_at hl 6 rfl) ?_
        refine me_callI (wr := WM cy am eda 0) (wc := [(q9, .inr (15, [.int 0, .int 0, .int 0, .int 0, .int 0, .int 0, .int 0, .int 0, .int 0, .int 0, .int 0, .int 0, .int 0, .null, .null, .null]))]) (As := [.int q, .int a, .int b, .int o, .int z]) (rest := [.ref q9, .ref (am 1)]) ⟨hx, hb, hml, hown, hts⟩ (m_dev_init l D cy q9 _ q a b o z hnq hfq hno hfo) (cwI 5 hts gX14_make_X10_init rfl rfl rfl (hts (.initialized RX10) (by decide +kernel)) (hts (.methodLink RX14 50 yX10_init) (by decide +kernel)) (hts (.instanceMethod yX10_init) (by decide +kernel)) rfl (by decide +kernel) ⟨by decide, by decide⟩) hK hN hP hD hS hA rfl hl.1 rfl (Nat.le_of_ble_eq_true rfl) dX14_make_118 ⟨Nat.le_of_ble_eq_true rfl, Nat.le_of_ble_eq_true rfl⟩ (fun H locs hB hJ hS => ?_)
        obtain ⟨q10, q11, q12, hP1, hD1⟩ := hB
        obtain ⟨hP, hD⟩ := hJ _ hP1 hD1
        have hP : va_P D vwCl ([(am 0, .inr (19, [.int 0, .ref (am 1), .ref (am 4), .ref (am 5), .ref (am 6), .ref (am 7), .ref (am 8), .int 0, .ref (am 9), .int 0, .int (-1), .int 100, .ref (am 10), .long 0, .int 0, .int 0, .int 0, .int 0, .long 0])), (am 1, .inr (4, [.int 1, .ref (am 2), .int 1])), (am 2, .inl (cy 10, 10, .inr (.inr (.inr (.inr (va_up (fun _ => none) 0 (some (am 3)))))))), (am 3, .inr (15, [.int 104, .int 4, .int 0, .int 1, .int 0, .int 0, .int 99, .int (-1), .int 0, .int 0, .int (-1), .int 0, .int 0, .ref (am 11), .ref (am 12), .ref (am 13)])), (am 4, .inl (cy 9, 12, .inr (.inr (.inr (.inr (fun _ => none)))))), (am 5, .inr (4, [.int 0, .ref eda, .int 0])), (am 6, .inr (4, [.int 0, .ref eda, .int 0])), (am 7, .inr (4, [.int 0, .ref eda, .int 0])), (am 8, .inl (cy 0, 0, .inl (fun _ => 0))), (am 9, .inr (4, [.int 0, .ref eda, .int 0])), (am 10, .inl (cy 0, 16, .inl (fun _ => 0))), (am 11, .inl (cy 8, 4, .inr (.inr (.inr (.inr (fun _ => none)))))), (am 12, .inl (cy 1, 4, .inl (fun _ => 0))), (am 13, .inl (cy 0, 4, .inl (fun _ => 0))), (q9, .inr (15, [.int q, .int a, .int b, .int o, .int z, .int b, .int 117, .int (-1), .int 0, .int 0, .int (-1), .int 0, .int 0, .ref q10, .ref q11, .ref q12])), (q10, .inl (cy 8, 4, .inr (.inr (.inr (.inr (fun _ => none)))))), (q11, .inl (cy 1, 4, .inl (fun _ => 0))), (q12, .inl (cy 0, 4, .inl (fun _ => 0)))]) H := hP
        have hD : va_D A ([(am 0, .inr (19, [.int 0, .ref (am 1), .ref (am 4), .ref (am 5), .ref (am 6), .ref (am 7), .ref (am 8), .int 0, .ref (am 9), .int 0, .int (-1), .int 100, .ref (am 10), .long 0, .int 0, .int 0, .int 0, .int 0, .long 0])), (am 1, .inr (4, [.int 1, .ref (am 2), .int 1])), (am 2, .inl (cy 10, 10, .inr (.inr (.inr (.inr (va_up (fun _ => none) 0 (some (am 3)))))))), (am 3, .inr (15, [.int 104, .int 4, .int 0, .int 1, .int 0, .int 0, .int 99, .int (-1), .int 0, .int 0, .int (-1), .int 0, .int 0, .ref (am 11), .ref (am 12), .ref (am 13)])), (am 4, .inl (cy 9, 12, .inr (.inr (.inr (.inr (fun _ => none)))))), (am 5, .inr (4, [.int 0, .ref eda, .int 0])), (am 6, .inr (4, [.int 0, .ref eda, .int 0])), (am 7, .inr (4, [.int 0, .ref eda, .int 0])), (am 8, .inl (cy 0, 0, .inl (fun _ => 0))), (am 9, .inr (4, [.int 0, .ref eda, .int 0])), (am 10, .inl (cy 0, 16, .inl (fun _ => 0))), (am 11, .inl (cy 8, 4, .inr (.inr (.inr (.inr (fun _ => none)))))), (am 12, .inl (cy 1, 4, .inl (fun _ => 0))), (am 13, .inl (cy 0, 4, .inl (fun _ => 0))), (q9, .inr (15, [.int q, .int a, .int b, .int o, .int z, .int b, .int 117, .int (-1), .int 0, .int 0, .int (-1), .int 0, .int 0, .ref q10, .ref q11, .ref q12])), (q10, .inl (cy 8, 4, .inr (.inr (.inr (.inr (fun _ => none)))))), (q11, .inl (cy 1, 4, .inl (fun _ => 0))), (q12, .inl (cy 0, 4, .inl (fun _ => 0)))]) := hD
        have hP := hP.sub (ws' := [(am 0, .inr (19, [.int 0, .ref (am 1), .ref (am 4), .ref (am 5), .ref (am 6), .ref (am 7), .ref (am 8), .int 0, .ref (am 9), .int 0, .int (-1), .int 100, .ref (am 10), .long 0, .int 0, .int 0, .int 0, .int 0, .long 0])), (am 3, .inr (15, [.int 104, .int 4, .int 0, .int 1, .int 0, .int 0, .int 99, .int (-1), .int 0, .int 0, .int (-1), .int 0, .int 0, .ref (am 11), .ref (am 12), .ref (am 13)])), (am 4, .inl (cy 9, 12, .inr (.inr (.inr (.inr (fun _ => none)))))), (am 5, .inr (4, [.int 0, .ref eda, .int 0])), (am 6, .inr (4, [.int 0, .ref eda, .int 0])), (am 7, .inr (4, [.int 0, .ref eda, .int 0])), (am 8, .inl (cy 0, 0, .inl (fun _ => 0))), (am 9, .inr (4, [.int 0, .ref eda, .int 0])), (am 10, .inl (cy 0, 16, .inl (fun _ => 0))), (am 11, .inl (cy 8, 4, .inr (.inr (.inr (.inr (fun _ => none)))))), (am 12, .inl (cy 1, 4, .inl (fun _ => 0))), (am 13, .inl (cy 0, 4, .inl (fun _ => 0))), (q10, .inl (cy 8, 4, .inr (.inr (.inr (.inr (fun _ => none)))))), (q11, .inl (cy 1, 4, .inl (fun _ => 0))), (q12, .inl (cy 0, 4, .inl (fun _ => 0))), (am 1, .inr (4, [.int 1, .ref (am 2), .int 1])), (am 2, .inl (cy 10, 10, .inr (.inr (.inr (.inr (va_up (fun _ => none) 0 (some (am 3)))))))), (q9, .inr (15, [.int q, .int a, .int b, .int o, .int z, .int b, .int 117, .int (-1), .int 0, .int 0, .int (-1), .int 0, .int 0, .ref q10, .ref q11, .ref q12]))]) [0, 3, 4, 5, 6, 7, 8, 9, 10, 11, 12, 13, 15, 16, 17, 1, 2, 14] rfl
        have hD := hD.sub (ws' := [(am 0, .inr (19, [.int 0, .ref (am 1), .ref (am 4), .ref (am 5), .ref (am 6), .ref (am 7), .ref (am 8), .int 0, .ref (am 9), .int 0, .int (-1), .int 100, .ref (am 10), .long 0, .int 0, .int 0, .int 0, .int 0, .long 0])), (am 3, .inr (15, [.int 104, .int 4, .int 0, .int 1, .int 0, .int 0, .int 99, .int (-1), .int 0, .int 0, .int (-1), .int 0, .int 0, .ref (am 11), .ref (am 12), .ref (am 13)])), (am 4, .inl (cy 9, 12, .inr (.inr (.inr (.inr (fun _ => none)))))), (am 5, .inr (4, [.int 0, .ref eda, .int 0])), (am 6, .inr (4, [.int 0, .ref eda, .int 0])), (am 7, .inr (4, [.int 0, .ref eda, .int 0])), (am 8, .inl (cy 0, 0, .inl (fun _ => 0))), (am 9, .inr (4, [.int 0, .ref eda, .int 0])), (am 10, .inl (cy 0, 16, .inl (fun _ => 0))), (am 11, .inl (cy 8, 4, .inr (.inr (.inr (.inr (fun _ => none)))))), (am 12, .inl (cy 1, 4, .inl (fun _ => 0))), (am 13, .inl (cy 0, 4, .inl (fun _ => 0))), (q10, .inl (cy 8, 4, .inr (.inr (.inr (.inr (fun _ => none)))))), (q11, .inl (cy 1, 4, .inl (fun _ => 0))), (q12, .inl (cy 0, 4, .inl (fun _ => 0))), (am 1, .inr (4, [.int 1, .ref (am 2), .int 1])), (am 2, .inl (cy 10, 10, .inr (.inr (.inr (.inr (va_up (fun _ => none) 0 (some (am 3)))))))), (q9, .inr (15, [.int q, .int a, .int b, .int o, .int z, .int b, .int 117, .int (-1), .int 0, .int 0, .int (-1), .int 0, .int 0, .ref q10, .ref q11, .ref q12]))]) [0, 3, 4, 5, 6, 7, 8, 9, 10, 11, 12, 13, 15, 16, 17, 1, 2, 14] (by decide) rfl
        refine mj_callV (wr := [(am 0, .inr (19, [.int 0, .ref (am 1), .ref (am 4), .ref (am 5), .ref (am 6), .ref (am 7), .ref (am 8), .int 0, .ref (am 9), .int 0, .int (-1), .int 100, .ref (am 10), .long 0, .int 0, .int 0, .int 0, .int 0, .long 0])), (am 3, .inr (15, [.int 104, .int 4, .int 0, .int 1, .int 0, .int 0, .int 99, .int (-1), .int 0, .int 0, .int (-1), .int 0, .int 0, .ref (am 11), .ref (am 12), .ref (am 13)])), (am 4, .inl (cy 9, 12, .inr (.inr (.inr (.inr (fun _ => none)))))), (am 5, .inr (4, [.int 0, .ref eda, .int 0])), (am 6, .inr (4, [.int 0, .ref eda, .int 0])), (am 7, .inr (4, [.int 0, .ref eda, .int 0])), (am 8, .inl (cy 0, 0, .inl (fun _ => 0))), (am 9, .inr (4, [.int 0, .ref eda, .int 0])), (am 10, .inl (cy 0, 16, .inl (fun _ => 0))), (am 11, .inl (cy 8, 4, .inr (.inr (.inr (.inr (fun _ => none)))))), (am 12, .inl (cy 1, 4, .inl (fun _ => 0))), (am 13, .inl (cy 0, 4, .inl (fun _ => 0))), (q10, .inl (cy 8, 4, .inr (.inr (.inr (.inr (fun _ => none)))))), (q11, .inl (cy 1, 4, .inl (fun _ => 0))), (q12, .inl (cy 0, 4, .inl (fun _ => 0)))]) (wc := [(am 1, .inr (4, [.int 1, .ref (am 2), .int 1])), (am 2, .inl (cy 10, 10, .inr (.inr (.inr (.inr (va_up (fun _ => none) 0 (some (am 3)))))))), (q9, .inr (15, [.int q, .int a, .int b, .int o, .int z, .int b, .int 117, .int (-1), .int 0, .int 0, .int (-1), .int 0, .int 0, .ref q10, .ref q11, .ref q12]))]) (As := [.ref q9]) (rest := []) ⟨hx, hb, hml, hown, hts⟩ (m_addm l D cy (am 1) (am 2) (am 3) q9 _ 1 ([.int q, .int a, .int b, .int o, .int z, .int b, .int 117, .int (-1), .int 0, .int 0, .int (-1), .int 0, .int 0, .ref q10, .ref q11, .ref q12]) ) (cwV 1 hts gX14_make_Jx4a65c_add_9ea2d rfl rfl rfl (by decide +kernel) ⟨by decide, by decide⟩) hK hN hP hD hS hA hJS (ci := 4) (q0 := 0) rfl rfl rfl rfl hl.1 rfl (Nat.le_of_ble_eq_true rfl) dX14_make_121 ⟨Nat.le_of_ble_eq_true rfl, Nat.le_of_ble_eq_true rfl⟩ (fun H locs hB hJ hS => ?_)
        obtain ⟨hP1, hD1⟩ := hB
        obtain ⟨hP, hD⟩ := hJ _ hP1 hD1
        have hP : va_P D vwCl ([(am 0, .inr (19, [.int 0, .ref (am 1), .ref (am 4), .ref (am 5), .ref (am 6), .ref (am 7), .ref (am 8), .int 0, .ref (am 9), .int 0, .int (-1), .int 100, .ref (am 10), .long 0, .int 0, .int 0, .int 0, .int 0, .long 0])), (am 3, .inr (15, [.int 104, .int 4, .int 0, .int 1, .int 0, .int 0, .int 99, .int (-1), .int 0, .int 0, .int (-1), .int 0, .int 0, .ref (am 11), .ref (am 12), .ref (am 13)])), (am 4, .inl (cy 9, 12, .inr (.inr (.inr (.inr (fun _ => none)))))), (am 5, .inr (4, [.int 0, .ref eda, .int 0])), (am 6, .inr (4, [.int 0, .ref eda, .int 0])), (am 7, .inr (4, [.int 0, .ref eda, .int 0])), (am 8, .inl (cy 0, 0, .inl (fun _ => 0))), (am 9, .inr (4, [.int 0, .ref eda, .int 0])), (am 10, .inl (cy 0, 16, .inl (fun _ => 0))), (am 11, .inl (cy 8, 4, .inr (.inr (.inr (.inr (fun _ => none)))))), (am 12, .inl (cy 1, 4, .inl (fun _ => 0))), (am 13, .inl (cy 0, 4, .inl (fun _ => 0))), (q10, .inl (cy 8, 4, .inr (.inr (.inr (.inr (fun _ => none)))))), (q11, .inl (cy 1, 4, .inl (fun _ => 0))), (q12, .inl (cy 0, 4, .inl (fun _ => 0))), (am 1, .inr (4, [.int 2, .ref (am 2), .int 2])), (am 2, .inl (cy 10, 10, .inr (.inr (.inr (.inr (va_up (va_up (fun _ => none) 0 (some (am 3))) 1 (some q9))))))), (q9, .inr (15, [.int q, .int a, .int b, .int o, .int z, .int b, .int 117, .int (-1), .int 0, .int 0, .int (-1), .int 0, .int 0, .ref q10, .ref q11, .ref q12]))]) H := hP
        have hD : va_D A ([(am 0, .inr (19, [.int 0, .ref (am 1), .ref (am 4), .ref (am 5), .ref (am 6), .ref (am 7), .ref (am 8), .int 0, .ref (am 9), .int 0, .int (-1), .int 100, .ref (am 10), .long 0, .int 0, .int 0, .int 0, .int 0, .long 0])), (am 3, .inr (15, [.int 104, .int 4, .int 0, .int 1, .int 0, .int 0, .int 99, .int (-1), .int 0, .int 0, .int (-1), .int 0, .int 0, .ref (am 11), .ref (am 12), .ref (am 13)])), (am 4, .inl (cy 9, 12, .inr (.inr (.inr (.inr (fun _ => none)))))), (am 5, .inr (4, [.int 0, .ref eda, .int 0])), (am 6, .inr (4, [.int 0, .ref eda, .int 0])), (am 7, .inr (4, [.int 0, .ref eda, .int 0])), (am 8, .inl (cy 0, 0, .inl (fun _ => 0))), (am 9, .inr (4, [.int 0, .ref eda, .int 0])), (am 10, .inl (cy 0, 16, .inl (fun _ => 0))), (am 11, .inl (cy 8, 4, .inr (.inr (.inr (.inr (fun _ => none)))))), (am 12, .inl (cy 1, 4, .inl (fun _ => 0))), (am 13, .inl (cy 0, 4, .inl (fun _ => 0))), (q10, .inl (cy 8, 4, .inr (.inr (.inr (.inr (fun _ => none)))))), (q11, .inl (cy 1, 4, .inl (fun _ => 0))), (q12, .inl (cy 0, 4, .inl (fun _ => 0))), (am 1, .inr (4, [.int 2, .ref (am 2), .int 2])), (am 2, .inl (cy 10, 10, .inr (.inr (.inr (.inr (va_up (va_up (fun _ => none) 0 (some (am 3))) 1 (some q9))))))), (q9, .inr (15, [.int q, .int a, .int b, .int o, .int z, .int b, .int 117, .int (-1), .int 0, .int 0, .int (-1), .int 0, .int 0, .ref q10, .ref q11, .ref q12]))]) := hD
        refine lv_pop hx hb dX14_make_124 rfl ?_
        refine lv_aload_n hx hb dX14_make_125 rfl (lv_at hl 1 rfl) ?_
        refine va_get (D := D) (ci := 19) (v := .ref (am 1)) (C := RX14) (T := TX14) (N := 19) hx hb hts iw_X14_make_RX14 hown hK hP 0 rfl rfl 1 (by decide) (hts (.fieldLink RX14 10 "HubcascadeModel" "devices" "Ljava/util/ArrayList;") (by decide +kernel)) (fun _ h9 => h9) rfl dX14_make_126 ?_
        refine ro_callV (As := []) (rest := []) ⟨hx, hb, hml, hown, hts⟩ (c_size l D cy _ 15 (am 1) (am 2) 2 2 rfl) (cwV 0 hts gX14_make_Jx4a65c_size_8abf5 rfl rfl rfl (by decide +kernel) ⟨by decide, by decide⟩) hK hN hP hS (ci := 4) (q0 := 15) rfl rfl rfl rfl hl.1 rfl (Nat.le_of_ble_eq_true rfl) dX14_make_129 ⟨Nat.le_of_ble_eq_true rfl, Nat.le_of_ble_eq_true rfl⟩ (fun H locs hP hS => ?_)
        refine lv_iconst (v := 1) hx hb dX14_make_132 (by decide) ?_
        refine lv_isub hx hb dX14_make_133 ?_
        refine lv_topi (fun y ey => ?_)
        obtain rfl : y = 1 := ey.trans (by decide)
        refine W.widen (k := 4) (n := 28) (Nat.le_of_ble_eq_true rfl) (Nat.le_of_ble_eq_true rfl) ?_
        have hP9 := hP.sub (ws' := [(am 0, .inr (19, [.int 0, .ref (am 1), .ref (am 4), .ref (am 5), .ref (am 6), .ref (am 7), .ref (am 8), .int 0, .ref (am 9), .int 0, .int (-1), .int 100, .ref (am 10), .long 0, .int 0, .int 0, .int 0, .int 0, .long 0]))]) [0] rfl
        have hD9 := hD.sub (ws' := [(am 0, .inr (19, [.int 0, .ref (am 1), .ref (am 4), .ref (am 5), .ref (am 6), .ref (am 7), .ref (am 8), .int 0, .ref (am 9), .int 0, .int (-1), .int 100, .ref (am 10), .long 0, .int 0, .int 0, .int 0, .int 0, .long 0]))]) [0] (by decide) rfl
        exact W.iret hx hb hr (fun t ht hW => ⟨rfl, ⟨by rw [ht]; exact hP9, hD9⟩, hS.F ht⟩) hS.2.2 dX14_make_134
      · refine lv_iload_n hx hb dX14_make_66 rfl (lv_at hl 3 rfl) ?_
        refine lv_if_le (tgt := 74) hx hb dX14_make_67 (by decide) (fun _ => ?_) (fun c => absurd (my_nlt0 (fun y => h5 ⟨c63, y⟩)) c)
        refine lv_aload_n hx hb dX14_make_74 rfl (lv_at hl 1 rfl) ?_
        refine va_get (D := D) (ci := 19) (v := .ref (am 1)) (C := RX14) (T := TX14) (N := 19) hx hb hts iw_X14_make_RX14 hown hK hP 0 rfl rfl 1 (by decide) (hts (.fieldLink RX14 10 "HubcascadeModel" "devices" "Ljava/util/ArrayList;") (by decide +kernel)) (fun _ h9 => h9) rfl dX14_make_75 ?_
        refine ro_callV (As := []) (rest := [.ref (am 0)]) ⟨hx, hb, hml, hown, hts⟩ (c_size l D cy _ 1 (am 1) (am 2) 1 1 rfl) (cwV 0 hts gX14_make_Jx4a65c_size_8abf5 rfl rfl rfl (by decide +kernel) ⟨by decide, by decide⟩) hK hN hP hS (ci := 4) (q0 := 1) rfl rfl rfl rfl hl.1 rfl (Nat.le_of_ble_eq_true rfl) dX14_make_78 ⟨Nat.le_of_ble_eq_true rfl, Nat.le_of_ble_eq_true rfl⟩ (fun H locs hP hS => ?_)
        refine lv_bipush (v := 16) hx hb dX14_make_81 (by decide) ?_
        refine lv_icmp_ne (tgt := 90) hx hb dX14_make_83 (by decide) (fun _ => ?_) (fun c => absurd c (by decide))
        refine lv_iconst (v := 0) hx hb dX14_make_90 (by decide) ?_
        refine va_put (D := D) (ci := 19) (v := .int 0) (ty := .int) (C := RX14) (T := TX14) (N := 19) hx hb hts iw_X14_make_RX14 tyX14 tyX14_ok nmX14 hown hK hP hD hS 0 rfl rfl 0 (by decide) (hts (.fieldLink RX14 61 "HubcascadeModel" "thrown" "I") (by decide +kernel)) (fun _ h9 => h9) rfl (by decide +kernel) rfl rfl (Nat.le_of_ble_eq_true rfl) dX14_make_91 (fun H locs hP hD hS => ?_)
        have hP : va_P D vwCl (WM cy am eda 0) H := hP
        have hD : va_D A (WM cy am eda 0) := hD
        refine lv_aload_n hx hb dX14_make_94 rfl (lv_at hl 1 rfl) ?_
        refine va_get (D := D) (ci := 19) (v := .int 0) (C := RX14) (T := TX14) (N := 19) hx hb hts iw_X14_make_RX14 hown hK hP 0 rfl rfl 0 (by decide) (hts (.fieldLink RX14 61 "HubcascadeModel" "thrown" "I") (by decide +kernel)) (fun _ h9 => h9) rfl dX14_make_95 ?_
        refine lv_if_le (tgt := 103) hx hb dX14_make_98 (by decide) (fun _ => ?_) (fun c => absurd (by decide) c)
        refine lv_aload_n hx hb dX14_make_103 rfl (lv_at hl 1 rfl) ?_
        refine va_get (D := D) (ci := 19) (v := .ref (am 1)) (C := RX14) (T := TX14) (N := 19) hx hb hts iw_X14_make_RX14 hown hK hP 0 rfl rfl 1 (by decide) (hts (.fieldLink RX14 10 "HubcascadeModel" "devices" "Ljava/util/ArrayList;") (by decide +kernel)) (fun _ h9 => h9) rfl dX14_make_104 ?_
        refine va_new (ci := 15) (fs := [.int 0, .int 0, .int 0, .int 0, .int 0, .int 0, .int 0, .int 0, .int 0, .int 0, .int 0, .int 0, .int 0, .null, .null, .null]) (C := RX10) (T := TX10) (N := 16) hx hb hts iw_X14_make_RX10 tyX10 tyX10_ok hown (hts (.classLink RX14 48 RX10) (by decide +kernel)) (hts (.instantiable RX10 16) (by decide +kernel)) (hts (.initialized RX10) (by decide +kernel)) hK hP hD hS hA rfl df_RX10 (Nat.le_of_ble_eq_true rfl) (Nat.le_of_ble_eq_true rfl) dX14_make_107 (fun q13 H hP hD hS => ?_)
        have hP : va_P D vwCl ([(am 0, .inr (19, [.int 0, .ref (am 1), .ref (am 4), .ref (am 5), .ref (am 6), .ref (am 7), .ref (am 8), .int 0, .ref (am 9), .int 0, .int (-1), .int 100, .ref (am 10), .long 0, .int 0, .int 0, .int 0, .int 0, .long 0])), (am 1, .inr (4, [.int 1, .ref (am 2), .int 1])), (am 2, .inl (cy 10, 10, .inr (.inr (.inr (.inr (va_up (fun _ => none) 0 (some (am 3)))))))), (am 3, .inr (15, [.int 104, .int 4, .int 0, .int 1, .int 0, .int 0, .int 99, .int (-1), .int 0, .int 0, .int (-1), .int 0, .int 0, .ref (am 11), .ref (am 12), .ref (am 13)])), (am 4, .inl (cy 9, 12, .inr (.inr (.inr (.inr (fun _ => none)))))), (am 5, .inr (4, [.int 0, .ref eda, .int 0])), (am 6, .inr (4, [.int 0, .ref eda, .int 0])), (am 7, .inr (4, [.int 0, .ref eda, .int 0])), (am 8, .inl (cy 0, 0, .inl (fun _ => 0))), (am 9, .inr (4, [.int 0, .ref eda, .int 0])), (am 10, .inl (cy 0, 16, .inl (fun _ => 0))), (am 11, .inl (cy 8, 4, .inr (.inr (.inr (.inr (fun _ => none)))))), (am 12, .inl (cy 1, 4, .inl (fun _ => 0))), (am 13, .inl (cy 0, 4, .inl (fun _ => 0))), (q13, .inr (15, [.int 0, .int 0, .int 0, .int 0, .int 0, .int 0, .int 0, .int 0, .int 0, .int 0, .int 0, .int 0, .int 0, .null, .null, .null]))]) H := hP
        have hD : va_D A ([(am 0, .inr (19, [.int 0, .ref (am 1), .ref (am 4), .ref (am 5), .ref (am 6), .ref (am 7), .ref (am 8), .int 0, .ref (am 9), .int 0, .int (-1), .int 100, .ref (am 10), .long 0, .int 0, .int 0, .int 0, .int 0, .long 0])), (am 1, .inr (4, [.int 1, .ref (am 2), .int 1])), (am 2, .inl (cy 10, 10, .inr (.inr (.inr (.inr (va_up (fun _ => none) 0 (some (am 3)))))))), (am 3, .inr (15, [.int 104, .int 4, .int 0, .int 1, .int 0, .int 0, .int 99, .int (-1), .int 0, .int 0, .int (-1), .int 0, .int 0, .ref (am 11), .ref (am 12), .ref (am 13)])), (am 4, .inl (cy 9, 12, .inr (.inr (.inr (.inr (fun _ => none)))))), (am 5, .inr (4, [.int 0, .ref eda, .int 0])), (am 6, .inr (4, [.int 0, .ref eda, .int 0])), (am 7, .inr (4, [.int 0, .ref eda, .int 0])), (am 8, .inl (cy 0, 0, .inl (fun _ => 0))), (am 9, .inr (4, [.int 0, .ref eda, .int 0])), (am 10, .inl (cy 0, 16, .inl (fun _ => 0))), (am 11, .inl (cy 8, 4, .inr (.inr (.inr (.inr (fun _ => none)))))), (am 12, .inl (cy 1, 4, .inl (fun _ => 0))), (am 13, .inl (cy 0, 4, .inl (fun _ => 0))), (q13, .inr (15, [.int 0, .int 0, .int 0, .int 0, .int 0, .int 0, .int 0, .int 0, .int 0, .int 0, .int 0, .int 0, .int 0, .null, .null, .null]))]) := hD
        refine lv_dup hx hb dX14_make_110 rfl ?_
        refine lv_iload_n hx hb dX14_make_111 rfl (lv_at hl 2 rfl) ?_
        refine lv_iload_n hx hb dX14_make_112 rfl (lv_at hl 3 rfl) ?_
        refine lv_iload_n hx hb dX14_make_113 rfl (lv_at hl 4 rfl) ?_
        refine lv_iload hx hb dX14_make_114 (lv_at hl 5 rfl) ?_
        refine lv_iload hx hb dX14_make_116 (lv_at hl 6 rfl) ?_
        refine me_callI (wr := WM cy am eda 0) (wc := [(q13, .inr (15, [.int 0, .int 0, .int 0, .int 0, .int 0, .int 0, .int 0, .int 0, .int 0, .int 0, .int 0, .int 0, .int 0, .null, .null, .null]))]) (As := [.int q, .int a, .int b, .int o, .int z]) (rest := [.ref q13, .ref (am 1)]) ⟨hx, hb, hml, hown, hts⟩ (m_dev_init l D cy q13 _ q a b o z hnq hfq hno hfo) (cwI 5 hts gX14_make_X10_init rfl rfl rfl (hts (.initialized RX10) (by decide +kernel)) (hts (.methodLink RX14 50 yX10_init) (by decide +kernel)) (hts (.instanceMethod yX10_init) (by decide +kernel)) rfl (by decide +kernel) ⟨by decide, by decide⟩) hK hN hP hD hS hA rfl hl.1 rfl (Nat.le_of_ble_eq_true rfl) dX14_make_118 ⟨Nat.le_of_ble_eq_true rfl, Nat.le_of_ble_eq_true rfl⟩ (fun H locs hB hJ hS => ?_)
        obtain ⟨q14, q15, q16, hP1, hD1⟩ := hB
        obtain ⟨hP, hD⟩ := hJ _ hP1 hD1
        have hP : va_P D vwCl ([(am 0, .inr (19, [.int 0, .ref (am 1), .ref (am 4), .ref (am 5), .ref (am 6), .ref (am 7), .ref (am 8), .int 0, .ref (am 9), .int 0, .int (-1), .int 100, .ref (am 10), .long 0, .int 0, .int 0, .int 0, .int 0, .long 0])), (am 1, .inr (4, [.int 1, .ref (am 2), .int 1])), (am 2, .inl (cy 10, 10, .inr (.inr (.inr (.inr (va_up (fun _ => none) 0 (some (am 3)))))))), (am 3, .inr (15, [.int 104, .int 4, .int 0, .int 1, .int 0, .int 0, .int 99, .int (-1), .int 0, .int 0, .int (-1), .int 0, .int 0, .ref (am 11), .ref (am 12), .ref (am 13)])), (am 4, .inl (cy 9, 12, .inr (.inr (.inr (.inr (fun _ => none)))))), (am 5, .inr (4, [.int 0, .ref eda, .int 0])), (am 6, .inr (4, [.int 0, .ref eda, .int 0])), (am 7, .inr (4, [.int 0, .ref eda, .int 0])), (am 8, .inl (cy 0, 0, .inl (fun _ => 0))), (am 9, .inr (4, [.int 0, .ref eda, .int 0])), (am 10, .inl (cy 0, 16, .inl (fun _ => 0))), (am 11, .inl (cy 8, 4, .inr (.inr (.inr (.inr (fun _ => none)))))), (am 12, .inl (cy 1, 4, .inl (fun _ => 0))), (am 13, .inl (cy 0, 4, .inl (fun _ => 0))), (q13, .inr (15, [.int q, .int a, .int b, .int o, .int z, .int b, .int 117, .int (-1), .int 0, .int 0, .int (-1), .int 0, .int 0, .ref q14, .ref q15, .ref q16])), (q14, .inl (cy 8, 4, .inr (.inr (.inr (.inr (fun _ => none)))))), (q15, .inl (cy 1, 4, .inl (fun _ => 0))), (q16, .inl (cy 0, 4, .inl (fun _ => 0)))]) H := hP
        have hD : va_D A ([(am 0, .inr (19, [.int 0, .ref (am 1), .ref (am 4), .ref (am 5), .ref (am 6), .ref (am 7), .ref (am 8), .int 0, .ref (am 9), .int 0, .int (-1), .int 100, .ref (am 10), .long 0, .int 0, .int 0, .int 0, .int 0, .long 0])), (am 1, .inr (4, [.int 1, .ref (am 2), .int 1])), (am 2, .inl (cy 10, 10, .inr (.inr (.inr (.inr (va_up (fun _ => none) 0 (some (am 3)))))))), (am 3, .inr (15, [.int 104, .int 4, .int 0, .int 1, .int 0, .int 0, .int 99, .int (-1), .int 0, .int 0, .int (-1), .int 0, .int 0, .ref (am 11), .ref (am 12), .ref (am 13)])), (am 4, .inl (cy 9, 12, .inr (.inr (.inr (.inr (fun _ => none)))))), (am 5, .inr (4, [.int 0, .ref eda, .int 0])), (am 6, .inr (4, [.int 0, .ref eda, .int 0])), (am 7, .inr (4, [.int 0, .ref eda, .int 0])), (am 8, .inl (cy 0, 0, .inl (fun _ => 0))), (am 9, .inr (4, [.int 0, .ref eda, .int 0])), (am 10, .inl (cy 0, 16, .inl (fun _ => 0))), (am 11, .inl (cy 8, 4, .inr (.inr (.inr (.inr (fun _ => none)))))), (am 12, .inl (cy 1, 4, .inl (fun _ => 0))), (am 13, .inl (cy 0, 4, .inl (fun _ => 0))), (q13, .inr (15, [.int q, .int a, .int b, .int o, .int z, .int b, .int 117, .int (-1), .int 0, .int 0, .int (-1), .int 0, .int 0, .ref q14, .ref q15, .ref q16])), (q14, .inl (cy 8, 4, .inr (.inr (.inr (.inr (fun _ => none)))))), (q15, .inl (cy 1, 4, .inl (fun _ => 0))), (q16, .inl (cy 0, 4, .inl (fun _ => 0)))]) := hD
        have hP := hP.sub (ws' := [(am 0, .inr (19, [.int 0, .ref (am 1), .ref (am 4), .ref (am 5), .ref (am 6), .ref (am 7), .ref (am 8), .int 0, .ref (am 9), .int 0, .int (-1), .int 100, .ref (am 10), .long 0, .int 0, .int 0, .int 0, .int 0, .long 0])), (am 3, .inr (15, [.int 104, .int 4, .int 0, .int 1, .int 0, .int 0, .int 99, .int (-1), .int 0, .int 0, .int (-1), .int 0, .int 0, .ref (am 11), .ref (am 12), .ref (am 13)])), (am 4, .inl (cy 9, 12, .inr (.inr (.inr (.inr (fun _ => none)))))), (am 5, .inr (4, [.int 0, .ref eda, .int 0])), (am 6, .inr (4, [.int 0, .ref eda, .int 0])), (am 7, .inr (4, [.int 0, .ref eda, .int 0])), (am 8, .inl (cy 0, 0, .inl (fun _ => 0))), (am 9, .inr (4, [.int 0, .ref eda, .int 0])), (am 10, .inl (cy 0, 16, .inl (fun _ => 0))), (am 11, .inl (cy 8, 4, .inr (.inr (.inr (.inr (fun _ => none)))))), (am 12, .inl (cy 1, 4, .inl (fun _ => 0))), (am 13, .inl (cy 0, 4, .inl (fun _ => 0))), (q14, .inl (cy 8, 4, .inr (.inr (.inr (.inr (fun _ => none)))))), (q15, .inl (cy 1, 4, .inl (fun _ => 0))), (q16, .inl (cy 0, 4, .inl (fun _ => 0))), (am 1, .inr (4, [.int 1, .ref (am 2), .int 1])), (am 2, .inl (cy 10, 10, .inr (.inr (.inr (.inr (va_up (fun _ => none) 0 (some (am 3)))))))), (q13, .inr (15, [.int q, .int a, .int b, .int o, .int z, .int b, .int 117, .int (-1), .int 0, .int 0, .int (-1), .int 0, .int 0, .ref q14, .ref q15, .ref q16]))]) [0, 3, 4, 5, 6, 7, 8, 9, 10, 11, 12, 13, 15, 16, 17, 1, 2, 14] rfl
        have hD := hD.sub (ws' := [(am 0, .inr (19, [.int 0, .ref (am 1), .ref (am 4), .ref (am 5), .ref (am 6), .ref (am 7), .ref (am 8), .int 0, .ref (am 9), .int 0, .int (-1), .int 100, .ref (am 10), .long 0, .int 0, .int 0, .int 0, .int 0, .long 0])), (am 3, .inr (15, [.int 104, .int 4, .int 0, .int 1, .int 0, .int 0, .int 99, .int (-1), .int 0, .int 0, .int (-1), .int 0, .int 0, .ref (am 11), .ref (am 12), .ref (am 13)])), (am 4, .inl (cy 9, 12, .inr (.inr (.inr (.inr (fun _ => none)))))), (am 5, .inr (4, [.int 0, .ref eda, .int 0])), (am 6, .inr (4, [.int 0, .ref eda, .int 0])), (am 7, .inr (4, [.int 0, .ref eda, .int 0])), (am 8, .inl (cy 0, 0, .inl (fun _ => 0))), (am 9, .inr (4, [.int 0, .ref eda, .int 0])), (am 10, .inl (cy 0, 16, .inl (fun _ => 0))), (am 11, .inl (cy 8, 4, .inr (.inr (.inr (.inr (fun _ => none)))))), (am 12, .inl (cy 1, 4, .inl (fun _ => 0))), (am 13, .inl (cy 0, 4, .inl (fun _ => 0))), (q14, .inl (cy 8, 4, .inr (.inr (.inr (.inr (fun _ => none)))))), (q15, .inl (cy 1, 4, .inl (fun _ => 0))), (q16, .inl (cy 0, 4, .inl (fun _ => 0))), (am 1, .inr (4, [.int 1, .ref (am 2), .int 1])), (am 2, .inl (cy 10, 10, .inr (.inr (.inr (.inr (va_up (fun _ => none) 0 (some (am 3)))))))), (q13, .inr (15, [.int q, .int a, .int b, .int o, .int z, .int b, .int 117, .int (-1), .int 0, .int 0, .int (-1), .int 0, .int 0, .ref q14, .ref q15, .ref q16]))]) [0, 3, 4, 5, 6, 7, 8, 9, 10, 11, 12, 13, 15, 16, 17, 1, 2, 14] (by decide) rfl
        refine mj_callV (wr := [(am 0, .inr (19, [.int 0, .ref (am 1), .ref (am 4), .ref (am 5), .ref (am 6), .ref (am 7), .ref (am 8), .int 0, .ref (am 9), .int 0, .int (-1), .int 100, .ref (am 10), .long 0, .int 0, .int 0, .int 0, .int 0, .long 0])), (am 3, .inr (15, [.int 104, .int 4, .int 0, .int 1, .int 0, .int 0, .int 99, .int (-1), .int 0, .int 0, .int (-1), .int 0, .int 0, .ref (am 11), .ref (am 12), .ref (am 13)])), (am 4, .inl (cy 9, 12, .inr (.inr (.inr (.inr (fun _ => none)))))), (am 5, .inr (4, [.int 0, .ref eda, .int 0])), (am 6, .inr (4, [.int 0, .ref eda, .int 0])), (am 7, .inr (4, [.int 0, .ref eda, .int 0])), (am 8, .inl (cy 0, 0, .inl (fun _ => 0))), (am 9, .inr (4, [.int 0, .ref eda, .int 0])), (am 10, .inl (cy 0, 16, .inl (fun _ => 0))), (am 11, .inl (cy 8, 4, .inr (.inr (.inr (.inr (fun _ => none)))))), (am 12, .inl (cy 1, 4, .inl (fun _ => 0))), (am 13, .inl (cy 0, 4, .inl (fun _ => 0))), (q14, .inl (cy 8, 4, .inr (.inr (.inr (.inr (fun _ => none)))))), (q15, .inl (cy 1, 4, .inl (fun _ => 0))), (q16, .inl (cy 0, 4, .inl (fun _ => 0)))]) (wc := [(am 1, .inr (4, [.int 1, .ref (am 2), .int 1])), (am 2, .inl (cy 10, 10, .inr (.inr (.inr (.inr (va_up (fun _ => none) 0 (some (am 3)))))))), (q13, .inr (15, [.int q, .int a, .int b, .int o, .int z, .int b, .int 117, .int (-1), .int 0, .int 0, .int (-1), .int 0, .int 0, .ref q14, .ref q15, .ref q16]))]) (As := [.ref q13]) (rest := []) ⟨hx, hb, hml, hown, hts⟩ (m_addm l D cy (am 1) (am 2) (am 3) q13 _ 1 ([.int q, .int a, .int b, .int o, .int z, .int b, .int 117, .int (-1), .int 0, .int 0, .int (-1), .int 0, .int 0, .ref q14, .ref q15, .ref q16]) ) (cwV 1 hts gX14_make_Jx4a65c_add_9ea2d rfl rfl rfl (by decide +kernel) ⟨by decide, by decide⟩) hK hN hP hD hS hA hJS (ci := 4) (q0 := 0) rfl rfl rfl rfl hl.1 rfl (Nat.le_of_ble_eq_true rfl) dX14_make_121 ⟨Nat.le_of_ble_eq_true rfl, Nat.le_of_ble_eq_true rfl⟩ (fun H locs hB hJ hS => ?_)
        obtain ⟨hP1, hD1⟩ := hB
        obtain ⟨hP, hD⟩ := hJ _ hP1 hD1
        have hP : va_P D vwCl ([(am 0, .inr (19, [.int 0, .ref (am 1), .ref (am 4), .ref (am 5), .ref (am 6), .ref (am 7), .ref (am 8), .int 0, .ref (am 9), .int 0, .int (-1), .int 100, .ref (am 10), .long 0, .int 0, .int 0, .int 0, .int 0, .long 0])), (am 3, .inr (15, [.int 104, .int 4, .int 0, .int 1, .int 0, .int 0, .int 99, .int (-1), .int 0, .int 0, .int (-1), .int 0, .int 0, .ref (am 11), .ref (am 12), .ref (am 13)])), (am 4, .inl (cy 9, 12, .inr (.inr (.inr (.inr (fun _ => none)))))), (am 5, .inr (4, [.int 0, .ref eda, .int 0])), (am 6, .inr (4, [.int 0, .ref eda, .int 0])), (am 7, .inr (4, [.int 0, .ref eda, .int 0])), (am 8, .inl (cy 0, 0, .inl (fun _ => 0))), (am 9, .inr (4, [.int 0, .ref eda, .int 0])), (am 10, .inl (cy 0, 16, .inl (fun _ => 0))), (am 11, .inl (cy 8, 4, .inr (.inr (.inr (.inr (fun _ => none)))))), (am 12, .inl (cy 1, 4, .inl (fun _ => 0))), (am 13, .inl (cy 0, 4, .inl (fun _ => 0))), (q14, .inl (cy 8, 4, .inr (.inr (.inr (.inr (fun _ => none)))))), (q15, .inl (cy 1, 4, .inl (fun _ => 0))), (q16, .inl (cy 0, 4, .inl (fun _ => 0))), (am 1, .inr (4, [.int 2, .ref (am 2), .int 2])), (am 2, .inl (cy 10, 10, .inr (.inr (.inr (.inr (va_up (va_up (fun _ => none) 0 (some (am 3))) 1 (some q13))))))), (q13, .inr (15, [.int q, .int a, .int b, .int o, .int z, .int b, .int 117, .int (-1), .int 0, .int 0, .int (-1), .int 0, .int 0, .ref q14, .ref q15, .ref q16]))]) H := hP
        have hD : va_D A ([(am 0, .inr (19, [.int 0, .ref (am 1), .ref (am 4), .ref (am 5), .ref (am 6), .ref (am 7), .ref (am 8), .int 0, .ref (am 9), .int 0, .int (-1), .int 100, .ref (am 10), .long 0, .int 0, .int 0, .int 0, .int 0, .long 0])), (am 3, .inr (15, [.int 104, .int 4, .int 0, .int 1, .int 0, .int 0, .int 99, .int (-1), .int 0, .int 0, .int (-1), .int 0, .int 0, .ref (am 11), .ref (am 12), .ref (am 13)])), (am 4, .inl (cy 9, 12, .inr (.inr (.inr (.inr (fun _ => none)))))), (am 5, .inr (4, [.int 0, .ref eda, .int 0])), (am 6, .inr (4, [.int 0, .ref eda, .int 0])), (am 7, .inr (4, [.int 0, .ref eda, .int 0])), (am 8, .inl (cy 0, 0, .inl (fun _ => 0))), (am 9, .inr (4, [.int 0, .ref eda, .int 0])), (am 10, .inl (cy 0, 16, .inl (fun _ => 0))), (am 11, .inl (cy 8, 4, .inr (.inr (.inr (.inr (fun _ => none)))))), (am 12, .inl (cy 1, 4, .inl (fun _ => 0))), (am 13, .inl (cy 0, 4, .inl (fun _ => 0))), (q14, .inl (cy 8, 4, .inr (.inr (.inr (.inr (fun _ => none)))))), (q15, .inl (cy 1, 4, .inl (fun _ => 0))), (q16, .inl (cy 0, 4, .inl (fun _ => 0))), (am 1, .inr (4, [.int 2, .ref (am 2), .int 2])), (am 2, .inl (cy 10, 10, .inr (.inr (.inr (.inr (va_up (va_up (fun _ => none) 0 (some (am 3))) 1 (some q13))))))), (q13, .inr (15, [.int q, .int a, .int b, .int o, .int z, .int b, .int 117, .int (-1), .int 0, .int 0, .int (-1), .int 0, .int 0, .ref q14, .ref q15, .ref q16]))]) := hD
        refine lv_pop hx hb dX14_make_124 rfl ?_
        refine lv_aload_n hx hb dX14_make_125 rfl (lv_at hl 1 rfl) ?_
        refine va_get (D := D) (ci := 19) (v := .ref (am 1)) (C := RX14) (T := TX14) (N := 19) hx hb hts iw_X14_make_RX14 hown hK hP 0 rfl rfl 1 (by decide) (hts (.fieldLink RX14 10 "HubcascadeModel" "devices" "Ljava/util/ArrayList;") (by decide +kernel)) (fun _ h9 => h9) rfl dX14_make_126 ?_
        refine ro_callV (As := []) (rest := []) ⟨hx, hb, hml, hown, hts⟩ (c_size l D cy _ 15 (am 1) (am 2) 2 2 rfl) (cwV 0 hts gX14_make_Jx4a65c_size_8abf5 rfl rfl rfl (by decide +kernel) ⟨by decide, by decide⟩) hK hN hP hS (ci := 4) (q0 := 15) rfl rfl rfl rfl hl.1 rfl (Nat.le_of_ble_eq_true rfl) dX14_make_129 ⟨Nat.le_of_ble_eq_true rfl, Nat.le_of_ble_eq_true rfl⟩ (fun H locs hP hS => ?_)
        refine lv_iconst (v := 1) hx hb dX14_make_132 (by decide) ?_
        refine lv_isub hx hb dX14_make_133 ?_
        refine lv_topi (fun y ey => ?_)
        obtain rfl : y = 1 := ey.trans (by decide)
        refine W.widen (k := 4) (n := 28) (Nat.le_of_ble_eq_true rfl) (Nat.le_of_ble_eq_true rfl) ?_
        have hP9 := hP.sub (ws' := [(am 0, .inr (19, [.int 0, .ref (am 1), .ref (am 4), .ref (am 5), .ref (am 6), .ref (am 7), .ref (am 8), .int 0, .ref (am 9), .int 0, .int (-1), .int 100, .ref (am 10), .long 0, .int 0, .int 0, .int 0, .int 0, .long 0]))]) [0] rfl
        have hD9 := hD.sub (ws' := [(am 0, .inr (19, [.int 0, .ref (am 1), .ref (am 4), .ref (am 5), .ref (am 6), .ref (am 7), .ref (am 8), .int 0, .ref (am 9), .int 0, .int (-1), .int 100, .ref (am 10), .long 0, .int 0, .int 0, .int 0, .int 0, .long 0]))]) [0] (by decide) rfl
        exact W.iret hx hb hr (fun t ht hW => ⟨rfl, ⟨by rw [ht]; exact hP9, hD9⟩, hS.F ht⟩) hS.2.2 dX14_make_134
    · refine lv_iload_n hx hb dX14_make_12 rfl (lv_at hl 1 rfl) ?_
      refine lv_bipush (v := 104) hx hb dX14_make_13 (by decide) ?_
      refine lv_icmp_ne (tgt := 51) hx hb dX14_make_15 (by decide) (fun c => absurd ((h1.resolve_left c3).resolve_left c9) c) (fun _ => ?_)
      refine lv_iload_n hx hb dX14_make_18 rfl (lv_at hl 2 rfl) ?_
      refine lv_iconst (v := 0) hx hb dX14_make_19 (by decide) ?_
      refine lv_iconst (v := 4) hx hb dX14_make_20 (by decide) ?_
      refine ro_callS (As := [.int a, .int 0, .int 4]) (rest := []) ⟨hx, hb, hml, hown, hts⟩ (c_in_t l D cy _ _ _ _ h2.1 h2.2) (va_cwS 3 hts gX14_make_X14_in rfl rfl rfl (by decide +kernel) ⟨by decide, by decide⟩) hK hN hP hS rfl hl.1 rfl (Nat.le_of_ble_eq_true rfl) dX14_make_21 ⟨Nat.le_of_ble_eq_true rfl, Nat.le_of_ble_eq_true rfl⟩ (fun H locs hP hS => ?_)
      refine lv_if_eq (tgt := 51) hx hb dX14_make_24 (by decide) (fun c => absurd c (by decide)) (fun _ => ?_)
      refine lv_iload_n hx hb dX14_make_27 rfl (lv_at hl 3 rfl) ?_
      refine lv_iconst (v := 1) hx hb dX14_make_28 (by decide) ?_
      refine lv_iconst (v := 5) hx hb dX14_make_29 (by decide) ?_
      refine ro_callS (As := [.int b, .int 1, .int 5]) (rest := []) ⟨hx, hb, hml, hown, hts⟩ (c_in_t l D cy _ _ _ _ h3.1 h3.2) (va_cwS 3 hts gX14_make_X14_in rfl rfl rfl (by decide +kernel) ⟨by decide, by decide⟩) hK hN hP hS rfl hl.1 rfl (Nat.le_of_ble_eq_true rfl) dX14_make_30 ⟨Nat.le_of_ble_eq_true rfl, Nat.le_of_ble_eq_true rfl⟩ (fun H locs hP hS => ?_)
      refine lv_if_eq (tgt := 51) hx hb dX14_make_33 (by decide) (fun c => absurd c (by decide)) (fun _ => ?_)
      refine lv_iload hx hb dX14_make_36 (lv_at hl 5 rfl) ?_
      refine lv_iconst (v := 0) hx hb dX14_make_38 (by decide) ?_
      refine lv_bipush (v := 99) hx hb dX14_make_39 (by decide) ?_
      refine ro_callS (As := [.int z, .int 0, .int 99]) (rest := []) ⟨hx, hb, hml, hown, hts⟩ (c_in_t l D cy _ _ _ _ h4.1 h4.2) (va_cwS 3 hts gX14_make_X14_in rfl rfl rfl (by decide +kernel) ⟨by decide, by decide⟩) hK hN hP hS rfl hl.1 rfl (Nat.le_of_ble_eq_true rfl) dX14_make_41 ⟨Nat.le_of_ble_eq_true rfl, Nat.le_of_ble_eq_true rfl⟩ (fun H locs hP hS => ?_)
      refine lv_if_eq (tgt := 51) hx hb dX14_make_44 (by decide) (fun c => absurd c (by decide)) (fun _ => ?_)
      refine lv_iconst (v := 1) hx hb dX14_make_47 (by decide) ?_
      refine lv_goto (tgt := 52) hx hb dX14_make_48 (by decide) ?_
      refine lv_istore (lv' := [(6, .int 1), (0, .ref (am 0)), (1, .int q), (2, .int a), (3, .int b), (4, .int o), (5, .int z)]) hx hb dX14_make_52 hl (by decide) rfl (fun ls hl => ?_)
      refine lv_aload_n hx hb dX14_make_54 rfl (lv_at hl 1 rfl) ?_
      refine lv_iload hx hb dX14_make_55 (lv_at hl 0 rfl) ?_
      refine lv_if_eq (tgt := 70) hx hb dX14_make_57 (by decide) (fun c => absurd c (by decide)) (fun _ => ?_)
      refine lv_iload_n hx hb dX14_make_60 rfl (lv_at hl 2 rfl) ?_
      refine lv_bipush (v := 108) hx hb dX14_make_61 (by decide) ?_
      refine lv_icmp_ne (tgt := 74) hx hb dX14_make_63 (by decide) (fun c63 => ?_) (fun c63 => ?_)
      · refine lv_aload_n hx hb dX14_make_74 rfl (lv_at hl 1 rfl) ?_
        refine va_get (D := D) (ci := 19) (v := .ref (am 1)) (C := RX14) (T := TX14) (N := 19) hx hb hts iw_X14_make_RX14 hown hK hP 0 rfl rfl 1 (by decide) (hts (.fieldLink RX14 10 "HubcascadeModel" "devices" "Ljava/util/ArrayList;") (by decide +kernel)) (fun _ h9 => h9) rfl dX14_make_75 ?_
        refine ro_callV (As := []) (rest := [.ref (am 0)]) ⟨hx, hb, hml, hown, hts⟩ (c_size l D cy _ 1 (am 1) (am 2) 1 1 rfl) (cwV 0 hts gX14_make_Jx4a65c_size_8abf5 rfl rfl rfl (by decide +kernel) ⟨by decide, by decide⟩) hK hN hP hS (ci := 4) (q0 := 1) rfl rfl rfl rfl hl.1 rfl (Nat.le_of_ble_eq_true rfl) dX14_make_78 ⟨Nat.le_of_ble_eq_true rfl, Nat.le_of_ble_eq_true rfl⟩ (fun H locs hP hS => ?_)
        refine lv_bipush (v := 16) hx hb dX14_make_81 (by decide) ?_
        refine lv_icmp_ne (tgt := 90) hx hb dX14_make_83 (by decide) (fun _ => ?_) (fun c => absurd c (by decide))
        refine lv_iconst (v := 0) hx hb dX14_make_90 (by decide) ?_
        refine va_put (D := D) (ci := 19) (v := .int 0) (ty := .int) (C := RX14) (T := TX14) (N := 19) hx hb hts iw_X14_make_RX14 tyX14 tyX14_ok nmX14 hown hK hP hD hS 0 rfl rfl 0 (by decide) (hts (.fieldLink RX14 61 "HubcascadeModel" "thrown" "I") (by decide +kernel)) (fun _ h9 => h9) rfl (by decide +kernel) rfl rfl (Nat.le_of_ble_eq_true rfl) dX14_make_91 (fun H locs hP hD hS => ?_)
        have hP : va_P D vwCl (WM cy am eda 0) H := hP
        have hD : va_D A (WM cy am eda 0) := hD
        refine lv_aload_n hx hb dX14_make_94 rfl (lv_at hl 1 rfl) ?_
        refine va_get (D := D) (ci := 19) (v := .int 0) (C := RX14) (T := TX14) (N := 19) hx hb hts iw_X14_make_RX14 hown hK hP 0 rfl rfl 0 (by decide) (hts (.fieldLink RX14 61 "HubcascadeModel" "thrown" "I") (by decide +kernel)) (fun _ h9 => h9) rfl dX14_make_95 ?_
        refine lv_if_le (tgt := 103) hx hb dX14_make_98 (by decide) (fun _ => ?_) (fun c => absurd (by decide) c)
        refine lv_aload_n hx hb dX14_make_103 rfl (lv_at hl 1 rfl) ?_
        refine va_get (D := D) (ci := 19) (v := .ref (am 1)) (C := RX14) (T := TX14) (N := 19) hx hb hts iw_X14_make_RX14 hown hK hP 0 rfl rfl 1 (by decide) (hts (.fieldLink RX14 10 "HubcascadeModel" "devices" "Ljava/util/ArrayList;") (by decide +kernel)) (fun _ h9 => h9) rfl dX14_make_104 ?_
        refine va_new (ci := 15) (fs := [.int 0, .int 0, .int 0, .int 0, .int 0, .int 0, .int 0, .int 0, .int 0, .int 0, .int 0, .int 0, .int 0, .null, .null, .null]) (C := RX10) (T := TX10) (N := 16) hx hb hts iw_X14_make_RX10 tyX10 tyX10_ok hown (hts (.classLink RX14 48 RX10) (by decide +kernel)) (hts (.instantiable RX10 16) (by decide +kernel)) (hts (.initialized RX10) (by decide +kernel)) hK hP hD hS hA rfl df_RX10 (Nat.le_of_ble_eq_true rfl) (Nat.le_of_ble_eq_true rfl) dX14_make_107 (fun q17 H hP hD hS => ?_)
        have hP : va_P D vwCl ([(am 0, .inr (19, [.int 0, .ref (am 1), .ref (am 4), .ref (am 5), .ref (am 6), .ref (am 7), .ref (am 8), .int 0, .ref (am 9), .int 0, .int (-1), .int 100, .ref (am 10), .long 0, .int 0, .int 0, .int 0, .int 0, .long 0])), (am 1, .inr (4, [.int 1, .ref (am 2), .int 1])), (am 2, .inl (cy 10, 10, .inr (.inr (.inr (.inr (va_up (fun _ => none) 0 (some (am 3)))))))), (am 3, .inr (15, [.int 104, .int 4, .int 0, .int 1, .int 0, .int 0, .int 99, .int (-1), .int 0, .int 0, .int (-1), .int 0, .int 0, .ref (am 11), .ref (am 12), .ref (am 13)])), (am 4, .inl (cy 9, 12, .inr (.inr (.inr (.inr (fun _ => none)))))), (am 5, .inr (4, [.int 0, .ref eda, .int 0])), (am 6, .inr (4, [.int 0, .ref eda, .int 0])), (am 7, .inr (4, [.int 0, .ref eda, .int 0])), (am 8, .inl (cy 0, 0, .inl (fun _ => 0))), (am 9, .inr (4, [.int 0, .ref eda, .int 0])), (am 10, .inl (cy 0, 16, .inl (fun _ => 0))), (am 11, .inl (cy 8, 4, .inr (.inr (.inr (.inr (fun _ => none)))))), (am 12, .inl (cy 1, 4, .inl (fun _ => 0))), (am 13, .inl (cy 0, 4, .inl (fun _ => 0))), (q17, .inr (15, [.int 0, .int 0, .int 0, .int 0, .int 0, .int 0, .int 0, .int 0, .int 0, .int 0, .int 0, .int 0, .int 0, .null, .null, .null]))]) H := hP
        have hD : va_D A ([(am 0, .inr (19, [.int 0, .ref (am 1), .ref (am 4), .ref (am 5), .ref (am 6), .ref (am 7), .ref (am 8), .int 0, .ref (am 9), .int 0, .int (-1), .int 100, .ref (am 10), .long 0, .int 0, .int 0, .int 0, .int 0, .long 0])), (am 1, .inr (4, [.int 1, .ref (am 2), .int 1])), (am 2, .inl (cy 10, 10, .inr (.inr (.inr (.inr (va_up (fun _ => none) 0 (some (am 3)))))))), (am 3, .inr (15, [.int 104, .int 4, .int 0, .int 1, .int 0, .int 0, .int 99, .int (-1), .int 0, .int 0, .int (-1), .int 0, .int 0, .ref (am 11), .ref (am 12), .ref (am 13)])), (am 4, .inl (cy 9, 12, .inr (.inr (.inr (.inr (fun _ => none)))))), (am 5, .inr (4, [.int 0, .ref eda, .int 0])), (am 6, .inr (4, [.int 0, .ref eda, .int 0])), (am 7, .inr (4, [.int 0, .ref eda, .int 0])), (am 8, .inl (cy 0, 0, .inl (fun _ => 0))), (am 9, .inr (4, [.int 0, .ref eda, .int 0])), (am 10, .inl (cy 0, 16, .inl (fun _ => 0))), (am 11, .inl (cy 8, 4, .inr (.inr (.inr (.inr (fun _ => none)))))), (am 12, .inl (cy 1, 4, .inl (fun _ => 0))), (am 13, .inl (cy 0, 4, .inl (fun _ => 0))), (q17, .inr (15, [.int 0, .int 0, .int 0, .int 0, .int 0, .int 0, .int 0, .int 0, .int 0, .int 0, .int 0, .int 0, .int 0, .null, .null, .null]))]) := hD
        refine lv_dup hx hb dX14_make_110 rfl ?_
        refine lv_iload_n hx hb dX14_make_111 rfl (lv_at hl 2 rfl) ?_
        refine lv_iload_n hx hb dX14_make_112 rfl (lv_at hl 3 rfl) ?_
        refine lv_iload_n hx hb dX14_make_113 rfl (lv_at hl 4 rfl) ?_
        refine lv_iload hx hb dX14_make_114 (lv_at hl 5 rfl) ?_
        refine lv_iload hx hb dX14_make_116 (lv_at hl 6 rfl) ?_
        refine me_callI (wr := WM cy am eda 0) (wc := [(q17, .inr (15, [.int 0, .int 0, .int 0, .int 0, .int 0, .int 0, .int 0, .int 0, .int 0, .int 0, .int 0, .int 0, .int 0, .null, .null, .null]))]) (As := [.int q, .int a, .int b, .int o, .int z]) (rest := [.ref q17, .ref (am 1)]) ⟨hx, hb, hml, hown, hts⟩ (m_dev_init l D cy q17 _ q a b o z hnq hfq hno hfo) (cwI 5 hts gX14_make_X10_init rfl rfl rfl (hts (.initialized RX10) (by decide +kernel)) (hts (.methodLink RX14 50 yX10_init) (by decide +kernel)) (hts (.instanceMethod yX10_init) (by decide +kernel)) rfl (by decide +kernel) ⟨by decide, by decide⟩) hK hN hP hD hS hA rfl hl.1 rfl (Nat.le_of_ble_eq_true rfl) dX14_make_118 ⟨Nat.le_of_ble_eq_true rfl, Nat.le_of_ble_eq_true rfl⟩ (fun H locs hB hJ hS => ?_)
        obtain ⟨q18, q19, q20, hP1, hD1⟩ := hB
        obtain ⟨hP, hD⟩ := hJ _ hP1 hD1
        have hP : va_P D vwCl ([(am 0, .inr (19, [.int 0, .ref (am 1), .ref (am 4), .ref (am 5), .ref (am 6), .ref (am 7), .ref (am 8), .int 0, .ref (am 9), .int 0, .int (-1), .int 100, .ref (am 10), .long 0, .int 0, .int 0, .int 0, .int 0, .long 0])), (am 1, .inr (4, [.int 1, .ref (am 2), .int 1])), (am 2, .inl (cy 10, 10, .inr (.inr (.inr (.inr (va_up (fun _ => none) 0 (some (am 3)))))))), (am 3, .inr (15, [.int 104, .int 4, .int 0, .int 1, .int 0, .int 0, .int 99, .int (-1), .int 0, .int 0, .int (-1), .int 0, .int 0, .ref (am 11), .ref (am 12), .ref (am 13)])), (am 4, .inl (cy 9, 12, .inr (.inr (.inr (.inr (fun _ => none)))))), (am 5, .inr (4, [.int 0, .ref eda, .int 0])), (am 6, .inr (4, [.int 0, .ref eda, .int 0])), (am 7, .inr (4, [.int 0, .ref eda, .int 0])), (am 8, .inl (cy 0, 0, .inl (fun _ => 0))), (am 9, .inr (4, [.int 0, .ref eda, .int 0])), (am 10, .inl (cy 0, 16, .inl (fun _ => 0))), (am 11, .inl (cy 8, 4, .inr (.inr (.inr (.inr (fun _ => none)))))), (am 12, .inl (cy 1, 4, .inl (fun _ => 0))), (am 13, .inl (cy 0, 4, .inl (fun _ => 0))), (q17, .inr (15, [.int q, .int a, .int b, .int o, .int z, .int b, .int 117, .int (-1), .int 0, .int 0, .int (-1), .int 0, .int 0, .ref q18, .ref q19, .ref q20])), (q18, .inl (cy 8, 4, .inr (.inr (.inr (.inr (fun _ => none)))))), (q19, .inl (cy 1, 4, .inl (fun _ => 0))), (q20, .inl (cy 0, 4, .inl (fun _ => 0)))]) H := hP
        have hD : va_D A ([(am 0, .inr (19, [.int 0, .ref (am 1), .ref (am 4), .ref (am 5), .ref (am 6), .ref (am 7), .ref (am 8), .int 0, .ref (am 9), .int 0, .int (-1), .int 100, .ref (am 10), .long 0, .int 0, .int 0, .int 0, .int 0, .long 0])), (am 1, .inr (4, [.int 1, .ref (am 2), .int 1])), (am 2, .inl (cy 10, 10, .inr (.inr (.inr (.inr (va_up (fun _ => none) 0 (some (am 3)))))))), (am 3, .inr (15, [.int 104, .int 4, .int 0, .int 1, .int 0, .int 0, .int 99, .int (-1), .int 0, .int 0, .int (-1), .int 0, .int 0, .ref (am 11), .ref (am 12), .ref (am 13)])), (am 4, .inl (cy 9, 12, .inr (.inr (.inr (.inr (fun _ => none)))))), (am 5, .inr (4, [.int 0, .ref eda, .int 0])), (am 6, .inr (4, [.int 0, .ref eda, .int 0])), (am 7, .inr (4, [.int 0, .ref eda, .int 0])), (am 8, .inl (cy 0, 0, .inl (fun _ => 0))), (am 9, .inr (4, [.int 0, .ref eda, .int 0])), (am 10, .inl (cy 0, 16, .inl (fun _ => 0))), (am 11, .inl (cy 8, 4, .inr (.inr (.inr (.inr (fun _ => none)))))), (am 12, .inl (cy 1, 4, .inl (fun _ => 0))), (am 13, .inl (cy 0, 4, .inl (fun _ => 0))), (q17, .inr (15, [.int q, .int a, .int b, .int o, .int z, .int b, .int 117, .int (-1), .int 0, .int 0, .int (-1), .int 0, .int 0, .ref q18, .ref q19, .ref q20])), (q18, .inl (cy 8, 4, .inr (.inr (.inr (.inr (fun _ => none)))))), (q19, .inl (cy 1, 4, .inl (fun _ => 0))), (q20, .inl (cy 0, 4, .inl (fun _ => 0)))]) := hD
        have hP := hP.sub (ws' := [(am 0, .inr (19, [.int 0, .ref (am 1), .ref (am 4), .ref (am 5), .ref (am 6), .ref (am 7), .ref (am 8), .int 0, .ref (am 9), .int 0, .int (-1), .int 100, .ref (am 10), .long 0, .int 0, .int 0, .int 0, .int 0, .long 0])), (am 3, .inr (15, [.int 104, .int 4, .int 0, .int 1, .int 0, .int 0, .int 99, .int (-1), .int 0, .int 0, .int (-1), .int 0, .int 0, .ref (am 11), .ref (am 12), .ref (am 13)])), (am 4, .inl (cy 9, 12, .inr (.inr (.inr (.inr (fun _ => none)))))), (am 5, .inr (4, [.int 0, .ref eda, .int 0])), (am 6, .inr (4, [.int 0, .ref eda, .int 0])), (am 7, .inr (4, [.int 0, .ref eda, .int 0])), (am 8, .inl (cy 0, 0, .inl (fun _ => 0))), (am 9, .inr (4, [.int 0, .ref eda, .int 0])), (am 10, .inl (cy 0, 16, .inl (fun _ => 0))), (am 11, .inl (cy 8, 4, .inr (.inr (.inr (.inr (fun _ => none)))))), (am 12, .inl (cy 1, 4, .inl (fun _ => 0))), (am 13, .inl (cy 0, 4, .inl (fun _ => 0))), (q18, .inl (cy 8, 4, .inr (.inr (.inr (.inr (fun _ => none)))))), (q19, .inl (cy 1, 4, .inl (fun _ => 0))), (q20, .inl (cy 0, 4, .inl (fun _ => 0))), (am 1, .inr (4, [.int 1, .ref (am 2), .int 1])), (am 2, .inl (cy 10, 10, .inr (.inr (.inr (.inr (va_up (fun _ => none) 0 (some (am 3)))))))), (q17, .inr (15, [.int q, .int a, .int b, .int o, .int z, .int b, .int 117, .int (-1), .int 0, .int 0, .int (-1), .int 0, .int 0, .ref q18, .ref q19, .ref q20]))]) [0, 3, 4, 5, 6, 7, 8, 9, 10, 11, 12, 13, 15, 16, 17, 1, 2, 14] rfl
        have hD := hD.sub (ws' := [(am 0, .inr (19, [.int 0, .ref (am 1), .ref (am 4), .ref (am 5), .ref (am 6), .ref (am 7), .ref (am 8), .int 0, .ref (am 9), .int 0, .int (-1), .int 100, .ref (am 10), .long 0, .int 0, .int 0, .int 0, .int 0, .long 0])), (am 3, .inr (15, [.int 104, .int 4, .int 0, .int 1, .int 0, .int 0, .int 99, .int (-1), .int 0, .int 0, .int (-1), .int 0, .int 0, .ref (am 11), .ref (am 12), .ref (am 13)])), (am 4, .inl (cy 9, 12, .inr (.inr (.inr (.inr (fun _ => none)))))), (am 5, .inr (4, [.int 0, .ref eda, .int 0])), (am 6, .inr (4, [.int 0, .ref eda, .int 0])), (am 7, .inr (4, [.int 0, .ref eda, .int 0])), (am 8, .inl (cy 0, 0, .inl (fun _ => 0))), (am 9, .inr (4, [.int 0, .ref eda, .int 0])), (am 10, .inl (cy 0, 16, .inl (fun _ => 0))), (am 11, .inl (cy 8, 4, .inr (.inr (.inr (.inr (fun _ => none)))))), (am 12, .inl (cy 1, 4, .inl (fun _ => 0))), (am 13, .inl (cy 0, 4, .inl (fun _ => 0))), (q18, .inl (cy 8, 4, .inr (.inr (.inr (.inr (fun _ => none)))))), (q19, .inl (cy 1, 4, .inl (fun _ => 0))), (q20, .inl (cy 0, 4, .inl (fun _ => 0))), (am 1, .inr (4, [.int 1, .ref (am 2), .int 1])), (am 2, .inl (cy 10, 10, .inr (.inr (.inr (.inr (va_up (fun _ => none) 0 (some (am 3)))))))), (q17, .inr (15, [.int q, .int a, .int b, .int o, .int z, .int b, .int 117, .int (-1), .int 0, .int 0, .int (-1), .int 0, .int 0, .ref q18, .ref q19, .ref q20]))]) [0, 3, 4, 5, 6, 7, 8, 9, 10, 11, 12, 13, 15, 16, 17, 1, 2, 14] (by decide) rfl
        refine mj_callV (wr := [(am 0, .inr (19, [.int 0, .ref (am 1), .ref (am 4), .ref (am 5), .ref (am 6), .ref (am 7), .ref (am 8), .int 0, .ref (am 9), .int 0, .int (-1), .int 100, .ref (am 10), .long 0, .int 0, .int 0, .int 0, .int 0, .long 0])), (am 3, .inr (15, [.int 104, .int 4, .int 0, .int 1, .int 0, .int 0, .int 99, .int (-1), .int 0, .int 0, .int (-1), .int 0, .int 0, .ref (am 11), .ref (am 12), .ref (am 13)])), (am 4, .inl (cy 9, 12, .inr (.inr (.inr (.inr (fun _ => none)))))), (am 5, .inr (4, [.int 0, .ref eda, .int 0])), (am 6, .inr (4, [.int 0, .ref eda, .int 0])), (am 7, .inr (4, [.int 0, .ref eda, .int 0])), (am 8, .inl (cy 0, 0, .inl (fun _ => 0))), (am 9, .inr (4, [.int 0, .ref eda, .int 0])), (am 10, .inl (cy 0, 16, .inl (fun _ => 0))), (am 11, .inl (cy 8, 4, .inr (.inr (.inr (.inr (fun _ => none)))))), (am 12, .inl (cy 1, 4, .inl (fun _ => 0))), (am 13, .inl (cy 0, 4, .inl (fun _ => 0))), (q18, .inl (cy 8, 4, .inr (.inr (.inr (.inr (fun _ => none)))))), (q19, .inl (cy 1, 4, .inl (fun _ => 0))), (q20, .inl (cy 0, 4, .inl (fun _ => 0)))]) (wc := [(am 1, .inr (4, [.int 1, .ref (am 2), .int 1])), (am 2, .inl (cy 10, 10, .inr (.inr (.inr (.inr (va_up (fun _ => none) 0 (some (am 3)))))))), (q17, .inr (15, [.int q, .int a, .int b, .int o, .int z, .int b, .int 117, .int (-1), .int 0, .int 0, .int (-1), .int 0, .int 0, .ref q18, .ref q19, .ref q20]))]) (As := [.ref q17]) (rest := []) ⟨hx, hb, hml, hown, hts⟩ (m_addm l D cy (am 1) (am 2) (am 3) q17 _ 1 ([.int q, .int a, .int b, .int o, .int z, .int b, .int 117, .int (-1), .int 0, .int 0, .int (-1), .int 0, .int 0, .ref q18, .ref q19, .ref q20]) ) (cwV 1 hts gX14_make_Jx4a65c_add_9ea2d rfl rfl rfl (by decide +kernel) ⟨by decide, by decide⟩) hK hN hP hD hS hA hJS (ci := 4) (q0 := 0) rfl rfl rfl rfl hl.1 rfl (Nat.le_of_ble_eq_true rfl) dX14_make_121 ⟨Nat.le_of_ble_eq_true rfl, Nat.le_of_ble_eq_true rfl⟩ (fun H locs hB hJ hS => ?_)
        obtain ⟨hP1, hD1⟩ := hB
        obtain ⟨hP, hD⟩ := hJ _ hP1 hD1
        have hP : va_P D vwCl ([(am 0, .inr (19, [.int 0, .ref (am 1), .ref (am 4), .ref (am 5), .ref (am 6), .ref (am 7), .ref (am 8), .int 0, .ref (am 9), .int 0, .int (-1), .int 100, .ref (am 10), .long 0, .int 0, .int 0, .int 0, .int 0, .long 0])), (am 3, .inr (15, [.int 104, .int 4, .int 0, .int 1, .int 0, .int 0, .int 99, .int (-1), .int 0, .int 0, .int (-1), .int 0, .int 0, .ref (am 11), .ref (am 12), .ref (am 13)])), (am 4, .inl (cy 9, 12, .inr (.inr (.inr (.inr (fun _ => none)))))), (am 5, .inr (4, [.int 0, .ref eda, .int 0])), (am 6, .inr (4, [.int 0, .ref eda, .int 0])), (am 7, .inr (4, [.int 0, .ref eda, .int 0])), (am 8, .inl (cy 0, 0, .inl (fun _ => 0))), (am 9, .inr (4, [.int 0, .ref eda, .int 0])), (am 10, .inl (cy 0, 16, .inl (fun _ => 0))), (am 11, .inl (cy 8, 4, .inr (.inr (.inr (.inr (fun _ => none)))))), (am 12, .inl (cy 1, 4, .inl (fun _ => 0))), (am 13, .inl (cy 0, 4, .inl (fun _ => 0))), (q18, .inl (cy 8, 4, .inr (.inr (.inr (.inr (fun _ => none)))))), (q19, .inl (cy 1, 4, .inl (fun _ => 0))), (q20, .inl (cy 0, 4, .inl (fun _ => 0))), (am 1, .inr (4, [.int 2, .ref (am 2), .int 2])), (am 2, .inl (cy 10, 10, .inr (.inr (.inr (.inr (va_up (va_up (fun _ => none) 0 (some (am 3))) 1 (some q17))))))), (q17, .inr (15, [.int q, .int a, .int b, .int o, .int z, .int b, .int 117, .int (-1), .int 0, .int 0, .int (-1), .int 0, .int 0, .ref q18, .ref q19, .ref q20]))]) H := hP
        have hD : va_D A ([(am 0, .inr (19, [.int 0, .ref (am 1), .ref (am 4), .ref (am 5), .ref (am 6), .ref (am 7), .ref (am 8), .int 0, .ref (am 9), .int 0, .int (-1), .int 100, .ref (am 10), .long 0, .int 0, .int 0, .int 0, .int 0, .long 0])), (am 3, .inr (15, [.int 104, .int 4, .int 0, .int 1, .int 0, .int 0, .int 99, .int (-1), .int 0, .int 0, .int (-1), .int 0, .int 0, .ref (am 11), .ref (am 12), .ref (am 13)])), (am 4, .inl (cy 9, 12, .inr (.inr (.inr (.inr (fun _ => none)))))), (am 5, .inr (4, [.int 0, .ref eda, .int 0])), (am 6, .inr (4, [.int 0, .ref eda, .int 0])), (am 7, .inr (4, [.int 0, .ref eda, .int 0])), (am 8, .inl (cy 0, 0, .inl (fun _ => 0))), (am 9, .inr (4, [.int 0, .ref eda, .int 0])), (am 10, .inl (cy 0, 16, .inl (fun _ => 0))), (am 11, .inl (cy 8, 4, .inr (.inr (.inr (.inr (fun _ => none)))))), (am 12, .inl (cy 1, 4, .inl (fun _ => 0))), (am 13, .inl (cy 0, 4, .inl (fun _ => 0))), (q18, .inl (cy 8, 4, .inr (.inr (.inr (.inr (fun _ => none)))))), (q19, .inl (cy 1, 4, .inl (fun _ => 0))), (q20, .inl (cy 0, 4, .inl (fun _ => 0))), (am 1, .inr (4, [.int 2, .ref (am 2), .int 2])), (am 2, .inl (cy 10, 10, .inr (.inr (.inr (.inr (va_up (va_up (fun _ => none) 0 (some (am 3))) 1 (some q17))))))), (q17, .inr (15, [.int q, .int a, .int b, .int o, .int z, .int b, .int 117, .int (-1), .int 0, .int 0, .int (-1), .int 0, .int 0, .ref q18, .ref q19, .ref q20]))]) := hD
        refine lv_pop hx hb dX14_make_124 rfl ?_
        refine lv_aload_n hx hb dX14_make_125 rfl (lv_at hl 1 rfl) ?_
        refine va_get (D := D) (ci := 19) (v := .ref (am 1)) (C := RX14) (T := TX14) (N := 19) hx hb hts iw_X14_make_RX14 hown hK hP 0 rfl rfl 1 (by decide) (hts (.fieldLink RX14 10 "HubcascadeModel" "devices" "Ljava/util/ArrayList;") (by decide +kernel)) (fun _ h9 => h9) rfl dX14_make_126 ?_
        refine ro_callV (As := []) (rest := []) ⟨hx, hb, hml, hown, hts⟩ (c_size l D cy _ 15 (am 1) (am 2) 2 2 rfl) (cwV 0 hts gX14_make_Jx4a65c_size_8abf5 rfl rfl rfl (by decide +kernel) ⟨by decide, by decide⟩) hK hN hP hS (ci := 4) (q0 := 15) rfl rfl rfl rfl hl.1 rfl (Nat.le_of_ble_eq_true rfl) dX14_make_129 ⟨Nat.le_of_ble_eq_true rfl, Nat.le_of_ble_eq_true rfl⟩ (fun H locs hP hS => ?_)
        refine lv_iconst (v := 1) hx hb dX14_make_132 (by decide) ?_
        refine lv_isub hx hb dX14_make_133 ?_
        refine lv_topi (fun y ey => ?_)
        obtain rfl : y = 1 := ey.trans (by decide)
        refine W.widen (k := 4) (n := 28) (Nat.le_of_ble_eq_true rfl) (Nat.le_of_ble_eq_true rfl) ?_
        have hP9 := hP.sub (ws' := [(am 0, .inr (19, [.int 0, .ref (am 1), .ref (am 4), .ref (am 5), .ref (am 6), .ref (am 7), .ref (am 8), .int 0, .ref (am 9), .int 0, .int (-1), .int 100, .ref (am 10), .long 0, .int 0, .int 0, .int 0, .int 0, .long 0]))]) [0] rfl
        have hD9 := hD.sub (ws' := [(am 0, .inr (19, [.int 0, .ref (am 1), .ref (am 4), .ref (am 5), .ref (am 6), .ref (am 7), .ref (am 8), .int 0, .ref (am 9), .int 0, .int (-1), .int 100, .ref (am 10), .long 0, .int 0, .int 0, .int 0, .int 0, .long 0]))]) [0] (by decide) rfl
        exact W.iret hx hb hr (fun t ht hW => ⟨rfl, ⟨by rw [ht]; exact hP9, hD9⟩, hS.F ht⟩) hS.2.2 dX14_make_134
      · refine lv_iload_n hx hb dX14_make_66 rfl (lv_at hl 3 rfl) ?_
        refine lv_if_le (tgt := 74) hx hb dX14_make_67 (by decide) (fun _ => ?_) (fun c => absurd (my_nlt0 (fun y => h5 ⟨c63, y⟩)) c)
        refine lv_aload_n hx hb dX14_make_74 rfl (lv_at hl 1 rfl) ?_
        refine va_get (D := D) (ci := 19) (v := .ref (am 1)) (C := RX14) (T := TX14) (N := 19) hx hb hts iw_X14_make_RX14 hown hK hP 0 rfl rfl 1 (by decide) (hts (.fieldLink RX14 10 "HubcascadeModel" "devices" "Ljava/util/ArrayList;") (by decide +kernel)) (fun _ h9 => h9) rfl dX14_make_75 ?_
        refine ro_callV (As := []) (rest := [.ref (am 0)]) ⟨hx, hb, hml, hown, hts⟩ (c_size l D cy _ 1 (am 1) (am 2) 1 1 rfl) (cwV 0 hts gX14_make_Jx4a65c_size_8abf5 rfl rfl rfl (by decide +kernel) ⟨by decide, by decide⟩) hK hN hP hS (ci := 4) (q0 := 1) rfl rfl rfl rfl hl.1 rfl (Nat.le_of_ble_eq_true rfl) dX14_make_78 ⟨Nat.le_of_ble_eq_true rfl, Nat.le_of_ble_eq_true rfl⟩ (fun H locs hP hS => ?_)
        refine lv_bipush (v := 16) hx hb dX14_make_81 (by decide) ?_
        refine lv_icmp_ne (tgt := 90) hx hb dX14_make_83 (by decide) (fun _ => ?_) (fun c => absurd c (by decide))
        refine lv_iconst (v := 0) hx hb dX14_make_90 (by decide) ?_
        refine va_put (D := D) (ci := 19) (v := .int 0) (ty := .int) (C := RX14) (T := TX14) (N := 19) hx hb hts iw_X14_make_RX14 tyX14 tyX14_ok nmX14 hown hK hP hD hS 0 rfl rfl 0 (by decide) (hts (.fieldLink RX14 61 "HubcascadeModel" "thrown" "I") (by decide +kernel)) (fun _ h9 => h9) rfl (by decide +kernel) rfl rfl (Nat.le_of_ble_eq_true rfl) dX14_make_91 (fun H locs hP hD hS => ?_)
        have hP : va_P D vwCl (WM cy am eda 0) H := hP
        have hD : va_D A (WM cy am eda 0) := hD
        refine lv_aload_n hx hb dX14_make_94 rfl (lv_at hl 1 rfl) ?_
        refine va_get (D := D) (ci := 19) (v := .int 0) (C := RX14) (T := TX14) (N := 19) hx hb hts iw_X14_make_RX14 hown hK hP 0 rfl rfl 0 (by decide) (hts (.fieldLink RX14 61 "HubcascadeModel" "thrown" "I") (by decide +kernel)) (fun _ h9 => h9) rfl dX14_make_95 ?_
        refine lv_if_le (tgt := 103) hx hb dX14_make_98 (by decide) (fun _ => ?_) (fun c => absurd (by decide) c)
        refine lv_aload_n hx hb dX14_make_103 rfl (lv_at hl 1 rfl) ?_
        refine va_get (D := D) (ci := 19) (v := .ref (am 1)) (C := RX14) (T := TX14) (N := 19) hx hb hts iw_X14_make_RX14 hown hK hP 0 rfl rfl 1 (by decide) (hts (.fieldLink RX14 10 "HubcascadeModel" "devices" "Ljava/util/ArrayList;") (by decide +kernel)) (fun _ h9 => h9) rfl dX14_make_104 ?_
        refine va_new (ci := 15) (fs := [.int 0, .int 0, .int 0, .int 0, .int 0, .int 0, .int 0, .int 0, .int 0, .int 0, .int 0, .int 0, .int 0, .null, .null, .null]) (C := RX10) (T := TX10) (N := 16) hx hb hts iw_X14_make_RX10 tyX10 tyX10_ok hown (hts (.classLink RX14 48 RX10) (by decide +kernel)) (hts (.instantiable RX10 16) (by decide +kernel)) (hts (.initialized RX10) (by decide +kernel)) hK hP hD hS hA rfl df_RX10 (Nat.le_of_ble_eq_true rfl) (Nat.le_of_ble_eq_true rfl) dX14_make_107 (fun q21 H hP hD hS => ?_)
        have hP : va_P D vwCl ([(am 0, .inr (19, [.int 0, .ref (am 1), .ref (am 4), .ref (am 5), .ref (am 6), .ref (am 7), .ref (am 8), .int 0, .ref (am 9), .int 0, .int (-1), .int 100, .ref (am 10), .long 0, .int 0, .int 0, .int 0, .int 0, .long 0])), (am 1, .inr (4, [.int 1, .ref (am 2), .int 1])), (am 2, .inl (cy 10, 10, .inr (.inr (.inr (.inr (va_up (fun _ => none) 0 (some (am 3)))))))), (am 3, .inr (15, [.int 104, .int 4, .int 0, .int 1, .int 0, .int 0, .int 99, .int (-1), .int 0, .int 0, .int (-1), .int 0, .int 0, .ref (am 11), .ref (am 12), .ref (am 13)])), (am 4, .inl (cy 9, 12, .inr (.inr (.inr (.inr (fun _ => none)))))), (am 5, .inr (4, [.int 0, .ref eda, .int 0])), (am 6, .inr (4, [.int 0, .ref eda, .int 0])), (am 7, .inr (4, [.int 0, .ref eda, .int 0])), (am 8, .inl (cy 0, 0, .inl (fun _ => 0))), (am 9, .inr (4, [.int 0, .ref eda, .int 0])), (am 10, .inl (cy 0, 16, .inl (fun _ => 0))), (am 11, .inl (cy 8, 4, .inr (.inr (.inr (.inr (fun _ => none)))))), (am 12, .inl (cy 1, 4, .inl (fun _ => 0))), (am 13, .inl (cy 0, 4, .inl (fun _ => 0))), (q21, .inr (15, [.int 0, .int 0, .int 0, .int 0, .int 0, .int 0, .int 0, .int 0, .int 0, .int 0, .int 0, .int 0, .int 0, .null, .null, .null]))]) H := hP
        have hD : va_D A ([(am 0, .inr (19, [.int 0, .ref (am 1), .ref (am 4), .ref (am 5), .ref (am 6), .ref (am 7), .ref (am 8), .int 0, .ref (am 9), .int 0, .int (-1), .int 100, .ref (am 10), .long 0, .int 0, .int 0, .int 0, .int 0, .long 0])), (am 1, .inr (4, [.int 1, .ref (am 2), .int 1])), (am 2, .inl (cy 10, 10, .inr (.inr (.inr (.inr (va_up (fun _ => none) 0 (some (am 3)))))))), (am 3, .inr (15, [.int 104, .int 4, .int 0, .int 1, .int 0, .int 0, .int 99, .int (-1), .int 0, .int 0, .int (-1), .int 0, .int 0, .ref (am 11), .ref (am 12), .ref (am 13)])), (am 4, .inl (cy 9, 12, .inr (.inr (.inr (.inr (fun _ => none)))))), (am 5, .inr (4, [.int 0, .ref eda, .int 0])), (am 6, .inr (4, [.int 0, .ref eda, .int 0])), (am 7, .inr (4, [.int 0, .ref eda, .int 0])), (am 8, .inl (cy 0, 0, .inl (fun _ => 0))), (am 9, .inr (4, [.int 0, .ref eda, .int 0])), (am 10, .inl (cy 0, 16, .inl (fun _ => 0))), (am 11, .inl (cy 8, 4, .inr (.inr (.inr (.inr (fun _ => none)))))), (am 12, .inl (cy 1, 4, .inl (fun _ => 0))), (am 13, .inl (cy 0, 4, .inl (fun _ => 0))), (q21, .inr (15, [.int 0, .int 0, .int 0, .int 0, .int 0, .int 0, .int 0, .int 0, .int 0, .int 0, .int 0, .int 0, .int 0, .null, .null, .null]))]) := hD
        refine lv_dup hx hb dX14_make_110 rfl ?_
        refine lv_iload_n hx hb dX14_make_111 rfl (lv_at hl 2 rfl) ?_
        refine lv_iload_n hx hb dX14_make_112 rfl (lv_at hl 3 rfl) ?_
        refine lv_iload_n hx hb dX14_make_113 rfl (lv_at hl 4 rfl) ?_
        refine lv_iload hx hb dX14_make_114 (lv_at hl 5 rfl) ?_
        refine lv_iload hx hb dX14_make_116 (lv_at hl 6 rfl) ?_
        refine me_callI (wr := WM cy am eda 0) (wc := [(q21, .inr (15, [.int 0, .int 0, .int 0, .int 0, .int 0, .int 0, .int 0, .int 0, .int 0, .int 0, .int 0, .int 0, .int 0, .null, .null, .null]))]) (As := [.int q, .int a, .int b, .int o, .int z]) (rest := [.ref q21, .ref (am 1)]) ⟨hx, hb, hml, hown, hts⟩ (m_dev_init l D cy q21 _ q a b o z hnq hfq hno hfo) (cwI 5 hts gX14_make_X10_init rfl rfl rfl (hts (.initialized RX10) (by decide +kernel)) (hts (.methodLink RX14 50 yX10_init) (by decide +kernel)) (hts (.instanceMethod yX10_init) (by decide +kernel)) rfl (by decide +kernel) ⟨by decide, by decide⟩) hK hN hP hD hS hA rfl hl.1 rfl (Nat.le_of_ble_eq_true rfl) dX14_make_118 ⟨Nat.le_of_ble_eq_true rfl, Nat.le_of_ble_eq_true rfl⟩ (fun H locs hB hJ hS => ?_)
        obtain ⟨q22, q23, q24, hP1, hD1⟩ := hB
        obtain ⟨hP, hD⟩ := hJ _ hP1 hD1
        have hP : va_P D vwCl ([(am 0, .inr (19, [.int 0, .ref (am 1), .ref (am 4), .ref (am 5), .ref (am 6), .ref (am 7), .ref (am 8), .int 0, .ref (am 9), .int 0, .int (-1), .int 100, .ref (am 10), .long 0, .int 0, .int 0, .int 0, .int 0, .long 0])), (am 1, .inr (4, [.int 1, .ref (am 2), .int 1])), (am 2, .inl (cy 10, 10, .inr (.inr (.inr (.inr (va_up (fun _ => none) 0 (some (am 3)))))))), (am 3, .inr (15, [.int 104, .int 4, .int 0, .int 1, .int 0, .int 0, .int 99, .int (-1), .int 0, .int 0, .int (-1), .int 0, .int 0, .ref (am 11), .ref (am 12), .ref (am 13)])), (am 4, .inl (cy 9, 12, .inr (.inr (.inr (.inr (fun _ => none)))))), (am 5, .inr (4, [.int 0, .ref eda, .int 0])), (am 6, .inr (4, [.int 0, .ref eda, .int 0])), (am 7, .inr (4, [.int 0, .ref eda, .int 0])), (am 8, .inl (cy 0, 0, .inl (fun _ => 0))), (am 9, .inr (4, [.int 0, .ref eda, .int 0])), (am 10, .inl (cy 0, 16, .inl (fun _ => 0))), (am 11, .inl (cy 8, 4, .inr (.inr (.inr (.inr (fun _ => none)))))), (am 12, .inl (cy 1, 4, .inl (fun _ => 0))), (am 13, .inl (cy 0, 4, .inl (fun _ => 0))), (q21, .inr (15, [.int q, .int a, .int b, .int o, .int z, .int b, .int 117, .int (-1), .int 0, .int 0, .int (-1), .int 0, .int 0, .ref q22, .ref q23, .ref q24])), (q22, .inl (cy 8, 4, .inr (.inr (.inr (.inr (fun _ => none)))))), (q23, .inl (cy 1, 4, .inl (fun _ => 0))), (q24, .inl (cy 0, 4, .inl (fun _ => 0)))]) H := hP
        have hD : va_D A ([(am 0, .inr (19, [.int 0, .ref (am 1), .ref (am 4), .ref (am 5), .ref (am 6), .ref (am 7), .ref (am 8), .int 0, .ref (am 9), .int 0, .int (-1), .int 100, .ref (am 10), .long 0, .int 0, .int 0, .int 0, .int 0, .long 0])), (am 1, .inr (4, [.int 1, .ref (am 2), .int 1])), (am 2, .inl (cy 10, 10, .inr (.inr (.inr (.inr (va_up (fun _ => none) 0 (some (am 3)))))))), (am 3, .inr (15, [.int 104, .int 4, .int 0, .int 1, .int 0, .int 0, .int 99, .int (-1), .int 0, .int 0, .int (-1), .int 0, .int 0, .ref (am 11), .ref (am 12), .ref (am 13)])), (am 4, .inl (cy 9, 12, .inr (.inr (.inr (.inr (fun _ => none)))))), (am 5, .inr (4, [.int 0, .ref eda, .int 0])), (am 6, .inr (4, [.int 0, .ref eda, .int 0])), (am 7, .inr (4, [.int 0, .ref eda, .int 0])), (am 8, .inl (cy 0, 0, .inl (fun _ => 0))), (am 9, .inr (4, [.int 0, .ref eda, .int 0])), (am 10, .inl (cy 0, 16, .inl (fun _ => 0))), (am 11, .inl (cy 8, 4, .inr (.inr (.inr (.inr (fun _ => none)))))), (am 12, .inl (cy 1, 4, .inl (fun _ => 0))), (am 13, .inl (cy 0, 4, .inl (fun _ => 0))), (q21, .inr (15, [.int q, .int a, .int b, .int o, .int z, .int b, .int 117, .int (-1), .int 0, .int 0, .int (-1), .int 0, .int 0, .ref q22, .ref q23, .ref q24])), (q22, .inl (cy 8, 4, .inr (.inr (.inr (.inr (fun _ => none)))))), (q23, .inl (cy 1, 4, .inl (fun _ => 0))), (q24, .inl (cy 0, 4, .inl (fun _ => 0)))]) := hD
        have hP := hP.sub (ws' := [(am 0, .inr (19, [.int 0, .ref (am 1), .ref (am 4), .ref (am 5), .ref (am 6), .ref (am 7), .ref (am 8), .int 0, .ref (am 9), .int 0, .int (-1), .int 100, .ref (am 10), .long 0, .int 0, .int 0, .int 0, .int 0, .long 0])), (am 3, .inr (15, [.int 104, .int 4, .int 0, .int 1, .int 0, .int 0, .int 99, .int (-1), .int 0, .int 0, .int (-1), .int 0, .int 0, .ref (am 11), .ref (am 12), .ref (am 13)])), (am 4, .inl (cy 9, 12, .inr (.inr (.inr (.inr (fun _ => none)))))), (am 5, .inr (4, [.int 0, .ref eda, .int 0])), (am 6, .inr (4, [.int 0, .ref eda, .int 0])), (am 7, .inr (4, [.int 0, .ref eda, .int 0])), (am 8, .inl (cy 0, 0, .inl (fun _ => 0))), (am 9, .inr (4, [.int 0, .ref eda, .int 0])), (am 10, .inl (cy 0, 16, .inl (fun _ => 0))), (am 11, .inl (cy 8, 4, .inr (.inr (.inr (.inr (fun _ => none)))))), (am 12, .inl (cy 1, 4, .inl (fun _ => 0))), (am 13, .inl (cy 0, 4, .inl (fun _ => 0))), (q22, .inl (cy 8, 4, .inr (.inr (.inr (.inr (fun _ => none)))))), (q23, .inl (cy 1, 4, .inl (fun _ => 0))), (q24, .inl (cy 0, 4, .inl (fun _ => 0))), (am 1, .inr (4, [.int 1, .ref (am 2), .int 1])), (am 2, .inl (cy 10, 10, .inr (.inr (.inr (.inr (va_up (fun _ => none) 0 (some (am 3)))))))), (q21, .inr (15, [.int q, .int a, .int b, .int o, .int z, .int b, .int 117, .int (-1), .int 0, .int 0, .int (-1), .int 0, .int 0, .ref q22, .ref q23, .ref q24]))]) [0, 3, 4, 5, 6, 7, 8, 9, 10, 11, 12, 13, 15, 16, 17, 1, 2, 14] rfl
        have hD := hD.sub (ws' := [(am 0, .inr (19, [.int 0, .ref (am 1), .ref (am 4), .ref (am 5), .ref (am 6), .ref (am 7), .ref (am 8), .int 0, .ref (am 9), .int 0, .int (-1), .int 100, .ref (am 10), .long 0, .int 0, .int 0, .int 0, .int 0, .long 0])), (am 3, .inr (15, [.int 104, .int 4, .int 0, .int 1, .int 0, .int 0, .int 99, .int (-1), .int 0, .int 0, .int (-1), .int 0, .int 0, .ref (am 11), .ref (am 12), .ref (am 13)])), (am 4, .inl (cy 9, 12, .inr (.inr (.inr (.inr (fun _ => none)))))), (am 5, .inr (4, [.int 0, .ref eda, .int 0])), (am 6, .inr (4, [.int 0, .ref eda, .int 0])), (am 7, .inr (4, [.int 0, .ref eda, .int 0])), (am 8, .inl (cy 0, 0, .inl (fun _ => 0))), (am 9, .inr (4, [.int 0, .ref eda, .int 0])), (am 10, .inl (cy 0, 16, .inl (fun _ => 0))), (am 11, .inl (cy 8, 4, .inr (.inr (.inr (.inr (fun _ => none)))))), (am 12, .inl (cy 1, 4, .inl (fun _ => 0))), (am 13, .inl (cy 0, 4, .inl (fun _ => 0))), (q22, .inl (cy 8, 4, .inr (.inr (.inr (.inr (fun _ => none)))))), (q23, .inl (cy 1, 4, .inl (fun _ => 0))), (q24, .inl (cy 0, 4, .inl (fun _ => 0))), (am 1, .inr (4, [.int 1, .ref (am 2), .int 1])), (am 2, .inl (cy 10, 10, .inr (.inr (.inr (.inr (va_up (fun _ => none) 0 (some (am 3)))))))), (q21, .inr (15, [.int q, .int a, .int b, .int o, .int z, .int b, .int 117, .int (-1), .int 0, .int 0, .int (-1), .int 0, .int 0, .ref q22, .ref q23, .ref q24]))]) [0, 3, 4, 5, 6, 7, 8, 9, 10, 11, 12, 13, 15, 16, 17, 1, 2, 14] (by decide) rfl
        refine mj_callV (wr := [(am 0, .inr (19, [.int 0, .ref (am 1), .ref (am 4), .ref (am 5), .ref (am 6), .ref (am 7), .ref (am 8), .int 0, .ref (am 9), .int 0, .int (-1), .int 100, .ref (am 10), .long 0, .int 0, .int 0, .int 0, .int 0, .long 0])), (am 3, .inr (15, [.int 104, .int 4, .int 0, .int 1, .int 0, .int 0, .int 99, .int (-1), .int 0, .int 0, .int (-1), .int 0, .int 0, .ref (am 11), .ref (am 12), .ref (am 13)])), (am 4, .inl (cy 9, 12, .inr (.inr (.inr (.inr (fun _ => none)))))), (am 5, .inr (4, [.int 0, .ref eda, .int 0])), (am 6, .inr (4, [.int 0, .ref eda, .int 0])), (am 7, .inr (4, [.int 0, .ref eda, .int 0])), (am 8, .inl (cy 0, 0, .inl (fun _ => 0))), (am 9, .inr (4, [.int 0, .ref eda, .int 0])), (am 10, .inl (cy 0, 16, .inl (fun _ => 0))), (am 11, .inl (cy 8, 4, .inr (.inr (.inr (.inr (fun _ => none)))))), (am 12, .inl (cy 1, 4, .inl (fun _ => 0))), (am 13, .inl (cy 0, 4, .inl (fun _ => 0))), (q22, .inl (cy 8, 4, .inr (.inr (.inr (.inr (fun _ => none)))))), (q23, .inl (cy 1, 4, .inl (fun _ => 0))), (q24, .inl (cy 0, 4, .inl (fun _ => 0)))]) (wc := [(am 1, .inr (4, [.int 1, .ref (am 2), .int 1])), (am 2, .inl (cy 10, 10, .inr (.inr (.inr (.inr (va_up (fun _ => none) 0 (some (am 3)))))))), (q21, .inr (15, [.int q, .int a, .int b, .int o, .int z, .int b, .int 117, .int (-1), .int 0, .int 0, .int (-1), .int 0, .int 0, .ref q22, .ref q23, .ref q24]))]) (As := [.ref q21]) (rest := []) ⟨hx, hb, hml, hown, hts⟩ (m_addm l D cy (am 1) (am 2) (am 3) q21 _ 1 ([.int q, .int a, .int b, .int o, .int z, .int b, .int 117, .int (-1), .int 0, .int 0, .int (-1), .int 0, .int 0, .ref q22, .ref q23, .ref q24]) ) (cwV 1 hts gX14_make_Jx4a65c_add_9ea2d rfl rfl rfl (by decide +kernel) ⟨by decide, by decide⟩) hK hN hP hD hS hA hJS (ci := 4) (q0 := 0) rfl rfl rfl rfl hl.1 rfl (Nat.le_of_ble_eq_true rfl) dX14_make_121 ⟨Nat.le_of_ble_eq_true rfl, Nat.le_of_ble_eq_true rfl⟩ (fun H locs hB hJ hS => ?_)
        obtain ⟨hP1, hD1⟩ := hB
        obtain ⟨hP, hD⟩ := hJ _ hP1 hD1
        have hP : va_P D vwCl ([(am 0, .inr (19, [.int 0, .ref (am 1), .ref (am 4), .ref (am 5), .ref (am 6), .ref (am 7), .ref (am 8), .int 0, .ref (am 9), .int 0, .int (-1), .int 100, .ref (am 10), .long 0, .int 0, .int 0, .int 0, .int 0, .long 0])), (am 3, .inr (15, [.int 104, .int 4, .int 0, .int 1, .int 0, .int 0, .int 99, .int (-1), .int 0, .int 0, .int (-1), .int 0, .int 0, .ref (am 11), .ref (am 12), .ref (am 13)])), (am 4, .inl (cy 9, 12, .inr (.inr (.inr (.inr (fun _ => none)))))), (am 5, .inr (4, [.int 0, .ref eda, .int 0])), (am 6, .inr (4, [.int 0, .ref eda, .int 0])), (am 7, .inr (4, [.int 0, .ref eda, .int 0])), (am 8, .inl (cy 0, 0, .inl (fun _ => 0))), (am 9, .inr (4, [.int 0, .ref eda, .int 0])), (am 10, .inl (cy 0, 16, .inl (fun _ => 0))), (am 11, .inl (cy 8, 4, .inr (.inr (.inr (.inr (fun _ => none)))))), (am 12, .inl (cy 1, 4, .inl (fun _ => 0))), (am 13, .inl (cy 0, 4, .inl (fun _ => 0))), (q22, .inl (cy 8, 4, .inr (.inr (.inr (.inr (fun _ => none)))))), (q23, .inl (cy 1, 4, .inl (fun _ => 0))), (q24, .inl (cy 0, 4, .inl (fun _ => 0))), (am 1, .inr (4, [.int 2, .ref (am 2), .int 2])), (am 2, .inl (cy 10, 10, .inr (.inr (.inr (.inr (va_up (va_up (fun _ => none) 0 (some (am 3))) 1 (some q21))))))), (q21, .inr (15, [.int q, .int a, .int b, .int o, .int z, .int b, .int 117, .int (-1), .int 0, .int 0, .int (-1), .int 0, .int 0, .ref q22, .ref q23, .ref q24]))]) H := hP
        have hD : va_D A ([(am 0, .inr (19, [.int 0, .ref (am 1), .ref (am 4), .ref (am 5), .ref (am 6), .ref (am 7), .ref (am 8), .int 0, .ref (am 9), .int 0, .int (-1), .int 100, .ref (am 10), .long 0, .int 0, .int 0, .int 0, .int 0, .long 0])), (am 3, .inr (15, [.int 104, .int 4, .int 0, .int 1, .int 0, .int 0, .int 99, .int (-1), .int 0, .int 0, .int (-1), .int 0, .int 0, .ref (am 11), .ref (am 12), .ref (am 13)])), (am 4, .inl (cy 9, 12, .inr (.inr (.inr (.inr (fun _ => none)))))), (am 5, .inr (4, [.int 0, .ref eda, .int 0])), (am 6, .inr (4, [.int 0, .ref eda, .int 0])), (am 7, .inr (4, [.int 0, .ref eda, .int 0])), (am 8, .inl (cy 0, 0, .inl (fun _ => 0))), (am 9, .inr (4, [.int 0, .ref eda, .int 0])), (am 10, .inl (cy 0, 16, .inl (fun _ => 0))), (am 11, .inl (cy 8, 4, .inr (.inr (.inr (.inr (fun _ => none)))))), (am 12, .inl (cy 1, 4, .inl (fun _ => 0))), (am 13, .inl (cy 0, 4, .inl (fun _ => 0))), (q22, .inl (cy 8, 4, .inr (.inr (.inr (.inr (fun _ => none)))))), (q23, .inl (cy 1, 4, .inl (fun _ => 0))), (q24, .inl (cy 0, 4, .inl (fun _ => 0))), (am 1, .inr (4, [.int 2, .ref (am 2), .int 2])), (am 2, .inl (cy 10, 10, .inr (.inr (.inr (.inr (va_up (va_up (fun _ => none) 0 (some (am 3))) 1 (some q21))))))), (q21, .inr (15, [.int q, .int a, .int b, .int o, .int z, .int b, .int 117, .int (-1), .int 0, .int 0, .int (-1), .int 0, .int 0, .ref q22, .ref q23, .ref q24]))]) := hD
        refine lv_pop hx hb dX14_make_124 rfl ?_
        refine lv_aload_n hx hb dX14_make_125 rfl (lv_at hl 1 rfl) ?_
        refine va_get (D := D) (ci := 19) (v := .ref (am 1)) (C := RX14) (T := TX14) (N := 19) hx hb hts iw_X14_make_RX14 hown hK hP 0 rfl rfl 1 (by decide) (hts (.fieldLink RX14 10 "HubcascadeModel" "devices" "Ljava/util/ArrayList;") (by decide +kernel)) (fun _ h9 => h9) rfl dX14_make_126 ?_
        refine ro_callV (As := []) (rest := []) ⟨hx, hb, hml, hown, hts⟩ (c_size l D cy _ 15 (am 1) (am 2) 2 2 rfl) (cwV 0 hts gX14_make_Jx4a65c_size_8abf5 rfl rfl rfl (by decide +kernel) ⟨by decide, by decide⟩) hK hN hP hS (ci := 4) (q0 := 15) rfl rfl rfl rfl hl.1 rfl (Nat.le_of_ble_eq_true rfl) dX14_make_129 ⟨Nat.le_of_ble_eq_true rfl, Nat.le_of_ble_eq_true rfl⟩ (fun H locs hP hS => ?_)
        refine lv_iconst (v := 1) hx hb dX14_make_132 (by decide) ?_
        refine lv_isub hx hb dX14_make_133 ?_
        refine lv_topi (fun y ey => ?_)
        obtain rfl : y = 1 := ey.trans (by decide)
        refine W.widen (k := 4) (n := 28) (Nat.le_of_ble_eq_true rfl) (Nat.le_of_ble_eq_true rfl) ?_
        have hP9 := hP.sub (ws' := [(am 0, .inr (19, [.int 0, .ref (am 1), .ref (am 4), .ref (am 5), .ref (am 6), .ref (am 7), .ref (am 8), .int 0, .ref (am 9), .int 0, .int (-1), .int 100, .ref (am 10), .long 0, .int 0, .int 0, .int 0, .int 0, .long 0]))]) [0] rfl
        have hD9 := hD.sub (ws' := [(am 0, .inr (19, [.int 0, .ref (am 1), .ref (am 4), .ref (am 5), .ref (am 6), .ref (am 7), .ref (am 8), .int 0, .ref (am 9), .int 0, .int (-1), .int 100, .ref (am 10), .long 0, .int 0, .int 0, .int 0, .int 0, .long 0]))]) [0] (by decide) rfl
        exact W.iret hx hb hr (fun t ht hW => ⟨rfl, ⟨by rw [ht]; exact hP9, hD9⟩, hS.F ht⟩) hS.2.2 dX14_make_134

set_option maxRecDepth 100000 in
set_option maxHeartbeats 4000000 in
theorem a_endpoint_1 (l : Launch) (D : va_G) (cy : Nat → ClassId) {ca : Nat} {ia : Nat → Nat} {am : Nat → Nat} {eda : Nat} {th : Int32} (sz : Nat) (d n o z : Int32) (hd : ¬ d = 0) : MJ l D cy eda ca ia (WM cy am eda th) sz yX14_endpoint wsX14_endpoint 3 0 0 64 [.ref (am 0), .int d, .int n, .int o, .int z] (some (.int 0)) (fun H => va_P D vwCl ([(am 0, .inr (19, [.int 1, .ref (am 1), .ref (am 4), .ref (am 5), .ref (am 6), .ref (am 7), .ref (am 8), .int 0, .ref (am 9), .int 0, .int (-1), .int 100, .ref (am 10), .long 0, .int 0, .int 0, .int 0, .int 0, .long 0]))]) H ∧ va_D (va_A (WM cy am eda th) sz) ([(am 0, .inr (19, [.int 1, .ref (am 1), .ref (am 4), .ref (am 5), .ref (am 6), .ref (am 7), .ref (am 8), .int 0, .ref (am 9), .int 0, .int (-1), .int 100, .ref (am 10), .long 0, .int 0, .int 0, .int 0, .int 0, .long 0]))])) := by
  refine ro_ofW (cc := cX14_endpoint) (maxL := 11) (ret := (some .int)) (lv := [(0, .ref (am 0)), (1, .int d), (2, .int n), (3, .int o), (4, .int z)]) (by decide) rfl (Nat.le_of_ble_eq_true rfl) rfl ?_
  intro p e s m below meth c ls hx hb hr hml hown hlocks hname hts hv hl
  have hown : s.vm.findClass RX14 = some m.cls := hown
  obtain ⟨⟨⟨hsz, hP, hD0⟩, hK, hN⟩, hJS⟩ := hv
  subst hsz
  have hD := hD0.self (sz := s.heap.size)
  generalize hAe : va_A (WM cy am eda th) s.heap.size = A at hD hJS ⊢
  have hA : ∀ q : Nat, s.heap.size ≤ q → A q := fun q h => by rw [← hAe]; exact Or.inr h
  have hS : va_S A s.heap s.heap [] := va_S.rf
  refine lv_aload_n hx hb dX14_endpoint_0 rfl (lv_at hl 0 rfl) ?_
  refine lv_iload_n hx hb dX14_endpoint_1 rfl (lv_at hl 1 rfl) ?_
  refine me_callV (wr := []) (wc := WM cy am eda th) (As := [.int d]) (rest := []) ⟨hx, hb, hml, hown, hts⟩ (m_noDeviceX l D cy  _ d hd) (cwV 1 hts gX14_endpoint_X14_noDevice rfl rfl rfl (by decide +kernel) ⟨by decide, by decide⟩) hK hN hP hD hS hA (ci := 19) (q0 := 0) rfl rfl rfl rfl hl.1 rfl (Nat.le_of_ble_eq_true rfl) dX14_endpoint_2 ⟨Nat.le_of_ble_eq_true rfl, Nat.le_of_ble_eq_true rfl⟩ (fun H locs hB hJ hS => ?_)
  obtain ⟨hP1, hD1⟩ := hB
  obtain ⟨hP, hD⟩ := hJ _ hP1 hD1
  have hP : va_P D vwCl (WM cy am eda 1) H := hP
  have hD : va_D A (WM cy am eda 1) := hD
  refine lv_if_eq (tgt := 10) hx hb dX14_endpoint_5 (by decide) (fun c => absurd c (by decide)) (fun _ => ?_)
  refine lv_iconst (v := 0) hx hb dX14_endpoint_8 (by decide) ?_
  refine W.widen (k := 0) (n := 0) (Nat.le_of_ble_eq_true rfl) (Nat.le_of_ble_eq_true rfl) ?_
  have hP9 := hP.sub (ws' := [(am 0, .inr (19, [.int 1, .ref (am 1), .ref (am 4), .ref (am 5), .ref (am 6), .ref (am 7), .ref (am 8), .int 0, .ref (am 9), .int 0, .int (-1), .int 100, .ref (am 10), .long 0, .int 0, .int 0, .int 0, .int 0, .long 0]))]) [0] rfl
  have hD9 := hD.sub (ws' := [(am 0, .inr (19, [.int 1, .ref (am 1), .ref (am 4), .ref (am 5), .ref (am 6), .ref (am 7), .ref (am 8), .int 0, .ref (am 9), .int 0, .int (-1), .int 100, .ref (am 10), .long 0, .int 0, .int 0, .int 0, .int 0, .long 0]))]) [0] (by decide) rfl
  exact W.iret hx hb hr (fun t ht hW => ⟨rfl, ⟨by rw [ht]; exact hP9, hD9⟩, hS.F ht⟩) hS.2.2 dX14_endpoint_9

theorem iw_X14_endpoint_RX14 : ∀ w ∈ u_ws RX14 TX14 19, w ∈ wsX14_endpoint := by decide +kernel
set_option maxRecDepth 100000 in
set_option maxHeartbeats 4000000 in
theorem a_endpoint_2 (l : Launch) (D : va_G) (cy : Nat → ClassId) {ca : Nat} {ia : Nat → Nat} {am : Nat → Nat} {eda : Nat} {th : Int32} (sz : Nat) (n o z : Int32) (h : ¬ ((¬ n < 1 ∧ ¬ 3 < n) ∧ (¬ z < 1 ∧ ¬ 8 < z))) : MJ l D cy eda ca ia (WM cy am eda th) sz yX14_endpoint wsX14_endpoint 3 0 0 64 [.ref (am 0), .int 0, .int n, .int o, .int z] (some (.int 0)) (fun H => va_P D vwCl ([(am 0, .inr (19, [.int 2, .ref (am 1), .ref (am 4), .ref (am 5), .ref (am 6), .ref (am 7), .ref (am 8), .int 0, .ref (am 9), .int 0, .int (-1), .int 100, .ref (am 10), .long 0, .int 0, .int 0, .int 0, .int 0, .long 0]))]) H ∧ va_D (va_A (WM cy am eda th) sz) ([(am 0, .inr (19, [.int 2, .ref (am 1), .ref (am 4), .ref (am 5), .ref (am 6), .ref (am 7), .ref (am 8), .int 0, .ref (am 9), .int 0, .int (-1), .int 100, .ref (am 10), .long 0, .int 0, .int 0, .int 0, .int 0, .long 0]))])) := by
  refine ro_ofW (cc := cX14_endpoint) (maxL := 11) (ret := (some .int)) (lv := [(0, .ref (am 0)), (1, .int 0), (2, .int n), (3, .int o), (4, .int z)]) (by decide) rfl (Nat.le_of_ble_eq_true rfl) rfl ?_
  intro p e s m below meth c ls hx hb hr hml hown hlocks hname hts hv hl
  have hown : s.vm.findClass RX14 = some m.cls := hown
  obtain ⟨⟨⟨hsz, hP, hD0⟩, hK, hN⟩, hJS⟩ := hv
  subst hsz
  have hD := hD0.self (sz := s.heap.size)
  generalize hAe : va_A (WM cy am eda th) s.heap.size = A at hD hJS ⊢
  have hA : ∀ q : Nat, s.heap.size ≤ q → A q := fun q h => by rw [← hAe]; exact Or.inr h
  have hS : va_S A s.heap s.heap [] := va_S.rf
  refine lv_aload_n hx hb dX14_endpoint_0 rfl (lv_at hl 0 rfl) ?_
  refine lv_iload_n hx hb dX14_endpoint_1 rfl (lv_at hl 1 rfl) ?_
  refine me_callV (wr := []) (wc := WM cy am eda th) (As := [.int 0]) (rest := []) ⟨hx, hb, hml, hown, hts⟩ (m_noDevice0 l D cy  _  ) (cwV 1 hts gX14_endpoint_X14_noDevice rfl rfl rfl (by decide +kernel) ⟨by decide, by decide⟩) hK hN hP hD hS hA (ci := 19) (q0 := 0) rfl rfl rfl rfl hl.1 rfl (Nat.le_of_ble_eq_true rfl) dX14_endpoint_2 ⟨Nat.le_of_ble_eq_true rfl, Nat.le_of_ble_eq_true rfl⟩ (fun H locs hB hJ hS => ?_)
  obtain ⟨hP1, hD1⟩ := hB
  obtain ⟨hP, hD⟩ := hJ _ hP1 hD1
  have hP : va_P D vwCl (WM cy am eda 0) H := hP
  have hD : va_D A (WM cy am eda 0) := hD
  refine lv_if_eq (tgt := 10) hx hb dX14_endpoint_5 (by decide) (fun _ => ?_) (fun c => absurd (by decide) c)
  refine lv_aload_n hx hb dX14_endpoint_10 rfl (lv_at hl 0 rfl) ?_
  refine va_get (D := D) (ci := 19) (v := .ref (am 1)) (C := RX14) (T := TX14) (N := 19) hx hb hts iw_X14_endpoint_RX14 hown hK hP 0 rfl rfl 1 (by decide) (hts (.fieldLink RX14 10 "HubcascadeModel" "devices" "Ljava/util/ArrayList;") (by decide +kernel)) (fun _ h9 => h9) rfl dX14_endpoint_11 ?_
  refine lv_iload_n hx hb dX14_endpoint_14 rfl (lv_at hl 1 rfl) ?_
  refine ro_callV (As := [.int 0]) (rest := []) ⟨hx, hb, hml, hown, hts⟩ (c_get0 l D cy ) (cwV 1 hts gX14_endpoint_Jx4a65c_get_915e3 rfl rfl rfl (by decide +kernel) ⟨by decide, by decide⟩) hK hN hP hS (ci := 4) (q0 := 1) rfl rfl rfl rfl hl.1 rfl (Nat.le_of_ble_eq_true rfl) dX14_endpoint_15 ⟨Nat.le_of_ble_eq_true rfl, Nat.le_of_ble_eq_true rfl⟩ (fun H locs hP hS => ?_)
  refine va_castY hx hb hown (hts (.classLink RX14 48 "HubcascadeModel$Device") (by decide +kernel)) (hN.2.2 ("HubcascadeModel$Device", "HubcascadeModel$Device") (by decide +kernel)) (va_recv hK hP (ci := 15) (q0 := 3) rfl rfl) dX14_endpoint_18 ?_
  refine lv_astore (lv' := [(5, .ref (am 3)), (0, .ref (am 0)), (1, .int 0), (2, .int n), (3, .int o), (4, .int z)]) hx hb dX14_endpoint_21 hl (by decide) rfl (fun ls hl => ?_)
  refine lv_aload_n hx hb dX14_endpoint_23 rfl (lv_at hl 1 rfl) ?_
  refine lv_iload_n hx hb dX14_endpoint_24 rfl (lv_at hl 3 rfl) ?_
  refine lv_iconst (v := 1) hx hb dX14_endpoint_25 (by decide) ?_
  refine lv_iconst (v := 3) hx hb dX14_endpoint_26 (by decide) ?_
  by_cases h1 : (¬ n < 1 ∧ ¬ 3 < n)
  · refine ro_callS (As := [.int n, .int 1, .int 3]) (rest := [.ref (am 0)]) ⟨hx, hb, hml, hown, hts⟩ (c_in_t l D cy _ _ _ _ h1.1 h1.2) (va_cwS 3 hts gX14_endpoint_X14_in rfl rfl rfl (by decide +kernel) ⟨by decide, by decide⟩) hK hN hP hS rfl hl.1 rfl (Nat.le_of_ble_eq_true rfl) dX14_endpoint_27 ⟨Nat.le_of_ble_eq_true rfl, Nat.le_of_ble_eq_true rfl⟩ (fun H locs hP hS => ?_)
    refine lv_if_eq (tgt := 44) hx hb dX14_endpoint_30 (by decide) (fun c => absurd c (by decide)) (fun _ => ?_)
    refine lv_iload hx hb dX14_endpoint_33 (lv_at hl 5 rfl) ?_
    refine lv_iconst (v := 1) hx hb dX14_endpoint_35 (by decide) ?_
    refine lv_bipush (v := 8) hx hb dX14_endpoint_36 (by decide) ?_
    by_cases h2 : (¬ z < 1 ∧ ¬ 8 < z)
    · refine ro_callS (As := [.int z, .int 1, .int 8]) (rest := [.ref (am 0)]) ⟨hx, hb, hml, hown, hts⟩ (c_in_t l D cy _ _ _ _ h2.1 h2.2) (va_cwS 3 hts gX14_endpoint_X14_in rfl rfl rfl (by decide +kernel) ⟨by decide, by decide⟩) hK hN hP hS rfl hl.1 rfl (Nat.le_of_ble_eq_true rfl) dX14_endpoint_38 ⟨Nat.le_of_ble_eq_true rfl, Nat.le_of_ble_eq_true rfl⟩ (fun H locs hP hS => ?_)
      refine lv_if_ne (tgt := 48) hx hb dX14_endpoint_41 (by decide) (fun _ => ?_) (fun c => absurd c (by decide))
      exact absurd ⟨h1, h2⟩ h
    · refine ro_callS (As := [.int z, .int 1, .int 8]) (rest := [.ref (am 0)]) ⟨hx, hb, hml, hown, hts⟩ (c_in_f l D cy _ _ _ _ (my_out h2)) (va_cwS 3 hts gX14_endpoint_X14_in rfl rfl rfl (by decide +kernel) ⟨by decide, by decide⟩) hK hN hP hS rfl hl.1 rfl (Nat.le_of_ble_eq_true rfl) dX14_endpoint_38 ⟨Nat.le_of_ble_eq_true rfl, Nat.le_of_ble_eq_true rfl⟩ (fun H locs hP hS => ?_)
      refine lv_if_ne (tgt := 48) hx hb dX14_endpoint_41 (by decide) (fun c => absurd (by decide) c) (fun _ => ?_)
      refine lv_iconst (v := 2) hx hb dX14_endpoint_44 (by decide) ?_
      refine lv_goto (tgt := 71) hx hb dX14_endpoint_45 (by decide) ?_
      refine va_put (D := D) (ci := 19) (v := .int 2) (ty := .int) (C := RX14) (T := TX14) (N := 19) hx hb hts iw_X14_endpoint_RX14 tyX14 tyX14_ok nmX14 hown hK hP hD hS 0 rfl rfl 0 (by decide) (hts (.fieldLink RX14 61 "HubcascadeModel" "thrown" "I") (by decide +kernel)) (fun _ h9 => h9) rfl (by decide +kernel) rfl rfl (Nat.le_of_ble_eq_true rfl) dX14_endpoint_71 (fun H locs hP hD hS => ?_)
      have hP : va_P D vwCl (WM cy am eda 2) H := hP
      have hD : va_D A (WM cy am eda 2) := hD
      refine lv_aload_n hx hb dX14_endpoint_74 rfl (lv_at hl 1 rfl) ?_
      refine va_get (D := D) (ci := 19) (v := .int 2) (C := RX14) (T := TX14) (N := 19) hx hb hts iw_X14_endpoint_RX14 hown hK hP 0 rfl rfl 0 (by decide) (hts (.fieldLink RX14 61 "HubcascadeModel" "thrown" "I") (by decide +kernel)) (fun _ h9 => h9) rfl dX14_endpoint_75 ?_
      refine lv_if_le (tgt := 83) hx hb dX14_endpoint_78 (by decide) (fun c => absurd c (by decide)) (fun _ => ?_)
      refine lv_iconst (v := 0) hx hb dX14_endpoint_81 (by decide) ?_
      refine W.widen (k := 0) (n := 0) (Nat.le_of_ble_eq_true rfl) (Nat.le_of_ble_eq_true rfl) ?_
      have hP9 := hP.sub (ws' := [(am 0, .inr (19, [.int 2, .ref (am 1), .ref (am 4), .ref (am 5), .ref (am 6), .ref (am 7), .ref (am 8), .int 0, .ref (am 9), .int 0, .int (-1), .int 100, .ref (am 10), .long 0, .int 0, .int 0, .int 0, .int 0, .long 0]))]) [0] rfl
      have hD9 := hD.sub (ws' := [(am 0, .inr (19, [.int 2, .ref (am 1), .ref (am 4), .ref (am 5), .ref (am 6), .ref (am 7), .ref (am 8), .int 0, .ref (am 9), .int 0, .int (-1), .int 100, .ref (am 10), .long 0, .int 0, .int 0, .int 0, .int 0, .long 0]))]) [0] (by decide) rfl
      exact W.iret hx hb hr (fun t ht hW => ⟨rfl, ⟨by rw [ht]; exact hP9, hD9⟩, hS.F ht⟩) hS.2.2 dX14_endpoint_82
  · refine ro_callS (As := [.int n, .int 1, .int 3]) (rest := [.ref (am 0)]) ⟨hx, hb, hml, hown, hts⟩ (c_in_f l D cy _ _ _ _ (my_out h1)) (va_cwS 3 hts gX14_endpoint_X14_in rfl rfl rfl (by decide +kernel) ⟨by decide, by decide⟩) hK hN hP hS rfl hl.1 rfl (Nat.le_of_ble_eq_true rfl) dX14_endpoint_27 ⟨Nat.le_of_ble_eq_true rfl, Nat.le_of_ble_eq_true rfl⟩ (fun H locs hP hS => ?_)
    refine lv_if_eq (tgt := 44) hx hb dX14_endpoint_30 (by decide) (fun _ => ?_) (fun c => absurd (by decide) c)
    refine lv_iconst (v := 2) hx hb dX14_endpoint_44 (by decide) ?_
    refine lv_goto (tgt := 71) hx hb dX14_endpoint_45 (by decide) ?_
    refine va_put (D := D) (ci := 19) (v := .int 2) (ty := .int) (C := RX14) (T := TX14) (N := 19) hx hb hts iw_X14_endpoint_RX14 tyX14 tyX14_ok nmX14 hown hK hP hD hS 0 rfl rfl 0 (by decide) (hts (.fieldLink RX14 61 "HubcascadeModel" "thrown" "I") (by decide +kernel)) (fun _ h9 => h9) rfl (by decide +kernel) rfl rfl (Nat.le_of_ble_eq_true rfl) dX14_endpoint_71 (fun H locs hP hD hS => ?_)
    have hP : va_P D vwCl (WM cy am eda 2) H := hP
    have hD : va_D A (WM cy am eda 2) := hD
    refine lv_aload_n hx hb dX14_endpoint_74 rfl (lv_at hl 1 rfl) ?_
    refine va_get (D := D) (ci := 19) (v := .int 2) (C := RX14) (T := TX14) (N := 19) hx hb hts iw_X14_endpoint_RX14 hown hK hP 0 rfl rfl 0 (by decide) (hts (.fieldLink RX14 61 "HubcascadeModel" "thrown" "I") (by decide +kernel)) (fun _ h9 => h9) rfl dX14_endpoint_75 ?_
    refine lv_if_le (tgt := 83) hx hb dX14_endpoint_78 (by decide) (fun c => absurd c (by decide)) (fun _ => ?_)
    refine lv_iconst (v := 0) hx hb dX14_endpoint_81 (by decide) ?_
    refine W.widen (k := 0) (n := 0) (Nat.le_of_ble_eq_true rfl) (Nat.le_of_ble_eq_true rfl) ?_
    have hP9 := hP.sub (ws' := [(am 0, .inr (19, [.int 2, .ref (am 1), .ref (am 4), .ref (am 5), .ref (am 6), .ref (am 7), .ref (am 8), .int 0, .ref (am 9), .int 0, .int (-1), .int 100, .ref (am 10), .long 0, .int 0, .int 0, .int 0, .int 0, .long 0]))]) [0] rfl
    have hD9 := hD.sub (ws' := [(am 0, .inr (19, [.int 2, .ref (am 1), .ref (am 4), .ref (am 5), .ref (am 6), .ref (am 7), .ref (am 8), .int 0, .ref (am 9), .int 0, .int (-1), .int 100, .ref (am 10), .long 0, .int 0, .int 0, .int 0, .int 0, .long 0]))]) [0] (by decide) rfl
    exact W.iret hx hb hr (fun t ht hW => ⟨rfl, ⟨by rw [ht]; exact hP9, hD9⟩, hS.F ht⟩) hS.2.2 dX14_endpoint_82

set_option maxRecDepth 100000 in
set_option maxHeartbeats 4000000 in
theorem a_endpoint_3 (l : Launch) (D : va_G) (cy : Nat → ClassId) {ca : Nat} {ia : Nat → Nat} {am : Nat → Nat} {eda : Nat} {th : Int32} (sz : Nat) (j : Nat) (o z : Int32) (hj : j < 3) (hz : ¬ z < 1 ∧ ¬ 8 < z) : MJ l D cy eda ca ia (WM cy am eda th) sz yX14_endpoint wsX14_endpoint 4 0 0 85 [.ref (am 0), .int 0, .int (nI (j + 1)), .int o, .int z] (some (.int 0)) (fun H => va_P D vwCl ([(am 0, .inr (19, [.int 3, .ref (am 1), .ref (am 4), .ref (am 5), .ref (am 6), .ref (am 7), .ref (am 8), .int 0, .ref (am 9), .int 0, .int (-1), .int 100, .ref (am 10), .long 0, .int 0, .int 0, .int 0, .int 0, .long 0]))]) H ∧ va_D (va_A (WM cy am eda th) sz) ([(am 0, .inr (19, [.int 3, .ref (am 1), .ref (am 4), .ref (am 5), .ref (am 6), .ref (am 7), .ref (am 8), .int 0, .ref (am 9), .int 0, .int (-1), .int 100, .ref (am 10), .long 0, .int 0, .int 0, .int 0, .int 0, .long 0]))])) := by
  refine ro_ofW (cc := cX14_endpoint) (maxL := 11) (ret := (some .int)) (lv := [(0, .ref (am 0)), (1, .int 0), (2, .int (nI (j + 1))), (3, .int o), (4, .int z)]) (by decide) rfl (Nat.le_of_ble_eq_true rfl) rfl ?_
  intro p e s m below meth c ls hx hb hr hml hown hlocks hname hts hv hl
  have hown : s.vm.findClass RX14 = some m.cls := hown
  obtain ⟨⟨⟨hsz, hP, hD0⟩, hK, hN⟩, hJS⟩ := hv
  subst hsz
  have hD := hD0.self (sz := s.heap.size)
  generalize hAe : va_A (WM cy am eda th) s.heap.size = A at hD hJS ⊢
  have hA : ∀ q : Nat, s.heap.size ≤ q → A q := fun q h => by rw [← hAe]; exact Or.inr h
  have hS : va_S A s.heap s.heap [] := va_S.rf
  refine lv_aload_n hx hb dX14_endpoint_0 rfl (lv_at hl 0 rfl) ?_
  refine lv_iload_n hx hb dX14_endpoint_1 rfl (lv_at hl 1 rfl) ?_
  refine me_callV (wr := []) (wc := WM cy am eda th) (As := [.int 0]) (rest := []) ⟨hx, hb, hml, hown, hts⟩ (m_noDevice0 l D cy  _  ) (cwV 1 hts gX14_endpoint_X14_noDevice rfl rfl rfl (by decide +kernel) ⟨by decide, by decide⟩) hK hN hP hD hS hA (ci := 19) (q0 := 0) rfl rfl rfl rfl hl.1 rfl (Nat.le_of_ble_eq_true rfl) dX14_endpoint_2 ⟨Nat.le_of_ble_eq_true rfl, Nat.le_of_ble_eq_true rfl⟩ (fun H locs hB hJ hS => ?_)
  obtain ⟨hP1, hD1⟩ := hB
  obtain ⟨hP, hD⟩ := hJ _ hP1 hD1
  have hP : va_P D vwCl (WM cy am eda 0) H := hP
  have hD : va_D A (WM cy am eda 0) := hD
  refine lv_if_eq (tgt := 10) hx hb dX14_endpoint_5 (by decide) (fun _ => ?_) (fun c => absurd (by decide) c)
  refine lv_aload_n hx hb dX14_endpoint_10 rfl (lv_at hl 0 rfl) ?_
  refine va_get (D := D) (ci := 19) (v := .ref (am 1)) (C := RX14) (T := TX14) (N := 19) hx hb hts iw_X14_endpoint_RX14 hown hK hP 0 rfl rfl 1 (by decide) (hts (.fieldLink RX14 10 "HubcascadeModel" "devices" "Ljava/util/ArrayList;") (by decide +kernel)) (fun _ h9 => h9) rfl dX14_endpoint_11 ?_
  refine lv_iload_n hx hb dX14_endpoint_14 rfl (lv_at hl 1 rfl) ?_
  refine ro_callV (As := [.int 0]) (rest := []) ⟨hx, hb, hml, hown, hts⟩ (c_get0 l D cy ) (cwV 1 hts gX14_endpoint_Jx4a65c_get_915e3 rfl rfl rfl (by decide +kernel) ⟨by decide, by decide⟩) hK hN hP hS (ci := 4) (q0 := 1) rfl rfl rfl rfl hl.1 rfl (Nat.le_of_ble_eq_true rfl) dX14_endpoint_15 ⟨Nat.le_of_ble_eq_true rfl, Nat.le_of_ble_eq_true rfl⟩ (fun H locs hP hS => ?_)
  refine va_castY hx hb hown (hts (.classLink RX14 48 "HubcascadeModel$Device") (by decide +kernel)) (hN.2.2 ("HubcascadeModel$Device", "HubcascadeModel$Device") (by decide +kernel)) (va_recv hK hP (ci := 15) (q0 := 3) rfl rfl) dX14_endpoint_18 ?_
  refine lv_astore (lv' := [(5, .ref (am 3)), (0, .ref (am 0)), (1, .int 0), (2, .int (nI (j + 1))), (3, .int o), (4, .int z)]) hx hb dX14_endpoint_21 hl (by decide) rfl (fun ls hl => ?_)
  refine lv_aload_n hx hb dX14_endpoint_23 rfl (lv_at hl 1 rfl) ?_
  refine lv_iload_n hx hb dX14_endpoint_24 rfl (lv_at hl 3 rfl) ?_
  refine lv_iconst (v := 1) hx hb dX14_endpoint_25 (by decide) ?_
  refine lv_iconst (v := 3) hx hb dX14_endpoint_26 (by decide) ?_
  refine ro_callS (As := [.int (nI (j + 1)), .int 1, .int 3]) (rest := [.ref (am 0)]) ⟨hx, hb, hml, hown, hts⟩ (c_in_t l D cy _ _ _ _ (my_lo (k := 1) (by decide) (by omega) (by omega)) (my_hi (k := 3) (by decide) (by omega) (by decide))) (va_cwS 3 hts gX14_endpoint_X14_in rfl rfl rfl (by decide +kernel) ⟨by decide, by decide⟩) hK hN hP hS rfl hl.1 rfl (Nat.le_of_ble_eq_true rfl) dX14_endpoint_27 ⟨Nat.le_of_ble_eq_true rfl, Nat.le_of_ble_eq_true rfl⟩ (fun H locs hP hS => ?_)
  refine lv_if_eq (tgt := 44) hx hb dX14_endpoint_30 (by decide) (fun c => absurd c (by decide)) (fun _ => ?_)
  refine lv_iload hx hb dX14_endpoint_33 (lv_at hl 5 rfl) ?_
  refine lv_iconst (v := 1) hx hb dX14_endpoint_35 (by decide) ?_
  refine lv_bipush (v := 8) hx hb dX14_endpoint_36 (by decide) ?_
  refine ro_callS (As := [.int z, .int 1, .int 8]) (rest := [.ref (am 0)]) ⟨hx, hb, hml, hown, hts⟩ (c_in_t l D cy _ _ _ _ hz.1 hz.2) (va_cwS 3 hts gX14_endpoint_X14_in rfl rfl rfl (by decide +kernel) ⟨by decide, by decide⟩) hK hN hP hS rfl hl.1 rfl (Nat.le_of_ble_eq_true rfl) dX14_endpoint_38 ⟨Nat.le_of_ble_eq_true rfl, Nat.le_of_ble_eq_true rfl⟩ (fun H locs hP hS => ?_)
  refine lv_if_ne (tgt := 48) hx hb dX14_endpoint_41 (by decide) (fun _ => ?_) (fun c => absurd c (by decide))
  refine lv_aload_n hx hb dX14_endpoint_48 rfl (lv_at hl 1 rfl) ?_
  refine lv_iload_n hx hb dX14_endpoint_49 rfl (lv_at hl 2 rfl) ?_
  refine ro_callV (As := [.int 0]) (rest := [.ref (am 0)]) ⟨hx, hb, hml, hown, hts⟩ (c_isPlugged0 l D cy ) (cwV 1 hts gX14_endpoint_X14_isPlugged rfl rfl rfl (by decide +kernel) ⟨by decide, by decide⟩) hK hN hP hS (ci := 19) (q0 := 0) rfl rfl rfl rfl hl.1 rfl (Nat.le_of_ble_eq_true rfl) dX14_endpoint_50 ⟨Nat.le_of_ble_eq_true rfl, Nat.le_of_ble_eq_true rfl⟩ (fun H locs hP hS => ?_)
  refine lv_if_ne (tgt := 66) hx hb dX14_endpoint_53 (by decide) (fun _ => ?_) (fun c => absurd c (by decide))
  refine lv_iconst (v := 3) hx hb dX14_endpoint_66 (by decide) ?_
  refine lv_goto (tgt := 71) hx hb dX14_endpoint_67 (by decide) ?_
  refine va_put (D := D) (ci := 19) (v := .int 3) (ty := .int) (C := RX14) (T := TX14) (N := 19) hx hb hts iw_X14_endpoint_RX14 tyX14 tyX14_ok nmX14 hown hK hP hD hS 0 rfl rfl 0 (by decide) (hts (.fieldLink RX14 61 "HubcascadeModel" "thrown" "I") (by decide +kernel)) (fun _ h9 => h9) rfl (by decide +kernel) rfl rfl (Nat.le_of_ble_eq_true rfl) dX14_endpoint_71 (fun H locs hP hD hS => ?_)
  have hP : va_P D vwCl (WM cy am eda 3) H := hP
  have hD : va_D A (WM cy am eda 3) := hD
  refine lv_aload_n hx hb dX14_endpoint_74 rfl (lv_at hl 1 rfl) ?_
  refine va_get (D := D) (ci := 19) (v := .int 3) (C := RX14) (T := TX14) (N := 19) hx hb hts iw_X14_endpoint_RX14 hown hK hP 0 rfl rfl 0 (by decide) (hts (.fieldLink RX14 61 "HubcascadeModel" "thrown" "I") (by decide +kernel)) (fun _ h9 => h9) rfl dX14_endpoint_75 ?_
  refine lv_if_le (tgt := 83) hx hb dX14_endpoint_78 (by decide) (fun c => absurd c (by decide)) (fun _ => ?_)
  refine lv_iconst (v := 0) hx hb dX14_endpoint_81 (by decide) ?_
  refine W.widen (k := 0) (n := 0) (Nat.le_of_ble_eq_true rfl) (Nat.le_of_ble_eq_true rfl) ?_
  have hP9 := hP.sub (ws' := [(am 0, .inr (19, [.int 3, .ref (am 1), .ref (am 4), .ref (am 5), .ref (am 6), .ref (am 7), .ref (am 8), .int 0, .ref (am 9), .int 0, .int (-1), .int 100, .ref (am 10), .long 0, .int 0, .int 0, .int 0, .int 0, .long 0]))]) [0] rfl
  have hD9 := hD.sub (ws' := [(am 0, .inr (19, [.int 3, .ref (am 1), .ref (am 4), .ref (am 5), .ref (am 6), .ref (am 7), .ref (am 8), .int 0, .ref (am 9), .int 0, .int (-1), .int 100, .ref (am 10), .long 0, .int 0, .int 0, .int 0, .int 0, .long 0]))]) [0] (by decide) rfl
  exact W.iret hx hb hr (fun t ht hW => ⟨rfl, ⟨by rw [ht]; exact hP9, hD9⟩, hS.F ht⟩) hS.2.2 dX14_endpoint_82

theorem iw_X14_plug_RX14 : ∀ w ∈ u_ws RX14 TX14 19, w ∈ wsX14_plug := by decide +kernel
set_option maxRecDepth 100000 in
set_option maxHeartbeats 4000000 in
theorem a_plug_1a (l : Launch) (D : va_G) (cy : Nat → ClassId) {ca : Nat} {ia : Nat → Nat} {am : Nat → Nat} {eda : Nat} {th : Int32} (sz : Nat) (d n z : Int32) (hd : ¬ d = 0) : MJ l D cy eda ca ia (WM cy am eda th) sz yX14_plug wsX14_plug 2 0 0 43 [.ref (am 0), .int d, .int n, .int z] (some (.int 0)) (fun H => va_P D vwCl ([(am 0, .inr (19, [.int 1, .ref (am 1), .ref (am 4), .ref (am 5), .ref (am 6), .ref (am 7), .ref (am 8), .int 0, .ref (am 9), .int 0, .int (-1), .int 100, .ref (am 10), .long 0, .int 0, .int 0, .int 0, .int 0, .long 0]))]) H ∧ va_D (va_A (WM cy am eda th) sz) ([(am 0, .inr (19, [.int 1, .ref (am 1), .ref (am 4), .ref (am 5), .ref (am 6), .ref (am 7), .ref (am 8), .int 0, .ref (am 9), .int 0, .int (-1), .int 100, .ref (am 10), .long 0, .int 0, .int 0, .int 0, .int 0, .long 0]))])) := by
  refine ro_ofW (cc := cX14_plug) (maxL := 8) (ret := (some .int)) (lv := [(0, .ref (am 0)), (1, .int d), (2, .int n), (3, .int z)]) (by decide) rfl (Nat.le_of_ble_eq_true rfl) rfl ?_
  intro p e s m below meth c ls hx hb hr hml hown hlocks hname hts hv hl
  have hown : s.vm.findClass RX14 = some m.cls := hown
  obtain ⟨⟨⟨hsz, hP, hD0⟩, hK, hN⟩, hJS⟩ := hv
  subst hsz
  have hD := hD0.self (sz := s.heap.size)
  generalize hAe : va_A (WM cy am eda th) s.heap.size = A at hD hJS ⊢
  have hA : ∀ q : Nat, s.heap.size ≤ q → A q := fun q h => by rw [← hAe]; exact Or.inr h
  have hS : va_S A s.heap s.heap [] := va_S.rf
  refine lv_aload_n hx hb dX14_plug_0 rfl (lv_at hl 0 rfl) ?_
  refine lv_aload_n hx hb dX14_plug_1 rfl (lv_at hl 0 rfl) ?_
  refine lv_iload_n hx hb dX14_plug_2 rfl (lv_at hl 1 rfl) ?_
  refine ro_callV (As := [.int d]) (rest := [.ref (am 0)]) ⟨hx, hb, hml, hown, hts⟩ (c_isDeviceX l D cy d hd) (cwV 1 hts gX14_plug_X14_isDevice rfl rfl rfl (by decide +kernel) ⟨by decide, by decide⟩) hK hN hP hS (ci := 19) (q0 := 0) rfl rfl rfl rfl hl.1 rfl (Nat.le_of_ble_eq_true rfl) dX14_plug_3 ⟨Nat.le_of_ble_eq_true rfl, Nat.le_of_ble_eq_true rfl⟩ (fun H locs hP hS => ?_)
  refine lv_if_eq (tgt := 41) hx hb dX14_plug_6 (by decide) (fun _ => ?_) (fun c => absurd (by decide) c)
  refine lv_iconst (v := 1) hx hb dX14_plug_41 (by decide) ?_
  refine lv_goto (tgt := 46) hx hb dX14_plug_42 (by decide) ?_
  refine va_put (D := D) (ci := 19) (v := .int 1) (ty := .int) (C := RX14) (T := TX14) (N := 19) hx hb hts iw_X14_plug_RX14 tyX14 tyX14_ok nmX14 hown hK hP hD hS 0 rfl rfl 0 (by decide) (hts (.fieldLink RX14 61 "HubcascadeModel" "thrown" "I") (by decide +kernel)) (fun _ h9 => h9) rfl (by decide +kernel) rfl rfl (Nat.le_of_ble_eq_true rfl) dX14_plug_46 (fun H locs hP hD hS => ?_)
  have hP : va_P D vwCl (WM cy am eda 1) H := hP
  have hD : va_D A (WM cy am eda 1) := hD
  refine lv_aload_n hx hb dX14_plug_49 rfl (lv_at hl 0 rfl) ?_
  refine va_get (D := D) (ci := 19) (v := .int 1) (C := RX14) (T := TX14) (N := 19) hx hb hts iw_X14_plug_RX14 hown hK hP 0 rfl rfl 0 (by decide) (hts (.fieldLink RX14 61 "HubcascadeModel" "thrown" "I") (by decide +kernel)) (fun _ h9 => h9) rfl dX14_plug_50 ?_
  refine lv_if_le (tgt := 58) hx hb dX14_plug_53 (by decide) (fun c => absurd c (by decide)) (fun _ => ?_)
  refine lv_iconst (v := 0) hx hb dX14_plug_56 (by decide) ?_
  refine W.widen (k := 0) (n := 0) (Nat.le_of_ble_eq_true rfl) (Nat.le_of_ble_eq_true rfl) ?_
  have hP9 := hP.sub (ws' := [(am 0, .inr (19, [.int 1, .ref (am 1), .ref (am 4), .ref (am 5), .ref (am 6), .ref (am 7), .ref (am 8), .int 0, .ref (am 9), .int 0, .int (-1), .int 100, .ref (am 10), .long 0, .int 0, .int 0, .int 0, .int 0, .long 0]))]) [0] rfl
  have hD9 := hD.sub (ws' := [(am 0, .inr (19, [.int 1, .ref (am 1), .ref (am 4), .ref (am 5), .ref (am 6), .ref (am 7), .ref (am 8), .int 0, .ref (am 9), .int 0, .int (-1), .int 100, .ref (am 10), .long 0, .int 0, .int 0, .int 0, .int 0, .long 0]))]) [0] (by decide) rfl
  exact W.iret hx hb hr (fun t ht hW => ⟨rfl, ⟨by rw [ht]; exact hP9, hD9⟩, hS.F ht⟩) hS.2.2 dX14_plug_57

set_option maxRecDepth 100000 in
set_option maxHeartbeats 4000000 in
theorem a_plug_1b (l : Launch) (D : va_G) (cy : Nat → ClassId) {ca : Nat} {ia : Nat → Nat} {am : Nat → Nat} {eda : Nat} {th : Int32} (sz : Nat) (d z : Int32) (hd : ¬ d = 0) : MJ l D cy eda ca ia (WM cy am eda th) sz yX14_plug wsX14_plug 2 0 0 43 [.ref (am 0), .int 0, .int d, .int z] (some (.int 0)) (fun H => va_P D vwCl ([(am 0, .inr (19, [.int 1, .ref (am 1), .ref (am 4), .ref (am 5), .ref (am 6), .ref (am 7), .ref (am 8), .int 0, .ref (am 9), .int 0, .int (-1), .int 100, .ref (am 10), .long 0, .int 0, .int 0, .int 0, .int 0, .long 0]))]) H ∧ va_D (va_A (WM cy am eda th) sz) ([(am 0, .inr (19, [.int 1, .ref (am 1), .ref (am 4), .ref (am 5), .ref (am 6), .ref (am 7), .ref (am 8), .int 0, .ref (am 9), .int 0, .int (-1), .int 100, .ref (am 10), .long 0, .int 0, .int 0, .int 0, .int 0, .long 0]))])) := by
  refine ro_ofW (cc := cX14_plug) (maxL := 8) (ret := (some .int)) (lv := [(0, .ref (am 0)), (1, .int 0), (2, .int d), (3, .int z)]) (by decide) rfl (Nat.le_of_ble_eq_true rfl) rfl ?_
  intro p e s m below meth c ls hx hb hr hml hown hlocks hname hts hv hl
  have hown : s.vm.findClass RX14 = some m.cls := hown
  obtain ⟨⟨⟨hsz, hP, hD0⟩, hK, hN⟩, hJS⟩ := hv
  subst hsz
  have hD := hD0.self (sz := s.heap.size)
  generalize hAe : va_A (WM cy am eda th) s.heap.size = A at hD hJS ⊢
  have hA : ∀ q : Nat, s.heap.size ≤ q → A q := fun q h => by rw [← hAe]; exact Or.inr h
  have hS : va_S A s.heap s.heap [] := va_S.rf
  refine lv_aload_n hx hb dX14_plug_0 rfl (lv_at hl 0 rfl) ?_
  refine lv_aload_n hx hb dX14_plug_1 rfl (lv_at hl 0 rfl) ?_
  refine lv_iload_n hx hb dX14_plug_2 rfl (lv_at hl 1 rfl) ?_
  refine ro_callV (As := [.int 0]) (rest := [.ref (am 0)]) ⟨hx, hb, hml, hown, hts⟩ (c_isDevice0 l D cy ) (cwV 1 hts gX14_plug_X14_isDevice rfl rfl rfl (by decide +kernel) ⟨by decide, by decide⟩) hK hN hP hS (ci := 19) (q0 := 0) rfl rfl rfl rfl hl.1 rfl (Nat.le_of_ble_eq_true rfl) dX14_plug_3 ⟨Nat.le_of_ble_eq_true rfl, Nat.le_of_ble_eq_true rfl⟩ (fun H locs hP hS => ?_)
  refine lv_if_eq (tgt := 41) hx hb dX14_plug_6 (by decide) (fun c => absurd c (by decide)) (fun _ => ?_)
  refine lv_aload_n hx hb dX14_plug_9 rfl (lv_at hl 0 rfl) ?_
  refine lv_iload_n hx hb dX14_plug_10 rfl (lv_at hl 2 rfl) ?_
  refine ro_callV (As := [.int d]) (rest := [.ref (am 0)]) ⟨hx, hb, hml, hown, hts⟩ (c_isDeviceX l D cy d hd) (cwV 1 hts gX14_plug_X14_isDevice rfl rfl rfl (by decide +kernel) ⟨by decide, by decide⟩) hK hN hP hS (ci := 19) (q0 := 0) rfl rfl rfl rfl hl.1 rfl (Nat.le_of_ble_eq_true rfl) dX14_plug_11 ⟨Nat.le_of_ble_eq_true rfl, Nat.le_of_ble_eq_true rfl⟩ (fun H locs hP hS => ?_)
  refine lv_if_eq (tgt := 41) hx hb dX14_plug_14 (by decide) (fun _ => ?_) (fun c => absurd (by decide) c)
  refine lv_iconst (v := 1) hx hb dX14_plug_41 (by decide) ?_
  refine lv_goto (tgt := 46) hx hb dX14_plug_42 (by decide) ?_
  refine va_put (D := D) (ci := 19) (v := .int 1) (ty := .int) (C := RX14) (T := TX14) (N := 19) hx hb hts iw_X14_plug_RX14 tyX14 tyX14_ok nmX14 hown hK hP hD hS 0 rfl rfl 0 (by decide) (hts (.fieldLink RX14 61 "HubcascadeModel" "thrown" "I") (by decide +kernel)) (fun _ h9 => h9) rfl (by decide +kernel) rfl rfl (Nat.le_of_ble_eq_true rfl) dX14_plug_46 (fun H locs hP hD hS => ?_)
  have hP : va_P D vwCl (WM cy am eda 1) H := hP
  have hD : va_D A (WM cy am eda 1) := hD
  refine lv_aload_n hx hb dX14_plug_49 rfl (lv_at hl 0 rfl) ?_
  refine va_get (D := D) (ci := 19) (v := .int 1) (C := RX14) (T := TX14) (N := 19) hx hb hts iw_X14_plug_RX14 hown hK hP 0 rfl rfl 0 (by decide) (hts (.fieldLink RX14 61 "HubcascadeModel" "thrown" "I") (by decide +kernel)) (fun _ h9 => h9) rfl dX14_plug_50 ?_
  refine lv_if_le (tgt := 58) hx hb dX14_plug_53 (by decide) (fun c => absurd c (by decide)) (fun _ => ?_)
  refine lv_iconst (v := 0) hx hb dX14_plug_56 (by decide) ?_
  refine W.widen (k := 0) (n := 0) (Nat.le_of_ble_eq_true rfl) (Nat.le_of_ble_eq_true rfl) ?_
  have hP9 := hP.sub (ws' := [(am 0, .inr (19, [.int 1, .ref (am 1), .ref (am 4), .ref (am 5), .ref (am 6), .ref (am 7), .ref (am 8), .int 0, .ref (am 9), .int 0, .int (-1), .int 100, .ref (am 10), .long 0, .int 0, .int 0, .int 0, .int 0, .long 0]))]) [0] rfl
  have hD9 := hD.sub (ws' := [(am 0, .inr (19, [.int 1, .ref (am 1), .ref (am 4), .ref (am 5), .ref (am 6), .ref (am 7), .ref (am 8), .int 0, .ref (am 9), .int 0, .int (-1), .int 100, .ref (am 10), .long 0, .int 0, .int 0, .int 0, .int 0, .long 0]))]) [0] (by decide) rfl
  exact W.iret hx hb hr (fun t ht hW => ⟨rfl, ⟨by rw [ht]; exact hP9, hD9⟩, hS.F ht⟩) hS.2.2 dX14_plug_57

theorem iw_X14_plug_RX10 : ∀ w ∈ u_ws RX10 TX10 16, w ∈ wsX14_plug := by decide +kernel
set_option maxRecDepth 100000 in
set_option maxHeartbeats 4000000 in
theorem a_plug_1c (l : Launch) (D : va_G) (cy : Nat → ClassId) {ca : Nat} {ia : Nat → Nat} {am : Nat → Nat} {eda : Nat} {th : Int32} (sz : Nat) (z : Int32) (h : z < 0 ∨ 4 ≤ z) : MJ l D cy eda ca ia (WM cy am eda th) sz yX14_plug wsX14_plug 3 0 0 64 [.ref (am 0), .int 0, .int 0, .int z] (some (.int 0)) (fun H => va_P D vwCl ([(am 0, .inr (19, [.int 1, .ref (am 1), .ref (am 4), .ref (am 5), .ref (am 6), .ref (am 7), .ref (am 8), .int 0, .ref (am 9), .int 0, .int (-1), .int 100, .ref (am 10), .long 0, .int 0, .int 0, .int 0, .int 0, .long 0]))]) H ∧ va_D (va_A (WM cy am eda th) sz) ([(am 0, .inr (19, [.int 1, .ref (am 1), .ref (am 4), .ref (am 5), .ref (am 6), .ref (am 7), .ref (am 8), .int 0, .ref (am 9), .int 0, .int (-1), .int 100, .ref (am 10), .long 0, .int 0, .int 0, .int 0, .int 0, .long 0]))])) := by
  refine ro_ofW (cc := cX14_plug) (maxL := 8) (ret := (some .int)) (lv := [(0, .ref (am 0)), (1, .int 0), (2, .int 0), (3, .int z)]) (by decide) rfl (Nat.le_of_ble_eq_true rfl) rfl ?_
  intro p e s m below meth c ls hx hb hr hml hown hlocks hname hts hv hl
  have hown : s.vm.findClass RX14 = some m.cls := hown
  obtain ⟨⟨⟨hsz, hP, hD0⟩, hK, hN⟩, hJS⟩ := hv
  subst hsz
  have hD := hD0.self (sz := s.heap.size)
  generalize hAe : va_A (WM cy am eda th) s.heap.size = A at hD hJS ⊢
  have hA : ∀ q : Nat, s.heap.size ≤ q → A q := fun q h => by rw [← hAe]; exact Or.inr h
  have hS : va_S A s.heap s.heap [] := va_S.rf
  refine lv_aload_n hx hb dX14_plug_0 rfl (lv_at hl 0 rfl) ?_
  refine lv_aload_n hx hb dX14_plug_1 rfl (lv_at hl 0 rfl) ?_
  refine lv_iload_n hx hb dX14_plug_2 rfl (lv_at hl 1 rfl) ?_
  refine ro_callV (As := [.int 0]) (rest := [.ref (am 0)]) ⟨hx, hb, hml, hown, hts⟩ (c_isDevice0 l D cy ) (cwV 1 hts gX14_plug_X14_isDevice rfl rfl rfl (by decide +kernel) ⟨by decide, by decide⟩) hK hN hP hS (ci := 19) (q0 := 0) rfl rfl rfl rfl hl.1 rfl (Nat.le_of_ble_eq_true rfl) dX14_plug_3 ⟨Nat.le_of_ble_eq_true rfl, Nat.le_of_ble_eq_true rfl⟩ (fun H locs hP hS => ?_)
  refine lv_if_eq (tgt := 41) hx hb dX14_plug_6 (by decide) (fun c => absurd c (by decide)) (fun _ => ?_)
  refine lv_aload_n hx hb dX14_plug_9 rfl (lv_at hl 0 rfl) ?_
  refine lv_iload_n hx hb dX14_plug_10 rfl (lv_at hl 2 rfl) ?_
  refine ro_callV (As := [.int 0]) (rest := [.ref (am 0)]) ⟨hx, hb, hml, hown, hts⟩ (c_isDevice0 l D cy ) (cwV 1 hts gX14_plug_X14_isDevice rfl rfl rfl (by decide +kernel) ⟨by decide, by decide⟩) hK hN hP hS (ci := 19) (q0 := 0) rfl rfl rfl rfl hl.1 rfl (Nat.le_of_ble_eq_true rfl) dX14_plug_11 ⟨Nat.le_of_ble_eq_true rfl, Nat.le_of_ble_eq_true rfl⟩ (fun H locs hP hS => ?_)
  refine lv_if_eq (tgt := 41) hx hb dX14_plug_14 (by decide) (fun c => absurd c (by decide)) (fun _ => ?_)
  refine lv_iload_n hx hb dX14_plug_17 rfl (lv_at hl 3 rfl) ?_
  refine lv_iconst (v := 0) hx hb dX14_plug_18 (by decide) ?_
  refine lv_aload_n hx hb dX14_plug_19 rfl (lv_at hl 0 rfl) ?_
  refine va_get (D := D) (ci := 19) (v := .ref (am 1)) (C := RX14) (T := TX14) (N := 19) hx hb hts iw_X14_plug_RX14 hown hK hP 0 rfl rfl 1 (by decide) (hts (.fieldLink RX14 10 "HubcascadeModel" "devices" "Ljava/util/ArrayList;") (by decide +kernel)) (fun _ h9 => h9) rfl dX14_plug_20 ?_
  refine lv_iload_n hx hb dX14_plug_23 rfl (lv_at hl 2 rfl) ?_
  refine ro_callV (As := [.int 0]) (rest := [.int 0, .int z, .ref (am 0)]) ⟨hx, hb, hml, hown, hts⟩ (c_get0 l D cy ) (cwV 1 hts gX14_plug_Jx4a65c_get_915e3 rfl rfl rfl (by decide +kernel) ⟨by decide, by decide⟩) hK hN hP hS (ci := 4) (q0 := 1) rfl rfl rfl rfl hl.1 rfl (Nat.le_of_ble_eq_true rfl) dX14_plug_24 ⟨Nat.le_of_ble_eq_true rfl, Nat.le_of_ble_eq_true rfl⟩ (fun H locs hP hS => ?_)
  refine va_castY hx hb hown (hts (.classLink RX14 48 "HubcascadeModel$Device") (by decide +kernel)) (hN.2.2 ("HubcascadeModel$Device", "HubcascadeModel$Device") (by decide +kernel)) (va_recv hK hP (ci := 15) (q0 := 3) rfl rfl) dX14_plug_27 ?_
  refine va_getN (D := D) (ci := 15) (v := .int 4) (C := RX10) (T := TX10) (N := 16) hx hb hts iw_X14_plug_RX10 hown hK hP 3 rfl rfl 1 (by decide) (va_Nw.use rfl (hN.1 _ nf_78)) (fun _ h9 => h9) rfl dX14_plug_30 ?_
  refine lv_iconst (v := 1) hx hb dX14_plug_33 (by decide) ?_
  refine lv_isub hx hb dX14_plug_34 ?_
  refine lv_topi (fun y ey => ?_)
  obtain rfl : y = 3 := ey.trans (by decide)
  refine ro_callS (As := [.int z, .int 0, .int 3]) (rest := [.ref (am 0)]) ⟨hx, hb, hml, hown, hts⟩ (c_in_f l D cy _ _ _ _ (h.imp id my_4le)) (va_cwS 3 hts gX14_plug_X14_in rfl rfl rfl (by decide +kernel) ⟨by decide, by decide⟩) hK hN hP hS rfl hl.1 rfl (Nat.le_of_ble_eq_true rfl) dX14_plug_35 ⟨Nat.le_of_ble_eq_true rfl, Nat.le_of_ble_eq_true rfl⟩ (fun H locs hP hS => ?_)
  refine lv_if_ne (tgt := 45) hx hb dX14_plug_38 (by decide) (fun c => absurd (by decide) c) (fun _ => ?_)
  refine lv_iconst (v := 1) hx hb dX14_plug_41 (by decide) ?_
  refine lv_goto (tgt := 46) hx hb dX14_plug_42 (by decide) ?_
  refine va_put (D := D) (ci := 19) (v := .int 1) (ty := .int) (C := RX14) (T := TX14) (N := 19) hx hb hts iw_X14_plug_RX14 tyX14 tyX14_ok nmX14 hown hK hP hD hS 0 rfl rfl 0 (by decide) (hts (.fieldLink RX14 61 "HubcascadeModel" "thrown" "I") (by decide +kernel)) (fun _ h9 => h9) rfl (by decide +kernel) rfl rfl (Nat.le_of_ble_eq_true rfl) dX14_plug_46 (fun H locs hP hD hS => ?_)
  have hP : va_P D vwCl (WM cy am eda 1) H := hP
  have hD : va_D A (WM cy am eda 1) := hD
  refine lv_aload_n hx hb dX14_plug_49 rfl (lv_at hl 0 rfl) ?_
  refine va_get (D := D) (ci := 19) (v := .int 1) (C := RX14) (T := TX14) (N := 19) hx hb hts iw_X14_plug_RX14 hown hK hP 0 rfl rfl 0 (by decide) (hts (.fieldLink RX14 61 "HubcascadeModel" "thrown" "I") (by decide +kernel)) (fun _ h9 => h9) rfl dX14_plug_50 ?_
  refine lv_if_le (tgt := 58) hx hb dX14_plug_53 (by decide) (fun c => absurd c (by decide)) (fun _ => ?_)
  refine lv_iconst (v := 0) hx hb dX14_plug_56 (by decide) ?_
  refine W.widen (k := 0) (n := 0) (Nat.le_of_ble_eq_true rfl) (Nat.le_of_ble_eq_true rfl) ?_
  have hP9 := hP.sub (ws' := [(am 0, .inr (19, [.int 1, .ref (am 1), .ref (am 4), .ref (am 5), .ref (am 6), .ref (am 7), .ref (am 8), .int 0, .ref (am 9), .int 0, .int (-1), .int 100, .ref (am 10), .long 0, .int 0, .int 0, .int 0, .int 0, .long 0]))]) [0] rfl
  have hD9 := hD.sub (ws' := [(am 0, .inr (19, [.int 1, .ref (am 1), .ref (am 4), .ref (am 5), .ref (am 6), .ref (am 7), .ref (am 8), .int 0, .ref (am 9), .int 0, .int (-1), .int 100, .ref (am 10), .long 0, .int 0, .int 0, .int 0, .int 0, .long 0]))]) [0] (by decide) rfl
  exact W.iret hx hb hr (fun t ht hW => ⟨rfl, ⟨by rw [ht]; exact hP9, hD9⟩, hS.F ht⟩) hS.2.2 dX14_plug_57

set_option maxRecDepth 100000 in
set_option maxHeartbeats 4000000 in
theorem a_plug_2 (l : Launch) (D : va_G) (cy : Nat → ClassId) {ca : Nat} {ia : Nat → Nat} {am : Nat → Nat} {eda : Nat} {th : Int32} (sz : Nat) (z : Int32) (h1 : ¬ z < 0) (h2 : z < 4) : MJ l D cy eda ca ia (WM cy am eda th) sz yX14_plug wsX14_plug 4 1 4 85 [.ref (am 0), .int 0, .int 0, .int z] (some (.int 0)) (fun H => va_P D vwCl ([(am 0, .inr (19, [.int 2, .ref (am 1), .ref (am 4), .ref (am 5), .ref (am 6), .ref (am 7), .ref (am 8), .int 0, .ref (am 9), .int 0, .int (-1), .int 100, .ref (am 10), .long 0, .int 0, .int 0, .int 0, .int 0, .long 0]))]) H ∧ va_D (va_A (WM cy am eda th) sz) ([(am 0, .inr (19, [.int 2, .ref (am 1), .ref (am 4), .ref (am 5), .ref (am 6), .ref (am 7), .ref (am 8), .int 0, .ref (am 9), .int 0, .int (-1), .int 100, .ref (am 10), .long 0, .int 0, .int 0, .int 0, .int 0, .long 0]))])) := by
  refine ro_ofW (cc := cX14_plug) (maxL := 8) (ret := (some .int)) (lv := [(0, .ref (am 0)), (1, .int 0), (2, .int 0), (3, .int z)]) (by decide) rfl (Nat.le_of_ble_eq_true rfl) rfl ?_
  intro p e s m below meth c ls hx hb hr hml hown hlocks hname hts hv hl
  have hown : s.vm.findClass RX14 = some m.cls := hown
  obtain ⟨⟨⟨hsz, hP, hD0⟩, hK, hN⟩, hJS⟩ := hv
  subst hsz
  have hD := hD0.self (sz := s.heap.size)
  generalize hAe : va_A (WM cy am eda th) s.heap.size = A at hD hJS ⊢
  have hA : ∀ q : Nat, s.heap.size ≤ q → A q := fun q h => by rw [← hAe]; exact Or.inr h
  have hS : va_S A s.heap s.heap [] := va_S.rf
  refine lv_aload_n hx hb dX14_plug_0 rfl (lv_at hl 0 rfl) ?_
  refine lv_aload_n hx hb dX14_plug_1 rfl (lv_at hl 0 rfl) ?_
  refine lv_iload_n hx hb dX14_plug_2 rfl (lv_at hl 1 rfl) ?_
  refine ro_callV (As := [.int 0]) (rest := [.ref (am 0)]) ⟨hx, hb, hml, hown, hts⟩ (c_isDevice0 l D cy ) (cwV 1 hts gX14_plug_X14_isDevice rfl rfl rfl (by decide +kernel) ⟨by decide, by decide⟩) hK hN hP hS (ci := 19) (q0 := 0) rfl rfl rfl rfl hl.1 rfl (Nat.le_of_ble_eq_true rfl) dX14_plug_3 ⟨Nat.le_of_ble_eq_true rfl, Nat.le_of_ble_eq_true rfl⟩ (fun H locs hP hS => ?_)
  refine lv_if_eq (tgt := 41) hx hb dX14_plug_6 (by decide) (fun c => absurd c (by decide)) (fun _ => ?_)
  refine lv_aload_n hx hb dX14_plug_9 rfl (lv_at hl 0 rfl) ?_
  refine lv_iload_n hx hb dX14_plug_10 rfl (lv_at hl 2 rfl) ?_
  refine ro_callV (As := [.int 0]) (rest := [.ref (am 0)]) ⟨hx, hb, hml, hown, hts⟩ (c_isDevice0 l D cy ) (cwV 1 hts gX14_plug_X14_isDevice rfl rfl rfl (by decide +kernel) ⟨by decide, by decide⟩) hK hN hP hS (ci := 19) (q0 := 0) rfl rfl rfl rfl hl.1 rfl (Nat.le_of_ble_eq_true rfl) dX14_plug_11 ⟨Nat.le_of_ble_eq_true rfl, Nat.le_of_ble_eq_true rfl⟩ (fun H locs hP hS => ?_)
  refine lv_if_eq (tgt := 41) hx hb dX14_plug_14 (by decide) (fun c => absurd c (by decide)) (fun _ => ?_)
  refine lv_iload_n hx hb dX14_plug_17 rfl (lv_at hl 3 rfl) ?_
  refine lv_iconst (v := 0) hx hb dX14_plug_18 (by decide) ?_
  refine lv_aload_n hx hb dX14_plug_19 rfl (lv_at hl 0 rfl) ?_
  refine va_get (D := D) (ci := 19) (v := .ref (am 1)) (C := RX14) (T := TX14) (N := 19) hx hb hts iw_X14_plug_RX14 hown hK hP 0 rfl rfl 1 (by decide) (hts (.fieldLink RX14 10 "HubcascadeModel" "devices" "Ljava/util/ArrayList;") (by decide +kernel)) (fun _ h9 => h9) rfl dX14_plug_20 ?_
  refine lv_iload_n hx hb dX14_plug_23 rfl (lv_at hl 2 rfl) ?_
  refine ro_callV (As := [.int 0]) (rest := [.int 0, .int z, .ref (am 0)]) ⟨hx, hb, hml, hown, hts⟩ (c_get0 l D cy ) (cwV 1 hts gX14_plug_Jx4a65c_get_915e3 rfl rfl rfl (by decide +kernel) ⟨by decide, by decide⟩) hK hN hP hS (ci := 4) (q0 := 1) rfl rfl rfl rfl hl.1 rfl (Nat.le_of_ble_eq_true rfl) dX14_plug_24 ⟨Nat.le_of_ble_eq_true rfl, Nat.le_of_ble_eq_true rfl⟩ (fun H locs hP hS => ?_)
  refine va_castY hx hb hown (hts (.classLink RX14 48 "HubcascadeModel$Device") (by decide +kernel)) (hN.2.2 ("HubcascadeModel$Device", "HubcascadeModel$Device") (by decide +kernel)) (va_recv hK hP (ci := 15) (q0 := 3) rfl rfl) dX14_plug_27 ?_
  refine va_getN (D := D) (ci := 15) (v := .int 4) (C := RX10) (T := TX10) (N := 16) hx hb hts iw_X14_plug_RX10 hown hK hP 3 rfl rfl 1 (by decide) (va_Nw.use rfl (hN.1 _ nf_78)) (fun _ h9 => h9) rfl dX14_plug_30 ?_
  refine lv_iconst (v := 1) hx hb dX14_plug_33 (by decide) ?_
  refine lv_isub hx hb dX14_plug_34 ?_
  refine lv_topi (fun y ey => ?_)
  obtain rfl : y = 3 := ey.trans (by decide)
  refine ro_callS (As := [.int z, .int 0, .int 3]) (rest := [.ref (am 0)]) ⟨hx, hb, hml, hown, hts⟩ (c_in_t l D cy _ _ _ _ h1 (my_lt4 h2)) (va_cwS 3 hts gX14_plug_X14_in rfl rfl rfl (by decide +kernel) ⟨by decide, by decide⟩) hK hN hP hS rfl hl.1 rfl (Nat.le_of_ble_eq_true rfl) dX14_plug_35 ⟨Nat.le_of_ble_eq_true rfl, Nat.le_of_ble_eq_true rfl⟩ (fun H locs hP hS => ?_)
  refine lv_if_ne (tgt := 45) hx hb dX14_plug_38 (by decide) (fun _ => ?_) (fun c => absurd c (by decide))
  refine lv_iconst (v := 0) hx hb dX14_plug_45 (by decide) ?_
  refine va_put (D := D) (ci := 19) (v := .int 0) (ty := .int) (C := RX14) (T := TX14) (N := 19) hx hb hts iw_X14_plug_RX14 tyX14 tyX14_ok nmX14 hown hK hP hD hS 0 rfl rfl 0 (by decide) (hts (.fieldLink RX14 61 "HubcascadeModel" "thrown" "I") (by decide +kernel)) (fun _ h9 => h9) rfl (by decide +kernel) rfl rfl (Nat.le_of_ble_eq_true rfl) dX14_plug_46 (fun H locs hP hD hS => ?_)
  have hP : va_P D vwCl (WM cy am eda 0) H := hP
  have hD : va_D A (WM cy am eda 0) := hD
  refine lv_aload_n hx hb dX14_plug_49 rfl (lv_at hl 0 rfl) ?_
  refine va_get (D := D) (ci := 19) (v := .int 0) (C := RX14) (T := TX14) (N := 19) hx hb hts iw_X14_plug_RX14 hown hK hP 0 rfl rfl 0 (by decide) (hts (.fieldLink RX14 61 "HubcascadeModel" "thrown" "I") (by decide +kernel)) (fun _ h9 => h9) rfl dX14_plug_50 ?_
  refine lv_if_le (tgt := 58) hx hb dX14_plug_53 (by decide) (fun _ => ?_) (fun c => absurd (by decide) c)
  refine lv_iconst (v := 0) hx hb dX14_plug_58 (by decide) ?_
  refine lv_istore (lv' := [(4, .int 0), (0, .ref (am 0)), (1, .int 0), (2, .int 0), (3, .int z)]) hx hb dX14_plug_59 hl (by decide) rfl (fun ls hl => ?_)
  refine lv_aload_n hx hb dX14_plug_61 rfl (lv_at hl 1 rfl) ?_
  refine va_get (D := D) (ci := 19) (v := .ref (am 1)) (C := RX14) (T := TX14) (N := 19) hx hb hts iw_X14_plug_RX14 hown hK hP 0 rfl rfl 1 (by decide) (hts (.fieldLink RX14 10 "HubcascadeModel" "devices" "Ljava/util/ArrayList;") (by decide +kernel)) (fun _ h9 => h9) rfl dX14_plug_62 ?_
  have hP := hP.sub (ws' := [(am 0, .inr (19, [.int 0, .ref (am 1), .ref (am 4), .ref (am 5), .ref (am 6), .ref (am 7), .ref (am 8), .int 0, .ref (am 9), .int 0, .int (-1), .int 100, .ref (am 10), .long 0, .int 0, .int 0, .int 0, .int 0, .long 0])), (am 2, .inl (cy 10, 10, .inr (.inr (.inr (.inr (va_up (fun _ => none) 0 (some (am 3)))))))), (am 3, .inr (15, [.int 104, .int 4, .int 0, .int 1, .int 0, .int 0, .int 99, .int (-1), .int 0, .int 0, .int (-1), .int 0, .int 0, .ref (am 11), .ref (am 12), .ref (am 13)])), (am 4, .inl (cy 9, 12, .inr (.inr (.inr (.inr (fun _ => none)))))), (am 5, .inr (4, [.int 0, .ref eda, .int 0])), (am 6, .inr (4, [.int 0, .ref eda, .int 0])), (am 7, .inr (4, [.int 0, .ref eda, .int 0])), (am 8, .inl (cy 0, 0, .inl (fun _ => 0))), (am 9, .inr (4, [.int 0, .ref eda, .int 0])), (am 10, .inl (cy 0, 16, .inl (fun _ => 0))), (am 11, .inl (cy 8, 4, .inr (.inr (.inr (.inr (fun _ => none)))))), (am 12, .inl (cy 1, 4, .inl (fun _ => 0))), (am 13, .inl (cy 0, 4, .inl (fun _ => 0))), (am 1, .inr (4, [.int 1, .ref (am 2), .int 1]))]) [0, 2, 3, 4, 5, 6, 7, 8, 9, 10, 11, 12, 13, 1] rfl
  have hD := hD.sub (ws' := [(am 0, .inr (19, [.int 0, .ref (am 1), .ref (am 4), .ref (am 5), .ref (am 6), .ref (am 7), .ref (am 8), .int 0, .ref (am 9), .int 0, .int (-1), .int 100, .ref (am 10), .long 0, .int 0, .int 0, .int 0, .int 0, .long 0])), (am 2, .inl (cy 10, 10, .inr (.inr (.inr (.inr (va_up (fun _ => none) 0 (some (am 3)))))))), (am 3, .inr (15, [.int 104, .int 4, .int 0, .int 1, .int 0, .int 0, .int 99, .int (-1), .int 0, .int 0, .int (-1), .int 0, .int 0, .ref (am 11), .ref (am 12), .ref (am 13)])), (am 4, .inl (cy 9, 12, .inr (.inr (.inr (.inr (fun _ => none)))))), (am 5, .inr (4, [.int 0, .ref eda, .int 0])), (am 6, .inr (4, [.int 0, .ref eda, .int 0])), (am 7, .inr (4, [.int 0, .ref eda, .int 0])), (am 8, .inl (cy 0, 0, .inl (fun _ => 0))), (am 9, .inr (4, [.int 0, .ref eda, .int 0])), (am 10, .inl (cy 0, 16, .inl (fun _ => 0))), (am 11, .inl (cy 8, 4, .inr (.inr (.inr (.inr (fun _ => none)))))), (am 12, .inl (cy 1, 4, .inl (fun _ => 0))), (am 13, .inl (cy 0, 4, .inl (fun _ => 0))), (am 1, .inr (4, [.int 1, .ref (am 2), .int 1]))]) [0, 2, 3, 4, 5, 6, 7, 8, 9, 10, 11, 12, 13, 1] (by decide) rfl
  refine mr_callV (wr := [(am 0, .inr (19, [.int 0, .ref (am 1), .ref (am 4), .ref (am 5), .ref (am 6), .ref (am 7), .ref (am 8), .int 0, .ref (am 9), .int 0, .int (-1), .int 100, .ref (am 10), .long 0, .int 0, .int 0, .int 0, .int 0, .long 0])), (am 2, .inl (cy 10, 10, .inr (.inr (.inr (.inr (va_up (fun _ => none) 0 (some (am 3)))))))), (am 3, .inr (15, [.int 104, .int 4, .int 0, .int 1, .int 0, .int 0, .int 99, .int (-1), .int 0, .int 0, .int (-1), .int 0, .int 0, .ref (am 11), .ref (am 12), .ref (am 13)])), (am 4, .inl (cy 9, 12, .inr (.inr (.inr (.inr (fun _ => none)))))), (am 5, .inr (4, [.int 0, .ref eda, .int 0])), (am 6, .inr (4, [.int 0, .ref eda, .int 0])), (am 7, .inr (4, [.int 0, .ref eda, .int 0])), (am 8, .inl (cy 0, 0, .inl (fun _ => 0))), (am 9, .inr (4, [.int 0, .ref eda, .int 0])), (am 10, .inl (cy 0, 16, .inl (fun _ => 0))), (am 11, .inl (cy 8, 4, .inr (.inr (.inr (.inr (fun _ => none)))))), (am 12, .inl (cy 1, 4, .inl (fun _ => 0))), (am 13, .inl (cy 0, 4, .inl (fun _ => 0)))]) (wc := [(am 1, .inr (4, [.int 1, .ref (am 2), .int 1]))]) (As := []) (rest := []) ⟨hx, hb, hml, hown, hts⟩ (m_iter l D cy (am 1) (am 2) _ 1 1 ) (cwV 0 hts gX14_plug_Jx4a65c_iterator_32c93 rfl rfl rfl (by decide +kernel) ⟨by decide, by decide⟩) hK hN hP hD hS hA hJS (ci := 4) (q0 := 0) rfl rfl rfl rfl hl.1 rfl (Nat.le_of_ble_eq_true rfl) dX14_plug_65 ⟨Nat.le_of_ble_eq_true rfl, Nat.le_of_ble_eq_true rfl⟩ (fun q1 H locs hB hJ hS => ?_)
  obtain ⟨hP1, hD1⟩ := hB
  obtain ⟨hP, hD⟩ := hJ _ hP1 hD1
  have hP : va_P D vwCl ([(am 0, .inr (19, [.int 0, .ref (am 1), .ref (am 4), .ref (am 5), .ref (am 6), .ref (am 7), .ref (am 8), .int 0, .ref (am 9), .int 0, .int (-1), .int 100, .ref (am 10), .long 0, .int 0, .int 0, .int 0, .int 0, .long 0])), (am 2, .inl (cy 10, 10, .inr (.inr (.inr (.inr (va_up (fun _ => none) 0 (some (am 3)))))))), (am 3, .inr (15, [.int 104, .int 4, .int 0, .int 1, .int 0, .int 0, .int 99, .int (-1), .int 0, .int 0, .int (-1), .int 0, .int 0, .ref (am 11), .ref (am 12), .ref (am 13)])), (am 4, .inl (cy 9, 12, .inr (.inr (.inr (.inr (fun _ => none)))))), (am 5, .inr (4, [.int 0, .ref eda, .int 0])), (am 6, .inr (4, [.int 0, .ref eda, .int 0])), (am 7, .inr (4, [.int 0, .ref eda, .int 0])), (am 8, .inl (cy 0, 0, .inl (fun _ => 0))), (am 9, .inr (4, [.int 0, .ref eda, .int 0])), (am 10, .inl (cy 0, 16, .inl (fun _ => 0))), (am 11, .inl (cy 8, 4, .inr (.inr (.inr (.inr (fun _ => none)))))), (am 12, .inl (cy 1, 4, .inl (fun _ => 0))), (am 13, .inl (cy 0, 4, .inl (fun _ => 0))), (am 1, .inr (4, [.int 1, .ref (am 2), .int 1])), (q1, .inr (3, [.int 0, .int (-1), .int 1, .ref (am 1)]))]) H := hP
  have hD : va_D A ([(am 0, .inr (19, [.int 0, .ref (am 1), .ref (am 4), .ref (am 5), .ref (am 6), .ref (am 7), .ref (am 8), .int 0, .ref (am 9), .int 0, .int (-1), .int 100, .ref (am 10), .long 0, .int 0, .int 0, .int 0, .int 0, .long 0])), (am 2, .inl (cy 10, 10, .inr (.inr (.inr (.inr (va_up (fun _ => none) 0 (some (am 3)))))))), (am 3, .inr (15, [.int 104, .int 4, .int 0, .int 1, .int 0, .int 0, .int 99, .int (-1), .int 0, .int 0, .int (-1), .int 0, .int 0, .ref (am 11), .ref (am 12), .ref (am 13)])), (am 4, .inl (cy 9, 12, .inr (.inr (.inr (.inr (fun _ => none)))))), (am 5, .inr (4, [.int 0, .ref eda, .int 0])), (am 6, .inr (4, [.int 0, .ref eda, .int 0])), (am 7, .inr (4, [.int 0, .ref eda, .int 0])), (am 8, .inl (cy 0, 0, .inl (fun _ => 0))), (am 9, .inr (4, [.int 0, .ref eda, .int 0])), (am 10, .inl (cy 0, 16, .inl (fun _ => 0))), (am 11, .inl (cy 8, 4, .inr (.inr (.inr (.inr (fun _ => none)))))), (am 12, .inl (cy 1, 4, .inl (fun _ => 0))), (am 13, .inl (cy 0, 4, .inl (fun _ => 0))), (am 1, .inr (4, [.int 1, .ref (am 2), .int 1])), (q1, .inr (3, [.int 0, .int (-1), .int 1, .ref (am 1)]))]) := hD
  refine lv_astore (lv' := [(5, .ref q1), (4, .int 0), (0, .ref (am 0)), (1, .int 0), (2, .int 0), (3, .int z)]) hx hb dX14_plug_68 hl (by decide) rfl (fun ls hl => ?_)
  refine lv_aload hx hb dX14_plug_70 (lv_at hl 0 rfl) ?_
  refine ro_callF (As := []) (rest := []) ⟨hx, hb, hml, hown, hts⟩ (c_hasNext1 l D cy _ 14 13 q1 (am 1) (am 2) 0 (-1) 1 1 1 rfl rfl (by decide)) (va_cwF 0 hts gX14_plug_Jx35411_hasNext_aae02_f112Jx35411 rfl rfl rfl hJS.2.2.2.2.2.2.1 (by decide +kernel) ⟨by decide, by decide⟩) hK hN hP hS (ci := 3) (q0 := 14) rfl rfl rfl rfl hl.1 rfl (Nat.le_of_ble_eq_true rfl) dX14_plug_72 ⟨Nat.le_of_ble_eq_true rfl, Nat.le_of_ble_eq_true rfl⟩ (fun H locs hP hS => ?_)
  refine lv_if_eq (tgt := 125) hx hb dX14_plug_77 (by decide) (fun c => absurd c (by decide)) (fun _ => ?_)
  refine lv_aload hx hb dX14_plug_80 (lv_at hl 0 rfl) ?_
  have hP := hP.sub (ws' := [(am 0, .inr (19, [.int 0, .ref (am 1), .ref (am 4), .ref (am 5), .ref (am 6), .ref (am 7), .ref (am 8), .int 0, .ref (am 9), .int 0, .int (-1), .int 100, .ref (am 10), .long 0, .int 0, .int 0, .int 0, .int 0, .long 0])), (am 3, .inr (15, [.int 104, .int 4, .int 0, .int 1, .int 0, .int 0, .int 99, .int (-1), .int 0, .int 0, .int (-1), .int 0, .int 0, .ref (am 11), .ref (am 12), .ref (am 13)])), (am 4, .inl (cy 9, 12, .inr (.inr (.inr (.inr (fun _ => none)))))), (am 5, .inr (4, [.int 0, .ref eda, .int 0])), (am 6, .inr (4, [.int 0, .ref eda, .int 0])), (am 7, .inr (4, [.int 0, .ref eda, .int 0])), (am 8, .inl (cy 0, 0, .inl (fun _ => 0))), (am 9, .inr (4, [.int 0, .ref eda, .int 0])), (am 10, .inl (cy 0, 16, .inl (fun _ => 0))), (am 11, .inl (cy 8, 4, .inr (.inr (.inr (.inr (fun _ => none)))))), (am 12, .inl (cy 1, 4, .inl (fun _ => 0))), (am 13, .inl (cy 0, 4, .inl (fun _ => 0))), (q1, .inr (3, [.int 0, .int (-1), .int 1, .ref (am 1)])), (am 1, .inr (4, [.int 1, .ref (am 2), .int 1])), (am 2, .inl (cy 10, 10, .inr (.inr (.inr (.inr (va_up (fun _ => none) 0 (some (am 3))))))))]) [0, 2, 3, 4, 5, 6, 7, 8, 9, 10, 11, 12, 14, 13, 1] rfl
  have hD := hD.sub (ws' := [(am 0, .inr (19, [.int 0, .ref (am 1), .ref (am 4), .ref (am 5), .ref (am 6), .ref (am 7), .ref (am 8), .int 0, .ref (am 9), .int 0, .int (-1), .int 100, .ref (am 10), .long 0, .int 0, .int 0, .int 0, .int 0, .long 0])), (am 3, .inr (15, [.int 104, .int 4, .int 0, .int 1, .int 0, .int 0, .int 99, .int (-1), .int 0, .int 0, .int (-1), .int 0, .int 0, .ref (am 11), .ref (am 12), .ref (am 13)])), (am 4, .inl (cy 9, 12, .inr (.inr (.inr (.inr (fun _ => none)))))), (am 5, .inr (4, [.int 0, .ref eda, .int 0])), (am 6, .inr (4, [.int 0, .ref eda, .int 0])), (am 7, .inr (4, [.int 0, .ref eda, .int 0])), (am 8, .inl (cy 0, 0, .inl (fun _ => 0))), (am 9, .inr (4, [.int 0, .ref eda, .int 0])), (am 10, .inl (cy 0, 16, .inl (fun _ => 0))), (am 11, .inl (cy 8, 4, .inr (.inr (.inr (.inr (fun _ => none)))))), (am 12, .inl (cy 1, 4, .inl (fun _ => 0))), (am 13, .inl (cy 0, 4, .inl (fun _ => 0))), (q1, .inr (3, [.int 0, .int (-1), .int 1, .ref (am 1)])), (am 1, .inr (4, [.int 1, .ref (am 2), .int 1])), (am 2, .inl (cy 10, 10, .inr (.inr (.inr (.inr (va_up (fun _ => none) 0 (some (am 3))))))))]) [0, 2, 3, 4, 5, 6, 7, 8, 9, 10, 11, 12, 14, 13, 1] (by decide) rfl
  refine me_callF (wr := [(am 0, .inr (19, [.int 0, .ref (am 1), .ref (am 4), .ref (am 5), .ref (am 6), .ref (am 7), .ref (am 8), .int 0, .ref (am 9), .int 0, .int (-1), .int 100, .ref (am 10), .long 0, .int 0, .int 0, .int 0, .int 0, .long 0])), (am 3, .inr (15, [.int 104, .int 4, .int 0, .int 1, .int 0, .int 0, .int 99, .int (-1), .int 0, .int 0, .int (-1), .int 0, .int 0, .ref (am 11), .ref (am 12), .ref (am 13)])), (am 4, .inl (cy 9, 12, .inr (.inr (.inr (.inr (fun _ => none)))))), (am 5, .inr (4, [.int 0, .ref eda, .int 0])), (am 6, .inr (4, [.int 0, .ref eda, .int 0])), (am 7, .inr (4, [.int 0, .ref eda, .int 0])), (am 8, .inl (cy 0, 0, .inl (fun _ => 0))), (am 9, .inr (4, [.int 0, .ref eda, .int 0])), (am 10, .inl (cy 0, 16, .inl (fun _ => 0))), (am 11, .inl (cy 8, 4, .inr (.inr (.inr (.inr (fun _ => none)))))), (am 12, .inl (cy 1, 4, .inl (fun _ => 0))), (am 13, .inl (cy 0, 4, .inl (fun _ => 0)))]) (wc := [(q1, .inr (3, [.int 0, .int (-1), .int 1, .ref (am 1)])), (am 1, .inr (4, [.int 1, .ref (am 2), .int 1])), (am 2, .inl (cy 10, 10, .inr (.inr (.inr (.inr (va_up (fun _ => none) 0 (some (am 3))))))))]) (As := []) (rest := []) ⟨hx, hb, hml, hown, hts⟩ (m_next0 l D cy q1 (am 1) (am 2) (am 3) _ 1) (va_cwF 0 hts gX14_plug_Jx35411_next_0502b_f118Jx35411 rfl rfl rfl hJS.2.2.2.2.2.2.2 (by decide +kernel) ⟨by decide, by decide⟩) hK hN hP hD hS hA (ci := 3) (q0 := 0) rfl rfl rfl rfl hl.1 rfl (Nat.le_of_ble_eq_true rfl) dX14_plug_82 ⟨Nat.le_of_ble_eq_true rfl, Nat.le_of_ble_eq_true rfl⟩ (fun H locs hB hJ hS => ?_)
  obtain ⟨hP1, hD1⟩ := hB
  obtain ⟨hP, hD⟩ := hJ _ hP1 hD1
  have hP := hP.sub (ws' := [(am 0, .inr (19, [.int 0, .ref (am 1), .ref (am 4), .ref (am 5), .ref (am 6), .ref (am 7), .ref (am 8), .int 0, .ref (am 9), .int 0, .int (-1), .int 100, .ref (am 10), .long 0, .int 0, .int 0, .int 0, .int 0, .long 0])), (am 1, .inr (4, [.int 1, .ref (am 2), .int 1])), (am 2, .inl (cy 10, 10, .inr (.inr (.inr (.inr (va_up (fun _ => none) 0 (some (am 3)))))))), (am 3, .inr (15, [.int 104, .int 4, .int 0, .int 1, .int 0, .int 0, .int 99, .int (-1), .int 0, .int 0, .int (-1), .int 0, .int 0, .ref (am 11), .ref (am 12), .ref (am 13)])), (am 4, .inl (cy 9, 12, .inr (.inr (.inr (.inr (fun _ => none)))))), (am 5, .inr (4, [.int 0, .ref eda, .int 0])), (am 6, .inr (4, [.int 0, .ref eda, .int 0])), (am 7, .inr (4, [.int 0, .ref eda, .int 0])), (am 8, .inl (cy 0, 0, .inl (fun _ => 0))), (am 9, .inr (4, [.int 0, .ref eda, .int 0])), (am 10, .inl (cy 0, 16, .inl (fun _ => 0))), (am 11, .inl (cy 8, 4, .inr (.inr (.inr (.inr (fun _ => none)))))), (am 12, .inl (cy 1, 4, .inl (fun _ => 0))), (am 13, .inl (cy 0, 4, .inl (fun _ => 0))), (q1, .inr (3, [.int 1, .int 0, .int 1, .ref (am 1)]))]) [0, 13, 14, 1, 2, 3, 4, 5, 6, 7, 8, 9, 10, 11, 12] rfl
  have hD := hD.sub (ws' := [(am 0, .inr (19, [.int 0, .ref (am 1), .ref (am 4), .ref (am 5), .ref (am 6), .ref (am 7), .ref (am 8), .int 0, .ref (am 9), .int 0, .int (-1), .int 100, .ref (am 10), .long 0, .int 0, .int 0, .int 0, .int 0, .long 0])), (am 1, .inr (4, [.int 1, .ref (am 2), .int 1])), (am 2, .inl (cy 10, 10, .inr (.inr (.inr (.inr (va_up (fun _ => none) 0 (some (am 3)))))))), (am 3, .inr (15, [.int 104, .int 4, .int 0, .int 1, .int 0, .int 0, .int 99, .int (-1), .int 0, .int 0, .int (-1), .int 0, .int 0, .ref (am 11), .ref (am 12), .ref (am 13)])), (am 4, .inl (cy 9, 12, .inr (.inr (.inr (.inr (fun _ => none)))))), (am 5, .inr (4, [.int 0, .ref eda, .int 0])), (am 6, .inr (4, [.int 0, .ref eda, .int 0])), (am 7, .inr (4, [.int 0, .ref eda, .int 0])), (am 8, .inl (cy 0, 0, .inl (fun _ => 0))), (am 9, .inr (4, [.int 0, .ref eda, .int 0])), (am 10, .inl (cy 0, 16, .inl (fun _ => 0))), (am 11, .inl (cy 8, 4, .inr (.inr (.inr (.inr (fun _ => none)))))), (am 12, .inl (cy 1, 4, .inl (fun _ => 0))), (am 13, .inl (cy 0, 4, .inl (fun _ => 0))), (q1, .inr (3, [.int 1, .int 0, .int 1, .ref (am 1)]))]) [0, 13, 14, 1, 2, 3, 4, 5, 6, 7, 8, 9, 10, 11, 12] (by decide) rfl
  refine va_castY hx hb hown (hts (.classLink RX14 48 "HubcascadeModel$Device") (by decide +kernel)) (hN.2.2 ("HubcascadeModel$Device", "HubcascadeModel$Device") (by decide +kernel)) (va_recv hK hP (ci := 15) (q0 := 3) rfl rfl) dX14_plug_87 ?_
  refine lv_astore (lv' := [(6, .ref (am 3)), (5, .ref q1), (4, .int 0), (0, .ref (am 0)), (1, .int 0), (2, .int 0), (3, .int z)]) hx hb dX14_plug_90 hl (by decide) rfl (fun ls hl => ?_)
  refine lv_iload hx hb dX14_plug_92 (lv_at hl 2 rfl) ?_
  refine lv_if_ne (tgt := 115) hx hb dX14_plug_94 (by decide) (fun c => absurd (by decide) c) (fun _ => ?_)
  refine lv_aload hx hb dX14_plug_97 (lv_at hl 0 rfl) ?_
  refine va_getN (D := D) (ci := 15) (v := .int (-1)) (C := RX10) (T := TX10) (N := 16) hx hb hts iw_X14_plug_RX10 hown hK hP 3 rfl rfl 7 (by decide) (va_Nw.use rfl (hN.1 _ nf_84)) (fun _ h9 => h9) rfl dX14_plug_99 ?_
  refine lv_iload_n hx hb dX14_plug_102 rfl (lv_at hl 5 rfl) ?_
  refine lv_icmp_ne (tgt := 119) hx hb dX14_plug_103 (by decide) (fun _ => ?_) (fun c => absurd c (by decide))
  refine lv_iconst (v := 0) hx hb dX14_plug_119 (by decide) ?_
  refine lv_istore (lv' := [(4, .int 0), (6, .ref (am 3)), (5, .ref q1), (0, .ref (am 0)), (1, .int 0), (2, .int 0), (3, .int z)]) hx hb dX14_plug_120 hl (by decide) rfl (fun ls hl => ?_)
  refine lv_goto (tgt := 70) hx hb dX14_plug_122 (by decide) ?_
  refine lv_aload hx hb dX14_plug_70 (lv_at hl 2 rfl) ?_
  refine ro_callF (As := []) (rest := []) ⟨hx, hb, hml, hown, hts⟩ (c_hasNext0 l D cy _ 14 1 q1 (am 1) (am 2) 1 0 1 1 1 rfl rfl (by decide)) (va_cwF 0 hts gX14_plug_Jx35411_hasNext_aae02_f112Jx35411 rfl rfl rfl hJS.2.2.2.2.2.2.1 (by decide +kernel) ⟨by decide, by decide⟩) hK hN hP hS (ci := 3) (q0 := 14) rfl rfl rfl rfl hl.1 rfl (Nat.le_of_ble_eq_true rfl) dX14_plug_72 ⟨Nat.le_of_ble_eq_true rfl, Nat.le_of_ble_eq_true rfl⟩ (fun H locs hP hS => ?_)
  refine lv_if_eq (tgt := 125) hx hb dX14_plug_77 (by decide) (fun _ => ?_) (fun c => absurd (by decide) c)
  have hP := hP.sub (ws' := WM cy am eda 0) [0, 1, 2, 3, 4, 5, 6, 7, 8, 9, 10, 11, 12, 13] rfl
  have hD := hD.sub (ws' := WM cy am eda 0) [0, 1, 2, 3, 4, 5, 6, 7, 8, 9, 10, 11, 12, 13] (by decide) rfl
  refine lv_aload_n hx hb dX14_plug_125 rfl (lv_at hl 3 rfl) ?_
  refine va_get (D := D) (ci := 19) (v := .ref (am 1)) (C := RX14) (T := TX14) (N := 19) hx hb hts iw_X14_plug_RX14 hown hK hP 0 rfl rfl 1 (by decide) (hts (.fieldLink RX14 10 "HubcascadeModel" "devices" "Ljava/util/ArrayList;") (by decide +kernel)) (fun _ h9 => h9) rfl dX14_plug_126 ?_
  refine lv_iload_n hx hb dX14_plug_129 rfl (lv_at hl 5 rfl) ?_
  refine ro_callV (As := [.int 0]) (rest := []) ⟨hx, hb, hml, hown, hts⟩ (c_get0 l D cy ) (cwV 1 hts gX14_plug_Jx4a65c_get_915e3 rfl rfl rfl (by decide +kernel) ⟨by decide, by decide⟩) hK hN hP hS (ci := 4) (q0 := 1) rfl rfl rfl rfl hl.1 rfl (Nat.le_of_ble_eq_true rfl) dX14_plug_130 ⟨Nat.le_of_ble_eq_true rfl, Nat.le_of_ble_eq_true rfl⟩ (fun H locs hP hS => ?_)
  refine va_castY hx hb hown (hts (.classLink RX14 48 "HubcascadeModel$Device") (by decide +kernel)) (hN.2.2 ("HubcascadeModel$Device", "HubcascadeModel$Device") (by decide +kernel)) (va_recv hK hP (ci := 15) (q0 := 3) rfl rfl) dX14_plug_133 ?_
  refine va_getN (D := D) (ci := 15) (v := .int 99) (C := RX10) (T := TX10) (N := 16) hx hb hts iw_X14_plug_RX10 hown hK hP 3 rfl rfl 6 (by decide) (va_Nw.use rfl (hN.1 _ nf_83)) (fun _ h9 => h9) rfl dX14_plug_136 ?_
  refine lv_istore (lv' := [(5, .int 99), (4, .int 0), (6, .ref (am 3)), (0, .ref (am 0)), (1, .int 0), (2, .int 0), (3, .int z)]) hx hb dX14_plug_139 hl (by decide) rfl (fun ls hl => ?_)
  refine lv_iload hx hb dX14_plug_141 (lv_at hl 0 rfl) ?_
  refine lv_bipush (v := 117) hx hb dX14_plug_143 (by decide) ?_
  refine lv_icmp_eq (tgt := 162) hx hb dX14_plug_145 (by decide) (fun c => absurd c (by decide)) (fun _ => ?_)
  refine lv_iload hx hb dX14_plug_148 (lv_at hl 0 rfl) ?_
  refine lv_bipush (v := 115) hx hb dX14_plug_150 (by decide) ?_
  refine lv_icmp_eq (tgt := 162) hx hb dX14_plug_152 (by decide) (fun c => absurd c (by decide)) (fun _ => ?_)
  refine lv_iload hx hb dX14_plug_155 (lv_at hl 0 rfl) ?_
  refine lv_bipush (v := 120) hx hb dX14_plug_157 (by decide) ?_
  refine lv_icmp_ne (tgt := 166) hx hb dX14_plug_159 (by decide) (fun _ => ?_) (fun c => absurd c (by decide))
  refine lv_iconst (v := 0) hx hb dX14_plug_166 (by decide) ?_
  refine lv_istore (lv' := [(6, .int 0), (5, .int 99), (4, .int 0), (0, .ref (am 0)), (1, .int 0), (2, .int 0), (3, .int z)]) hx hb dX14_plug_167 hl (by decide) rfl (fun ls hl => ?_)
  refine lv_aload_n hx hb dX14_plug_169 rfl (lv_at hl 3 rfl) ?_
  refine lv_aload_n hx hb dX14_plug_170 rfl (lv_at hl 3 rfl) ?_
  refine lv_iload_n hx hb dX14_plug_171 rfl (lv_at hl 4 rfl) ?_
  refine ro_callV (As := [.int 0]) (rest := [.ref (am 0)]) ⟨hx, hb, hml, hown, hts⟩ (c_isPlugged0 l D cy ) (cwV 1 hts gX14_plug_X14_isPlugged rfl rfl rfl (by decide +kernel) ⟨by decide, by decide⟩) hK hN hP hS (ci := 19) (q0 := 0) rfl rfl rfl rfl hl.1 rfl (Nat.le_of_ble_eq_true rfl) dX14_plug_172 ⟨Nat.le_of_ble_eq_true rfl, Nat.le_of_ble_eq_true rfl⟩ (fun H locs hP hS => ?_)
  refine lv_if_ne (tgt := 197) hx hb dX14_plug_175 (by decide) (fun _ => ?_) (fun c => absurd c (by decide))
  refine lv_iconst (v := 2) hx hb dX14_plug_197 (by decide) ?_
  refine lv_goto (tgt := 202) hx hb dX14_plug_198 (by decide) ?_
  refine va_put (D := D) (ci := 19) (v := .int 2) (ty := .int) (C := RX14) (T := TX14) (N := 19) hx hb hts iw_X14_plug_RX14 tyX14 tyX14_ok nmX14 hown hK hP hD hS 0 rfl rfl 0 (by decide) (hts (.fieldLink RX14 61 "HubcascadeModel" "thrown" "I") (by decide +kernel)) (fun _ h9 => h9) rfl (by decide +kernel) rfl rfl (Nat.le_of_ble_eq_true rfl) dX14_plug_202 (fun H locs hP hD hS => ?_)
  have hP : va_P D vwCl (WM cy am eda 2) H := hP
  have hD : va_D A (WM cy am eda 2) := hD
  refine lv_aload_n hx hb dX14_plug_205 rfl (lv_at hl 3 rfl) ?_
  refine va_get (D := D) (ci := 19) (v := .int 2) (C := RX14) (T := TX14) (N := 19) hx hb hts iw_X14_plug_RX14 hown hK hP 0 rfl rfl 0 (by decide) (hts (.fieldLink RX14 61 "HubcascadeModel" "thrown" "I") (by decide +kernel)) (fun _ h9 => h9) rfl dX14_plug_206 ?_
  refine lv_if_le (tgt := 214) hx hb dX14_plug_209 (by decide) (fun c => absurd c (by decide)) (fun _ => ?_)
  refine lv_iconst (v := 0) hx hb dX14_plug_212 (by decide) ?_
  refine W.widen (k := 1) (n := 4) (Nat.le_of_ble_eq_true rfl) (Nat.le_of_ble_eq_true rfl) ?_
  have hP9 := hP.sub (ws' := [(am 0, .inr (19, [.int 2, .ref (am 1), .ref (am 4), .ref (am 5), .ref (am 6), .ref (am 7), .ref (am 8), .int 0, .ref (am 9), .int 0, .int (-1), .int 100, .ref (am 10), .long 0, .int 0, .int 0, .int 0, .int 0, .long 0]))]) [0] rfl
  have hD9 := hD.sub (ws' := [(am 0, .inr (19, [.int 2, .ref (am 1), .ref (am 4), .ref (am 5), .ref (am 6), .ref (am 7), .ref (am 8), .int 0, .ref (am 9), .int 0, .int (-1), .int 100, .ref (am 10), .long 0, .int 0, .int 0, .int 0, .int 0, .long 0]))]) [0] (by decide) rfl
  exact W.iret hx hb hr (fun t ht hW => ⟨rfl, ⟨by rw [ht]; exact hP9, hD9⟩, hS.F ht⟩) hS.2.2 dX14_plug_213

theorem iw_X14_unplug_RX14 : ∀ w ∈ u_ws RX14 TX14 19, w ∈ wsX14_unplug := by decide +kernel
set_option maxRecDepth 100000 in
set_option maxHeartbeats 4000000 in
theorem a_unplug_1 (l : Launch) (D : va_G) (cy : Nat → ClassId) {ca : Nat} {ia : Nat → Nat} {am : Nat → Nat} {eda : Nat} {th : Int32} (sz : Nat) (d : Int32) : MJ l D cy eda ca ia (WM cy am eda th) sz yX14_unplug wsX14_unplug 3 0 0 64 [.ref (am 0), .int d] (some (.int 0)) (fun H => va_P D vwCl ([(am 0, .inr (19, [.int 1, .ref (am 1), .ref (am 4), .ref (am 5), .ref (am 6), .ref (am 7), .ref (am 8), .int 0, .ref (am 9), .int 0, .int (-1), .int 100, .ref (am 10), .long 0, .int 0, .int 0, .int 0, .int 0, .long 0]))]) H ∧ va_D (va_A (WM cy am eda th) sz) ([(am 0, .inr (19, [.int 1, .ref (am 1), .ref (am 4), .ref (am 5), .ref (am 6), .ref (am 7), .ref (am 8), .int 0, .ref (am 9), .int 0, .int (-1), .int 100, .ref (am 10), .long 0, .int 0, .int 0, .int 0, .int 0, .long 0]))])) := by
  refine ro_ofW (cc := cX14_unplug) (maxL := 2) (ret := (some .int)) (lv := [(0, .ref (am 0)), (1, .int d)]) (by decide) rfl (Nat.le_of_ble_eq_true rfl) rfl ?_
  intro p e s m below meth c ls hx hb hr hml hown hlocks hname hts hv hl
  have hown : s.vm.findClass RX14 = some m.cls := hown
  obtain ⟨⟨⟨hsz, hP, hD0⟩, hK, hN⟩, hJS⟩ := hv
  subst hsz
  have hD := hD0.self (sz := s.heap.size)
  generalize hAe : va_A (WM cy am eda th) s.heap.size = A at hD hJS ⊢
  have hA : ∀ q : Nat, s.heap.size ≤ q → A q := fun q h => by rw [← hAe]; exact Or.inr h
  have hS : va_S A s.heap s.heap [] := va_S.rf
  refine lv_aload_n hx hb dX14_unplug_0 rfl (lv_at hl 0 rfl) ?_
  refine lv_aload_n hx hb dX14_unplug_1 rfl (lv_at hl 0 rfl) ?_
  refine lv_iload_n hx hb dX14_unplug_2 rfl (lv_at hl 1 rfl) ?_
  refine ro_callV (As := [.int d]) (rest := [.ref (am 0)]) ⟨hx, hb, hml, hown, hts⟩ (c_isOther l D cy d) (cwV 1 hts gX14_unplug_X14_isOther rfl rfl rfl (by decide +kernel) ⟨by decide, by decide⟩) hK hN hP hS (ci := 19) (q0 := 0) rfl rfl rfl rfl hl.1 rfl (Nat.le_of_ble_eq_true rfl) dX14_unplug_3 ⟨Nat.le_of_ble_eq_true rfl, Nat.le_of_ble_eq_true rfl⟩ (fun H locs hP hS => ?_)
  refine lv_if_ne (tgt := 13) hx hb dX14_unplug_6 (by decide) (fun c => absurd (by decide) c) (fun _ => ?_)
  refine lv_iconst (v := 1) hx hb dX14_unplug_9 (by decide) ?_
  refine lv_goto (tgt := 26) hx hb dX14_unplug_10 (by decide) ?_
  refine va_put (D := D) (ci := 19) (v := .int 1) (ty := .int) (C := RX14) (T := TX14) (N := 19) hx hb hts iw_X14_unplug_RX14 tyX14 tyX14_ok nmX14 hown hK hP hD hS 0 rfl rfl 0 (by decide) (hts (.fieldLink RX14 61 "HubcascadeModel" "thrown" "I") (by decide +kernel)) (fun _ h9 => h9) rfl (by decide +kernel) rfl rfl (Nat.le_of_ble_eq_true rfl) dX14_unplug_26 (fun H locs hP hD hS => ?_)
  have hP : va_P D vwCl (WM cy am eda 1) H := hP
  have hD : va_D A (WM cy am eda 1) := hD
  refine lv_aload_n hx hb dX14_unplug_29 rfl (lv_at hl 0 rfl) ?_
  refine va_get (D := D) (ci := 19) (v := .int 1) (C := RX14) (T := TX14) (N := 19) hx hb hts iw_X14_unplug_RX14 hown hK hP 0 rfl rfl 0 (by decide) (hts (.fieldLink RX14 61 "HubcascadeModel" "thrown" "I") (by decide +kernel)) (fun _ h9 => h9) rfl dX14_unplug_30 ?_
  refine lv_if_le (tgt := 40) hx hb dX14_unplug_33 (by decide) (fun c => absurd c (by decide)) (fun _ => ?_)
  refine lv_iconst (v := 0) hx hb dX14_unplug_36 (by decide) ?_
  refine lv_goto (tgt := 46) hx hb dX14_unplug_37 (by decide) ?_
  refine W.widen (k := 0) (n := 0) (Nat.le_of_ble_eq_true rfl) (Nat.le_of_ble_eq_true rfl) ?_
  have hP9 := hP.sub (ws' := [(am 0, .inr (19, [.int 1, .ref (am 1), .ref (am 4), .ref (am 5), .ref (am 6), .ref (am 7), .ref (am 8), .int 0, .ref (am 9), .int 0, .int (-1), .int 100, .ref (am 10), .long 0, .int 0, .int 0, .int 0, .int 0, .long 0]))]) [0] rfl
  have hD9 := hD.sub (ws' := [(am 0, .inr (19, [.int 1, .ref (am 1), .ref (am 4), .ref (am 5), .ref (am 6), .ref (am 7), .ref (am 8), .int 0, .ref (am 9), .int 0, .int (-1), .int 100, .ref (am 10), .long 0, .int 0, .int 0, .int 0, .int 0, .long 0]))]) [0] (by decide) rfl
  exact W.iret hx hb hr (fun t ht hW => ⟨rfl, ⟨by rw [ht]; exact hP9, hD9⟩, hS.F ht⟩) hS.2.2 dX14_unplug_46

theorem iw_X14_stateOf_RX10 : ∀ w ∈ u_ws RX10 TX10 16, w ∈ wsX14_stateOf := by decide +kernel
theorem iw_X14_stateOf_RX14 : ∀ w ∈ u_ws RX14 TX14 19, w ∈ wsX14_stateOf := by decide +kernel
set_option maxRecDepth 100000 in
set_option maxHeartbeats 4000000 in
theorem a_stateOf_0 (l : Launch) (D : va_G) (cy : Nat → ClassId) {ca : Nat} {ia : Nat → Nat} {am : Nat → Nat} {eda : Nat} {th : Int32} (sz : Nat) : MJ l D cy eda ca ia (WM cy am eda th) sz yX14_stateOf wsX14_stateOf 3 0 0 64 [.ref (am 0), .int 0] (some (.int 99)) (fun H => va_P D vwCl ([(am 0, .inr (19, [.int 0, .ref (am 1), .ref (am 4), .ref (am 5), .ref (am 6), .ref (am 7), .ref (am 8), .int 0, .ref (am 9), .int 0, .int (-1), .int 100, .ref (am 10), .long 0, .int 0, .int 0, .int 0, .int 0, .long 0]))]) H ∧ va_D (va_A (WM cy am eda th) sz) ([(am 0, .inr (19, [.int 0, .ref (am 1), .ref (am 4), .ref (am 5), .ref (am 6), .ref (am 7), .ref (am 8), .int 0, .ref (am 9), .int 0, .int (-1), .int 100, .ref (am 10), .long 0, .int 0, .int 0, .int 0, .int 0, .long 0]))])) := by
  refine ro_ofW (cc := cX14_stateOf) (maxL := 2) (ret := (some .char)) (lv := [(0, .ref (am 0)), (1, .int 0)]) (by decide) rfl (Nat.le_of_ble_eq_true rfl) rfl ?_
  intro p e s m below meth c ls hx hb hr hml hown hlocks hname hts hv hl
  have hown : s.vm.findClass RX14 = some m.cls := hown
  obtain ⟨⟨⟨hsz, hP, hD0⟩, hK, hN⟩, hJS⟩ := hv
  subst hsz
  have hD := hD0.self (sz := s.heap.size)
  generalize hAe : va_A (WM cy am eda th) s.heap.size = A at hD hJS ⊢
  have hA : ∀ q : Nat, s.heap.size ≤ q → A q := fun q h => by rw [← hAe]; exact Or.inr h
  have hS : va_S A s.heap s.heap [] := va_S.rf
  refine lv_aload_n hx hb dX14_stateOf_0 rfl (lv_at hl 0 rfl) ?_
  refine lv_iload_n hx hb dX14_stateOf_1 rfl (lv_at hl 1 rfl) ?_
  refine me_callV (wr := []) (wc := WM cy am eda th) (As := [.int 0]) (rest := []) ⟨hx, hb, hml, hown, hts⟩ (m_noDevice0 l D cy  _  ) (cwV 1 hts gX14_stateOf_X14_noDevice rfl rfl rfl (by decide +kernel) ⟨by decide, by decide⟩) hK hN hP hD hS hA (ci := 19) (q0 := 0) rfl rfl rfl rfl hl.1 rfl (Nat.le_of_ble_eq_true rfl) dX14_stateOf_2 ⟨Nat.le_of_ble_eq_true rfl, Nat.le_of_ble_eq_true rfl⟩ (fun H locs hB hJ hS => ?_)
  obtain ⟨hP1, hD1⟩ := hB
  obtain ⟨hP, hD⟩ := hJ _ hP1 hD1
  have hP : va_P D vwCl (WM cy am eda 0) H := hP
  have hD : va_D A (WM cy am eda 0) := hD
  refine lv_if_eq (tgt := 13) hx hb dX14_stateOf_5 (by decide) (fun _ => ?_) (fun c => absurd (by decide) c)
  refine lv_aload_n hx hb dX14_stateOf_13 rfl (lv_at hl 0 rfl) ?_
  refine va_get (D := D) (ci := 19) (v := .ref (am 1)) (C := RX14) (T := TX14) (N := 19) hx hb hts iw_X14_stateOf_RX14 hown hK hP 0 rfl rfl 1 (by decide) (hts (.fieldLink RX14 10 "HubcascadeModel" "devices" "Ljava/util/ArrayList;") (by decide +kernel)) (fun _ h9 => h9) rfl dX14_stateOf_14 ?_
  refine lv_iload_n hx hb dX14_stateOf_17 rfl (lv_at hl 1 rfl) ?_
  refine ro_callV (As := [.int 0]) (rest := []) ⟨hx, hb, hml, hown, hts⟩ (c_get0 l D cy ) (cwV 1 hts gX14_stateOf_Jx4a65c_get_915e3 rfl rfl rfl (by decide +kernel) ⟨by decide, by decide⟩) hK hN hP hS (ci := 4) (q0 := 1) rfl rfl rfl rfl hl.1 rfl (Nat.le_of_ble_eq_true rfl) dX14_stateOf_18 ⟨Nat.le_of_ble_eq_true rfl, Nat.le_of_ble_eq_true rfl⟩ (fun H locs hP hS => ?_)
  refine va_castY hx hb hown (hts (.classLink RX14 48 "HubcascadeModel$Device") (by decide +kernel)) (hN.2.2 ("HubcascadeModel$Device", "HubcascadeModel$Device") (by decide +kernel)) (va_recv hK hP (ci := 15) (q0 := 3) rfl rfl) dX14_stateOf_21 ?_
  refine va_getN (D := D) (ci := 15) (v := .int 99) (C := RX10) (T := TX10) (N := 16) hx hb hts iw_X14_stateOf_RX10 hown hK hP 3 rfl rfl 6 (by decide) (va_Nw.use rfl (hN.1 _ nf_83)) (fun _ h9 => h9) rfl dX14_stateOf_24 ?_
  refine W.widen (k := 0) (n := 0) (Nat.le_of_ble_eq_true rfl) (Nat.le_of_ble_eq_true rfl) ?_
  have hP9 := hP.sub (ws' := [(am 0, .inr (19, [.int 0, .ref (am 1), .ref (am 4), .ref (am 5), .ref (am 6), .ref (am 7), .ref (am 8), .int 0, .ref (am 9), .int 0, .int (-1), .int 100, .ref (am 10), .long 0, .int 0, .int 0, .int 0, .int 0, .long 0]))]) [0] rfl
  have hD9 := hD.sub (ws' := [(am 0, .inr (19, [.int 0, .ref (am 1), .ref (am 4), .ref (am 5), .ref (am 6), .ref (am 7), .ref (am 8), .int 0, .ref (am 9), .int 0, .int (-1), .int 100, .ref (am 10), .long 0, .int 0, .int 0, .int 0, .int 0, .long 0]))]) [0] (by decide) rfl
  exact W.zret hx hb hr (by decide) (fun t ht hW => ⟨rfl, ⟨by rw [ht]; exact hP9, hD9⟩, hS.F ht⟩) hS.2.2 dX14_stateOf_27

set_option maxRecDepth 100000 in
set_option maxHeartbeats 4000000 in
theorem a_stateOf_1 (l : Launch) (D : va_G) (cy : Nat → ClassId) {ca : Nat} {ia : Nat → Nat} {am : Nat → Nat} {eda : Nat} {th : Int32} (sz : Nat) (d : Int32) (hd : ¬ d = 0) : MJ l D cy eda ca ia (WM cy am eda th) sz yX14_stateOf wsX14_stateOf 3 0 0 64 [.ref (am 0), .int d] (some (.int 32)) (fun H => va_P D vwCl ([(am 0, .inr (19, [.int 1, .ref (am 1), .ref (am 4), .ref (am 5), .ref (am 6), .ref (am 7), .ref (am 8), .int 0, .ref (am 9), .int 0, .int (-1), .int 100, .ref (am 10), .long 0, .int 0, .int 0, .int 0, .int 0, .long 0]))]) H ∧ va_D (va_A (WM cy am eda th) sz) ([(am 0, .inr (19, [.int 1, .ref (am 1), .ref (am 4), .ref (am 5), .ref (am 6), .ref (am 7), .ref (am 8), .int 0, .ref (am 9), .int 0, .int (-1), .int 100, .ref (am 10), .long 0, .int 0, .int 0, .int 0, .int 0, .long 0]))])) := by
  refine ro_ofW (cc := cX14_stateOf) (maxL := 2) (ret := (some .char)) (lv := [(0, .ref (am 0)), (1, .int d)]) (by decide) rfl (Nat.le_of_ble_eq_true rfl) rfl ?_
  intro p e s m below meth c ls hx hb hr hml hown hlocks hname hts hv hl
  have hown : s.vm.findClass RX14 = some m.cls := hown
  obtain ⟨⟨⟨hsz, hP, hD0⟩, hK, hN⟩, hJS⟩ := hv
  subst hsz
  have hD := hD0.self (sz := s.heap.size)
  generalize hAe : va_A (WM cy am eda th) s.heap.size = A at hD hJS ⊢
  have hA : ∀ q : Nat, s.heap.size ≤ q → A q := fun q h => by rw [← hAe]; exact Or.inr h
  have hS : va_S A s.heap s.heap [] := va_S.rf
  refine lv_aload_n hx hb dX14_stateOf_0 rfl (lv_at hl 0 rfl) ?_
  refine lv_iload_n hx hb dX14_stateOf_1 rfl (lv_at hl 1 rfl) ?_
  refine me_callV (wr := []) (wc := WM cy am eda th) (As := [.int d]) (rest := []) ⟨hx, hb, hml, hown, hts⟩ (m_noDeviceX l D cy  _ d hd) (cwV 1 hts gX14_stateOf_X14_noDevice rfl rfl rfl (by decide +kernel) ⟨by decide, by decide⟩) hK hN hP hD hS hA (ci := 19) (q0 := 0) rfl rfl rfl rfl hl.1 rfl (Nat.le_of_ble_eq_true rfl) dX14_stateOf_2 ⟨Nat.le_of_ble_eq_true rfl, Nat.le_of_ble_eq_true rfl⟩ (fun H locs hB hJ hS => ?_)
  obtain ⟨hP1, hD1⟩ := hB
  obtain ⟨hP, hD⟩ := hJ _ hP1 hD1
  have hP : va_P D vwCl (WM cy am eda 1) H := hP
  have hD : va_D A (WM cy am eda 1) := hD
  refine lv_if_eq (tgt := 13) hx hb dX14_stateOf_5 (by decide) (fun c => absurd c (by decide)) (fun _ => ?_)
  refine lv_bipush (v := 32) hx hb dX14_stateOf_8 (by decide) ?_
  refine lv_goto (tgt := 27) hx hb dX14_stateOf_10 (by decide) ?_
  refine W.widen (k := 0) (n := 0) (Nat.le_of_ble_eq_true rfl) (Nat.le_of_ble_eq_true rfl) ?_
  have hP9 := hP.sub (ws' := [(am 0, .inr (19, [.int 1, .ref (am 1), .ref (am 4), .ref (am 5), .ref (am 6), .ref (am 7), .ref (am 8), .int 0, .ref (am 9), .int 0, .int (-1), .int 100, .ref (am 10), .long 0, .int 0, .int 0, .int 0, .int 0, .long 0]))]) [0] rfl
  have hD9 := hD.sub (ws' := [(am 0, .inr (19, [.int 1, .ref (am 1), .ref (am 4), .ref (am 5), .ref (am 6), .ref (am 7), .ref (am 8), .int 0, .ref (am 9), .int 0, .int (-1), .int 100, .ref (am 10), .long 0, .int 0, .int 0, .int 0, .int 0, .long 0]))]) [0] (by decide) rfl
  exact W.zret hx hb hr (by decide) (fun t ht hW => ⟨rfl, ⟨by rw [ht]; exact hP9, hD9⟩, hS.F ht⟩) hS.2.2 dX14_stateOf_27

theorem iw_X14_hubOf_RX10 : ∀ w ∈ u_ws RX10 TX10 16, w ∈ wsX14_hubOf := by decide +kernel
theorem iw_X14_hubOf_RX14 : ∀ w ∈ u_ws RX14 TX14 19, w ∈ wsX14_hubOf := by decide +kernel
set_option maxRecDepth 100000 in
set_option maxHeartbeats 4000000 in
theorem a_hubOf_0 (l : Launch) (D : va_G) (cy : Nat → ClassId) {ca : Nat} {ia : Nat → Nat} {am : Nat → Nat} {eda : Nat} {th : Int32} (sz : Nat) : MJ l D cy eda ca ia (WM cy am eda th) sz yX14_hubOf wsX14_hubOf 3 0 0 64 [.ref (am 0), .int 0] (some (.int (-1))) (fun H => va_P D vwCl ([(am 0, .inr (19, [.int 0, .ref (am 1), .ref (am 4), .ref (am 5), .ref (am 6), .ref (am 7), .ref (am 8), .int 0, .ref (am 9), .int 0, .int (-1), .int 100, .ref (am 10), .long 0, .int 0, .int 0, .int 0, .int 0, .long 0]))]) H ∧ va_D (va_A (WM cy am eda th) sz) ([(am 0, .inr (19, [.int 0, .ref (am 1), .ref (am 4), .ref (am 5), .ref (am 6), .ref (am 7), .ref (am 8), .int 0, .ref (am 9), .int 0, .int (-1), .int 100, .ref (am 10), .long 0, .int 0, .int 0, .int 0, .int 0, .long 0]))])) := by
  refine ro_ofW (cc := cX14_hubOf) (maxL := 2) (ret := (some .int)) (lv := [(0, .ref (am 0)), (1, .int 0)]) (by decide) rfl (Nat.le_of_ble_eq_true rfl) rfl ?_
  intro p e s m below meth c ls hx hb hr hml hown hlocks hname hts hv hl
  have hown : s.vm.findClass RX14 = some m.cls := hown
  obtain ⟨⟨⟨hsz, hP, hD0⟩, hK, hN⟩, hJS⟩ := hv
  subst hsz
  have hD := hD0.self (sz := s.heap.size)
  generalize hAe : va_A (WM cy am eda th) s.heap.size = A at hD hJS ⊢
  have hA : ∀ q : Nat, s.heap.size ≤ q → A q := fun q h => by rw [← hAe]; exact Or.inr h
  have hS : va_S A s.heap s.heap [] := va_S.rf
  refine lv_aload_n hx hb dX14_hubOf_0 rfl (lv_at hl 0 rfl) ?_
  refine lv_iload_n hx hb dX14_hubOf_1 rfl (lv_at hl 1 rfl) ?_
  refine me_callV (wr := []) (wc := WM cy am eda th) (As := [.int 0]) (rest := []) ⟨hx, hb, hml, hown, hts⟩ (m_noDevice0 l D cy  _  ) (cwV 1 hts gX14_hubOf_X14_noDevice rfl rfl rfl (by decide +kernel) ⟨by decide, by decide⟩) hK hN hP hD hS hA (ci := 19) (q0 := 0) rfl rfl rfl rfl hl.1 rfl (Nat.le_of_ble_eq_true rfl) dX14_hubOf_2 ⟨Nat.le_of_ble_eq_true rfl, Nat.le_of_ble_eq_true rfl⟩ (fun H locs hB hJ hS => ?_)
  obtain ⟨hP1, hD1⟩ := hB
  obtain ⟨hP, hD⟩ := hJ _ hP1 hD1
  have hP : va_P D vwCl (WM cy am eda 0) H := hP
  have hD : va_D A (WM cy am eda 0) := hD
  refine lv_if_eq (tgt := 12) hx hb dX14_hubOf_5 (by decide) (fun _ => ?_) (fun c => absurd (by decide) c)
  refine lv_aload_n hx hb dX14_hubOf_12 rfl (lv_at hl 0 rfl) ?_
  refine va_get (D := D) (ci := 19) (v := .ref (am 1)) (C := RX14) (T := TX14) (N := 19) hx hb hts iw_X14_hubOf_RX14 hown hK hP 0 rfl rfl 1 (by decide) (hts (.fieldLink RX14 10 "HubcascadeModel" "devices" "Ljava/util/ArrayList;") (by decide +kernel)) (fun _ h9 => h9) rfl dX14_hubOf_13 ?_
  refine lv_iload_n hx hb dX14_hubOf_16 rfl (lv_at hl 1 rfl) ?_
  refine ro_callV (As := [.int 0]) (rest := []) ⟨hx, hb, hml, hown, hts⟩ (c_get0 l D cy ) (cwV 1 hts gX14_hubOf_Jx4a65c_get_915e3 rfl rfl rfl (by decide +kernel) ⟨by decide, by decide⟩) hK hN hP hS (ci := 4) (q0 := 1) rfl rfl rfl rfl hl.1 rfl (Nat.le_of_ble_eq_true rfl) dX14_hubOf_17 ⟨Nat.le_of_ble_eq_true rfl, Nat.le_of_ble_eq_true rfl⟩ (fun H locs hP hS => ?_)
  refine va_castY hx hb hown (hts (.classLink RX14 48 "HubcascadeModel$Device") (by decide +kernel)) (hN.2.2 ("HubcascadeModel$Device", "HubcascadeModel$Device") (by decide +kernel)) (va_recv hK hP (ci := 15) (q0 := 3) rfl rfl) dX14_hubOf_20 ?_
  refine va_getN (D := D) (ci := 15) (v := .int (-1)) (C := RX10) (T := TX10) (N := 16) hx hb hts iw_X14_hubOf_RX10 hown hK hP 3 rfl rfl 7 (by decide) (va_Nw.use rfl (hN.1 _ nf_84)) (fun _ h9 => h9) rfl dX14_hubOf_23 ?_
  refine W.widen (k := 0) (n := 0) (Nat.le_of_ble_eq_true rfl) (Nat.le_of_ble_eq_true rfl) ?_
  have hP9 := hP.sub (ws' := [(am 0, .inr (19, [.int 0, .ref (am 1), .ref (am 4), .ref (am 5), .ref (am 6), .ref (am 7), .ref (am 8), .int 0, .ref (am 9), .int 0, .int (-1), .int 100, .ref (am 10), .long 0, .int 0, .int 0, .int 0, .int 0, .long 0]))]) [0] rfl
  have hD9 := hD.sub (ws' := [(am 0, .inr (19, [.int 0, .ref (am 1), .ref (am 4), .ref (am 5), .ref (am 6), .ref (am 7), .ref (am 8), .int 0, .ref (am 9), .int 0, .int (-1), .int 100, .ref (am 10), .long 0, .int 0, .int 0, .int 0, .int 0, .long 0]))]) [0] (by decide) rfl
  exact W.iret hx hb hr (fun t ht hW => ⟨rfl, ⟨by rw [ht]; exact hP9, hD9⟩, hS.F ht⟩) hS.2.2 dX14_hubOf_26

set_option maxRecDepth 100000 in
set_option maxHeartbeats 4000000 in
theorem a_hubOf_1 (l : Launch) (D : va_G) (cy : Nat → ClassId) {ca : Nat} {ia : Nat → Nat} {am : Nat → Nat} {eda : Nat} {th : Int32} (sz : Nat) (d : Int32) (hd : ¬ d = 0) : MJ l D cy eda ca ia (WM cy am eda th) sz yX14_hubOf wsX14_hubOf 3 0 0 64 [.ref (am 0), .int d] (some (.int 0)) (fun H => va_P D vwCl ([(am 0, .inr (19, [.int 1, .ref (am 1), .ref (am 4), .ref (am 5), .ref (am 6), .ref (am 7), .ref (am 8), .int 0, .ref (am 9), .int 0, .int (-1), .int 100, .ref (am 10), .long 0, .int 0, .int 0, .int 0, .int 0, .long 0]))]) H ∧ va_D (va_A (WM cy am eda th) sz) ([(am 0, .inr (19, [.int 1, .ref (am 1), .ref (am 4), .ref (am 5), .ref (am 6), .ref (am 7), .ref (am 8), .int 0, .ref (am 9), .int 0, .int (-1), .int 100, .ref (am 10), .long 0, .int 0, .int 0, .int 0, .int 0, .long 0]))])) := by
  refine ro_ofW (cc := cX14_hubOf) (maxL := 2) (ret := (some .int)) (lv := [(0, .ref (am 0)), (1, .int d)]) (by decide) rfl (Nat.le_of_ble_eq_true rfl) rfl ?_
  intro p e s m below meth c ls hx hb hr hml hown hlocks hname hts hv hl
  have hown : s.vm.findClass RX14 = some m.cls := hown
  obtain ⟨⟨⟨hsz, hP, hD0⟩, hK, hN⟩, hJS⟩ := hv
  subst hsz
  have hD := hD0.self (sz := s.heap.size)
  generalize hAe : va_A (WM cy am eda th) s.heap.size = A at hD hJS ⊢
  have hA : ∀ q : Nat, s.heap.size ≤ q → A q := fun q h => by rw [← hAe]; exact Or.inr h
  have hS : va_S A s.heap s.heap [] := va_S.rf
  refine lv_aload_n hx hb dX14_hubOf_0 rfl (lv_at hl 0 rfl) ?_
  refine lv_iload_n hx hb dX14_hubOf_1 rfl (lv_at hl 1 rfl) ?_
  refine me_callV (wr := []) (wc := WM cy am eda th) (As := [.int d]) (rest := []) ⟨hx, hb, hml, hown, hts⟩ (m_noDeviceX l D cy  _ d hd) (cwV 1 hts gX14_hubOf_X14_noDevice rfl rfl rfl (by decide +kernel) ⟨by decide, by decide⟩) hK hN hP hD hS hA (ci := 19) (q0 := 0) rfl rfl rfl rfl hl.1 rfl (Nat.le_of_ble_eq_true rfl) dX14_hubOf_2 ⟨Nat.le_of_ble_eq_true rfl, Nat.le_of_ble_eq_true rfl⟩ (fun H locs hB hJ hS => ?_)
  obtain ⟨hP1, hD1⟩ := hB
  obtain ⟨hP, hD⟩ := hJ _ hP1 hD1
  have hP : va_P D vwCl (WM cy am eda 1) H := hP
  have hD : va_D A (WM cy am eda 1) := hD
  refine lv_if_eq (tgt := 12) hx hb dX14_hubOf_5 (by decide) (fun c => absurd c (by decide)) (fun _ => ?_)
  refine lv_iconst (v := 0) hx hb dX14_hubOf_8 (by decide) ?_
  refine lv_goto (tgt := 26) hx hb dX14_hubOf_9 (by decide) ?_
  refine W.widen (k := 0) (n := 0) (Nat.le_of_ble_eq_true rfl) (Nat.le_of_ble_eq_true rfl) ?_
  have hP9 := hP.sub (ws' := [(am 0, .inr (19, [.int 1, .ref (am 1), .ref (am 4), .ref (am 5), .ref (am 6), .ref (am 7), .ref (am 8), .int 0, .ref (am 9), .int 0, .int (-1), .int 100, .ref (am 10), .long 0, .int 0, .int 0, .int 0, .int 0, .long 0]))]) [0] rfl
  have hD9 := hD.sub (ws' := [(am 0, .inr (19, [.int 1, .ref (am 1), .ref (am 4), .ref (am 5), .ref (am 6), .ref (am 7), .ref (am 8), .int 0, .ref (am 9), .int 0, .int (-1), .int 100, .ref (am 10), .long 0, .int 0, .int 0, .int 0, .int 0, .long 0]))]) [0] (by decide) rfl
  exact W.iret hx hb hr (fun t ht hW => ⟨rfl, ⟨by rw [ht]; exact hP9, hD9⟩, hS.F ht⟩) hS.2.2 dX14_hubOf_26

set_option maxRecDepth 100000 in
set_option maxHeartbeats 4000000 in
theorem a_depthOf_0 (l : Launch) (D : va_G) (cy : Nat → ClassId) {ca : Nat} {ia : Nat → Nat} {am : Nat → Nat} {eda : Nat} {th : Int32} (sz : Nat) : MJ l D cy eda ca ia (WM cy am eda th) sz yX14_depthOf wsX14_depthOf 4 0 0 87 [.ref (am 0), .int 0] (some (.int 0)) (fun H => va_P D vwCl ([(am 0, .inr (19, [.int 0, .ref (am 1), .ref (am 4), .ref (am 5), .ref (am 6), .ref (am 7), .ref (am 8), .int 0, .ref (am 9), .int 0, .int (-1), .int 100, .ref (am 10), .long 0, .int 0, .int 0, .int 0, .int 0, .long 0]))]) H ∧ va_D (va_A (WM cy am eda th) sz) ([(am 0, .inr (19, [.int 0, .ref (am 1), .ref (am 4), .ref (am 5), .ref (am 6), .ref (am 7), .ref (am 8), .int 0, .ref (am 9), .int 0, .int (-1), .int 100, .ref (am 10), .long 0, .int 0, .int 0, .int 0, .int 0, .long 0]))])) := by
  refine ro_ofW (cc := cX14_depthOf) (maxL := 2) (ret := (some .int)) (lv := [(0, .ref (am 0)), (1, .int 0)]) (by decide) rfl (Nat.le_of_ble_eq_true rfl) rfl ?_
  intro p e s m below meth c ls hx hb hr hml hown hlocks hname hts hv hl
  have hown : s.vm.findClass RX14 = some m.cls := hown
  obtain ⟨⟨⟨hsz, hP, hD0⟩, hK, hN⟩, hJS⟩ := hv
  subst hsz
  have hD := hD0.self (sz := s.heap.size)
  generalize hAe : va_A (WM cy am eda th) s.heap.size = A at hD hJS ⊢
  have hA : ∀ q : Nat, s.heap.size ≤ q → A q := fun q h => by rw [← hAe]; exact Or.inr h
  have hS : va_S A s.heap s.heap [] := va_S.rf
  refine lv_aload_n hx hb dX14_depthOf_0 rfl (lv_at hl 0 rfl) ?_
  refine lv_iload_n hx hb dX14_depthOf_1 rfl (lv_at hl 1 rfl) ?_
  refine me_callV (wr := []) (wc := WM cy am eda th) (As := [.int 0]) (rest := []) ⟨hx, hb, hml, hown, hts⟩ (m_noDevice0 l D cy  _  ) (cwV 1 hts gX14_depthOf_X14_noDevice rfl rfl rfl (by decide +kernel) ⟨by decide, by decide⟩) hK hN hP hD hS hA (ci := 19) (q0 := 0) rfl rfl rfl rfl hl.1 rfl (Nat.le_of_ble_eq_true rfl) dX14_depthOf_2 ⟨Nat.le_of_ble_eq_true rfl, Nat.le_of_ble_eq_true rfl⟩ (fun H locs hB hJ hS => ?_)
  obtain ⟨hP1, hD1⟩ := hB
  obtain ⟨hP, hD⟩ := hJ _ hP1 hD1
  have hP : va_P D vwCl (WM cy am eda 0) H := hP
  have hD : va_D A (WM cy am eda 0) := hD
  refine lv_if_eq (tgt := 12) hx hb dX14_depthOf_5 (by decide) (fun _ => ?_) (fun c => absurd (by decide) c)
  refine lv_aload_n hx hb dX14_depthOf_12 rfl (lv_at hl 0 rfl) ?_
  refine lv_iload_n hx hb dX14_depthOf_13 rfl (lv_at hl 1 rfl) ?_
  refine ro_callV (As := [.int 0]) (rest := []) ⟨hx, hb, hml, hown, hts⟩ (c_isPlugged0 l D cy ) (cwV 1 hts gX14_depthOf_X14_isPlugged rfl rfl rfl (by decide +kernel) ⟨by decide, by decide⟩) hK hN hP hS (ci := 19) (q0 := 0) rfl rfl rfl rfl hl.1 rfl (Nat.le_of_ble_eq_true rfl) dX14_depthOf_14 ⟨Nat.le_of_ble_eq_true rfl, Nat.le_of_ble_eq_true rfl⟩ (fun H locs hP hS => ?_)
  refine lv_if_eq (tgt := 28) hx hb dX14_depthOf_17 (by decide) (fun c => absurd c (by decide)) (fun _ => ?_)
  refine lv_aload_n hx hb dX14_depthOf_20 rfl (lv_at hl 0 rfl) ?_
  refine lv_iload_n hx hb dX14_depthOf_21 rfl (lv_at hl 1 rfl) ?_
  refine ro_callV (As := [.int 0]) (rest := []) ⟨hx, hb, hml, hown, hts⟩ (c_depth0 l D cy ) (cwV 1 hts gX14_depthOf_X14_depth rfl rfl rfl (by decide +kernel) ⟨by decide, by decide⟩) hK hN hP hS (ci := 19) (q0 := 0) rfl rfl rfl rfl hl.1 rfl (Nat.le_of_ble_eq_true rfl) dX14_depthOf_22 ⟨Nat.le_of_ble_eq_true rfl, Nat.le_of_ble_eq_true rfl⟩ (fun H locs hP hS => ?_)
  refine lv_goto (tgt := 29) hx hb dX14_depthOf_25 (by decide) ?_
  refine W.widen (k := 0) (n := 0) (Nat.le_of_ble_eq_true rfl) (Nat.le_of_ble_eq_true rfl) ?_
  have hP9 := hP.sub (ws' := [(am 0, .inr (19, [.int 0, .ref (am 1), .ref (am 4), .ref (am 5), .ref (am 6), .ref (am 7), .ref (am 8), .int 0, .ref (am 9), .int 0, .int (-1), .int 100, .ref (am 10), .long 0, .int 0, .int 0, .int 0, .int 0, .long 0]))]) [0] rfl
  have hD9 := hD.sub (ws' := [(am 0, .inr (19, [.int 0, .ref (am 1), .ref (am 4), .ref (am 5), .ref (am 6), .ref (am 7), .ref (am 8), .int 0, .ref (am 9), .int 0, .int (-1), .int 100, .ref (am 10), .long 0, .int 0, .int 0, .int 0, .int 0, .long 0]))]) [0] (by decide) rfl
  exact W.iret hx hb hr (fun t ht hW => ⟨rfl, ⟨by rw [ht]; exact hP9, hD9⟩, hS.F ht⟩) hS.2.2 dX14_depthOf_29

set_option maxRecDepth 100000 in
set_option maxHeartbeats 4000000 in
theorem a_depthOf_1 (l : Launch) (D : va_G) (cy : Nat → ClassId) {ca : Nat} {ia : Nat → Nat} {am : Nat → Nat} {eda : Nat} {th : Int32} (sz : Nat) (d : Int32) (hd : ¬ d = 0) : MJ l D cy eda ca ia (WM cy am eda th) sz yX14_depthOf wsX14_depthOf 3 0 0 64 [.ref (am 0), .int d] (some (.int 0)) (fun H => va_P D vwCl ([(am 0, .inr (19, [.int 1, .ref (am 1), .ref (am 4), .ref (am 5), .ref (am 6), .ref (am 7), .ref (am 8), .int 0, .ref (am 9), .int 0, .int (-1), .int 100, .ref (am 10), .long 0, .int 0, .int 0, .int 0, .int 0, .long 0]))]) H ∧ va_D (va_A (WM cy am eda th) sz) ([(am 0, .inr (19, [.int 1, .ref (am 1), .ref (am 4), .ref (am 5), .ref (am 6), .ref (am 7), .ref (am 8), .int 0, .ref (am 9), .int 0, .int (-1), .int 100, .ref (am 10), .long 0, .int 0, .int 0, .int 0, .int 0, .long 0]))])) := by
  refine ro_ofW (cc := cX14_depthOf) (maxL := 2) (ret := (some .int)) (lv := [(0, .ref (am 0)), (1, .int d)]) (by decide) rfl (Nat.le_of_ble_eq_true rfl) rfl ?_
  intro p e s m below meth c ls hx hb hr hml hown hlocks hname hts hv hl
  have hown : s.vm.findClass RX14 = some m.cls := hown
  obtain ⟨⟨⟨hsz, hP, hD0⟩, hK, hN⟩, hJS⟩ := hv
  subst hsz
  have hD := hD0.self (sz := s.heap.size)
  generalize hAe : va_A (WM cy am eda th) s.heap.size = A at hD hJS ⊢
  have hA : ∀ q : Nat, s.heap.size ≤ q → A q := fun q h => by rw [← hAe]; exact Or.inr h
  have hS : va_S A s.heap s.heap [] := va_S.rf
  refine lv_aload_n hx hb dX14_depthOf_0 rfl (lv_at hl 0 rfl) ?_
  refine lv_iload_n hx hb dX14_depthOf_1 rfl (lv_at hl 1 rfl) ?_
  refine me_callV (wr := []) (wc := WM cy am eda th) (As := [.int d]) (rest := []) ⟨hx, hb, hml, hown, hts⟩ (m_noDeviceX l D cy  _ d hd) (cwV 1 hts gX14_depthOf_X14_noDevice rfl rfl rfl (by decide +kernel) ⟨by decide, by decide⟩) hK hN hP hD hS hA (ci := 19) (q0 := 0) rfl rfl rfl rfl hl.1 rfl (Nat.le_of_ble_eq_true rfl) dX14_depthOf_2 ⟨Nat.le_of_ble_eq_true rfl, Nat.le_of_ble_eq_true rfl⟩ (fun H locs hB hJ hS => ?_)
  obtain ⟨hP1, hD1⟩ := hB
  obtain ⟨hP, hD⟩ := hJ _ hP1 hD1
  have hP : va_P D vwCl (WM cy am eda 1) H := hP
  have hD : va_D A (WM cy am eda 1) := hD
  refine lv_if_eq (tgt := 12) hx hb dX14_depthOf_5 (by decide) (fun c => absurd c (by decide)) (fun _ => ?_)
  refine lv_iconst (v := 0) hx hb dX14_depthOf_8 (by decide) ?_
  refine lv_goto (tgt := 29) hx hb dX14_depthOf_9 (by decide) ?_
  refine W.widen (k := 0) (n := 0) (Nat.le_of_ble_eq_true rfl) (Nat.le_of_ble_eq_true rfl) ?_
  have hP9 := hP.sub (ws' := [(am 0, .inr (19, [.int 1, .ref (am 1), .ref (am 4), .ref (am 5), .ref (am 6), .ref (am 7), .ref (am 8), .int 0, .ref (am 9), .int 0, .int (-1), .int 100, .ref (am 10), .long 0, .int 0, .int 0, .int 0, .int 0, .long 0]))]) [0] rfl
  have hD9 := hD.sub (ws' := [(am 0, .inr (19, [.int 1, .ref (am 1), .ref (am 4), .ref (am 5), .ref (am 6), .ref (am 7), .ref (am 8), .int 0, .ref (am 9), .int 0, .int (-1), .int 100, .ref (am 10), .long 0, .int 0, .int 0, .int 0, .int 0, .long 0]))]) [0] (by decide) rfl
  exact W.iret hx hb hr (fun t ht hW => ⟨rfl, ⟨by rw [ht]; exact hP9, hD9⟩, hS.F ht⟩) hS.2.2 dX14_depthOf_29

set_option maxRecDepth 100000 in
set_option maxHeartbeats 4000000 in
theorem a_speedOf_0 (l : Launch) (D : va_G) (cy : Nat → ClassId) {ca : Nat} {ia : Nat → Nat} {am : Nat → Nat} {eda : Nat} {th : Int32} (sz : Nat) : MJ l D cy eda ca ia (WM cy am eda th) sz yX14_speedOf wsX14_speedOf 4 0 0 88 [.ref (am 0), .int 0] (some (.int 104)) (fun H => va_P D vwCl ([(am 0, .inr (19, [.int 0, .ref (am 1), .ref (am 4), .ref (am 5), .ref (am 6), .ref (am 7), .ref (am 8), .int 0, .ref (am 9), .int 0, .int (-1), .int 100, .ref (am 10), .long 0, .int 0, .int 0, .int 0, .int 0, .long 0]))]) H ∧ va_D (va_A (WM cy am eda th) sz) ([(am 0, .inr (19, [.int 0, .ref (am 1), .ref (am 4), .ref (am 5), .ref (am 6), .ref (am 7), .ref (am 8), .int 0, .ref (am 9), .int 0, .int (-1), .int 100, .ref (am 10), .long 0, .int 0, .int 0, .int 0, .int 0, .long 0]))])) := by
  refine ro_ofW (cc := cX14_speedOf) (maxL := 2) (ret := (some .char)) (lv := [(0, .ref (am 0)), (1, .int 0)]) (by decide) rfl (Nat.le_of_ble_eq_true rfl) rfl ?_
  intro p e s m below meth c ls hx hb hr hml hown hlocks hname hts hv hl
  have hown : s.vm.findClass RX14 = some m.cls := hown
  obtain ⟨⟨⟨hsz, hP, hD0⟩, hK, hN⟩, hJS⟩ := hv
  subst hsz
  have hD := hD0.self (sz := s.heap.size)
  generalize hAe : va_A (WM cy am eda th) s.heap.size = A at hD hJS ⊢
  have hA : ∀ q : Nat, s.heap.size ≤ q → A q := fun q h => by rw [← hAe]; exact Or.inr h
  have hS : va_S A s.heap s.heap [] := va_S.rf
  refine lv_aload_n hx hb dX14_speedOf_0 rfl (lv_at hl 0 rfl) ?_
  refine lv_iload_n hx hb dX14_speedOf_1 rfl (lv_at hl 1 rfl) ?_
  refine me_callV (wr := []) (wc := WM cy am eda th) (As := [.int 0]) (rest := []) ⟨hx, hb, hml, hown, hts⟩ (m_noDevice0 l D cy  _  ) (cwV 1 hts gX14_speedOf_X14_noDevice rfl rfl rfl (by decide +kernel) ⟨by decide, by decide⟩) hK hN hP hD hS hA (ci := 19) (q0 := 0) rfl rfl rfl rfl hl.1 rfl (Nat.le_of_ble_eq_true rfl) dX14_speedOf_2 ⟨Nat.le_of_ble_eq_true rfl, Nat.le_of_ble_eq_true rfl⟩ (fun H locs hB hJ hS => ?_)
  obtain ⟨hP1, hD1⟩ := hB
  obtain ⟨hP, hD⟩ := hJ _ hP1 hD1
  have hP : va_P D vwCl (WM cy am eda 0) H := hP
  have hD : va_D A (WM cy am eda 0) := hD
  refine lv_if_eq (tgt := 13) hx hb dX14_speedOf_5 (by decide) (fun _ => ?_) (fun c => absurd (by decide) c)
  refine lv_aload_n hx hb dX14_speedOf_13 rfl (lv_at hl 0 rfl) ?_
  refine lv_iload_n hx hb dX14_speedOf_14 rfl (lv_at hl 1 rfl) ?_
  refine ro_callV (As := [.int 0]) (rest := []) ⟨hx, hb, hml, hown, hts⟩ (c_runs0 l D cy ) (cwV 1 hts gX14_speedOf_X14_runs rfl rfl rfl (by decide +kernel) ⟨by decide, by decide⟩) hK hN hP hS (ci := 19) (q0 := 0) rfl rfl rfl rfl hl.1 rfl (Nat.le_of_ble_eq_true rfl) dX14_speedOf_15 ⟨Nat.le_of_ble_eq_true rfl, Nat.le_of_ble_eq_true rfl⟩ (fun H locs hP hS => ?_)
  refine W.widen (k := 0) (n := 0) (Nat.le_of_ble_eq_true rfl) (Nat.le_of_ble_eq_true rfl) ?_
  have hP9 := hP.sub (ws' := [(am 0, .inr (19, [.int 0, .ref (am 1), .ref (am 4), .ref (am 5), .ref (am 6), .ref (am 7), .ref (am 8), .int 0, .ref (am 9), .int 0, .int (-1), .int 100, .ref (am 10), .long 0, .int 0, .int 0, .int 0, .int 0, .long 0]))]) [0] rfl
  have hD9 := hD.sub (ws' := [(am 0, .inr (19, [.int 0, .ref (am 1), .ref (am 4), .ref (am 5), .ref (am 6), .ref (am 7), .ref (am 8), .int 0, .ref (am 9), .int 0, .int (-1), .int 100, .ref (am 10), .long 0, .int 0, .int 0, .int 0, .int 0, .long 0]))]) [0] (by decide) rfl
  exact W.zret hx hb hr (by decide) (fun t ht hW => ⟨rfl, ⟨by rw [ht]; exact hP9, hD9⟩, hS.F ht⟩) hS.2.2 dX14_speedOf_18

set_option maxRecDepth 100000 in
set_option maxHeartbeats 4000000 in
theorem a_speedOf_1 (l : Launch) (D : va_G) (cy : Nat → ClassId) {ca : Nat} {ia : Nat → Nat} {am : Nat → Nat} {eda : Nat} {th : Int32} (sz : Nat) (d : Int32) (hd : ¬ d = 0) : MJ l D cy eda ca ia (WM cy am eda th) sz yX14_speedOf wsX14_speedOf 3 0 0 64 [.ref (am 0), .int d] (some (.int 32)) (fun H => va_P D vwCl ([(am 0, .inr (19, [.int 1, .ref (am 1), .ref (am 4), .ref (am 5), .ref (am 6), .ref (am 7), .ref (am 8), .int 0, .ref (am 9), .int 0, .int (-1), .int 100, .ref (am 10), .long 0, .int 0, .int 0, .int 0, .int 0, .long 0]))]) H ∧ va_D (va_A (WM cy am eda th) sz) ([(am 0, .inr (19, [.int 1, .ref (am 1), .ref (am 4), .ref (am 5), .ref (am 6), .ref (am 7), .ref (am 8), .int 0, .ref (am 9), .int 0, .int (-1), .int 100, .ref (am 10), .long 0, .int 0, .int 0, .int 0, .int 0, .long 0]))])) := by
  refine ro_ofW (cc := cX14_speedOf) (maxL := 2) (ret := (some .char)) (lv := [(0, .ref (am 0)), (1, .int d)]) (by decide) rfl (Nat.le_of_ble_eq_true rfl) rfl ?_
  intro p e s m below meth c ls hx hb hr hml hown hlocks hname hts hv hl
  have hown : s.vm.findClass RX14 = some m.cls := hown
  obtain ⟨⟨⟨hsz, hP, hD0⟩, hK, hN⟩, hJS⟩ := hv
  subst hsz
  have hD := hD0.self (sz := s.heap.size)
  generalize hAe : va_A (WM cy am eda th) s.heap.size = A at hD hJS ⊢
  have hA : ∀ q : Nat, s.heap.size ≤ q → A q := fun q h => by rw [← hAe]; exact Or.inr h
  have hS : va_S A s.heap s.heap [] := va_S.rf
  refine lv_aload_n hx hb dX14_speedOf_0 rfl (lv_at hl 0 rfl) ?_
  refine lv_iload_n hx hb dX14_speedOf_1 rfl (lv_at hl 1 rfl) ?_
  refine me_callV (wr := []) (wc := WM cy am eda th) (As := [.int d]) (rest := []) ⟨hx, hb, hml, hown, hts⟩ (m_noDeviceX l D cy  _ d hd) (cwV 1 hts gX14_speedOf_X14_noDevice rfl rfl rfl (by decide +kernel) ⟨by decide, by decide⟩) hK hN hP hD hS hA (ci := 19) (q0 := 0) rfl rfl rfl rfl hl.1 rfl (Nat.le_of_ble_eq_true rfl) dX14_speedOf_2 ⟨Nat.le_of_ble_eq_true rfl, Nat.le_of_ble_eq_true rfl⟩ (fun H locs hB hJ hS => ?_)
  obtain ⟨hP1, hD1⟩ := hB
  obtain ⟨hP, hD⟩ := hJ _ hP1 hD1
  have hP : va_P D vwCl (WM cy am eda 1) H := hP
  have hD : va_D A (WM cy am eda 1) := hD
  refine lv_if_eq (tgt := 13) hx hb dX14_speedOf_5 (by decide) (fun c => absurd c (by decide)) (fun _ => ?_)
  refine lv_bipush (v := 32) hx hb dX14_speedOf_8 (by decide) ?_
  refine lv_goto (tgt := 18) hx hb dX14_speedOf_10 (by decide) ?_
  refine W.widen (k := 0) (n := 0) (Nat.le_of_ble_eq_true rfl) (Nat.le_of_ble_eq_true rfl) ?_
  have hP9 := hP.sub (ws' := [(am 0, .inr (19, [.int 1, .ref (am 1), .ref (am 4), .ref (am 5), .ref (am 6), .ref (am 7), .ref (am 8), .int 0, .ref (am 9), .int 0, .int (-1), .int 100, .ref (am 10), .long 0, .int 0, .int 0, .int 0, .int 0, .long 0]))]) [0] rfl
  have hD9 := hD.sub (ws' := [(am 0, .inr (19, [.int 1, .ref (am 1), .ref (am 4), .ref (am 5), .ref (am 6), .ref (am 7), .ref (am 8), .int 0, .ref (am 9), .int 0, .int (-1), .int 100, .ref (am 10), .long 0, .int 0, .int 0, .int 0, .int 0, .long 0]))]) [0] (by decide) rfl
  exact W.zret hx hb hr (by decide) (fun t ht hW => ⟨rfl, ⟨by rw [ht]; exact hP9, hD9⟩, hS.F ht⟩) hS.2.2 dX14_speedOf_18

theorem iw_X14_addressOf_RX10 : ∀ w ∈ u_ws RX10 TX10 16, w ∈ wsX14_addressOf := by decide +kernel
theorem iw_X14_addressOf_RX14 : ∀ w ∈ u_ws RX14 TX14 19, w ∈ wsX14_addressOf := by decide +kernel
set_option maxRecDepth 100000 in
set_option maxHeartbeats 4000000 in
theorem a_addressOf_0 (l : Launch) (D : va_G) (cy : Nat → ClassId) {ca : Nat} {ia : Nat → Nat} {am : Nat → Nat} {eda : Nat} {th : Int32} (sz : Nat) : MJ l D cy eda ca ia (WM cy am eda th) sz yX14_addressOf wsX14_addressOf 3 0 0 64 [.ref (am 0), .int 0] (some (.int 0)) (fun H => va_P D vwCl ([(am 0, .inr (19, [.int 0, .ref (am 1), .ref (am 4), .ref (am 5), .ref (am 6), .ref (am 7), .ref (am 8), .int 0, .ref (am 9), .int 0, .int (-1), .int 100, .ref (am 10), .long 0, .int 0, .int 0, .int 0, .int 0, .long 0]))]) H ∧ va_D (va_A (WM cy am eda th) sz) ([(am 0, .inr (19, [.int 0, .ref (am 1), .ref (am 4), .ref (am 5), .ref (am 6), .ref (am 7), .ref (am 8), .int 0, .ref (am 9), .int 0, .int (-1), .int 100, .ref (am 10), .long 0, .int 0, .int 0, .int 0, .int 0, .long 0]))])) := by
  refine ro_ofW (cc := cX14_addressOf) (maxL := 2) (ret := (some .int)) (lv := [(0, .ref (am 0)), (1, .int 0)]) (by decide) rfl (Nat.le_of_ble_eq_true rfl) rfl ?_
  intro p e s m below meth c ls hx hb hr hml hown hlocks hname hts hv hl
  have hown : s.vm.findClass RX14 = some m.cls := hown
  obtain ⟨⟨⟨hsz, hP, hD0⟩, hK, hN⟩, hJS⟩ := hv
  subst hsz
  have hD := hD0.self (sz := s.heap.size)
  generalize hAe : va_A (WM cy am eda th) s.heap.size = A at hD hJS ⊢
  have hA : ∀ q : Nat, s.heap.size ≤ q → A q := fun q h => by rw [← hAe]; exact Or.inr h
  have hS : va_S A s.heap s.heap [] := va_S.rf
  refine lv_aload_n hx hb dX14_addressOf_0 rfl (lv_at hl 0 rfl) ?_
  refine lv_iload_n hx hb dX14_addressOf_1 rfl (lv_at hl 1 rfl) ?_
  refine me_callV (wr := []) (wc := WM cy am eda th) (As := [.int 0]) (rest := []) ⟨hx, hb, hml, hown, hts⟩ (m_noDevice0 l D cy  _  ) (cwV 1 hts gX14_addressOf_X14_noDevice rfl rfl rfl (by decide +kernel) ⟨by decide, by decide⟩) hK hN hP hD hS hA (ci := 19) (q0 := 0) rfl rfl rfl rfl hl.1 rfl (Nat.le_of_ble_eq_true rfl) dX14_addressOf_2 ⟨Nat.le_of_ble_eq_true rfl, Nat.le_of_ble_eq_true rfl⟩ (fun H locs hB hJ hS => ?_)
  obtain ⟨hP1, hD1⟩ := hB
  obtain ⟨hP, hD⟩ := hJ _ hP1 hD1
  have hP : va_P D vwCl (WM cy am eda 0) H := hP
  have hD : va_D A (WM cy am eda 0) := hD
  refine lv_if_eq (tgt := 12) hx hb dX14_addressOf_5 (by decide) (fun _ => ?_) (fun c => absurd (by decide) c)
  refine lv_aload_n hx hb dX14_addressOf_12 rfl (lv_at hl 0 rfl) ?_
  refine va_get (D := D) (ci := 19) (v := .ref (am 1)) (C := RX14) (T := TX14) (N := 19) hx hb hts iw_X14_addressOf_RX14 hown hK hP 0 rfl rfl 1 (by decide) (hts (.fieldLink RX14 10 "HubcascadeModel" "devices" "Ljava/util/ArrayList;") (by decide +kernel)) (fun _ h9 => h9) rfl dX14_addressOf_13 ?_
  refine lv_iload_n hx hb dX14_addressOf_16 rfl (lv_at hl 1 rfl) ?_
  refine ro_callV (As := [.int 0]) (rest := []) ⟨hx, hb, hml, hown, hts⟩ (c_get0 l D cy ) (cwV 1 hts gX14_addressOf_Jx4a65c_get_915e3 rfl rfl rfl (by decide +kernel) ⟨by decide, by decide⟩) hK hN hP hS (ci := 4) (q0 := 1) rfl rfl rfl rfl hl.1 rfl (Nat.le_of_ble_eq_true rfl) dX14_addressOf_17 ⟨Nat.le_of_ble_eq_true rfl, Nat.le_of_ble_eq_true rfl⟩ (fun H locs hP hS => ?_)
  refine va_castY hx hb hown (hts (.classLink RX14 48 "HubcascadeModel$Device") (by decide +kernel)) (hN.2.2 ("HubcascadeModel$Device", "HubcascadeModel$Device") (by decide +kernel)) (va_recv hK hP (ci := 15) (q0 := 3) rfl rfl) dX14_addressOf_20 ?_
  refine va_getN (D := D) (ci := 15) (v := .int 0) (C := RX10) (T := TX10) (N := 16) hx hb hts iw_X14_addressOf_RX10 hown hK hP 3 rfl rfl 9 (by decide) (va_Nw.use rfl (hN.1 _ nf_86)) (fun _ h9 => h9) rfl dX14_addressOf_23 ?_
  refine W.widen (k := 0) (n := 0) (Nat.le_of_ble_eq_true rfl) (Nat.le_of_ble_eq_true rfl) ?_
  have hP9 := hP.sub (ws' := [(am 0, .inr (19, [.int 0, .ref (am 1), .ref (am 4), .ref (am 5), .ref (am 6), .ref (am 7), .ref (am 8), .int 0, .ref (am 9), .int 0, .int (-1), .int 100, .ref (am 10), .long 0, .int 0, .int 0, .int 0, .int 0, .long 0]))]) [0] rfl
  have hD9 := hD.sub (ws' := [(am 0, .inr (19, [.int 0, .ref (am 1), .ref (am 4), .ref (am 5), .ref (am 6), .ref (am 7), .ref (am 8), .int 0, .ref (am 9), .int 0, .int (-1), .int 100, .ref (am 10), .long 0, .int 0, .int 0, .int 0, .int 0, .long 0]))]) [0] (by decide) rfl
  exact W.iret hx hb hr (fun t ht hW => ⟨rfl, ⟨by rw [ht]; exact hP9, hD9⟩, hS.F ht⟩) hS.2.2 dX14_addressOf_26

set_option maxRecDepth 100000 in
set_option maxHeartbeats 4000000 in
theorem a_addressOf_1 (l : Launch) (D : va_G) (cy : Nat → ClassId) {ca : Nat} {ia : Nat → Nat} {am : Nat → Nat} {eda : Nat} {th : Int32} (sz : Nat) (d : Int32) (hd : ¬ d = 0) : MJ l D cy eda ca ia (WM cy am eda th) sz yX14_addressOf wsX14_addressOf 3 0 0 64 [.ref (am 0), .int d] (some (.int 0)) (fun H => va_P D vwCl ([(am 0, .inr (19, [.int 1, .ref (am 1), .ref (am 4), .ref (am 5), .ref (am 6), .ref (am 7), .ref (am 8), .int 0, .ref (am 9), .int 0, .int (-1), .int 100, .ref (am 10), .long 0, .int 0, .int 0, .int 0, .int 0, .long 0]))]) H ∧ va_D (va_A (WM cy am eda th) sz) ([(am 0, .inr (19, [.int 1, .ref (am 1), .ref (am 4), .ref (am 5), .ref (am 6), .ref (am 7), .ref (am 8), .int 0, .ref (am 9), .int 0, .int (-1), .int 100, .ref (am 10), .long 0, .int 0, .int 0, .int 0, .int 0, .long 0]))])) := by
  refine ro_ofW (cc := cX14_addressOf) (maxL := 2) (ret := (some .int)) (lv := [(0, .ref (am 0)), (1, .int d)]) (by decide) rfl (Nat.le_of_ble_eq_true rfl) rfl ?_
  intro p e s m below meth c ls hx hb hr hml hown hlocks hname hts hv hl
  have hown : s.vm.findClass RX14 = some m.cls := hown
  obtain ⟨⟨⟨hsz, hP, hD0⟩, hK, hN⟩, hJS⟩ := hv
  subst hsz
  have hD := hD0.self (sz := s.heap.size)
  generalize hAe : va_A (WM cy am eda th) s.heap.size = A at hD hJS ⊢
  have hA : ∀ q : Nat, s.heap.size ≤ q → A q := fun q h => by rw [← hAe]; exact Or.inr h
  have hS : va_S A s.heap s.heap [] := va_S.rf
  refine lv_aload_n hx hb dX14_addressOf_0 rfl (lv_at hl 0 rfl) ?_
  refine lv_iload_n hx hb dX14_addressOf_1 rfl (lv_at hl 1 rfl) ?_
  refine me_callV (wr := []) (wc := WM cy am eda th) (As := [.int d]) (rest := []) ⟨hx, hb, hml, hown, hts⟩ (m_noDeviceX l D cy  _ d hd) (cwV 1 hts gX14_addressOf_X14_noDevice rfl rfl rfl (by decide +kernel) ⟨by decide, by decide⟩) hK hN hP hD hS hA (ci := 19) (q0 := 0) rfl rfl rfl rfl hl.1 rfl (Nat.le_of_ble_eq_true rfl) dX14_addressOf_2 ⟨Nat.le_of_ble_eq_true rfl, Nat.le_of_ble_eq_true rfl⟩ (fun H locs hB hJ hS => ?_)
  obtain ⟨hP1, hD1⟩ := hB
  obtain ⟨hP, hD⟩ := hJ _ hP1 hD1
  have hP : va_P D vwCl (WM cy am eda 1) H := hP
  have hD : va_D A (WM cy am eda 1) := hD
  refine lv_if_eq (tgt := 12) hx hb dX14_addressOf_5 (by decide) (fun c => absurd c (by decide)) (fun _ => ?_)
  refine lv_iconst (v := 0) hx hb dX14_addressOf_8 (by decide) ?_
  refine lv_goto (tgt := 26) hx hb dX14_addressOf_9 (by decide) ?_
  refine W.widen (k := 0) (n := 0) (Nat.le_of_ble_eq_true rfl) (Nat.le_of_ble_eq_true rfl) ?_
  have hP9 := hP.sub (ws' := [(am 0, .inr (19, [.int 1, .ref (am 1), .ref (am 4), .ref (am 5), .ref (am 6), .ref (am 7), .ref (am 8), .int 0, .ref (am 9), .int 0, .int (-1), .int 100, .ref (am 10), .long 0, .int 0, .int 0, .int 0, .int 0, .long 0]))]) [0] rfl
  have hD9 := hD.sub (ws' := [(am 0, .inr (19, [.int 1, .ref (am 1), .ref (am 4), .ref (am 5), .ref (am 6), .ref (am 7), .ref (am 8), .int 0, .ref (am 9), .int 0, .int (-1), .int 100, .ref (am 10), .long 0, .int 0, .int 0, .int 0, .int 0, .long 0]))]) [0] (by decide) rfl
  exact W.iret hx hb hr (fun t ht hW => ⟨rfl, ⟨by rw [ht]; exact hP9, hD9⟩, hS.F ht⟩) hS.2.2 dX14_addressOf_26

theorem iw_X14_driverOf_RX10 : ∀ w ∈ u_ws RX10 TX10 16, w ∈ wsX14_driverOf := by decide +kernel
theorem iw_X14_driverOf_RX14 : ∀ w ∈ u_ws RX14 TX14 19, w ∈ wsX14_driverOf := by decide +kernel
set_option maxRecDepth 100000 in
set_option maxHeartbeats 4000000 in
theorem a_driverOf_0 (l : Launch) (D : va_G) (cy : Nat → ClassId) {ca : Nat} {ia : Nat → Nat} {am : Nat → Nat} {eda : Nat} {th : Int32} (sz : Nat) : MJ l D cy eda ca ia (WM cy am eda th) sz yX14_driverOf wsX14_driverOf 3 0 0 64 [.ref (am 0), .int 0] (some (.int (-1))) (fun H => va_P D vwCl ([(am 0, .inr (19, [.int 0, .ref (am 1), .ref (am 4), .ref (am 5), .ref (am 6), .ref (am 7), .ref (am 8), .int 0, .ref (am 9), .int 0, .int (-1), .int 100, .ref (am 10), .long 0, .int 0, .int 0, .int 0, .int 0, .long 0]))]) H ∧ va_D (va_A (WM cy am eda th) sz) ([(am 0, .inr (19, [.int 0, .ref (am 1), .ref (am 4), .ref (am 5), .ref (am 6), .ref (am 7), .ref (am 8), .int 0, .ref (am 9), .int 0, .int (-1), .int 100, .ref (am 10), .long 0, .int 0, .int 0, .int 0, .int 0, .long 0]))])) := by
  refine ro_ofW (cc := cX14_driverOf) (maxL := 2) (ret := (some .int)) (lv := [(0, .ref (am 0)), (1, .int 0)]) (by decide) rfl (Nat.le_of_ble_eq_true rfl) rfl ?_
  intro p e s m below meth c ls hx hb hr hml hown hlocks hname hts hv hl
  have hown : s.vm.findClass RX14 = some m.cls := hown
  obtain ⟨⟨⟨hsz, hP, hD0⟩, hK, hN⟩, hJS⟩ := hv
  subst hsz
  have hD := hD0.self (sz := s.heap.size)
  generalize hAe : va_A (WM cy am eda th) s.heap.size = A at hD hJS ⊢
  have hA : ∀ q : Nat, s.heap.size ≤ q → A q := fun q h => by rw [← hAe]; exact Or.inr h
  have hS : va_S A s.heap s.heap [] := va_S.rf
  refine lv_aload_n hx hb dX14_driverOf_0 rfl (lv_at hl 0 rfl) ?_
  refine lv_iload_n hx hb dX14_driverOf_1 rfl (lv_at hl 1 rfl) ?_
  refine me_callV (wr := []) (wc := WM cy am eda th) (As := [.int 0]) (rest := []) ⟨hx, hb, hml, hown, hts⟩ (m_noDevice0 l D cy  _  ) (cwV 1 hts gX14_driverOf_X14_noDevice rfl rfl rfl (by decide +kernel) ⟨by decide, by decide⟩) hK hN hP hD hS hA (ci := 19) (q0 := 0) rfl rfl rfl rfl hl.1 rfl (Nat.le_of_ble_eq_true rfl) dX14_driverOf_2 ⟨Nat.le_of_ble_eq_true rfl, Nat.le_of_ble_eq_true rfl⟩ (fun H locs hB hJ hS => ?_)
  obtain ⟨hP1, hD1⟩ := hB
  obtain ⟨hP, hD⟩ := hJ _ hP1 hD1
  have hP : va_P D vwCl (WM cy am eda 0) H := hP
  have hD : va_D A (WM cy am eda 0) := hD
  refine lv_if_eq (tgt := 12) hx hb dX14_driverOf_5 (by decide) (fun _ => ?_) (fun c => absurd (by decide) c)
  refine lv_aload_n hx hb dX14_driverOf_12 rfl (lv_at hl 0 rfl) ?_
  refine va_get (D := D) (ci := 19) (v := .ref (am 1)) (C := RX14) (T := TX14) (N := 19) hx hb hts iw_X14_driverOf_RX14 hown hK hP 0 rfl rfl 1 (by decide) (hts (.fieldLink RX14 10 "HubcascadeModel" "devices" "Ljava/util/ArrayList;") (by decide +kernel)) (fun _ h9 => h9) rfl dX14_driverOf_13 ?_
  refine lv_iload_n hx hb dX14_driverOf_16 rfl (lv_at hl 1 rfl) ?_
  refine ro_callV (As := [.int 0]) (rest := []) ⟨hx, hb, hml, hown, hts⟩ (c_get0 l D cy ) (cwV 1 hts gX14_driverOf_Jx4a65c_get_915e3 rfl rfl rfl (by decide +kernel) ⟨by decide, by decide⟩) hK hN hP hS (ci := 4) (q0 := 1) rfl rfl rfl rfl hl.1 rfl (Nat.le_of_ble_eq_true rfl) dX14_driverOf_17 ⟨Nat.le_of_ble_eq_true rfl, Nat.le_of_ble_eq_true rfl⟩ (fun H locs hP hS => ?_)
  refine va_castY hx hb hown (hts (.classLink RX14 48 "HubcascadeModel$Device") (by decide +kernel)) (hN.2.2 ("HubcascadeModel$Device", "HubcascadeModel$Device") (by decide +kernel)) (va_recv hK hP (ci := 15) (q0 := 3) rfl rfl) dX14_driverOf_20 ?_
  refine va_getN (D := D) (ci := 15) (v := .int (-1)) (C := RX10) (T := TX10) (N := 16) hx hb hts iw_X14_driverOf_RX10 hown hK hP 3 rfl rfl 10 (by decide) (va_Nw.use rfl (hN.1 _ nf_87)) (fun _ h9 => h9) rfl dX14_driverOf_23 ?_
  refine W.widen (k := 0) (n := 0) (Nat.le_of_ble_eq_true rfl) (Nat.le_of_ble_eq_true rfl) ?_
  have hP9 := hP.sub (ws' := [(am 0, .inr (19, [.int 0, .ref (am 1), .ref (am 4), .ref (am 5), .ref (am 6), .ref (am 7), .ref (am 8), .int 0, .ref (am 9), .int 0, .int (-1), .int 100, .ref (am 10), .long 0, .int 0, .int 0, .int 0, .int 0, .long 0]))]) [0] rfl
  have hD9 := hD.sub (ws' := [(am 0, .inr (19, [.int 0, .ref (am 1), .ref (am 4), .ref (am 5), .ref (am 6), .ref (am 7), .ref (am 8), .int 0, .ref (am 9), .int 0, .int (-1), .int 100, .ref (am 10), .long 0, .int 0, .int 0, .int 0, .int 0, .long 0]))]) [0] (by decide) rfl
  exact W.iret hx hb hr (fun t ht hW => ⟨rfl, ⟨by rw [ht]; exact hP9, hD9⟩, hS.F ht⟩) hS.2.2 dX14_driverOf_26

set_option maxRecDepth 100000 in
set_option maxHeartbeats 4000000 in
theorem a_driverOf_1 (l : Launch) (D : va_G) (cy : Nat → ClassId) {ca : Nat} {ia : Nat → Nat} {am : Nat → Nat} {eda : Nat} {th : Int32} (sz : Nat) (d : Int32) (hd : ¬ d = 0) : MJ l D cy eda ca ia (WM cy am eda th) sz yX14_driverOf wsX14_driverOf 3 0 0 64 [.ref (am 0), .int d] (some (.int 0)) (fun H => va_P D vwCl ([(am 0, .inr (19, [.int 1, .ref (am 1), .ref (am 4), .ref (am 5), .ref (am 6), .ref (am 7), .ref (am 8), .int 0, .ref (am 9), .int 0, .int (-1), .int 100, .ref (am 10), .long 0, .int 0, .int 0, .int 0, .int 0, .long 0]))]) H ∧ va_D (va_A (WM cy am eda th) sz) ([(am 0, .inr (19, [.int 1, .ref (am 1), .ref (am 4), .ref (am 5), .ref (am 6), .ref (am 7), .ref (am 8), .int 0, .ref (am 9), .int 0, .int (-1), .int 100, .ref (am 10), .long 0, .int 0, .int 0, .int 0, .int 0, .long 0]))])) := by
  refine ro_ofW (cc := cX14_driverOf) (maxL := 2) (ret := (some .int)) (lv := [(0, .ref (am 0)), (1, .int d)]) (by decide) rfl (Nat.le_of_ble_eq_true rfl) rfl ?_
  intro p e s m below meth c ls hx hb hr hml hown hlocks hname hts hv hl
  have hown : s.vm.findClass RX14 = some m.cls := hown
  obtain ⟨⟨⟨hsz, hP, hD0⟩, hK, hN⟩, hJS⟩ := hv
  subst hsz
  have hD := hD0.self (sz := s.heap.size)
  generalize hAe : va_A (WM cy am eda th) s.heap.size = A at hD hJS ⊢
  have hA : ∀ q : Nat, s.heap.size ≤ q → A q := fun q h => by rw [← hAe]; exact Or.inr h
  have hS : va_S A s.heap s.heap [] := va_S.rf
  refine lv_aload_n hx hb dX14_driverOf_0 rfl (lv_at hl 0 rfl) ?_
  refine lv_iload_n hx hb dX14_driverOf_1 rfl (lv_at hl 1 rfl) ?_
  refine me_callV (wr := []) (wc := WM cy am eda th) (As := [.int d]) (rest := []) ⟨hx, hb, hml, hown, hts⟩ (m_noDeviceX l D cy  _ d hd) (cwV 1 hts gX14_driverOf_X14_noDevice rfl rfl rfl (by decide +kernel) ⟨by decide, by decide⟩) hK hN hP hD hS hA (ci := 19) (q0 := 0) rfl rfl rfl rfl hl.1 rfl (Nat.le_of_ble_eq_true rfl) dX14_driverOf_2 ⟨Nat.le_of_ble_eq_true rfl, Nat.le_of_ble_eq_true rfl⟩ (fun H locs hB hJ hS => ?_)
  obtain ⟨hP1, hD1⟩ := hB
  obtain ⟨hP, hD⟩ := hJ _ hP1 hD1
  have hP : va_P D vwCl (WM cy am eda 1) H := hP
  have hD : va_D A (WM cy am eda 1) := hD
  refine lv_if_eq (tgt := 12) hx hb dX14_driverOf_5 (by decide) (fun c => absurd c (by decide)) (fun _ => ?_)
  refine lv_iconst (v := 0) hx hb dX14_driverOf_8 (by decide) ?_
  refine lv_goto (tgt := 26) hx hb dX14_driverOf_9 (by decide) ?_
  refine W.widen (k := 0) (n := 0) (Nat.le_of_ble_eq_true rfl) (Nat.le_of_ble_eq_true rfl) ?_
  have hP9 := hP.sub (ws' := [(am 0, .inr (19, [.int 1, .ref (am 1), .ref (am 4), .ref (am 5), .ref (am 6), .ref (am 7), .ref (am 8), .int 0, .ref (am 9), .int 0, .int (-1), .int 100, .ref (am 10), .long 0, .int 0, .int 0, .int 0, .int 0, .long 0]))]) [0] rfl
  have hD9 := hD.sub (ws' := [(am 0, .inr (19, [.int 1, .ref (am 1), .ref (am 4), .ref (am 5), .ref (am 6), .ref (am 7), .ref (am 8), .int 0, .ref (am 9), .int 0, .int (-1), .int 100, .ref (am 10), .long 0, .int 0, .int 0, .int 0, .int 0, .long 0]))]) [0] (by decide) rfl
  exact W.iret hx hb hr (fun t ht hW => ⟨rfl, ⟨by rw [ht]; exact hP9, hD9⟩, hS.F ht⟩) hS.2.2 dX14_driverOf_26

theorem iw_X14_blame_RX10 : ∀ w ∈ u_ws RX10 TX10 16, w ∈ wsX14_blame := by decide +kernel
theorem iw_X14_blame_RX14 : ∀ w ∈ u_ws RX14 TX14 19, w ∈ wsX14_blame := by decide +kernel
set_option maxRecDepth 100000 in
set_option maxHeartbeats 4000000 in
theorem a_blame_0 (l : Launch) (D : va_G) (cy : Nat → ClassId) {ca : Nat} {ia : Nat → Nat} {am : Nat → Nat} {eda : Nat} {th : Int32} (sz : Nat) : MJ l D cy eda ca ia (WM cy am eda th) sz yX14_blame wsX14_blame 3 0 0 64 [.ref (am 0), .int 0] (some (.int 0)) (fun H => va_P D vwCl ([(am 0, .inr (19, [.int 0, .ref (am 1), .ref (am 4), .ref (am 5), .ref (am 6), .ref (am 7), .ref (am 8), .int 0, .ref (am 9), .int 0, .int (-1), .int 100, .ref (am 10), .long 0, .int 0, .int 0, .int 0, .int 0, .long 0]))]) H ∧ va_D (va_A (WM cy am eda th) sz) ([(am 0, .inr (19, [.int 0, .ref (am 1), .ref (am 4), .ref (am 5), .ref (am 6), .ref (am 7), .ref (am 8), .int 0, .ref (am 9), .int 0, .int (-1), .int 100, .ref (am 10), .long 0, .int 0, .int 0, .int 0, .int 0, .long 0]))])) := by
  refine ro_ofW (cc := cX14_blame) (maxL := 2) (ret := (some .int)) (lv := [(0, .ref (am 0)), (1, .int 0)]) (by decide) rfl (Nat.le_of_ble_eq_true rfl) rfl ?_
  intro p e s m below meth c ls hx hb hr hml hown hlocks hname hts hv hl
  have hown : s.vm.findClass RX14 = some m.cls := hown
  obtain ⟨⟨⟨hsz, hP, hD0⟩, hK, hN⟩, hJS⟩ := hv
  subst hsz
  have hD := hD0.self (sz := s.heap.size)
  generalize hAe : va_A (WM cy am eda th) s.heap.size = A at hD hJS ⊢
  have hA : ∀ q : Nat, s.heap.size ≤ q → A q := fun q h => by rw [← hAe]; exact Or.inr h
  have hS : va_S A s.heap s.heap [] := va_S.rf
  refine lv_aload_n hx hb dX14_blame_0 rfl (lv_at hl 0 rfl) ?_
  refine lv_iload_n hx hb dX14_blame_1 rfl (lv_at hl 1 rfl) ?_
  refine me_callV (wr := []) (wc := WM cy am eda th) (As := [.int 0]) (rest := []) ⟨hx, hb, hml, hown, hts⟩ (m_noDevice0 l D cy  _  ) (cwV 1 hts gX14_blame_X14_noDevice rfl rfl rfl (by decide +kernel) ⟨by decide, by decide⟩) hK hN hP hD hS hA (ci := 19) (q0 := 0) rfl rfl rfl rfl hl.1 rfl (Nat.le_of_ble_eq_true rfl) dX14_blame_2 ⟨Nat.le_of_ble_eq_true rfl, Nat.le_of_ble_eq_true rfl⟩ (fun H locs hB hJ hS => ?_)
  obtain ⟨hP1, hD1⟩ := hB
  obtain ⟨hP, hD⟩ := hJ _ hP1 hD1
  have hP : va_P D vwCl (WM cy am eda 0) H := hP
  have hD : va_D A (WM cy am eda 0) := hD
  refine lv_if_eq (tgt := 12) hx hb dX14_blame_5 (by decide) (fun _ => ?_) (fun c => absurd (by decide) c)
  refine lv_aload_n hx hb dX14_blame_12 rfl (lv_at hl 0 rfl) ?_
  refine va_get (D := D) (ci := 19) (v := .ref (am 1)) (C := RX14) (T := TX14) (N := 19) hx hb hts iw_X14_blame_RX14 hown hK hP 0 rfl rfl 1 (by decide) (hts (.fieldLink RX14 10 "HubcascadeModel" "devices" "Ljava/util/ArrayList;") (by decide +kernel)) (fun _ h9 => h9) rfl dX14_blame_13 ?_
  refine lv_iload_n hx hb dX14_blame_16 rfl (lv_at hl 1 rfl) ?_
  refine ro_callV (As := [.int 0]) (rest := []) ⟨hx, hb, hml, hown, hts⟩ (c_get0 l D cy ) (cwV 1 hts gX14_blame_Jx4a65c_get_915e3 rfl rfl rfl (by decide +kernel) ⟨by decide, by decide⟩) hK hN hP hS (ci := 4) (q0 := 1) rfl rfl rfl rfl hl.1 rfl (Nat.le_of_ble_eq_true rfl) dX14_blame_17 ⟨Nat.le_of_ble_eq_true rfl, Nat.le_of_ble_eq_true rfl⟩ (fun H locs hP hS => ?_)
  refine va_castY hx hb hown (hts (.classLink RX14 48 "HubcascadeModel$Device") (by decide +kernel)) (hN.2.2 ("HubcascadeModel$Device", "HubcascadeModel$Device") (by decide +kernel)) (va_recv hK hP (ci := 15) (q0 := 3) rfl rfl) dX14_blame_20 ?_
  refine va_getN (D := D) (ci := 15) (v := .int 0) (C := RX10) (T := TX10) (N := 16) hx hb hts iw_X14_blame_RX10 hown hK hP 3 rfl rfl 11 (by decide) (va_Nw.use rfl (hN.1 _ nf_88)) (fun _ h9 => h9) rfl dX14_blame_23 ?_
  refine W.widen (k := 0) (n := 0) (Nat.le_of_ble_eq_true rfl) (Nat.le_of_ble_eq_true rfl) ?_
  have hP9 := hP.sub (ws' := [(am 0, .inr (19, [.int 0, .ref (am 1), .ref (am 4), .ref (am 5), .ref (am 6), .ref (am 7), .ref (am 8), .int 0, .ref (am 9), .int 0, .int (-1), .int 100, .ref (am 10), .long 0, .int 0, .int 0, .int 0, .int 0, .long 0]))]) [0] rfl
  have hD9 := hD.sub (ws' := [(am 0, .inr (19, [.int 0, .ref (am 1), .ref (am 4), .ref (am 5), .ref (am 6), .ref (am 7), .ref (am 8), .int 0, .ref (am 9), .int 0, .int (-1), .int 100, .ref (am 10), .long 0, .int 0, .int 0, .int 0, .int 0, .long 0]))]) [0] (by decide) rfl
  exact W.iret hx hb hr (fun t ht hW => ⟨rfl, ⟨by rw [ht]; exact hP9, hD9⟩, hS.F ht⟩) hS.2.2 dX14_blame_26

set_option maxRecDepth 100000 in
set_option maxHeartbeats 4000000 in
theorem a_blame_1 (l : Launch) (D : va_G) (cy : Nat → ClassId) {ca : Nat} {ia : Nat → Nat} {am : Nat → Nat} {eda : Nat} {th : Int32} (sz : Nat) (d : Int32) (hd : ¬ d = 0) : MJ l D cy eda ca ia (WM cy am eda th) sz yX14_blame wsX14_blame 3 0 0 64 [.ref (am 0), .int d] (some (.int 0)) (fun H => va_P D vwCl ([(am 0, .inr (19, [.int 1, .ref (am 1), .ref (am 4), .ref (am 5), .ref (am 6), .ref (am 7), .ref (am 8), .int 0, .ref (am 9), .int 0, .int (-1), .int 100, .ref (am 10), .long 0, .int 0, .int 0, .int 0, .int 0, .long 0]))]) H ∧ va_D (va_A (WM cy am eda th) sz) ([(am 0, .inr (19, [.int 1, .ref (am 1), .ref (am 4), .ref (am 5), .ref (am 6), .ref (am 7), .ref (am 8), .int 0, .ref (am 9), .int 0, .int (-1), .int 100, .ref (am 10), .long 0, .int 0, .int 0, .int 0, .int 0, .long 0]))])) := by
  refine ro_ofW (cc := cX14_blame) (maxL := 2) (ret := (some .int)) (lv := [(0, .ref (am 0)), (1, .int d)]) (by decide) rfl (Nat.le_of_ble_eq_true rfl) rfl ?_
  intro p e s m below meth c ls hx hb hr hml hown hlocks hname hts hv hl
  have hown : s.vm.findClass RX14 = some m.cls := hown
  obtain ⟨⟨⟨hsz, hP, hD0⟩, hK, hN⟩, hJS⟩ := hv
  subst hsz
  have hD := hD0.self (sz := s.heap.size)
  generalize hAe : va_A (WM cy am eda th) s.heap.size = A at hD hJS ⊢
  have hA : ∀ q : Nat, s.heap.size ≤ q → A q := fun q h => by rw [← hAe]; exact Or.inr h
  have hS : va_S A s.heap s.heap [] := va_S.rf
  refine lv_aload_n hx hb dX14_blame_0 rfl (lv_at hl 0 rfl) ?_
  refine lv_iload_n hx hb dX14_blame_1 rfl (lv_at hl 1 rfl) ?_
  refine me_callV (wr := []) (wc := WM cy am eda th) (As := [.int d]) (rest := []) ⟨hx, hb, hml, hown, hts⟩ (m_noDeviceX l D cy  _ d hd) (cwV 1 hts gX14_blame_X14_noDevice rfl rfl rfl (by decide +kernel) ⟨by decide, by decide⟩) hK hN hP hD hS hA (ci := 19) (q0 := 0) rfl rfl rfl rfl hl.1 rfl (Nat.le_of_ble_eq_true rfl) dX14_blame_2 ⟨Nat.le_of_ble_eq_true rfl, Nat.le_of_ble_eq_true rfl⟩ (fun H locs hB hJ hS => ?_)
  obtain ⟨hP1, hD1⟩ := hB
  obtain ⟨hP, hD⟩ := hJ _ hP1 hD1
  have hP : va_P D vwCl (WM cy am eda 1) H := hP
  have hD : va_D A (WM cy am eda 1) := hD
  refine lv_if_eq (tgt := 12) hx hb dX14_blame_5 (by decide) (fun c => absurd c (by decide)) (fun _ => ?_)
  refine lv_iconst (v := 0) hx hb dX14_blame_8 (by decide) ?_
  refine lv_goto (tgt := 26) hx hb dX14_blame_9 (by decide) ?_
  refine W.widen (k := 0) (n := 0) (Nat.le_of_ble_eq_true rfl) (Nat.le_of_ble_eq_true rfl) ?_
  have hP9 := hP.sub (ws' := [(am 0, .inr (19, [.int 1, .ref (am 1), .ref (am 4), .ref (am 5), .ref (am 6), .ref (am 7), .ref (am 8), .int 0, .ref (am 9), .int 0, .int (-1), .int 100, .ref (am 10), .long 0, .int 0, .int 0, .int 0, .int 0, .long 0]))]) [0] rfl
  have hD9 := hD.sub (ws' := [(am 0, .inr (19, [.int 1, .ref (am 1), .ref (am 4), .ref (am 5), .ref (am 6), .ref (am 7), .ref (am 8), .int 0, .ref (am 9), .int 0, .int (-1), .int 100, .ref (am 10), .long 0, .int 0, .int 0, .int 0, .int 0, .long 0]))]) [0] (by decide) rfl
  exact W.iret hx hb hr (fun t ht hW => ⟨rfl, ⟨by rw [ht]; exact hP9, hD9⟩, hS.F ht⟩) hS.2.2 dX14_blame_26

theorem iw_X14_translator_RX14 : ∀ w ∈ u_ws RX14 TX14 19, w ∈ wsX14_translator := by decide +kernel
set_option maxRecDepth 100000 in
set_option maxHeartbeats 4000000 in
theorem a_translator_2 (l : Launch) (D : va_G) (cy : Nat → ClassId) {ca : Nat} {ia : Nat → Nat} {am : Nat → Nat} {eda : Nat} {th : Int32} (sz : Nat) : MJ l D cy eda ca ia (WM cy am eda th) sz yX14_translator wsX14_translator 3 0 0 64 [.ref (am 0), .int 0] (some (.int 0)) (fun H => va_P D vwCl ([(am 0, .inr (19, [.int 2, .ref (am 1), .ref (am 4), .ref (am 5), .ref (am 6), .ref (am 7), .ref (am 8), .int 0, .ref (am 9), .int 0, .int (-1), .int 100, .ref (am 10), .long 0, .int 0, .int 0, .int 0, .int 0, .long 0]))]) H ∧ va_D (va_A (WM cy am eda th) sz) ([(am 0, .inr (19, [.int 2, .ref (am 1), .ref (am 4), .ref (am 5), .ref (am 6), .ref (am 7), .ref (am 8), .int 0, .ref (am 9), .int 0, .int (-1), .int 100, .ref (am 10), .long 0, .int 0, .int 0, .int 0, .int 0, .long 0]))])) := by
  refine ro_ofW (cc := cX14_translator) (maxL := 2) (ret := (some .int)) (lv := [(0, .ref (am 0)), (1, .int 0)]) (by decide) rfl (Nat.le_of_ble_eq_true rfl) rfl ?_
  intro p e s m below meth c ls hx hb hr hml hown hlocks hname hts hv hl
  have hown : s.vm.findClass RX14 = some m.cls := hown
  obtain ⟨⟨⟨hsz, hP, hD0⟩, hK, hN⟩, hJS⟩ := hv
  subst hsz
  have hD := hD0.self (sz := s.heap.size)
  generalize hAe : va_A (WM cy am eda th) s.heap.size = A at hD hJS ⊢
  have hA : ∀ q : Nat, s.heap.size ≤ q → A q := fun q h => by rw [← hAe]; exact Or.inr h
  have hS : va_S A s.heap s.heap [] := va_S.rf
  refine lv_aload_n hx hb dX14_translator_0 rfl (lv_at hl 0 rfl) ?_
  refine lv_iload_n hx hb dX14_translator_1 rfl (lv_at hl 1 rfl) ?_
  refine me_callV (wr := []) (wc := WM cy am eda th) (As := [.int 0]) (rest := []) ⟨hx, hb, hml, hown, hts⟩ (m_noDevice0 l D cy  _  ) (cwV 1 hts gX14_translator_X14_noDevice rfl rfl rfl (by decide +kernel) ⟨by decide, by decide⟩) hK hN hP hD hS hA (ci := 19) (q0 := 0) rfl rfl rfl rfl hl.1 rfl (Nat.le_of_ble_eq_true rfl) dX14_translator_2 ⟨Nat.le_of_ble_eq_true rfl, Nat.le_of_ble_eq_true rfl⟩ (fun H locs hB hJ hS => ?_)
  obtain ⟨hP1, hD1⟩ := hB
  obtain ⟨hP, hD⟩ := hJ _ hP1 hD1
  have hP : va_P D vwCl (WM cy am eda 0) H := hP
  have hD : va_D A (WM cy am eda 0) := hD
  refine lv_if_eq (tgt := 10) hx hb dX14_translator_5 (by decide) (fun _ => ?_) (fun c => absurd (by decide) c)
  refine lv_aload_n hx hb dX14_translator_10 rfl (lv_at hl 0 rfl) ?_
  refine lv_iload_n hx hb dX14_translator_11 rfl (lv_at hl 1 rfl) ?_
  refine lv_if_eq (tgt := 23) hx hb dX14_translator_12 (by decide) (fun _ => ?_) (fun c => absurd (by decide) c)
  refine lv_iconst (v := 2) hx hb dX14_translator_23 (by decide) ?_
  refine lv_goto (tgt := 28) hx hb dX14_translator_24 (by decide) ?_
  refine va_put (D := D) (ci := 19) (v := .int 2) (ty := .int) (C := RX14) (T := TX14) (N := 19) hx hb hts iw_X14_translator_RX14 tyX14 tyX14_ok nmX14 hown hK hP hD hS 0 rfl rfl 0 (by decide) (hts (.fieldLink RX14 61 "HubcascadeModel" "thrown" "I") (by decide +kernel)) (fun _ h9 => h9) rfl (by decide +kernel) rfl rfl (Nat.le_of_ble_eq_true rfl) dX14_translator_28 (fun H locs hP hD hS => ?_)
  have hP : va_P D vwCl (WM cy am eda 2) H := hP
  have hD : va_D A (WM cy am eda 2) := hD
  refine lv_aload_n hx hb dX14_translator_31 rfl (lv_at hl 0 rfl) ?_
  refine va_get (D := D) (ci := 19) (v := .int 2) (C := RX14) (T := TX14) (N := 19) hx hb hts iw_X14_translator_RX14 hown hK hP 0 rfl rfl 0 (by decide) (hts (.fieldLink RX14 61 "HubcascadeModel" "thrown" "I") (by decide +kernel)) (fun _ h9 => h9) rfl dX14_translator_32 ?_
  refine lv_if_le (tgt := 42) hx hb dX14_translator_35 (by decide) (fun c => absurd c (by decide)) (fun _ => ?_)
  refine lv_iconst (v := 0) hx hb dX14_translator_38 (by decide) ?_
  refine lv_goto (tgt := 47) hx hb dX14_translator_39 (by decide) ?_
  refine W.widen (k := 0) (n := 0) (Nat.le_of_ble_eq_true rfl) (Nat.le_of_ble_eq_true rfl) ?_
  have hP9 := hP.sub (ws' := [(am 0, .inr (19, [.int 2, .ref (am 1), .ref (am 4), .ref (am 5), .ref (am 6), .ref (am 7), .ref (am 8), .int 0, .ref (am 9), .int 0, .int (-1), .int 100, .ref (am 10), .long 0, .int 0, .int 0, .int 0, .int 0, .long 0]))]) [0] rfl
  have hD9 := hD.sub (ws' := [(am 0, .inr (19, [.int 2, .ref (am 1), .ref (am 4), .ref (am 5), .ref (am 6), .ref (am 7), .ref (am 8), .int 0, .ref (am 9), .int 0, .int (-1), .int 100, .ref (am 10), .long 0, .int 0, .int 0, .int 0, .int 0, .long 0]))]) [0] (by decide) rfl
  exact W.iret hx hb hr (fun t ht hW => ⟨rfl, ⟨by rw [ht]; exact hP9, hD9⟩, hS.F ht⟩) hS.2.2 dX14_translator_47

set_option maxRecDepth 100000 in
set_option maxHeartbeats 4000000 in
theorem a_translator_1 (l : Launch) (D : va_G) (cy : Nat → ClassId) {ca : Nat} {ia : Nat → Nat} {am : Nat → Nat} {eda : Nat} {th : Int32} (sz : Nat) (d : Int32) (hd : ¬ d = 0) : MJ l D cy eda ca ia (WM cy am eda th) sz yX14_translator wsX14_translator 3 0 0 64 [.ref (am 0), .int d] (some (.int 0)) (fun H => va_P D vwCl ([(am 0, .inr (19, [.int 1, .ref (am 1), .ref (am 4), .ref (am 5), .ref (am 6), .ref (am 7), .ref (am 8), .int 0, .ref (am 9), .int 0, .int (-1), .int 100, .ref (am 10), .long 0, .int 0, .int 0, .int 0, .int 0, .long 0]))]) H ∧ va_D (va_A (WM cy am eda th) sz) ([(am 0, .inr (19, [.int 1, .ref (am 1), .ref (am 4), .ref (am 5), .ref (am 6), .ref (am 7), .ref (am 8), .int 0, .ref (am 9), .int 0, .int (-1), .int 100, .ref (am 10), .long 0, .int 0, .int 0, .int 0, .int 0, .long 0]))])) := by
  refine ro_ofW (cc := cX14_translator) (maxL := 2) (ret := (some .int)) (lv := [(0, .ref (am 0)), (1, .int d)]) (by decide) rfl (Nat.le_of_ble_eq_true rfl) rfl ?_
  intro p e s m below meth c ls hx hb hr hml hown hlocks hname hts hv hl
  have hown : s.vm.findClass RX14 = some m.cls := hown
  obtain ⟨⟨⟨hsz, hP, hD0⟩, hK, hN⟩, hJS⟩ := hv
  subst hsz
  have hD := hD0.self (sz := s.heap.size)
  generalize hAe : va_A (WM cy am eda th) s.heap.size = A at hD hJS ⊢
  have hA : ∀ q : Nat, s.heap.size ≤ q → A q := fun q h => by rw [← hAe]; exact Or.inr h
  have hS : va_S A s.heap s.heap [] := va_S.rf
  refine lv_aload_n hx hb dX14_translator_0 rfl (lv_at hl 0 rfl) ?_
  refine lv_iload_n hx hb dX14_translator_1 rfl (lv_at hl 1 rfl) ?_
  refine me_callV (wr := []) (wc := WM cy am eda th) (As := [.int d]) (rest := []) ⟨hx, hb, hml, hown, hts⟩ (m_noDeviceX l D cy  _ d hd) (cwV 1 hts gX14_translator_X14_noDevice rfl rfl rfl (by decide +kernel) ⟨by decide, by decide⟩) hK hN hP hD hS hA (ci := 19) (q0 := 0) rfl rfl rfl rfl hl.1 rfl (Nat.le_of_ble_eq_true rfl) dX14_translator_2 ⟨Nat.le_of_ble_eq_true rfl, Nat.le_of_ble_eq_true rfl⟩ (fun H locs hB hJ hS => ?_)
  obtain ⟨hP1, hD1⟩ := hB
  obtain ⟨hP, hD⟩ := hJ _ hP1 hD1
  have hP : va_P D vwCl (WM cy am eda 1) H := hP
  have hD : va_D A (WM cy am eda 1) := hD
  refine lv_if_eq (tgt := 10) hx hb dX14_translator_5 (by decide) (fun c => absurd c (by decide)) (fun _ => ?_)
  refine lv_iconst (v := 0) hx hb dX14_translator_8 (by decide) ?_
  refine W.widen (k := 0) (n := 0) (Nat.le_of_ble_eq_true rfl) (Nat.le_of_ble_eq_true rfl) ?_
  have hP9 := hP.sub (ws' := [(am 0, .inr (19, [.int 1, .ref (am 1), .ref (am 4), .ref (am 5), .ref (am 6), .ref (am 7), .ref (am 8), .int 0, .ref (am 9), .int 0, .int (-1), .int 100, .ref (am 10), .long 0, .int 0, .int 0, .int 0, .int 0, .long 0]))]) [0] rfl
  have hD9 := hD.sub (ws' := [(am 0, .inr (19, [.int 1, .ref (am 1), .ref (am 4), .ref (am 5), .ref (am 6), .ref (am 7), .ref (am 8), .int 0, .ref (am 9), .int 0, .int (-1), .int 100, .ref (am 10), .long 0, .int 0, .int 0, .int 0, .int 0, .long 0]))]) [0] (by decide) rfl
  exact W.iret hx hb hr (fun t ht hW => ⟨rfl, ⟨by rw [ht]; exact hP9, hD9⟩, hS.F ht⟩) hS.2.2 dX14_translator_9

theorem iw_X14_wake_RX10 : ∀ w ∈ u_ws RX10 TX10 16, w ∈ wsX14_wake := by decide +kernel
theorem iw_X14_wake_RX14 : ∀ w ∈ u_ws RX14 TX14 19, w ∈ wsX14_wake := by decide +kernel
set_option maxRecDepth 100000 in
set_option maxHeartbeats 4000000 in
theorem a_wake_2 (l : Launch) (D : va_G) (cy : Nat → ClassId) {ca : Nat} {ia : Nat → Nat} {am : Nat → Nat} {eda : Nat} {th : Int32} (sz : Nat) : MJ l D cy eda ca ia (WM cy am eda th) sz yX14_wake wsX14_wake 3 0 0 64 [.ref (am 0), .int 0] (some (.int 0)) (fun H => va_P D vwCl ([(am 0, .inr (19, [.int 2, .ref (am 1), .ref (am 4), .ref (am 5), .ref (am 6), .ref (am 7), .ref (am 8), .int 0, .ref (am 9), .int 0, .int (-1), .int 100, .ref (am 10), .long 0, .int 0, .int 0, .int 0, .int 0, .long 0]))]) H ∧ va_D (va_A (WM cy am eda th) sz) ([(am 0, .inr (19, [.int 2, .ref (am 1), .ref (am 4), .ref (am 5), .ref (am 6), .ref (am 7), .ref (am 8), .int 0, .ref (am 9), .int 0, .int (-1), .int 100, .ref (am 10), .long 0, .int 0, .int 0, .int 0, .int 0, .long 0]))])) := by
  refine ro_ofW (cc := cX14_wake) (maxL := 4) (ret := (some .int)) (lv := [(0, .ref (am 0)), (1, .int 0)]) (by decide) rfl (Nat.le_of_ble_eq_true rfl) rfl ?_
  intro p e s m below meth c ls hx hb hr hml hown hlocks hname hts hv hl
  have hown : s.vm.findClass RX14 = some m.cls := hown
  obtain ⟨⟨⟨hsz, hP, hD0⟩, hK, hN⟩, hJS⟩ := hv
  subst hsz
  have hD := hD0.self (sz := s.heap.size)
  generalize hAe : va_A (WM cy am eda th) s.heap.size = A at hD hJS ⊢
  have hA : ∀ q : Nat, s.heap.size ≤ q → A q := fun q h => by rw [← hAe]; exact Or.inr h
  have hS : va_S A s.heap s.heap [] := va_S.rf
  refine lv_aload_n hx hb dX14_wake_0 rfl (lv_at hl 0 rfl) ?_
  refine lv_iload_n hx hb dX14_wake_1 rfl (lv_at hl 1 rfl) ?_
  refine me_callV (wr := []) (wc := WM cy am eda th) (As := [.int 0]) (rest := []) ⟨hx, hb, hml, hown, hts⟩ (m_noDevice0 l D cy  _  ) (cwV 1 hts gX14_wake_X14_noDevice rfl rfl rfl (by decide +kernel) ⟨by decide, by decide⟩) hK hN hP hD hS hA (ci := 19) (q0 := 0) rfl rfl rfl rfl hl.1 rfl (Nat.le_of_ble_eq_true rfl) dX14_wake_2 ⟨Nat.le_of_ble_eq_true rfl, Nat.le_of_ble_eq_true rfl⟩ (fun H locs hB hJ hS => ?_)
  obtain ⟨hP1, hD1⟩ := hB
  obtain ⟨hP, hD⟩ := hJ _ hP1 hD1
  have hP : va_P D vwCl (WM cy am eda 0) H := hP
  have hD : va_D A (WM cy am eda 0) := hD
  refine lv_if_eq (tgt := 10) hx hb dX14_wake_5 (by decide) (fun _ => ?_) (fun c => absurd (by decide) c)
  refine lv_aload_n hx hb dX14_wake_10 rfl (lv_at hl 0 rfl) ?_
  refine lv_aload_n hx hb dX14_wake_11 rfl (lv_at hl 0 rfl) ?_
  refine va_get (D := D) (ci := 19) (v := .ref (am 1)) (C := RX14) (T := TX14) (N := 19) hx hb hts iw_X14_wake_RX14 hown hK hP 0 rfl rfl 1 (by decide) (hts (.fieldLink RX14 10 "HubcascadeModel" "devices" "Ljava/util/ArrayList;") (by decide +kernel)) (fun _ h9 => h9) rfl dX14_wake_12 ?_
  refine lv_iload_n hx hb dX14_wake_15 rfl (lv_at hl 1 rfl) ?_
  refine ro_callV (As := [.int 0]) (rest := [.ref (am 0)]) ⟨hx, hb, hml, hown, hts⟩ (c_get0 l D cy ) (cwV 1 hts gX14_wake_Jx4a65c_get_915e3 rfl rfl rfl (by decide +kernel) ⟨by decide, by decide⟩) hK hN hP hS (ci := 4) (q0 := 1) rfl rfl rfl rfl hl.1 rfl (Nat.le_of_ble_eq_true rfl) dX14_wake_16 ⟨Nat.le_of_ble_eq_true rfl, Nat.le_of_ble_eq_true rfl⟩ (fun H locs hP hS => ?_)
  refine va_castY hx hb hown (hts (.classLink RX14 48 "HubcascadeModel$Device") (by decide +kernel)) (hN.2.2 ("HubcascadeModel$Device", "HubcascadeModel$Device") (by decide +kernel)) (va_recv hK hP (ci := 15) (q0 := 3) rfl rfl) dX14_wake_19 ?_
  refine va_getN (D := D) (ci := 15) (v := .int 99) (C := RX10) (T := TX10) (N := 16) hx hb hts iw_X14_wake_RX10 hown hK hP 3 rfl rfl 6 (by decide) (va_Nw.use rfl (hN.1 _ nf_83)) (fun _ h9 => h9) rfl dX14_wake_22 ?_
  refine lv_bipush (v := 122) hx hb dX14_wake_25 (by decide) ?_
  refine lv_icmp_ne (tgt := 34) hx hb dX14_wake_27 (by decide) (fun _ => ?_) (fun c => absurd c (by decide))
  refine lv_iconst (v := 2) hx hb dX14_wake_34 (by decide) ?_
  refine va_put (D := D) (ci := 19) (v := .int 2) (ty := .int) (C := RX14) (T := TX14) (N := 19) hx hb hts iw_X14_wake_RX14 tyX14 tyX14_ok nmX14 hown hK hP hD hS 0 rfl rfl 0 (by decide) (hts (.fieldLink RX14 61 "HubcascadeModel" "thrown" "I") (by decide +kernel)) (fun _ h9 => h9) rfl (by decide +kernel) rfl rfl (Nat.le_of_ble_eq_true rfl) dX14_wake_35 (fun H locs hP hD hS => ?_)
  have hP : va_P D vwCl (WM cy am eda 2) H := hP
  have hD : va_D A (WM cy am eda 2) := hD
  refine lv_iconst (v := 0) hx hb dX14_wake_38 (by decide) ?_
  refine lv_istore_n (lv' := [(2, .int 0), (0, .ref (am 0)), (1, .int 0)]) hx hb dX14_wake_39 rfl hl (by decide) rfl (fun ls hl => ?_)
  refine lv_iload_n hx hb dX14_wake_40 rfl (lv_at hl 2 rfl) ?_
  refine lv_istore_n (lv' := [(3, .int 0), (2, .int 0), (0, .ref (am 0)), (1, .int 0)]) hx hb dX14_wake_41 rfl hl (by decide) rfl (fun ls hl => ?_)
  refine lv_iload_n hx hb dX14_wake_42 rfl (lv_at hl 0 rfl) ?_
  refine lv_iconst (v := (-1)) hx hb dX14_wake_43 (by decide) ?_
  refine lv_icmp_eq (tgt := 99) hx hb dX14_wake_44 (by decide) (fun c => absurd c (by decide)) (fun _ => ?_)
  refine lv_aload_n hx hb dX14_wake_47 rfl (lv_at hl 2 rfl) ?_
  refine va_get (D := D) (ci := 19) (v := .int 2) (C := RX14) (T := TX14) (N := 19) hx hb hts iw_X14_wake_RX14 hown hK hP 0 rfl rfl 0 (by decide) (hts (.fieldLink RX14 61 "HubcascadeModel" "thrown" "I") (by decide +kernel)) (fun _ h9 => h9) rfl dX14_wake_48 ?_
  refine lv_if_ne (tgt := 99) hx hb dX14_wake_51 (by decide) (fun _ => ?_) (fun c => absurd c (by decide))
  refine lv_iload_n hx hb dX14_wake_99 rfl (lv_at hl 3 rfl) ?_
  refine lv_istore_n (lv' := [(3, .int 0), (2, .int 0), (0, .ref (am 0)), (1, .int 0)]) hx hb dX14_wake_100 rfl hl (by decide) rfl (fun ls hl => ?_)
  refine lv_iload_n hx hb dX14_wake_101 rfl (lv_at hl 0 rfl) ?_
  refine lv_iconst (v := (-1)) hx hb dX14_wake_102 (by decide) ?_
  refine lv_icmp_eq (tgt := 186) hx hb dX14_wake_103 (by decide) (fun c => absurd c (by decide)) (fun _ => ?_)
  refine lv_aload_n hx hb dX14_wake_106 rfl (lv_at hl 2 rfl) ?_
  refine va_get (D := D) (ci := 19) (v := .int 2) (C := RX14) (T := TX14) (N := 19) hx hb hts iw_X14_wake_RX14 hown hK hP 0 rfl rfl 0 (by decide) (hts (.fieldLink RX14 61 "HubcascadeModel" "thrown" "I") (by decide +kernel)) (fun _ h9 => h9) rfl dX14_wake_107 ?_
  refine lv_if_ne (tgt := 186) hx hb dX14_wake_110 (by decide) (fun _ => ?_) (fun c => absurd c (by decide))
  refine lv_iload_n hx hb dX14_wake_186 rfl (lv_at hl 1 rfl) ?_
  refine W.widen (k := 0) (n := 0) (Nat.le_of_ble_eq_true rfl) (Nat.le_of_ble_eq_true rfl) ?_
  have hP9 := hP.sub (ws' := [(am 0, .inr (19, [.int 2, .ref (am 1), .ref (am 4), .ref (am 5), .ref (am 6), .ref (am 7), .ref (am 8), .int 0, .ref (am 9), .int 0, .int (-1), .int 100, .ref (am 10), .long 0, .int 0, .int 0, .int 0, .int 0, .long 0]))]) [0] rfl
  have hD9 := hD.sub (ws' := [(am 0, .inr (19, [.int 2, .ref (am 1), .ref (am 4), .ref (am 5), .ref (am 6), .ref (am 7), .ref (am 8), .int 0, .ref (am 9), .int 0, .int (-1), .int 100, .ref (am 10), .long 0, .int 0, .int 0, .int 0, .int 0, .long 0]))]) [0] (by decide) rfl
  exact W.iret hx hb hr (fun t ht hW => ⟨rfl, ⟨by rw [ht]; exact hP9, hD9⟩, hS.F ht⟩) hS.2.2 dX14_wake_187

set_option maxRecDepth 100000 in
set_option maxHeartbeats 4000000 in
theorem a_wake_1 (l : Launch) (D : va_G) (cy : Nat → ClassId) {ca : Nat} {ia : Nat → Nat} {am : Nat → Nat} {eda : Nat} {th : Int32} (sz : Nat) (d : Int32) (hd : ¬ d = 0) : MJ l D cy eda ca ia (WM cy am eda th) sz yX14_wake wsX14_wake 3 0 0 64 [.ref (am 0), .int d] (some (.int 0)) (fun H => va_P D vwCl ([(am 0, .inr (19, [.int 1, .ref (am 1), .ref (am 4), .ref (am 5), .ref (am 6), .ref (am 7), .ref (am 8), .int 0, .ref (am 9), .int 0, .int (-1), .int 100, .ref (am 10), .long 0, .int 0, .int 0, .int 0, .int 0, .long 0]))]) H ∧ va_D (va_A (WM cy am eda th) sz) ([(am 0, .inr (19, [.int 1, .ref (am 1), .ref (am 4), .ref (am 5), .ref (am 6), .ref (am 7), .ref (am 8), .int 0, .ref (am 9), .int 0, .int (-1), .int 100, .ref (am 10), .long 0, .int 0, .int 0, .int 0, .int 0, .long 0]))])) := by
  refine ro_ofW (cc := cX14_wake) (maxL := 4) (ret := (some .int)) (lv := [(0, .ref (am 0)), (1, .int d)]) (by decide) rfl (Nat.le_of_ble_eq_true rfl) rfl ?_
  intro p e s m below meth c ls hx hb hr hml hown hlocks hname hts hv hl
  have hown : s.vm.findClass RX14 = some m.cls := hown
  obtain ⟨⟨⟨hsz, hP, hD0⟩, hK, hN⟩, hJS⟩ := hv
  subst hsz
  have hD := hD0.self (sz := s.heap.size)
  generalize hAe : va_A (WM cy am eda th) s.heap.size = A at hD hJS ⊢
  have hA : ∀ q : Nat, s.heap.size ≤ q → A q := fun q h => by rw [← hAe]; exact Or.inr h
  have hS : va_S A s.heap s.heap [] := va_S.rf
  refine lv_aload_n hx hb dX14_wake_0 rfl (lv_at hl 0 rfl) ?_
  refine lv_iload_n hx hb dX14_wake_1 rfl (lv_at hl 1 rfl) ?_
  refine me_callV (wr := []) (wc := WM cy am eda th) (As := [.int d]) (rest := []) ⟨hx, hb, hml, hown, hts⟩ (m_noDeviceX l D cy  _ d hd) (cwV 1 hts gX14_wake_X14_noDevice rfl rfl rfl (by decide +kernel) ⟨by decide, by decide⟩) hK hN hP hD hS hA (ci := 19) (q0 := 0) rfl rfl rfl rfl hl.1 rfl (Nat.le_of_ble_eq_true rfl) dX14_wake_2 ⟨Nat.le_of_ble_eq_true rfl, Nat.le_of_ble_eq_true rfl⟩ (fun H locs hB hJ hS => ?_)
  obtain ⟨hP1, hD1⟩ := hB
  obtain ⟨hP, hD⟩ := hJ _ hP1 hD1
  have hP : va_P D vwCl (WM cy am eda 1) H := hP
  have hD : va_D A (WM cy am eda 1) := hD
  refine lv_if_eq (tgt := 10) hx hb dX14_wake_5 (by decide) (fun c => absurd c (by decide)) (fun _ => ?_)
  refine lv_iconst (v := 0) hx hb dX14_wake_8 (by decide) ?_
  refine W.widen (k := 0) (n := 0) (Nat.le_of_ble_eq_true rfl) (Nat.le_of_ble_eq_true rfl) ?_
  have hP9 := hP.sub (ws' := [(am 0, .inr (19, [.int 1, .ref (am 1), .ref (am 4), .ref (am 5), .ref (am 6), .ref (am 7), .ref (am 8), .int 0, .ref (am 9), .int 0, .int (-1), .int 100, .ref (am 10), .long 0, .int 0, .int 0, .int 0, .int 0, .long 0]))]) [0] rfl
  have hD9 := hD.sub (ws' := [(am 0, .inr (19, [.int 1, .ref (am 1), .ref (am 4), .ref (am 5), .ref (am 6), .ref (am 7), .ref (am 8), .int 0, .ref (am 9), .int 0, .int (-1), .int 100, .ref (am 10), .long 0, .int 0, .int 0, .int 0, .int 0, .long 0]))]) [0] (by decide) rfl
  exact W.iret hx hb hr (fun t ht hW => ⟨rfl, ⟨by rw [ht]; exact hP9, hD9⟩, hS.F ht⟩) hS.2.2 dX14_wake_9

theorem iw_X14_look_RX14 : ∀ w ∈ u_ws RX14 TX14 19, w ∈ wsX14_look := by decide +kernel
set_option maxRecDepth 100000 in
set_option maxHeartbeats 4000000 in
theorem a_look_1 (l : Launch) (D : va_G) (cy : Nat → ClassId) {ca : Nat} {ia : Nat → Nat} {am : Nat → Nat} {eda : Nat} {th : Int32} (sz : Nat) : MJ l D cy eda ca ia (WM cy am eda th) sz yX14_look wsX14_look 1 0 0 21 [.ref (am 0)] (some (.int 0)) (fun H => va_P D vwCl ([(am 0, .inr (19, [.int 1, .ref (am 1), .ref (am 4), .ref (am 5), .ref (am 6), .ref (am 7), .ref (am 8), .int 0, .ref (am 9), .int 0, .int (-1), .int 100, .ref (am 10), .long 0, .int 0, .int 0, .int 0, .int 0, .long 0]))]) H ∧ va_D (va_A (WM cy am eda th) sz) ([(am 0, .inr (19, [.int 1, .ref (am 1), .ref (am 4), .ref (am 5), .ref (am 6), .ref (am 7), .ref (am 8), .int 0, .ref (am 9), .int 0, .int (-1), .int 100, .ref (am 10), .long 0, .int 0, .int 0, .int 0, .int 0, .long 0]))])) := by
  refine ro_ofW (cc := cX14_look) (maxL := 5) (ret := (some .int)) (lv := [(0, .ref (am 0))]) (by decide) rfl (Nat.le_of_ble_eq_true rfl) rfl ?_
  intro p e s m below meth c ls hx hb hr hml hown hlocks hname hts hv hl
  have hown : s.vm.findClass RX14 = some m.cls := hown
  obtain ⟨⟨⟨hsz, hP, hD0⟩, hK, hN⟩, hJS⟩ := hv
  subst hsz
  have hD := hD0.self (sz := s.heap.size)
  generalize hAe : va_A (WM cy am eda th) s.heap.size = A at hD hJS ⊢
  have hA : ∀ q : Nat, s.heap.size ≤ q → A q := fun q h => by rw [← hAe]; exact Or.inr h
  have hS : va_S A s.heap s.heap [] := va_S.rf
  refine lv_iconst (v := (-1)) hx hb dX14_look_0 (by decide) ?_
  refine lv_istore_n (lv' := [(1, .int (-1)), (0, .ref (am 0))]) hx hb dX14_look_1 rfl hl (by decide) rfl (fun ls hl => ?_)
  refine lv_iconst (v := 1) hx hb dX14_look_2 (by decide) ?_
  refine lv_istore_n (lv' := [(2, .int 1), (1, .int (-1)), (0, .ref (am 0))]) hx hb dX14_look_3 rfl hl (by decide) rfl (fun ls hl => ?_)
  refine lv_iload_n hx hb dX14_look_4 rfl (lv_at hl 0 rfl) ?_
  refine lv_aload_n hx hb dX14_look_5 rfl (lv_at hl 2 rfl) ?_
  refine va_get (D := D) (ci := 19) (v := .ref (am 1)) (C := RX14) (T := TX14) (N := 19) hx hb hts iw_X14_look_RX14 hown hK hP 0 rfl rfl 1 (by decide) (hts (.fieldLink RX14 10 "HubcascadeModel" "devices" "Ljava/util/ArrayList;") (by decide +kernel)) (fun _ h9 => h9) rfl dX14_look_6 ?_
  refine ro_callV (As := []) (rest := [.int 1]) ⟨hx, hb, hml, hown, hts⟩ (c_size l D cy _ 1 (am 1) (am 2) 1 1 rfl) (cwV 0 hts gX14_look_Jx4a65c_size_8abf5 rfl rfl rfl (by decide +kernel) ⟨by decide, by decide⟩) hK hN hP hS (ci := 4) (q0 := 1) rfl rfl rfl rfl hl.1 rfl (Nat.le_of_ble_eq_true rfl) dX14_look_9 ⟨Nat.le_of_ble_eq_true rfl, Nat.le_of_ble_eq_true rfl⟩ (fun H locs hP hS => ?_)
  refine lv_icmp_ge (tgt := 100) hx hb dX14_look_12 (by decide) (fun _ => ?_) (fun c => absurd (by decide) c)
  refine lv_iload_n hx hb dX14_look_100 rfl (lv_at hl 1 rfl) ?_
  refine lv_iconst (v := (-1)) hx hb dX14_look_101 (by decide) ?_
  refine lv_icmp_ne (tgt := 111) hx hb dX14_look_102 (by decide) (fun c => absurd (by decide) c) (fun _ => ?_)
  refine lv_aload_n hx hb dX14_look_105 rfl (lv_at hl 2 rfl) ?_
  refine lv_iconst (v := 1) hx hb dX14_look_106 (by decide) ?_
  refine me_callV (wr := []) (wc := WM cy am eda th) (As := [.int 1]) (rest := []) ⟨hx, hb, hml, hown, hts⟩ (m_raises l D cy  _  ) (cwV 1 hts gX14_look_X14_raises rfl rfl rfl (by decide +kernel) ⟨by decide, by decide⟩) hK hN hP hD hS hA (ci := 19) (q0 := 0) rfl rfl rfl rfl hl.1 rfl (Nat.le_of_ble_eq_true rfl) dX14_look_107 ⟨Nat.le_of_ble_eq_true rfl, Nat.le_of_ble_eq_true rfl⟩ (fun H locs hB hJ hS => ?_)
  obtain ⟨hP1, hD1⟩ := hB
  obtain ⟨hP, hD⟩ := hJ _ hP1 hD1
  have hP : va_P D vwCl (WM cy am eda 1) H := hP
  have hD : va_D A (WM cy am eda 1) := hD
  refine W.widen (k := 0) (n := 0) (Nat.le_of_ble_eq_true rfl) (Nat.le_of_ble_eq_true rfl) ?_
  have hP9 := hP.sub (ws' := [(am 0, .inr (19, [.int 1, .ref (am 1), .ref (am 4), .ref (am 5), .ref (am 6), .ref (am 7), .ref (am 8), .int 0, .ref (am 9), .int 0, .int (-1), .int 100, .ref (am 10), .long 0, .int 0, .int 0, .int 0, .int 0, .long 0]))]) [0] rfl
  have hD9 := hD.sub (ws' := [(am 0, .inr (19, [.int 1, .ref (am 1), .ref (am 4), .ref (am 5), .ref (am 6), .ref (am 7), .ref (am 8), .int 0, .ref (am 9), .int 0, .int (-1), .int 100, .ref (am 10), .long 0, .int 0, .int 0, .int 0, .int 0, .long 0]))]) [0] (by decide) rfl
  exact W.iret hx hb hr (fun t ht hW => ⟨rfl, ⟨by rw [ht]; exact hP9, hD9⟩, hS.F ht⟩) hS.2.2 dX14_look_110

theorem iw_X14_draw_RX14 : ∀ w ∈ u_ws RX14 TX14 19, w ∈ wsX14_draw := by decide +kernel
set_option maxRecDepth 100000 in
set_option maxHeartbeats 4000000 in
theorem a_draw_1 (l : Launch) (D : va_G) (cy : Nat → ClassId) {ca : Nat} {ia : Nat → Nat} {am : Nat → Nat} {eda : Nat} {th : Int32} (sz : Nat) (d n : Int32) : MJ l D cy eda ca ia (WM cy am eda th) sz yX14_draw wsX14_draw 3 0 0 64 [.ref (am 0), .int d, .int n] (some (.int 0)) (fun H => va_P D vwCl ([(am 0, .inr (19, [.int 1, .ref (am 1), .ref (am 4), .ref (am 5), .ref (am 6), .ref (am 7), .ref (am 8), .int 0, .ref (am 9), .int 0, .int (-1), .int 100, .ref (am 10), .long 0, .int 0, .int 0, .int 0, .int 0, .long 0]))]) H ∧ va_D (va_A (WM cy am eda th) sz) ([(am 0, .inr (19, [.int 1, .ref (am 1), .ref (am 4), .ref (am 5), .ref (am 6), .ref (am 7), .ref (am 8), .int 0, .ref (am 9), .int 0, .int (-1), .int 100, .ref (am 10), .long 0, .int 0, .int 0, .int 0, .int 0, .long 0]))])) := by
  refine ro_ofW (cc := cX14_draw) (maxL := 4) (ret := (some .int)) (lv := [(0, .ref (am 0)), (1, .int d), (2, .int n)]) (by decide) rfl (Nat.le_of_ble_eq_true rfl) rfl ?_
  intro p e s m below meth c ls hx hb hr hml hown hlocks hname hts hv hl
  have hown : s.vm.findClass RX14 = some m.cls := hown
  obtain ⟨⟨⟨hsz, hP, hD0⟩, hK, hN⟩, hJS⟩ := hv
  subst hsz
  have hD := hD0.self (sz := s.heap.size)
  generalize hAe : va_A (WM cy am eda th) s.heap.size = A at hD hJS ⊢
  have hA : ∀ q : Nat, s.heap.size ≤ q → A q := fun q h => by rw [← hAe]; exact Or.inr h
  have hS : va_S A s.heap s.heap [] := va_S.rf
  refine lv_aload_n hx hb dX14_draw_0 rfl (lv_at hl 0 rfl) ?_
  refine lv_aload_n hx hb dX14_draw_1 rfl (lv_at hl 0 rfl) ?_
  refine lv_iload_n hx hb dX14_draw_2 rfl (lv_at hl 1 rfl) ?_
  refine ro_callV (As := [.int d]) (rest := [.ref (am 0)]) ⟨hx, hb, hml, hown, hts⟩ (c_isOther l D cy d) (cwV 1 hts gX14_draw_X14_isOther rfl rfl rfl (by decide +kernel) ⟨by decide, by decide⟩) hK hN hP hS (ci := 19) (q0 := 0) rfl rfl rfl rfl hl.1 rfl (Nat.le_of_ble_eq_true rfl) dX14_draw_3 ⟨Nat.le_of_ble_eq_true rfl, Nat.le_of_ble_eq_true rfl⟩ (fun H locs hP hS => ?_)
  refine lv_if_ne (tgt := 13) hx hb dX14_draw_6 (by decide) (fun c => absurd (by decide) c) (fun _ => ?_)
  refine lv_iconst (v := 1) hx hb dX14_draw_9 (by decide) ?_
  refine lv_goto (tgt := 28) hx hb dX14_draw_10 (by decide) ?_
  refine va_put (D := D) (ci := 19) (v := .int 1) (ty := .int) (C := RX14) (T := TX14) (N := 19) hx hb hts iw_X14_draw_RX14 tyX14 tyX14_ok nmX14 hown hK hP hD hS 0 rfl rfl 0 (by decide) (hts (.fieldLink RX14 61 "HubcascadeModel" "thrown" "I") (by decide +kernel)) (fun _ h9 => h9) rfl (by decide +kernel) rfl rfl (Nat.le_of_ble_eq_true rfl) dX14_draw_28 (fun H locs hP hD hS => ?_)
  have hP : va_P D vwCl (WM cy am eda 1) H := hP
  have hD : va_D A (WM cy am eda 1) := hD
  refine lv_aload_n hx hb dX14_draw_31 rfl (lv_at hl 0 rfl) ?_
  refine va_get (D := D) (ci := 19) (v := .int 1) (C := RX14) (T := TX14) (N := 19) hx hb hts iw_X14_draw_RX14 hown hK hP 0 rfl rfl 0 (by decide) (hts (.fieldLink RX14 61 "HubcascadeModel" "thrown" "I") (by decide +kernel)) (fun _ h9 => h9) rfl dX14_draw_32 ?_
  refine lv_if_le (tgt := 40) hx hb dX14_draw_35 (by decide) (fun c => absurd c (by decide)) (fun _ => ?_)
  refine lv_iconst (v := 0) hx hb dX14_draw_38 (by decide) ?_
  refine W.widen (k := 0) (n := 0) (Nat.le_of_ble_eq_true rfl) (Nat.le_of_ble_eq_true rfl) ?_
  have hP9 := hP.sub (ws' := [(am 0, .inr (19, [.int 1, .ref (am 1), .ref (am 4), .ref (am 5), .ref (am 6), .ref (am 7), .ref (am 8), .int 0, .ref (am 9), .int 0, .int (-1), .int 100, .ref (am 10), .long 0, .int 0, .int 0, .int 0, .int 0, .long 0]))]) [0] rfl
  have hD9 := hD.sub (ws' := [(am 0, .inr (19, [.int 1, .ref (am 1), .ref (am 4), .ref (am 5), .ref (am 6), .ref (am 7), .ref (am 8), .int 0, .ref (am 9), .int 0, .int (-1), .int 100, .ref (am 10), .long 0, .int 0, .int 0, .int 0, .int 0, .long 0]))]) [0] (by decide) rfl
  exact W.iret hx hb hr (fun t ht hW => ⟨rfl, ⟨by rw [ht]; exact hP9, hD9⟩, hS.F ht⟩) hS.2.2 dX14_draw_39

theorem iw_X14_sleep_RX14 : ∀ w ∈ u_ws RX14 TX14 19, w ∈ wsX14_sleep := by decide +kernel
set_option maxRecDepth 100000 in
set_option maxHeartbeats 4000000 in
theorem a_sleep_1 (l : Launch) (D : va_G) (cy : Nat → ClassId) {ca : Nat} {ia : Nat → Nat} {am : Nat → Nat} {eda : Nat} {th : Int32} (sz : Nat) (d : Int32) : MJ l D cy eda ca ia (WM cy am eda th) sz yX14_sleep wsX14_sleep 3 0 0 64 [.ref (am 0), .int d] (some (.int 0)) (fun H => va_P D vwCl ([(am 0, .inr (19, [.int 1, .ref (am 1), .ref (am 4), .ref (am 5), .ref (am 6), .ref (am 7), .ref (am 8), .int 0, .ref (am 9), .int 0, .int (-1), .int 100, .ref (am 10), .long 0, .int 0, .int 0, .int 0, .int 0, .long 0]))]) H ∧ va_D (va_A (WM cy am eda th) sz) ([(am 0, .inr (19, [.int 1, .ref (am 1), .ref (am 4), .ref (am 5), .ref (am 6), .ref (am 7), .ref (am 8), .int 0, .ref (am 9), .int 0, .int (-1), .int 100, .ref (am 10), .long 0, .int 0, .int 0, .int 0, .int 0, .long 0]))])) := by
  refine ro_ofW (cc := cX14_sleep) (maxL := 7) (ret := (some .int)) (lv := [(0, .ref (am 0)), (1, .int d)]) (by decide) rfl (Nat.le_of_ble_eq_true rfl) rfl ?_
  intro p e s m below meth c ls hx hb hr hml hown hlocks hname hts hv hl
  have hown : s.vm.findClass RX14 = some m.cls := hown
  obtain ⟨⟨⟨hsz, hP, hD0⟩, hK, hN⟩, hJS⟩ := hv
  subst hsz
  have hD := hD0.self (sz := s.heap.size)
  generalize hAe : va_A (WM cy am eda th) s.heap.size = A at hD hJS ⊢
  have hA : ∀ q : Nat, s.heap.size ≤ q → A q := fun q h => by rw [← hAe]; exact Or.inr h
  have hS : va_S A s.heap s.heap [] := va_S.rf
  refine lv_aload_n hx hb dX14_sleep_0 rfl (lv_at hl 0 rfl) ?_
  refine lv_aload_n hx hb dX14_sleep_1 rfl (lv_at hl 0 rfl) ?_
  refine lv_iload_n hx hb dX14_sleep_2 rfl (lv_at hl 1 rfl) ?_
  refine ro_callV (As := [.int d]) (rest := [.ref (am 0)]) ⟨hx, hb, hml, hown, hts⟩ (c_isOther l D cy d) (cwV 1 hts gX14_sleep_X14_isOther rfl rfl rfl (by decide +kernel) ⟨by decide, by decide⟩) hK hN hP hS (ci := 19) (q0 := 0) rfl rfl rfl rfl hl.1 rfl (Nat.le_of_ble_eq_true rfl) dX14_sleep_3 ⟨Nat.le_of_ble_eq_true rfl, Nat.le_of_ble_eq_true rfl⟩ (fun H locs hP hS => ?_)
  refine lv_if_ne (tgt := 13) hx hb dX14_sleep_6 (by decide) (fun c => absurd (by decide) c) (fun _ => ?_)
  refine lv_iconst (v := 1) hx hb dX14_sleep_9 (by decide) ?_
  refine lv_goto (tgt := 37) hx hb dX14_sleep_10 (by decide) ?_
  refine va_put (D := D) (ci := 19) (v := .int 1) (ty := .int) (C := RX14) (T := TX14) (N := 19) hx hb hts iw_X14_sleep_RX14 tyX14 tyX14_ok nmX14 hown hK hP hD hS 0 rfl rfl 0 (by decide) (hts (.fieldLink RX14 61 "HubcascadeModel" "thrown" "I") (by decide +kernel)) (fun _ h9 => h9) rfl (by decide +kernel) rfl rfl (Nat.le_of_ble_eq_true rfl) dX14_sleep_37 (fun H locs hP hD hS => ?_)
  have hP : va_P D vwCl (WM cy am eda 1) H := hP
  have hD : va_D A (WM cy am eda 1) := hD
  refine lv_aload_n hx hb dX14_sleep_40 rfl (lv_at hl 0 rfl) ?_
  refine va_get (D := D) (ci := 19) (v := .ref (am 4)) (C := RX14) (T := TX14) (N := 19) hx hb hts iw_X14_sleep_RX14 hown hK hP 0 rfl rfl 2 (by decide) (hts (.fieldLink RX14 18 "HubcascadeModel" "pipes" "[LHubcascadeModel$Pipe;") (by decide +kernel)) (fun _ h9 => h9) rfl dX14_sleep_41 ?_
  refine lv_astore_n (lv' := [(2, .ref (am 4)), (0, .ref (am 0)), (1, .int d)]) hx hb dX14_sleep_44 rfl hl (by decide) rfl (fun ls hl => ?_)
  refine lv_aload_n hx hb dX14_sleep_45 rfl (lv_at hl 0 rfl) ?_
  refine va_alen (v := 12) hx hb hK hP 4 9 rfl rfl rfl dX14_sleep_46 ?_
  refine lv_istore_n (lv' := [(3, .int 12), (2, .ref (am 4)), (0, .ref (am 0)), (1, .int d)]) hx hb dX14_sleep_47 rfl hl (by decide) rfl (fun ls hl => ?_)
  refine lv_iconst (v := 0) hx hb dX14_sleep_48 (by decide) ?_
  refine lv_istore (lv' := [(4, .int 0), (3, .int 12), (2, .ref (am 4)), (0, .ref (am 0)), (1, .int d)]) hx hb dX14_sleep_49 hl (by decide) rfl (fun ls hl => ?_)
  refine lv_iload hx hb dX14_sleep_51 (lv_at hl 0 rfl) ?_
  refine lv_iload_n hx hb dX14_sleep_53 rfl (lv_at hl 1 rfl) ?_
  refine lv_icmp_ge (tgt := 129) hx hb dX14_sleep_54 (by decide) (fun c => absurd c (by decide)) (fun _ => ?_)
  refine lv_aload_n hx hb dX14_sleep_57 rfl (lv_at hl 2 rfl) ?_
  refine lv_iload hx hb dX14_sleep_58 (lv_at hl 0 rfl) ?_
  refine my_aldN hx hb hK hP 4 9 rfl rfl (i := 0) (j := 0) (by decide) (by decide) (by decide) rfl dX14_sleep_60 ?_
  refine lv_astoreN (lv' := [(5, .null), (4, .int 0), (3, .int 12), (2, .ref (am 4)), (0, .ref (am 0)), (1, .int d)]) hx hb dX14_sleep_61 hl (by decide) rfl (fun ls hl => ?_)
  refine lv_aload_n hx hb dX14_sleep_63 rfl (lv_at hl 4 rfl) ?_
  refine va_get (D := D) (ci := 19) (v := .int 1) (C := RX14) (T := TX14) (N := 19) hx hb hts iw_X14_sleep_RX14 hown hK hP 0 rfl rfl 0 (by decide) (hts (.fieldLink RX14 61 "HubcascadeModel" "thrown" "I") (by decide +kernel)) (fun _ h9 => h9) rfl dX14_sleep_64 ?_
  refine lv_if_ne (tgt := 103) hx hb dX14_sleep_67 (by decide) (fun _ => ?_) (fun c => absurd c (by decide))
  refine lv_iconst (v := 0) hx hb dX14_sleep_103 (by decide) ?_
  refine lv_istore (lv' := [(6, .int 0), (5, .null), (4, .int 0), (3, .int 12), (2, .ref (am 4)), (0, .ref (am 0)), (1, .int d)]) hx hb dX14_sleep_104 hl (by decide) rfl (fun ls hl => ?_)
  refine lv_aload_n hx hb dX14_sleep_106 rfl (lv_at hl 5 rfl) ?_
  refine lv_iload hx hb dX14_sleep_107 (lv_at hl 0 rfl) ?_
  refine lv_if_eq (tgt := 116) hx hb dX14_sleep_109 (by decide) (fun _ => ?_) (fun c => absurd (by decide) c)
  refine lv_aload_n hx hb dX14_sleep_116 rfl (lv_at hl 5 rfl) ?_
  refine va_get (D := D) (ci := 19) (v := .int 1) (C := RX14) (T := TX14) (N := 19) hx hb hts iw_X14_sleep_RX14 hown hK hP 0 rfl rfl 0 (by decide) (hts (.fieldLink RX14 61 "HubcascadeModel" "thrown" "I") (by decide +kernel)) (fun _ h9 => h9) rfl dX14_sleep_117 ?_
  refine va_put (D := D) (ci := 19) (v := .int 1) (ty := .int) (C := RX14) (T := TX14) (N := 19) hx hb hts iw_X14_sleep_RX14 tyX14 tyX14_ok nmX14 hown hK hP hD hS 0 rfl rfl 0 (by decide) (hts (.fieldLink RX14 61 "HubcascadeModel" "thrown" "I") (by decide +kernel)) (fun _ h9 => h9) rfl (by decide +kernel) rfl rfl (Nat.le_of_ble_eq_true rfl) dX14_sleep_120 (fun H locs hP hD hS => ?_)
  have hP : va_P D vwCl (WM cy am eda 1) H := hP
  have hD : va_D A (WM cy am eda 1) := hD
  refine lv_iinc (v := 1) (lv' := [(4, .int 1), (6, .int 0), (5, .null), (3, .int 12), (2, .ref (am 4)), (0, .ref (am 0)), (1, .int d)]) hx hb dX14_sleep_123 hl (k := 2) rfl (by decide) (by decide) rfl (fun ls hl => ?_)
  refine lv_goto (tgt := 51) hx hb dX14_sleep_126 (by decide) ?_
  refine lv_iload hx hb dX14_sleep_51 (lv_at hl 0 rfl) ?_
  refine lv_iload_n hx hb dX14_sleep_53 rfl (lv_at hl 3 rfl) ?_
  refine lv_icmp_ge (tgt := 129) hx hb dX14_sleep_54 (by decide) (fun c => absurd c (by decide)) (fun _ => ?_)
  refine lv_aload_n hx hb dX14_sleep_57 rfl (lv_at hl 4 rfl) ?_
  refine lv_iload hx hb dX14_sleep_58 (lv_at hl 0 rfl) ?_
  refine my_aldN hx hb hK hP 4 9 rfl rfl (i := 1) (j := 1) (by decide) (by decide) (by decide) rfl dX14_sleep_60 ?_
  refine lv_astoreN (lv' := [(5, .null), (4, .int 1), (6, .int 0), (3, .int 12), (2, .ref (am 4)), (0, .ref (am 0)), (1, .int d)]) hx hb dX14_sleep_61 hl (by decide) rfl (fun ls hl => ?_)
  refine lv_aload_n hx hb dX14_sleep_63 rfl (lv_at hl 5 rfl) ?_
  refine va_get (D := D) (ci := 19) (v := .int 1) (C := RX14) (T := TX14) (N := 19) hx hb hts iw_X14_sleep_RX14 hown hK hP 0 rfl rfl 0 (by decide) (hts (.fieldLink RX14 61 "HubcascadeModel" "thrown" "I") (by decide +kernel)) (fun _ h9 => h9) rfl dX14_sleep_64 ?_
  refine lv_if_ne (tgt := 103) hx hb dX14_sleep_67 (by decide) (fun _ => ?_) (fun c => absurd c (by decide))
  refine lv_iconst (v := 0) hx hb dX14_sleep_103 (by decide) ?_
  refine lv_istore (lv' := [(6, .int 0), (5, .null), (4, .int 1), (3, .int 12), (2, .ref (am 4)), (0, .ref (am 0)), (1, .int d)]) hx hb dX14_sleep_104 hl (by decide) rfl (fun ls hl => ?_)
  refine lv_aload_n hx hb dX14_sleep_106 rfl (lv_at hl 5 rfl) ?_
  refine lv_iload hx hb dX14_sleep_107 (lv_at hl 0 rfl) ?_
  refine lv_if_eq (tgt := 116) hx hb dX14_sleep_109 (by decide) (fun _ => ?_) (fun c => absurd (by decide) c)
  refine lv_aload_n hx hb dX14_sleep_116 rfl (lv_at hl 5 rfl) ?_
  refine va_get (D := D) (ci := 19) (v := .int 1) (C := RX14) (T := TX14) (N := 19) hx hb hts iw_X14_sleep_RX14 hown hK hP 0 rfl rfl 0 (by decide) (hts (.fieldLink RX14 61 "HubcascadeModel" "thrown" "I") (by decide +kernel)) (fun _ h9 => h9) rfl dX14_sleep_117 ?_
  refine va_put (D := D) (ci := 19) (v := .int 1) (ty := .int) (C := RX14) (T := TX14) (N := 19) hx hb hts iw_X14_sleep_RX14 tyX14 tyX14_ok nmX14 hown hK hP hD hS 0 rfl rfl 0 (by decide) (hts (.fieldLink RX14 61 "HubcascadeModel" "thrown" "I") (by decide +kernel)) (fun _ h9 => h9) rfl (by decide +kernel) rfl rfl (Nat.le_of_ble_eq_true rfl) dX14_sleep_120 (fun H locs hP hD hS => ?_)
  have hP : va_P D vwCl (WM cy am eda 1) H := hP
  have hD : va_D A (WM cy am eda 1) := hD
  refine lv_iinc (v := 2) (lv' := [(4, .int 2), (6, .int 0), (5, .null), (3, .int 12), (2, .ref (am 4)), (0, .ref (am 0)), (1, .int d)]) hx hb dX14_sleep_123 hl (k := 2) rfl (by decide) (by decide) rfl (fun ls hl => ?_)
  refine lv_goto (tgt := 51) hx hb dX14_sleep_126 (by decide) ?_
  refine lv_iload hx hb dX14_sleep_51 (lv_at hl 0 rfl) ?_
  refine lv_iload_n hx hb dX14_sleep_53 rfl (lv_at hl 3 rfl) ?_
  refine lv_icmp_ge (tgt := 129) hx hb dX14_sleep_54 (by decide) (fun c => absurd c (by decide)) (fun _ => ?_)
  refine lv_aload_n hx hb dX14_sleep_57 rfl (lv_at hl 4 rfl) ?_
  refine lv_iload hx hb dX14_sleep_58 (lv_at hl 0 rfl) ?_
  refine my_aldN hx hb hK hP 4 9 rfl rfl (i := 2) (j := 2) (by decide) (by decide) (by decide) rfl dX14_sleep_60 ?_
  refine lv_astoreN (lv' := [(5, .null), (4, .int 2), (6, .int 0), (3, .int 12), (2, .ref (am 4)), (0, .ref (am 0)), (1, .int d)]) hx hb dX14_sleep_61 hl (by decide) rfl (fun ls hl => ?_)
  refine lv_aload_n hx hb dX14_sleep_63 rfl (lv_at hl 5 rfl) ?_
  refine va_get (D := D) (ci := 19) (v := .int 1) (C := RX14) (T := TX14) (N := 19) hx hb hts iw_X14_sleep_RX14 hown hK hP 0 rfl rfl 0 (by decide) (hts (.fieldLink RX14 61 "HubcascadeModel" "thrown" "I") (by decide +kernel)) (fun _ h9 => h9) rfl dX14_sleep_64 ?_
  refine lv_if_ne (tgt := 103) hx hb dX14_sleep_67 (by decide) (fun _ => ?_) (fun c => absurd c (by decide))
  refine lv_iconst (v := 0) hx hb dX14_sleep_103 (by decide) ?_
  refine lv_istore (lv' := [(6, .int 0), (5, .null), (4, .int 2), (3, .int 12), (2, .ref (am 4)), (0, .ref (am 0)), (1, .int d)]) hx hb dX14_sleep_104 hl (by decide) rfl (fun ls hl => ?_)
  refine lv_aload_n hx hb dX14_sleep_106 rfl (lv_at hl 5 rfl) ?_
  refine lv_iload hx hb dX14_sleep_107 (lv_at hl 0 rfl) ?_
  refine lv_if_eq (tgt := 116) hx hb dX14_sleep_109 (by decide) (fun _ => ?_) (fun c => absurd (by decide) c)
  refine lv_aload_n hx hb dX14_sleep_116 rfl (lv_at hl 5 rfl) ?_
  refine va_get (D := D) (ci := 19) (v := .int 1) (C := RX14) (T := TX14) (N := 19) hx hb hts iw_X14_sleep_RX14 hown hK hP 0 rfl rfl 0 (by decide) (hts (.fieldLink RX14 61 "HubcascadeModel" "thrown" "I") (by decide +kernel)) (fun _ h9 => h9) rfl dX14_sleep_117 ?_
  refine va_put (D := D) (ci := 19) (v := .int 1) (ty := .int) (C := RX14) (T := TX14) (N := 19) hx hb hts iw_X14_sleep_RX14 tyX14 tyX14_ok nmX14 hown hK hP hD hS 0 rfl rfl 0 (by decide) (hts (.fieldLink RX14 61 "HubcascadeModel" "thrown" "I") (by decide +kernel)) (fun _ h9 => h9) rfl (by decide +kernel) rfl rfl (Nat.le_of_ble_eq_true rfl) dX14_sleep_120 (fun H locs hP hD hS => ?_)
  have hP : va_P D vwCl (WM cy am eda 1) H := hP
  have hD : va_D A (WM cy am eda 1) := hD
  refine lv_iinc (v := 3) (lv' := [(4, .int 3), (6, .int 0), (5, .null), (3, .int 12), (2, .ref (am 4)), (0, .ref (am 0)), (1, .int d)]) hx hb dX14_sleep_123 hl (k := 2) rfl (by decide) (by decide) rfl (fun ls hl => ?_)
  refine lv_goto (tgt := 51) hx hb dX14_sleep_126 (by decide) ?_
  refine lv_iload hx hb dX14_sleep_51 (lv_at hl 0 rfl) ?_
  refine lv_iload_n hx hb dX14_sleep_53 rfl (lv_at hl 3 rfl) ?_
  refine lv_icmp_ge (tgt := 129) hx hb dX14_sleep_54 (by decide) (fun c => absurd c (by decide)) (fun _ => ?_)
  refine lv_aload_n hx hb dX14_sleep_57 rfl (lv_at hl 4 rfl) ?_
  refine lv_iload hx hb dX14_sleep_58 (lv_at hl 0 rfl) ?_
  refine my_aldN hx hb hK hP 4 9 rfl rfl (i := 3) (j := 3) (by decide) (by decide) (by decide) rfl dX14_sleep_60 ?_
  refine lv_astoreN (lv' := [(5, .null), (4, .int 3), (6, .int 0), (3, .int 12), (2, .ref (am 4)), (0, .ref (am 0)), (1, .int d)]) hx hb dX14_sleep_61 hl (by decide) rfl (fun ls hl => ?_)
  refine lv_aload_n hx hb dX14_sleep_63 rfl (lv_at hl 5 rfl) ?_
  refine va_get (D := D) (ci := 19) (v := .int 1) (C := RX14) (T := TX14) (N := 19) hx hb hts iw_X14_sleep_RX14 hown hK hP 0 rfl rfl 0 (by decide) (hts (.fieldLink RX14 61 "HubcascadeModel" "thrown" "I") (by decide +kernel)) (fun _ h9 => h9) rfl dX14_sleep_64 ?_
  refine lv_if_ne (tgt := 103) hx hb dX14_sleep_67 (by decide) (fun _ => ?_) (fun c => absurd c (by decide))
  refine lv_iconst (v := 0) hx hb dX14_sleep_103 (by decide) ?_
  refine lv_istore (lv' := [(6, .int 0), (5, .null), (4, .int 3), (3, .int 12), (2, .ref (am 4)), (0, .ref (am 0)), (1, .int d)]) hx hb dX14_sleep_104 hl (by decide) rfl (fun ls hl => ?_)
  refine lv_aload_n hx hb dX14_sleep_106 rfl (lv_at hl 5 rfl) ?_
  refine lv_iload hx hb dX14_sleep_107 (lv_at hl 0 rfl) ?_
  refine lv_if_eq (tgt := 116) hx hb dX14_sleep_109 (by decide) (fun _ => ?_) (fun c => absurd (by decide) c)
  refine lv_aload_n hx hb dX14_sleep_116 rfl (lv_at hl 5 rfl) ?_
  refine va_get (D := D) (ci := 19) (v := .int 1) (C := RX14) (T := TX14) (N := 19) hx hb hts iw_X14_sleep_RX14 hown hK hP 0 rfl rfl 0 (by decide) (hts (.fieldLink RX14 61 "HubcascadeModel" "thrown" "I") (by decide +kernel)) (fun _ h9 => h9) rfl dX14_sleep_117 ?_
  refine va_put (D := D) (ci := 19) (v := .int 1) (ty := .int) (C := RX14) (T := TX14) (N := 19) hx hb hts iw_X14_sleep_RX14 tyX14 tyX14_ok nmX14 hown hK hP hD hS 0 rfl rfl 0 (by decide) (hts (.fieldLink RX14 61 "HubcascadeModel" "thrown" "I") (by decide +kernel)) (fun _ h9 => h9) rfl (by decide +kernel) rfl rfl (Nat.le_of_ble_eq_true rfl) dX14_sleep_120 (fun H locs hP hD hS => ?_)
  have hP : va_P D vwCl (WM cy am eda 1) H := hP
  have hD : va_D A (WM cy am eda 1) := hD
  refine lv_iinc (v := 4) (lv' := [(4, .int 4), (6, .int 0), (5, .null), (3, .int 12), (2, .ref (am 4)), (0, .ref (am 0)), (1, .int d)]) hx hb dX14_sleep_123 hl (k := 2) rfl (by decide) (by decide) rfl (fun ls hl => ?_)
  refine lv_goto (tgt := 51) hx hb dX14_sleep_126 (by decide) ?_
  refine lv_iload hx hb dX14_sleep_51 (lv_at hl 0 rfl) ?_
  refine lv_iload_n hx hb dX14_sleep_53 rfl (lv_at hl 3 rfl) ?_
  refine lv_icmp_ge (tgt := 129) hx hb dX14_sleep_54 (by decide) (fun c => absurd c (by decide)) (fun _ => ?_)
  refine lv_aload_n hx hb dX14_sleep_57 rfl (lv_at hl 4 rfl) ?_
  refine lv_iload hx hb dX14_sleep_58 (lv_at hl 0 rfl) ?_
  refine my_aldN hx hb hK hP 4 9 rfl rfl (i := 4) (j := 4) (by decide) (by decide) (by decide) rfl dX14_sleep_60 ?_
  refine lv_astoreN (lv' := [(5, .null), (4, .int 4), (6, .int 0), (3, .int 12), (2, .ref (am 4)), (0, .ref (am 0)), (1, .int d)]) hx hb dX14_sleep_61 hl (by decide) rfl (fun ls hl => ?_)
  refine lv_aload_n hx hb dX14_sleep_63 rfl (lv_at hl 5 rfl) ?_
  refine va_get (D := D) (ci := 19) (v := .int 1) (C := RX14) (T := TX14) (N := 19) hx hb hts iw_X14_sleep_RX14 hown hK hP 0 rfl rfl 0 (by decide) (hts (.fieldLink RX14 61 "HubcascadeModel" "thrown" "I") (by decide +kernel)) (fun _ h9 => h9) rfl dX14_sleep_64 ?_
  refine lv_if_ne (tgt := 103) hx hb dX14_sleep_67 (by decide) (fun _ => ?_) (fun c => absurd c (by decide))
  refine lv_iconst (v := 0) hx hb dX14_sleep_103 (by decide) ?_
  refine lv_istore (lv' := [(6, .int 0), (5, .null), (4, .int 4), (3, .int 12), (2, .ref (am 4)), (0, .ref (am 0)), (1, .int d)]) hx hb dX14_sleep_104 hl (by decide) rfl (fun ls hl => ?_)
  refine lv_aload_n hx hb dX14_sleep_106 rfl (lv_at hl 5 rfl) ?_
  refine lv_iload hx hb dX14_sleep_107 (lv_at hl 0 rfl) ?_
  refine lv_if_eq (tgt := 116) hx hb dX14_sleep_109 (by decide) (fun _ => ?_) (fun c => absurd (by decide) c)
  refine lv_aload_n hx hb dX14_sleep_116 rfl (lv_at hl 5 rfl) ?_
  refine va_get (D := D) (ci := 19) (v := .int 1) (C := RX14) (T := TX14) (N := 19) hx hb hts iw_X14_sleep_RX14 hown hK hP 0 rfl rfl 0 (by decide) (hts (.fieldLink RX14 61 "HubcascadeModel" "thrown" "I") (by decide +kernel)) (fun _ h9 => h9) rfl dX14_sleep_117 ?_
  refine va_put (D := D) (ci := 19) (v := .int 1) (ty := .int) (C := RX14) (T := TX14) (N := 19) hx hb hts iw_X14_sleep_RX14 tyX14 tyX14_ok nmX14 hown hK hP hD hS 0 rfl rfl 0 (by decide) (hts (.fieldLink RX14 61 "HubcascadeModel" "thrown" "I") (by decide +kernel)) (fun _ h9 => h9) rfl (by decide +kernel) rfl rfl (Nat.le_of_ble_eq_true rfl) dX14_sleep_120 (fun H locs hP hD hS => ?_)
  have hP : va_P D vwCl (WM cy am eda 1) H := hP
  have hD : va_D A (WM cy am eda 1) := hD
  refine lv_iinc (v := 5) (lv' := [(4, .int 5), (6, .int 0), (5, .null), (3, .int 12), (2, .ref (am 4)), (0, .ref (am 0)), (1, .int d)]) hx hb dX14_sleep_123 hl (k := 2) rfl (by decide) (by decide) rfl (fun ls hl => ?_)
  refine lv_goto (tgt := 51) hx hb dX14_sleep_126 (by decide) ?_
  refine lv_iload hx hb dX14_sleep_51 (lv_at hl 0 rfl) ?_
  refine lv_iload_n hx hb dX14_sleep_53 rfl (lv_at hl 3 rfl) ?_
  refine lv_icmp_ge (tgt := 129) hx hb dX14_sleep_54 (by decide) (fun c => absurd c (by decide)) (fun _ => ?_)
  refine lv_aload_n hx hb dX14_sleep_57 rfl (lv_at hl 4 rfl) ?_
  refine lv_iload hx hb dX14_sleep_58 (lv_at hl 0 rfl) ?_
  refine my_aldN hx hb hK hP 4 9 rfl rfl (i := 5) (j := 5) (by decide) (by decide) (by decide) rfl dX14_sleep_60 ?_
  refine lv_astoreN (lv' := [(5, .null), (4, .int 5), (6, .int 0), (3, .int 12), (2, .ref (am 4)), (0, .ref (am 0)), (1, .int d)]) hx hb dX14_sleep_61 hl (by decide) rfl (fun ls hl => ?_)
  refine lv_aload_n hx hb dX14_sleep_63 rfl (lv_at hl 5 rfl) ?_
  refine va_get (D := D) (ci := 19) (v := .int 1) (C := RX14) (T := TX14) (N := 19) hx hb hts iw_X14_sleep_RX14 hown hK hP 0 rfl rfl 0 (by decide) (hts (.fieldLink RX14 61 "HubcascadeModel" "thrown" "I") (by decide +kernel)) (fun _ h9 => h9) rfl dX14_sleep_64 ?_
  refine lv_if_ne (tgt := 103) hx hb dX14_sleep_67 (by decide) (fun _ => ?_) (fun c => absurd c (by decide))
  refine lv_iconst (v := 0) hx hb dX14_sleep_103 (by decide) ?_
  refine lv_istore (lv' := [(6, .int 0), (5, .null), (4, .int 5), (3, .int 12), (2, .ref (am 4)), (0, .ref (am 0)), (1, .int d)]) hx hb dX14_sleep_104 hl (by decide) rfl (fun ls hl => ?_)
  refine lv_aload_n hx hb dX14_sleep_106 rfl (lv_at hl 5 rfl) ?_
  refine lv_iload hx hb dX14_sleep_107 (lv_at hl 0 rfl) ?_
  refine lv_if_eq (tgt := 116) hx hb dX14_sleep_109 (by decide) (fun _ => ?_) (fun c => absurd (by decide) c)
  refine lv_aload_n hx hb dX14_sleep_116 rfl (lv_at hl 5 rfl) ?_
  refine va_get (D := D) (ci := 19) (v := .int 1) (C := RX14) (T := TX14) (N := 19) hx hb hts iw_X14_sleep_RX14 hown hK hP 0 rfl rfl 0 (by decide) (hts (.fieldLink RX14 61 "HubcascadeModel" "thrown" "I") (by decide +kernel)) (fun _ h9 => h9) rfl dX14_sleep_117 ?_
  refine va_put (D := D) (ci := 19) (v := .int 1) (ty := .int) (C := RX14) (T := TX14) (N := 19) hx hb hts iw_X14_sleep_RX14 tyX14 tyX14_ok nmX14 hown hK hP hD hS 0 rfl rfl 0 (by decide) (hts (.fieldLink RX14 61 "HubcascadeModel" "thrown" "I") (by decide +kernel)) (fun _ h9 => h9) rfl (by decide +kernel) rfl rfl (Nat.le_of_ble_eq_true rfl) dX14_sleep_120 (fun H locs hP hD hS => ?_)
  have hP : va_P D vwCl (WM cy am eda 1) H := hP
  have hD : va_D A (WM cy am eda 1) := hD
  refine lv_iinc (v := 6) (lv' := [(4, .int 6), (6, .int 0), (5, .null), (3, .int 12), (2, .ref (am 4)), (0, .ref (am 0)), (1, .int d)]) hx hb dX14_sleep_123 hl (k := 2) rfl (by decide) (by decide) rfl (fun ls hl => ?_)
  refine lv_goto (tgt := 51) hx hb dX14_sleep_126 (by decide) ?_
  refine lv_iload hx hb dX14_sleep_51 (lv_at hl 0 rfl) ?_
  refine lv_iload_n hx hb dX14_sleep_53 rfl (lv_at hl 3 rfl) ?_
  refine lv_icmp_ge (tgt := 129) hx hb dX14_sleep_54 (by decide) (fun c => absurd c (by decide)) (fun _ => ?_)
  refine lv_aload_n hx hb dX14_sleep_57 rfl (lv_at hl 4 rfl) ?_
  refine lv_iload hx hb dX14_sleep_58 (lv_at hl 0 rfl) ?_
  refine my_aldN hx hb hK hP 4 9 rfl rfl (i := 6) (j := 6) (by decide) (by decide) (by decide) rfl dX14_sleep_60 ?_
  refine lv_astoreN (lv' := [(5, .null), (4, .int 6), (6, .int 0), (3, .int 12), (2, .ref (am 4)), (0, .ref (am 0)), (1, .int d)]) hx hb dX14_sleep_61 hl (by decide) rfl (fun ls hl => ?_)
  refine lv_aload_n hx hb dX14_sleep_63 rfl (lv_at hl 5 rfl) ?_
  refine va_get (D := D) (ci := 19) (v := .int 1) (C := RX14) (T := TX14) (N := 19) hx hb hts iw_X14_sleep_RX14 hown hK hP 0 rfl rfl 0 (by decide) (hts (.fieldLink RX14 61 "HubcascadeModel" "thrown" "I") (by decide +kernel)) (fun _ h9 => h9) rfl dX14_sleep_64 ?_
  refine lv_if_ne (tgt := 103) hx hb dX14_sleep_67 (by decide) (fun _ => ?_) (fun c => absurd c (by decide))
  refine lv_iconst (v := 0) hx hb dX14_sleep_103 (by decide) ?_
  refine lv_istore (lv' := [(6, .int 0), (5, .null), (4, .int 6), (3, .int 12), (2, .ref (am 4)), (0, .ref (am 0)), (1, .int d)]) hx hb dX14_sleep_104 hl (by decide) rfl (fun ls hl => ?_)
  refine lv_aload_n hx hb dX14_sleep_106 rfl (lv_at hl 5 rfl) ?_
  refine lv_iload hx hb dX14_sleep_107 (lv_at hl 0 rfl) ?_
  refine lv_if_eq (tgt := 116) hx hb dX14_sleep_109 (by decide) (fun _ => ?_) (fun c => absurd (by decide) c)
  refine lv_aload_n hx hb dX14_sleep_116 rfl (lv_at hl 5 rfl) ?_
  refine va_get (D := D) (ci := 19) (v := .int 1) (C := RX14) (T := TX14) (N := 19) hx hb hts iw_X14_sleep_RX14 hown hK hP 0 rfl rfl 0 (by decide) (hts (.fieldLink RX14 61 "HubcascadeModel" "thrown" "I") (by decide +kernel)) (fun _ h9 => h9) rfl dX14_sleep_117 ?_
  refine va_put (D := D) (ci := 19) (v := .int 1) (ty := .int) (C := RX14) (T := TX14) (N := 19) hx hb hts iw_X14_sleep_RX14 tyX14 tyX14_ok nmX14 hown hK hP hD hS 0 rfl rfl 0 (by decide) (hts (.fieldLink RX14 61 "HubcascadeModel" "thrown" "I") (by decide +kernel)) (fun _ h9 => h9) rfl (by decide +kernel) rfl rfl (Nat.le_of_ble_eq_true rfl) dX14_sleep_120 (fun H locs hP hD hS => ?_)
  have hP : va_P D vwCl (WM cy am eda 1) H := hP
  have hD : va_D A (WM cy am eda 1) := hD
  refine lv_iinc (v := 7) (lv' := [(4, .int 7), (6, .int 0), (5, .null), (3, .int 12), (2, .ref (am 4)), (0, .ref (am 0)), (1, .int d)]) hx hb dX14_sleep_123 hl (k := 2) rfl (by decide) (by decide) rfl (fun ls hl => ?_)
  refine lv_goto (tgt := 51) hx hb dX14_sleep_126 (by decide) ?_
  refine lv_iload hx hb dX14_sleep_51 (lv_at hl 0 rfl) ?_
  refine lv_iload_n hx hb dX14_sleep_53 rfl (lv_at hl 3 rfl) ?_
  refine lv_icmp_ge (tgt := 129) hx hb dX14_sleep_54 (by decide) (fun c => absurd c (by decide)) (fun _ => ?_)
  refine lv_aload_n hx hb dX14_sleep_57 rfl (lv_at hl 4 rfl) ?_
  refine lv_iload hx hb dX14_sleep_58 (lv_at hl 0 rfl) ?_
  refine my_aldN hx hb hK hP 4 9 rfl rfl (i := 7) (j := 7) (by decide) (by decide) (by decide) rfl dX14_sleep_60 ?_
  refine lv_astoreN (lv' := [(5, .null), (4, .int 7), (6, .int 0), (3, .int 12), (2, .ref (am 4)), (0, .ref (am 0)), (1, .int d)]) hx hb dX14_sleep_61 hl (by decide) rfl (fun ls hl => ?_)
  refine lv_aload_n hx hb dX14_sleep_63 rfl (lv_at hl 5 rfl) ?_
  refine va_get (D := D) (ci := 19) (v := .int 1) (C := RX14) (T := TX14) (N := 19) hx hb hts iw_X14_sleep_RX14 hown hK hP 0 rfl rfl 0 (by decide) (hts (.fieldLink RX14 61 "HubcascadeModel" "thrown" "I") (by decide +kernel)) (fun _ h9 => h9) rfl dX14_sleep_64 ?_
  refine lv_if_ne (tgt := 103) hx hb dX14_sleep_67 (by decide) (fun _ => ?_) (fun c => absurd c (by decide))
  refine lv_iconst (v := 0) hx hb dX14_sleep_103 (by decide) ?_
  refine lv_istore (lv' := [(6, .int 0), (5, .null), (4, .int 7), (3, .int 12), (2, .ref (am 4)), (0, .ref (am 0)), (1, .int d)]) hx hb dX14_sleep_104 hl (by decide) rfl (fun ls hl => ?_)
  refine lv_aload_n hx hb dX14_sleep_106 rfl (lv_at hl 5 rfl) ?_
  refine lv_iload hx hb dX14_sleep_107 (lv_at hl 0 rfl) ?_
  refine lv_if_eq (tgt := 116) hx hb dX14_sleep_109 (by decide) (fun _ => ?_) (fun c => absurd (by decide) c)
  refine lv_aload_n hx hb dX14_sleep_116 rfl (lv_at hl 5 rfl) ?_
  refine va_get (D := D) (ci := 19) (v := .int 1) (C := RX14) (T := TX14) (N := 19) hx hb hts iw_X14_sleep_RX14 hown hK hP 0 rfl rfl 0 (by decide) (hts (.fieldLink RX14 61 "HubcascadeModel" "thrown" "I") (by decide +kernel)) (fun _ h9 => h9) rfl dX14_sleep_117 ?_
  refine va_put (D := D) (ci := 19) (v := .int 1) (ty := .int) (C := RX14) (T := TX14) (N := 19) hx hb hts iw_X14_sleep_RX14 tyX14 tyX14_ok nmX14 hown hK hP hD hS 0 rfl rfl 0 (by decide) (hts (.fieldLink RX14 61 "HubcascadeModel" "thrown" "I") (by decide +kernel)) (fun _ h9 => h9) rfl (by decide +kernel) rfl rfl (Nat.le_of_ble_eq_true rfl) dX14_sleep_120 (fun H locs hP hD hS => ?_)
  have hP : va_P D vwCl (WM cy am eda 1) H := hP
  have hD : va_D A (WM cy am eda 1) := hD
  refine lv_iinc (v := 8) (lv' := [(4, .int 8), (6, .int 0), (5, .null), (3, .int 12), (2, .ref (am 4)), (0, .ref (am 0)), (1, .int d)]) hx hb dX14_sleep_123 hl (k := 2) rfl (by decide) (by decide) rfl (fun ls hl => ?_)
  refine lv_goto (tgt := 51) hx hb dX14_sleep_126 (by decide) ?_
  refine lv_iload hx hb dX14_sleep_51 (lv_at hl 0 rfl) ?_
  refine lv_iload_n hx hb dX14_sleep_53 rfl (lv_at hl 3 rfl) ?_
  refine lv_icmp_ge (tgt := 129) hx hb dX14_sleep_54 (by decide) (fun c => absurd c (by decide)) (fun _ => ?_)
  refine lv_aload_n hx hb dX14_sleep_57 rfl (lv_at hl 4 rfl) ?_
  refine lv_iload hx hb dX14_sleep_58 (lv_at hl 0 rfl) ?_
  refine my_aldN hx hb hK hP 4 9 rfl rfl (i := 8) (j := 8) (by decide) (by decide) (by decide) rfl dX14_sleep_60 ?_
  refine lv_astoreN (lv' := [(5, .null), (4, .int 8), (6, .int 0), (3, .int 12), (2, .ref (am 4)), (0, .ref (am 0)), (1, .int d)]) hx hb dX14_sleep_61 hl (by decide) rfl (fun ls hl => ?_)
  refine lv_aload_n hx hb dX14_sleep_63 rfl (lv_at hl 5 rfl) ?_
  refine va_get (D := D) (ci := 19) (v := .int 1) (C := RX14) (T := TX14) (N := 19) hx hb hts iw_X14_sleep_RX14 hown hK hP 0 rfl rfl 0 (by decide) (hts (.fieldLink RX14 61 "HubcascadeModel" "thrown" "I") (by decide +kernel)) (fun _ h9 => h9) rfl dX14_sleep_64 ?_
  refine lv_if_ne (tgt := 103) hx hb dX14_sleep_67 (by decide) (fun _ => ?_) (fun c => absurd c (by decide))
  refine lv_iconst (v := 0) hx hb dX14_sleep_103 (by decide) ?_
  refine lv_istore (lv' := [(6, .int 0), (5, .null), (4, .int 8), (3, .int 12), (2, .ref (am 4)), (0, .ref (am 0)), (1, .int d)]) hx hb dX14_sleep_104 hl (by decide) rfl (fun ls hl => ?_)
  refine lv_aload_n hx hb dX14_sleep_106 rfl (lv_at hl 5 rfl) ?_
  refine lv_iload hx hb dX14_sleep_107 (lv_at hl 0 rfl) ?_
  refine lv_if_eq (tgt := 116) hx hb dX14_sleep_109 (by decide) (fun _ => ?_) (fun c => absurd (by decide) c)
  refine lv_aload_n hx hb dX14_sleep_116 rfl (lv_at hl 5 rfl) ?_
  refine va_get (D := D) (ci := 19) (v := .int 1) (C := RX14) (T := TX14) (N := 19) hx hb hts iw_X14_sleep_RX14 hown hK hP 0 rfl rfl 0 (by decide) (hts (.fieldLink RX14 61 "HubcascadeModel" "thrown" "I") (by decide +kernel)) (fun _ h9 => h9) rfl dX14_sleep_117 ?_
  refine va_put (D := D) (ci := 19) (v := .int 1) (ty := .int) (C := RX14) (T := TX14) (N := 19) hx hb hts iw_X14_sleep_RX14 tyX14 tyX14_ok nmX14 hown hK hP hD hS 0 rfl rfl 0 (by decide) (hts (.fieldLink RX14 61 "HubcascadeModel" "thrown" "I") (by decide +kernel)) (fun _ h9 => h9) rfl (by decide +kernel) rfl rfl (Nat.le_of_ble_eq_true rfl) dX14_sleep_120 (fun H locs hP hD hS => ?_)
  have hP : va_P D vwCl (WM cy am eda 1) H := hP
  have hD : va_D A (WM cy am eda 1) := hD
  refine lv_iinc (v := 9) (lv' := [(4, .int 9), (6, .int 0), (5, .null), (3, .int 12), (2, .ref (am 4)), (0, .ref (am 0)), (1, .int d)]) hx hb dX14_sleep_123 hl (k := 2) rfl (by decide) (by decide) rfl (fun ls hl => ?_)
  refine lv_goto (tgt := 51) hx hb dX14_sleep_126 (by decide) ?_
  refine lv_iload hx hb dX14_sleep_51 (lv_at hl 0 rfl) ?_
  refine lv_iload_n hx hb dX14_sleep_53 rfl (lv_at hl 3 rfl) ?_
  refine lv_icmp_ge (tgt := 129) hx hb dX14_sleep_54 (by decide) (fun c => absurd c (by decide)) (fun _ => ?_)
  refine lv_aload_n hx hb dX14_sleep_57 rfl (lv_at hl 4 rfl) ?_
  refine lv_iload hx hb dX14_sleep_58 (lv_at hl 0 rfl) ?_
  refine my_aldN hx hb hK hP 4 9 rfl rfl (i := 9) (j := 9) (by decide) (by decide) (by decide) rfl dX14_sleep_60 ?_
  refine lv_astoreN (lv' := [(5, .null), (4, .int 9), (6, .int 0), (3, .int 12), (2, .ref (am 4)), (0, .ref (am 0)), (1, .int d)]) hx hb dX14_sleep_61 hl (by decide) rfl (fun ls hl => ?_)
  refine lv_aload_n hx hb dX14_sleep_63 rfl (lv_at hl 5 rfl) ?_
  refine va_get (D := D) (ci := 19) (v := .int 1) (C := RX14) (T := TX14) (N := 19) hx hb hts iw_X14_sleep_RX14 hown hK hP 0 rfl rfl 0 (by decide) (hts (.fieldLink RX14 61 "HubcascadeModel" "thrown" "I") (by decide +kernel)) (fun _ h9 => h9) rfl dX14_sleep_64 ?_
  refine lv_if_ne (tgt := 103) hx hb dX14_sleep_67 (by decide) (fun _ => ?_) (fun c => absurd c (by decide))
  refine lv_iconst (v := 0) hx hb dX14_sleep_103 (by decide) ?_
  refine lv_istore (lv' := [(6, .int 0), (5, .null), (4, .int 9), (3, .int 12), (2, .ref (am 4)), (0, .ref (am 0)), (1, .int d)]) hx hb dX14_sleep_104 hl (by decide) rfl (fun ls hl => ?_)
  refine lv_aload_n hx hb dX14_sleep_106 rfl (lv_at hl 5 rfl) ?_
  refine lv_iload hx hb dX14_sleep_107 (lv_at hl 0 rfl) ?_
  refine lv_if_eq (tgt := 116) hx hb dX14_sleep_109 (by decide) (fun _ => ?_) (fun c => absurd (by decide) c)
  refine lv_aload_n hx hb dX14_sleep_116 rfl (lv_at hl 5 rfl) ?_
  refine va_get (D := D) (ci := 19) (v := .int 1) (C := RX14) (T := TX14) (N := 19) hx hb hts iw_X14_sleep_RX14 hown hK hP 0 rfl rfl 0 (by decide) (hts (.fieldLink RX14 61 "HubcascadeModel" "thrown" "I") (by decide +kernel)) (fun _ h9 => h9) rfl dX14_sleep_117 ?_
  refine va_put (D := D) (ci := 19) (v := .int 1) (ty := .int) (C := RX14) (T := TX14) (N := 19) hx hb hts iw_X14_sleep_RX14 tyX14 tyX14_ok nmX14 hown hK hP hD hS 0 rfl rfl 0 (by decide) (hts (.fieldLink RX14 61 "HubcascadeModel" "thrown" "I") (by decide +kernel)) (fun _ h9 => h9) rfl (by decide +kernel) rfl rfl (Nat.le_of_ble_eq_true rfl) dX14_sleep_120 (fun H locs hP hD hS => ?_)
  have hP : va_P D vwCl (WM cy am eda 1) H := hP
  have hD : va_D A (WM cy am eda 1) := hD
  refine lv_iinc (v := 10) (lv' := [(4, .int 10), (6, .int 0), (5, .null), (3, .int 12), (2, .ref (am 4)), (0, .ref (am 0)), (1, .int d)]) hx hb dX14_sleep_123 hl (k := 2) rfl (by decide) (by decide) rfl (fun ls hl => ?_)
  refine lv_goto (tgt := 51) hx hb dX14_sleep_126 (by decide) ?_
  refine lv_iload hx hb dX14_sleep_51 (lv_at hl 0 rfl) ?_
  refine lv_iload_n hx hb dX14_sleep_53 rfl (lv_at hl 3 rfl) ?_
  refine lv_icmp_ge (tgt := 129) hx hb dX14_sleep_54 (by decide) (fun c => absurd c (by decide)) (fun _ => ?_)
  refine lv_aload_n hx hb dX14_sleep_57 rfl (lv_at hl 4 rfl) ?_
  refine lv_iload hx hb dX14_sleep_58 (lv_at hl 0 rfl) ?_
  refine my_aldN hx hb hK hP 4 9 rfl rfl (i := 10) (j := 10) (by decide) (by decide) (by decide) rfl dX14_sleep_60 ?_
  refine lv_astoreN (lv' := [(5, .null), (4, .int 10), (6, .int 0), (3, .int 12), (2, .ref (am 4)), (0, .ref (am 0)), (1, .int d)]) hx hb dX14_sleep_61 hl (by decide) rfl (fun ls hl => ?_)
  refine lv_aload_n hx hb dX14_sleep_63 rfl (lv_at hl 5 rfl) ?_
  refine va_get (D := D) (ci := 19) (v := .int 1) (C := RX14) (T := TX14) (N := 19) hx hb hts iw_X14_sleep_RX14 hown hK hP 0 rfl rfl 0 (by decide) (hts (.fieldLink RX14 61 "HubcascadeModel" "thrown" "I") (by decide +kernel)) (fun _ h9 => h9) rfl dX14_sleep_64 ?_
  refine lv_if_ne (tgt := 103) hx hb dX14_sleep_67 (by decide) (fun _ => ?_) (fun c => absurd c (by decide))
  refine lv_iconst (v := 0) hx hb dX14_sleep_103 (by decide) ?_
  refine lv_istore (lv' := [(6, .int 0), (5, .null), (4, .int 10), (3, .int 12), (2, .ref (am 4)), (0, .ref (am 0)), (1, .int d)]) hx hb dX14_sleep_104 hl (by decide) rfl (fun ls hl => ?_)
  refine lv_aload_n hx hb dX14_sleep_106 rfl (lv_at hl 5 rfl) ?_
  refine lv_iload hx hb dX14_sleep_107 (lv_at hl 0 rfl) ?_
  refine lv_if_eq (tgt := 116) hx hb dX14_sleep_109 (by decide) (fun _ => ?_) (fun c => absurd (by decide) c)
  refine lv_aload_n hx hb dX14_sleep_116 rfl (lv_at hl 5 rfl) ?_
  refine va_get (D := D) (ci := 19) (v := .int 1) (C := RX14) (T := TX14) (N := 19) hx hb hts iw_X14_sleep_RX14 hown hK hP 0 rfl rfl 0 (by decide) (hts (.fieldLink RX14 61 "HubcascadeModel" "thrown" "I") (by decide +kernel)) (fun _ h9 => h9) rfl dX14_sleep_117 ?_
  refine va_put (D := D) (ci := 19) (v := .int 1) (ty := .int) (C := RX14) (T := TX14) (N := 19) hx hb hts iw_X14_sleep_RX14 tyX14 tyX14_ok nmX14 hown hK hP hD hS 0 rfl rfl 0 (by decide) (hts (.fieldLink RX14 61 "HubcascadeModel" "thrown" "I") (by decide +kernel)) (fun _ h9 => h9) rfl (by decide +kernel) rfl rfl (Nat.le_of_ble_eq_true rfl) dX14_sleep_120 (fun H locs hP hD hS => ?_)
  have hP : va_P D vwCl (WM cy am eda 1) H := hP
  have hD : va_D A (WM cy am eda 1) := hD
  refine lv_iinc (v := 11) (lv' := [(4, .int 11), (6, .int 0), (5, .null), (3, .int 12), (2, .ref (am 4)), (0, .ref (am 0)), (1, .int d)]) hx hb dX14_sleep_123 hl (k := 2) rfl (by decide) (by decide) rfl (fun ls hl => ?_)
  refine lv_goto (tgt := 51) hx hb dX14_sleep_126 (by decide) ?_
  refine lv_iload hx hb dX14_sleep_51 (lv_at hl 0 rfl) ?_
  refine lv_iload_n hx hb dX14_sleep_53 rfl (lv_at hl 3 rfl) ?_
  refine lv_icmp_ge (tgt := 129) hx hb dX14_sleep_54 (by decide) (fun c => absurd c (by decide)) (fun _ => ?_)
  refine lv_aload_n hx hb dX14_sleep_57 rfl (lv_at hl 4 rfl) ?_
  refine lv_iload hx hb dX14_sleep_58 (lv_at hl 0 rfl) ?_
  refine my_aldN hx hb hK hP 4 9 rfl rfl (i := 11) (j := 11) (by decide) (by decide) (by decide) rfl dX14_sleep_60 ?_
  refine lv_astoreN (lv' := [(5, .null), (4, .int 11), (6, .int 0), (3, .int 12), (2, .ref (am 4)), (0, .ref (am 0)), (1, .int d)]) hx hb dX14_sleep_61 hl (by decide) rfl (fun ls hl => ?_)
  refine lv_aload_n hx hb dX14_sleep_63 rfl (lv_at hl 5 rfl) ?_
  refine va_get (D := D) (ci := 19) (v := .int 1) (C := RX14) (T := TX14) (N := 19) hx hb hts iw_X14_sleep_RX14 hown hK hP 0 rfl rfl 0 (by decide) (hts (.fieldLink RX14 61 "HubcascadeModel" "thrown" "I") (by decide +kernel)) (fun _ h9 => h9) rfl dX14_sleep_64 ?_
  refine lv_if_ne (tgt := 103) hx hb dX14_sleep_67 (by decide) (fun _ => ?_) (fun c => absurd c (by decide))
  refine lv_iconst (v := 0) hx hb dX14_sleep_103 (by decide) ?_
  refine lv_istore (lv' := [(6, .int 0), (5, .null), (4, .int 11), (3, .int 12), (2, .ref (am 4)), (0, .ref (am 0)), (1, .int d)]) hx hb dX14_sleep_104 hl (by decide) rfl (fun ls hl => ?_)
  refine lv_aload_n hx hb dX14_sleep_106 rfl (lv_at hl 5 rfl) ?_
  refine lv_iload hx hb dX14_sleep_107 (lv_at hl 0 rfl) ?_
  refine lv_if_eq (tgt := 116) hx hb dX14_sleep_109 (by decide) (fun _ => ?_) (fun c => absurd (by decide) c)
  refine lv_aload_n hx hb dX14_sleep_116 rfl (lv_at hl 5 rfl) ?_
  refine va_get (D := D) (ci := 19) (v := .int 1) (C := RX14) (T := TX14) (N := 19) hx hb hts iw_X14_sleep_RX14 hown hK hP 0 rfl rfl 0 (by decide) (hts (.fieldLink RX14 61 "HubcascadeModel" "thrown" "I") (by decide +kernel)) (fun _ h9 => h9) rfl dX14_sleep_117 ?_
  refine va_put (D := D) (ci := 19) (v := .int 1) (ty := .int) (C := RX14) (T := TX14) (N := 19) hx hb hts iw_X14_sleep_RX14 tyX14 tyX14_ok nmX14 hown hK hP hD hS 0 rfl rfl 0 (by decide) (hts (.fieldLink RX14 61 "HubcascadeModel" "thrown" "I") (by decide +kernel)) (fun _ h9 => h9) rfl (by decide +kernel) rfl rfl (Nat.le_of_ble_eq_true rfl) dX14_sleep_120 (fun H locs hP hD hS => ?_)
  have hP : va_P D vwCl (WM cy am eda 1) H := hP
  have hD : va_D A (WM cy am eda 1) := hD
  refine lv_iinc (v := 12) (lv' := [(4, .int 12), (6, .int 0), (5, .null), (3, .int 12), (2, .ref (am 4)), (0, .ref (am 0)), (1, .int d)]) hx hb dX14_sleep_123 hl (k := 2) rfl (by decide) (by decide) rfl (fun ls hl => ?_)
  refine lv_goto (tgt := 51) hx hb dX14_sleep_126 (by decide) ?_
  refine lv_iload hx hb dX14_sleep_51 (lv_at hl 0 rfl) ?_
  refine lv_iload_n hx hb dX14_sleep_53 rfl (lv_at hl 3 rfl) ?_
  refine lv_icmp_ge (tgt := 129) hx hb dX14_sleep_54 (by decide) (fun _ => ?_) (fun c => absurd (by decide) c)
  refine lv_iconst (v := 0) hx hb dX14_sleep_129 (by decide) ?_
  refine lv_istore_n (lv' := [(2, .int 0), (4, .int 12), (6, .int 0), (5, .null), (3, .int 12), (0, .ref (am 0)), (1, .int d)]) hx hb dX14_sleep_130 rfl hl (by decide) rfl (fun ls hl => ?_)
  refine lv_iconst (v := 0) hx hb dX14_sleep_131 (by decide) ?_
  refine lv_istore_n (lv' := [(3, .int 0), (2, .int 0), (4, .int 12), (6, .int 0), (5, .null), (0, .ref (am 0)), (1, .int d)]) hx hb dX14_sleep_132 rfl hl (by decide) rfl (fun ls hl => ?_)
  refine lv_iload_n hx hb dX14_sleep_133 rfl (lv_at hl 0 rfl) ?_
  refine lv_aload_n hx hb dX14_sleep_134 rfl (lv_at hl 5 rfl) ?_
  refine va_get (D := D) (ci := 19) (v := .ref (am 1)) (C := RX14) (T := TX14) (N := 19) hx hb hts iw_X14_sleep_RX14 hown hK hP 0 rfl rfl 1 (by decide) (hts (.fieldLink RX14 10 "HubcascadeModel" "devices" "Ljava/util/ArrayList;") (by decide +kernel)) (fun _ h9 => h9) rfl dX14_sleep_135 ?_
  refine ro_callV (As := []) (rest := [.int 0]) ⟨hx, hb, hml, hown, hts⟩ (c_size l D cy _ 1 (am 1) (am 2) 1 1 rfl) (cwV 0 hts gX14_sleep_Jx4a65c_size_8abf5 rfl rfl rfl (by decide +kernel) ⟨by decide, by decide⟩) hK hN hP hS (ci := 4) (q0 := 1) rfl rfl rfl rfl hl.1 rfl (Nat.le_of_ble_eq_true rfl) dX14_sleep_138 ⟨Nat.le_of_ble_eq_true rfl, Nat.le_of_ble_eq_true rfl⟩ (fun H locs hP hS => ?_)
  refine lv_icmp_ge (tgt := 204) hx hb dX14_sleep_141 (by decide) (fun c => absurd c (by decide)) (fun _ => ?_)
  refine lv_aload_n hx hb dX14_sleep_144 rfl (lv_at hl 5 rfl) ?_
  refine va_get (D := D) (ci := 19) (v := .int 1) (C := RX14) (T := TX14) (N := 19) hx hb hts iw_X14_sleep_RX14 hown hK hP 0 rfl rfl 0 (by decide) (hts (.fieldLink RX14 61 "HubcascadeModel" "thrown" "I") (by decide +kernel)) (fun _ h9 => h9) rfl dX14_sleep_145 ?_
  refine lv_if_ne (tgt := 204) hx hb dX14_sleep_148 (by decide) (fun _ => ?_) (fun c => absurd c (by decide))
  refine lv_iload_n hx hb dX14_sleep_204 rfl (lv_at hl 1 rfl) ?_
  refine W.widen (k := 0) (n := 0) (Nat.le_of_ble_eq_true rfl) (Nat.le_of_ble_eq_true rfl) ?_
  have hP9 := hP.sub (ws' := [(am 0, .inr (19, [.int 1, .ref (am 1), .ref (am 4), .ref (am 5), .ref (am 6), .ref (am 7), .ref (am 8), .int 0, .ref (am 9), .int 0, .int (-1), .int 100, .ref (am 10), .long 0, .int 0, .int 0, .int 0, .int 0, .long 0]))]) [0] rfl
  have hD9 := hD.sub (ws' := [(am 0, .inr (19, [.int 1, .ref (am 1), .ref (am 4), .ref (am 5), .ref (am 6), .ref (am 7), .ref (am 8), .int 0, .ref (am 9), .int 0, .int (-1), .int 100, .ref (am 10), .long 0, .int 0, .int 0, .int 0, .int 0, .long 0]))]) [0] (by decide) rfl
  exact W.iret hx hb hr (fun t ht hW => ⟨rfl, ⟨by rw [ht]; exact hP9, hD9⟩, hS.F ht⟩) hS.2.2 dX14_sleep_205

theorem iw_X14_driver_RX14 : ∀ w ∈ u_ws RX14 TX14 19, w ∈ wsX14_driver := by decide +kernel
set_option maxRecDepth 100000 in
set_option maxHeartbeats 4000000 in
theorem a_driver_1 (l : Launch) (D : va_G) (cy : Nat → ClassId) {ca : Nat} {ia : Nat → Nat} {am : Nat → Nat} {eda : Nat} {th : Int32} (sz : Nat) (a b : Int32) (h : ¬ ((¬ a < 0 ∧ ¬ 9 < a) ∧ (¬ b < -1 ∧ ¬ 9 < b))) : MJ l D cy eda ca ia (WM cy am eda th) sz yX14_driver wsX14_driver 1 0 0 22 [.ref (am 0), .int a, .int b] (some (.int 0)) (fun H => va_P D vwCl ([(am 0, .inr (19, [.int 1, .ref (am 1), .ref (am 4), .ref (am 5), .ref (am 6), .ref (am 7), .ref (am 8), .int 0, .ref (am 9), .int 0, .int (-1), .int 100, .ref (am 10), .long 0, .int 0, .int 0, .int 0, .int 0, .long 0]))]) H ∧ va_D (va_A (WM cy am eda th) sz) ([(am 0, .inr (19, [.int 1, .ref (am 1), .ref (am 4), .ref (am 5), .ref (am 6), .ref (am 7), .ref (am 8), .int 0, .ref (am 9), .int 0, .int (-1), .int 100, .ref (am 10), .long 0, .int 0, .int 0, .int 0, .int 0, .long 0]))])) := by
  refine ro_ofW (cc := cX14_driver) (maxL := 3) (ret := (some .int)) (lv := [(0, .ref (am 0)), (1, .int a), (2, .int b)]) (by decide) rfl (Nat.le_of_ble_eq_true rfl) rfl ?_
  intro p e s m below meth c ls hx hb hr hml hown hlocks hname hts hv hl
  have hown : s.vm.findClass RX14 = some m.cls := hown
  obtain ⟨⟨⟨hsz, hP, hD0⟩, hK, hN⟩, hJS⟩ := hv
  subst hsz
  have hD := hD0.self (sz := s.heap.size)
  generalize hAe : va_A (WM cy am eda th) s.heap.size = A at hD hJS ⊢
  have hA : ∀ q : Nat, s.heap.size ≤ q → A q := fun q h => by rw [← hAe]; exact Or.inr h
  have hS : va_S A s.heap s.heap [] := va_S.rf
  refine lv_aload_n hx hb dX14_driver_0 rfl (lv_at hl 0 rfl) ?_
  refine lv_iload_n hx hb dX14_driver_1 rfl (lv_at hl 1 rfl) ?_
  refine lv_iconst (v := 0) hx hb dX14_driver_2 (by decide) ?_
  refine lv_bipush (v := 9) hx hb dX14_driver_3 (by decide) ?_
  by_cases h1 : (¬ a < 0 ∧ ¬ 9 < a)
  · refine ro_callS (As := [.int a, .int 0, .int 9]) (rest := [.ref (am 0)]) ⟨hx, hb, hml, hown, hts⟩ (c_in_t l D cy _ _ _ _ h1.1 h1.2) (va_cwS 3 hts gX14_driver_X14_in rfl rfl rfl (by decide +kernel) ⟨by decide, by decide⟩) hK hN hP hS rfl hl.1 rfl (Nat.le_of_ble_eq_true rfl) dX14_driver_5 ⟨Nat.le_of_ble_eq_true rfl, Nat.le_of_ble_eq_true rfl⟩ (fun H locs hP hS => ?_)
    refine lv_if_eq (tgt := 21) hx hb dX14_driver_8 (by decide) (fun c => absurd c (by decide)) (fun _ => ?_)
    refine lv_iload_n hx hb dX14_driver_11 rfl (lv_at hl 2 rfl) ?_
    refine lv_iconst (v := (-1)) hx hb dX14_driver_12 (by decide) ?_
    refine lv_bipush (v := 9) hx hb dX14_driver_13 (by decide) ?_
    by_cases h2 : (¬ b < (-1) ∧ ¬ 9 < b)
    · refine ro_callS (As := [.int b, .int (-1), .int 9]) (rest := [.ref (am 0)]) ⟨hx, hb, hml, hown, hts⟩ (c_in_t l D cy _ _ _ _ h2.1 h2.2) (va_cwS 3 hts gX14_driver_X14_in rfl rfl rfl (by decide +kernel) ⟨by decide, by decide⟩) hK hN hP hS rfl hl.1 rfl (Nat.le_of_ble_eq_true rfl) dX14_driver_15 ⟨Nat.le_of_ble_eq_true rfl, Nat.le_of_ble_eq_true rfl⟩ (fun H locs hP hS => ?_)
      refine lv_if_ne (tgt := 25) hx hb dX14_driver_18 (by decide) (fun _ => ?_) (fun c => absurd c (by decide))
      exact absurd ⟨h1, h2⟩ h
    · refine ro_callS (As := [.int b, .int (-1), .int 9]) (rest := [.ref (am 0)]) ⟨hx, hb, hml, hown, hts⟩ (c_in_f l D cy _ _ _ _ (my_out h2)) (va_cwS 3 hts gX14_driver_X14_in rfl rfl rfl (by decide +kernel) ⟨by decide, by decide⟩) hK hN hP hS rfl hl.1 rfl (Nat.le_of_ble_eq_true rfl) dX14_driver_15 ⟨Nat.le_of_ble_eq_true rfl, Nat.le_of_ble_eq_true rfl⟩ (fun H locs hP hS => ?_)
      refine lv_if_ne (tgt := 25) hx hb dX14_driver_18 (by decide) (fun c => absurd (by decide) c) (fun _ => ?_)
      refine lv_iconst (v := 1) hx hb dX14_driver_21 (by decide) ?_
      refine lv_goto (tgt := 42) hx hb dX14_driver_22 (by decide) ?_
      refine va_put (D := D) (ci := 19) (v := .int 1) (ty := .int) (C := RX14) (T := TX14) (N := 19) hx hb hts iw_X14_driver_RX14 tyX14 tyX14_ok nmX14 hown hK hP hD hS 0 rfl rfl 0 (by decide) (hts (.fieldLink RX14 61 "HubcascadeModel" "thrown" "I") (by decide +kernel)) (fun _ h9 => h9) rfl (by decide +kernel) rfl rfl (Nat.le_of_ble_eq_true rfl) dX14_driver_42 (fun H locs hP hD hS => ?_)
      have hP : va_P D vwCl (WM cy am eda 1) H := hP
      have hD : va_D A (WM cy am eda 1) := hD
      refine lv_aload_n hx hb dX14_driver_45 rfl (lv_at hl 0 rfl) ?_
      refine va_get (D := D) (ci := 19) (v := .int 1) (C := RX14) (T := TX14) (N := 19) hx hb hts iw_X14_driver_RX14 hown hK hP 0 rfl rfl 0 (by decide) (hts (.fieldLink RX14 61 "HubcascadeModel" "thrown" "I") (by decide +kernel)) (fun _ h9 => h9) rfl dX14_driver_46 ?_
      refine lv_if_le (tgt := 54) hx hb dX14_driver_49 (by decide) (fun c => absurd c (by decide)) (fun _ => ?_)
      refine lv_iconst (v := 0) hx hb dX14_driver_52 (by decide) ?_
      refine W.widen (k := 0) (n := 0) (Nat.le_of_ble_eq_true rfl) (Nat.le_of_ble_eq_true rfl) ?_
      have hP9 := hP.sub (ws' := [(am 0, .inr (19, [.int 1, .ref (am 1), .ref (am 4), .ref (am 5), .ref (am 6), .ref (am 7), .ref (am 8), .int 0, .ref (am 9), .int 0, .int (-1), .int 100, .ref (am 10), .long 0, .int 0, .int 0, .int 0, .int 0, .long 0]))]) [0] rfl
      have hD9 := hD.sub (ws' := [(am 0, .inr (19, [.int 1, .ref (am 1), .ref (am 4), .ref (am 5), .ref (am 6), .ref (am 7), .ref (am 8), .int 0, .ref (am 9), .int 0, .int (-1), .int 100, .ref (am 10), .long 0, .int 0, .int 0, .int 0, .int 0, .long 0]))]) [0] (by decide) rfl
      exact W.iret hx hb hr (fun t ht hW => ⟨rfl, ⟨by rw [ht]; exact hP9, hD9⟩, hS.F ht⟩) hS.2.2 dX14_driver_53
  · refine ro_callS (As := [.int a, .int 0, .int 9]) (rest := [.ref (am 0)]) ⟨hx, hb, hml, hown, hts⟩ (c_in_f l D cy _ _ _ _ (my_out h1)) (va_cwS 3 hts gX14_driver_X14_in rfl rfl rfl (by decide +kernel) ⟨by decide, by decide⟩) hK hN hP hS rfl hl.1 rfl (Nat.le_of_ble_eq_true rfl) dX14_driver_5 ⟨Nat.le_of_ble_eq_true rfl, Nat.le_of_ble_eq_true rfl⟩ (fun H locs hP hS => ?_)
    refine lv_if_eq (tgt := 21) hx hb dX14_driver_8 (by decide) (fun _ => ?_) (fun c => absurd (by decide) c)
    refine lv_iconst (v := 1) hx hb dX14_driver_21 (by decide) ?_
    refine lv_goto (tgt := 42) hx hb dX14_driver_22 (by decide) ?_
    refine va_put (D := D) (ci := 19) (v := .int 1) (ty := .int) (C := RX14) (T := TX14) (N := 19) hx hb hts iw_X14_driver_RX14 tyX14 tyX14_ok nmX14 hown hK hP hD hS 0 rfl rfl 0 (by decide) (hts (.fieldLink RX14 61 "HubcascadeModel" "thrown" "I") (by decide +kernel)) (fun _ h9 => h9) rfl (by decide +kernel) rfl rfl (Nat.le_of_ble_eq_true rfl) dX14_driver_42 (fun H locs hP hD hS => ?_)
    have hP : va_P D vwCl (WM cy am eda 1) H := hP
    have hD : va_D A (WM cy am eda 1) := hD
    refine lv_aload_n hx hb dX14_driver_45 rfl (lv_at hl 0 rfl) ?_
    refine va_get (D := D) (ci := 19) (v := .int 1) (C := RX14) (T := TX14) (N := 19) hx hb hts iw_X14_driver_RX14 hown hK hP 0 rfl rfl 0 (by decide) (hts (.fieldLink RX14 61 "HubcascadeModel" "thrown" "I") (by decide +kernel)) (fun _ h9 => h9) rfl dX14_driver_46 ?_
    refine lv_if_le (tgt := 54) hx hb dX14_driver_49 (by decide) (fun c => absurd c (by decide)) (fun _ => ?_)
    refine lv_iconst (v := 0) hx hb dX14_driver_52 (by decide) ?_
    refine W.widen (k := 0) (n := 0) (Nat.le_of_ble_eq_true rfl) (Nat.le_of_ble_eq_true rfl) ?_
    have hP9 := hP.sub (ws' := [(am 0, .inr (19, [.int 1, .ref (am 1), .ref (am 4), .ref (am 5), .ref (am 6), .ref (am 7), .ref (am 8), .int 0, .ref (am 9), .int 0, .int (-1), .int 100, .ref (am 10), .long 0, .int 0, .int 0, .int 0, .int 0, .long 0]))]) [0] rfl
    have hD9 := hD.sub (ws' := [(am 0, .inr (19, [.int 1, .ref (am 1), .ref (am 4), .ref (am 5), .ref (am 6), .ref (am 7), .ref (am 8), .int 0, .ref (am 9), .int 0, .int (-1), .int 100, .ref (am 10), .long 0, .int 0, .int 0, .int 0, .int 0, .long 0]))]) [0] (by decide) rfl
    exact W.iret hx hb hr (fun t ht hW => ⟨rfl, ⟨by rw [ht]; exact hP9, hD9⟩, hS.F ht⟩) hS.2.2 dX14_driver_53

set_option maxRecDepth 100000 in
set_option maxHeartbeats 4000000 in
theorem a_driver_0 (l : Launch) (D : va_G) (cy : Nat → ClassId) {ca : Nat} {ia : Nat → Nat} {am : Nat → Nat} {eda : Nat} {th : Int32} (sz : Nat) (a b : Int32) (h1 : ¬ a < 0 ∧ ¬ 9 < a) (h2 : ¬ b < -1 ∧ ¬ 9 < b) : MJ l D cy eda ca ia (WM cy am eda th) sz yX14_driver wsX14_driver 5 2 12 101 [.ref (am 0), .int a, .int b] (some (.int 0)) (fun H => va_P D vwCl ([(am 0, .inr (19, [.int 0, .ref (am 1), .ref (am 4), .ref (am 5), .ref (am 6), .ref (am 7), .ref (am 8), .int 0, .ref (am 9), .int 0, .int (-1), .int 100, .ref (am 10), .long 0, .int 0, .int 0, .int 0, .int 0, .long 0]))]) H ∧ va_D (va_A (WM cy am eda th) sz) ([(am 0, .inr (19, [.int 0, .ref (am 1), .ref (am 4), .ref (am 5), .ref (am 6), .ref (am 7), .ref (am 8), .int 0, .ref (am 9), .int 0, .int (-1), .int 100, .ref (am 10), .long 0, .int 0, .int 0, .int 0, .int 0, .long 0]))])) := by
  refine ro_ofW (cc := cX14_driver) (maxL := 3) (ret := (some .int)) (lv := [(0, .ref (am 0)), (1, .int a), (2, .int b)]) (by decide) rfl (Nat.le_of_ble_eq_true rfl) rfl ?_
  intro p e s m below meth c ls hx hb hr hml hown hlocks hname hts hv hl
  have hown : s.vm.findClass RX14 = some m.cls := hown
  obtain ⟨⟨⟨hsz, hP, hD0⟩, hK, hN⟩, hJS⟩ := hv
  subst hsz
  have hD := hD0.self (sz := s.heap.size)
  generalize hAe : va_A (WM cy am eda th) s.heap.size = A at hD hJS ⊢
  have hA : ∀ q : Nat, s.heap.size ≤ q → A q := fun q h => by rw [← hAe]; exact Or.inr h
  have hS : va_S A s.heap s.heap [] := va_S.rf
  refine lv_aload_n hx hb dX14_driver_0 rfl (lv_at hl 0 rfl) ?_
  refine lv_iload_n hx hb dX14_driver_1 rfl (lv_at hl 1 rfl) ?_
  refine lv_iconst (v := 0) hx hb dX14_driver_2 (by decide) ?_
  refine lv_bipush (v := 9) hx hb dX14_driver_3 (by decide) ?_
  refine ro_callS (As := [.int a, .int 0, .int 9]) (rest := [.ref (am 0)]) ⟨hx, hb, hml, hown, hts⟩ (c_in_t l D cy _ _ _ _ h1.1 h1.2) (va_cwS 3 hts gX14_driver_X14_in rfl rfl rfl (by decide +kernel) ⟨by decide, by decide⟩) hK hN hP hS rfl hl.1 rfl (Nat.le_of_ble_eq_true rfl) dX14_driver_5 ⟨Nat.le_of_ble_eq_true rfl, Nat.le_of_ble_eq_true rfl⟩ (fun H locs hP hS => ?_)
  refine lv_if_eq (tgt := 21) hx hb dX14_driver_8 (by decide) (fun c => absurd c (by decide)) (fun _ => ?_)
  refine lv_iload_n hx hb dX14_driver_11 rfl (lv_at hl 2 rfl) ?_
  refine lv_iconst (v := (-1)) hx hb dX14_driver_12 (by decide) ?_
  refine lv_bipush (v := 9) hx hb dX14_driver_13 (by decide) ?_
  refine ro_callS (As := [.int b, .int (-1), .int 9]) (rest := [.ref (am 0)]) ⟨hx, hb, hml, hown, hts⟩ (c_in_t l D cy _ _ _ _ h2.1 h2.2) (va_cwS 3 hts gX14_driver_X14_in rfl rfl rfl (by decide +kernel) ⟨by decide, by decide⟩) hK hN hP hS rfl hl.1 rfl (Nat.le_of_ble_eq_true rfl) dX14_driver_15 ⟨Nat.le_of_ble_eq_true rfl, Nat.le_of_ble_eq_true rfl⟩ (fun H locs hP hS => ?_)
  refine lv_if_ne (tgt := 25) hx hb dX14_driver_18 (by decide) (fun _ => ?_) (fun c => absurd c (by decide))
  refine lv_aload_n hx hb dX14_driver_25 rfl (lv_at hl 0 rfl) ?_
  refine va_get (D := D) (ci := 19) (v := .ref (am 5)) (C := RX14) (T := TX14) (N := 19) hx hb hts iw_X14_driver_RX14 hown hK hP 0 rfl rfl 3 (by decide) (hts (.fieldLink RX14 22 "HubcascadeModel" "drivers" "Ljava/util/ArrayList;") (by decide +kernel)) (fun _ h9 => h9) rfl dX14_driver_26 ?_
  refine ro_callV (As := []) (rest := [.ref (am 0)]) ⟨hx, hb, hml, hown, hts⟩ (c_size l D cy _ 5 (am 5) eda 0 0 rfl) (cwV 0 hts gX14_driver_Jx4a65c_size_8abf5 rfl rfl rfl (by decide +kernel) ⟨by decide, by decide⟩) hK hN hP hS (ci := 4) (q0 := 5) rfl rfl rfl rfl hl.1 rfl (Nat.le_of_ble_eq_true rfl) dX14_driver_29 ⟨Nat.le_of_ble_eq_true rfl, Nat.le_of_ble_eq_true rfl⟩ (fun H locs hP hS => ?_)
  refine lv_bipush (v := 8) hx hb dX14_driver_32 (by decide) ?_
  refine lv_icmp_ne (tgt := 41) hx hb dX14_driver_34 (by decide) (fun _ => ?_) (fun c => absurd c (by decide))
  refine lv_iconst (v := 0) hx hb dX14_driver_41 (by decide) ?_
  refine va_put (D := D) (ci := 19) (v := .int 0) (ty := .int) (C := RX14) (T := TX14) (N := 19) hx hb hts iw_X14_driver_RX14 tyX14 tyX14_ok nmX14 hown hK hP hD hS 0 rfl rfl 0 (by decide) (hts (.fieldLink RX14 61 "HubcascadeModel" "thrown" "I") (by decide +kernel)) (fun _ h9 => h9) rfl (by decide +kernel) rfl rfl (Nat.le_of_ble_eq_true rfl) dX14_driver_42 (fun H locs hP hD hS => ?_)
  have hP : va_P D vwCl (WM cy am eda 0) H := hP
  have hD : va_D A (WM cy am eda 0) := hD
  refine lv_aload_n hx hb dX14_driver_45 rfl (lv_at hl 0 rfl) ?_
  refine va_get (D := D) (ci := 19) (v := .int 0) (C := RX14) (T := TX14) (N := 19) hx hb hts iw_X14_driver_RX14 hown hK hP 0 rfl rfl 0 (by decide) (hts (.fieldLink RX14 61 "HubcascadeModel" "thrown" "I") (by decide +kernel)) (fun _ h9 => h9) rfl dX14_driver_46 ?_
  refine lv_if_le (tgt := 54) hx hb dX14_driver_49 (by decide) (fun _ => ?_) (fun c => absurd (by decide) c)
  refine lv_aload_n hx hb dX14_driver_54 rfl (lv_at hl 0 rfl) ?_
  refine va_get (D := D) (ci := 19) (v := .ref (am 5)) (C := RX14) (T := TX14) (N := 19) hx hb hts iw_X14_driver_RX14 hown hK hP 0 rfl rfl 3 (by decide) (hts (.fieldLink RX14 22 "HubcascadeModel" "drivers" "Ljava/util/ArrayList;") (by decide +kernel)) (fun _ h9 => h9) rfl dX14_driver_55 ?_
  refine lv_iconst (v := 2) hx hb dX14_driver_58 (by decide) ?_
  refine my_newa 0 (atype := .int) (ty := .int) (k := 0) (a0 := (2, .inl (fun _ => 0))) (N' := 2) hx hb (hts (.arrayClass .int) (by decide +kernel)) rfl rfl (fun C z => by cases z) hK hP hD hS hA (fun _ => rfl) (by decide) (by decide) (Nat.le_of_ble_eq_true rfl) (Nat.le_of_ble_eq_true rfl) (Nat.le_of_ble_eq_true rfl) dX14_driver_59 (fun q1 H hP hD hS => ?_)
  have hP : va_P D vwCl ([(am 0, .inr (19, [.int 0, .ref (am 1), .ref (am 4), .ref (am 5), .ref (am 6), .ref (am 7), .ref (am 8), .int 0, .ref (am 9), .int 0, .int (-1), .int 100, .ref (am 10), .long 0, .int 0, .int 0, .int 0, .int 0, .long 0])), (am 1, .inr (4, [.int 1, .ref (am 2), .int 1])), (am 2, .inl (cy 10, 10, .inr (.inr (.inr (.inr (va_up (fun _ => none) 0 (some (am 3)))))))), (am 3, .inr (15, [.int 104, .int 4, .int 0, .int 1, .int 0, .int 0, .int 99, .int (-1), .int 0, .int 0, .int (-1), .int 0, .int 0, .ref (am 11), .ref (am 12), .ref (am 13)])), (am 4, .inl (cy 9, 12, .inr (.inr (.inr (.inr (fun _ => none)))))), (am 5, .inr (4, [.int 0, .ref eda, .int 0])), (am 6, .inr (4, [.int 0, .ref eda, .int 0])), (am 7, .inr (4, [.int 0, .ref eda, .int 0])), (am 8, .inl (cy 0, 0, .inl (fun _ => 0))), (am 9, .inr (4, [.int 0, .ref eda, .int 0])), (am 10, .inl (cy 0, 16, .inl (fun _ => 0))), (am 11, .inl (cy 8, 4, .inr (.inr (.inr (.inr (fun _ => none)))))), (am 12, .inl (cy 1, 4, .inl (fun _ => 0))), (am 13, .inl (cy 0, 4, .inl (fun _ => 0))), (q1, .inl (cy 0, 2, .inl (fun _ => 0)))]) H := hP
  have hD : va_D A ([(am 0, .inr (19, [.int 0, .ref (am 1), .ref (am 4), .ref (am 5), .ref (am 6), .ref (am 7), .ref (am 8), .int 0, .ref (am 9), .int 0, .int (-1), .int 100, .ref (am 10), .long 0, .int 0, .int 0, .int 0, .int 0, .long 0])), (am 1, .inr (4, [.int 1, .ref (am 2), .int 1])), (am 2, .inl (cy 10, 10, .inr (.inr (.inr (.inr (va_up (fun _ => none) 0 (some (am 3)))))))), (am 3, .inr (15, [.int 104, .int 4, .int 0, .int 1, .int 0, .int 0, .int 99, .int (-1), .int 0, .int 0, .int (-1), .int 0, .int 0, .ref (am 11), .ref (am 12), .ref (am 13)])), (am 4, .inl (cy 9, 12, .inr (.inr (.inr (.inr (fun _ => none)))))), (am 5, .inr (4, [.int 0, .ref eda, .int 0])), (am 6, .inr (4, [.int 0, .ref eda, .int 0])), (am 7, .inr (4, [.int 0, .ref eda, .int 0])), (am 8, .inl (cy 0, 0, .inl (fun _ => 0))), (am 9, .inr (4, [.int 0, .ref eda, .int 0])), (am 10, .inl (cy 0, 16, .inl (fun _ => 0))), (am 11, .inl (cy 8, 4, .inr (.inr (.inr (.inr (fun _ => none)))))), (am 12, .inl (cy 1, 4, .inl (fun _ => 0))), (am 13, .inl (cy 0, 4, .inl (fun _ => 0))), (q1, .inl (cy 0, 2, .inl (fun _ => 0)))]) := hD
  refine lv_dup hx hb dX14_driver_61 rfl ?_
  refine lv_iconst (v := 0) hx hb dX14_driver_62 (by decide) ?_
  refine lv_iload_n hx hb dX14_driver_63 rfl (lv_at hl 1 rfl) ?_
  refine va_iast hx hb hK hP hD hS 14 0 rfl rfl (by unfold vp_in; decide) dX14_driver_64 (fun H locs hP hD hS => ?_)
  obtain ⟨f_1, ef_1⟩ : ∃ z, z = upd (fun _ => 0) (Int32.toNatClampNeg 0) a := ⟨_, rfl⟩
  rw [← ef_1] at hP hD
  have hP : va_P D vwCl ([(am 0, .inr (19, [.int 0, .ref (am 1), .ref (am 4), .ref (am 5), .ref (am 6), .ref (am 7), .ref (am 8), .int 0, .ref (am 9), .int 0, .int (-1), .int 100, .ref (am 10), .long 0, .int 0, .int 0, .int 0, .int 0, .long 0])), (am 1, .inr (4, [.int 1, .ref (am 2), .int 1])), (am 2, .inl (cy 10, 10, .inr (.inr (.inr (.inr (va_up (fun _ => none) 0 (some (am 3)))))))), (am 3, .inr (15, [.int 104, .int 4, .int 0, .int 1, .int 0, .int 0, .int 99, .int (-1), .int 0, .int 0, .int (-1), .int 0, .int 0, .ref (am 11), .ref (am 12), .ref (am 13)])), (am 4, .inl (cy 9, 12, .inr (.inr (.inr (.inr (fun _ => none)))))), (am 5, .inr (4, [.int 0, .ref eda, .int 0])), (am 6, .inr (4, [.int 0, .ref eda, .int 0])), (am 7, .inr (4, [.int 0, .ref eda, .int 0])), (am 8, .inl (cy 0, 0, .inl (fun _ => 0))), (am 9, .inr (4, [.int 0, .ref eda, .int 0])), (am 10, .inl (cy 0, 16, .inl (fun _ => 0))), (am 11, .inl (cy 8, 4, .inr (.inr (.inr (.inr (fun _ => none)))))), (am 12, .inl (cy 1, 4, .inl (fun _ => 0))), (am 13, .inl (cy 0, 4, .inl (fun _ => 0))), (q1, .inl (cy 0, 2, .inl (f_1)))]) H := hP
  have hD : va_D A ([(am 0, .inr (19, [.int 0, .ref (am 1), .ref (am 4), .ref (am 5), .ref (am 6), .ref (am 7), .ref (am 8), .int 0, .ref (am 9), .int 0, .int (-1), .int 100, .ref (am 10), .long 0, .int 0, .int 0, .int 0, .int 0, .long 0])), (am 1, .inr (4, [.int 1, .ref (am 2), .int 1])), (am 2, .inl (cy 10, 10, .inr (.inr (.inr (.inr (va_up (fun _ => none) 0 (some (am 3)))))))), (am 3, .inr (15, [.int 104, .int 4, .int 0, .int 1, .int 0, .int 0, .int 99, .int (-1), .int 0, .int 0, .int (-1), .int 0, .int 0, .ref (am 11), .ref (am 12), .ref (am 13)])), (am 4, .inl (cy 9, 12, .inr (.inr (.inr (.inr (fun _ => none)))))), (am 5, .inr (4, [.int 0, .ref eda, .int 0])), (am 6, .inr (4, [.int 0, .ref eda, .int 0])), (am 7, .inr (4, [.int 0, .ref eda, .int 0])), (am 8, .inl (cy 0, 0, .inl (fun _ => 0))), (am 9, .inr (4, [.int 0, .ref eda, .int 0])), (am 10, .inl (cy 0, 16, .inl (fun _ => 0))), (am 11, .inl (cy 8, 4, .inr (.inr (.inr (.inr (fun _ => none)))))), (am 12, .inl (cy 1, 4, .inl (fun _ => 0))), (am 13, .inl (cy 0, 4, .inl (fun _ => 0))), (q1, .inl (cy 0, 2, .inl (f_1)))]) := hD
  refine lv_dup hx hb dX14_driver_65 rfl ?_
  refine lv_iconst (v := 1) hx hb dX14_driver_66 (by decide) ?_
  refine lv_iload_n hx hb dX14_driver_67 rfl (lv_at hl 2 rfl) ?_
  refine va_iast hx hb hK hP hD hS 14 0 rfl rfl (by unfold vp_in; decide) dX14_driver_68 (fun H locs hP hD hS => ?_)
  obtain ⟨f_2, ef_2⟩ : ∃ z, z = upd (f_1) (Int32.toNatClampNeg 1) b := ⟨_, rfl⟩
  rw [← ef_2] at hP hD
  have hP : va_P D vwCl ([(am 0, .inr (19, [.int 0, .ref (am 1), .ref (am 4), .ref (am 5), .ref (am 6), .ref (am 7), .ref (am 8), .int 0, .ref (am 9), .int 0, .int (-1), .int 100, .ref (am 10), .long 0, .int 0, .int 0, .int 0, .int 0, .long 0])), (am 1, .inr (4, [.int 1, .ref (am 2), .int 1])), (am 2, .inl (cy 10, 10, .inr (.inr (.inr (.inr (va_up (fun _ => none) 0 (some (am 3)))))))), (am 3, .inr (15, [.int 104, .int 4, .int 0, .int 1, .int 0, .int 0, .int 99, .int (-1), .int 0, .int 0, .int (-1), .int 0, .int 0, .ref (am 11), .ref (am 12), .ref (am 13)])), (am 4, .inl (cy 9, 12, .inr (.inr (.inr (.inr (fun _ => none)))))), (am 5, .inr (4, [.int 0, .ref eda, .int 0])), (am 6, .inr (4, [.int 0, .ref eda, .int 0])), (am 7, .inr (4, [.int 0, .ref eda, .int 0])), (am 8, .inl (cy 0, 0, .inl (fun _ => 0))), (am 9, .inr (4, [.int 0, .ref eda, .int 0])), (am 10, .inl (cy 0, 16, .inl (fun _ => 0))), (am 11, .inl (cy 8, 4, .inr (.inr (.inr (.inr (fun _ => none)))))), (am 12, .inl (cy 1, 4, .inl (fun _ => 0))), (am 13, .inl (cy 0, 4, .inl (fun _ => 0))), (q1, .inl (cy 0, 2, .inl (f_2)))]) H := hP
  have hD : va_D A ([(am 0, .inr (19, [.int 0, .ref (am 1), .ref (am 4), .ref (am 5), .ref (am 6), .ref (am 7), .ref (am 8), .int 0, .ref (am 9), .int 0, .int (-1), .int 100, .ref (am 10), .long 0, .int 0, .int 0, .int 0, .int 0, .long 0])), (am 1, .inr (4, [.int 1, .ref (am 2), .int 1])), (am 2, .inl (cy 10, 10, .inr (.inr (.inr (.inr (va_up (fun _ => none) 0 (some (am 3)))))))), (am 3, .inr (15, [.int 104, .int 4, .int 0, .int 1, .int 0, .int 0, .int 99, .int (-1), .int 0, .int 0, .int (-1), .int 0, .int 0, .ref (am 11), .ref (am 12), .ref (am 13)])), (am 4, .inl (cy 9, 12, .inr (.inr (.inr (.inr (fun _ => none)))))), (am 5, .inr (4, [.int 0, .ref eda, .int 0])), (am 6, .inr (4, [.int 0, .ref eda, .int 0])), (am 7, .inr (4, [.int 0, .ref eda, .int 0])), (am 8, .inl (cy 0, 0, .inl (fun _ => 0))), (am 9, .inr (4, [.int 0, .ref eda, .int 0])), (am 10, .inl (cy 0, 16, .inl (fun _ => 0))), (am 11, .inl (cy 8, 4, .inr (.inr (.inr (.inr (fun _ => none)))))), (am 12, .inl (cy 1, 4, .inl (fun _ => 0))), (am 13, .inl (cy 0, 4, .inl (fun _ => 0))), (q1, .inl (cy 0, 2, .inl (f_2)))]) := hD
  have hP := hP.sub (ws' := [(am 0, .inr (19, [.int 0, .ref (am 1), .ref (am 4), .ref (am 5), .ref (am 6), .ref (am 7), .ref (am 8), .int 0, .ref (am 9), .int 0, .int (-1), .int 100, .ref (am 10), .long 0, .int 0, .int 0, .int 0, .int 0, .long 0])), (am 1, .inr (4, [.int 1, .ref (am 2), .int 1])), (am 2, .inl (cy 10, 10, .inr (.inr (.inr (.inr (va_up (fun _ => none) 0 (some (am 3)))))))), (am 3, .inr (15, [.int 104, .int 4, .int 0, .int 1, .int 0, .int 0, .int 99, .int (-1), .int 0, .int 0, .int (-1), .int 0, .int 0, .ref (am 11), .ref (am 12), .ref (am 13)])), (am 4, .inl (cy 9, 12, .inr (.inr (.inr (.inr (fun _ => none)))))), (am 6, .inr (4, [.int 0, .ref eda, .int 0])), (am 7, .inr (4, [.int 0, .ref eda, .int 0])), (am 8, .inl (cy 0, 0, .inl (fun _ => 0))), (am 9, .inr (4, [.int 0, .ref eda, .int 0])), (am 10, .inl (cy 0, 16, .inl (fun _ => 0))), (am 11, .inl (cy 8, 4, .inr (.inr (.inr (.inr (fun _ => none)))))), (am 12, .inl (cy 1, 4, .inl (fun _ => 0))), (am 13, .inl (cy 0, 4, .inl (fun _ => 0))), (am 5, .inr (4, [.int 0, .ref eda, .int 0])), (q1, .inl (cy 0, 2, .inl (f_2)))]) [0, 1, 2, 3, 4, 6, 7, 8, 9, 10, 11, 12, 13, 5, 14] rfl
  have hD := hD.sub (ws' := [(am 0, .inr (19, [.int 0, .ref (am 1), .ref (am 4), .ref (am 5), .ref (am 6), .ref (am 7), .ref (am 8), .int 0, .ref (am 9), .int 0, .int (-1), .int 100, .ref (am 10), .long 0, .int 0, .int 0, .int 0, .int 0, .long 0])), (am 1, .inr (4, [.int 1, .ref (am 2), .int 1])), (am 2, .inl (cy 10, 10, .inr (.inr (.inr (.inr (va_up (fun _ => none) 0 (some (am 3)))))))), (am 3, .inr (15, [.int 104, .int 4, .int 0, .int 1, .int 0, .int 0, .int 99, .int (-1), .int 0, .int 0, .int (-1), .int 0, .int 0, .ref (am 11), .ref (am 12), .ref (am 13)])), (am 4, .inl (cy 9, 12, .inr (.inr (.inr (.inr (fun _ => none)))))), (am 6, .inr (4, [.int 0, .ref eda, .int 0])), (am 7, .inr (4, [.int 0, .ref eda, .int 0])), (am 8, .inl (cy 0, 0, .inl (fun _ => 0))), (am 9, .inr (4, [.int 0, .ref eda, .int 0])), (am 10, .inl (cy 0, 16, .inl (fun _ => 0))), (am 11, .inl (cy 8, 4, .inr (.inr (.inr (.inr (fun _ => none)))))), (am 12, .inl (cy 1, 4, .inl (fun _ => 0))), (am 13, .inl (cy 0, 4, .inl (fun _ => 0))), (am 5, .inr (4, [.int 0, .ref eda, .int 0])), (q1, .inl (cy 0, 2, .inl (f_2)))]) [0, 1, 2, 3, 4, 6, 7, 8, 9, 10, 11, 12, 13, 5, 14] (by decide) rfl
  refine mj_callV (wr := [(am 0, .inr (19, [.int 0, .ref (am 1), .ref (am 4), .ref (am 5), .ref (am 6), .ref (am 7), .ref (am 8), .int 0, .ref (am 9), .int 0, .int (-1), .int 100, .ref (am 10), .long 0, .int 0, .int 0, .int 0, .int 0, .long 0])), (am 1, .inr (4, [.int 1, .ref (am 2), .int 1])), (am 2, .inl (cy 10, 10, .inr (.inr (.inr (.inr (va_up (fun _ => none) 0 (some (am 3)))))))), (am 3, .inr (15, [.int 104, .int 4, .int 0, .int 1, .int 0, .int 0, .int 99, .int (-1), .int 0, .int 0, .int (-1), .int 0, .int 0, .ref (am 11), .ref (am 12), .ref (am 13)])), (am 4, .inl (cy 9, 12, .inr (.inr (.inr (.inr (fun _ => none)))))), (am 6, .inr (4, [.int 0, .ref eda, .int 0])), (am 7, .inr (4, [.int 0, .ref eda, .int 0])), (am 8, .inl (cy 0, 0, .inl (fun _ => 0))), (am 9, .inr (4, [.int 0, .ref eda, .int 0])), (am 10, .inl (cy 0, 16, .inl (fun _ => 0))), (am 11, .inl (cy 8, 4, .inr (.inr (.inr (.inr (fun _ => none)))))), (am 12, .inl (cy 1, 4, .inl (fun _ => 0))), (am 13, .inl (cy 0, 4, .inl (fun _ => 0)))]) (wc := [(am 5, .inr (4, [.int 0, .ref eda, .int 0])), (q1, .inl (cy 0, 2, .inl (f_2)))]) (As := [.ref q1]) (rest := []) ⟨hx, hb, hml, hown, hts⟩ (m_addI l D cy (am 5) q1 _ 0 f_2 ) (cwV 1 hts gX14_driver_Jx4a65c_add_9ea2d rfl rfl rfl (by decide +kernel) ⟨by decide, by decide⟩) hK hN hP hD hS hA hJS (ci := 4) (q0 := 0) rfl rfl rfl rfl hl.1 rfl (Nat.le_of_ble_eq_true rfl) dX14_driver_69 ⟨Nat.le_of_ble_eq_true rfl, Nat.le_of_ble_eq_true rfl⟩ (fun H locs hB hJ hS => ?_)
  obtain ⟨q2, hP1, hD1⟩ := hB
  obtain ⟨hP, hD⟩ := hJ _ hP1 hD1
  have hP : va_P D vwCl ([(am 0, .inr (19, [.int 0, .ref (am 1), .ref (am 4), .ref (am 5), .ref (am 6), .ref (am 7), .ref (am 8), .int 0, .ref (am 9), .int 0, .int (-1), .int 100, .ref (am 10), .long 0, .int 0, .int 0, .int 0, .int 0, .long 0])), (am 1, .inr (4, [.int 1, .ref (am 2), .int 1])), (am 2, .inl (cy 10, 10, .inr (.inr (.inr (.inr (va_up (fun _ => none) 0 (some (am 3)))))))), (am 3, .inr (15, [.int 104, .int 4, .int 0, .int 1, .int 0, .int 0, .int 99, .int (-1), .int 0, .int 0, .int (-1), .int 0, .int 0, .ref (am 11), .ref (am 12), .ref (am 13)])), (am 4, .inl (cy 9, 12, .inr (.inr (.inr (.inr (fun _ => none)))))), (am 6, .inr (4, [.int 0, .ref eda, .int 0])), (am 7, .inr (4, [.int 0, .ref eda, .int 0])), (am 8, .inl (cy 0, 0, .inl (fun _ => 0))), (am 9, .inr (4, [.int 0, .ref eda, .int 0])), (am 10, .inl (cy 0, 16, .inl (fun _ => 0))), (am 11, .inl (cy 8, 4, .inr (.inr (.inr (.inr (fun _ => none)))))), (am 12, .inl (cy 1, 4, .inl (fun _ => 0))), (am 13, .inl (cy 0, 4, .inl (fun _ => 0))), (q1, .inl (cy 0, 2, .inl (f_2))), (am 5, .inr (4, [.int 1, .ref q2, .int 1])), (q2, .inl (cy 10, 10, .inr (.inr (.inr (.inr (va_up (fun _ => none) 0 (some q1)))))))]) H := hP
  have hD : va_D A ([(am 0, .inr (19, [.int 0, .ref (am 1), .ref (am 4), .ref (am 5), .ref (am 6), .ref (am 7), .ref (am 8), .int 0, .ref (am 9), .int 0, .int (-1), .int 100, .ref (am 10), .long 0, .int 0, .int 0, .int 0, .int 0, .long 0])), (am 1, .inr (4, [.int 1, .ref (am 2), .int 1])), (am 2, .inl (cy 10, 10, .inr (.inr (.inr (.inr (va_up (fun _ => none) 0 (some (am 3)))))))), (am 3, .inr (15, [.int 104, .int 4, .int 0, .int 1, .int 0, .int 0, .int 99, .int (-1), .int 0, .int 0, .int (-1), .int 0, .int 0, .ref (am 11), .ref (am 12), .ref (am 13)])), (am 4, .inl (cy 9, 12, .inr (.inr (.inr (.inr (fun _ => none)))))), (am 6, .inr (4, [.int 0, .ref eda, .int 0])), (am 7, .inr (4, [.int 0, .ref eda, .int 0])), (am 8, .inl (cy 0, 0, .inl (fun _ => 0))), (am 9, .inr (4, [.int 0, .ref eda, .int 0])), (am 10, .inl (cy 0, 16, .inl (fun _ => 0))), (am 11, .inl (cy 8, 4, .inr (.inr (.inr (.inr (fun _ => none)))))), (am 12, .inl (cy 1, 4, .inl (fun _ => 0))), (am 13, .inl (cy 0, 4, .inl (fun _ => 0))), (q1, .inl (cy 0, 2, .inl (f_2))), (am 5, .inr (4, [.int 1, .ref q2, .int 1])), (q2, .inl (cy 10, 10, .inr (.inr (.inr (.inr (va_up (fun _ => none) 0 (some q1)))))))]) := hD
  refine lv_pop hx hb dX14_driver_72 rfl ?_
  refine lv_aload_n hx hb dX14_driver_73 rfl (lv_at hl 0 rfl) ?_
  refine va_get (D := D) (ci := 19) (v := .ref (am 5)) (C := RX14) (T := TX14) (N := 19) hx hb hts iw_X14_driver_RX14 hown hK hP 0 rfl rfl 3 (by decide) (hts (.fieldLink RX14 22 "HubcascadeModel" "drivers" "Ljava/util/ArrayList;") (by decide +kernel)) (fun _ h9 => h9) rfl dX14_driver_74 ?_
  refine ro_callV (As := []) (rest := []) ⟨hx, hb, hml, hown, hts⟩ (c_size l D cy _ 14 (am 5) q2 1 1 rfl) (cwV 0 hts gX14_driver_Jx4a65c_size_8abf5 rfl rfl rfl (by decide +kernel) ⟨by decide, by decide⟩) hK hN hP hS (ci := 4) (q0 := 14) rfl rfl rfl rfl hl.1 rfl (Nat.le_of_ble_eq_true rfl) dX14_driver_77 ⟨Nat.le_of_ble_eq_true rfl, Nat.le_of_ble_eq_true rfl⟩ (fun H locs hP hS => ?_)
  refine lv_iconst (v := 1) hx hb dX14_driver_80 (by decide) ?_
  refine lv_isub hx hb dX14_driver_81 ?_
  refine lv_topi (fun y ey => ?_)
  obtain rfl : y = 0 := ey.trans (by decide)
  refine W.widen (k := 2) (n := 12) (Nat.le_of_ble_eq_true rfl) (Nat.le_of_ble_eq_true rfl) ?_
  have hP9 := hP.sub (ws' := [(am 0, .inr (19, [.int 0, .ref (am 1), .ref (am 4), .ref (am 5), .ref (am 6), .ref (am 7), .ref (am 8), .int 0, .ref (am 9), .int 0, .int (-1), .int 100, .ref (am 10), .long 0, .int 0, .int 0, .int 0, .int 0, .long 0]))]) [0] rfl
  have hD9 := hD.sub (ws' := [(am 0, .inr (19, [.int 0, .ref (am 1), .ref (am 4), .ref (am 5), .ref (am 6), .ref (am 7), .ref (am 8), .int 0, .ref (am 9), .int 0, .int (-1), .int 100, .ref (am 10), .long 0, .int 0, .int 0, .int 0, .int 0, .long 0]))]) [0] (by decide) rfl
  exact W.iret hx hb hr (fun t ht hW => ⟨rfl, ⟨by rw [ht]; exact hP9, hD9⟩, hS.F ht⟩) hS.2.2 dX14_driver_82

theorem iw_X14_type_RX14 : ∀ w ∈ u_ws RX14 TX14 19, w ∈ wsX14_type := by decide +kernel
set_option maxRecDepth 100000 in
set_option maxHeartbeats 4000000 in
theorem a_type_1 (l : Launch) (D : va_G) (cy : Nat → ClassId) {ca : Nat} {ia : Nat → Nat} {am : Nat → Nat} {eda : Nat} {th : Int32} (sz : Nat) (n : Int32) (hw : ¬ (¬ n < 0 ∧ ¬ 255 < n)) : MJ l D cy eda ca ia (WM cy am eda th) sz yX14_type wsX14_type 1 0 0 22 [.ref (am 0), .int n] (some (.int 0)) (fun H => va_P D vwCl ([(am 0, .inr (19, [.int 1, .ref (am 1), .ref (am 4), .ref (am 5), .ref (am 6), .ref (am 7), .ref (am 8), .int 0, .ref (am 9), .int 0, .int (-1), .int 100, .ref (am 10), .long 0, .int 0, .int 0, .int 0, .int 0, .long 0]))]) H ∧ va_D (va_A (WM cy am eda th) sz) ([(am 0, .inr (19, [.int 1, .ref (am 1), .ref (am 4), .ref (am 5), .ref (am 6), .ref (am 7), .ref (am 8), .int 0, .ref (am 9), .int 0, .int (-1), .int 100, .ref (am 10), .long 0, .int 0, .int 0, .int 0, .int 0, .long 0]))])) := by
  refine ro_ofW (cc := cX14_type) (maxL := 2) (ret := (some .int)) (lv := [(0, .ref (am 0)), (1, .int n)]) (by decide) rfl (Nat.le_of_ble_eq_true rfl) rfl ?_
  intro p e s m below meth c ls hx hb hr hml hown hlocks hname hts hv hl
  have hown : s.vm.findClass RX14 = some m.cls := hown
  obtain ⟨⟨⟨hsz, hP, hD0⟩, hK, hN⟩, hJS⟩ := hv
  subst hsz
  have hD := hD0.self (sz := s.heap.size)
  generalize hAe : va_A (WM cy am eda th) s.heap.size = A at hD hJS ⊢
  have hA : ∀ q : Nat, s.heap.size ≤ q → A q := fun q h => by rw [← hAe]; exact Or.inr h
  have hS : va_S A s.heap s.heap [] := va_S.rf
  refine lv_aload_n hx hb dX14_type_0 rfl (lv_at hl 0 rfl) ?_
  refine lv_iload_n hx hb dX14_type_1 rfl (lv_at hl 1 rfl) ?_
  refine lv_iconst (v := 0) hx hb dX14_type_2 (by decide) ?_
  refine lv_sipush (v := 255) hx hb dX14_type_3 (by decide) ?_
  refine ro_callS (As := [.int n, .int 0, .int 255]) (rest := [.ref (am 0)]) ⟨hx, hb, hml, hown, hts⟩ (c_in_f l D cy _ _ _ _ (my_out hw)) (va_cwS 3 hts gX14_type_X14_in rfl rfl rfl (by decide +kernel) ⟨by decide, by decide⟩) hK hN hP hS rfl hl.1 rfl (Nat.le_of_ble_eq_true rfl) dX14_type_6 ⟨Nat.le_of_ble_eq_true rfl, Nat.le_of_ble_eq_true rfl⟩ (fun H locs hP hS => ?_)
  refine lv_if_ne (tgt := 16) hx hb dX14_type_9 (by decide) (fun c => absurd (by decide) c) (fun _ => ?_)
  refine lv_iconst (v := 1) hx hb dX14_type_12 (by decide) ?_
  refine lv_goto (tgt := 33) hx hb dX14_type_13 (by decide) ?_
  refine va_put (D := D) (ci := 19) (v := .int 1) (ty := .int) (C := RX14) (T := TX14) (N := 19) hx hb hts iw_X14_type_RX14 tyX14 tyX14_ok nmX14 hown hK hP hD hS 0 rfl rfl 0 (by decide) (hts (.fieldLink RX14 61 "HubcascadeModel" "thrown" "I") (by decide +kernel)) (fun _ h9 => h9) rfl (by decide +kernel) rfl rfl (Nat.le_of_ble_eq_true rfl) dX14_type_33 (fun H locs hP hD hS => ?_)
  have hP : va_P D vwCl (WM cy am eda 1) H := hP
  have hD : va_D A (WM cy am eda 1) := hD
  refine lv_aload_n hx hb dX14_type_36 rfl (lv_at hl 0 rfl) ?_
  refine va_get (D := D) (ci := 19) (v := .int 1) (C := RX14) (T := TX14) (N := 19) hx hb hts iw_X14_type_RX14 hown hK hP 0 rfl rfl 0 (by decide) (hts (.fieldLink RX14 61 "HubcascadeModel" "thrown" "I") (by decide +kernel)) (fun _ h9 => h9) rfl dX14_type_37 ?_
  refine lv_if_le (tgt := 45) hx hb dX14_type_40 (by decide) (fun c => absurd c (by decide)) (fun _ => ?_)
  refine lv_iconst (v := 0) hx hb dX14_type_43 (by decide) ?_
  refine W.widen (k := 0) (n := 0) (Nat.le_of_ble_eq_true rfl) (Nat.le_of_ble_eq_true rfl) ?_
  have hP9 := hP.sub (ws' := [(am 0, .inr (19, [.int 1, .ref (am 1), .ref (am 4), .ref (am 5), .ref (am 6), .ref (am 7), .ref (am 8), .int 0, .ref (am 9), .int 0, .int (-1), .int 100, .ref (am 10), .long 0, .int 0, .int 0, .int 0, .int 0, .long 0]))]) [0] rfl
  have hD9 := hD.sub (ws' := [(am 0, .inr (19, [.int 1, .ref (am 1), .ref (am 4), .ref (am 5), .ref (am 6), .ref (am 7), .ref (am 8), .int 0, .ref (am 9), .int 0, .int (-1), .int 100, .ref (am 10), .long 0, .int 0, .int 0, .int 0, .int 0, .long 0]))]) [0] (by decide) rfl
  exact W.iret hx hb hr (fun t ht hW => ⟨rfl, ⟨by rw [ht]; exact hP9, hD9⟩, hS.F ht⟩) hS.2.2 dX14_type_44

set_option maxRecDepth 100000 in
set_option maxHeartbeats 4000000 in
theorem a_type_0a (l : Launch) (D : va_G) (cy : Nat → ClassId) {ca : Nat} {ia : Nat → Nat} {am : Nat → Nat} {eda : Nat} {th : Int32} (sz : Nat) (k : Nat) (hk : k ≤ 127) : MJ l D cy eda ca ia (WM cy am eda th) sz yX14_type wsX14_type 5 1 10 101 [.ref (am 0), .int (nI k)] (some (.int 1)) (fun H => va_P D vwCl ([(am 0, .inr (19, [.int 0, .ref (am 1), .ref (am 4), .ref (am 5), .ref (am 6), .ref (am 7), .ref (am 8), .int 0, .ref (am 9), .int 0, .int (-1), .int 100, .ref (am 10), .long 0, .int 0, .int 0, .int 0, .int 0, .long 0]))]) H ∧ va_D (va_A (WM cy am eda th) sz) ([(am 0, .inr (19, [.int 0, .ref (am 1), .ref (am 4), .ref (am 5), .ref (am 6), .ref (am 7), .ref (am 8), .int 0, .ref (am 9), .int 0, .int (-1), .int 100, .ref (am 10), .long 0, .int 0, .int 0, .int 0, .int 0, .long 0]))])) := by
  refine ro_ofW (cc := cX14_type) (maxL := 2) (ret := (some .int)) (lv := [(0, .ref (am 0)), (1, .int (nI k))]) (by decide) rfl (Nat.le_of_ble_eq_true rfl) rfl ?_
  intro p e s m below meth c ls hx hb hr hml hown hlocks hname hts hv hl
  have hown : s.vm.findClass RX14 = some m.cls := hown
  obtain ⟨⟨⟨hsz, hP, hD0⟩, hK, hN⟩, hJS⟩ := hv
  subst hsz
  have hD := hD0.self (sz := s.heap.size)
  generalize hAe : va_A (WM cy am eda th) s.heap.size = A at hD hJS ⊢
  have hA : ∀ q : Nat, s.heap.size ≤ q → A q := fun q h => by rw [← hAe]; exact Or.inr h
  have hS : va_S A s.heap s.heap [] := va_S.rf
  refine lv_aload_n hx hb dX14_type_0 rfl (lv_at hl 0 rfl) ?_
  refine lv_iload_n hx hb dX14_type_1 rfl (lv_at hl 1 rfl) ?_
  refine lv_iconst (v := 0) hx hb dX14_type_2 (by decide) ?_
  refine lv_sipush (v := 255) hx hb dX14_type_3 (by decide) ?_
  refine ro_callS (As := [.int (nI k), .int 0, .int 255]) (rest := [.ref (am 0)]) ⟨hx, hb, hml, hown, hts⟩ (c_in_t l D cy _ _ _ _ (my_lo (k := 0) (by decide) (by omega) (by omega)) (my_hi (k := 255) (by decide) (by omega) (by decide))) (va_cwS 3 hts gX14_type_X14_in rfl rfl rfl (by decide +kernel) ⟨by decide, by decide⟩) hK hN hP hS rfl hl.1 rfl (Nat.le_of_ble_eq_true rfl) dX14_type_6 ⟨Nat.le_of_ble_eq_true rfl, Nat.le_of_ble_eq_true rfl⟩ (fun H locs hP hS => ?_)
  refine lv_if_ne (tgt := 16) hx hb dX14_type_9 (by decide) (fun _ => ?_) (fun c => absurd c (by decide))
  refine lv_aload_n hx hb dX14_type_16 rfl (lv_at hl 0 rfl) ?_
  refine va_get (D := D) (ci := 19) (v := .ref (am 6)) (C := RX14) (T := TX14) (N := 19) hx hb hts iw_X14_type_RX14 hown hK hP 0 rfl rfl 4 (by decide) (hts (.fieldLink RX14 25 "HubcascadeModel" "typed" "Ljava/util/ArrayList;") (by decide +kernel)) (fun _ h9 => h9) rfl dX14_type_17 ?_
  refine ro_callV (As := []) (rest := [.ref (am 0)]) ⟨hx, hb, hml, hown, hts⟩ (c_size l D cy _ 6 (am 6) eda 0 0 rfl) (cwV 0 hts gX14_type_Jx4a65c_size_8abf5 rfl rfl rfl (by decide +kernel) ⟨by decide, by decide⟩) hK hN hP hS (ci := 4) (q0 := 6) rfl rfl rfl rfl hl.1 rfl (Nat.le_of_ble_eq_true rfl) dX14_type_20 ⟨Nat.le_of_ble_eq_true rfl, Nat.le_of_ble_eq_true rfl⟩ (fun H locs hP hS => ?_)
  refine lv_bipush (v := 16) hx hb dX14_type_23 (by decide) ?_
  refine lv_icmp_ne (tgt := 32) hx hb dX14_type_25 (by decide) (fun _ => ?_) (fun c => absurd c (by decide))
  refine lv_iconst (v := 0) hx hb dX14_type_32 (by decide) ?_
  refine va_put (D := D) (ci := 19) (v := .int 0) (ty := .int) (C := RX14) (T := TX14) (N := 19) hx hb hts iw_X14_type_RX14 tyX14 tyX14_ok nmX14 hown hK hP hD hS 0 rfl rfl 0 (by decide) (hts (.fieldLink RX14 61 "HubcascadeModel" "thrown" "I") (by decide +kernel)) (fun _ h9 => h9) rfl (by decide +kernel) rfl rfl (Nat.le_of_ble_eq_true rfl) dX14_type_33 (fun H locs hP hD hS => ?_)
  have hP : va_P D vwCl (WM cy am eda 0) H := hP
  have hD : va_D A (WM cy am eda 0) := hD
  refine lv_aload_n hx hb dX14_type_36 rfl (lv_at hl 0 rfl) ?_
  refine va_get (D := D) (ci := 19) (v := .int 0) (C := RX14) (T := TX14) (N := 19) hx hb hts iw_X14_type_RX14 hown hK hP 0 rfl rfl 0 (by decide) (hts (.fieldLink RX14 61 "HubcascadeModel" "thrown" "I") (by decide +kernel)) (fun _ h9 => h9) rfl dX14_type_37 ?_
  refine lv_if_le (tgt := 45) hx hb dX14_type_40 (by decide) (fun _ => ?_) (fun c => absurd (by decide) c)
  refine lv_aload_n hx hb dX14_type_45 rfl (lv_at hl 0 rfl) ?_
  refine va_get (D := D) (ci := 19) (v := .ref (am 6)) (C := RX14) (T := TX14) (N := 19) hx hb hts iw_X14_type_RX14 hown hK hP 0 rfl rfl 4 (by decide) (hts (.fieldLink RX14 25 "HubcascadeModel" "typed" "Ljava/util/ArrayList;") (by decide +kernel)) (fun _ h9 => h9) rfl dX14_type_46 ?_
  refine lv_iload_n hx hb dX14_type_49 rfl (lv_at hl 1 rfl) ?_
  refine mj_callS (wr := WM cy am eda 0) (wc := []) (As := [.int (nI k)]) (rest := [.ref (am 6)]) ⟨hx, hb, hml, hown, hts⟩ (m_vlo l D cy  _ k hk) (va_cwS 1 hts gX14_type_J6_valueOf_2dffe rfl rfl rfl (by decide +kernel) ⟨by decide, by decide⟩) hK hN hP hD hS hA hJS rfl hl.1 rfl (Nat.le_of_ble_eq_true rfl) dX14_type_50 ⟨Nat.le_of_ble_eq_true rfl, Nat.le_of_ble_eq_true rfl⟩ (fun H locs hB hJ hS => ?_)
  obtain ⟨hP1, hD1⟩ := hB
  obtain ⟨hP, hD⟩ := hJ _ hP1 hD1
  have hP : va_P D vwCl (WM cy am eda 0) H := hP
  have hD : va_D A (WM cy am eda 0) := hD
  have hP := hP.sub (ws' := [(am 0, .inr (19, [.int 0, .ref (am 1), .ref (am 4), .ref (am 5), .ref (am 6), .ref (am 7), .ref (am 8), .int 0, .ref (am 9), .int 0, .int (-1), .int 100, .ref (am 10), .long 0, .int 0, .int 0, .int 0, .int 0, .long 0])), (am 1, .inr (4, [.int 1, .ref (am 2), .int 1])), (am 2, .inl (cy 10, 10, .inr (.inr (.inr (.inr (va_up (fun _ => none) 0 (some (am 3)))))))), (am 3, .inr (15, [.int 104, .int 4, .int 0, .int 1, .int 0, .int 0, .int 99, .int (-1), .int 0, .int 0, .int (-1), .int 0, .int 0, .ref (am 11), .ref (am 12), .ref (am 13)])), (am 4, .inl (cy 9, 12, .inr (.inr (.inr (.inr (fun _ => none)))))), (am 5, .inr (4, [.int 0, .ref eda, .int 0])), (am 7, .inr (4, [.int 0, .ref eda, .int 0])), (am 8, .inl (cy 0, 0, .inl (fun _ => 0))), (am 9, .inr (4, [.int 0, .ref eda, .int 0])), (am 10, .inl (cy 0, 16, .inl (fun _ => 0))), (am 11, .inl (cy 8, 4, .inr (.inr (.inr (.inr (fun _ => none)))))), (am 12, .inl (cy 1, 4, .inl (fun _ => 0))), (am 13, .inl (cy 0, 4, .inl (fun _ => 0))), (am 6, .inr (4, [.int 0, .ref eda, .int 0]))]) [0, 1, 2, 3, 4, 5, 7, 8, 9, 10, 11, 12, 13, 6] rfl
  have hD := hD.sub (ws' := [(am 0, .inr (19, [.int 0, .ref (am 1), .ref (am 4), .ref (am 5), .ref (am 6), .ref (am 7), .ref (am 8), .int 0, .ref (am 9), .int 0, .int (-1), .int 100, .ref (am 10), .long 0, .int 0, .int 0, .int 0, .int 0, .long 0])), (am 1, .inr (4, [.int 1, .ref (am 2), .int 1])), (am 2, .inl (cy 10, 10, .inr (.inr (.inr (.inr (va_up (fun _ => none) 0 (some (am 3)))))))), (am 3, .inr (15, [.int 104, .int 4, .int 0, .int 1, .int 0, .int 0, .int 99, .int (-1), .int 0, .int 0, .int (-1), .int 0, .int 0, .ref (am 11), .ref (am 12), .ref (am 13)])), (am 4, .inl (cy 9, 12, .inr (.inr (.inr (.inr (fun _ => none)))))), (am 5, .inr (4, [.int 0, .ref eda, .int 0])), (am 7, .inr (4, [.int 0, .ref eda, .int 0])), (am 8, .inl (cy 0, 0, .inl (fun _ => 0))), (am 9, .inr (4, [.int 0, .ref eda, .int 0])), (am 10, .inl (cy 0, 16, .inl (fun _ => 0))), (am 11, .inl (cy 8, 4, .inr (.inr (.inr (.inr (fun _ => none)))))), (am 12, .inl (cy 1, 4, .inl (fun _ => 0))), (am 13, .inl (cy 0, 4, .inl (fun _ => 0))), (am 6, .inr (4, [.int 0, .ref eda, .int 0]))]) [0, 1, 2, 3, 4, 5, 7, 8, 9, 10, 11, 12, 13, 6] (by decide) rfl
  refine mj_callV (wr := [(am 0, .inr (19, [.int 0, .ref (am 1), .ref (am 4), .ref (am 5), .ref (am 6), .ref (am 7), .ref (am 8), .int 0, .ref (am 9), .int 0, .int (-1), .int 100, .ref (am 10), .long 0, .int 0, .int 0, .int 0, .int 0, .long 0])), (am 1, .inr (4, [.int 1, .ref (am 2), .int 1])), (am 2, .inl (cy 10, 10, .inr (.inr (.inr (.inr (va_up (fun _ => none) 0 (some (am 3)))))))), (am 3, .inr (15, [.int 104, .int 4, .int 0, .int 1, .int 0, .int 0, .int 99, .int (-1), .int 0, .int 0, .int (-1), .int 0, .int 0, .ref (am 11), .ref (am 12), .ref (am 13)])), (am 4, .inl (cy 9, 12, .inr (.inr (.inr (.inr (fun _ => none)))))), (am 5, .inr (4, [.int 0, .ref eda, .int 0])), (am 7, .inr (4, [.int 0, .ref eda, .int 0])), (am 8, .inl (cy 0, 0, .inl (fun _ => 0))), (am 9, .inr (4, [.int 0, .ref eda, .int 0])), (am 10, .inl (cy 0, 16, .inl (fun _ => 0))), (am 11, .inl (cy 8, 4, .inr (.inr (.inr (.inr (fun _ => none)))))), (am 12, .inl (cy 1, 4, .inl (fun _ => 0))), (am 13, .inl (cy 0, 4, .inl (fun _ => 0)))]) (wc := [(am 6, .inr (4, [.int 0, .ref eda, .int 0]))]) (As := [.ref (ia (k + 128))]) (rest := []) ⟨hx, hb, hml, hown, hts⟩ (m_addC l D cy (am 6) _ 0 (k + 128) (by omega)) (cwV 1 hts gX14_type_Jx4a65c_add_9ea2d rfl rfl rfl (by decide +kernel) ⟨by decide, by decide⟩) hK hN hP hD hS hA hJS (ci := 4) (q0 := 0) rfl rfl rfl rfl hl.1 rfl (Nat.le_of_ble_eq_true rfl) dX14_type_53 ⟨Nat.le_of_ble_eq_true rfl, Nat.le_of_ble_eq_true rfl⟩ (fun H locs hB hJ hS => ?_)
  obtain ⟨q1, hP1, hD1⟩ := hB
  obtain ⟨hP, hD⟩ := hJ _ hP1 hD1
  have hP : va_P D vwCl ([(am 0, .inr (19, [.int 0, .ref (am 1), .ref (am 4), .ref (am 5), .ref (am 6), .ref (am 7), .ref (am 8), .int 0, .ref (am 9), .int 0, .int (-1), .int 100, .ref (am 10), .long 0, .int 0, .int 0, .int 0, .int 0, .long 0])), (am 1, .inr (4, [.int 1, .ref (am 2), .int 1])), (am 2, .inl (cy 10, 10, .inr (.inr (.inr (.inr (va_up (fun _ => none) 0 (some (am 3)))))))), (am 3, .inr (15, [.int 104, .int 4, .int 0, .int 1, .int 0, .int 0, .int 99, .int (-1), .int 0, .int 0, .int (-1), .int 0, .int 0, .ref (am 11), .ref (am 12), .ref (am 13)])), (am 4, .inl (cy 9, 12, .inr (.inr (.inr (.inr (fun _ => none)))))), (am 5, .inr (4, [.int 0, .ref eda, .int 0])), (am 7, .inr (4, [.int 0, .ref eda, .int 0])), (am 8, .inl (cy 0, 0, .inl (fun _ => 0))), (am 9, .inr (4, [.int 0, .ref eda, .int 0])), (am 10, .inl (cy 0, 16, .inl (fun _ => 0))), (am 11, .inl (cy 8, 4, .inr (.inr (.inr (.inr (fun _ => none)))))), (am 12, .inl (cy 1, 4, .inl (fun _ => 0))), (am 13, .inl (cy 0, 4, .inl (fun _ => 0))), (am 6, .inr (4, [.int 1, .ref q1, .int 1])), (q1, .inl (cy 10, 10, .inr (.inr (.inr (.inr (va_up (fun _ => none) 0 (some (ia (k + 128)))))))))]) H := hP
  have hD : va_D A ([(am 0, .inr (19, [.int 0, .ref (am 1), .ref (am 4), .ref (am 5), .ref (am 6), .ref (am 7), .ref (am 8), .int 0, .ref (am 9), .int 0, .int (-1), .int 100, .ref (am 10), .long 0, .int 0, .int 0, .int 0, .int 0, .long 0])), (am 1, .inr (4, [.int 1, .ref (am 2), .int 1])), (am 2, .inl (cy 10, 10, .inr (.inr (.inr (.inr (va_up (fun _ => none) 0 (some (am 3)))))))), (am 3, .inr (15, [.int 104, .int 4, .int 0, .int 1, .int 0, .int 0, .int 99, .int (-1), .int 0, .int 0, .int (-1), .int 0, .int 0, .ref (am 11), .ref (am 12), .ref (am 13)])), (am 4, .inl (cy 9, 12, .inr (.inr (.inr (.inr (fun _ => none)))))), (am 5, .inr (4, [.int 0, .ref eda, .int 0])), (am 7, .inr (4, [.int 0, .ref eda, .int 0])), (am 8, .inl (cy 0, 0, .inl (fun _ => 0))), (am 9, .inr (4, [.int 0, .ref eda, .int 0])), (am 10, .inl (cy 0, 16, .inl (fun _ => 0))), (am 11, .inl (cy 8, 4, .inr (.inr (.inr (.inr (fun _ => none)))))), (am 12, .inl (cy 1, 4, .inl (fun _ => 0))), (am 13, .inl (cy 0, 4, .inl (fun _ => 0))), (am 6, .inr (4, [.int 1, .ref q1, .int 1])), (q1, .inl (cy 10, 10, .inr (.inr (.inr (.inr (va_up (fun _ => none) 0 (some (ia (k + 128)))))))))]) := hD
  refine lv_pop hx hb dX14_type_56 rfl ?_
  refine lv_aload_n hx hb dX14_type_57 rfl (lv_at hl 0 rfl) ?_
  refine va_get (D := D) (ci := 19) (v := .ref (am 6)) (C := RX14) (T := TX14) (N := 19) hx hb hts iw_X14_type_RX14 hown hK hP 0 rfl rfl 4 (by decide) (hts (.fieldLink RX14 25 "HubcascadeModel" "typed" "Ljava/util/ArrayList;") (by decide +kernel)) (fun _ h9 => h9) rfl dX14_type_58 ?_
  refine ro_callV (As := []) (rest := []) ⟨hx, hb, hml, hown, hts⟩ (c_size l D cy _ 13 (am 6) q1 1 1 rfl) (cwV 0 hts gX14_type_Jx4a65c_size_8abf5 rfl rfl rfl (by decide +kernel) ⟨by decide, by decide⟩) hK hN hP hS (ci := 4) (q0 := 13) rfl rfl rfl rfl hl.1 rfl (Nat.le_of_ble_eq_true rfl) dX14_type_61 ⟨Nat.le_of_ble_eq_true rfl, Nat.le_of_ble_eq_true rfl⟩ (fun H locs hP hS => ?_)
  refine W.widen (k := 1) (n := 10) (Nat.le_of_ble_eq_true rfl) (Nat.le_of_ble_eq_true rfl) ?_
  have hP9 := hP.sub (ws' := [(am 0, .inr (19, [.int 0, .ref (am 1), .ref (am 4), .ref (am 5), .ref (am 6), .ref (am 7), .ref (am 8), .int 0, .ref (am 9), .int 0, .int (-1), .int 100, .ref (am 10), .long 0, .int 0, .int 0, .int 0, .int 0, .long 0]))]) [0] rfl
  have hD9 := hD.sub (ws' := [(am 0, .inr (19, [.int 0, .ref (am 1), .ref (am 4), .ref (am 5), .ref (am 6), .ref (am 7), .ref (am 8), .int 0, .ref (am 9), .int 0, .int (-1), .int 100, .ref (am 10), .long 0, .int 0, .int 0, .int 0, .int 0, .long 0]))]) [0] (by decide) rfl
  exact W.iret hx hb hr (fun t ht hW => ⟨rfl, ⟨by rw [ht]; exact hP9, hD9⟩, hS.F ht⟩) hS.2.2 dX14_type_64

set_option maxRecDepth 100000 in
set_option maxHeartbeats 4000000 in
theorem a_type_0b (l : Launch) (D : va_G) (cy : Nat → ClassId) {ca : Nat} {ia : Nat → Nat} {am : Nat → Nat} {eda : Nat} {th : Int32} (sz : Nat) (k : Nat) (hk : 127 < k) (hk2 : k < 256) : MJ l D cy eda ca ia (WM cy am eda th) sz yX14_type wsX14_type 5 2 11 101 [.ref (am 0), .int (nI k)] (some (.int 1)) (fun H => va_P D vwCl ([(am 0, .inr (19, [.int 0, .ref (am 1), .ref (am 4), .ref (am 5), .ref (am 6), .ref (am 7), .ref (am 8), .int 0, .ref (am 9), .int 0, .int (-1), .int 100, .ref (am 10), .long 0, .int 0, .int 0, .int 0, .int 0, .long 0]))]) H ∧ va_D (va_A (WM cy am eda th) sz) ([(am 0, .inr (19, [.int 0, .ref (am 1), .ref (am 4), .ref (am 5), .ref (am 6), .ref (am 7), .ref (am 8), .int 0, .ref (am 9), .int 0, .int (-1), .int 100, .ref (am 10), .long 0, .int 0, .int 0, .int 0, .int 0, .long 0]))])) := by
  refine ro_ofW (cc := cX14_type) (maxL := 2) (ret := (some .int)) (lv := [(0, .ref (am 0)), (1, .int (nI k))]) (by decide) rfl (Nat.le_of_ble_eq_true rfl) rfl ?_
  intro p e s m below meth c ls hx hb hr hml hown hlocks hname hts hv hl
  have hown : s.vm.findClass RX14 = some m.cls := hown
  obtain ⟨⟨⟨hsz, hP, hD0⟩, hK, hN⟩, hJS⟩ := hv
  subst hsz
  have hD := hD0.self (sz := s.heap.size)
  generalize hAe : va_A (WM cy am eda th) s.heap.size = A at hD hJS ⊢
  have hA : ∀ q : Nat, s.heap.size ≤ q → A q := fun q h => by rw [← hAe]; exact Or.inr h
  have hS : va_S A s.heap s.heap [] := va_S.rf
  refine lv_aload_n hx hb dX14_type_0 rfl (lv_at hl 0 rfl) ?_
  refine lv_iload_n hx hb dX14_type_1 rfl (lv_at hl 1 rfl) ?_
  refine lv_iconst (v := 0) hx hb dX14_type_2 (by decide) ?_
  refine lv_sipush (v := 255) hx hb dX14_type_3 (by decide) ?_
  refine ro_callS (As := [.int (nI k), .int 0, .int 255]) (rest := [.ref (am 0)]) ⟨hx, hb, hml, hown, hts⟩ (c_in_t l D cy _ _ _ _ (my_lo (k := 0) (by decide) (by omega) (by omega)) (my_hi (k := 255) (by decide) (by omega) (by decide))) (va_cwS 3 hts gX14_type_X14_in rfl rfl rfl (by decide +kernel) ⟨by decide, by decide⟩) hK hN hP hS rfl hl.1 rfl (Nat.le_of_ble_eq_true rfl) dX14_type_6 ⟨Nat.le_of_ble_eq_true rfl, Nat.le_of_ble_eq_true rfl⟩ (fun H locs hP hS => ?_)
  refine lv_if_ne (tgt := 16) hx hb dX14_type_9 (by decide) (fun _ => ?_) (fun c => absurd c (by decide))
  refine lv_aload_n hx hb dX14_type_16 rfl (lv_at hl 0 rfl) ?_
  refine va_get (D := D) (ci := 19) (v := .ref (am 6)) (C := RX14) (T := TX14) (N := 19) hx hb hts iw_X14_type_RX14 hown hK hP 0 rfl rfl 4 (by decide) (hts (.fieldLink RX14 25 "HubcascadeModel" "typed" "Ljava/util/ArrayList;") (by decide +kernel)) (fun _ h9 => h9) rfl dX14_type_17 ?_
  refine ro_callV (As := []) (rest := [.ref (am 0)]) ⟨hx, hb, hml, hown, hts⟩ (c_size l D cy _ 6 (am 6) eda 0 0 rfl) (cwV 0 hts gX14_type_Jx4a65c_size_8abf5 rfl rfl rfl (by decide +kernel) ⟨by decide, by decide⟩) hK hN hP hS (ci := 4) (q0 := 6) rfl rfl rfl rfl hl.1 rfl (Nat.le_of_ble_eq_true rfl) dX14_type_20 ⟨Nat.le_of_ble_eq_true rfl, Nat.le_of_ble_eq_true rfl⟩ (fun H locs hP hS => ?_)
  refine lv_bipush (v := 16) hx hb dX14_type_23 (by decide) ?_
  refine lv_icmp_ne (tgt := 32) hx hb dX14_type_25 (by decide) (fun _ => ?_) (fun c => absurd c (by decide))
  refine lv_iconst (v := 0) hx hb dX14_type_32 (by decide) ?_
  refine va_put (D := D) (ci := 19) (v := .int 0) (ty := .int) (C := RX14) (T := TX14) (N := 19) hx hb hts iw_X14_type_RX14 tyX14 tyX14_ok nmX14 hown hK hP hD hS 0 rfl rfl 0 (by decide) (hts (.fieldLink RX14 61 "HubcascadeModel" "thrown" "I") (by decide +kernel)) (fun _ h9 => h9) rfl (by decide +kernel) rfl rfl (Nat.le_of_ble_eq_true rfl) dX14_type_33 (fun H locs hP hD hS => ?_)
  have hP : va_P D vwCl (WM cy am eda 0) H := hP
  have hD : va_D A (WM cy am eda 0) := hD
  refine lv_aload_n hx hb dX14_type_36 rfl (lv_at hl 0 rfl) ?_
  refine va_get (D := D) (ci := 19) (v := .int 0) (C := RX14) (T := TX14) (N := 19) hx hb hts iw_X14_type_RX14 hown hK hP 0 rfl rfl 0 (by decide) (hts (.fieldLink RX14 61 "HubcascadeModel" "thrown" "I") (by decide +kernel)) (fun _ h9 => h9) rfl dX14_type_37 ?_
  refine lv_if_le (tgt := 45) hx hb dX14_type_40 (by decide) (fun _ => ?_) (fun c => absurd (by decide) c)
  refine lv_aload_n hx hb dX14_type_45 rfl (lv_at hl 0 rfl) ?_
  refine va_get (D := D) (ci := 19) (v := .ref (am 6)) (C := RX14) (T := TX14) (N := 19) hx hb hts iw_X14_type_RX14 hown hK hP 0 rfl rfl 4 (by decide) (hts (.fieldLink RX14 25 "HubcascadeModel" "typed" "Ljava/util/ArrayList;") (by decide +kernel)) (fun _ h9 => h9) rfl dX14_type_46 ?_
  refine lv_iload_n hx hb dX14_type_49 rfl (lv_at hl 1 rfl) ?_
  refine mr_callS (wr := WM cy am eda 0) (wc := []) (As := [.int (nI k)]) (rest := [.ref (am 6)]) ⟨hx, hb, hml, hown, hts⟩ (m_vhi l D cy  _ k hk hk2) (va_cwS 1 hts gX14_type_J6_valueOf_2dffe rfl rfl rfl (by decide +kernel) ⟨by decide, by decide⟩) hK hN hP hD hS hA hJS rfl hl.1 rfl (Nat.le_of_ble_eq_true rfl) dX14_type_50 ⟨Nat.le_of_ble_eq_true rfl, Nat.le_of_ble_eq_true rfl⟩ (fun q1 H locs hB hJ hS => ?_)
  obtain ⟨hP1, hD1⟩ := hB
  obtain ⟨hP, hD⟩ := hJ _ hP1 hD1
  have hP : va_P D vwCl ([(am 0, .inr (19, [.int 0, .ref (am 1), .ref (am 4), .ref (am 5), .ref (am 6), .ref (am 7), .ref (am 8), .int 0, .ref (am 9), .int 0, .int (-1), .int 100, .ref (am 10), .long 0, .int 0, .int 0, .int 0, .int 0, .long 0])), (am 1, .inr (4, [.int 1, .ref (am 2), .int 1])), (am 2, .inl (cy 10, 10, .inr (.inr (.inr (.inr (va_up (fun _ => none) 0 (some (am 3)))))))), (am 3, .inr (15, [.int 104, .int 4, .int 0, .int 1, .int 0, .int 0, .int 99, .int (-1), .int 0, .int 0, .int (-1), .int 0, .int 0, .ref (am 11), .ref (am 12), .ref (am 13)])), (am 4, .inl (cy 9, 12, .inr (.inr (.inr (.inr (fun _ => none)))))), (am 5, .inr (4, [.int 0, .ref eda, .int 0])), (am 6, .inr (4, [.int 0, .ref eda, .int 0])), (am 7, .inr (4, [.int 0, .ref eda, .int 0])), (am 8, .inl (cy 0, 0, .inl (fun _ => 0))), (am 9, .inr (4, [.int 0, .ref eda, .int 0])), (am 10, .inl (cy 0, 16, .inl (fun _ => 0))), (am 11, .inl (cy 8, 4, .inr (.inr (.inr (.inr (fun _ => none)))))), (am 12, .inl (cy 1, 4, .inl (fun _ => 0))), (am 13, .inl (cy 0, 4, .inl (fun _ => 0))), (q1, .inr (1, [.int (nI k)]))]) H := hP
  have hD : va_D A ([(am 0, .inr (19, [.int 0, .ref (am 1), .ref (am 4), .ref (am 5), .ref (am 6), .ref (am 7), .ref (am 8), .int 0, .ref (am 9), .int 0, .int (-1), .int 100, .ref (am 10), .long 0, .int 0, .int 0, .int 0, .int 0, .long 0])), (am 1, .inr (4, [.int 1, .ref (am 2), .int 1])), (am 2, .inl (cy 10, 10, .inr (.inr (.inr (.inr (va_up (fun _ => none) 0 (some (am 3)))))))), (am 3, .inr (15, [.int 104, .int 4, .int 0, .int 1, .int 0, .int 0, .int 99, .int (-1), .int 0, .int 0, .int (-1), .int 0, .int 0, .ref (am 11), .ref (am 12), .ref (am 13)])), (am 4, .inl (cy 9, 12, .inr (.inr (.inr (.inr (fun _ => none)))))), (am 5, .inr (4, [.int 0, .ref eda, .int 0])), (am 6, .inr (4, [.int 0, .ref eda, .int 0])), (am 7, .inr (4, [.int 0, .ref eda, .int 0])), (am 8, .inl (cy 0, 0, .inl (fun _ => 0))), (am 9, .inr (4, [.int 0, .ref eda, .int 0])), (am 10, .inl (cy 0, 16, .inl (fun _ => 0))), (am 11, .inl (cy 8, 4, .inr (.inr (.inr (.inr (fun _ => none)))))), (am 12, .inl (cy 1, 4, .inl (fun _ => 0))), (am 13, .inl (cy 0, 4, .inl (fun _ => 0))), (q1, .inr (1, [.int (nI k)]))]) := hD
  have hP := hP.sub (ws' := [(am 0, .inr (19, [.int 0, .ref (am 1), .ref (am 4), .ref (am 5), .ref (am 6), .ref (am 7), .ref (am 8), .int 0, .ref (am 9), .int 0, .int (-1), .int 100, .ref (am 10), .long 0, .int 0, .int 0, .int 0, .int 0, .long 0])), (am 1, .inr (4, [.int 1, .ref (am 2), .int 1])), (am 2, .inl (cy 10, 10, .inr (.inr (.inr (.inr (va_up (fun _ => none) 0 (some (am 3)))))))), (am 3, .inr (15, [.int 104, .int 4, .int 0, .int 1, .int 0, .int 0, .int 99, .int (-1), .int 0, .int 0, .int (-1), .int 0, .int 0, .ref (am 11), .ref (am 12), .ref (am 13)])), (am 4, .inl (cy 9, 12, .inr (.inr (.inr (.inr (fun _ => none)))))), (am 5, .inr (4, [.int 0, .ref eda, .int 0])), (am 7, .inr (4, [.int 0, .ref eda, .int 0])), (am 8, .inl (cy 0, 0, .inl (fun _ => 0))), (am 9, .inr (4, [.int 0, .ref eda, .int 0])), (am 10, .inl (cy 0, 16, .inl (fun _ => 0))), (am 11, .inl (cy 8, 4, .inr (.inr (.inr (.inr (fun _ => none)))))), (am 12, .inl (cy 1, 4, .inl (fun _ => 0))), (am 13, .inl (cy 0, 4, .inl (fun _ => 0))), (am 6, .inr (4, [.int 0, .ref eda, .int 0])), (q1, .inr (1, [.int (nI k)]))]) [0, 1, 2, 3, 4, 5, 7, 8, 9, 10, 11, 12, 13, 6, 14] rfl
  have hD := hD.sub (ws' := [(am 0, .inr (19, [.int 0, .ref (am 1), .ref (am 4), .ref (am 5), .ref (am 6), .ref (am 7), .ref (am 8), .int 0, .ref (am 9), .int 0, .int (-1), .int 100, .ref (am 10), .long 0, .int 0, .int 0, .int 0, .int 0, .long 0])), (am 1, .inr (4, [.int 1, .ref (am 2), .int 1])), (am 2, .inl (cy 10, 10, .inr (.inr (.inr (.inr (va_up (fun _ => none) 0 (some (am 3)))))))), (am 3, .inr (15, [.int 104, .int 4, .int 0, .int 1, .int 0, .int 0, .int 99, .int (-1), .int 0, .int 0, .int (-1), .int 0, .int 0, .ref (am 11), .ref (am 12), .ref (am 13)])), (am 4, .inl (cy 9, 12, .inr (.inr (.inr (.inr (fun _ => none)))))), (am 5, .inr (4, [.int 0, .ref eda, .int 0])), (am 7, .inr (4, [.int 0, .ref eda, .int 0])), (am 8, .inl (cy 0, 0, .inl (fun _ => 0))), (am 9, .inr (4, [.int 0, .ref eda, .int 0])), (am 10, .inl (cy 0, 16, .inl (fun _ => 0))), (am 11, .inl (cy 8, 4, .inr (.inr (.inr (.inr (fun _ => none)))))), (am 12, .inl (cy 1, 4, .inl (fun _ => 0))), (am 13, .inl (cy 0, 4, .inl (fun _ => 0))), (am 6, .inr (4, [.int 0, .ref eda, .int 0])), (q1, .inr (1, [.int (nI k)]))]) [0, 1, 2, 3, 4, 5, 7, 8, 9, 10, 11, 12, 13, 6, 14] (by decide) rfl
  refine mj_callV (wr := [(am 0, .inr (19, [.int 0, .ref (am 1), .ref (am 4), .ref (am 5), .ref (am 6), .ref (am 7), .ref (am 8), .int 0, .ref (am 9), .int 0, .int (-1), .int 100, .ref (am 10), .long 0, .int 0, .int 0, .int 0, .int 0, .long 0])), (am 1, .inr (4, [.int 1, .ref (am 2), .int 1])), (am 2, .inl (cy 10, 10, .inr (.inr (.inr (.inr (va_up (fun _ => none) 0 (some (am 3)))))))), (am 3, .inr (15, [.int 104, .int 4, .int 0, .int 1, .int 0, .int 0, .int 99, .int (-1), .int 0, .int 0, .int (-1), .int 0, .int 0, .ref (am 11), .ref (am 12), .ref (am 13)])), (am 4, .inl (cy 9, 12, .inr (.inr (.inr (.inr (fun _ => none)))))), (am 5, .inr (4, [.int 0, .ref eda, .int 0])), (am 7, .inr (4, [.int 0, .ref eda, .int 0])), (am 8, .inl (cy 0, 0, .inl (fun _ => 0))), (am 9, .inr (4, [.int 0, .ref eda, .int 0])), (am 10, .inl (cy 0, 16, .inl (fun _ => 0))), (am 11, .inl (cy 8, 4, .inr (.inr (.inr (.inr (fun _ => none)))))), (am 12, .inl (cy 1, 4, .inl (fun _ => 0))), (am 13, .inl (cy 0, 4, .inl (fun _ => 0)))]) (wc := [(am 6, .inr (4, [.int 0, .ref eda, .int 0])), (q1, .inr (1, [.int (nI k)]))]) (As := [.ref q1]) (rest := []) ⟨hx, hb, hml, hown, hts⟩ (m_addN l D cy (am 6) q1 _ 0 ([.int (nI k)]) ) (cwV 1 hts gX14_type_Jx4a65c_add_9ea2d rfl rfl rfl (by decide +kernel) ⟨by decide, by decide⟩) hK hN hP hD hS hA hJS (ci := 4) (q0 := 0) rfl rfl rfl rfl hl.1 rfl (Nat.le_of_ble_eq_true rfl) dX14_type_53 ⟨Nat.le_of_ble_eq_true rfl, Nat.le_of_ble_eq_true rfl⟩ (fun H locs hB hJ hS => ?_)
  obtain ⟨q2, hP1, hD1⟩ := hB
  obtain ⟨hP, hD⟩ := hJ _ hP1 hD1
  have hP : va_P D vwCl ([(am 0, .inr (19, [.int 0, .ref (am 1), .ref (am 4), .ref (am 5), .ref (am 6), .ref (am 7), .ref (am 8), .int 0, .ref (am 9), .int 0, .int (-1), .int 100, .ref (am 10), .long 0, .int 0, .int 0, .int 0, .int 0, .long 0])), (am 1, .inr (4, [.int 1, .ref (am 2), .int 1])), (am 2, .inl (cy 10, 10, .inr (.inr (.inr (.inr (va_up (fun _ => none) 0 (some (am 3)))))))), (am 3, .inr (15, [.int 104, .int 4, .int 0, .int 1, .int 0, .int 0, .int 99, .int (-1), .int 0, .int 0, .int (-1), .int 0, .int 0, .ref (am 11), .ref (am 12), .ref (am 13)])), (am 4, .inl (cy 9, 12, .inr (.inr (.inr (.inr (fun _ => none)))))), (am 5, .inr (4, [.int 0, .ref eda, .int 0])), (am 7, .inr (4, [.int 0, .ref eda, .int 0])), (am 8, .inl (cy 0, 0, .inl (fun _ => 0))), (am 9, .inr (4, [.int 0, .ref eda, .int 0])), (am 10, .inl (cy 0, 16, .inl (fun _ => 0))), (am 11, .inl (cy 8, 4, .inr (.inr (.inr (.inr (fun _ => none)))))), (am 12, .inl (cy 1, 4, .inl (fun _ => 0))), (am 13, .inl (cy 0, 4, .inl (fun _ => 0))), (q1, .inr (1, [.int (nI k)])), (am 6, .inr (4, [.int 1, .ref q2, .int 1])), (q2, .inl (cy 10, 10, .inr (.inr (.inr (.inr (va_up (fun _ => none) 0 (some q1)))))))]) H := hP
  have hD : va_D A ([(am 0, .inr (19, [.int 0, .ref (am 1), .ref (am 4), .ref (am 5), .ref (am 6), .ref (am 7), .ref (am 8), .int 0, .ref (am 9), .int 0, .int (-1), .int 100, .ref (am 10), .long 0, .int 0, .int 0, .int 0, .int 0, .long 0])), (am 1, .inr (4, [.int 1, .ref (am 2), .int 1])), (am 2, .inl (cy 10, 10, .inr (.inr (.inr (.inr (va_up (fun _ => none) 0 (some (am 3)))))))), (am 3, .inr (15, [.int 104, .int 4, .int 0, .int 1, .int 0, .int 0, .int 99, .int (-1), .int 0, .int 0, .int (-1), .int 0, .int 0, .ref (am 11), .ref (am 12), .ref (am 13)])), (am 4, .inl (cy 9, 12, .inr (.inr (.inr (.inr (fun _ => none)))))), (am 5, .inr (4, [.int 0, .ref eda, .int 0])), (am 7, .inr (4, [.int 0, .ref eda, .int 0])), (am 8, .inl (cy 0, 0, .inl (fun _ => 0))), (am 9, .inr (4, [.int 0, .ref eda, .int 0])), (am 10, .inl (cy 0, 16, .inl (fun _ => 0))), (am 11, .inl (cy 8, 4, .inr (.inr (.inr (.inr (fun _ => none)))))), (am 12, .inl (cy 1, 4, .inl (fun _ => 0))), (am 13, .inl (cy 0, 4, .inl (fun _ => 0))), (q1, .inr (1, [.int (nI k)])), (am 6, .inr (4, [.int 1, .ref q2, .int 1])), (q2, .inl (cy 10, 10, .inr (.inr (.inr (.inr (va_up (fun _ => none) 0 (some q1)))))))]) := hD
  refine lv_pop hx hb dX14_type_56 rfl ?_
  refine lv_aload_n hx hb dX14_type_57 rfl (lv_at hl 0 rfl) ?_
  refine va_get (D := D) (ci := 19) (v := .ref (am 6)) (C := RX14) (T := TX14) (N := 19) hx hb hts iw_X14_type_RX14 hown hK hP 0 rfl rfl 4 (by decide) (hts (.fieldLink RX14 25 "HubcascadeModel" "typed" "Ljava/util/ArrayList;") (by decide +kernel)) (fun _ h9 => h9) rfl dX14_type_58 ?_
  refine ro_callV (As := []) (rest := []) ⟨hx, hb, hml, hown, hts⟩ (c_size l D cy _ 14 (am 6) q2 1 1 rfl) (cwV 0 hts gX14_type_Jx4a65c_size_8abf5 rfl rfl rfl (by decide +kernel) ⟨by decide, by decide⟩) hK hN hP hS (ci := 4) (q0 := 14) rfl rfl rfl rfl hl.1 rfl (Nat.le_of_ble_eq_true rfl) dX14_type_61 ⟨Nat.le_of_ble_eq_true rfl, Nat.le_of_ble_eq_true rfl⟩ (fun H locs hP hS => ?_)
  refine W.widen (k := 2) (n := 11) (Nat.le_of_ble_eq_true rfl) (Nat.le_of_ble_eq_true rfl) ?_
  have hP9 := hP.sub (ws' := [(am 0, .inr (19, [.int 0, .ref (am 1), .ref (am 4), .ref (am 5), .ref (am 6), .ref (am 7), .ref (am 8), .int 0, .ref (am 9), .int 0, .int (-1), .int 100, .ref (am 10), .long 0, .int 0, .int 0, .int 0, .int 0, .long 0]))]) [0] rfl
  have hD9 := hD.sub (ws' := [(am 0, .inr (19, [.int 0, .ref (am 1), .ref (am 4), .ref (am 5), .ref (am 6), .ref (am 7), .ref (am 8), .int 0, .ref (am 9), .int 0, .int (-1), .int 100, .ref (am 10), .long 0, .int 0, .int 0, .int 0, .int 0, .long 0]))]) [0] (by decide) rfl
  exact W.iret hx hb hr (fun t ht hW => ⟨rfl, ⟨by rw [ht]; exact hP9, hD9⟩, hS.F ht⟩) hS.2.2 dX14_type_64
