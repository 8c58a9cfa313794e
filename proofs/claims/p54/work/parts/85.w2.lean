section VWRB
theorem dL_load_0 : decode cL_load 0 = .ok (.aload_n 3, 1) := by decide +kernel
theorem dL_load_1 : decode cL_load 1 = .ok (.iconst 0, 1) := by decide +kernel
theorem dL_load_2 : decode cL_load 2 = .ok (.aload_n 0, 1) := by decide +kernel
theorem dL_load_3 : decode cL_load 3 = .ok (.iload_n 1, 1) := by decide +kernel
theorem dL_load_4 : decode cL_load 4 = .ok (.iload_n 2, 1) := by decide +kernel
theorem dL_load_5 : decode cL_load 5 = .ok (.invokevirtual 112, 3) := by decide +kernel
theorem dL_load_8 : decode cL_load 8 = .ok (.i2l, 1) := by decide +kernel
theorem dL_load_9 : decode cL_load 9 = .ok (.lastore, 1) := by decide +kernel
theorem dL_load_10 : decode cL_load 10 = .ok (.goto 15, 3) := by decide +kernel
theorem dL_load_13 : decode cL_load 13 = .ok (.astore 4, 2) := by decide +kernel
theorem dL_load_15 : decode cL_load 15 = .ok (.iconst 1, 1) := by decide +kernel
theorem dL_load_16 : decode cL_load 16 = .ok (.ireturn, 1) := by decide +kernel
theorem dL_load_17 : decode cL_load 17 = .ok (.astore 4, 2) := by decide +kernel
theorem dL_load_19 : decode cL_load 19 = .ok (.iconst 2, 1) := by decide +kernel
theorem dL_load_20 : decode cL_load 20 = .ok (.ireturn, 1) := by decide +kernel
theorem dL_load_21 : decode cL_load 21 = .ok (.astore 4, 2) := by decide +kernel
theorem dL_load_23 : decode cL_load 23 = .ok (.iconst 3, 1) := by decide +kernel
theorem dL_load_24 : decode cL_load 24 = .ok (.ireturn, 1) := by decide +kernel
theorem dL_load_25 : decode cL_load 25 = .ok (.iconst 0, 1) := by decide +kernel
theorem dL_load_26 : decode cL_load 26 = .ok (.ireturn, 1) := by decide +kernel
set_option maxRecDepth 100000 in
set_option maxHeartbeats 4000000 in
theorem w_load (l : Launch) (D : va_G) (cy : Nat → ClassId) (hst : l.stackTraces = false) {ad τ : List Nat} {w : va_W} (sz oa : Nat) (f : Nat → Int64) (hs : vi_s1 vSG τ) (ht : vi_tw vK cy (fun _ => True) ad τ w) {x0 q0 : Nat} (hr0 : τ[q0]? = some 0) (hr1 : ad[q0]? = some x0) (x1 : Int32) (x2 : Int32) : vw_M l D cy vK ad τ oa f w sz q_Hubcascade_load_0.2.2.2.1 yL_load (Cond.codeWith yL_load cL_load 5 (some .int) [(0, 10, 13, 21), (0, 10, 17, 23), (0, 10, 21, 15)] :: lWall) 8 3 135 [.ref x0, .int x1, .int x2, .ref oa] := by
  refine wr_ofW (cc := cL_load) (maxL := 5) (ret := (some .int)) (hh := [(0, 10, 13, 21), (0, 10, 17, 23), (0, 10, 21, 15)]) (lv := [(0, .ref x0), (1, .int x1), (2, .int x2), (3, .ref oa)]) (by decide) rfl (Nat.le_of_ble_eq_true rfl) rfl ?_
  intro p e s m below meth c ls hx hb hr hml hown hlocks htab hts hv hl
  have hown : s.vm.findClass RL = some m.cls := hown
  obtain ⟨⟨⟨hsz, hP, hD0⟩, hK, hN⟩, hT⟩ := hv
  subst hsz
  have hD := hD0.self (sz := s.heap.size)
  generalize hAe : va_A ((oa, .inl (cy 2, 1, .inr (.inl f))) :: w) s.heap.size = A at hD hT ⊢
  have hA : ∀ q : Nat, s.heap.size ≤ q → A q := fun q h => by rw [← hAe]; exact Or.inr h
  have hS : va_S A s.heap s.heap [] := va_S.rf
  have hP : va_P D vwCl ([(oa, .inl (cy 2, 1, .inr (.inl f)))] ++ w) s.heap := hP
  have hD : va_D A ([(oa, .inl (cy 2, 1, .inr (.inl f)))] ++ w) := hD
  have S : CallFix p m c cL_load 5 s _ (_ :: lWall) RL := ⟨hx, hb, hml, hown, hts⟩
  refine lv_aload_n hx hb dL_load_0 rfl (lv_at hl 3 rfl) ?_
  refine lv_iconst (v := 0) hx hb dL_load_1 (by decide) ?_
  refine lv_aload_n hx hb dL_load_2 rfl (lv_at hl 0 rfl) ?_
  refine lv_iload_n hx hb dL_load_3 rfl (lv_at hl 1 rfl) ?_
  refine lv_iload_n hx hb dL_load_4 rfl (lv_at hl 2 rfl) ?_
  refine vi_catchV (wr := [(oa, .inl (cy 2, 1, .inr (.inl f)))]) (av := [.ref x0, .int x1, .int x2]) (rest := [.int 0, .ref oa]) S (m_Hubcascade_load_0 l D cy hst) (cwV 2 S.2.2.2.2 (lgV (lm_ _ (List.mem_of_getElem? (i := 122) rfl)) (lm_ _ (List.mem_of_getElem? (i := 123) rfl)) (lm_ _ (List.mem_of_getElem? (i := 124) rfl)) (lv_ _ (vm_4 _ (List.mem_of_getElem? (i := 20) rfl))) (lv_ _ (vm_8 _ (List.mem_of_getElem? (i := 30) rfl)))) rfl rfl rfl ⟨rfl, by decide, by decide, by decide +kernel⟩ ⟨Nat.le_of_ble_eq_true rfl, Nat.le_of_ble_eq_true rfl⟩) rfl ⟨_, _, _, _, _, _, rfl, rfl, rfl, rfl⟩ hK hN hs hT hP hD hS hA ht rfl ?_ (fun f hf => by cases hf) hl.1 rfl (Nat.le_of_ble_eq_true rfl) dL_load_5 ⟨Nat.le_of_ble_eq_true rfl, Nat.le_of_ble_eq_true rfl⟩ ?_ ?_
  · exact vi_tys_ok (ad := ad) (τ := τ) (as := q_Hubcascade_load_0.1) ⟨Or.inr ⟨q0, x0, hr0, hr1, rfl⟩, vi_okI x1, vi_okI x2, True.intro⟩
  · refine List.forall_mem_cons.mpr ⟨⟨[], ⟨0, 10, 13, 21⟩, [⟨0, 10, 17, 23⟩, ⟨0, 10, 21, 15⟩], htab, (fun _ h => absurd h List.not_mem_nil), by decide, by decide, hts _ (List.mem_cons_of_mem _ (lm_ _ (List.mem_of_getElem? (i := 5) rfl))), va_Nw.use rfl (hT.2.2.1 "java/lang/IndexOutOfBoundsException" (by decide)), fun qx H locs w1 hP hD hS ht hk => ?_⟩, ?_⟩
    · refine lv_astore (lv' := [(4, .ref qx), (0, .ref x0), (1, .int x1), (2, .int x2), (3, .ref oa)]) hx hb dL_load_13 hl (by decide) rfl (fun ls hl => ?_)
      refine lv_iconst (v := 1) hx hb dL_load_15 (by decide) ?_
      exact W.iret hx hb hr (fun t ht9 _ => ⟨⟨_, w1, _, rfl, by rw [ht9]; exact hP, ht, hk⟩, hS.F ht9⟩) hS.2.2 dL_load_16
    refine List.forall_mem_cons.mpr ⟨⟨[⟨0, 10, 13, 21⟩, ⟨0, 10, 17, 23⟩], ⟨0, 10, 21, 15⟩, [], htab, (by intro z hz; simp only [List.mem_cons, List.not_mem_nil, or_false] at hz; rcases hz with rfl | rfl <;> first | exact Or.inr ⟨by decide, "java/lang/IndexOutOfBoundsException", hts _ (List.mem_cons_of_mem _ (lm_ _ (List.mem_of_getElem? (i := 5) rfl))), hT.2.2.2.2 "java/lang/IllegalStateException" (by decide) "java/lang/IndexOutOfBoundsException" (by decide) (by decide)⟩ | exact Or.inr ⟨by decide, "java/lang/UnsupportedOperationException", hts _ (List.mem_cons_of_mem _ (lm_ _ (List.mem_of_getElem? (i := 171) rfl))), hT.2.2.2.2 "java/lang/IllegalStateException" (by decide) "java/lang/UnsupportedOperationException" (by decide) (by decide)⟩), by decide, by decide, hts _ (List.mem_cons_of_mem _ (lm_ _ (List.mem_of_getElem? (i := 170) rfl))), va_Nw.use rfl (hT.2.2.1 "java/lang/IllegalStateException" (by decide)), fun qx H locs w1 hP hD hS ht hk => ?_⟩, ?_⟩
    · refine lv_astore (lv' := [(4, .ref qx), (0, .ref x0), (1, .int x1), (2, .int x2), (3, .ref oa)]) hx hb dL_load_21 hl (by decide) rfl (fun ls hl => ?_)
      refine lv_iconst (v := 3) hx hb dL_load_23 (by decide) ?_
      exact W.iret hx hb hr (fun t ht9 _ => ⟨⟨_, w1, _, rfl, by rw [ht9]; exact hP, ht, hk⟩, hS.F ht9⟩) hS.2.2 dL_load_24
    refine List.forall_mem_cons.mpr ⟨⟨[⟨0, 10, 13, 21⟩], ⟨0, 10, 17, 23⟩, [⟨0, 10, 21, 15⟩], htab, (by intro z hz; simp only [List.mem_cons, List.not_mem_nil, or_false] at hz; subst hz; exact Or.inr ⟨by decide, "java/lang/IndexOutOfBoundsException", hts _ (List.mem_cons_of_mem _ (lm_ _ (List.mem_of_getElem? (i := 5) rfl))), hT.2.2.2.2 "java/lang/UnsupportedOperationException" (by decide) "java/lang/IndexOutOfBoundsException" (by decide) (by decide)⟩), by decide, by decide, hts _ (List.mem_cons_of_mem _ (lm_ _ (List.mem_of_getElem? (i := 171) rfl))), va_Nw.use rfl (hT.2.2.1 "java/lang/UnsupportedOperationException" (by decide)), fun qx H locs w1 hP hD hS ht hk => ?_⟩, ?_⟩
    · refine lv_astore (lv' := [(4, .ref qx), (0, .ref x0), (1, .int x1), (2, .int x2), (3, .ref oa)]) hx hb dL_load_17 hl (by decide) rfl (fun ls hl => ?_)
      refine lv_iconst (v := 2) hx hb dL_load_19 (by decide) ?_
      exact W.iret hx hb hr (fun t ht9 _ => ⟨⟨_, w1, _, rfl, by rw [ht9]; exact hP, ht, hk⟩, hS.F ht9⟩) hS.2.2 dL_load_20
    exact fun q hq => by cases hq
  · intro alt halt H locs w1 v hP hD hS ht hk ha
    obtain ⟨y, rfl⟩ := vw_int (by decide +kernel) halt ha
    refine lv_i2l (v := y.toInt64) hx hb dL_load_8 rfl ?_
    refine va_last hx hb hK hP hD hS 0 2 rfl rfl (by unfold vp_in; decide) dL_load_9 (fun H locs hP hD hS => ?_)
    rw [my_upd0] at hP
    have hP : va_P D vwCl ((oa, .inl (cy 2, 1, .inr (.inl (vp_updL f 0 y.toInt64)))) :: w1) H := hP
    refine lv_goto (tgt := 25) hx hb dL_load_10 (by decide) ?_
    refine lv_iconst (v := 0) hx hb dL_load_25 (by decide) ?_
    exact W.iret hx hb hr (fun t ht9 _ => ⟨⟨_, w1, _, rfl, by rw [ht9]; exact hP, ht, hk⟩, hS.F ht9⟩) hS.2.2 dL_load_26

theorem dL_fault_0 : decode cL_fault 0 = .ok (.aload 5, 2) := by decide +kernel
theorem dL_fault_2 : decode cL_fault 2 = .ok (.iconst 0, 1) := by decide +kernel
theorem dL_fault_3 : decode cL_fault 3 = .ok (.aload_n 0, 1) := by decide +kernel
theorem dL_fault_4 : decode cL_fault 4 = .ok (.iload_n 1, 1) := by decide +kernel
theorem dL_fault_5 : decode cL_fault 5 = .ok (.iload_n 2, 1) := by decide +kernel
theorem dL_fault_6 : decode cL_fault 6 = .ok (.iload_n 3, 1) := by decide +kernel
theorem dL_fault_7 : decode cL_fault 7 = .ok (.iload 4, 2) := by decide +kernel
theorem dL_fault_9 : decode cL_fault 9 = .ok (.invokevirtual 115, 3) := by decide +kernel
theorem dL_fault_12 : decode cL_fault 12 = .ok (.i2l, 1) := by decide +kernel
theorem dL_fault_13 : decode cL_fault 13 = .ok (.lastore, 1) := by decide +kernel
theorem dL_fault_14 : decode cL_fault 14 = .ok (.goto 11, 3) := by decide +kernel
theorem dL_fault_17 : decode cL_fault 17 = .ok (.astore 6, 2) := by decide +kernel
theorem dL_fault_19 : decode cL_fault 19 = .ok (.iconst 1, 1) := by decide +kernel
theorem dL_fault_20 : decode cL_fault 20 = .ok (.ireturn, 1) := by decide +kernel
theorem dL_fault_21 : decode cL_fault 21 = .ok (.astore 6, 2) := by decide +kernel
theorem dL_fault_23 : decode cL_fault 23 = .ok (.iconst 2, 1) := by decide +kernel
theorem dL_fault_24 : decode cL_fault 24 = .ok (.ireturn, 1) := by decide +kernel
theorem dL_fault_25 : decode cL_fault 25 = .ok (.iconst 0, 1) := by decide +kernel
theorem dL_fault_26 : decode cL_fault 26 = .ok (.ireturn, 1) := by decide +kernel
set_option maxRecDepth 100000 in
set_option maxHeartbeats 4000000 in
theorem w_fault (l : Launch) (D : va_G) (cy : Nat → ClassId) (hst : l.stackTraces = false) {ad τ : List Nat} {w : va_W} (sz oa : Nat) (f : Nat → Int64) (hs : vi_s1 vSG τ) (ht : vi_tw vK cy (fun _ => True) ad τ w) {x0 q0 : Nat} (hr0 : τ[q0]? = some 0) (hr1 : ad[q0]? = some x0) (x1 : Int32) (x2 : Int32) (x3 : Int32) (hx3 : 0 ≤ x3.toInt ∧ x3.toInt ≤ 65535) (x4 : Int32) : vw_M l D cy vK ad τ oa f w sz q_Hubcascade_fault_0.2.2.2.1 yL_fault (Cond.codeWith yL_fault cL_fault 7 (some .int) [(0, 14, 17, 21), (0, 14, 21, 13)] :: lWall) 9 3 159 [.ref x0, .int x1, .int x2, .int x3, .int x4, .ref oa] := by
  refine wr_ofW (cc := cL_fault) (maxL := 7) (ret := (some .int)) (hh := [(0, 14, 17, 21), (0, 14, 21, 13)]) (lv := [(0, .ref x0), (1, .int x1), (2, .int x2), (3, .int x3), (4, .int x4), (5, .ref oa)]) (by decide) rfl (Nat.le_of_ble_eq_true rfl) rfl ?_
  intro p e s m below meth c ls hx hb hr hml hown hlocks htab hts hv hl
  have hown : s.vm.findClass RL = some m.cls := hown
  obtain ⟨⟨⟨hsz, hP, hD0⟩, hK, hN⟩, hT⟩ := hv
  subst hsz
  have hD := hD0.self (sz := s.heap.size)
  generalize hAe : va_A ((oa, .inl (cy 2, 1, .inr (.inl f))) :: w) s.heap.size = A at hD hT ⊢
  have hA : ∀ q : Nat, s.heap.size ≤ q → A q := fun q h => by rw [← hAe]; exact Or.inr h
  have hS : va_S A s.heap s.heap [] := va_S.rf
  have hP : va_P D vwCl ([(oa, .inl (cy 2, 1, .inr (.inl f)))] ++ w) s.heap := hP
  have hD : va_D A ([(oa, .inl (cy 2, 1, .inr (.inl f)))] ++ w) := hD
  have S : CallFix p m c cL_fault 7 s _ (_ :: lWall) RL := ⟨hx, hb, hml, hown, hts⟩
  refine lv_aload hx hb dL_fault_0 (lv_at hl 5 rfl) ?_
  refine lv_iconst (v := 0) hx hb dL_fault_2 (by decide) ?_
  refine lv_aload_n hx hb dL_fault_3 rfl (lv_at hl 0 rfl) ?_
  refine lv_iload_n hx hb dL_fault_4 rfl (lv_at hl 1 rfl) ?_
  refine lv_iload_n hx hb dL_fault_5 rfl (lv_at hl 2 rfl) ?_
  refine lv_iload_n hx hb dL_fault_6 rfl (lv_at hl 3 rfl) ?_
  refine lv_iload hx hb dL_fault_7 (lv_at hl 4 rfl) ?_
  refine vi_catchV (wr := [(oa, .inl (cy 2, 1, .inr (.inl f)))]) (av := [.ref x0, .int x1, .int x2, .int x3, .int x4]) (rest := [.int 0, .ref oa]) S (m_Hubcascade_fault_0 l D cy hst) (cwV 4 S.2.2.2.2 (lgV (lm_ _ (List.mem_of_getElem? (i := 125) rfl)) (lm_ _ (List.mem_of_getElem? (i := 126) rfl)) (lm_ _ (List.mem_of_getElem? (i := 127) rfl)) (lv_ _ (vm_4 _ (List.mem_of_getElem? (i := 20) rfl))) (lv_ _ (vm_8 _ (List.mem_of_getElem? (i := 32) rfl)))) rfl rfl rfl ⟨rfl, by decide, by decide, by decide +kernel⟩ ⟨Nat.le_of_ble_eq_true rfl, Nat.le_of_ble_eq_true rfl⟩) rfl ⟨_, _, _, _, _, _, rfl, rfl, rfl, rfl⟩ hK hN hs hT hP hD hS hA ht rfl ?_ (fun f hf => by cases hf) hl.1 rfl (Nat.le_of_ble_eq_true rfl) dL_fault_9 ⟨Nat.le_of_ble_eq_true rfl, Nat.le_of_ble_eq_true rfl⟩ ?_ ?_
  · exact vi_tys_ok (ad := ad) (τ := τ) (as := q_Hubcascade_fault_0.1) ⟨Or.inr ⟨q0, x0, hr0, hr1, rfl⟩, vi_okI x1, vi_okI x2, ⟨x3, rfl, hx3⟩, vi_okI x4, True.intro⟩
  · refine List.forall_mem_cons.mpr ⟨⟨[], ⟨0, 14, 17, 21⟩, [⟨0, 14, 21, 13⟩], htab, (fun _ h => absurd h List.not_mem_nil), by decide, by decide, hts _ (List.mem_cons_of_mem _ (lm_ _ (List.mem_of_getElem? (i := 5) rfl))), va_Nw.use rfl (hT.2.2.1 "java/lang/IndexOutOfBoundsException" (by decide)), fun qx H locs w1 hP hD hS ht hk => ?_⟩, ?_⟩
    · refine lv_astore (lv' := [(6, .ref qx), (0, .ref x0), (1, .int x1), (2, .int x2), (3, .int x3), (4, .int x4), (5, .ref oa)]) hx hb dL_fault_17 hl (by decide) rfl (fun ls hl => ?_)
      refine lv_iconst (v := 1) hx hb dL_fault_19 (by decide) ?_
      exact W.iret hx hb hr (fun t ht9 _ => ⟨⟨_, w1, _, rfl, by rw [ht9]; exact hP, ht, hk⟩, hS.F ht9⟩) hS.2.2 dL_fault_20
    refine List.forall_mem_cons.mpr ⟨⟨[⟨0, 14, 17, 21⟩], ⟨0, 14, 21, 13⟩, [], htab, (by intro z hz; simp only [List.mem_cons, List.not_mem_nil, or_false] at hz; subst hz; exact Or.inr ⟨by decide, "java/lang/IndexOutOfBoundsException", hts _ (List.mem_cons_of_mem _ (lm_ _ (List.mem_of_getElem? (i := 5) rfl))), hT.2.2.2.2 "java/lang/IllegalArgumentException" (by decide) "java/lang/IndexOutOfBoundsException" (by decide) (by decide)⟩), by decide, by decide, hts _ (List.mem_cons_of_mem _ (lm_ _ (List.mem_of_getElem? (i := 0) rfl))), va_Nw.use rfl (hT.2.2.1 "java/lang/IllegalArgumentException" (by decide)), fun qx H locs w1 hP hD hS ht hk => ?_⟩, ?_⟩
    · refine lv_astore (lv' := [(6, .ref qx), (0, .ref x0), (1, .int x1), (2, .int x2), (3, .int x3), (4, .int x4), (5, .ref oa)]) hx hb dL_fault_21 hl (by decide) rfl (fun ls hl => ?_)
      refine lv_iconst (v := 2) hx hb dL_fault_23 (by decide) ?_
      exact W.iret hx hb hr (fun t ht9 _ => ⟨⟨_, w1, _, rfl, by rw [ht9]; exact hP, ht, hk⟩, hS.F ht9⟩) hS.2.2 dL_fault_24
    exact fun q hq => by cases hq
  · intro alt halt H locs w1 v hP hD hS ht hk ha
    obtain ⟨y, rfl⟩ := vw_int (by decide +kernel) halt ha
    refine lv_i2l (v := y.toInt64) hx hb dL_fault_12 rfl ?_
    refine va_last hx hb hK hP hD hS 0 2 rfl rfl (by unfold vp_in; decide) dL_fault_13 (fun H locs hP hD hS => ?_)
    rw [my_upd0] at hP
    have hP : va_P D vwCl ((oa, .inl (cy 2, 1, .inr (.inl (vp_updL f 0 y.toInt64)))) :: w1) H := hP
    refine lv_goto (tgt := 25) hx hb dL_fault_14 (by decide) ?_
    refine lv_iconst (v := 0) hx hb dL_fault_25 (by decide) ?_
    exact W.iret hx hb hr (fun t ht9 _ => ⟨⟨_, w1, _, rfl, by rw [ht9]; exact hP, ht, hk⟩, hS.F ht9⟩) hS.2.2 dL_fault_26

theorem dL_left_0 : decode cL_left 0 = .ok (.aload_n 2, 1) := by decide +kernel
theorem dL_left_1 : decode cL_left 1 = .ok (.iconst 0, 1) := by decide +kernel
theorem dL_left_2 : decode cL_left 2 = .ok (.aload_n 0, 1) := by decide +kernel
theorem dL_left_3 : decode cL_left 3 = .ok (.iload_n 1, 1) := by decide +kernel
theorem dL_left_4 : decode cL_left 4 = .ok (.invokevirtual 118, 3) := by decide +kernel
theorem dL_left_7 : decode cL_left 7 = .ok (.i2l, 1) := by decide +kernel
theorem dL_left_8 : decode cL_left 8 = .ok (.lastore, 1) := by decide +kernel
theorem dL_left_9 : decode cL_left 9 = .ok (.goto 9, 3) := by decide +kernel
theorem dL_left_12 : decode cL_left 12 = .ok (.astore_n 3, 1) := by decide +kernel
theorem dL_left_13 : decode cL_left 13 = .ok (.iconst 1, 1) := by decide +kernel
theorem dL_left_14 : decode cL_left 14 = .ok (.ireturn, 1) := by decide +kernel
theorem dL_left_15 : decode cL_left 15 = .ok (.astore_n 3, 1) := by decide +kernel
theorem dL_left_16 : decode cL_left 16 = .ok (.iconst 2, 1) := by decide +kernel
theorem dL_left_17 : decode cL_left 17 = .ok (.ireturn, 1) := by decide +kernel
theorem dL_left_18 : decode cL_left 18 = .ok (.iconst 0, 1) := by decide +kernel
theorem dL_left_19 : decode cL_left 19 = .ok (.ireturn, 1) := by decide +kernel
set_option maxRecDepth 100000 in
set_option maxHeartbeats 4000000 in
theorem w_left (l : Launch) (D : va_G) (cy : Nat → ClassId) (hst : l.stackTraces = false) {ad τ : List Nat} {w : va_W} (sz oa : Nat) (f : Nat → Int64) (hs : vi_s1 vSG τ) (ht : vi_tw vK cy (fun _ => True) ad τ w) {x0 q0 : Nat} (hr0 : τ[q0]? = some 0) (hr1 : ad[q0]? = some x0) (x1 : Int32) : vw_M l D cy vK ad τ oa f w sz q_Hubcascade_left_0.2.2.2.1 yL_left (Cond.codeWith yL_left cL_left 4 (some .int) [(0, 9, 12, 21), (0, 9, 15, 56)] :: lWall) 8 2 133 [.ref x0, .int x1, .ref oa] := by
  refine wr_ofW (cc := cL_left) (maxL := 4) (ret := (some .int)) (hh := [(0, 9, 12, 21), (0, 9, 15, 56)]) (lv := [(0, .ref x0), (1, .int x1), (2, .ref oa)]) (by decide) rfl (Nat.le_of_ble_eq_true rfl) rfl ?_
  intro p e s m below meth c ls hx hb hr hml hown hlocks htab hts hv hl
  have hown : s.vm.findClass RL = some m.cls := hown
  obtain ⟨⟨⟨hsz, hP, hD0⟩, hK, hN⟩, hT⟩ := hv
  subst hsz
  have hD := hD0.self (sz := s.heap.size)
  generalize hAe : va_A ((oa, .inl (cy 2, 1, .inr (.inl f))) :: w) s.heap.size = A at hD hT ⊢
  have hA : ∀ q : Nat, s.heap.size ≤ q → A q := fun q h => by rw [← hAe]; exact Or.inr h
  have hS : va_S A s.heap s.heap [] := va_S.rf
  have hP : va_P D vwCl ([(oa, .inl (cy 2, 1, .inr (.inl f)))] ++ w) s.heap := hP
  have hD : va_D A ([(oa, .inl (cy 2, 1, .inr (.inl f)))] ++ w) := hD
  have S : CallFix p m c cL_left 4 s _ (_ :: lWall) RL := ⟨hx, hb, hml, hown, hts⟩
  refine lv_aload_n hx hb dL_left_0 rfl (lv_at hl 2 rfl) ?_
  refine lv_iconst (v := 0) hx hb dL_left_1 (by decide) ?_
  refine lv_aload_n hx hb dL_left_2 rfl (lv_at hl 0 rfl) ?_
  refine lv_iload_n hx hb dL_left_3 rfl (lv_at hl 1 rfl) ?_
  refine vi_catchV (wr := [(oa, .inl (cy 2, 1, .inr (.inl f)))]) (av := [.ref x0, .int x1]) (rest := [.int 0, .ref oa]) S (m_Hubcascade_left_0 l D cy hst) (cwV 1 S.2.2.2.2 (lgV (lm_ _ (List.mem_of_getElem? (i := 128) rfl)) (lm_ _ (List.mem_of_getElem? (i := 129) rfl)) (lm_ _ (List.mem_of_getElem? (i := 130) rfl)) (lv_ _ (vm_4 _ (List.mem_of_getElem? (i := 20) rfl))) (lv_ _ (vm_10 _ (List.mem_of_getElem? (i := 15) rfl)))) rfl rfl rfl ⟨rfl, by decide, by decide, by decide +kernel⟩ ⟨Nat.le_of_ble_eq_true rfl, Nat.le_of_ble_eq_true rfl⟩) rfl ⟨_, _, _, _, _, _, rfl, rfl, rfl, rfl⟩ hK hN hs hT hP hD hS hA ht rfl ?_ (fun f hf => by cases hf) hl.1 rfl (Nat.le_of_ble_eq_true rfl) dL_left_4 ⟨Nat.le_of_ble_eq_true rfl, Nat.le_of_ble_eq_true rfl⟩ ?_ ?_
  · exact vi_tys_ok (ad := ad) (τ := τ) (as := q_Hubcascade_left_0.1) ⟨Or.inr ⟨q0, x0, hr0, hr1, rfl⟩, vi_okI x1, True.intro⟩
  · refine List.forall_mem_cons.mpr ⟨⟨[], ⟨0, 9, 12, 21⟩, [⟨0, 9, 15, 56⟩], htab, (fun _ h => absurd h List.not_mem_nil), by decide, by decide, hts _ (List.mem_cons_of_mem _ (lm_ _ (List.mem_of_getElem? (i := 5) rfl))), va_Nw.use rfl (hT.2.2.1 "java/lang/IndexOutOfBoundsException" (by decide)), fun qx H locs w1 hP hD hS ht hk => ?_⟩, ?_⟩
    · refine lv_astore_n (lv' := [(3, .ref qx), (0, .ref x0), (1, .int x1), (2, .ref oa)]) hx hb dL_left_12 rfl hl (by decide) rfl (fun ls hl => ?_)
      refine lv_iconst (v := 1) hx hb dL_left_13 (by decide) ?_
      exact W.iret hx hb hr (fun t ht9 _ => ⟨⟨_, w1, _, rfl, by rw [ht9]; exact hP, ht, hk⟩, hS.F ht9⟩) hS.2.2 dL_left_14
    refine List.forall_mem_cons.mpr ⟨⟨[⟨0, 9, 12, 21⟩], ⟨0, 9, 15, 56⟩, [], htab, (by intro z hz; simp only [List.mem_cons, List.not_mem_nil, or_false] at hz; subst hz; exact Or.inr ⟨by decide, "java/lang/IndexOutOfBoundsException", hts _ (List.mem_cons_of_mem _ (lm_ _ (List.mem_of_getElem? (i := 5) rfl))), hT.2.2.2.2 "java/util/NoSuchElementException" (by decide) "java/lang/IndexOutOfBoundsException" (by decide) (by decide)⟩), by decide, by decide, hts _ (List.mem_cons_of_mem _ (lm_ _ (List.mem_of_getElem? (i := 47) rfl))), va_Nw.use rfl (hT.2.2.1 "java/util/NoSuchElementException" (by decide)), fun qx H locs w1 hP hD hS ht hk => ?_⟩, ?_⟩
    · refine lv_astore_n (lv' := [(3, .ref qx), (0, .ref x0), (1, .int x1), (2, .ref oa)]) hx hb dL_left_15 rfl hl (by decide) rfl (fun ls hl => ?_)
      refine lv_iconst (v := 2) hx hb dL_left_16 (by decide) ?_
      exact W.iret hx hb hr (fun t ht9 _ => ⟨⟨_, w1, _, rfl, by rw [ht9]; exact hP, ht, hk⟩, hS.F ht9⟩) hS.2.2 dL_left_17
    exact fun q hq => by cases hq
  · intro alt halt H locs w1 v hP hD hS ht hk ha
    obtain ⟨y, rfl⟩ := vw_int (by decide +kernel) halt ha
    refine lv_i2l (v := y.toInt64) hx hb dL_left_7 rfl ?_
    refine va_last hx hb hK hP hD hS 0 2 rfl rfl (by unfold vp_in; decide) dL_left_8 (fun H locs hP hD hS => ?_)
    rw [my_upd0] at hP
    have hP : va_P D vwCl ((oa, .inl (cy 2, 1, .inr (.inl (vp_updL f 0 y.toInt64)))) :: w1) H := hP
    refine lv_goto (tgt := 18) hx hb dL_left_9 (by decide) ?_
    refine lv_iconst (v := 0) hx hb dL_left_18 (by decide) ?_
    exact W.iret hx hb hr (fun t ht9 _ => ⟨⟨_, w1, _, rfl, by rw [ht9]; exact hP, ht, hk⟩, hS.F ht9⟩) hS.2.2 dL_left_19

theorem dL_event_0 : decode cL_event 0 = .ok (.aload_n 1, 1) := by decide +kernel
theorem dL_event_1 : decode cL_event 1 = .ok (.iconst 0, 1) := by decide +kernel
theorem dL_event_2 : decode cL_event 2 = .ok (.aload_n 0, 1) := by decide +kernel
theorem dL_event_3 : decode cL_event 3 = .ok (.invokevirtual 121, 3) := by decide +kernel
theorem dL_event_6 : decode cL_event 6 = .ok (.i2l, 1) := by decide +kernel
theorem dL_event_7 : decode cL_event 7 = .ok (.lastore, 1) := by decide +kernel
theorem dL_event_8 : decode cL_event 8 = .ok (.goto 6, 3) := by decide +kernel
theorem dL_event_11 : decode cL_event 11 = .ok (.astore_n 2, 1) := by decide +kernel
theorem dL_event_12 : decode cL_event 12 = .ok (.iconst 1, 1) := by decide +kernel
theorem dL_event_13 : decode cL_event 13 = .ok (.ireturn, 1) := by decide +kernel
theorem dL_event_14 : decode cL_event 14 = .ok (.iconst 0, 1) := by decide +kernel
theorem dL_event_15 : decode cL_event 15 = .ok (.ireturn, 1) := by decide +kernel
set_option maxRecDepth 100000 in
set_option maxHeartbeats 4000000 in
theorem w_event (l : Launch) (D : va_G) (cy : Nat → ClassId) (hst : l.stackTraces = false) {ad τ : List Nat} {w : va_W} (sz oa : Nat) (f : Nat → Int64) (hs : vi_s1 vSG τ) (ht : vi_tw vK cy (fun _ => True) ad τ w) {x0 q0 : Nat} (hr0 : τ[q0]? = some 0) (hr1 : ad[q0]? = some x0) : vw_M l D cy vK ad τ oa f w sz q_Hubcascade_event_0.2.2.2.1 yL_event (Cond.codeWith yL_event cL_event 3 (some .int) [(0, 8, 11, 56)] :: lWall) 7 1 110 [.ref x0, .ref oa] := by
  refine wr_ofW (cc := cL_event) (maxL := 3) (ret := (some .int)) (hh := [(0, 8, 11, 56)]) (lv := [(0, .ref x0), (1, .ref oa)]) (by decide) rfl (Nat.le_of_ble_eq_true rfl) rfl ?_
  intro p e s m below meth c ls hx hb hr hml hown hlocks htab hts hv hl
  have hown : s.vm.findClass RL = some m.cls := hown
  obtain ⟨⟨⟨hsz, hP, hD0⟩, hK, hN⟩, hT⟩ := hv
  subst hsz
  have hD := hD0.self (sz := s.heap.size)
  generalize hAe : va_A ((oa, .inl (cy 2, 1, .inr (.inl f))) :: w) s.heap.size = A at hD hT ⊢
  have hA : ∀ q : Nat, s.heap.size ≤ q → A q := fun q h => by rw [← hAe]; exact Or.inr h
  have hS : va_S A s.heap s.heap [] := va_S.rf
  have hP : va_P D vwCl ([(oa, .inl (cy 2, 1, .inr (.inl f)))] ++ w) s.heap := hP
  have hD : va_D A ([(oa, .inl (cy 2, 1, .inr (.inl f)))] ++ w) := hD
  have S : CallFix p m c cL_event 3 s _ (_ :: lWall) RL := ⟨hx, hb, hml, hown, hts⟩
  refine lv_aload_n hx hb dL_event_0 rfl (lv_at hl 1 rfl) ?_
  refine lv_iconst (v := 0) hx hb dL_event_1 (by decide) ?_
  refine lv_aload_n hx hb dL_event_2 rfl (lv_at hl 0 rfl) ?_
  refine vi_catchV (wr := [(oa, .inl (cy 2, 1, .inr (.inl f)))]) (av := [.ref x0]) (rest := [.int 0, .ref oa]) S (m_Hubcascade_event_0 l D cy hst) (cwV 0 S.2.2.2.2 (lgV (lm_ _ (List.mem_of_getElem? (i := 131) rfl)) (lm_ _ (List.mem_of_getElem? (i := 132) rfl)) (lm_ _ (List.mem_of_getElem? (i := 133) rfl)) (lv_ _ (vm_4 _ (List.mem_of_getElem? (i := 20) rfl))) (lv_ _ (vm_10 _ (List.mem_of_getElem? (i := 17) rfl)))) rfl rfl rfl ⟨rfl, by decide, by decide, by decide +kernel⟩ ⟨Nat.le_of_ble_eq_true rfl, Nat.le_of_ble_eq_true rfl⟩) rfl ⟨_, _, _, _, _, _, rfl, rfl, rfl, rfl⟩ hK hN hs hT hP hD hS hA ht rfl ?_ (fun f hf => by cases hf) hl.1 rfl (Nat.le_of_ble_eq_true rfl) dL_event_3 ⟨Nat.le_of_ble_eq_true rfl, Nat.le_of_ble_eq_true rfl⟩ ?_ ?_
  · exact vi_tys_ok (ad := ad) (τ := τ) (as := q_Hubcascade_event_0.1) ⟨Or.inr ⟨q0, x0, hr0, hr1, rfl⟩, True.intro⟩
  · refine List.forall_mem_cons.mpr ⟨⟨[], ⟨0, 8, 11, 56⟩, [], htab, (fun _ h => absurd h List.not_mem_nil), by decide, by decide, hts _ (List.mem_cons_of_mem _ (lm_ _ (List.mem_of_getElem? (i := 47) rfl))), va_Nw.use rfl (hT.2.2.1 "java/util/NoSuchElementException" (by decide)), fun qx H locs w1 hP hD hS ht hk => ?_⟩, ?_⟩
    · refine lv_astore_n (lv' := [(2, .ref qx), (0, .ref x0), (1, .ref oa)]) hx hb dL_event_11 rfl hl (by decide) rfl (fun ls hl => ?_)
      refine lv_iconst (v := 1) hx hb dL_event_12 (by decide) ?_
      exact W.iret hx hb hr (fun t ht9 _ => ⟨⟨_, w1, _, rfl, by rw [ht9]; exact hP, ht, hk⟩, hS.F ht9⟩) hS.2.2 dL_event_13
    exact fun q hq => by cases hq
  · intro alt halt H locs w1 v hP hD hS ht hk ha
    obtain ⟨y, rfl⟩ := vw_int (by decide +kernel) halt ha
    refine lv_i2l (v := y.toInt64) hx hb dL_event_6 rfl ?_
    refine va_last hx hb hK hP hD hS 0 2 rfl rfl (by unfold vp_in; decide) dL_event_7 (fun H locs hP hD hS => ?_)
    rw [my_upd0] at hP
    have hP : va_P D vwCl ((oa, .inl (cy 2, 1, .inr (.inl (vp_updL f 0 y.toInt64)))) :: w1) H := hP
    refine lv_goto (tgt := 14) hx hb dL_event_8 (by decide) ?_
    refine lv_iconst (v := 0) hx hb dL_event_14 (by decide) ?_
    exact W.iret hx hb hr (fun t ht9 _ => ⟨⟨_, w1, _, rfl, by rw [ht9]; exact hP, ht, hk⟩, hS.F ht9⟩) hS.2.2 dL_event_15

theorem dL_eventPipe_0 : decode cL_eventPipe 0 = .ok (.aload_n 1, 1) := by decide +kernel
theorem dL_eventPipe_1 : decode cL_eventPipe 1 = .ok (.iconst 0, 1) := by decide +kernel
theorem dL_eventPipe_2 : decode cL_eventPipe 2 = .ok (.aload_n 0, 1) := by decide +kernel
theorem dL_eventPipe_3 : decode cL_eventPipe 3 = .ok (.invokevirtual 125, 3) := by decide +kernel
theorem dL_eventPipe_6 : decode cL_eventPipe 6 = .ok (.i2l, 1) := by decide +kernel
theorem dL_eventPipe_7 : decode cL_eventPipe 7 = .ok (.lastore, 1) := by decide +kernel
theorem dL_eventPipe_8 : decode cL_eventPipe 8 = .ok (.goto 6, 3) := by decide +kernel
theorem dL_eventPipe_11 : decode cL_eventPipe 11 = .ok (.astore_n 2, 1) := by decide +kernel
theorem dL_eventPipe_12 : decode cL_eventPipe 12 = .ok (.iconst 1, 1) := by decide +kernel
theorem dL_eventPipe_13 : decode cL_eventPipe 13 = .ok (.ireturn, 1) := by decide +kernel
theorem dL_eventPipe_14 : decode cL_eventPipe 14 = .ok (.iconst 0, 1) := by decide +kernel
theorem dL_eventPipe_15 : decode cL_eventPipe 15 = .ok (.ireturn, 1) := by decide +kernel
set_option maxRecDepth 100000 in
set_option maxHeartbeats 4000000 in
theorem w_eventPipe (l : Launch) (D : va_G) (cy : Nat → ClassId) (hst : l.stackTraces = false) {ad τ : List Nat} {w : va_W} (sz oa : Nat) (f : Nat → Int64) (hs : vi_s1 vSG τ) (ht : vi_tw vK cy (fun _ => True) ad τ w) {x0 q0 : Nat} (hr0 : τ[q0]? = some 0) (hr1 : ad[q0]? = some x0) : vw_M l D cy vK ad τ oa f w sz q_Hubcascade_eventPipe_0.2.2.2.1 yL_eventPipe (Cond.codeWith yL_eventPipe cL_eventPipe 3 (some .int) [(0, 8, 11, 56)] :: lWall) 7 1 110 [.ref x0, .ref oa] := by
  refine wr_ofW (cc := cL_eventPipe) (maxL := 3) (ret := (some .int)) (hh := [(0, 8, 11, 56)]) (lv := [(0, .ref x0), (1, .ref oa)]) (by decide) rfl (Nat.le_of_ble_eq_true rfl) rfl ?_
  intro p e s m below meth c ls hx hb hr hml hown hlocks htab hts hv hl
  have hown : s.vm.findClass RL = some m.cls := hown
  obtain ⟨⟨⟨hsz, hP, hD0⟩, hK, hN⟩, hT⟩ := hv
  subst hsz
  have hD := hD0.self (sz := s.heap.size)
  generalize hAe : va_A ((oa, .inl (cy 2, 1, .inr (.inl f))) :: w) s.heap.size = A at hD hT ⊢
  have hA : ∀ q : Nat, s.heap.size ≤ q → A q := fun q h => by rw [← hAe]; exact Or.inr h
  have hS : va_S A s.heap s.heap [] := va_S.rf
  have hP : va_P D vwCl ([(oa, .inl (cy 2, 1, .inr (.inl f)))] ++ w) s.heap := hP
  have hD : va_D A ([(oa, .inl (cy 2, 1, .inr (.inl f)))] ++ w) := hD
  have S : CallFix p m c cL_eventPipe 3 s _ (_ :: lWall) RL := ⟨hx, hb, hml, hown, hts⟩
  refine lv_aload_n hx hb dL_eventPipe_0 rfl (lv_at hl 1 rfl) ?_
  refine lv_iconst (v := 0) hx hb dL_eventPipe_1 (by decide) ?_
  refine lv_aload_n hx hb dL_eventPipe_2 rfl (lv_at hl 0 rfl) ?_
  refine vi_catchV (wr := [(oa, .inl (cy 2, 1, .inr (.inl f)))]) (av := [.ref x0]) (rest := [.int 0, .ref oa]) S (m_Hubcascade_eventPipe_0 l D cy hst) (cwV 0 S.2.2.2.2 (lgV (lm_ _ (List.mem_of_getElem? (i := 134) rfl)) (lm_ _ (List.mem_of_getElem? (i := 135) rfl)) (lm_ _ (List.mem_of_getElem? (i := 136) rfl)) (lv_ _ (vm_4 _ (List.mem_of_getElem? (i := 20) rfl))) (lv_ _ (vm_10 _ (List.mem_of_getElem? (i := 20) rfl)))) rfl rfl rfl ⟨rfl, by decide, by decide, by decide +kernel⟩ ⟨Nat.le_of_ble_eq_true rfl, Nat.le_of_ble_eq_true rfl⟩) rfl ⟨_, _, _, _, _, _, rfl, rfl, rfl, rfl⟩ hK hN hs hT hP hD hS hA ht rfl ?_ (fun f hf => by cases hf) hl.1 rfl (Nat.le_of_ble_eq_true rfl) dL_eventPipe_3 ⟨Nat.le_of_ble_eq_true rfl, Nat.le_of_ble_eq_true rfl⟩ ?_ ?_
  · exact vi_tys_ok (ad := ad) (τ := τ) (as := q_Hubcascade_eventPipe_0.1) ⟨Or.inr ⟨q0, x0, hr0, hr1, rfl⟩, True.intro⟩
  · refine List.forall_mem_cons.mpr ⟨⟨[], ⟨0, 8, 11, 56⟩, [], htab, (fun _ h => absurd h List.not_mem_nil), by decide, by decide, hts _ (List.mem_cons_of_mem _ (lm_ _ (List.mem_of_getElem? (i := 47) rfl))), va_Nw.use rfl (hT.2.2.1 "java/util/NoSuchElementException" (by decide)), fun qx H locs w1 hP hD hS ht hk => ?_⟩, ?_⟩
    · refine lv_astore_n (lv' := [(2, .ref qx), (0, .ref x0), (1, .ref oa)]) hx hb dL_eventPipe_11 rfl hl (by decide) rfl (fun ls hl => ?_)
      refine lv_iconst (v := 1) hx hb dL_eventPipe_12 (by decide) ?_
      exact W.iret hx hb hr (fun t ht9 _ => ⟨⟨_, w1, _, rfl, by rw [ht9]; exact hP, ht, hk⟩, hS.F ht9⟩) hS.2.2 dL_eventPipe_13
    exact fun q hq => by cases hq
  · intro alt halt H locs w1 v hP hD hS ht hk ha
    obtain ⟨y, rfl⟩ := vw_int (by decide +kernel) halt ha
    refine lv_i2l (v := y.toInt64) hx hb dL_eventPipe_6 rfl ?_
    refine va_last hx hb hK hP hD hS 0 2 rfl rfl (by unfold vp_in; decide) dL_eventPipe_7 (fun H locs hP hD hS => ?_)
    rw [my_upd0] at hP
    have hP : va_P D vwCl ((oa, .inl (cy 2, 1, .inr (.inl (vp_updL f 0 y.toInt64)))) :: w1) H := hP
    refine lv_goto (tgt := 14) hx hb dL_eventPipe_8 (by decide) ?_
    refine lv_iconst (v := 0) hx hb dL_eventPipe_14 (by decide) ?_
    exact W.iret hx hb hr (fun t ht9 _ => ⟨⟨_, w1, _, rfl, by rw [ht9]; exact hP, ht, hk⟩, hS.F ht9⟩) hS.2.2 dL_eventPipe_15

theorem dL_eventBytes_0 : decode cL_eventBytes 0 = .ok (.aload_n 1, 1) := by decide +kernel
theorem dL_eventBytes_1 : decode cL_eventBytes 1 = .ok (.iconst 0, 1) := by decide +kernel
theorem dL_eventBytes_2 : decode cL_eventBytes 2 = .ok (.aload_n 0, 1) := by decide +kernel
theorem dL_eventBytes_3 : decode cL_eventBytes 3 = .ok (.invokevirtual 128, 3) := by decide +kernel
theorem dL_eventBytes_6 : decode cL_eventBytes 6 = .ok (.i2l, 1) := by decide +kernel
theorem dL_eventBytes_7 : decode cL_eventBytes 7 = .ok (.lastore, 1) := by decide +kernel
theorem dL_eventBytes_8 : decode cL_eventBytes 8 = .ok (.goto 6, 3) := by decide +kernel
theorem dL_eventBytes_11 : decode cL_eventBytes 11 = .ok (.astore_n 2, 1) := by decide +kernel
theorem dL_eventBytes_12 : decode cL_eventBytes 12 = .ok (.iconst 1, 1) := by decide +kernel
theorem dL_eventBytes_13 : decode cL_eventBytes 13 = .ok (.ireturn, 1) := by decide +kernel
theorem dL_eventBytes_14 : decode cL_eventBytes 14 = .ok (.iconst 0, 1) := by decide +kernel
theorem dL_eventBytes_15 : decode cL_eventBytes 15 = .ok (.ireturn, 1) := by decide +kernel
set_option maxRecDepth 100000 in
set_option maxHeartbeats 4000000 in
theorem w_eventBytes (l : Launch) (D : va_G) (cy : Nat → ClassId) (hst : l.stackTraces = false) {ad τ : List Nat} {w : va_W} (sz oa : Nat) (f : Nat → Int64) (hs : vi_s1 vSG τ) (ht : vi_tw vK cy (fun _ => True) ad τ w) {x0 q0 : Nat} (hr0 : τ[q0]? = some 0) (hr1 : ad[q0]? = some x0) : vw_M l D cy vK ad τ oa f w sz q_Hubcascade_eventBytes_0.2.2.2.1 yL_eventBytes (Cond.codeWith yL_eventBytes cL_eventBytes 3 (some .int) [(0, 8, 11, 56)] :: lWall) 7 1 110 [.ref x0, .ref oa] := by
  refine wr_ofW (cc := cL_eventBytes) (maxL := 3) (ret := (some .int)) (hh := [(0, 8, 11, 56)]) (lv := [(0, .ref x0), (1, .ref oa)]) (by decide) rfl (Nat.le_of_ble_eq_true rfl) rfl ?_
  intro p e s m below meth c ls hx hb hr hml hown hlocks htab hts hv hl
  have hown : s.vm.findClass RL = some m.cls := hown
  obtain ⟨⟨⟨hsz, hP, hD0⟩, hK, hN⟩, hT⟩ := hv
  subst hsz
  have hD := hD0.self (sz := s.heap.size)
  generalize hAe : va_A ((oa, .inl (cy 2, 1, .inr (.inl f))) :: w) s.heap.size = A at hD hT ⊢
  have hA : ∀ q : Nat, s.heap.size ≤ q → A q := fun q h => by rw [← hAe]; exact Or.inr h
  have hS : va_S A s.heap s.heap [] := va_S.rf
  have hP : va_P D vwCl ([(oa, .inl (cy 2, 1, .inr (.inl f)))] ++ w) s.heap := hP
  have hD : va_D A ([(oa, .inl (cy 2, 1, .inr (.inl f)))] ++ w) := hD
  have S : CallFix p m c cL_eventBytes 3 s _ (_ :: lWall) RL := ⟨hx, hb, hml, hown, hts⟩
  refine lv_aload_n hx hb dL_eventBytes_0 rfl (lv_at hl 1 rfl) ?_
  refine lv_iconst (v := 0) hx hb dL_eventBytes_1 (by decide) ?_
  refine lv_aload_n hx hb dL_eventBytes_2 rfl (lv_at hl 0 rfl) ?_
  refine vi_catchV (wr := [(oa, .inl (cy 2, 1, .inr (.inl f)))]) (av := [.ref x0]) (rest := [.int 0, .ref oa]) S (m_Hubcascade_eventBytes_0 l D cy hst) (cwV 0 S.2.2.2.2 (lgV (lm_ _ (List.mem_of_getElem? (i := 137) rfl)) (lm_ _ (List.mem_of_getElem? (i := 138) rfl)) (lm_ _ (List.mem_of_getElem? (i := 139) rfl)) (lv_ _ (vm_4 _ (List.mem_of_getElem? (i := 20) rfl))) (lv_ _ (vm_10 _ (List.mem_of_getElem? (i := 21) rfl)))) rfl rfl rfl ⟨rfl, by decide, by decide, by decide +kernel⟩ ⟨Nat.le_of_ble_eq_true rfl, Nat.le_of_ble_eq_true rfl⟩) rfl ⟨_, _, _, _, _, _, rfl, rfl, rfl, rfl⟩ hK hN hs hT hP hD hS hA ht rfl ?_ (fun f hf => by cases hf) hl.1 rfl (Nat.le_of_ble_eq_true rfl) dL_eventBytes_3 ⟨Nat.le_of_ble_eq_true rfl, Nat.le_of_ble_eq_true rfl⟩ ?_ ?_
  · exact vi_tys_ok (ad := ad) (τ := τ) (as := q_Hubcascade_eventBytes_0.1) ⟨Or.inr ⟨q0, x0, hr0, hr1, rfl⟩, True.intro⟩
  · refine List.forall_mem_cons.mpr ⟨⟨[], ⟨0, 8, 11, 56⟩, [], htab, (fun _ h => absurd h List.not_mem_nil), by decide, by decide, hts _ (List.mem_cons_of_mem _ (lm_ _ (List.mem_of_getElem? (i := 47) rfl))), va_Nw.use rfl (hT.2.2.1 "java/util/NoSuchElementException" (by decide)), fun qx H locs w1 hP hD hS ht hk => ?_⟩, ?_⟩
    · refine lv_astore_n (lv' := [(2, .ref qx), (0, .ref x0), (1, .ref oa)]) hx hb dL_eventBytes_11 rfl hl (by decide) rfl (fun ls hl => ?_)
      refine lv_iconst (v := 1) hx hb dL_eventBytes_12 (by decide) ?_
      exact W.iret hx hb hr (fun t ht9 _ => ⟨⟨_, w1, _, rfl, by rw [ht9]; exact hP, ht, hk⟩, hS.F ht9⟩) hS.2.2 dL_eventBytes_13
    exact fun q hq => by cases hq
  · intro alt halt H locs w1 v hP hD hS ht hk ha
    obtain ⟨y, rfl⟩ := vw_int (by decide +kernel) halt ha
    refine lv_i2l (v := y.toInt64) hx hb dL_eventBytes_6 rfl ?_
    refine va_last hx hb hK hP hD hS 0 2 rfl rfl (by unfold vp_in; decide) dL_eventBytes_7 (fun H locs hP hD hS => ?_)
    rw [my_upd0] at hP
    have hP : va_P D vwCl ((oa, .inl (cy 2, 1, .inr (.inl (vp_updL f 0 y.toInt64)))) :: w1) H := hP
    refine lv_goto (tgt := 14) hx hb dL_eventBytes_8 (by decide) ?_
    refine lv_iconst (v := 0) hx hb dL_eventBytes_14 (by decide) ?_
    exact W.iret hx hb hr (fun t ht9 _ => ⟨⟨_, w1, _, rfl, by rw [ht9]; exact hP, ht, hk⟩, hS.F ht9⟩) hS.2.2 dL_eventBytes_15

theorem dL_taken_0 : decode cL_taken 0 = .ok (.aload_n 3, 1) := by decide +kernel
theorem dL_taken_1 : decode cL_taken 1 = .ok (.iconst 0, 1) := by decide +kernel
theorem dL_taken_2 : decode cL_taken 2 = .ok (.aload_n 0, 1) := by decide +kernel
theorem dL_taken_3 : decode cL_taken 3 = .ok (.iload_n 1, 1) := by decide +kernel
theorem dL_taken_4 : decode cL_taken 4 = .ok (.iload_n 2, 1) := by decide +kernel
theorem dL_taken_5 : decode cL_taken 5 = .ok (.invokevirtual 131, 3) := by decide +kernel
theorem dL_taken_8 : decode cL_taken 8 = .ok (.i2l, 1) := by decide +kernel
theorem dL_taken_9 : decode cL_taken 9 = .ok (.lastore, 1) := by decide +kernel
theorem dL_taken_10 : decode cL_taken 10 = .ok (.goto 11, 3) := by decide +kernel
theorem dL_taken_13 : decode cL_taken 13 = .ok (.astore 4, 2) := by decide +kernel
theorem dL_taken_15 : decode cL_taken 15 = .ok (.iconst 1, 1) := by decide +kernel
theorem dL_taken_16 : decode cL_taken 16 = .ok (.ireturn, 1) := by decide +kernel
theorem dL_taken_17 : decode cL_taken 17 = .ok (.astore 4, 2) := by decide +kernel
theorem dL_taken_19 : decode cL_taken 19 = .ok (.iconst 2, 1) := by decide +kernel
theorem dL_taken_20 : decode cL_taken 20 = .ok (.ireturn, 1) := by decide +kernel
theorem dL_taken_21 : decode cL_taken 21 = .ok (.iconst 0, 1) := by decide +kernel
theorem dL_taken_22 : decode cL_taken 22 = .ok (.ireturn, 1) := by decide +kernel
set_option maxRecDepth 100000 in
set_option maxHeartbeats 4000000 in
theorem w_taken (l : Launch) (D : va_G) (cy : Nat → ClassId) (hst : l.stackTraces = false) {ad τ : List Nat} {w : va_W} (sz oa : Nat) (f : Nat → Int64) (hs : vi_s1 vSG τ) (ht : vi_tw vK cy (fun _ => True) ad τ w) {x0 q0 : Nat} (hr0 : τ[q0]? = some 0) (hr1 : ad[q0]? = some x0) (x1 : Int32) (x2 : Int32) : vw_M l D cy vK ad τ oa f w sz q_Hubcascade_taken_0.2.2.2.1 yL_taken (Cond.codeWith yL_taken cL_taken 5 (some .int) [(0, 10, 13, 21), (0, 10, 17, 23)] :: lWall) 9 3 156 [.ref x0, .int x1, .int x2, .ref oa] := by
  refine wr_ofW (cc := cL_taken) (maxL := 5) (ret := (some .int)) (hh := [(0, 10, 13, 21), (0, 10, 17, 23)]) (lv := [(0, .ref x0), (1, .int x1), (2, .int x2), (3, .ref oa)]) (by decide) rfl (Nat.le_of_ble_eq_true rfl) rfl ?_
  intro p e s m below meth c ls hx hb hr hml hown hlocks htab hts hv hl
  have hown : s.vm.findClass RL = some m.cls := hown
  obtain ⟨⟨⟨hsz, hP, hD0⟩, hK, hN⟩, hT⟩ := hv
  subst hsz
  have hD := hD0.self (sz := s.heap.size)
  generalize hAe : va_A ((oa, .inl (cy 2, 1, .inr (.inl f))) :: w) s.heap.size = A at hD hT ⊢
  have hA : ∀ q : Nat, s.heap.size ≤ q → A q := fun q h => by rw [← hAe]; exact Or.inr h
  have hS : va_S A s.heap s.heap [] := va_S.rf
  have hP : va_P D vwCl ([(oa, .inl (cy 2, 1, .inr (.inl f)))] ++ w) s.heap := hP
  have hD : va_D A ([(oa, .inl (cy 2, 1, .inr (.inl f)))] ++ w) := hD
  have S : CallFix p m c cL_taken 5 s _ (_ :: lWall) RL := ⟨hx, hb, hml, hown, hts⟩
  refine lv_aload_n hx hb dL_taken_0 rfl (lv_at hl 3 rfl) ?_
  refine lv_iconst (v := 0) hx hb dL_taken_1 (by decide) ?_
  refine lv_aload_n hx hb dL_taken_2 rfl (lv_at hl 0 rfl) ?_
  refine lv_iload_n hx hb dL_taken_3 rfl (lv_at hl 1 rfl) ?_
  refine lv_iload_n hx hb dL_taken_4 rfl (lv_at hl 2 rfl) ?_
  refine vi_catchV (wr := [(oa, .inl (cy 2, 1, .inr (.inl f)))]) (av := [.ref x0, .int x1, .int x2]) (rest := [.int 0, .ref oa]) S (m_Hubcascade_taken_0 l D cy hst) (cwV 2 S.2.2.2.2 (lgV (lm_ _ (List.mem_of_getElem? (i := 140) rfl)) (lm_ _ (List.mem_of_getElem? (i := 141) rfl)) (lm_ _ (List.mem_of_getElem? (i := 142) rfl)) (lv_ _ (vm_4 _ (List.mem_of_getElem? (i := 20) rfl))) (lv_ _ (vm_10 _ (List.mem_of_getElem? (i := 24) rfl)))) rfl rfl rfl ⟨rfl, by decide, by decide, by decide +kernel⟩ ⟨Nat.le_of_ble_eq_true rfl, Nat.le_of_ble_eq_true rfl⟩) rfl ⟨_, _, _, _, _, _, rfl, rfl, rfl, rfl⟩ hK hN hs hT hP hD hS hA ht rfl ?_ (fun f hf => by cases hf) hl.1 rfl (Nat.le_of_ble_eq_true rfl) dL_taken_5 ⟨Nat.le_of_ble_eq_true rfl, Nat.le_of_ble_eq_true rfl⟩ ?_ ?_
  · exact vi_tys_ok (ad := ad) (τ := τ) (as := q_Hubcascade_taken_0.1) ⟨Or.inr ⟨q0, x0, hr0, hr1, rfl⟩, vi_okI x1, vi_okI x2, True.intro⟩
  · refine List.forall_mem_cons.mpr ⟨⟨[], ⟨0, 10, 13, 21⟩, [⟨0, 10, 17, 23⟩], htab, (fun _ h => absurd h List.not_mem_nil), by decide, by decide, hts _ (List.mem_cons_of_mem _ (lm_ _ (List.mem_of_getElem? (i := 5) rfl))), va_Nw.use rfl (hT.2.2.1 "java/lang/IndexOutOfBoundsException" (by decide)), fun qx H locs w1 hP hD hS ht hk => ?_⟩, ?_⟩
    · refine lv_astore (lv' := [(4, .ref qx), (0, .ref x0), (1, .int x1), (2, .int x2), (3, .ref oa)]) hx hb dL_taken_13 hl (by decide) rfl (fun ls hl => ?_)
      refine lv_iconst (v := 1) hx hb dL_taken_15 (by decide) ?_
      exact W.iret hx hb hr (fun t ht9 _ => ⟨⟨_, w1, _, rfl, by rw [ht9]; exact hP, ht, hk⟩, hS.F ht9⟩) hS.2.2 dL_taken_16
    refine List.forall_mem_cons.mpr ⟨⟨[⟨0, 10, 13, 21⟩], ⟨0, 10, 17, 23⟩, [], htab, (by intro z hz; simp only [List.mem_cons, List.not_mem_nil, or_false] at hz; subst hz; exact Or.inr ⟨by decide, "java/lang/IndexOutOfBoundsException", hts _ (List.mem_cons_of_mem _ (lm_ _ (List.mem_of_getElem? (i := 5) rfl))), hT.2.2.2.2 "java/lang/UnsupportedOperationException" (by decide) "java/lang/IndexOutOfBoundsException" (by decide) (by decide)⟩), by decide, by decide, hts _ (List.mem_cons_of_mem _ (lm_ _ (List.mem_of_getElem? (i := 171) rfl))), va_Nw.use rfl (hT.2.2.1 "java/lang/UnsupportedOperationException" (by decide)), fun qx H locs w1 hP hD hS ht hk => ?_⟩, ?_⟩
    · refine lv_astore (lv' := [(4, .ref qx), (0, .ref x0), (1, .int x1), (2, .int x2), (3, .ref oa)]) hx hb dL_taken_17 hl (by decide) rfl (fun ls hl => ?_)
      refine lv_iconst (v := 2) hx hb dL_taken_19 (by decide) ?_
      exact W.iret hx hb hr (fun t ht9 _ => ⟨⟨_, w1, _, rfl, by rw [ht9]; exact hP, ht, hk⟩, hS.F ht9⟩) hS.2.2 dL_taken_20
    exact fun q hq => by cases hq
  · intro alt halt H locs w1 v hP hD hS ht hk ha
    obtain ⟨y, rfl⟩ := vw_int (by decide +kernel) halt ha
    refine lv_i2l (v := y.toInt64) hx hb dL_taken_8 rfl ?_
    refine va_last hx hb hK hP hD hS 0 2 rfl rfl (by unfold vp_in; decide) dL_taken_9 (fun H locs hP hD hS => ?_)
    rw [my_upd0] at hP
    have hP : va_P D vwCl ((oa, .inl (cy 2, 1, .inr (.inl (vp_updL f 0 y.toInt64)))) :: w1) H := hP
    refine lv_goto (tgt := 21) hx hb dL_taken_10 (by decide) ?_
    refine lv_iconst (v := 0) hx hb dL_taken_21 (by decide) ?_
    exact W.iret hx hb hr (fun t ht9 _ => ⟨⟨_, w1, _, rfl, by rw [ht9]; exact hP, ht, hk⟩, hS.F ht9⟩) hS.2.2 dL_taken_22

theorem dL_takenAt_0 : decode cL_takenAt 0 = .ok (.aload 4, 2) := by decide +kernel
theorem dL_takenAt_2 : decode cL_takenAt 2 = .ok (.iconst 0, 1) := by decide +kernel
theorem dL_takenAt_3 : decode cL_takenAt 3 = .ok (.aload_n 0, 1) := by decide +kernel
theorem dL_takenAt_4 : decode cL_takenAt 4 = .ok (.iload_n 1, 1) := by decide +kernel
theorem dL_takenAt_5 : decode cL_takenAt 5 = .ok (.iload_n 2, 1) := by decide +kernel
theorem dL_takenAt_6 : decode cL_takenAt 6 = .ok (.iload_n 3, 1) := by decide +kernel
theorem dL_takenAt_7 : decode cL_takenAt 7 = .ok (.invokevirtual 134, 3) := by decide +kernel
theorem dL_takenAt_10 : decode cL_takenAt 10 = .ok (.i2l, 1) := by decide +kernel
theorem dL_takenAt_11 : decode cL_takenAt 11 = .ok (.lastore, 1) := by decide +kernel
theorem dL_takenAt_12 : decode cL_takenAt 12 = .ok (.goto 15, 3) := by decide +kernel
theorem dL_takenAt_15 : decode cL_takenAt 15 = .ok (.astore 5, 2) := by decide +kernel
theorem dL_takenAt_17 : decode cL_takenAt 17 = .ok (.iconst 1, 1) := by decide +kernel
theorem dL_takenAt_18 : decode cL_takenAt 18 = .ok (.ireturn, 1) := by decide +kernel
theorem dL_takenAt_19 : decode cL_takenAt 19 = .ok (.astore 5, 2) := by decide +kernel
theorem dL_takenAt_21 : decode cL_takenAt 21 = .ok (.iconst 2, 1) := by decide +kernel
theorem dL_takenAt_22 : decode cL_takenAt 22 = .ok (.ireturn, 1) := by decide +kernel
theorem dL_takenAt_23 : decode cL_takenAt 23 = .ok (.astore 5, 2) := by decide +kernel
theorem dL_takenAt_25 : decode cL_takenAt 25 = .ok (.iconst 3, 1) := by decide +kernel
theorem dL_takenAt_26 : decode cL_takenAt 26 = .ok (.ireturn, 1) := by decide +kernel
theorem dL_takenAt_27 : decode cL_takenAt 27 = .ok (.iconst 0, 1) := by decide +kernel
theorem dL_takenAt_28 : decode cL_takenAt 28 = .ok (.ireturn, 1) := by decide +kernel
set_option maxRecDepth 100000 in
set_option maxHeartbeats 4000000 in
theorem w_takenAt (l : Launch) (D : va_G) (cy : Nat → ClassId) (hst : l.stackTraces = false) {ad τ : List Nat} {w : va_W} (sz oa : Nat) (f : Nat → Int64) (hs : vi_s1 vSG τ) (ht : vi_tw vK cy (fun _ => True) ad τ w) {x0 q0 : Nat} (hr0 : τ[q0]? = some 0) (hr1 : ad[q0]? = some x0) (x1 : Int32) (x2 : Int32) (x3 : Int32) : vw_M l D cy vK ad τ oa f w sz q_Hubcascade_takenAt_0.2.2.2.1 yL_takenAt (Cond.codeWith yL_takenAt cL_takenAt 6 (some .int) [(0, 12, 15, 21), (0, 12, 19, 23), (0, 12, 23, 56)] :: lWall) 9 4 157 [.ref x0, .int x1, .int x2, .int x3, .ref oa] := by
  refine wr_ofW (cc := cL_takenAt) (maxL := 6) (ret := (some .int)) (hh := [(0, 12, 15, 21), (0, 12, 19, 23), (0, 12, 23, 56)]) (lv := [(0, .ref x0), (1, .int x1), (2, .int x2), (3, .int x3), (4, .ref oa)]) (by decide) rfl (Nat.le_of_ble_eq_true rfl) rfl ?_
  intro p e s m below meth c ls hx hb hr hml hown hlocks htab hts hv hl
  have hown : s.vm.findClass RL = some m.cls := hown
  obtain ⟨⟨⟨hsz, hP, hD0⟩, hK, hN⟩, hT⟩ := hv
  subst hsz
  have hD := hD0.self (sz := s.heap.size)
  generalize hAe : va_A ((oa, .inl (cy 2, 1, .inr (.inl f))) :: w) s.heap.size = A at hD hT ⊢
  have hA : ∀ q : Nat, s.heap.size ≤ q → A q := fun q h => by rw [← hAe]; exact Or.inr h
  have hS : va_S A s.heap s.heap [] := va_S.rf
  have hP : va_P D vwCl ([(oa, .inl (cy 2, 1, .inr (.inl f)))] ++ w) s.heap := hP
  have hD : va_D A ([(oa, .inl (cy 2, 1, .inr (.inl f)))] ++ w) := hD
  have S : CallFix p m c cL_takenAt 6 s _ (_ :: lWall) RL := ⟨hx, hb, hml, hown, hts⟩
  refine lv_aload hx hb dL_takenAt_0 (lv_at hl 4 rfl) ?_
  refine lv_iconst (v := 0) hx hb dL_takenAt_2 (by decide) ?_
  refine lv_aload_n hx hb dL_takenAt_3 rfl (lv_at hl 0 rfl) ?_
  refine lv_iload_n hx hb dL_takenAt_4 rfl (lv_at hl 1 rfl) ?_
  refine lv_iload_n hx hb dL_takenAt_5 rfl (lv_at hl 2 rfl) ?_
  refine lv_iload_n hx hb dL_takenAt_6 rfl (lv_at hl 3 rfl) ?_
  refine vi_catchV (wr := [(oa, .inl (cy 2, 1, .inr (.inl f)))]) (av := [.ref x0, .int x1, .int x2, .int x3]) (rest := [.int 0, .ref oa]) S (m_Hubcascade_takenAt_0 l D cy hst) (cwV 3 S.2.2.2.2 (lgV (lm_ _ (List.mem_of_getElem? (i := 145) rfl)) (lm_ _ (List.mem_of_getElem? (i := 146) rfl)) (lm_ _ (List.mem_of_getElem? (i := 147) rfl)) (lv_ _ (vm_4 _ (List.mem_of_getElem? (i := 20) rfl))) (lv_ _ (vm_10 _ (List.mem_of_getElem? (i := 31) rfl)))) rfl rfl rfl ⟨rfl, by decide, by decide, by decide +kernel⟩ ⟨Nat.le_of_ble_eq_true rfl, Nat.le_of_ble_eq_true rfl⟩) rfl ⟨_, _, _, _, _, _, rfl, rfl, rfl, rfl⟩ hK hN hs hT hP hD hS hA ht rfl ?_ (fun f hf => by cases hf) hl.1 rfl (Nat.le_of_ble_eq_true rfl) dL_takenAt_7 ⟨Nat.le_of_ble_eq_true rfl, Nat.le_of_ble_eq_true rfl⟩ ?_ ?_
  · exact vi_tys_ok (ad := ad) (τ := τ) (as := q_Hubcascade_takenAt_0.1) ⟨Or.inr ⟨q0, x0, hr0, hr1, rfl⟩, vi_okI x1, vi_okI x2, vi_okI x3, True.intro⟩
  · refine List.forall_mem_cons.mpr ⟨⟨[], ⟨0, 12, 15, 21⟩, [⟨0, 12, 19, 23⟩, ⟨0, 12, 23, 56⟩], htab, (fun _ h => absurd h List.not_mem_nil), by decide, by decide, hts _ (List.mem_cons_of_mem _ (lm_ _ (List.mem_of_getElem? (i := 5) rfl))), va_Nw.use rfl (hT.2.2.1 "java/lang/IndexOutOfBoundsException" (by decide)), fun qx H locs w1 hP hD hS ht hk => ?_⟩, ?_⟩
    · refine lv_astore (lv' := [(5, .ref qx), (0, .ref x0), (1, .int x1), (2, .int x2), (3, .int x3), (4, .ref oa)]) hx hb dL_takenAt_15 hl (by decide) rfl (fun ls hl => ?_)
      refine lv_iconst (v := 1) hx hb dL_takenAt_17 (by decide) ?_
      exact W.iret hx hb hr (fun t ht9 _ => ⟨⟨_, w1, _, rfl, by rw [ht9]; exact hP, ht, hk⟩, hS.F ht9⟩) hS.2.2 dL_takenAt_18
    refine List.forall_mem_cons.mpr ⟨⟨[⟨0, 12, 15, 21⟩], ⟨0, 12, 19, 23⟩, [⟨0, 12, 23, 56⟩], htab, (by intro z hz; simp only [List.mem_cons, List.not_mem_nil, or_false] at hz; subst hz; exact Or.inr ⟨by decide, "java/lang/IndexOutOfBoundsException", hts _ (List.mem_cons_of_mem _ (lm_ _ (List.mem_of_getElem? (i := 5) rfl))), hT.2.2.2.2 "java/lang/UnsupportedOperationException" (by decide) "java/lang/IndexOutOfBoundsException" (by decide) (by decide)⟩), by decide, by decide, hts _ (List.mem_cons_of_mem _ (lm_ _ (List.mem_of_getElem? (i := 171) rfl))), va_Nw.use rfl (hT.2.2.1 "java/lang/UnsupportedOperationException" (by decide)), fun qx H locs w1 hP hD hS ht hk => ?_⟩, ?_⟩
    · refine lv_astore (lv' := [(5, .ref qx), (0, .ref x0), (1, .int x1), (2, .int x2), (3, .int x3), (4, .ref oa)]) hx hb dL_takenAt_19 hl (by decide) rfl (fun ls hl => ?_)
      refine lv_iconst (v := 2) hx hb dL_takenAt_21 (by decide) ?_
      exact W.iret hx hb hr (fun t ht9 _ => ⟨⟨_, w1, _, rfl, by rw [ht9]; exact hP, ht, hk⟩, hS.F ht9⟩) hS.2.2 dL_takenAt_22
    refine List.forall_mem_cons.mpr ⟨⟨[⟨0, 12, 15, 21⟩, ⟨0, 12, 19, 23⟩], ⟨0, 12, 23, 56⟩, [], htab, (by intro z hz; simp only [List.mem_cons, List.not_mem_nil, or_false] at hz; rcases hz with rfl | rfl <;> first | exact Or.inr ⟨by decide, "java/lang/IndexOutOfBoundsException", hts _ (List.mem_cons_of_mem _ (lm_ _ (List.mem_of_getElem? (i := 5) rfl))), hT.2.2.2.2 "java/util/NoSuchElementException" (by decide) "java/lang/IndexOutOfBoundsException" (by decide) (by decide)⟩ | exact Or.inr ⟨by decide, "java/lang/UnsupportedOperationException", hts _ (List.mem_cons_of_mem _ (lm_ _ (List.mem_of_getElem? (i := 171) rfl))), hT.2.2.2.2 "java/util/NoSuchElementException" (by decide) "java/lang/UnsupportedOperationException" (by decide) (by decide)⟩), by decide, by decide, hts _ (List.mem_cons_of_mem _ (lm_ _ (List.mem_of_getElem? (i := 47) rfl))), va_Nw.use rfl (hT.2.2.1 "java/util/NoSuchElementException" (by decide)), fun qx H locs w1 hP hD hS ht hk => ?_⟩, ?_⟩
    · refine lv_astore (lv' := [(5, .ref qx), (0, .ref x0), (1, .int x1), (2, .int x2), (3, .int x3), (4, .ref oa)]) hx hb dL_takenAt_23 hl (by decide) rfl (fun ls hl => ?_)
      refine lv_iconst (v := 3) hx hb dL_takenAt_25 (by decide) ?_
      exact W.iret hx hb hr (fun t ht9 _ => ⟨⟨_, w1, _, rfl, by rw [ht9]; exact hP, ht, hk⟩, hS.F ht9⟩) hS.2.2 dL_takenAt_26
    exact fun q hq => by cases hq
  · intro alt halt H locs w1 v hP hD hS ht hk ha
    obtain ⟨y, rfl⟩ := vw_int (by decide +kernel) halt ha
    refine lv_i2l (v := y.toInt64) hx hb dL_takenAt_10 rfl ?_
    refine va_last hx hb hK hP hD hS 0 2 rfl rfl (by unfold vp_in; decide) dL_takenAt_11 (fun H locs hP hD hS => ?_)
    rw [my_upd0] at hP
    have hP : va_P D vwCl ((oa, .inl (cy 2, 1, .inr (.inl (vp_updL f 0 y.toInt64)))) :: w1) H := hP
    refine lv_goto (tgt := 27) hx hb dL_takenAt_12 (by decide) ?_
    refine lv_iconst (v := 0) hx hb dL_takenAt_27 (by decide) ?_
    exact W.iret hx hb hr (fun t ht9 _ => ⟨⟨_, w1, _, rfl, by rw [ht9]; exact hP, ht, hk⟩, hS.F ht9⟩) hS.2.2 dL_takenAt_28

theorem dL_waiting_0 : decode cL_waiting 0 = .ok (.aload_n 3, 1) := by decide +kernel
theorem dL_waiting_1 : decode cL_waiting 1 = .ok (.iconst 0, 1) := by decide +kernel
theorem dL_waiting_2 : decode cL_waiting 2 = .ok (.aload_n 0, 1) := by decide +kernel
theorem dL_waiting_3 : decode cL_waiting 3 = .ok (.iload_n 1, 1) := by decide +kernel
theorem dL_waiting_4 : decode cL_waiting 4 = .ok (.iload_n 2, 1) := by decide +kernel
theorem dL_waiting_5 : decode cL_waiting 5 = .ok (.invokevirtual 137, 3) := by decide +kernel
theorem dL_waiting_8 : decode cL_waiting 8 = .ok (.i2l, 1) := by decide +kernel
theorem dL_waiting_9 : decode cL_waiting 9 = .ok (.lastore, 1) := by decide +kernel
theorem dL_waiting_10 : decode cL_waiting 10 = .ok (.goto 11, 3) := by decide +kernel
theorem dL_waiting_13 : decode cL_waiting 13 = .ok (.astore 4, 2) := by decide +kernel
theorem dL_waiting_15 : decode cL_waiting 15 = .ok (.iconst 1, 1) := by decide +kernel
theorem dL_waiting_16 : decode cL_waiting 16 = .ok (.ireturn, 1) := by decide +kernel
theorem dL_waiting_17 : decode cL_waiting 17 = .ok (.astore 4, 2) := by decide +kernel
theorem dL_waiting_19 : decode cL_waiting 19 = .ok (.iconst 2, 1) := by decide +kernel
theorem dL_waiting_20 : decode cL_waiting 20 = .ok (.ireturn, 1) := by decide +kernel
theorem dL_waiting_21 : decode cL_waiting 21 = .ok (.iconst 0, 1) := by decide +kernel
theorem dL_waiting_22 : decode cL_waiting 22 = .ok (.ireturn, 1) := by decide +kernel
set_option maxRecDepth 100000 in
set_option maxHeartbeats 4000000 in
theorem w_waiting (l : Launch) (D : va_G) (cy : Nat → ClassId) (hst : l.stackTraces = false) {ad τ : List Nat} {w : va_W} (sz oa : Nat) (f : Nat → Int64) (hs : vi_s1 vSG τ) (ht : vi_tw vK cy (fun _ => True) ad τ w) {x0 q0 : Nat} (hr0 : τ[q0]? = some 0) (hr1 : ad[q0]? = some x0) (x1 : Int32) (x2 : Int32) : vw_M l D cy vK ad τ oa f w sz q_Hubcascade_waiting_0.2.2.2.1 yL_waiting (Cond.codeWith yL_waiting cL_waiting 5 (some .int) [(0, 10, 13, 21), (0, 10, 17, 23)] :: lWall) 8 3 134 [.ref x0, .int x1, .int x2, .ref oa] := by
  refine wr_ofW (cc := cL_waiting) (maxL := 5) (ret := (some .int)) (hh := [(0, 10, 13, 21), (0, 10, 17, 23)]) (lv := [(0, .ref x0), (1, .int x1), (2, .int x2), (3, .ref oa)]) (by decide) rfl (Nat.le_of_ble_eq_true rfl) rfl ?_
  intro p e s m below meth c ls hx hb hr hml hown hlocks htab hts hv hl
  have hown : s.vm.findClass RL = some m.cls := hown
  obtain ⟨⟨⟨hsz, hP, hD0⟩, hK, hN⟩, hT⟩ := hv
  subst hsz
  have hD := hD0.self (sz := s.heap.size)
  generalize hAe : va_A ((oa, .inl (cy 2, 1, .inr (.inl f))) :: w) s.heap.size = A at hD hT ⊢
  have hA : ∀ q : Nat, s.heap.size ≤ q → A q := fun q h => by rw [← hAe]; exact Or.inr h
  have hS : va_S A s.heap s.heap [] := va_S.rf
  have hP : va_P D vwCl ([(oa, .inl (cy 2, 1, .inr (.inl f)))] ++ w) s.heap := hP
  have hD : va_D A ([(oa, .inl (cy 2, 1, .inr (.inl f)))] ++ w) := hD
  have S : CallFix p m c cL_waiting 5 s _ (_ :: lWall) RL := ⟨hx, hb, hml, hown, hts⟩
  refine lv_aload_n hx hb dL_waiting_0 rfl (lv_at hl 3 rfl) ?_
  refine lv_iconst (v := 0) hx hb dL_waiting_1 (by decide) ?_
  refine lv_aload_n hx hb dL_waiting_2 rfl (lv_at hl 0 rfl) ?_
  refine lv_iload_n hx hb dL_waiting_3 rfl (lv_at hl 1 rfl) ?_
  refine lv_iload_n hx hb dL_waiting_4 rfl (lv_at hl 2 rfl) ?_
  refine vi_catchV (wr := [(oa, .inl (cy 2, 1, .inr (.inl f)))]) (av := [.ref x0, .int x1, .int x2]) (rest := [.int 0, .ref oa]) S (m_Hubcascade_waiting_0 l D cy hst) (cwV 2 S.2.2.2.2 (lgV (lm_ _ (List.mem_of_getElem? (i := 148) rfl)) (lm_ _ (List.mem_of_getElem? (i := 149) rfl)) (lm_ _ (List.mem_of_getElem? (i := 150) rfl)) (lv_ _ (vm_4 _ (List.mem_of_getElem? (i := 20) rfl))) (lv_ _ (vm_10 _ (List.mem_of_getElem? (i := 32) rfl)))) rfl rfl rfl ⟨rfl, by decide, by decide, by decide +kernel⟩ ⟨Nat.le_of_ble_eq_true rfl, Nat.le_of_ble_eq_true rfl⟩) rfl ⟨_, _, _, _, _, _, rfl, rfl, rfl, rfl⟩ hK hN hs hT hP hD hS hA ht rfl ?_ (fun f hf => by cases hf) hl.1 rfl (Nat.le_of_ble_eq_true rfl) dL_waiting_5 ⟨Nat.le_of_ble_eq_true rfl, Nat.le_of_ble_eq_true rfl⟩ ?_ ?_
  · exact vi_tys_ok (ad := ad) (τ := τ) (as := q_Hubcascade_waiting_0.1) ⟨Or.inr ⟨q0, x0, hr0, hr1, rfl⟩, vi_okI x1, vi_okI x2, True.intro⟩
  · refine List.forall_mem_cons.mpr ⟨⟨[], ⟨0, 10, 13, 21⟩, [⟨0, 10, 17, 23⟩], htab, (fun _ h => absurd h List.not_mem_nil), by decide, by decide, hts _ (List.mem_cons_of_mem _ (lm_ _ (List.mem_of_getElem? (i := 5) rfl))), va_Nw.use rfl (hT.2.2.1 "java/lang/IndexOutOfBoundsException" (by decide)), fun qx H locs w1 hP hD hS ht hk => ?_⟩, ?_⟩
    · refine lv_astore (lv' := [(4, .ref qx), (0, .ref x0), (1, .int x1), (2, .int x2), (3, .ref oa)]) hx hb dL_waiting_13 hl (by decide) rfl (fun ls hl => ?_)
      refine lv_iconst (v := 1) hx hb dL_waiting_15 (by decide) ?_
      exact W.iret hx hb hr (fun t ht9 _ => ⟨⟨_, w1, _, rfl, by rw [ht9]; exact hP, ht, hk⟩, hS.F ht9⟩) hS.2.2 dL_waiting_16
    refine List.forall_mem_cons.mpr ⟨⟨[⟨0, 10, 13, 21⟩], ⟨0, 10, 17, 23⟩, [], htab, (by intro z hz; simp only [List.mem_cons, List.not_mem_nil, or_false] at hz; subst hz; exact Or.inr ⟨by decide, "java/lang/IndexOutOfBoundsException", hts _ (List.mem_cons_of_mem _ (lm_ _ (List.mem_of_getElem? (i := 5) rfl))), hT.2.2.2.2 "java/lang/UnsupportedOperationException" (by decide) "java/lang/IndexOutOfBoundsException" (by decide) (by decide)⟩), by decide, by decide, hts _ (List.mem_cons_of_mem _ (lm_ _ (List.mem_of_getElem? (i := 171) rfl))), va_Nw.use rfl (hT.2.2.1 "java/lang/UnsupportedOperationException" (by decide)), fun qx H locs w1 hP hD hS ht hk => ?_⟩, ?_⟩
    · refine lv_astore (lv' := [(4, .ref qx), (0, .ref x0), (1, .int x1), (2, .int x2), (3, .ref oa)]) hx hb dL_waiting_17 hl (by decide) rfl (fun ls hl => ?_)
      refine lv_iconst (v := 2) hx hb dL_waiting_19 (by decide) ?_
      exact W.iret hx hb hr (fun t ht9 _ => ⟨⟨_, w1, _, rfl, by rw [ht9]; exact hP, ht, hk⟩, hS.F ht9⟩) hS.2.2 dL_waiting_20
    exact fun q hq => by cases hq
  · intro alt halt H locs w1 v hP hD hS ht hk ha
    obtain ⟨y, rfl⟩ := vw_int (by decide +kernel) halt ha
    refine lv_i2l (v := y.toInt64) hx hb dL_waiting_8 rfl ?_
    refine va_last hx hb hK hP hD hS 0 2 rfl rfl (by unfold vp_in; decide) dL_waiting_9 (fun H locs hP hD hS => ?_)
    rw [my_upd0] at hP
    have hP : va_P D vwCl ((oa, .inl (cy 2, 1, .inr (.inl (vp_updL f 0 y.toInt64)))) :: w1) H := hP
    refine lv_goto (tgt := 21) hx hb dL_waiting_10 (by decide) ?_
    refine lv_iconst (v := 0) hx hb dL_waiting_21 (by decide) ?_
    exact W.iret hx hb hr (fun t ht9 _ => ⟨⟨_, w1, _, rfl, by rw [ht9]; exact hP, ht, hk⟩, hS.F ht9⟩) hS.2.2 dL_waiting_22

theorem dL_gotAt_0 : decode cL_gotAt 0 = .ok (.aload_n 2, 1) := by decide +kernel
theorem dL_gotAt_1 : decode cL_gotAt 1 = .ok (.iconst 0, 1) := by decide +kernel
theorem dL_gotAt_2 : decode cL_gotAt 2 = .ok (.aload_n 0, 1) := by decide +kernel
theorem dL_gotAt_3 : decode cL_gotAt 3 = .ok (.iload_n 1, 1) := by decide +kernel
theorem dL_gotAt_4 : decode cL_gotAt 4 = .ok (.invokevirtual 140, 3) := by decide +kernel
theorem dL_gotAt_7 : decode cL_gotAt 7 = .ok (.i2l, 1) := by decide +kernel
theorem dL_gotAt_8 : decode cL_gotAt 8 = .ok (.lastore, 1) := by decide +kernel
theorem dL_gotAt_9 : decode cL_gotAt 9 = .ok (.goto 6, 3) := by decide +kernel
theorem dL_gotAt_12 : decode cL_gotAt 12 = .ok (.astore_n 3, 1) := by decide +kernel
theorem dL_gotAt_13 : decode cL_gotAt 13 = .ok (.iconst 1, 1) := by decide +kernel
theorem dL_gotAt_14 : decode cL_gotAt 14 = .ok (.ireturn, 1) := by decide +kernel
theorem dL_gotAt_15 : decode cL_gotAt 15 = .ok (.iconst 0, 1) := by decide +kernel
theorem dL_gotAt_16 : decode cL_gotAt 16 = .ok (.ireturn, 1) := by decide +kernel
set_option maxRecDepth 100000 in
set_option maxHeartbeats 4000000 in
theorem w_gotAt (l : Launch) (D : va_G) (cy : Nat → ClassId) (hst : l.stackTraces = false) {ad τ : List Nat} {w : va_W} (sz oa : Nat) (f : Nat → Int64) (hs : vi_s1 vSG τ) (ht : vi_tw vK cy (fun _ => True) ad τ w) {x0 q0 : Nat} (hr0 : τ[q0]? = some 0) (hr1 : ad[q0]? = some x0) (x1 : Int32) : vw_M l D cy vK ad τ oa f w sz q_Hubcascade_gotAt_0.2.2.2.1 yL_gotAt (Cond.codeWith yL_gotAt cL_gotAt 4 (some .int) [(0, 9, 12, 56)] :: lWall) 8 1 132 [.ref x0, .int x1, .ref oa] := by
  refine wr_ofW (cc := cL_gotAt) (maxL := 4) (ret := (some .int)) (hh := [(0, 9, 12, 56)]) (lv := [(0, .ref x0), (1, .int x1), (2, .ref oa)]) (by decide) rfl (Nat.le_of_ble_eq_true rfl) rfl ?_
  intro p e s m below meth c ls hx hb hr hml hown hlocks htab hts hv hl
  have hown : s.vm.findClass RL = some m.cls := hown
  obtain ⟨⟨⟨hsz, hP, hD0⟩, hK, hN⟩, hT⟩ := hv
  subst hsz
  have hD := hD0.self (sz := s.heap.size)
  generalize hAe : va_A ((oa, .inl (cy 2, 1, .inr (.inl f))) :: w) s.heap.size = A at hD hT ⊢
  have hA : ∀ q : Nat, s.heap.size ≤ q → A q := fun q h => by rw [← hAe]; exact Or.inr h
  have hS : va_S A s.heap s.heap [] := va_S.rf
  have hP : va_P D vwCl ([(oa, .inl (cy 2, 1, .inr (.inl f)))] ++ w) s.heap := hP
  have hD : va_D A ([(oa, .inl (cy 2, 1, .inr (.inl f)))] ++ w) := hD
  have S : CallFix p m c cL_gotAt 4 s _ (_ :: lWall) RL := ⟨hx, hb, hml, hown, hts⟩
  refine lv_aload_n hx hb dL_gotAt_0 rfl (lv_at hl 2 rfl) ?_
  refine lv_iconst (v := 0) hx hb dL_gotAt_1 (by decide) ?_
  refine lv_aload_n hx hb dL_gotAt_2 rfl (lv_at hl 0 rfl) ?_
  refine lv_iload_n hx hb dL_gotAt_3 rfl (lv_at hl 1 rfl) ?_
  refine vi_catchV (wr := [(oa, .inl (cy 2, 1, .inr (.inl f)))]) (av := [.ref x0, .int x1]) (rest := [.int 0, .ref oa]) S (m_Hubcascade_gotAt_0 l D cy hst) (cwV 1 S.2.2.2.2 (lgV (lm_ _ (List.mem_of_getElem? (i := 151) rfl)) (lm_ _ (List.mem_of_getElem? (i := 152) rfl)) (lm_ _ (List.mem_of_getElem? (i := 153) rfl)) (lv_ _ (vm_4 _ (List.mem_of_getElem? (i := 20) rfl))) (lv_ _ (vm_10 _ (List.mem_of_getElem? (i := 34) rfl)))) rfl rfl rfl ⟨rfl, by decide, by decide, by decide +kernel⟩ ⟨Nat.le_of_ble_eq_true rfl, Nat.le_of_ble_eq_true rfl⟩) rfl ⟨_, _, _, _, _, _, rfl, rfl, rfl, rfl⟩ hK hN hs hT hP hD hS hA ht rfl ?_ (fun f hf => by cases hf) hl.1 rfl (Nat.le_of_ble_eq_true rfl) dL_gotAt_4 ⟨Nat.le_of_ble_eq_true rfl, Nat.le_of_ble_eq_true rfl⟩ ?_ ?_
  · exact vi_tys_ok (ad := ad) (τ := τ) (as := q_Hubcascade_gotAt_0.1) ⟨Or.inr ⟨q0, x0, hr0, hr1, rfl⟩, vi_okI x1, True.intro⟩
  · refine List.forall_mem_cons.mpr ⟨⟨[], ⟨0, 9, 12, 56⟩, [], htab, (fun _ h => absurd h List.not_mem_nil), by decide, by decide, hts _ (List.mem_cons_of_mem _ (lm_ _ (List.mem_of_getElem? (i := 47) rfl))), va_Nw.use rfl (hT.2.2.1 "java/util/NoSuchElementException" (by decide)), fun qx H locs w1 hP hD hS ht hk => ?_⟩, ?_⟩
    · refine lv_astore_n (lv' := [(3, .ref qx), (0, .ref x0), (1, .int x1), (2, .ref oa)]) hx hb dL_gotAt_12 rfl hl (by decide) rfl (fun ls hl => ?_)
      refine lv_iconst (v := 1) hx hb dL_gotAt_13 (by decide) ?_
      exact W.iret hx hb hr (fun t ht9 _ => ⟨⟨_, w1, _, rfl, by rw [ht9]; exact hP, ht, hk⟩, hS.F ht9⟩) hS.2.2 dL_gotAt_14
    exact fun q hq => by cases hq
  · intro alt halt H locs w1 v hP hD hS ht hk ha
    obtain ⟨y, rfl⟩ := vw_int (by decide +kernel) halt ha
    refine lv_i2l (v := y.toInt64) hx hb dL_gotAt_7 rfl ?_
    refine va_last hx hb hK hP hD hS 0 2 rfl rfl (by unfold vp_in; decide) dL_gotAt_8 (fun H locs hP hD hS => ?_)
    rw [my_upd0] at hP
    have hP : va_P D vwCl ((oa, .inl (cy 2, 1, .inr (.inl (vp_updL f 0 y.toInt64)))) :: w1) H := hP
    refine lv_goto (tgt := 15) hx hb dL_gotAt_9 (by decide) ?_
    refine lv_iconst (v := 0) hx hb dL_gotAt_15 (by decide) ?_
    exact W.iret hx hb hr (fun t ht9 _ => ⟨⟨_, w1, _, rfl, by rw [ht9]; exact hP, ht, hk⟩, hS.F ht9⟩) hS.2.2 dL_gotAt_16

theorem dL_packets_0 : decode cL_packets 0 = .ok (.aload_n 2, 1) := by decide +kernel
theorem dL_packets_1 : decode cL_packets 1 = .ok (.iconst 0, 1) := by decide +kernel
theorem dL_packets_2 : decode cL_packets 2 = .ok (.aload_n 0, 1) := by decide +kernel
theorem dL_packets_3 : decode cL_packets 3 = .ok (.iload_n 1, 1) := by decide +kernel
theorem dL_packets_4 : decode cL_packets 4 = .ok (.invokevirtual 143, 3) := by decide +kernel
theorem dL_packets_7 : decode cL_packets 7 = .ok (.i2l, 1) := by decide +kernel
theorem dL_packets_8 : decode cL_packets 8 = .ok (.lastore, 1) := by decide +kernel
theorem dL_packets_9 : decode cL_packets 9 = .ok (.goto 6, 3) := by decide +kernel
theorem dL_packets_12 : decode cL_packets 12 = .ok (.astore_n 3, 1) := by decide +kernel
theorem dL_packets_13 : decode cL_packets 13 = .ok (.iconst 1, 1) := by decide +kernel
theorem dL_packets_14 : decode cL_packets 14 = .ok (.ireturn, 1) := by decide +kernel
theorem dL_packets_15 : decode cL_packets 15 = .ok (.iconst 0, 1) := by decide +kernel
theorem dL_packets_16 : decode cL_packets 16 = .ok (.ireturn, 1) := by decide +kernel
set_option maxRecDepth 100000 in
set_option maxHeartbeats 4000000 in
theorem w_packets (l : Launch) (D : va_G) (cy : Nat → ClassId) (hst : l.stackTraces = false) {ad τ : List Nat} {w : va_W} (sz oa : Nat) (f : Nat → Int64) (hs : vi_s1 vSG τ) (ht : vi_tw vK cy (fun _ => True) ad τ w) {x0 q0 : Nat} (hr0 : τ[q0]? = some 0) (hr1 : ad[q0]? = some x0) (x1 : Int32) (hx1 : 0 ≤ x1.toInt ∧ x1.toInt ≤ 65535) : vw_M l D cy vK ad τ oa f w sz q_Hubcascade_packets_0.2.2.2.1 yL_packets (Cond.codeWith yL_packets cL_packets 4 (some .int) [(0, 9, 12, 13)] :: lWall) 7 1 111 [.ref x0, .int x1, .ref oa] := by
  refine wr_ofW (cc := cL_packets) (maxL := 4) (ret := (some .int)) (hh := [(0, 9, 12, 13)]) (lv := [(0, .ref x0), (1, .int x1), (2, .ref oa)]) (by decide) rfl (Nat.le_of_ble_eq_true rfl) rfl ?_
  intro p e s m below meth c ls hx hb hr hml hown hlocks htab hts hv hl
  have hown : s.vm.findClass RL = some m.cls := hown
  obtain ⟨⟨⟨hsz, hP, hD0⟩, hK, hN⟩, hT⟩ := hv
  subst hsz
  have hD := hD0.self (sz := s.heap.size)
  generalize hAe : va_A ((oa, .inl (cy 2, 1, .inr (.inl f))) :: w) s.heap.size = A at hD hT ⊢
  have hA : ∀ q : Nat, s.heap.size ≤ q → A q := fun q h => by rw [← hAe]; exact Or.inr h
  have hS : va_S A s.heap s.heap [] := va_S.rf
  have hP : va_P D vwCl ([(oa, .inl (cy 2, 1, .inr (.inl f)))] ++ w) s.heap := hP
  have hD : va_D A ([(oa, .inl (cy 2, 1, .inr (.inl f)))] ++ w) := hD
  have S : CallFix p m c cL_packets 4 s _ (_ :: lWall) RL := ⟨hx, hb, hml, hown, hts⟩
  refine lv_aload_n hx hb dL_packets_0 rfl (lv_at hl 2 rfl) ?_
  refine lv_iconst (v := 0) hx hb dL_packets_1 (by decide) ?_
  refine lv_aload_n hx hb dL_packets_2 rfl (lv_at hl 0 rfl) ?_
  refine lv_iload_n hx hb dL_packets_3 rfl (lv_at hl 1 rfl) ?_
  refine vi_catchV (wr := [(oa, .inl (cy 2, 1, .inr (.inl f)))]) (av := [.ref x0, .int x1]) (rest := [.int 0, .ref oa]) S (m_Hubcascade_packets_0 l D cy hst) (cwV 1 S.2.2.2.2 (lgV (lm_ _ (List.mem_of_getElem? (i := 154) rfl)) (lm_ _ (List.mem_of_getElem? (i := 155) rfl)) (lm_ _ (List.mem_of_getElem? (i := 156) rfl)) (lv_ _ (vm_4 _ (List.mem_of_getElem? (i := 20) rfl))) (lv_ _ (vm_10 _ (List.mem_of_getElem? (i := 35) rfl)))) rfl rfl rfl ⟨rfl, by decide, by decide, by decide +kernel⟩ ⟨Nat.le_of_ble_eq_true rfl, Nat.le_of_ble_eq_true rfl⟩) rfl ⟨_, _, _, _, _, _, rfl, rfl, rfl, rfl⟩ hK hN hs hT hP hD hS hA ht rfl ?_ (fun f hf => by cases hf) hl.1 rfl (Nat.le_of_ble_eq_true rfl) dL_packets_4 ⟨Nat.le_of_ble_eq_true rfl, Nat.le_of_ble_eq_true rfl⟩ ?_ ?_
  · exact vi_tys_ok (ad := ad) (τ := τ) (as := q_Hubcascade_packets_0.1) ⟨Or.inr ⟨q0, x0, hr0, hr1, rfl⟩, ⟨x1, rfl, hx1⟩, True.intro⟩
  · refine List.forall_mem_cons.mpr ⟨⟨[], ⟨0, 9, 12, 13⟩, [], htab, (fun _ h => absurd h List.not_mem_nil), by decide, by decide, hts _ (List.mem_cons_of_mem _ (lm_ _ (List.mem_of_getElem? (i := 0) rfl))), va_Nw.use rfl (hT.2.2.1 "java/lang/IllegalArgumentException" (by decide)), fun qx H locs w1 hP hD hS ht hk => ?_⟩, ?_⟩
    · refine lv_astore_n (lv' := [(3, .ref qx), (0, .ref x0), (1, .int x1), (2, .ref oa)]) hx hb dL_packets_12 rfl hl (by decide) rfl (fun ls hl => ?_)
      refine lv_iconst (v := 1) hx hb dL_packets_13 (by decide) ?_
      exact W.iret hx hb hr (fun t ht9 _ => ⟨⟨_, w1, _, rfl, by rw [ht9]; exact hP, ht, hk⟩, hS.F ht9⟩) hS.2.2 dL_packets_14
    exact fun q hq => by cases hq
  · intro alt halt H locs w1 v hP hD hS ht hk ha
    obtain ⟨y, rfl⟩ := vw_int (by decide +kernel) halt ha
    refine lv_i2l (v := y.toInt64) hx hb dL_packets_7 rfl ?_
    refine va_last hx hb hK hP hD hS 0 2 rfl rfl (by unfold vp_in; decide) dL_packets_8 (fun H locs hP hD hS => ?_)
    rw [my_upd0] at hP
    have hP : va_P D vwCl ((oa, .inl (cy 2, 1, .inr (.inl (vp_updL f 0 y.toInt64)))) :: w1) H := hP
    refine lv_goto (tgt := 15) hx hb dL_packets_9 (by decide) ?_
    refine lv_iconst (v := 0) hx hb dL_packets_15 (by decide) ?_
    exact W.iret hx hb hr (fun t ht9 _ => ⟨⟨_, w1, _, rfl, by rw [ht9]; exact hP, ht, hk⟩, hS.F ht9⟩) hS.2.2 dL_packets_16

theorem dL_blame_0 : decode cL_blame 0 = .ok (.aload_n 2, 1) := by decide +kernel
theorem dL_blame_1 : decode cL_blame 1 = .ok (.iconst 0, 1) := by decide +kernel
theorem dL_blame_2 : decode cL_blame 2 = .ok (.aload_n 0, 1) := by decide +kernel
theorem dL_blame_3 : decode cL_blame 3 = .ok (.iload_n 1, 1) := by decide +kernel
theorem dL_blame_4 : decode cL_blame 4 = .ok (.invokevirtual 147, 3) := by decide +kernel
theorem dL_blame_7 : decode cL_blame 7 = .ok (.i2l, 1) := by decide +kernel
theorem dL_blame_8 : decode cL_blame 8 = .ok (.lastore, 1) := by decide +kernel
theorem dL_blame_9 : decode cL_blame 9 = .ok (.goto 6, 3) := by decide +kernel
theorem dL_blame_12 : decode cL_blame 12 = .ok (.astore_n 3, 1) := by decide +kernel
theorem dL_blame_13 : decode cL_blame 13 = .ok (.iconst 1, 1) := by decide +kernel
theorem dL_blame_14 : decode cL_blame 14 = .ok (.ireturn, 1) := by decide +kernel
theorem dL_blame_15 : decode cL_blame 15 = .ok (.iconst 0, 1) := by decide +kernel
theorem dL_blame_16 : decode cL_blame 16 = .ok (.ireturn, 1) := by decide +kernel
set_option maxRecDepth 100000 in
set_option maxHeartbeats 4000000 in
theorem w_blame (l : Launch) (D : va_G) (cy : Nat → ClassId) (hst : l.stackTraces = false) {ad τ : List Nat} {w : va_W} (sz oa : Nat) (f : Nat → Int64) (hs : vi_s1 vSG τ) (ht : vi_tw vK cy (fun _ => True) ad τ w) {x0 q0 : Nat} (hr0 : τ[q0]? = some 0) (hr1 : ad[q0]? = some x0) (x1 : Int32) : vw_M l D cy vK ad τ oa f w sz q_Hubcascade_blame_0.2.2.2.1 yL_blame (Cond.codeWith yL_blame cL_blame 4 (some .int) [(0, 9, 12, 21)] :: lWall) 8 1 132 [.ref x0, .int x1, .ref oa] := by
  refine wr_ofW (cc := cL_blame) (maxL := 4) (ret := (some .int)) (hh := [(0, 9, 12, 21)]) (lv := [(0, .ref x0), (1, .int x1), (2, .ref oa)]) (by decide) rfl (Nat.le_of_ble_eq_true rfl) rfl ?_
  intro p e s m below meth c ls hx hb hr hml hown hlocks htab hts hv hl
  have hown : s.vm.findClass RL = some m.cls := hown
  obtain ⟨⟨⟨hsz, hP, hD0⟩, hK, hN⟩, hT⟩ := hv
  subst hsz
  have hD := hD0.self (sz := s.heap.size)
  generalize hAe : va_A ((oa, .inl (cy 2, 1, .inr (.inl f))) :: w) s.heap.size = A at hD hT ⊢
  have hA : ∀ q : Nat, s.heap.size ≤ q → A q := fun q h => by rw [← hAe]; exact Or.inr h
  have hS : va_S A s.heap s.heap [] := va_S.rf
  have hP : va_P D vwCl ([(oa, .inl (cy 2, 1, .inr (.inl f)))] ++ w) s.heap := hP
  have hD : va_D A ([(oa, .inl (cy 2, 1, .inr (.inl f)))] ++ w) := hD
  have S : CallFix p m c cL_blame 4 s _ (_ :: lWall) RL := ⟨hx, hb, hml, hown, hts⟩
  refine lv_aload_n hx hb dL_blame_0 rfl (lv_at hl 2 rfl) ?_
  refine lv_iconst (v := 0) hx hb dL_blame_1 (by decide) ?_
  refine lv_aload_n hx hb dL_blame_2 rfl (lv_at hl 0 rfl) ?_
  refine lv_iload_n hx hb dL_blame_3 rfl (lv_at hl 1 rfl) ?_
  refine vi_catchV (wr := [(oa, .inl (cy 2, 1, .inr (.inl f)))]) (av := [.ref x0, .int x1]) (rest := [.int 0, .ref oa]) S (m_Hubcascade_blame_0 l D cy hst) (cwV 1 S.2.2.2.2 (lgV (lm_ _ (List.mem_of_getElem? (i := 157) rfl)) (lm_ _ (List.mem_of_getElem? (i := 158) rfl)) (lm_ _ (List.mem_of_getElem? (i := 159) rfl)) (lv_ _ (vm_4 _ (List.mem_of_getElem? (i := 20) rfl))) (lv_ _ (vm_10 _ (List.mem_of_getElem? (i := 36) rfl)))) rfl rfl rfl ⟨rfl, by decide, by decide, by decide +kernel⟩ ⟨Nat.le_of_ble_eq_true rfl, Nat.le_of_ble_eq_true rfl⟩) rfl ⟨_, _, _, _, _, _, rfl, rfl, rfl, rfl⟩ hK hN hs hT hP hD hS hA ht rfl ?_ (fun f hf => by cases hf) hl.1 rfl (Nat.le_of_ble_eq_true rfl) dL_blame_4 ⟨Nat.le_of_ble_eq_true rfl, Nat.le_of_ble_eq_true rfl⟩ ?_ ?_
  · exact vi_tys_ok (ad := ad) (τ := τ) (as := q_Hubcascade_blame_0.1) ⟨Or.inr ⟨q0, x0, hr0, hr1, rfl⟩, vi_okI x1, True.intro⟩
  · refine List.forall_mem_cons.mpr ⟨⟨[], ⟨0, 9, 12, 21⟩, [], htab, (fun _ h => absurd h List.not_mem_nil), by decide, by decide, hts _ (List.mem_cons_of_mem _ (lm_ _ (List.mem_of_getElem? (i := 5) rfl))), va_Nw.use rfl (hT.2.2.1 "java/lang/IndexOutOfBoundsException" (by decide)), fun qx H locs w1 hP hD hS ht hk => ?_⟩, ?_⟩
    · refine lv_astore_n (lv' := [(3, .ref qx), (0, .ref x0), (1, .int x1), (2, .ref oa)]) hx hb dL_blame_12 rfl hl (by decide) rfl (fun ls hl => ?_)
      refine lv_iconst (v := 1) hx hb dL_blame_13 (by decide) ?_
      exact W.iret hx hb hr (fun t ht9 _ => ⟨⟨_, w1, _, rfl, by rw [ht9]; exact hP, ht, hk⟩, hS.F ht9⟩) hS.2.2 dL_blame_14
    exact fun q hq => by cases hq
  · intro alt halt H locs w1 v hP hD hS ht hk ha
    obtain ⟨y, rfl⟩ := vw_int (by decide +kernel) halt ha
    refine lv_i2l (v := y.toInt64) hx hb dL_blame_7 rfl ?_
    refine va_last hx hb hK hP hD hS 0 2 rfl rfl (by unfold vp_in; decide) dL_blame_8 (fun H locs hP hD hS => ?_)
    rw [my_upd0] at hP
    have hP : va_P D vwCl ((oa, .inl (cy 2, 1, .inr (.inl (vp_updL f 0 y.toInt64)))) :: w1) H := hP
    refine lv_goto (tgt := 15) hx hb dL_blame_9 (by decide) ?_
    refine lv_iconst (v := 0) hx hb dL_blame_15 (by decide) ?_
    exact W.iret hx hb hr (fun t ht9 _ => ⟨⟨_, w1, _, rfl, by rw [ht9]; exact hP, ht, hk⟩, hS.F ht9⟩) hS.2.2 dL_blame_16

theorem dL_causeOf_0 : decode cL_causeOf 0 = .ok (.aload_n 2, 1) := by decide +kernel
theorem dL_causeOf_1 : decode cL_causeOf 1 = .ok (.iconst 0, 1) := by decide +kernel
theorem dL_causeOf_2 : decode cL_causeOf 2 = .ok (.aload_n 0, 1) := by decide +kernel
theorem dL_causeOf_3 : decode cL_causeOf 3 = .ok (.iload_n 1, 1) := by decide +kernel
theorem dL_causeOf_4 : decode cL_causeOf 4 = .ok (.invokevirtual 150, 3) := by decide +kernel
theorem dL_causeOf_7 : decode cL_causeOf 7 = .ok (.i2l, 1) := by decide +kernel
theorem dL_causeOf_8 : decode cL_causeOf 8 = .ok (.lastore, 1) := by decide +kernel
theorem dL_causeOf_9 : decode cL_causeOf 9 = .ok (.goto 9, 3) := by decide +kernel
theorem dL_causeOf_12 : decode cL_causeOf 12 = .ok (.astore_n 3, 1) := by decide +kernel
theorem dL_causeOf_13 : decode cL_causeOf 13 = .ok (.iconst 1, 1) := by decide +kernel
theorem dL_causeOf_14 : decode cL_causeOf 14 = .ok (.ireturn, 1) := by decide +kernel
theorem dL_causeOf_15 : decode cL_causeOf 15 = .ok (.astore_n 3, 1) := by decide +kernel
theorem dL_causeOf_16 : decode cL_causeOf 16 = .ok (.iconst 2, 1) := by decide +kernel
theorem dL_causeOf_17 : decode cL_causeOf 17 = .ok (.ireturn, 1) := by decide +kernel
theorem dL_causeOf_18 : decode cL_causeOf 18 = .ok (.iconst 0, 1) := by decide +kernel
theorem dL_causeOf_19 : decode cL_causeOf 19 = .ok (.ireturn, 1) := by decide +kernel
set_option maxRecDepth 100000 in
set_option maxHeartbeats 4000000 in
theorem w_causeOf (l : Launch) (D : va_G) (cy : Nat → ClassId) (hst : l.stackTraces = false) {ad τ : List Nat} {w : va_W} (sz oa : Nat) (f : Nat → Int64) (hs : vi_s1 vSG τ) (ht : vi_tw vK cy (fun _ => True) ad τ w) {x0 q0 : Nat} (hr0 : τ[q0]? = some 0) (hr1 : ad[q0]? = some x0) (x1 : Int32) : vw_M l D cy vK ad τ oa f w sz q_Hubcascade_causeOf_0.2.2.2.1 yL_causeOf (Cond.codeWith yL_causeOf cL_causeOf 4 (some .int) [(0, 9, 12, 56), (0, 9, 15, 23)] :: lWall) 8 2 133 [.ref x0, .int x1, .ref oa] := by
  refine wr_ofW (cc := cL_causeOf) (maxL := 4) (ret := (some .int)) (hh := [(0, 9, 12, 56), (0, 9, 15, 23)]) (lv := [(0, .ref x0), (1, .int x1), (2, .ref oa)]) (by decide) rfl (Nat.le_of_ble_eq_true rfl) rfl ?_
  intro p e s m below meth c ls hx hb hr hml hown hlocks htab hts hv hl
  have hown : s.vm.findClass RL = some m.cls := hown
  obtain ⟨⟨⟨hsz, hP, hD0⟩, hK, hN⟩, hT⟩ := hv
  subst hsz
  have hD := hD0.self (sz := s.heap.size)
  generalize hAe : va_A ((oa, .inl (cy 2, 1, .inr (.inl f))) :: w) s.heap.size = A at hD hT ⊢
  have hA : ∀ q : Nat, s.heap.size ≤ q → A q := fun q h => by rw [← hAe]; exact Or.inr h
  have hS : va_S A s.heap s.heap [] := va_S.rf
  have hP : va_P D vwCl ([(oa, .inl (cy 2, 1, .inr (.inl f)))] ++ w) s.heap := hP
  have hD : va_D A ([(oa, .inl (cy 2, 1, .inr (.inl f)))] ++ w) := hD
  have S : CallFix p m c cL_causeOf 4 s _ (_ :: lWall) RL := ⟨hx, hb, hml, hown, hts⟩
  refine lv_aload_n hx hb dL_causeOf_0 rfl (lv_at hl 2 rfl) ?_
  refine lv_iconst (v := 0) hx hb dL_causeOf_1 (by decide) ?_
  refine lv_aload_n hx hb dL_causeOf_2 rfl (lv_at hl 0 rfl) ?_
  refine lv_iload_n hx hb dL_causeOf_3 rfl (lv_at hl 1 rfl) ?_
  refine vi_catchV (wr := [(oa, .inl (cy 2, 1, .inr (.inl f)))]) (av := [.ref x0, .int x1]) (rest := [.int 0, .ref oa]) S (m_Hubcascade_causeOf_0 l D cy hst) (cwV 1 S.2.2.2.2 (lgV (lm_ _ (List.mem_of_getElem? (i := 160) rfl)) (lm_ _ (List.mem_of_getElem? (i := 161) rfl)) (lm_ _ (List.mem_of_getElem? (i := 162) rfl)) (lv_ _ (vm_4 _ (List.mem_of_getElem? (i := 20) rfl))) (lv_ _ (vm_10 _ (List.mem_of_getElem? (i := 37) rfl)))) rfl rfl rfl ⟨rfl, by decide, by decide, by decide +kernel⟩ ⟨Nat.le_of_ble_eq_true rfl, Nat.le_of_ble_eq_true rfl⟩) rfl ⟨_, _, _, _, _, _, rfl, rfl, rfl, rfl⟩ hK hN hs hT hP hD hS hA ht rfl ?_ (fun f hf => by cases hf) hl.1 rfl (Nat.le_of_ble_eq_true rfl) dL_causeOf_4 ⟨Nat.le_of_ble_eq_true rfl, Nat.le_of_ble_eq_true rfl⟩ ?_ ?_
  · exact vi_tys_ok (ad := ad) (τ := τ) (as := q_Hubcascade_causeOf_0.1) ⟨Or.inr ⟨q0, x0, hr0, hr1, rfl⟩, vi_okI x1, True.intro⟩
  · refine List.forall_mem_cons.mpr ⟨⟨[⟨0, 9, 12, 56⟩], ⟨0, 9, 15, 23⟩, [], htab, (by intro z hz; simp only [List.mem_cons, List.not_mem_nil, or_false] at hz; subst hz; exact Or.inr ⟨by decide, "java/util/NoSuchElementException", hts _ (List.mem_cons_of_mem _ (lm_ _ (List.mem_of_getElem? (i := 47) rfl))), hT.2.2.2.2 "java/lang/UnsupportedOperationException" (by decide) "java/util/NoSuchElementException" (by decide) (by decide)⟩), by decide, by decide, hts _ (List.mem_cons_of_mem _ (lm_ _ (List.mem_of_getElem? (i := 171) rfl))), va_Nw.use rfl (hT.2.2.1 "java/lang/UnsupportedOperationException" (by decide)), fun qx H locs w1 hP hD hS ht hk => ?_⟩, ?_⟩
    · refine lv_astore_n (lv' := [(3, .ref qx), (0, .ref x0), (1, .int x1), (2, .ref oa)]) hx hb dL_causeOf_15 rfl hl (by decide) rfl (fun ls hl => ?_)
      refine lv_iconst (v := 2) hx hb dL_causeOf_16 (by decide) ?_
      exact W.iret hx hb hr (fun t ht9 _ => ⟨⟨_, w1, _, rfl, by rw [ht9]; exact hP, ht, hk⟩, hS.F ht9⟩) hS.2.2 dL_causeOf_17
    refine List.forall_mem_cons.mpr ⟨⟨[], ⟨0, 9, 12, 56⟩, [⟨0, 9, 15, 23⟩], htab, (fun _ h => absurd h List.not_mem_nil), by decide, by decide, hts _ (List.mem_cons_of_mem _ (lm_ _ (List.mem_of_getElem? (i := 47) rfl))), va_Nw.use rfl (hT.2.2.1 "java/util/NoSuchElementException" (by decide)), fun qx H locs w1 hP hD hS ht hk => ?_⟩, ?_⟩
    · refine lv_astore_n (lv' := [(3, .ref qx), (0, .ref x0), (1, .int x1), (2, .ref oa)]) hx hb dL_causeOf_12 rfl hl (by decide) rfl (fun ls hl => ?_)
      refine lv_iconst (v := 1) hx hb dL_causeOf_13 (by decide) ?_
      exact W.iret hx hb hr (fun t ht9 _ => ⟨⟨_, w1, _, rfl, by rw [ht9]; exact hP, ht, hk⟩, hS.F ht9⟩) hS.2.2 dL_causeOf_14
    exact fun q hq => by cases hq
  · intro alt halt H locs w1 v hP hD hS ht hk ha
    obtain ⟨y, rfl⟩ := vw_int (by decide +kernel) halt ha
    refine lv_i2l (v := y.toInt64) hx hb dL_causeOf_7 rfl ?_
    refine va_last hx hb hK hP hD hS 0 2 rfl rfl (by unfold vp_in; decide) dL_causeOf_8 (fun H locs hP hD hS => ?_)
    rw [my_upd0] at hP
    have hP : va_P D vwCl ((oa, .inl (cy 2, 1, .inr (.inl (vp_updL f 0 y.toInt64)))) :: w1) H := hP
    refine lv_goto (tgt := 18) hx hb dL_causeOf_9 (by decide) ?_
    refine lv_iconst (v := 0) hx hb dL_causeOf_18 (by decide) ?_
    exact W.iret hx hb hr (fun t ht9 _ => ⟨⟨_, w1, _, rfl, by rw [ht9]; exact hP, ht, hk⟩, hS.F ht9⟩) hS.2.2 dL_causeOf_19
end VWRB
